set_option maxRecDepth 100000 in
theorem b8_chain {l : Launch} {h : MH} {Q : Option Value → MH → Prop} {tn : Int} {tf : Nat → Int} {xn : Nat → Int} {xf : Nat → Nat → Int} {en : Int} {tc : Nat} {tr : Int64} {V Bf Lf : Nat → Nat → Int} {q lm lo : Nat → Int} {i k0 : Int} (H : IX2 h tn tf xn xf en tc tr V Bf Lf q lm lo) (ri : rg i) (rk0 : rg k0) (k : ∀ r : Int, (rg r) → Q (some (.int (iZ r))) h) : Go l mX8_chain 0 [some (.ref 0), some (.int (iZ i)), some (.int (iZ k0)), none] [] h Q := by
  obtain ⟨HC, HS, HLm, HY, HE, hlen, hmz⟩ := id H
  obtain ⟨F0, F3, F4, htc, HT, HL⟩ := id HC
  refine g_aload_n 1 dX8_chain_0 rfl rfl ?_
  refine g_iload_n 2 dX8_chain_1 rfl rfl ?_
  refine g_callV (z := mX8_toolAt) (As := [.int (iZ i)]) 5 dX8_chain_2 mwX8_toolAt ⟨by decide, by decide⟩ rfl wlX8_90 wiX8_toolAt wsX8_toolAt F0 rfl rfl rfl (nle rfl) (nle rfl) rfl ?_
  refine Go.to [some (.ref 0), some (.int (iZ i))] [] rfl rfl ?_
  refine g_iload_n 1 dX8_toolAt_0 rfl rfl ?_
  refine g_ifZ_lt 18 4 dX8_toolAt_1 rfl rfl ri (fun c1 => ?_) (fun c1 => ?_)
  · refine g_null 19 dX8_toolAt_18 rfl ?_
    refine g_goto 28 dX8_toolAt_19 rfl ?_
    refine g_aret rfl (Or.inl rfl) dX8_toolAt_28 ?_
    refine rN ?_
    refine g_ifnonnullN 8 dX8_chain_5 rfl ?_
    refine g_iconst (v := iZ (-1)) 9 dX8_chain_8 rfl rfl ?_
    refine g_iret rfl dX8_chain_9 ?_
    exact k (-1) (by decide)
  · refine g_iload_n 5 dX8_toolAt_4 rfl rfl ?_
    refine g_aload_n 6 dX8_toolAt_5 rfl rfl ?_
    refine g_get 9 dX8_toolAt_6 faX8_26_X8 F0 rfl rfl ?_
    refine g_icZ_ge 18 12 dX8_toolAt_9 rfl rfl ri (by omega) (fun c2 => ?_) (fun c2 => ?_)
    · refine g_null 19 dX8_toolAt_18 rfl ?_
      refine g_goto 28 dX8_toolAt_19 rfl ?_
      refine g_aret rfl (Or.inl rfl) dX8_toolAt_28 ?_
      refine rN ?_
      refine g_ifnonnullN 8 dX8_chain_5 rfl ?_
      refine g_iconst (v := iZ (-1)) 9 dX8_chain_8 rfl rfl ?_
      refine g_iret rfl dX8_chain_9 ?_
      exact k (-1) (by decide)
    · refine g_iload_n 13 dX8_toolAt_12 rfl rfl ?_
      refine g_bipush (v := iZ (12)) 15 dX8_toolAt_13 (by decide +kernel) rfl ?_
      refine g_icZ_lt 22 18 dX8_toolAt_15 rfl rfl ri (by decide) (fun c3 => ?_) (fun c3 => ?_)
      · refine g_aload_n 23 dX8_toolAt_22 rfl rfl ?_
        refine g_get 26 dX8_toolAt_23 faX8_22_X8 F0 rfl rfl ?_
        refine g_iload_n 27 dX8_toolAt_26 rfl rfl ?_
        refine g_aaldZ 28 dX8_toolAt_27 F4 (by decide) (by omega) (by omega) (by decide) (tls_at (by omega) (by omega)) rfl ?_
        refine g_aret rfl (Or.inr ⟨_, rfl⟩) dX8_toolAt_28 ?_
        refine rR ?_
        refine g_ifnonnull 10 dX8_chain_5 rfl ?_
        refine g_aload_n 11 dX8_chain_10 rfl rfl ?_
        refine g_iload_n 12 dX8_chain_11 rfl rfl ?_
        refine g_callV (z := mX8_chainLength) (As := [.int (iZ i)]) 15 dX8_chain_12 mwX8_chainLength ⟨by decide, by decide⟩ rfl wlX8_170 wiX8_chainLength wsX8_chainLength F0 rfl rfl rfl (nle rfl) (nle rfl) rfl ?_
        refine y_chl HC ri  (fun z4 rz4 => ?_)
        refine rI ?_
        refine g_istore_n (L1 := [some (.ref 0), some (.int (iZ i)), some (.int (iZ k0)), some (.int (iZ z4))]) 16 dX8_chain_15 (by decide) rfl rfl rfl ?_
        refine g_iload_n 17 dX8_chain_16 rfl rfl ?_
        refine g_iconst (v := iZ (-1)) 18 dX8_chain_17 rfl rfl ?_
        refine g_icZ_ne 23 21 dX8_chain_18 rfl rfl rk0 (by decide) (fun c5 => ?_) (fun c5 => ?_)
        · refine g_iload_n 24 dX8_chain_23 rfl rfl ?_
          refine g_ifZ_lt 32 27 dX8_chain_24 rfl rfl rk0 (fun c6 => ?_) (fun c6 => ?_)
          · refine g_iconst (v := iZ (-1)) 33 dX8_chain_32 rfl rfl ?_
            refine g_goto 42 dX8_chain_33 rfl ?_
            refine g_iret rfl dX8_chain_42 ?_
            exact k (-1) (by decide)
          · refine g_iload_n 28 dX8_chain_27 rfl rfl ?_
            refine g_iload_n 29 dX8_chain_28 rfl rfl ?_
            refine g_icZ_lt 36 32 dX8_chain_29 rfl rfl rk0 (by omega) (fun c7 => ?_) (fun c7 => ?_)
            · refine g_aload_n 37 dX8_chain_36 rfl rfl ?_
              refine g_iload_n 38 dX8_chain_37 rfl rfl ?_
              refine g_iload_n 39 dX8_chain_38 rfl rfl ?_
              refine g_callV (z := mX8_chainAt) (As := [.int (iZ i), .int (iZ k0)]) 42 dX8_chain_39 mwX8_chainAt ⟨by decide, by decide⟩ rfl wlX8_173 wiX8_chainAt wsX8_chainAt F0 rfl rfl rfl (nle rfl) (nle rfl) rfl ?_
              refine y_cha HC ri rk0  (fun z8 rz8 => ?_)
              refine rI ?_
              refine g_iret rfl dX8_chain_42 ?_
              exact k (z8) rz8
            · refine g_iconst (v := iZ (-1)) 33 dX8_chain_32 rfl rfl ?_
              refine g_goto 42 dX8_chain_33 rfl ?_
              refine g_iret rfl dX8_chain_42 ?_
              exact k (-1) (by decide)
        · refine g_iload_n 22 dX8_chain_21 rfl rfl ?_
          refine g_iret rfl dX8_chain_22 ?_
          exact k (z4) (by omega)
      · refine g_null 19 dX8_toolAt_18 rfl ?_
        refine g_goto 28 dX8_toolAt_19 rfl ?_
        refine g_aret rfl (Or.inl rfl) dX8_toolAt_28 ?_
        refine rN ?_
        refine g_ifnonnullN 8 dX8_chain_5 rfl ?_
        refine g_iconst (v := iZ (-1)) 9 dX8_chain_8 rfl rfl ?_
        refine g_iret rfl dX8_chain_9 ?_
        exact k (-1) (by decide)
set_option maxRecDepth 100000 in
theorem b8_rebuilt {l : Launch} {h : MH} {Q : Option Value → MH → Prop} {tn : Int} {tf : Nat → Int} {xn : Nat → Int} {xf : Nat → Nat → Int} {en : Int} {tc : Nat} {tr : Int64} {V Bf Lf : Nat → Nat → Int} {q lm lo : Nat → Int} {t : Int} (H : IX2 h tn tf xn xf en tc tr V Bf Lf q lm lo) (rt : rg t) (k : ∀ (h1 : MH) (r : Int), (rg r) → IX2 h1 tn tf xn xf en tc tr V Bf Lf q lm lo → Mo h h1 → Q (some (.int (iZ r))) h1) : Go l mX8_rebuilt 0 [some (.ref 0), some (.int (iZ t)), none] [] h Q := by
  obtain ⟨HC, HS, HLm, HY, HE, hlen, hmz⟩ := id H
  obtain ⟨F0, F3, F4, htc, HT, HL⟩ := id HC
  refine g_aload_n 1 dX8_rebuilt_0 rfl rfl ?_
  refine g_iload_n 2 dX8_rebuilt_1 rfl rfl ?_
  refine g_callV (z := mX8_toolAt) (As := [.int (iZ t)]) 5 dX8_rebuilt_2 mwX8_toolAt ⟨by decide, by decide⟩ rfl wlX8_90 wiX8_toolAt wsX8_toolAt F0 rfl rfl rfl (nle rfl) (nle rfl) rfl ?_
  refine Go.to [some (.ref 0), some (.int (iZ t))] [] rfl rfl ?_
  refine g_iload_n 1 dX8_toolAt_0 rfl rfl ?_
  refine g_ifZ_lt 18 4 dX8_toolAt_1 rfl rfl rt (fun c1 => ?_) (fun c1 => ?_)
  · refine g_null 19 dX8_toolAt_18 rfl ?_
    refine g_goto 28 dX8_toolAt_19 rfl ?_
    refine g_aret rfl (Or.inl rfl) dX8_toolAt_28 ?_
    refine rN ?_
    refine g_astore_nN (L1 := [some (.ref 0), some (.int (iZ t)), some (.null)]) 6 dX8_rebuilt_5 (by decide) rfl rfl rfl ?_
    refine g_aload_nN 7 dX8_rebuilt_6 rfl rfl ?_
    refine g_ifnonnullN 10 dX8_rebuilt_7 rfl ?_
    refine g_iconst (v := iZ (-1)) 11 dX8_rebuilt_10 rfl rfl ?_
    refine g_goto 19 dX8_rebuilt_11 rfl ?_
    refine g_iret rfl dX8_rebuilt_19 ?_
    exact k _ (-1) (by decide) H (fun _ _ _ => rfl)
  · refine g_iload_n 5 dX8_toolAt_4 rfl rfl ?_
    refine g_aload_n 6 dX8_toolAt_5 rfl rfl ?_
    refine g_get 9 dX8_toolAt_6 faX8_26_X8 F0 rfl rfl ?_
    refine g_icZ_ge 18 12 dX8_toolAt_9 rfl rfl rt (by omega) (fun c2 => ?_) (fun c2 => ?_)
    · refine g_null 19 dX8_toolAt_18 rfl ?_
      refine g_goto 28 dX8_toolAt_19 rfl ?_
      refine g_aret rfl (Or.inl rfl) dX8_toolAt_28 ?_
      refine rN ?_
      refine g_astore_nN (L1 := [some (.ref 0), some (.int (iZ t)), some (.null)]) 6 dX8_rebuilt_5 (by decide) rfl rfl rfl ?_
      refine g_aload_nN 7 dX8_rebuilt_6 rfl rfl ?_
      refine g_ifnonnullN 10 dX8_rebuilt_7 rfl ?_
      refine g_iconst (v := iZ (-1)) 11 dX8_rebuilt_10 rfl rfl ?_
      refine g_goto 19 dX8_rebuilt_11 rfl ?_
      refine g_iret rfl dX8_rebuilt_19 ?_
      exact k _ (-1) (by decide) H (fun _ _ _ => rfl)
    · refine g_iload_n 13 dX8_toolAt_12 rfl rfl ?_
      refine g_bipush (v := iZ (12)) 15 dX8_toolAt_13 (by decide +kernel) rfl ?_
      refine g_icZ_lt 22 18 dX8_toolAt_15 rfl rfl rt (by decide) (fun c3 => ?_) (fun c3 => ?_)
      · refine g_aload_n 23 dX8_toolAt_22 rfl rfl ?_
        refine g_get 26 dX8_toolAt_23 faX8_22_X8 F0 rfl rfl ?_
        refine g_iload_n 27 dX8_toolAt_26 rfl rfl ?_
        refine g_aaldZ 28 dX8_toolAt_27 F4 (by decide) (by omega) (by omega) (by decide) (tls_at (by omega) (by omega)) rfl ?_
        refine g_aret rfl (Or.inr ⟨_, rfl⟩) dX8_toolAt_28 ?_
        refine rR ?_
        refine g_astore_n (L1 := [some (.ref 0), some (.int (iZ t)), some (.ref (71 + 4 * t.toNat))]) 6 dX8_rebuilt_5 (by decide) rfl rfl rfl ?_
        refine g_aload_n 7 dX8_rebuilt_6 rfl rfl ?_
        refine g_ifnonnull 14 dX8_rebuilt_7 rfl ?_
        refine g_aload_n 15 dX8_rebuilt_14 rfl rfl ?_
        refine g_aload_n 16 dX8_rebuilt_15 rfl rfl ?_
        refine g_callV (z := mX8_madeAgain) (As := [.ref (71 + 4 * t.toNat)]) 19 dX8_rebuilt_16 mwX8_madeAgain ⟨by decide, by decide⟩ rfl wlX8_154 wiX8_madeAgain wsX8_madeAgain F0 rfl rfl rfl (nle rfl) (nle rfl) rfl ?_
        refine y_again HC HS  (by omega) (fun h5 z4 rz4 H6 s7 => ?_)
        refine rI ?_
        refine g_iret rfl dX8_rebuilt_19 ?_
        have zz := H.scr s7 H6
        exact k _ (z4) rz4 zz.1 zz.2
      · refine g_null 19 dX8_toolAt_18 rfl ?_
        refine g_goto 28 dX8_toolAt_19 rfl ?_
        refine g_aret rfl (Or.inl rfl) dX8_toolAt_28 ?_
        refine rN ?_
        refine g_astore_nN (L1 := [some (.ref 0), some (.int (iZ t)), some (.null)]) 6 dX8_rebuilt_5 (by decide) rfl rfl rfl ?_
        refine g_aload_nN 7 dX8_rebuilt_6 rfl rfl ?_
        refine g_ifnonnullN 10 dX8_rebuilt_7 rfl ?_
        refine g_iconst (v := iZ (-1)) 11 dX8_rebuilt_10 rfl rfl ?_
        refine g_goto 19 dX8_rebuilt_11 rfl ?_
        refine g_iret rfl dX8_rebuilt_19 ?_
        exact k _ (-1) (by decide) H (fun _ _ _ => rfl)
set_option maxRecDepth 100000 in
theorem b8_stale {l : Launch} {h : MH} {Q : Option Value → MH → Prop} {tn : Int} {tf : Nat → Int} {xn : Nat → Int} {xf : Nat → Nat → Int} {en : Int} {tc : Nat} {tr : Int64} {V Bf Lf : Nat → Nat → Int} {q lm lo : Nat → Int}  (H : IX2 h tn tf xn xf en tc tr V Bf Lf q lm lo)  (k : ∀ (h1 : MH) (r : Int), (rg r) → IX2 h1 tn tf xn xf en tc tr V Bf Lf q lm lo → Mo h h1 → Q (some (.int (iZ r))) h1) : Go l mX8_stale 0 [some (.ref 0)] [] h Q := by
  obtain ⟨HC, HS, HLm, HY, HE, hlen, hmz⟩ := id H
  obtain ⟨F0, F3, F4, htc, HT, HL⟩ := id HC
  refine g_aload_n 1 dX8_stale_0 rfl rfl ?_
  refine g_callV (z := mX8_staleBits) (As := []) 4 dX8_stale_1 mwX8_staleBits ⟨by decide, by decide⟩ rfl wlX8_158 wiX8_staleBits wsX8_staleBits F0 rfl rfl rfl (nle rfl) (nle rfl) rfl ?_
  refine y_stale HC HS   (fun h2 z1 rz1 H3 s4 => ?_)
  refine rI ?_
  refine g_iret rfl dX8_stale_4 ?_
  have zz := H.scr s4 H3
  exact k _ (z1) rz1 zz.1 zz.2
set_option maxRecDepth 100000 in
theorem b8_settles {l : Launch} {h : MH} {Q : Option Value → MH → Prop} {tn : Int} {tf : Nat → Int} {xn : Nat → Int} {xf : Nat → Nat → Int} {en : Int} {tc : Nat} {tr : Int64} {V Bf Lf : Nat → Nat → Int} {q lm lo : Nat → Int} {t i : Int} (H : IX2 h tn tf xn xf en tc tr V Bf Lf q lm lo) (rt : rg t) (ri : rg i) (k : ∀ (h1 : MH) (r : Int), (rg r) → IX2 h1 tn tf xn xf en tc tr V Bf Lf q lm lo → Mo h h1 → Q (some (.int (iZ r))) h1) : Go l mX8_settles 0 [some (.ref 0), some (.int (iZ t)), some (.int (iZ i)), none, none, none, none, none] [] h Q := by
  obtain ⟨HC, HS, HLm, HY, HE, hlen, hmz⟩ := id H
  obtain ⟨F0, F3, F4, htc, HT, HL⟩ := id HC
  refine g_aload_n 1 dX8_settles_0 rfl rfl ?_
  refine g_iload_n 2 dX8_settles_1 rfl rfl ?_
  refine g_callV (z := mX8_toolAt) (As := [.int (iZ t)]) 5 dX8_settles_2 mwX8_toolAt ⟨by decide, by decide⟩ rfl wlX8_90 wiX8_toolAt wsX8_toolAt F0 rfl rfl rfl (nle rfl) (nle rfl) rfl ?_
  refine Go.to [some (.ref 0), some (.int (iZ t))] [] rfl rfl ?_
  refine g_iload_n 1 dX8_toolAt_0 rfl rfl ?_
  refine g_ifZ_lt 18 4 dX8_toolAt_1 rfl rfl rt (fun c1 => ?_) (fun c1 => ?_)
  · refine g_null 19 dX8_toolAt_18 rfl ?_
    refine g_goto 28 dX8_toolAt_19 rfl ?_
    refine g_aret rfl (Or.inl rfl) dX8_toolAt_28 ?_
    refine rN ?_
    refine g_astore_nN (L1 := [some (.ref 0), some (.int (iZ t)), some (.int (iZ i)), some (.null), none, none, none, none]) 6 dX8_settles_5 (by decide) rfl rfl rfl ?_
    refine g_aload_n 7 dX8_settles_6 rfl rfl ?_
    refine g_iload_n 8 dX8_settles_7 rfl rfl ?_
    refine g_callV (z := mX8_textAt) (As := [.int (iZ i)]) 11 dX8_settles_8 mwX8_textAt ⟨by decide, by decide⟩ rfl wlX8_74 wiX8_textAt wsX8_textAt F0 rfl rfl rfl (nle rfl) (nle rfl) rfl ?_
    refine Go.to [some (.ref 0), some (.int (iZ i))] [] rfl rfl ?_
    refine g_iload_n 1 dX8_textAt_0 rfl rfl ?_
    refine g_ifZ_lt 10 4 dX8_textAt_1 rfl rfl ri (fun c2 => ?_) (fun c2 => ?_)
    · refine g_null 11 dX8_textAt_10 rfl ?_
      refine g_goto 20 dX8_textAt_11 rfl ?_
      refine g_aret rfl (Or.inl rfl) dX8_textAt_20 ?_
      refine rN ?_
      refine g_astoreN (L1 := [some (.ref 0), some (.int (iZ t)), some (.int (iZ i)), some (.null), some (.null), none, none, none]) 13 dX8_settles_11 (by decide) rfl rfl rfl ?_
      refine g_aload_nN 14 dX8_settles_13 rfl rfl ?_
      refine g_ifnullN 22 dX8_settles_14 rfl ?_
      refine g_iconst (v := iZ (-1)) 23 dX8_settles_22 rfl rfl ?_
      refine g_iret rfl dX8_settles_23 ?_
      exact k _ (-1) (by decide) H (fun _ _ _ => rfl)
    · refine g_iload_n 5 dX8_textAt_4 rfl rfl ?_
      refine g_bipush (v := iZ (8)) 7 dX8_textAt_5 (by decide +kernel) rfl ?_
      refine g_icZ_lt 14 10 dX8_textAt_7 rfl rfl ri (by decide) (fun c3 => ?_) (fun c3 => ?_)
      · refine g_aload_n 15 dX8_textAt_14 rfl rfl ?_
        refine g_get 18 dX8_textAt_15 faX8_16_X8 F0 rfl rfl ?_
        refine g_iload_n 19 dX8_textAt_18 rfl rfl ?_
        refine g_aaldZ 20 dX8_textAt_19 F3 (by decide) (by omega) (by omega) (by decide) (txs_at (by omega) (by omega)) rfl ?_
        refine g_aret rfl (Or.inr ⟨_, rfl⟩) dX8_textAt_20 ?_
        refine rR ?_
        refine g_astore (L1 := [some (.ref 0), some (.int (iZ t)), some (.int (iZ i)), some (.null), some (.ref (34 + 2 * i.toNat)), none, none, none]) 13 dX8_settles_11 (by decide) rfl rfl rfl ?_
        refine g_aload_nN 14 dX8_settles_13 rfl rfl ?_
        refine g_ifnullN 22 dX8_settles_14 rfl ?_
        refine g_iconst (v := iZ (-1)) 23 dX8_settles_22 rfl rfl ?_
        refine g_iret rfl dX8_settles_23 ?_
        exact k _ (-1) (by decide) H (fun _ _ _ => rfl)
      · refine g_null 11 dX8_textAt_10 rfl ?_
        refine g_goto 20 dX8_textAt_11 rfl ?_
        refine g_aret rfl (Or.inl rfl) dX8_textAt_20 ?_
        refine rN ?_
        refine g_astoreN (L1 := [some (.ref 0), some (.int (iZ t)), some (.int (iZ i)), some (.null), some (.null), none, none, none]) 13 dX8_settles_11 (by decide) rfl rfl rfl ?_
        refine g_aload_nN 14 dX8_settles_13 rfl rfl ?_
        refine g_ifnullN 22 dX8_settles_14 rfl ?_
        refine g_iconst (v := iZ (-1)) 23 dX8_settles_22 rfl rfl ?_
        refine g_iret rfl dX8_settles_23 ?_
        exact k _ (-1) (by decide) H (fun _ _ _ => rfl)
  · refine g_iload_n 5 dX8_toolAt_4 rfl rfl ?_
    refine g_aload_n 6 dX8_toolAt_5 rfl rfl ?_
    refine g_get 9 dX8_toolAt_6 faX8_26_X8 F0 rfl rfl ?_
    refine g_icZ_ge 18 12 dX8_toolAt_9 rfl rfl rt (by omega) (fun c4 => ?_) (fun c4 => ?_)
    · refine g_null 19 dX8_toolAt_18 rfl ?_
      refine g_goto 28 dX8_toolAt_19 rfl ?_
      refine g_aret rfl (Or.inl rfl) dX8_toolAt_28 ?_
      refine rN ?_
      refine g_astore_nN (L1 := [some (.ref 0), some (.int (iZ t)), some (.int (iZ i)), some (.null), none, none, none, none]) 6 dX8_settles_5 (by decide) rfl rfl rfl ?_
      refine g_aload_n 7 dX8_settles_6 rfl rfl ?_
      refine g_iload_n 8 dX8_settles_7 rfl rfl ?_
      refine g_callV (z := mX8_textAt) (As := [.int (iZ i)]) 11 dX8_settles_8 mwX8_textAt ⟨by decide, by decide⟩ rfl wlX8_74 wiX8_textAt wsX8_textAt F0 rfl rfl rfl (nle rfl) (nle rfl) rfl ?_
      refine Go.to [some (.ref 0), some (.int (iZ i))] [] rfl rfl ?_
      refine g_iload_n 1 dX8_textAt_0 rfl rfl ?_
      refine g_ifZ_lt 10 4 dX8_textAt_1 rfl rfl ri (fun c5 => ?_) (fun c5 => ?_)
      · refine g_null 11 dX8_textAt_10 rfl ?_
        refine g_goto 20 dX8_textAt_11 rfl ?_
        refine g_aret rfl (Or.inl rfl) dX8_textAt_20 ?_
        refine rN ?_
        refine g_astoreN (L1 := [some (.ref 0), some (.int (iZ t)), some (.int (iZ i)), some (.null), some (.null), none, none, none]) 13 dX8_settles_11 (by decide) rfl rfl rfl ?_
        refine g_aload_nN 14 dX8_settles_13 rfl rfl ?_
        refine g_ifnullN 22 dX8_settles_14 rfl ?_
        refine g_iconst (v := iZ (-1)) 23 dX8_settles_22 rfl rfl ?_
        refine g_iret rfl dX8_settles_23 ?_
        exact k _ (-1) (by decide) H (fun _ _ _ => rfl)
      · refine g_iload_n 5 dX8_textAt_4 rfl rfl ?_
        refine g_bipush (v := iZ (8)) 7 dX8_textAt_5 (by decide +kernel) rfl ?_
        refine g_icZ_lt 14 10 dX8_textAt_7 rfl rfl ri (by decide) (fun c6 => ?_) (fun c6 => ?_)
        · refine g_aload_n 15 dX8_textAt_14 rfl rfl ?_
          refine g_get 18 dX8_textAt_15 faX8_16_X8 F0 rfl rfl ?_
          refine g_iload_n 19 dX8_textAt_18 rfl rfl ?_
          refine g_aaldZ 20 dX8_textAt_19 F3 (by decide) (by omega) (by omega) (by decide) (txs_at (by omega) (by omega)) rfl ?_
          refine g_aret rfl (Or.inr ⟨_, rfl⟩) dX8_textAt_20 ?_
          refine rR ?_
          refine g_astore (L1 := [some (.ref 0), some (.int (iZ t)), some (.int (iZ i)), some (.null), some (.ref (34 + 2 * i.toNat)), none, none, none]) 13 dX8_settles_11 (by decide) rfl rfl rfl ?_
          refine g_aload_nN 14 dX8_settles_13 rfl rfl ?_
          refine g_ifnullN 22 dX8_settles_14 rfl ?_
          refine g_iconst (v := iZ (-1)) 23 dX8_settles_22 rfl rfl ?_
          refine g_iret rfl dX8_settles_23 ?_
          exact k _ (-1) (by decide) H (fun _ _ _ => rfl)
        · refine g_null 11 dX8_textAt_10 rfl ?_
          refine g_goto 20 dX8_textAt_11 rfl ?_
          refine g_aret rfl (Or.inl rfl) dX8_textAt_20 ?_
          refine rN ?_
          refine g_astoreN (L1 := [some (.ref 0), some (.int (iZ t)), some (.int (iZ i)), some (.null), some (.null), none, none, none]) 13 dX8_settles_11 (by decide) rfl rfl rfl ?_
          refine g_aload_nN 14 dX8_settles_13 rfl rfl ?_
          refine g_ifnullN 22 dX8_settles_14 rfl ?_
          refine g_iconst (v := iZ (-1)) 23 dX8_settles_22 rfl rfl ?_
          refine g_iret rfl dX8_settles_23 ?_
          exact k _ (-1) (by decide) H (fun _ _ _ => rfl)
    · refine g_iload_n 13 dX8_toolAt_12 rfl rfl ?_
      refine g_bipush (v := iZ (12)) 15 dX8_toolAt_13 (by decide +kernel) rfl ?_
      refine g_icZ_lt 22 18 dX8_toolAt_15 rfl rfl rt (by decide) (fun c7 => ?_) (fun c7 => ?_)
      · refine g_aload_n 23 dX8_toolAt_22 rfl rfl ?_
        refine g_get 26 dX8_toolAt_23 faX8_22_X8 F0 rfl rfl ?_
        refine g_iload_n 27 dX8_toolAt_26 rfl rfl ?_
        refine g_aaldZ 28 dX8_toolAt_27 F4 (by decide) (by omega) (by omega) (by decide) (tls_at (by omega) (by omega)) rfl ?_
        refine g_aret rfl (Or.inr ⟨_, rfl⟩) dX8_toolAt_28 ?_
        refine rR ?_
        refine g_astore_n (L1 := [some (.ref 0), some (.int (iZ t)), some (.int (iZ i)), some (.ref (71 + 4 * t.toNat)), none, none, none, none]) 6 dX8_settles_5 (by decide) rfl rfl rfl ?_
        refine g_aload_n 7 dX8_settles_6 rfl rfl ?_
        refine g_iload_n 8 dX8_settles_7 rfl rfl ?_
        refine g_callV (z := mX8_textAt) (As := [.int (iZ i)]) 11 dX8_settles_8 mwX8_textAt ⟨by decide, by decide⟩ rfl wlX8_74 wiX8_textAt wsX8_textAt F0 rfl rfl rfl (nle rfl) (nle rfl) rfl ?_
        refine Go.to [some (.ref 0), some (.int (iZ i))] [] rfl rfl ?_
        refine g_iload_n 1 dX8_textAt_0 rfl rfl ?_
        refine g_ifZ_lt 10 4 dX8_textAt_1 rfl rfl ri (fun c8 => ?_) (fun c8 => ?_)
        · refine g_null 11 dX8_textAt_10 rfl ?_
          refine g_goto 20 dX8_textAt_11 rfl ?_
          refine g_aret rfl (Or.inl rfl) dX8_textAt_20 ?_
          refine rN ?_
          refine g_astoreN (L1 := [some (.ref 0), some (.int (iZ t)), some (.int (iZ i)), some (.ref (71 + 4 * t.toNat)), some (.null), none, none, none]) 13 dX8_settles_11 (by decide) rfl rfl rfl ?_
          refine g_aload_n 14 dX8_settles_13 rfl rfl ?_
          refine g_ifnull 17 dX8_settles_14 rfl ?_
          refine g_aloadN 19 dX8_settles_17 rfl rfl ?_
          refine g_ifnonnullN 22 dX8_settles_19 rfl ?_
          refine g_iconst (v := iZ (-1)) 23 dX8_settles_22 rfl rfl ?_
          refine g_iret rfl dX8_settles_23 ?_
          exact k _ (-1) (by decide) H (fun _ _ _ => rfl)
        · refine g_iload_n 5 dX8_textAt_4 rfl rfl ?_
          refine g_bipush (v := iZ (8)) 7 dX8_textAt_5 (by decide +kernel) rfl ?_
          refine g_icZ_lt 14 10 dX8_textAt_7 rfl rfl ri (by decide) (fun c9 => ?_) (fun c9 => ?_)
          · refine g_aload_n 15 dX8_textAt_14 rfl rfl ?_
            refine g_get 18 dX8_textAt_15 faX8_16_X8 F0 rfl rfl ?_
            refine g_iload_n 19 dX8_textAt_18 rfl rfl ?_
            refine g_aaldZ 20 dX8_textAt_19 F3 (by decide) (by omega) (by omega) (by decide) (txs_at (by omega) (by omega)) rfl ?_
            refine g_aret rfl (Or.inr ⟨_, rfl⟩) dX8_textAt_20 ?_
            refine rR ?_
            refine g_astore (L1 := [some (.ref 0), some (.int (iZ t)), some (.int (iZ i)), some (.ref (71 + 4 * t.toNat)), some (.ref (34 + 2 * i.toNat)), none, none, none]) 13 dX8_settles_11 (by decide) rfl rfl rfl ?_
            refine g_aload_n 14 dX8_settles_13 rfl rfl ?_
            refine g_ifnull 17 dX8_settles_14 rfl ?_
            refine g_aload 19 dX8_settles_17 rfl rfl ?_
            refine g_ifnonnull 24 dX8_settles_19 rfl ?_
            refine g_aload_n 25 dX8_settles_24 rfl rfl ?_
            obtain ⟨ta1_10, ta2_10, ta3_10, ta4_10, ta5_10, ta6_10, ta7_10, ta8_10, ta9_10, tb0_10, tb1_10, tb2_10, tb3_10⟩ := HL (t.toNat) (by omega)
            refine g_get 28 dX8_settles_25 faX8_94_X7 tb0_10 rfl rfl ?_
            refine g_astore (L1 := [some (.ref 0), some (.int (iZ t)), some (.int (iZ i)), some (.ref (71 + 4 * t.toNat)), some (.ref (34 + 2 * i.toNat)), some (.ref (71 + 4 * t.toNat + 1)), none, none]) 30 dX8_settles_28 (by decide) rfl rfl rfl ?_
            refine g_iconst (v := iZ (1)) 31 dX8_settles_30 rfl rfl ?_
            refine g_istore (L1 := [some (.ref 0), some (.int (iZ t)), some (.int (iZ i)), some (.ref (71 + 4 * t.toNat)), some (.ref (34 + 2 * i.toNat)), some (.ref (71 + 4 * t.toNat + 1)), some (.int (iZ 1)), none]) 33 dX8_settles_31 (by decide) rfl rfl rfl ?_
            refine g_iload 35 dX8_settles_33 rfl rfl ?_
            refine g_bipush (v := iZ (6)) 37 dX8_settles_35 (by decide +kernel) rfl ?_
            refine g_icZ_gt 105 40 dX8_settles_37 rfl rfl (by decide) (by decide) (fun q => absurd q (by decide)) (fun _ => ?_)
            refine g_iload 42 dX8_settles_40 rfl rfl ?_
            refine g_iconst (v := iZ (2)) 43 dX8_settles_42 rfl rfl ?_
            refine g_irem 44 dX8_settles_43 (by decide +kernel) rfl ?_
            refine Go.eqI (iZ (1)) (by decide +kernel) ?_
            refine g_iconst (v := iZ (1)) 45 dX8_settles_44 rfl rfl ?_
            refine g_icZ_ne 55 48 dX8_settles_45 rfl rfl (by decide) (by decide) (fun q => absurd q (by decide)) (fun _ => ?_)
            refine g_aload_n 49 dX8_settles_48 rfl rfl ?_
            refine g_get 52 dX8_settles_49 faX8_50_X8 F0 rfl rfl ?_
            refine g_goto 59 dX8_settles_52 rfl ?_
            refine g_astore (L1 := [some (.ref 0), some (.int (iZ t)), some (.int (iZ i)), some (.ref (71 + 4 * t.toNat)), some (.ref (34 + 2 * i.toNat)), some (.ref (71 + 4 * t.toNat + 1)), some (.int (iZ 1)), some (.ref 20)]) 61 dX8_settles_59 (by decide) rfl rfl rfl ?_
            refine g_aload 63 dX8_settles_61 rfl rfl ?_
            refine g_aload 65 dX8_settles_63 rfl rfl ?_
            refine g_aload 67 dX8_settles_65 rfl rfl ?_
            obtain ⟨a_11, x_11, p_11, en_11, dn_11, tk_11, hm_11, on_11, mm_11, of_11, og_11, ma1_11, ma2_11, ma3_11, ma4_11, ma5_11, ma6_11, ma7_11, ma8_11, ma9_11, ma10_11, ma11_11, mb0_11, mb1_11, mb2_11, mb3_11, mb4_11⟩ := SC2.m (m := 20) (by decide) HS
            refine g_callV (z := mX2_builds) (As := [.ref (71 + 4 * t.toNat + 1), .ref (34 + 2 * i.toNat)]) 70 dX8_settles_67 mwX2_builds ⟨by decide, by decide⟩ rfl wlX8_98 wiX2_builds wsX2_builds mb0_11 rfl rfl rfl (nle rfl) (nle rfl) rfl ?_
            obtain ⟨t0_12, t1_12, t2_12, t3_12, t4_12⟩ := HT (i.toNat) (by omega)
            refine sc2_bl (m := 20) (M := (V 0 t.toNat).toNat) (by decide) HS tb1_10 tb2_10 tb3_10 ta8_10 ta9_10 (by omega) (by omega) (by omega) (by omega) t0_12 t1_12 t4_12 (by omega) (by omega) (fun h13 z14 a15 x16 p17 e18 d19 t20 hm21 c22 mm23 of24 og25 r26 R27 X28 H29 s30 => ?_)
            have S31 : Scr2 _ _ := s30.scr2 (by decide)
            obtain ⟨ma1_32, ma2_32, ma3_32, ma4_32, ma5_32, ma6_32, ma7_32, ma8_32, ma9_32, ma10_32, ma11_32, mb0_32, mb1_32, mb2_32, mb3_32, mb4_32⟩ := id X28
            refine rI ?_
            refine g_ifZ_ne 76 73 dX8_settles_70 rfl rfl (rg01 (by omega)) (fun c33 => ?_) (fun c33 => ?_)
            · refine g_aload 78 dX8_settles_76 rfl rfl ?_
              refine g_aload 80 dX8_settles_78 rfl rfl ?_
              refine g_get 83 dX8_settles_80 faX8_102_X2 mb0_32 rfl rfl ?_
              have f34 := (S31.get (by omega) tb1_10)
              refine g_callV (z := mX0_unlike) (As := [.ref 22]) 86 dX8_settles_83 mwX0_unlike ⟨by decide, by decide⟩ rfl wlX8_162 wiX0_unlike wsX0_unlike f34 rfl rfl rfl (nle rfl) (nle rfl) rfl ?_
              have f35 := (S31.get (by omega) tb2_10)
              have f36 := (S31.get (by omega) tb3_10)
              refine c_unl (M := (V 0 t.toNat).toNat) (N := 256) f34 f35 f36 mb2_32 mb3_32 mb4_32 ta8_10 ta9_10 ma10_32 ma11_32 (by omega) (by omega) (by omega) (by omega) (by omega) (by omega) (fun z37 rz37 => ?_)
              refine rI ?_
              refine g_ifZ_ne 92 89 dX8_settles_86 rfl rfl (by omega) (fun c38 => ?_) (fun c38 => ?_)
              · refine g_aload 94 dX8_settles_92 rfl rfl ?_
                refine g_get 97 dX8_settles_94 faX8_102_X2 mb0_32 rfl rfl ?_
                refine g_astore (L1 := [some (.ref 0), some (.int (iZ t)), some (.int (iZ i)), some (.ref (71 + 4 * t.toNat)), some (.ref (34 + 2 * i.toNat)), some (.ref 22), some (.int (iZ 1)), some (.ref 20)]) 99 dX8_settles_97 (by decide) rfl rfl rfl ?_
                refine g_iincZ [some (.ref 0), some (.int (iZ t)), some (.int (iZ i)), some (.ref (71 + 4 * t.toNat)), some (.ref (34 + 2 * i.toNat)), some (.ref 22), some (.int (iZ 2)), some (.ref 20)] 102 dX8_settles_99 rfl rfl (by decide) rfl rfl rfl ?_
                refine g_goto 33 dX8_settles_102 rfl ?_
                refine g_iload 35 dX8_settles_33 rfl rfl ?_
                refine g_bipush (v := iZ (6)) 37 dX8_settles_35 (by decide +kernel) rfl ?_
                refine g_icZ_gt 105 40 dX8_settles_37 rfl rfl (by decide) (by decide) (fun q => absurd q (by decide)) (fun _ => ?_)
                refine g_iload 42 dX8_settles_40 rfl rfl ?_
                refine g_iconst (v := iZ (2)) 43 dX8_settles_42 rfl rfl ?_
                refine g_irem 44 dX8_settles_43 (by decide +kernel) rfl ?_
                refine Go.eqI (iZ (0)) (by decide +kernel) ?_
                refine g_iconst (v := iZ (1)) 45 dX8_settles_44 rfl rfl ?_
                refine g_icZ_ne 55 48 dX8_settles_45 rfl rfl (by decide) (by decide) (fun _ => ?_) (fun q => absurd q (by decide))
                refine g_aload_n 56 dX8_settles_55 rfl rfl ?_
                have f39 := (S31.get (by omega) F0)
                refine g_get 59 dX8_settles_56 faX8_53_X8 f39 rfl rfl ?_
                refine g_astore (L1 := [some (.ref 0), some (.int (iZ t)), some (.int (iZ i)), some (.ref (71 + 4 * t.toNat)), some (.ref (34 + 2 * i.toNat)), some (.ref 22), some (.int (iZ 2)), some (.ref 25)]) 61 dX8_settles_59 (by decide) rfl rfl rfl ?_
                refine g_aload 63 dX8_settles_61 rfl rfl ?_
                refine g_aload 65 dX8_settles_63 rfl rfl ?_
                refine g_aload 67 dX8_settles_65 rfl rfl ?_
                obtain ⟨a_40, x_40, p_40, en_40, dn_40, tk_40, hm_40, on_40, mm_40, of_40, og_40, ma1_40, ma2_40, ma3_40, ma4_40, ma5_40, ma6_40, ma7_40, ma8_40, ma9_40, ma10_40, ma11_40, mb0_40, mb1_40, mb2_40, mb3_40, mb4_40⟩ := SC2.m (m := 25) (by decide) H29
                refine g_callV (z := mX2_builds) (As := [.ref 22, .ref (34 + 2 * i.toNat)]) 70 dX8_settles_67 mwX2_builds ⟨by decide, by decide⟩ rfl wlX8_98 wiX2_builds wsX2_builds mb0_40 rfl rfl rfl (nle rfl) (nle rfl) rfl ?_
                have f41 := (S31.get (by omega) t0_12)
                have f42 := (S31.get (by omega) t1_12)
                refine sc2_bl (m := 25) (M := 256) (by decide) H29 mb2_32 mb3_32 mb4_32 ma10_32 ma11_32 (by omega) (by decide) (by omega) (by omega) f41 f42 t4_12 (by omega) (by omega) (fun h43 z44 a45 x46 p47 e48 d49 t50 hm51 c52 mm53 of54 og55 r56 R57 X58 H59 s60 => ?_)
                have S61 : Scr2 _ _ := s60.scr2 (by decide)
                have f62 := s60.get (by decide) mb0_32
                have f63 := s60.get (by decide) mb1_32
                have f64 := s60.get (by decide) mb2_32
                have f65 := s60.get (by decide) mb3_32
                have f66 := s60.get (by decide) mb4_32
                obtain ⟨ma1_67, ma2_67, ma3_67, ma4_67, ma5_67, ma6_67, ma7_67, ma8_67, ma9_67, ma10_67, ma11_67, mb0_67, mb1_67, mb2_67, mb3_67, mb4_67⟩ := id X58
                refine rI ?_
                refine g_ifZ_ne 76 73 dX8_settles_70 rfl rfl (rg01 (by omega)) (fun c68 => ?_) (fun c68 => ?_)
                · refine g_aload 78 dX8_settles_76 rfl rfl ?_
                  refine g_aload 80 dX8_settles_78 rfl rfl ?_
                  refine g_get 83 dX8_settles_80 faX8_102_X2 mb0_67 rfl rfl ?_
                  refine g_callV (z := mX0_unlike) (As := [.ref 27]) 86 dX8_settles_83 mwX0_unlike ⟨by decide, by decide⟩ rfl wlX8_162 wiX0_unlike wsX0_unlike f64 rfl rfl rfl (nle rfl) (nle rfl) rfl ?_
                  refine c_unl (M := 256) (N := 256) f64 f65 f66 mb2_67 mb3_67 mb4_67 ma10_32 ma11_32 ma10_67 ma11_67 (by omega) (by omega) (by omega) (by omega) (by omega) (by omega) (fun z69 rz69 => ?_)
                  refine rI ?_
                  refine g_ifZ_ne 92 89 dX8_settles_86 rfl rfl (by omega) (fun c70 => ?_) (fun c70 => ?_)
                  · refine g_aload 94 dX8_settles_92 rfl rfl ?_
                    refine g_get 97 dX8_settles_94 faX8_102_X2 mb0_67 rfl rfl ?_
                    refine g_astore (L1 := [some (.ref 0), some (.int (iZ t)), some (.int (iZ i)), some (.ref (71 + 4 * t.toNat)), some (.ref (34 + 2 * i.toNat)), some (.ref 27), some (.int (iZ 2)), some (.ref 25)]) 99 dX8_settles_97 (by decide) rfl rfl rfl ?_
                    refine g_iincZ [some (.ref 0), some (.int (iZ t)), some (.int (iZ i)), some (.ref (71 + 4 * t.toNat)), some (.ref (34 + 2 * i.toNat)), some (.ref 27), some (.int (iZ 3)), some (.ref 25)] 102 dX8_settles_99 rfl rfl (by decide) rfl rfl rfl ?_
                    refine g_goto 33 dX8_settles_102 rfl ?_
                    refine g_iload 35 dX8_settles_33 rfl rfl ?_
                    refine g_bipush (v := iZ (6)) 37 dX8_settles_35 (by decide +kernel) rfl ?_
                    refine g_icZ_gt 105 40 dX8_settles_37 rfl rfl (by decide) (by decide) (fun q => absurd q (by decide)) (fun _ => ?_)
                    refine g_iload 42 dX8_settles_40 rfl rfl ?_
                    refine g_iconst (v := iZ (2)) 43 dX8_settles_42 rfl rfl ?_
                    refine g_irem 44 dX8_settles_43 (by decide +kernel) rfl ?_
                    refine Go.eqI (iZ (1)) (by decide +kernel) ?_
                    refine g_iconst (v := iZ (1)) 45 dX8_settles_44 rfl rfl ?_
                    refine g_icZ_ne 55 48 dX8_settles_45 rfl rfl (by decide) (by decide) (fun q => absurd q (by decide)) (fun _ => ?_)
                    refine g_aload_n 49 dX8_settles_48 rfl rfl ?_
                    have f71 := (S61.get (by omega) f39)
                    refine g_get 52 dX8_settles_49 faX8_50_X8 f71 rfl rfl ?_
                    refine g_goto 59 dX8_settles_52 rfl ?_
                    refine g_astore (L1 := [some (.ref 0), some (.int (iZ t)), some (.int (iZ i)), some (.ref (71 + 4 * t.toNat)), some (.ref (34 + 2 * i.toNat)), some (.ref 27), some (.int (iZ 3)), some (.ref 20)]) 61 dX8_settles_59 (by decide) rfl rfl rfl ?_
                    refine g_aload 63 dX8_settles_61 rfl rfl ?_
                    refine g_aload 65 dX8_settles_63 rfl rfl ?_
                    refine g_aload 67 dX8_settles_65 rfl rfl ?_
                    refine g_callV (z := mX2_builds) (As := [.ref 27, .ref (34 + 2 * i.toNat)]) 70 dX8_settles_67 mwX2_builds ⟨by decide, by decide⟩ rfl wlX8_98 wiX2_builds wsX2_builds f62 rfl rfl rfl (nle rfl) (nle rfl) rfl ?_
                    have f72 := (S61.get (by omega) f41)
                    have f73 := (S61.get (by omega) f42)
                    refine sc2_bl (m := 20) (M := 256) (by decide) H59 mb2_67 mb3_67 mb4_67 ma10_67 ma11_67 (by omega) (by decide) (by omega) (by omega) f72 f73 t4_12 (by omega) (by omega) (fun h74 z75 a76 x77 p78 e79 d80 t81 hm82 c83 mm84 of85 og86 r87 R88 X89 H90 s91 => ?_)
                    have S92 : Scr2 _ _ := s91.scr2 (by decide)
                    have f93 := s91.get (by decide) mb0_67
                    have f94 := s91.get (by decide) mb1_67
                    have f95 := s91.get (by decide) mb2_67
                    have f96 := s91.get (by decide) mb3_67
                    have f97 := s91.get (by decide) mb4_67
                    obtain ⟨ma1_98, ma2_98, ma3_98, ma4_98, ma5_98, ma6_98, ma7_98, ma8_98, ma9_98, ma10_98, ma11_98, mb0_98, mb1_98, mb2_98, mb3_98, mb4_98⟩ := id X89
                    refine rI ?_
                    refine g_ifZ_ne 76 73 dX8_settles_70 rfl rfl (rg01 (by omega)) (fun c99 => ?_) (fun c99 => ?_)
                    · refine g_aload 78 dX8_settles_76 rfl rfl ?_
                      refine g_aload 80 dX8_settles_78 rfl rfl ?_
                      refine g_get 83 dX8_settles_80 faX8_102_X2 mb0_98 rfl rfl ?_
                      refine g_callV (z := mX0_unlike) (As := [.ref 22]) 86 dX8_settles_83 mwX0_unlike ⟨by decide, by decide⟩ rfl wlX8_162 wiX0_unlike wsX0_unlike f95 rfl rfl rfl (nle rfl) (nle rfl) rfl ?_
                      refine c_unl (M := 256) (N := 256) f95 f96 f97 mb2_98 mb3_98 mb4_98 ma10_67 ma11_67 ma10_98 ma11_98 (by omega) (by omega) (by omega) (by omega) (by omega) (by omega) (fun z100 rz100 => ?_)
                      refine rI ?_
                      refine g_ifZ_ne 92 89 dX8_settles_86 rfl rfl (by omega) (fun c101 => ?_) (fun c101 => ?_)
                      · refine g_aload 94 dX8_settles_92 rfl rfl ?_
                        refine g_get 97 dX8_settles_94 faX8_102_X2 mb0_98 rfl rfl ?_
                        refine g_astore (L1 := [some (.ref 0), some (.int (iZ t)), some (.int (iZ i)), some (.ref (71 + 4 * t.toNat)), some (.ref (34 + 2 * i.toNat)), some (.ref 22), some (.int (iZ 3)), some (.ref 20)]) 99 dX8_settles_97 (by decide) rfl rfl rfl ?_
                        refine g_iincZ [some (.ref 0), some (.int (iZ t)), some (.int (iZ i)), some (.ref (71 + 4 * t.toNat)), some (.ref (34 + 2 * i.toNat)), some (.ref 22), some (.int (iZ 4)), some (.ref 20)] 102 dX8_settles_99 rfl rfl (by decide) rfl rfl rfl ?_
                        refine g_goto 33 dX8_settles_102 rfl ?_
                        refine g_iload 35 dX8_settles_33 rfl rfl ?_
                        refine g_bipush (v := iZ (6)) 37 dX8_settles_35 (by decide +kernel) rfl ?_
                        refine g_icZ_gt 105 40 dX8_settles_37 rfl rfl (by decide) (by decide) (fun q => absurd q (by decide)) (fun _ => ?_)
                        refine g_iload 42 dX8_settles_40 rfl rfl ?_
                        refine g_iconst (v := iZ (2)) 43 dX8_settles_42 rfl rfl ?_
                        refine g_irem 44 dX8_settles_43 (by decide +kernel) rfl ?_
                        refine Go.eqI (iZ (0)) (by decide +kernel) ?_
                        refine g_iconst (v := iZ (1)) 45 dX8_settles_44 rfl rfl ?_
                        refine g_icZ_ne 55 48 dX8_settles_45 rfl rfl (by decide) (by decide) (fun _ => ?_) (fun q => absurd q (by decide))
                        refine g_aload_n 56 dX8_settles_55 rfl rfl ?_
                        have f102 := (S92.get (by omega) f71)
                        refine g_get 59 dX8_settles_56 faX8_53_X8 f102 rfl rfl ?_
                        refine g_astore (L1 := [some (.ref 0), some (.int (iZ t)), some (.int (iZ i)), some (.ref (71 + 4 * t.toNat)), some (.ref (34 + 2 * i.toNat)), some (.ref 22), some (.int (iZ 4)), some (.ref 25)]) 61 dX8_settles_59 (by decide) rfl rfl rfl ?_
                        refine g_aload 63 dX8_settles_61 rfl rfl ?_
                        refine g_aload 65 dX8_settles_63 rfl rfl ?_
                        refine g_aload 67 dX8_settles_65 rfl rfl ?_
                        refine g_callV (z := mX2_builds) (As := [.ref 22, .ref (34 + 2 * i.toNat)]) 70 dX8_settles_67 mwX2_builds ⟨by decide, by decide⟩ rfl wlX8_98 wiX2_builds wsX2_builds f93 rfl rfl rfl (nle rfl) (nle rfl) rfl ?_
                        have f103 := (S92.get (by omega) f72)
                        have f104 := (S92.get (by omega) f73)
                        refine sc2_bl (m := 25) (M := 256) (by decide) H90 mb2_98 mb3_98 mb4_98 ma10_98 ma11_98 (by omega) (by decide) (by omega) (by omega) f103 f104 t4_12 (by omega) (by omega) (fun h105 z106 a107 x108 p109 e110 d111 t112 hm113 c114 mm115 of116 og117 r118 R119 X120 H121 s122 => ?_)
                        have S123 : Scr2 _ _ := s122.scr2 (by decide)
                        have f124 := s122.get (by decide) mb0_98
                        have f125 := s122.get (by decide) mb1_98
                        have f126 := s122.get (by decide) mb2_98
                        have f127 := s122.get (by decide) mb3_98
                        have f128 := s122.get (by decide) mb4_98
                        obtain ⟨ma1_129, ma2_129, ma3_129, ma4_129, ma5_129, ma6_129, ma7_129, ma8_129, ma9_129, ma10_129, ma11_129, mb0_129, mb1_129, mb2_129, mb3_129, mb4_129⟩ := id X120
                        refine rI ?_
                        refine g_ifZ_ne 76 73 dX8_settles_70 rfl rfl (rg01 (by omega)) (fun c130 => ?_) (fun c130 => ?_)
                        · refine g_aload 78 dX8_settles_76 rfl rfl ?_
                          refine g_aload 80 dX8_settles_78 rfl rfl ?_
                          refine g_get 83 dX8_settles_80 faX8_102_X2 mb0_129 rfl rfl ?_
                          refine g_callV (z := mX0_unlike) (As := [.ref 27]) 86 dX8_settles_83 mwX0_unlike ⟨by decide, by decide⟩ rfl wlX8_162 wiX0_unlike wsX0_unlike f126 rfl rfl rfl (nle rfl) (nle rfl) rfl ?_
                          refine c_unl (M := 256) (N := 256) f126 f127 f128 mb2_129 mb3_129 mb4_129 ma10_98 ma11_98 ma10_129 ma11_129 (by omega) (by omega) (by omega) (by omega) (by omega) (by omega) (fun z131 rz131 => ?_)
                          refine rI ?_
                          refine g_ifZ_ne 92 89 dX8_settles_86 rfl rfl (by omega) (fun c132 => ?_) (fun c132 => ?_)
                          · refine g_aload 94 dX8_settles_92 rfl rfl ?_
                            refine g_get 97 dX8_settles_94 faX8_102_X2 mb0_129 rfl rfl ?_
                            refine g_astore (L1 := [some (.ref 0), some (.int (iZ t)), some (.int (iZ i)), some (.ref (71 + 4 * t.toNat)), some (.ref (34 + 2 * i.toNat)), some (.ref 27), some (.int (iZ 4)), some (.ref 25)]) 99 dX8_settles_97 (by decide) rfl rfl rfl ?_
                            refine g_iincZ [some (.ref 0), some (.int (iZ t)), some (.int (iZ i)), some (.ref (71 + 4 * t.toNat)), some (.ref (34 + 2 * i.toNat)), some (.ref 27), some (.int (iZ 5)), some (.ref 25)] 102 dX8_settles_99 rfl rfl (by decide) rfl rfl rfl ?_
                            refine g_goto 33 dX8_settles_102 rfl ?_
                            refine g_iload 35 dX8_settles_33 rfl rfl ?_
                            refine g_bipush (v := iZ (6)) 37 dX8_settles_35 (by decide +kernel) rfl ?_
                            refine g_icZ_gt 105 40 dX8_settles_37 rfl rfl (by decide) (by decide) (fun q => absurd q (by decide)) (fun _ => ?_)
                            refine g_iload 42 dX8_settles_40 rfl rfl ?_
                            refine g_iconst (v := iZ (2)) 43 dX8_settles_42 rfl rfl ?_
                            refine g_irem 44 dX8_settles_43 (by decide +kernel) rfl ?_
                            refine Go.eqI (iZ (1)) (by decide +kernel) ?_
                            refine g_iconst (v := iZ (1)) 45 dX8_settles_44 rfl rfl ?_
                            refine g_icZ_ne 55 48 dX8_settles_45 rfl rfl (by decide) (by decide) (fun q => absurd q (by decide)) (fun _ => ?_)
                            refine g_aload_n 49 dX8_settles_48 rfl rfl ?_
                            have f133 := (S123.get (by omega) f102)
                            refine g_get 52 dX8_settles_49 faX8_50_X8 f133 rfl rfl ?_
                            refine g_goto 59 dX8_settles_52 rfl ?_
                            refine g_astore (L1 := [some (.ref 0), some (.int (iZ t)), some (.int (iZ i)), some (.ref (71 + 4 * t.toNat)), some (.ref (34 + 2 * i.toNat)), some (.ref 27), some (.int (iZ 5)), some (.ref 20)]) 61 dX8_settles_59 (by decide) rfl rfl rfl ?_
                            refine g_aload 63 dX8_settles_61 rfl rfl ?_
                            refine g_aload 65 dX8_settles_63 rfl rfl ?_
                            refine g_aload 67 dX8_settles_65 rfl rfl ?_
                            refine g_callV (z := mX2_builds) (As := [.ref 27, .ref (34 + 2 * i.toNat)]) 70 dX8_settles_67 mwX2_builds ⟨by decide, by decide⟩ rfl wlX8_98 wiX2_builds wsX2_builds f124 rfl rfl rfl (nle rfl) (nle rfl) rfl ?_
                            have f134 := (S123.get (by omega) f103)
                            have f135 := (S123.get (by omega) f104)
                            refine sc2_bl (m := 20) (M := 256) (by decide) H121 mb2_129 mb3_129 mb4_129 ma10_129 ma11_129 (by omega) (by decide) (by omega) (by omega) f134 f135 t4_12 (by omega) (by omega) (fun h136 z137 a138 x139 p140 e141 d142 t143 hm144 c145 mm146 of147 og148 r149 R150 X151 H152 s153 => ?_)
                            have S154 : Scr2 _ _ := s153.scr2 (by decide)
                            have f155 := s153.get (by decide) mb0_129
                            have f156 := s153.get (by decide) mb1_129
                            have f157 := s153.get (by decide) mb2_129
                            have f158 := s153.get (by decide) mb3_129
                            have f159 := s153.get (by decide) mb4_129
                            obtain ⟨ma1_160, ma2_160, ma3_160, ma4_160, ma5_160, ma6_160, ma7_160, ma8_160, ma9_160, ma10_160, ma11_160, mb0_160, mb1_160, mb2_160, mb3_160, mb4_160⟩ := id X151
                            refine rI ?_
                            refine g_ifZ_ne 76 73 dX8_settles_70 rfl rfl (rg01 (by omega)) (fun c161 => ?_) (fun c161 => ?_)
                            · refine g_aload 78 dX8_settles_76 rfl rfl ?_
                              refine g_aload 80 dX8_settles_78 rfl rfl ?_
                              refine g_get 83 dX8_settles_80 faX8_102_X2 mb0_160 rfl rfl ?_
                              refine g_callV (z := mX0_unlike) (As := [.ref 22]) 86 dX8_settles_83 mwX0_unlike ⟨by decide, by decide⟩ rfl wlX8_162 wiX0_unlike wsX0_unlike f157 rfl rfl rfl (nle rfl) (nle rfl) rfl ?_
                              refine c_unl (M := 256) (N := 256) f157 f158 f159 mb2_160 mb3_160 mb4_160 ma10_129 ma11_129 ma10_160 ma11_160 (by omega) (by omega) (by omega) (by omega) (by omega) (by omega) (fun z162 rz162 => ?_)
                              refine rI ?_
                              refine g_ifZ_ne 92 89 dX8_settles_86 rfl rfl (by omega) (fun c163 => ?_) (fun c163 => ?_)
                              · refine g_aload 94 dX8_settles_92 rfl rfl ?_
                                refine g_get 97 dX8_settles_94 faX8_102_X2 mb0_160 rfl rfl ?_
                                refine g_astore (L1 := [some (.ref 0), some (.int (iZ t)), some (.int (iZ i)), some (.ref (71 + 4 * t.toNat)), some (.ref (34 + 2 * i.toNat)), some (.ref 22), some (.int (iZ 5)), some (.ref 20)]) 99 dX8_settles_97 (by decide) rfl rfl rfl ?_
                                refine g_iincZ [some (.ref 0), some (.int (iZ t)), some (.int (iZ i)), some (.ref (71 + 4 * t.toNat)), some (.ref (34 + 2 * i.toNat)), some (.ref 22), some (.int (iZ 6)), some (.ref 20)] 102 dX8_settles_99 rfl rfl (by decide) rfl rfl rfl ?_
                                refine g_goto 33 dX8_settles_102 rfl ?_
                                refine g_iload 35 dX8_settles_33 rfl rfl ?_
                                refine g_bipush (v := iZ (6)) 37 dX8_settles_35 (by decide +kernel) rfl ?_
                                refine g_icZ_gt 105 40 dX8_settles_37 rfl rfl (by decide) (by decide) (fun q => absurd q (by decide)) (fun _ => ?_)
                                refine g_iload 42 dX8_settles_40 rfl rfl ?_
                                refine g_iconst (v := iZ (2)) 43 dX8_settles_42 rfl rfl ?_
                                refine g_irem 44 dX8_settles_43 (by decide +kernel) rfl ?_
                                refine Go.eqI (iZ (0)) (by decide +kernel) ?_
                                refine g_iconst (v := iZ (1)) 45 dX8_settles_44 rfl rfl ?_
                                refine g_icZ_ne 55 48 dX8_settles_45 rfl rfl (by decide) (by decide) (fun _ => ?_) (fun q => absurd q (by decide))
                                refine g_aload_n 56 dX8_settles_55 rfl rfl ?_
                                have f164 := (S154.get (by omega) f133)
                                refine g_get 59 dX8_settles_56 faX8_53_X8 f164 rfl rfl ?_
                                refine g_astore (L1 := [some (.ref 0), some (.int (iZ t)), some (.int (iZ i)), some (.ref (71 + 4 * t.toNat)), some (.ref (34 + 2 * i.toNat)), some (.ref 22), some (.int (iZ 6)), some (.ref 25)]) 61 dX8_settles_59 (by decide) rfl rfl rfl ?_
                                refine g_aload 63 dX8_settles_61 rfl rfl ?_
                                refine g_aload 65 dX8_settles_63 rfl rfl ?_
                                refine g_aload 67 dX8_settles_65 rfl rfl ?_
                                refine g_callV (z := mX2_builds) (As := [.ref 22, .ref (34 + 2 * i.toNat)]) 70 dX8_settles_67 mwX2_builds ⟨by decide, by decide⟩ rfl wlX8_98 wiX2_builds wsX2_builds f155 rfl rfl rfl (nle rfl) (nle rfl) rfl ?_
                                have f165 := (S154.get (by omega) f134)
                                have f166 := (S154.get (by omega) f135)
                                refine sc2_bl (m := 25) (M := 256) (by decide) H152 mb2_160 mb3_160 mb4_160 ma10_160 ma11_160 (by omega) (by decide) (by omega) (by omega) f165 f166 t4_12 (by omega) (by omega) (fun h167 z168 a169 x170 p171 e172 d173 t174 hm175 c176 mm177 of178 og179 r180 R181 X182 H183 s184 => ?_)
                                have S185 : Scr2 _ _ := s184.scr2 (by decide)
                                have f186 := s184.get (by decide) mb0_160
                                have f187 := s184.get (by decide) mb1_160
                                have f188 := s184.get (by decide) mb2_160
                                have f189 := s184.get (by decide) mb3_160
                                have f190 := s184.get (by decide) mb4_160
                                obtain ⟨ma1_191, ma2_191, ma3_191, ma4_191, ma5_191, ma6_191, ma7_191, ma8_191, ma9_191, ma10_191, ma11_191, mb0_191, mb1_191, mb2_191, mb3_191, mb4_191⟩ := id X182
                                refine rI ?_
                                refine g_ifZ_ne 76 73 dX8_settles_70 rfl rfl (rg01 (by omega)) (fun c192 => ?_) (fun c192 => ?_)
                                · refine g_aload 78 dX8_settles_76 rfl rfl ?_
                                  refine g_aload 80 dX8_settles_78 rfl rfl ?_
                                  refine g_get 83 dX8_settles_80 faX8_102_X2 mb0_191 rfl rfl ?_
                                  refine g_callV (z := mX0_unlike) (As := [.ref 27]) 86 dX8_settles_83 mwX0_unlike ⟨by decide, by decide⟩ rfl wlX8_162 wiX0_unlike wsX0_unlike f188 rfl rfl rfl (nle rfl) (nle rfl) rfl ?_
                                  refine c_unl (M := 256) (N := 256) f188 f189 f190 mb2_191 mb3_191 mb4_191 ma10_160 ma11_160 ma10_191 ma11_191 (by omega) (by omega) (by omega) (by omega) (by omega) (by omega) (fun z193 rz193 => ?_)
                                  refine rI ?_
                                  refine g_ifZ_ne 92 89 dX8_settles_86 rfl rfl (by omega) (fun c194 => ?_) (fun c194 => ?_)
                                  · refine g_aload 94 dX8_settles_92 rfl rfl ?_
                                    refine g_get 97 dX8_settles_94 faX8_102_X2 mb0_191 rfl rfl ?_
                                    refine g_astore (L1 := [some (.ref 0), some (.int (iZ t)), some (.int (iZ i)), some (.ref (71 + 4 * t.toNat)), some (.ref (34 + 2 * i.toNat)), some (.ref 27), some (.int (iZ 6)), some (.ref 25)]) 99 dX8_settles_97 (by decide) rfl rfl rfl ?_
                                    refine g_iincZ [some (.ref 0), some (.int (iZ t)), some (.int (iZ i)), some (.ref (71 + 4 * t.toNat)), some (.ref (34 + 2 * i.toNat)), some (.ref 27), some (.int (iZ 7)), some (.ref 25)] 102 dX8_settles_99 rfl rfl (by decide) rfl rfl rfl ?_
                                    refine g_goto 33 dX8_settles_102 rfl ?_
                                    refine g_iload 35 dX8_settles_33 rfl rfl ?_
                                    refine g_bipush (v := iZ (6)) 37 dX8_settles_35 (by decide +kernel) rfl ?_
                                    refine g_icZ_gt 105 40 dX8_settles_37 rfl rfl (by decide) (by decide) (fun _ => ?_) (fun q => absurd q (by decide))
                                    refine g_bipush (v := iZ (-9)) 107 dX8_settles_105 (by decide +kernel) rfl ?_
                                    refine g_iret rfl dX8_settles_107 ?_
                                    have zz := H.scr (((((S31.tr S61).tr S92).tr S123).tr S154).tr S185) H183
                                    exact k _ (-9) (by decide) zz.1 zz.2
                                  · refine g_iload 91 dX8_settles_89 rfl rfl ?_
                                    refine g_iret rfl dX8_settles_91 ?_
                                    have zz := H.scr (((((S31.tr S61).tr S92).tr S123).tr S154).tr S185) H183
                                    exact k _ (6) (by decide) zz.1 zz.2
                                · refine g_bipush (v := iZ (-9)) 75 dX8_settles_73 (by decide +kernel) rfl ?_
                                  refine g_iret rfl dX8_settles_75 ?_
                                  have zz := H.scr (((((S31.tr S61).tr S92).tr S123).tr S154).tr S185) H183
                                  exact k _ (-9) (by decide) zz.1 zz.2
                              · refine g_iload 91 dX8_settles_89 rfl rfl ?_
                                refine g_iret rfl dX8_settles_91 ?_
                                have zz := H.scr ((((S31.tr S61).tr S92).tr S123).tr S154) H152
                                exact k _ (5) (by decide) zz.1 zz.2
                            · refine g_bipush (v := iZ (-9)) 75 dX8_settles_73 (by decide +kernel) rfl ?_
                              refine g_iret rfl dX8_settles_75 ?_
                              have zz := H.scr ((((S31.tr S61).tr S92).tr S123).tr S154) H152
                              exact k _ (-9) (by decide) zz.1 zz.2
                          · refine g_iload 91 dX8_settles_89 rfl rfl ?_
                            refine g_iret rfl dX8_settles_91 ?_
                            have zz := H.scr (((S31.tr S61).tr S92).tr S123) H121
                            exact k _ (4) (by decide) zz.1 zz.2
                        · refine g_bipush (v := iZ (-9)) 75 dX8_settles_73 (by decide +kernel) rfl ?_
                          refine g_iret rfl dX8_settles_75 ?_
                          have zz := H.scr (((S31.tr S61).tr S92).tr S123) H121
                          exact k _ (-9) (by decide) zz.1 zz.2
                      · refine g_iload 91 dX8_settles_89 rfl rfl ?_
                        refine g_iret rfl dX8_settles_91 ?_
                        have zz := H.scr ((S31.tr S61).tr S92) H90
                        exact k _ (3) (by decide) zz.1 zz.2
                    · refine g_bipush (v := iZ (-9)) 75 dX8_settles_73 (by decide +kernel) rfl ?_
                      refine g_iret rfl dX8_settles_75 ?_
                      have zz := H.scr ((S31.tr S61).tr S92) H90
                      exact k _ (-9) (by decide) zz.1 zz.2
                  · refine g_iload 91 dX8_settles_89 rfl rfl ?_
                    refine g_iret rfl dX8_settles_91 ?_
                    have zz := H.scr (S31.tr S61) H59
                    exact k _ (2) (by decide) zz.1 zz.2
                · refine g_bipush (v := iZ (-9)) 75 dX8_settles_73 (by decide +kernel) rfl ?_
                  refine g_iret rfl dX8_settles_75 ?_
                  have zz := H.scr (S31.tr S61) H59
                  exact k _ (-9) (by decide) zz.1 zz.2
              · refine g_iload 91 dX8_settles_89 rfl rfl ?_
                refine g_iret rfl dX8_settles_91 ?_
                have zz := H.scr S31 H29
                exact k _ (1) (by decide) zz.1 zz.2
            · refine g_bipush (v := iZ (-9)) 75 dX8_settles_73 (by decide +kernel) rfl ?_
              refine g_iret rfl dX8_settles_75 ?_
              have zz := H.scr S31 H29
              exact k _ (-9) (by decide) zz.1 zz.2
          · refine g_null 11 dX8_textAt_10 rfl ?_
            refine g_goto 20 dX8_textAt_11 rfl ?_
            refine g_aret rfl (Or.inl rfl) dX8_textAt_20 ?_
            refine rN ?_
            refine g_astoreN (L1 := [some (.ref 0), some (.int (iZ t)), some (.int (iZ i)), some (.ref (71 + 4 * t.toNat)), some (.null), none, none, none]) 13 dX8_settles_11 (by decide) rfl rfl rfl ?_
            refine g_aload_n 14 dX8_settles_13 rfl rfl ?_
            refine g_ifnull 17 dX8_settles_14 rfl ?_
            refine g_aloadN 19 dX8_settles_17 rfl rfl ?_
            refine g_ifnonnullN 22 dX8_settles_19 rfl ?_
            refine g_iconst (v := iZ (-1)) 23 dX8_settles_22 rfl rfl ?_
            refine g_iret rfl dX8_settles_23 ?_
            exact k _ (-1) (by decide) H (fun _ _ _ => rfl)
      · refine g_null 19 dX8_toolAt_18 rfl ?_
        refine g_goto 28 dX8_toolAt_19 rfl ?_
        refine g_aret rfl (Or.inl rfl) dX8_toolAt_28 ?_
        refine rN ?_
        refine g_astore_nN (L1 := [some (.ref 0), some (.int (iZ t)), some (.int (iZ i)), some (.null), none, none, none, none]) 6 dX8_settles_5 (by decide) rfl rfl rfl ?_
        refine g_aload_n 7 dX8_settles_6 rfl rfl ?_
        refine g_iload_n 8 dX8_settles_7 rfl rfl ?_
        refine g_callV (z := mX8_textAt) (As := [.int (iZ i)]) 11 dX8_settles_8 mwX8_textAt ⟨by decide, by decide⟩ rfl wlX8_74 wiX8_textAt wsX8_textAt F0 rfl rfl rfl (nle rfl) (nle rfl) rfl ?_
        refine Go.to [some (.ref 0), some (.int (iZ i))] [] rfl rfl ?_
        refine g_iload_n 1 dX8_textAt_0 rfl rfl ?_
        refine g_ifZ_lt 10 4 dX8_textAt_1 rfl rfl ri (fun c195 => ?_) (fun c195 => ?_)
        · refine g_null 11 dX8_textAt_10 rfl ?_
          refine g_goto 20 dX8_textAt_11 rfl ?_
          refine g_aret rfl (Or.inl rfl) dX8_textAt_20 ?_
          refine rN ?_
          refine g_astoreN (L1 := [some (.ref 0), some (.int (iZ t)), some (.int (iZ i)), some (.null), some (.null), none, none, none]) 13 dX8_settles_11 (by decide) rfl rfl rfl ?_
          refine g_aload_nN 14 dX8_settles_13 rfl rfl ?_
          refine g_ifnullN 22 dX8_settles_14 rfl ?_
          refine g_iconst (v := iZ (-1)) 23 dX8_settles_22 rfl rfl ?_
          refine g_iret rfl dX8_settles_23 ?_
          exact k _ (-1) (by decide) H (fun _ _ _ => rfl)
        · refine g_iload_n 5 dX8_textAt_4 rfl rfl ?_
          refine g_bipush (v := iZ (8)) 7 dX8_textAt_5 (by decide +kernel) rfl ?_
          refine g_icZ_lt 14 10 dX8_textAt_7 rfl rfl ri (by decide) (fun c196 => ?_) (fun c196 => ?_)
          · refine g_aload_n 15 dX8_textAt_14 rfl rfl ?_
            refine g_get 18 dX8_textAt_15 faX8_16_X8 F0 rfl rfl ?_
            refine g_iload_n 19 dX8_textAt_18 rfl rfl ?_
            refine g_aaldZ 20 dX8_textAt_19 F3 (by decide) (by omega) (by omega) (by decide) (txs_at (by omega) (by omega)) rfl ?_
            refine g_aret rfl (Or.inr ⟨_, rfl⟩) dX8_textAt_20 ?_
            refine rR ?_
            refine g_astore (L1 := [some (.ref 0), some (.int (iZ t)), some (.int (iZ i)), some (.null), some (.ref (34 + 2 * i.toNat)), none, none, none]) 13 dX8_settles_11 (by decide) rfl rfl rfl ?_
            refine g_aload_nN 14 dX8_settles_13 rfl rfl ?_
            refine g_ifnullN 22 dX8_settles_14 rfl ?_
            refine g_iconst (v := iZ (-1)) 23 dX8_settles_22 rfl rfl ?_
            refine g_iret rfl dX8_settles_23 ?_
            exact k _ (-1) (by decide) H (fun _ _ _ => rfl)
          · refine g_null 11 dX8_textAt_10 rfl ?_
            refine g_goto 20 dX8_textAt_11 rfl ?_
            refine g_aret rfl (Or.inl rfl) dX8_textAt_20 ?_
            refine rN ?_
            refine g_astoreN (L1 := [some (.ref 0), some (.int (iZ t)), some (.int (iZ i)), some (.null), some (.null), none, none, none]) 13 dX8_settles_11 (by decide) rfl rfl rfl ?_
            refine g_aload_nN 14 dX8_settles_13 rfl rfl ?_
            refine g_ifnullN 22 dX8_settles_14 rfl ?_
            refine g_iconst (v := iZ (-1)) 23 dX8_settles_22 rfl rfl ?_
            refine g_iret rfl dX8_settles_23 ?_
            exact k _ (-1) (by decide) H (fun _ _ _ => rfl)
set_option maxRecDepth 100000 in
theorem b8_round {l : Launch} {h : MH} {Q : Option Value → MH → Prop} {tn : Int} {tf : Nat → Int} {xn : Nat → Int} {xf : Nat → Nat → Int} {en : Int} {tc : Nat} {tr : Int64} {V Bf Lf : Nat → Nat → Int} {q lm lo : Nat → Int} {a b i : Int} (H : IX2 h tn tf xn xf en tc tr V Bf Lf q lm lo) (ra : rg a) (rb : rg b) (ri : rg i) (k : ∀ (h1 : MH) (r : Int), (rg r) → IX2 h1 tn tf xn xf en tc tr V Bf Lf q lm lo → Mo h h1 → Q (some (.int (iZ r))) h1) : Go l mX8_round 0 [some (.ref 0), some (.int (iZ a)), some (.int (iZ b)), some (.int (iZ i)), none, none, none] [] h Q := by
  obtain ⟨HC, HS, HLm, HY, HE, hlen, hmz⟩ := id H
  obtain ⟨F0, F3, F4, htc, HT, HL⟩ := id HC
  refine g_aload_n 1 dX8_round_0 rfl rfl ?_
  refine g_iload_n 2 dX8_round_1 rfl rfl ?_
  refine g_callV (z := mX8_toolAt) (As := [.int (iZ a)]) 5 dX8_round_2 mwX8_toolAt ⟨by decide, by decide⟩ rfl wlX8_90 wiX8_toolAt wsX8_toolAt F0 rfl rfl rfl (nle rfl) (nle rfl) rfl ?_
  refine Go.to [some (.ref 0), some (.int (iZ a))] [] rfl rfl ?_
  refine g_iload_n 1 dX8_toolAt_0 rfl rfl ?_
  refine g_ifZ_lt 18 4 dX8_toolAt_1 rfl rfl ra (fun c1 => ?_) (fun c1 => ?_)
  · refine g_null 19 dX8_toolAt_18 rfl ?_
    refine g_goto 28 dX8_toolAt_19 rfl ?_
    refine g_aret rfl (Or.inl rfl) dX8_toolAt_28 ?_
    refine rN ?_
    refine g_astoreN (L1 := [some (.ref 0), some (.int (iZ a)), some (.int (iZ b)), some (.int (iZ i)), some (.null), none, none]) 7 dX8_round_5 (by decide) rfl rfl rfl ?_
    refine g_aload_n 8 dX8_round_7 rfl rfl ?_
    refine g_iload_n 9 dX8_round_8 rfl rfl ?_
    refine g_callV (z := mX8_toolAt) (As := [.int (iZ b)]) 12 dX8_round_9 mwX8_toolAt ⟨by decide, by decide⟩ rfl wlX8_90 wiX8_toolAt wsX8_toolAt F0 rfl rfl rfl (nle rfl) (nle rfl) rfl ?_
    refine Go.to [some (.ref 0), some (.int (iZ b))] [] rfl rfl ?_
    refine g_iload_n 1 dX8_toolAt_0 rfl rfl ?_
    refine g_ifZ_lt 18 4 dX8_toolAt_1 rfl rfl rb (fun c2 => ?_) (fun c2 => ?_)
    · refine g_null 19 dX8_toolAt_18 rfl ?_
      refine g_goto 28 dX8_toolAt_19 rfl ?_
      refine g_aret rfl (Or.inl rfl) dX8_toolAt_28 ?_
      refine rN ?_
      refine g_astoreN (L1 := [some (.ref 0), some (.int (iZ a)), some (.int (iZ b)), some (.int (iZ i)), some (.null), some (.null), none]) 14 dX8_round_12 (by decide) rfl rfl rfl ?_
      refine g_aload_n 15 dX8_round_14 rfl rfl ?_
      refine g_iload_n 16 dX8_round_15 rfl rfl ?_
      refine g_callV (z := mX8_textAt) (As := [.int (iZ i)]) 19 dX8_round_16 mwX8_textAt ⟨by decide, by decide⟩ rfl wlX8_74 wiX8_textAt wsX8_textAt F0 rfl rfl rfl (nle rfl) (nle rfl) rfl ?_
      refine Go.to [some (.ref 0), some (.int (iZ i))] [] rfl rfl ?_
      refine g_iload_n 1 dX8_textAt_0 rfl rfl ?_
      refine g_ifZ_lt 10 4 dX8_textAt_1 rfl rfl ri (fun c3 => ?_) (fun c3 => ?_)
      · refine g_null 11 dX8_textAt_10 rfl ?_
        refine g_goto 20 dX8_textAt_11 rfl ?_
        refine g_aret rfl (Or.inl rfl) dX8_textAt_20 ?_
        refine rN ?_
        refine g_astoreN (L1 := [some (.ref 0), some (.int (iZ a)), some (.int (iZ b)), some (.int (iZ i)), some (.null), some (.null), some (.null)]) 21 dX8_round_19 (by decide) rfl rfl rfl ?_
        refine g_aloadN 23 dX8_round_21 rfl rfl ?_
        refine g_ifnullN 36 dX8_round_23 rfl ?_
        refine g_iconst (v := iZ (-1)) 37 dX8_round_36 rfl rfl ?_
        refine g_iret rfl dX8_round_37 ?_
        exact k _ (-1) (by decide) H (fun _ _ _ => rfl)
      · refine g_iload_n 5 dX8_textAt_4 rfl rfl ?_
        refine g_bipush (v := iZ (8)) 7 dX8_textAt_5 (by decide +kernel) rfl ?_
        refine g_icZ_lt 14 10 dX8_textAt_7 rfl rfl ri (by decide) (fun c4 => ?_) (fun c4 => ?_)
        · refine g_aload_n 15 dX8_textAt_14 rfl rfl ?_
          refine g_get 18 dX8_textAt_15 faX8_16_X8 F0 rfl rfl ?_
          refine g_iload_n 19 dX8_textAt_18 rfl rfl ?_
          refine g_aaldZ 20 dX8_textAt_19 F3 (by decide) (by omega) (by omega) (by decide) (txs_at (by omega) (by omega)) rfl ?_
          refine g_aret rfl (Or.inr ⟨_, rfl⟩) dX8_textAt_20 ?_
          refine rR ?_
          refine g_astore (L1 := [some (.ref 0), some (.int (iZ a)), some (.int (iZ b)), some (.int (iZ i)), some (.null), some (.null), some (.ref (34 + 2 * i.toNat))]) 21 dX8_round_19 (by decide) rfl rfl rfl ?_
          refine g_aloadN 23 dX8_round_21 rfl rfl ?_
          refine g_ifnullN 36 dX8_round_23 rfl ?_
          refine g_iconst (v := iZ (-1)) 37 dX8_round_36 rfl rfl ?_
          refine g_iret rfl dX8_round_37 ?_
          exact k _ (-1) (by decide) H (fun _ _ _ => rfl)
        · refine g_null 11 dX8_textAt_10 rfl ?_
          refine g_goto 20 dX8_textAt_11 rfl ?_
          refine g_aret rfl (Or.inl rfl) dX8_textAt_20 ?_
          refine rN ?_
          refine g_astoreN (L1 := [some (.ref 0), some (.int (iZ a)), some (.int (iZ b)), some (.int (iZ i)), some (.null), some (.null), some (.null)]) 21 dX8_round_19 (by decide) rfl rfl rfl ?_
          refine g_aloadN 23 dX8_round_21 rfl rfl ?_
          refine g_ifnullN 36 dX8_round_23 rfl ?_
          refine g_iconst (v := iZ (-1)) 37 dX8_round_36 rfl rfl ?_
          refine g_iret rfl dX8_round_37 ?_
          exact k _ (-1) (by decide) H (fun _ _ _ => rfl)
    · refine g_iload_n 5 dX8_toolAt_4 rfl rfl ?_
      refine g_aload_n 6 dX8_toolAt_5 rfl rfl ?_
      refine g_get 9 dX8_toolAt_6 faX8_26_X8 F0 rfl rfl ?_
      refine g_icZ_ge 18 12 dX8_toolAt_9 rfl rfl rb (by omega) (fun c5 => ?_) (fun c5 => ?_)
      · refine g_null 19 dX8_toolAt_18 rfl ?_
        refine g_goto 28 dX8_toolAt_19 rfl ?_
        refine g_aret rfl (Or.inl rfl) dX8_toolAt_28 ?_
        refine rN ?_
        refine g_astoreN (L1 := [some (.ref 0), some (.int (iZ a)), some (.int (iZ b)), some (.int (iZ i)), some (.null), some (.null), none]) 14 dX8_round_12 (by decide) rfl rfl rfl ?_
        refine g_aload_n 15 dX8_round_14 rfl rfl ?_
        refine g_iload_n 16 dX8_round_15 rfl rfl ?_
        refine g_callV (z := mX8_textAt) (As := [.int (iZ i)]) 19 dX8_round_16 mwX8_textAt ⟨by decide, by decide⟩ rfl wlX8_74 wiX8_textAt wsX8_textAt F0 rfl rfl rfl (nle rfl) (nle rfl) rfl ?_
        refine Go.to [some (.ref 0), some (.int (iZ i))] [] rfl rfl ?_
        refine g_iload_n 1 dX8_textAt_0 rfl rfl ?_
        refine g_ifZ_lt 10 4 dX8_textAt_1 rfl rfl ri (fun c6 => ?_) (fun c6 => ?_)
        · refine g_null 11 dX8_textAt_10 rfl ?_
          refine g_goto 20 dX8_textAt_11 rfl ?_
          refine g_aret rfl (Or.inl rfl) dX8_textAt_20 ?_
          refine rN ?_
          refine g_astoreN (L1 := [some (.ref 0), some (.int (iZ a)), some (.int (iZ b)), some (.int (iZ i)), some (.null), some (.null), some (.null)]) 21 dX8_round_19 (by decide) rfl rfl rfl ?_
          refine g_aloadN 23 dX8_round_21 rfl rfl ?_
          refine g_ifnullN 36 dX8_round_23 rfl ?_
          refine g_iconst (v := iZ (-1)) 37 dX8_round_36 rfl rfl ?_
          refine g_iret rfl dX8_round_37 ?_
          exact k _ (-1) (by decide) H (fun _ _ _ => rfl)
        · refine g_iload_n 5 dX8_textAt_4 rfl rfl ?_
          refine g_bipush (v := iZ (8)) 7 dX8_textAt_5 (by decide +kernel) rfl ?_
          refine g_icZ_lt 14 10 dX8_textAt_7 rfl rfl ri (by decide) (fun c7 => ?_) (fun c7 => ?_)
          · refine g_aload_n 15 dX8_textAt_14 rfl rfl ?_
            refine g_get 18 dX8_textAt_15 faX8_16_X8 F0 rfl rfl ?_
            refine g_iload_n 19 dX8_textAt_18 rfl rfl ?_
            refine g_aaldZ 20 dX8_textAt_19 F3 (by decide) (by omega) (by omega) (by decide) (txs_at (by omega) (by omega)) rfl ?_
            refine g_aret rfl (Or.inr ⟨_, rfl⟩) dX8_textAt_20 ?_
            refine rR ?_
            refine g_astore (L1 := [some (.ref 0), some (.int (iZ a)), some (.int (iZ b)), some (.int (iZ i)), some (.null), some (.null), some (.ref (34 + 2 * i.toNat))]) 21 dX8_round_19 (by decide) rfl rfl rfl ?_
            refine g_aloadN 23 dX8_round_21 rfl rfl ?_
            refine g_ifnullN 36 dX8_round_23 rfl ?_
            refine g_iconst (v := iZ (-1)) 37 dX8_round_36 rfl rfl ?_
            refine g_iret rfl dX8_round_37 ?_
            exact k _ (-1) (by decide) H (fun _ _ _ => rfl)
          · refine g_null 11 dX8_textAt_10 rfl ?_
            refine g_goto 20 dX8_textAt_11 rfl ?_
            refine g_aret rfl (Or.inl rfl) dX8_textAt_20 ?_
            refine rN ?_
            refine g_astoreN (L1 := [some (.ref 0), some (.int (iZ a)), some (.int (iZ b)), some (.int (iZ i)), some (.null), some (.null), some (.null)]) 21 dX8_round_19 (by decide) rfl rfl rfl ?_
            refine g_aloadN 23 dX8_round_21 rfl rfl ?_
            refine g_ifnullN 36 dX8_round_23 rfl ?_
            refine g_iconst (v := iZ (-1)) 37 dX8_round_36 rfl rfl ?_
            refine g_iret rfl dX8_round_37 ?_
            exact k _ (-1) (by decide) H (fun _ _ _ => rfl)
      · refine g_iload_n 13 dX8_toolAt_12 rfl rfl ?_
        refine g_bipush (v := iZ (12)) 15 dX8_toolAt_13 (by decide +kernel) rfl ?_
        refine g_icZ_lt 22 18 dX8_toolAt_15 rfl rfl rb (by decide) (fun c8 => ?_) (fun c8 => ?_)
        · refine g_aload_n 23 dX8_toolAt_22 rfl rfl ?_
          refine g_get 26 dX8_toolAt_23 faX8_22_X8 F0 rfl rfl ?_
          refine g_iload_n 27 dX8_toolAt_26 rfl rfl ?_
          refine g_aaldZ 28 dX8_toolAt_27 F4 (by decide) (by omega) (by omega) (by decide) (tls_at (by omega) (by omega)) rfl ?_
          refine g_aret rfl (Or.inr ⟨_, rfl⟩) dX8_toolAt_28 ?_
          refine rR ?_
          refine g_astore (L1 := [some (.ref 0), some (.int (iZ a)), some (.int (iZ b)), some (.int (iZ i)), some (.null), some (.ref (71 + 4 * b.toNat)), none]) 14 dX8_round_12 (by decide) rfl rfl rfl ?_
          refine g_aload_n 15 dX8_round_14 rfl rfl ?_
          refine g_iload_n 16 dX8_round_15 rfl rfl ?_
          refine g_callV (z := mX8_textAt) (As := [.int (iZ i)]) 19 dX8_round_16 mwX8_textAt ⟨by decide, by decide⟩ rfl wlX8_74 wiX8_textAt wsX8_textAt F0 rfl rfl rfl (nle rfl) (nle rfl) rfl ?_
          refine Go.to [some (.ref 0), some (.int (iZ i))] [] rfl rfl ?_
          refine g_iload_n 1 dX8_textAt_0 rfl rfl ?_
          refine g_ifZ_lt 10 4 dX8_textAt_1 rfl rfl ri (fun c9 => ?_) (fun c9 => ?_)
          · refine g_null 11 dX8_textAt_10 rfl ?_
            refine g_goto 20 dX8_textAt_11 rfl ?_
            refine g_aret rfl (Or.inl rfl) dX8_textAt_20 ?_
            refine rN ?_
            refine g_astoreN (L1 := [some (.ref 0), some (.int (iZ a)), some (.int (iZ b)), some (.int (iZ i)), some (.null), some (.ref (71 + 4 * b.toNat)), some (.null)]) 21 dX8_round_19 (by decide) rfl rfl rfl ?_
            refine g_aloadN 23 dX8_round_21 rfl rfl ?_
            refine g_ifnullN 36 dX8_round_23 rfl ?_
            refine g_iconst (v := iZ (-1)) 37 dX8_round_36 rfl rfl ?_
            refine g_iret rfl dX8_round_37 ?_
            exact k _ (-1) (by decide) H (fun _ _ _ => rfl)
          · refine g_iload_n 5 dX8_textAt_4 rfl rfl ?_
            refine g_bipush (v := iZ (8)) 7 dX8_textAt_5 (by decide +kernel) rfl ?_
            refine g_icZ_lt 14 10 dX8_textAt_7 rfl rfl ri (by decide) (fun c10 => ?_) (fun c10 => ?_)
            · refine g_aload_n 15 dX8_textAt_14 rfl rfl ?_
              refine g_get 18 dX8_textAt_15 faX8_16_X8 F0 rfl rfl ?_
              refine g_iload_n 19 dX8_textAt_18 rfl rfl ?_
              refine g_aaldZ 20 dX8_textAt_19 F3 (by decide) (by omega) (by omega) (by decide) (txs_at (by omega) (by omega)) rfl ?_
              refine g_aret rfl (Or.inr ⟨_, rfl⟩) dX8_textAt_20 ?_
              refine rR ?_
              refine g_astore (L1 := [some (.ref 0), some (.int (iZ a)), some (.int (iZ b)), some (.int (iZ i)), some (.null), some (.ref (71 + 4 * b.toNat)), some (.ref (34 + 2 * i.toNat))]) 21 dX8_round_19 (by decide) rfl rfl rfl ?_
              refine g_aloadN 23 dX8_round_21 rfl rfl ?_
              refine g_ifnullN 36 dX8_round_23 rfl ?_
              refine g_iconst (v := iZ (-1)) 37 dX8_round_36 rfl rfl ?_
              refine g_iret rfl dX8_round_37 ?_
              exact k _ (-1) (by decide) H (fun _ _ _ => rfl)
            · refine g_null 11 dX8_textAt_10 rfl ?_
              refine g_goto 20 dX8_textAt_11 rfl ?_
              refine g_aret rfl (Or.inl rfl) dX8_textAt_20 ?_
              refine rN ?_
              refine g_astoreN (L1 := [some (.ref 0), some (.int (iZ a)), some (.int (iZ b)), some (.int (iZ i)), some (.null), some (.ref (71 + 4 * b.toNat)), some (.null)]) 21 dX8_round_19 (by decide) rfl rfl rfl ?_
              refine g_aloadN 23 dX8_round_21 rfl rfl ?_
              refine g_ifnullN 36 dX8_round_23 rfl ?_
              refine g_iconst (v := iZ (-1)) 37 dX8_round_36 rfl rfl ?_
              refine g_iret rfl dX8_round_37 ?_
              exact k _ (-1) (by decide) H (fun _ _ _ => rfl)
        · refine g_null 19 dX8_toolAt_18 rfl ?_
          refine g_goto 28 dX8_toolAt_19 rfl ?_
          refine g_aret rfl (Or.inl rfl) dX8_toolAt_28 ?_
          refine rN ?_
          refine g_astoreN (L1 := [some (.ref 0), some (.int (iZ a)), some (.int (iZ b)), some (.int (iZ i)), some (.null), some (.null), none]) 14 dX8_round_12 (by decide) rfl rfl rfl ?_
          refine g_aload_n 15 dX8_round_14 rfl rfl ?_
          refine g_iload_n 16 dX8_round_15 rfl rfl ?_
          refine g_callV (z := mX8_textAt) (As := [.int (iZ i)]) 19 dX8_round_16 mwX8_textAt ⟨by decide, by decide⟩ rfl wlX8_74 wiX8_textAt wsX8_textAt F0 rfl rfl rfl (nle rfl) (nle rfl) rfl ?_
          refine Go.to [some (.ref 0), some (.int (iZ i))] [] rfl rfl ?_
          refine g_iload_n 1 dX8_textAt_0 rfl rfl ?_
          refine g_ifZ_lt 10 4 dX8_textAt_1 rfl rfl ri (fun c11 => ?_) (fun c11 => ?_)
          · refine g_null 11 dX8_textAt_10 rfl ?_
            refine g_goto 20 dX8_textAt_11 rfl ?_
            refine g_aret rfl (Or.inl rfl) dX8_textAt_20 ?_
            refine rN ?_
            refine g_astoreN (L1 := [some (.ref 0), some (.int (iZ a)), some (.int (iZ b)), some (.int (iZ i)), some (.null), some (.null), some (.null)]) 21 dX8_round_19 (by decide) rfl rfl rfl ?_
            refine g_aloadN 23 dX8_round_21 rfl rfl ?_
            refine g_ifnullN 36 dX8_round_23 rfl ?_
            refine g_iconst (v := iZ (-1)) 37 dX8_round_36 rfl rfl ?_
            refine g_iret rfl dX8_round_37 ?_
            exact k _ (-1) (by decide) H (fun _ _ _ => rfl)
          · refine g_iload_n 5 dX8_textAt_4 rfl rfl ?_
            refine g_bipush (v := iZ (8)) 7 dX8_textAt_5 (by decide +kernel) rfl ?_
            refine g_icZ_lt 14 10 dX8_textAt_7 rfl rfl ri (by decide) (fun c12 => ?_) (fun c12 => ?_)
            · refine g_aload_n 15 dX8_textAt_14 rfl rfl ?_
              refine g_get 18 dX8_textAt_15 faX8_16_X8 F0 rfl rfl ?_
              refine g_iload_n 19 dX8_textAt_18 rfl rfl ?_
              refine g_aaldZ 20 dX8_textAt_19 F3 (by decide) (by omega) (by omega) (by decide) (txs_at (by omega) (by omega)) rfl ?_
              refine g_aret rfl (Or.inr ⟨_, rfl⟩) dX8_textAt_20 ?_
              refine rR ?_
              refine g_astore (L1 := [some (.ref 0), some (.int (iZ a)), some (.int (iZ b)), some (.int (iZ i)), some (.null), some (.null), some (.ref (34 + 2 * i.toNat))]) 21 dX8_round_19 (by decide) rfl rfl rfl ?_
              refine g_aloadN 23 dX8_round_21 rfl rfl ?_
              refine g_ifnullN 36 dX8_round_23 rfl ?_
              refine g_iconst (v := iZ (-1)) 37 dX8_round_36 rfl rfl ?_
              refine g_iret rfl dX8_round_37 ?_
              exact k _ (-1) (by decide) H (fun _ _ _ => rfl)
            · refine g_null 11 dX8_textAt_10 rfl ?_
              refine g_goto 20 dX8_textAt_11 rfl ?_
              refine g_aret rfl (Or.inl rfl) dX8_textAt_20 ?_
              refine rN ?_
              refine g_astoreN (L1 := [some (.ref 0), some (.int (iZ a)), some (.int (iZ b)), some (.int (iZ i)), some (.null), some (.null), some (.null)]) 21 dX8_round_19 (by decide) rfl rfl rfl ?_
              refine g_aloadN 23 dX8_round_21 rfl rfl ?_
              refine g_ifnullN 36 dX8_round_23 rfl ?_
              refine g_iconst (v := iZ (-1)) 37 dX8_round_36 rfl rfl ?_
              refine g_iret rfl dX8_round_37 ?_
              exact k _ (-1) (by decide) H (fun _ _ _ => rfl)
  · refine g_iload_n 5 dX8_toolAt_4 rfl rfl ?_
    refine g_aload_n 6 dX8_toolAt_5 rfl rfl ?_
    refine g_get 9 dX8_toolAt_6 faX8_26_X8 F0 rfl rfl ?_
    refine g_icZ_ge 18 12 dX8_toolAt_9 rfl rfl ra (by omega) (fun c13 => ?_) (fun c13 => ?_)
    · refine g_null 19 dX8_toolAt_18 rfl ?_
      refine g_goto 28 dX8_toolAt_19 rfl ?_
      refine g_aret rfl (Or.inl rfl) dX8_toolAt_28 ?_
      refine rN ?_
      refine g_astoreN (L1 := [some (.ref 0), some (.int (iZ a)), some (.int (iZ b)), some (.int (iZ i)), some (.null), none, none]) 7 dX8_round_5 (by decide) rfl rfl rfl ?_
      refine g_aload_n 8 dX8_round_7 rfl rfl ?_
      refine g_iload_n 9 dX8_round_8 rfl rfl ?_
      refine g_callV (z := mX8_toolAt) (As := [.int (iZ b)]) 12 dX8_round_9 mwX8_toolAt ⟨by decide, by decide⟩ rfl wlX8_90 wiX8_toolAt wsX8_toolAt F0 rfl rfl rfl (nle rfl) (nle rfl) rfl ?_
      refine Go.to [some (.ref 0), some (.int (iZ b))] [] rfl rfl ?_
      refine g_iload_n 1 dX8_toolAt_0 rfl rfl ?_
      refine g_ifZ_lt 18 4 dX8_toolAt_1 rfl rfl rb (fun c14 => ?_) (fun c14 => ?_)
      · refine g_null 19 dX8_toolAt_18 rfl ?_
        refine g_goto 28 dX8_toolAt_19 rfl ?_
        refine g_aret rfl (Or.inl rfl) dX8_toolAt_28 ?_
        refine rN ?_
        refine g_astoreN (L1 := [some (.ref 0), some (.int (iZ a)), some (.int (iZ b)), some (.int (iZ i)), some (.null), some (.null), none]) 14 dX8_round_12 (by decide) rfl rfl rfl ?_
        refine g_aload_n 15 dX8_round_14 rfl rfl ?_
        refine g_iload_n 16 dX8_round_15 rfl rfl ?_
        refine g_callV (z := mX8_textAt) (As := [.int (iZ i)]) 19 dX8_round_16 mwX8_textAt ⟨by decide, by decide⟩ rfl wlX8_74 wiX8_textAt wsX8_textAt F0 rfl rfl rfl (nle rfl) (nle rfl) rfl ?_
        refine Go.to [some (.ref 0), some (.int (iZ i))] [] rfl rfl ?_
        refine g_iload_n 1 dX8_textAt_0 rfl rfl ?_
        refine g_ifZ_lt 10 4 dX8_textAt_1 rfl rfl ri (fun c15 => ?_) (fun c15 => ?_)
        · refine g_null 11 dX8_textAt_10 rfl ?_
          refine g_goto 20 dX8_textAt_11 rfl ?_
          refine g_aret rfl (Or.inl rfl) dX8_textAt_20 ?_
          refine rN ?_
          refine g_astoreN (L1 := [some (.ref 0), some (.int (iZ a)), some (.int (iZ b)), some (.int (iZ i)), some (.null), some (.null), some (.null)]) 21 dX8_round_19 (by decide) rfl rfl rfl ?_
          refine g_aloadN 23 dX8_round_21 rfl rfl ?_
          refine g_ifnullN 36 dX8_round_23 rfl ?_
          refine g_iconst (v := iZ (-1)) 37 dX8_round_36 rfl rfl ?_
          refine g_iret rfl dX8_round_37 ?_
          exact k _ (-1) (by decide) H (fun _ _ _ => rfl)
        · refine g_iload_n 5 dX8_textAt_4 rfl rfl ?_
          refine g_bipush (v := iZ (8)) 7 dX8_textAt_5 (by decide +kernel) rfl ?_
          refine g_icZ_lt 14 10 dX8_textAt_7 rfl rfl ri (by decide) (fun c16 => ?_) (fun c16 => ?_)
          · refine g_aload_n 15 dX8_textAt_14 rfl rfl ?_
            refine g_get 18 dX8_textAt_15 faX8_16_X8 F0 rfl rfl ?_
            refine g_iload_n 19 dX8_textAt_18 rfl rfl ?_
            refine g_aaldZ 20 dX8_textAt_19 F3 (by decide) (by omega) (by omega) (by decide) (txs_at (by omega) (by omega)) rfl ?_
            refine g_aret rfl (Or.inr ⟨_, rfl⟩) dX8_textAt_20 ?_
            refine rR ?_
            refine g_astore (L1 := [some (.ref 0), some (.int (iZ a)), some (.int (iZ b)), some (.int (iZ i)), some (.null), some (.null), some (.ref (34 + 2 * i.toNat))]) 21 dX8_round_19 (by decide) rfl rfl rfl ?_
            refine g_aloadN 23 dX8_round_21 rfl rfl ?_
            refine g_ifnullN 36 dX8_round_23 rfl ?_
            refine g_iconst (v := iZ (-1)) 37 dX8_round_36 rfl rfl ?_
            refine g_iret rfl dX8_round_37 ?_
            exact k _ (-1) (by decide) H (fun _ _ _ => rfl)
          · refine g_null 11 dX8_textAt_10 rfl ?_
            refine g_goto 20 dX8_textAt_11 rfl ?_
            refine g_aret rfl (Or.inl rfl) dX8_textAt_20 ?_
            refine rN ?_
            refine g_astoreN (L1 := [some (.ref 0), some (.int (iZ a)), some (.int (iZ b)), some (.int (iZ i)), some (.null), some (.null), some (.null)]) 21 dX8_round_19 (by decide) rfl rfl rfl ?_
            refine g_aloadN 23 dX8_round_21 rfl rfl ?_
            refine g_ifnullN 36 dX8_round_23 rfl ?_
            refine g_iconst (v := iZ (-1)) 37 dX8_round_36 rfl rfl ?_
            refine g_iret rfl dX8_round_37 ?_
            exact k _ (-1) (by decide) H (fun _ _ _ => rfl)
      · refine g_iload_n 5 dX8_toolAt_4 rfl rfl ?_
        refine g_aload_n 6 dX8_toolAt_5 rfl rfl ?_
        refine g_get 9 dX8_toolAt_6 faX8_26_X8 F0 rfl rfl ?_
        refine g_icZ_ge 18 12 dX8_toolAt_9 rfl rfl rb (by omega) (fun c17 => ?_) (fun c17 => ?_)
        · refine g_null 19 dX8_toolAt_18 rfl ?_
          refine g_goto 28 dX8_toolAt_19 rfl ?_
          refine g_aret rfl (Or.inl rfl) dX8_toolAt_28 ?_
          refine rN ?_
          refine g_astoreN (L1 := [some (.ref 0), some (.int (iZ a)), some (.int (iZ b)), some (.int (iZ i)), some (.null), some (.null), none]) 14 dX8_round_12 (by decide) rfl rfl rfl ?_
          refine g_aload_n 15 dX8_round_14 rfl rfl ?_
          refine g_iload_n 16 dX8_round_15 rfl rfl ?_
          refine g_callV (z := mX8_textAt) (As := [.int (iZ i)]) 19 dX8_round_16 mwX8_textAt ⟨by decide, by decide⟩ rfl wlX8_74 wiX8_textAt wsX8_textAt F0 rfl rfl rfl (nle rfl) (nle rfl) rfl ?_
          refine Go.to [some (.ref 0), some (.int (iZ i))] [] rfl rfl ?_
          refine g_iload_n 1 dX8_textAt_0 rfl rfl ?_
          refine g_ifZ_lt 10 4 dX8_textAt_1 rfl rfl ri (fun c18 => ?_) (fun c18 => ?_)
          · refine g_null 11 dX8_textAt_10 rfl ?_
            refine g_goto 20 dX8_textAt_11 rfl ?_
            refine g_aret rfl (Or.inl rfl) dX8_textAt_20 ?_
            refine rN ?_
            refine g_astoreN (L1 := [some (.ref 0), some (.int (iZ a)), some (.int (iZ b)), some (.int (iZ i)), some (.null), some (.null), some (.null)]) 21 dX8_round_19 (by decide) rfl rfl rfl ?_
            refine g_aloadN 23 dX8_round_21 rfl rfl ?_
            refine g_ifnullN 36 dX8_round_23 rfl ?_
            refine g_iconst (v := iZ (-1)) 37 dX8_round_36 rfl rfl ?_
            refine g_iret rfl dX8_round_37 ?_
            exact k _ (-1) (by decide) H (fun _ _ _ => rfl)
          · refine g_iload_n 5 dX8_textAt_4 rfl rfl ?_
            refine g_bipush (v := iZ (8)) 7 dX8_textAt_5 (by decide +kernel) rfl ?_
            refine g_icZ_lt 14 10 dX8_textAt_7 rfl rfl ri (by decide) (fun c19 => ?_) (fun c19 => ?_)
            · refine g_aload_n 15 dX8_textAt_14 rfl rfl ?_
              refine g_get 18 dX8_textAt_15 faX8_16_X8 F0 rfl rfl ?_
              refine g_iload_n 19 dX8_textAt_18 rfl rfl ?_
              refine g_aaldZ 20 dX8_textAt_19 F3 (by decide) (by omega) (by omega) (by decide) (txs_at (by omega) (by omega)) rfl ?_
              refine g_aret rfl (Or.inr ⟨_, rfl⟩) dX8_textAt_20 ?_
              refine rR ?_
              refine g_astore (L1 := [some (.ref 0), some (.int (iZ a)), some (.int (iZ b)), some (.int (iZ i)), some (.null), some (.null), some (.ref (34 + 2 * i.toNat))]) 21 dX8_round_19 (by decide) rfl rfl rfl ?_
              refine g_aloadN 23 dX8_round_21 rfl rfl ?_
              refine g_ifnullN 36 dX8_round_23 rfl ?_
              refine g_iconst (v := iZ (-1)) 37 dX8_round_36 rfl rfl ?_
              refine g_iret rfl dX8_round_37 ?_
              exact k _ (-1) (by decide) H (fun _ _ _ => rfl)
            · refine g_null 11 dX8_textAt_10 rfl ?_
              refine g_goto 20 dX8_textAt_11 rfl ?_
              refine g_aret rfl (Or.inl rfl) dX8_textAt_20 ?_
              refine rN ?_
              refine g_astoreN (L1 := [some (.ref 0), some (.int (iZ a)), some (.int (iZ b)), some (.int (iZ i)), some (.null), some (.null), some (.null)]) 21 dX8_round_19 (by decide) rfl rfl rfl ?_
              refine g_aloadN 23 dX8_round_21 rfl rfl ?_
              refine g_ifnullN 36 dX8_round_23 rfl ?_
              refine g_iconst (v := iZ (-1)) 37 dX8_round_36 rfl rfl ?_
              refine g_iret rfl dX8_round_37 ?_
              exact k _ (-1) (by decide) H (fun _ _ _ => rfl)
        · refine g_iload_n 13 dX8_toolAt_12 rfl rfl ?_
          refine g_bipush (v := iZ (12)) 15 dX8_toolAt_13 (by decide +kernel) rfl ?_
          refine g_icZ_lt 22 18 dX8_toolAt_15 rfl rfl rb (by decide) (fun c20 => ?_) (fun c20 => ?_)
          · refine g_aload_n 23 dX8_toolAt_22 rfl rfl ?_
            refine g_get 26 dX8_toolAt_23 faX8_22_X8 F0 rfl rfl ?_
            refine g_iload_n 27 dX8_toolAt_26 rfl rfl ?_
            refine g_aaldZ 28 dX8_toolAt_27 F4 (by decide) (by omega) (by omega) (by decide) (tls_at (by omega) (by omega)) rfl ?_
            refine g_aret rfl (Or.inr ⟨_, rfl⟩) dX8_toolAt_28 ?_
            refine rR ?_
            refine g_astore (L1 := [some (.ref 0), some (.int (iZ a)), some (.int (iZ b)), some (.int (iZ i)), some (.null), some (.ref (71 + 4 * b.toNat)), none]) 14 dX8_round_12 (by decide) rfl rfl rfl ?_
            refine g_aload_n 15 dX8_round_14 rfl rfl ?_
            refine g_iload_n 16 dX8_round_15 rfl rfl ?_
            refine g_callV (z := mX8_textAt) (As := [.int (iZ i)]) 19 dX8_round_16 mwX8_textAt ⟨by decide, by decide⟩ rfl wlX8_74 wiX8_textAt wsX8_textAt F0 rfl rfl rfl (nle rfl) (nle rfl) rfl ?_
            refine Go.to [some (.ref 0), some (.int (iZ i))] [] rfl rfl ?_
            refine g_iload_n 1 dX8_textAt_0 rfl rfl ?_
            refine g_ifZ_lt 10 4 dX8_textAt_1 rfl rfl ri (fun c21 => ?_) (fun c21 => ?_)
            · refine g_null 11 dX8_textAt_10 rfl ?_
              refine g_goto 20 dX8_textAt_11 rfl ?_
              refine g_aret rfl (Or.inl rfl) dX8_textAt_20 ?_
              refine rN ?_
              refine g_astoreN (L1 := [some (.ref 0), some (.int (iZ a)), some (.int (iZ b)), some (.int (iZ i)), some (.null), some (.ref (71 + 4 * b.toNat)), some (.null)]) 21 dX8_round_19 (by decide) rfl rfl rfl ?_
              refine g_aloadN 23 dX8_round_21 rfl rfl ?_
              refine g_ifnullN 36 dX8_round_23 rfl ?_
              refine g_iconst (v := iZ (-1)) 37 dX8_round_36 rfl rfl ?_
              refine g_iret rfl dX8_round_37 ?_
              exact k _ (-1) (by decide) H (fun _ _ _ => rfl)
            · refine g_iload_n 5 dX8_textAt_4 rfl rfl ?_
              refine g_bipush (v := iZ (8)) 7 dX8_textAt_5 (by decide +kernel) rfl ?_
              refine g_icZ_lt 14 10 dX8_textAt_7 rfl rfl ri (by decide) (fun c22 => ?_) (fun c22 => ?_)
              · refine g_aload_n 15 dX8_textAt_14 rfl rfl ?_
                refine g_get 18 dX8_textAt_15 faX8_16_X8 F0 rfl rfl ?_
                refine g_iload_n 19 dX8_textAt_18 rfl rfl ?_
                refine g_aaldZ 20 dX8_textAt_19 F3 (by decide) (by omega) (by omega) (by decide) (txs_at (by omega) (by omega)) rfl ?_
                refine g_aret rfl (Or.inr ⟨_, rfl⟩) dX8_textAt_20 ?_
                refine rR ?_
                refine g_astore (L1 := [some (.ref 0), some (.int (iZ a)), some (.int (iZ b)), some (.int (iZ i)), some (.null), some (.ref (71 + 4 * b.toNat)), some (.ref (34 + 2 * i.toNat))]) 21 dX8_round_19 (by decide) rfl rfl rfl ?_
                refine g_aloadN 23 dX8_round_21 rfl rfl ?_
                refine g_ifnullN 36 dX8_round_23 rfl ?_
                refine g_iconst (v := iZ (-1)) 37 dX8_round_36 rfl rfl ?_
                refine g_iret rfl dX8_round_37 ?_
                exact k _ (-1) (by decide) H (fun _ _ _ => rfl)
              · refine g_null 11 dX8_textAt_10 rfl ?_
                refine g_goto 20 dX8_textAt_11 rfl ?_
                refine g_aret rfl (Or.inl rfl) dX8_textAt_20 ?_
                refine rN ?_
                refine g_astoreN (L1 := [some (.ref 0), some (.int (iZ a)), some (.int (iZ b)), some (.int (iZ i)), some (.null), some (.ref (71 + 4 * b.toNat)), some (.null)]) 21 dX8_round_19 (by decide) rfl rfl rfl ?_
                refine g_aloadN 23 dX8_round_21 rfl rfl ?_
                refine g_ifnullN 36 dX8_round_23 rfl ?_
                refine g_iconst (v := iZ (-1)) 37 dX8_round_36 rfl rfl ?_
                refine g_iret rfl dX8_round_37 ?_
                exact k _ (-1) (by decide) H (fun _ _ _ => rfl)
          · refine g_null 19 dX8_toolAt_18 rfl ?_
            refine g_goto 28 dX8_toolAt_19 rfl ?_
            refine g_aret rfl (Or.inl rfl) dX8_toolAt_28 ?_
            refine rN ?_
            refine g_astoreN (L1 := [some (.ref 0), some (.int (iZ a)), some (.int (iZ b)), some (.int (iZ i)), some (.null), some (.null), none]) 14 dX8_round_12 (by decide) rfl rfl rfl ?_
            refine g_aload_n 15 dX8_round_14 rfl rfl ?_
            refine g_iload_n 16 dX8_round_15 rfl rfl ?_
            refine g_callV (z := mX8_textAt) (As := [.int (iZ i)]) 19 dX8_round_16 mwX8_textAt ⟨by decide, by decide⟩ rfl wlX8_74 wiX8_textAt wsX8_textAt F0 rfl rfl rfl (nle rfl) (nle rfl) rfl ?_
            refine Go.to [some (.ref 0), some (.int (iZ i))] [] rfl rfl ?_
            refine g_iload_n 1 dX8_textAt_0 rfl rfl ?_
            refine g_ifZ_lt 10 4 dX8_textAt_1 rfl rfl ri (fun c23 => ?_) (fun c23 => ?_)
            · refine g_null 11 dX8_textAt_10 rfl ?_
              refine g_goto 20 dX8_textAt_11 rfl ?_
              refine g_aret rfl (Or.inl rfl) dX8_textAt_20 ?_
              refine rN ?_
              refine g_astoreN (L1 := [some (.ref 0), some (.int (iZ a)), some (.int (iZ b)), some (.int (iZ i)), some (.null), some (.null), some (.null)]) 21 dX8_round_19 (by decide) rfl rfl rfl ?_
              refine g_aloadN 23 dX8_round_21 rfl rfl ?_
              refine g_ifnullN 36 dX8_round_23 rfl ?_
              refine g_iconst (v := iZ (-1)) 37 dX8_round_36 rfl rfl ?_
              refine g_iret rfl dX8_round_37 ?_
              exact k _ (-1) (by decide) H (fun _ _ _ => rfl)
            · refine g_iload_n 5 dX8_textAt_4 rfl rfl ?_
              refine g_bipush (v := iZ (8)) 7 dX8_textAt_5 (by decide +kernel) rfl ?_
              refine g_icZ_lt 14 10 dX8_textAt_7 rfl rfl ri (by decide) (fun c24 => ?_) (fun c24 => ?_)
              · refine g_aload_n 15 dX8_textAt_14 rfl rfl ?_
                refine g_get 18 dX8_textAt_15 faX8_16_X8 F0 rfl rfl ?_
                refine g_iload_n 19 dX8_textAt_18 rfl rfl ?_
                refine g_aaldZ 20 dX8_textAt_19 F3 (by decide) (by omega) (by omega) (by decide) (txs_at (by omega) (by omega)) rfl ?_
                refine g_aret rfl (Or.inr ⟨_, rfl⟩) dX8_textAt_20 ?_
                refine rR ?_
                refine g_astore (L1 := [some (.ref 0), some (.int (iZ a)), some (.int (iZ b)), some (.int (iZ i)), some (.null), some (.null), some (.ref (34 + 2 * i.toNat))]) 21 dX8_round_19 (by decide) rfl rfl rfl ?_
                refine g_aloadN 23 dX8_round_21 rfl rfl ?_
                refine g_ifnullN 36 dX8_round_23 rfl ?_
                refine g_iconst (v := iZ (-1)) 37 dX8_round_36 rfl rfl ?_
                refine g_iret rfl dX8_round_37 ?_
                exact k _ (-1) (by decide) H (fun _ _ _ => rfl)
              · refine g_null 11 dX8_textAt_10 rfl ?_
                refine g_goto 20 dX8_textAt_11 rfl ?_
                refine g_aret rfl (Or.inl rfl) dX8_textAt_20 ?_
                refine rN ?_
                refine g_astoreN (L1 := [some (.ref 0), some (.int (iZ a)), some (.int (iZ b)), some (.int (iZ i)), some (.null), some (.null), some (.null)]) 21 dX8_round_19 (by decide) rfl rfl rfl ?_
                refine g_aloadN 23 dX8_round_21 rfl rfl ?_
                refine g_ifnullN 36 dX8_round_23 rfl ?_
                refine g_iconst (v := iZ (-1)) 37 dX8_round_36 rfl rfl ?_
                refine g_iret rfl dX8_round_37 ?_
                exact k _ (-1) (by decide) H (fun _ _ _ => rfl)
    · refine g_iload_n 13 dX8_toolAt_12 rfl rfl ?_
      refine g_bipush (v := iZ (12)) 15 dX8_toolAt_13 (by decide +kernel) rfl ?_
      refine g_icZ_lt 22 18 dX8_toolAt_15 rfl rfl ra (by decide) (fun c25 => ?_) (fun c25 => ?_)
      · refine g_aload_n 23 dX8_toolAt_22 rfl rfl ?_
        refine g_get 26 dX8_toolAt_23 faX8_22_X8 F0 rfl rfl ?_
        refine g_iload_n 27 dX8_toolAt_26 rfl rfl ?_
        refine g_aaldZ 28 dX8_toolAt_27 F4 (by decide) (by omega) (by omega) (by decide) (tls_at (by omega) (by omega)) rfl ?_
        refine g_aret rfl (Or.inr ⟨_, rfl⟩) dX8_toolAt_28 ?_
        refine rR ?_
        refine g_astore (L1 := [some (.ref 0), some (.int (iZ a)), some (.int (iZ b)), some (.int (iZ i)), some (.ref (71 + 4 * a.toNat)), none, none]) 7 dX8_round_5 (by decide) rfl rfl rfl ?_
        refine g_aload_n 8 dX8_round_7 rfl rfl ?_
        refine g_iload_n 9 dX8_round_8 rfl rfl ?_
        refine g_callV (z := mX8_toolAt) (As := [.int (iZ b)]) 12 dX8_round_9 mwX8_toolAt ⟨by decide, by decide⟩ rfl wlX8_90 wiX8_toolAt wsX8_toolAt F0 rfl rfl rfl (nle rfl) (nle rfl) rfl ?_
        refine Go.to [some (.ref 0), some (.int (iZ b))] [] rfl rfl ?_
        refine g_iload_n 1 dX8_toolAt_0 rfl rfl ?_
        refine g_ifZ_lt 18 4 dX8_toolAt_1 rfl rfl rb (fun c26 => ?_) (fun c26 => ?_)
        · refine g_null 19 dX8_toolAt_18 rfl ?_
          refine g_goto 28 dX8_toolAt_19 rfl ?_
          refine g_aret rfl (Or.inl rfl) dX8_toolAt_28 ?_
          refine rN ?_
          refine g_astoreN (L1 := [some (.ref 0), some (.int (iZ a)), some (.int (iZ b)), some (.int (iZ i)), some (.ref (71 + 4 * a.toNat)), some (.null), none]) 14 dX8_round_12 (by decide) rfl rfl rfl ?_
          refine g_aload_n 15 dX8_round_14 rfl rfl ?_
          refine g_iload_n 16 dX8_round_15 rfl rfl ?_
          refine g_callV (z := mX8_textAt) (As := [.int (iZ i)]) 19 dX8_round_16 mwX8_textAt ⟨by decide, by decide⟩ rfl wlX8_74 wiX8_textAt wsX8_textAt F0 rfl rfl rfl (nle rfl) (nle rfl) rfl ?_
          refine Go.to [some (.ref 0), some (.int (iZ i))] [] rfl rfl ?_
          refine g_iload_n 1 dX8_textAt_0 rfl rfl ?_
          refine g_ifZ_lt 10 4 dX8_textAt_1 rfl rfl ri (fun c27 => ?_) (fun c27 => ?_)
          · refine g_null 11 dX8_textAt_10 rfl ?_
            refine g_goto 20 dX8_textAt_11 rfl ?_
            refine g_aret rfl (Or.inl rfl) dX8_textAt_20 ?_
            refine rN ?_
            refine g_astoreN (L1 := [some (.ref 0), some (.int (iZ a)), some (.int (iZ b)), some (.int (iZ i)), some (.ref (71 + 4 * a.toNat)), some (.null), some (.null)]) 21 dX8_round_19 (by decide) rfl rfl rfl ?_
            refine g_aload 23 dX8_round_21 rfl rfl ?_
            refine g_ifnull 26 dX8_round_23 rfl ?_
            refine g_aloadN 28 dX8_round_26 rfl rfl ?_
            refine g_ifnullN 36 dX8_round_28 rfl ?_
            refine g_iconst (v := iZ (-1)) 37 dX8_round_36 rfl rfl ?_
            refine g_iret rfl dX8_round_37 ?_
            exact k _ (-1) (by decide) H (fun _ _ _ => rfl)
          · refine g_iload_n 5 dX8_textAt_4 rfl rfl ?_
            refine g_bipush (v := iZ (8)) 7 dX8_textAt_5 (by decide +kernel) rfl ?_
            refine g_icZ_lt 14 10 dX8_textAt_7 rfl rfl ri (by decide) (fun c28 => ?_) (fun c28 => ?_)
            · refine g_aload_n 15 dX8_textAt_14 rfl rfl ?_
              refine g_get 18 dX8_textAt_15 faX8_16_X8 F0 rfl rfl ?_
              refine g_iload_n 19 dX8_textAt_18 rfl rfl ?_
              refine g_aaldZ 20 dX8_textAt_19 F3 (by decide) (by omega) (by omega) (by decide) (txs_at (by omega) (by omega)) rfl ?_
              refine g_aret rfl (Or.inr ⟨_, rfl⟩) dX8_textAt_20 ?_
              refine rR ?_
              refine g_astore (L1 := [some (.ref 0), some (.int (iZ a)), some (.int (iZ b)), some (.int (iZ i)), some (.ref (71 + 4 * a.toNat)), some (.null), some (.ref (34 + 2 * i.toNat))]) 21 dX8_round_19 (by decide) rfl rfl rfl ?_
              refine g_aload 23 dX8_round_21 rfl rfl ?_
              refine g_ifnull 26 dX8_round_23 rfl ?_
              refine g_aloadN 28 dX8_round_26 rfl rfl ?_
              refine g_ifnullN 36 dX8_round_28 rfl ?_
              refine g_iconst (v := iZ (-1)) 37 dX8_round_36 rfl rfl ?_
              refine g_iret rfl dX8_round_37 ?_
              exact k _ (-1) (by decide) H (fun _ _ _ => rfl)
            · refine g_null 11 dX8_textAt_10 rfl ?_
              refine g_goto 20 dX8_textAt_11 rfl ?_
              refine g_aret rfl (Or.inl rfl) dX8_textAt_20 ?_
              refine rN ?_
              refine g_astoreN (L1 := [some (.ref 0), some (.int (iZ a)), some (.int (iZ b)), some (.int (iZ i)), some (.ref (71 + 4 * a.toNat)), some (.null), some (.null)]) 21 dX8_round_19 (by decide) rfl rfl rfl ?_
              refine g_aload 23 dX8_round_21 rfl rfl ?_
              refine g_ifnull 26 dX8_round_23 rfl ?_
              refine g_aloadN 28 dX8_round_26 rfl rfl ?_
              refine g_ifnullN 36 dX8_round_28 rfl ?_
              refine g_iconst (v := iZ (-1)) 37 dX8_round_36 rfl rfl ?_
              refine g_iret rfl dX8_round_37 ?_
              exact k _ (-1) (by decide) H (fun _ _ _ => rfl)
        · refine g_iload_n 5 dX8_toolAt_4 rfl rfl ?_
          refine g_aload_n 6 dX8_toolAt_5 rfl rfl ?_
          refine g_get 9 dX8_toolAt_6 faX8_26_X8 F0 rfl rfl ?_
          refine g_icZ_ge 18 12 dX8_toolAt_9 rfl rfl rb (by omega) (fun c29 => ?_) (fun c29 => ?_)
          · refine g_null 19 dX8_toolAt_18 rfl ?_
            refine g_goto 28 dX8_toolAt_19 rfl ?_
            refine g_aret rfl (Or.inl rfl) dX8_toolAt_28 ?_
            refine rN ?_
            refine g_astoreN (L1 := [some (.ref 0), some (.int (iZ a)), some (.int (iZ b)), some (.int (iZ i)), some (.ref (71 + 4 * a.toNat)), some (.null), none]) 14 dX8_round_12 (by decide) rfl rfl rfl ?_
            refine g_aload_n 15 dX8_round_14 rfl rfl ?_
            refine g_iload_n 16 dX8_round_15 rfl rfl ?_
            refine g_callV (z := mX8_textAt) (As := [.int (iZ i)]) 19 dX8_round_16 mwX8_textAt ⟨by decide, by decide⟩ rfl wlX8_74 wiX8_textAt wsX8_textAt F0 rfl rfl rfl (nle rfl) (nle rfl) rfl ?_
            refine Go.to [some (.ref 0), some (.int (iZ i))] [] rfl rfl ?_
            refine g_iload_n 1 dX8_textAt_0 rfl rfl ?_
            refine g_ifZ_lt 10 4 dX8_textAt_1 rfl rfl ri (fun c30 => ?_) (fun c30 => ?_)
            · refine g_null 11 dX8_textAt_10 rfl ?_
              refine g_goto 20 dX8_textAt_11 rfl ?_
              refine g_aret rfl (Or.inl rfl) dX8_textAt_20 ?_
              refine rN ?_
              refine g_astoreN (L1 := [some (.ref 0), some (.int (iZ a)), some (.int (iZ b)), some (.int (iZ i)), some (.ref (71 + 4 * a.toNat)), some (.null), some (.null)]) 21 dX8_round_19 (by decide) rfl rfl rfl ?_
              refine g_aload 23 dX8_round_21 rfl rfl ?_
              refine g_ifnull 26 dX8_round_23 rfl ?_
              refine g_aloadN 28 dX8_round_26 rfl rfl ?_
              refine g_ifnullN 36 dX8_round_28 rfl ?_
              refine g_iconst (v := iZ (-1)) 37 dX8_round_36 rfl rfl ?_
              refine g_iret rfl dX8_round_37 ?_
              exact k _ (-1) (by decide) H (fun _ _ _ => rfl)
            · refine g_iload_n 5 dX8_textAt_4 rfl rfl ?_
              refine g_bipush (v := iZ (8)) 7 dX8_textAt_5 (by decide +kernel) rfl ?_
              refine g_icZ_lt 14 10 dX8_textAt_7 rfl rfl ri (by decide) (fun c31 => ?_) (fun c31 => ?_)
              · refine g_aload_n 15 dX8_textAt_14 rfl rfl ?_
                refine g_get 18 dX8_textAt_15 faX8_16_X8 F0 rfl rfl ?_
                refine g_iload_n 19 dX8_textAt_18 rfl rfl ?_
                refine g_aaldZ 20 dX8_textAt_19 F3 (by decide) (by omega) (by omega) (by decide) (txs_at (by omega) (by omega)) rfl ?_
                refine g_aret rfl (Or.inr ⟨_, rfl⟩) dX8_textAt_20 ?_
                refine rR ?_
                refine g_astore (L1 := [some (.ref 0), some (.int (iZ a)), some (.int (iZ b)), some (.int (iZ i)), some (.ref (71 + 4 * a.toNat)), some (.null), some (.ref (34 + 2 * i.toNat))]) 21 dX8_round_19 (by decide) rfl rfl rfl ?_
                refine g_aload 23 dX8_round_21 rfl rfl ?_
                refine g_ifnull 26 dX8_round_23 rfl ?_
                refine g_aloadN 28 dX8_round_26 rfl rfl ?_
                refine g_ifnullN 36 dX8_round_28 rfl ?_
                refine g_iconst (v := iZ (-1)) 37 dX8_round_36 rfl rfl ?_
                refine g_iret rfl dX8_round_37 ?_
                exact k _ (-1) (by decide) H (fun _ _ _ => rfl)
              · refine g_null 11 dX8_textAt_10 rfl ?_
                refine g_goto 20 dX8_textAt_11 rfl ?_
                refine g_aret rfl (Or.inl rfl) dX8_textAt_20 ?_
                refine rN ?_
                refine g_astoreN (L1 := [some (.ref 0), some (.int (iZ a)), some (.int (iZ b)), some (.int (iZ i)), some (.ref (71 + 4 * a.toNat)), some (.null), some (.null)]) 21 dX8_round_19 (by decide) rfl rfl rfl ?_
                refine g_aload 23 dX8_round_21 rfl rfl ?_
                refine g_ifnull 26 dX8_round_23 rfl ?_
                refine g_aloadN 28 dX8_round_26 rfl rfl ?_
                refine g_ifnullN 36 dX8_round_28 rfl ?_
                refine g_iconst (v := iZ (-1)) 37 dX8_round_36 rfl rfl ?_
                refine g_iret rfl dX8_round_37 ?_
                exact k _ (-1) (by decide) H (fun _ _ _ => rfl)
          · refine g_iload_n 13 dX8_toolAt_12 rfl rfl ?_
            refine g_bipush (v := iZ (12)) 15 dX8_toolAt_13 (by decide +kernel) rfl ?_
            refine g_icZ_lt 22 18 dX8_toolAt_15 rfl rfl rb (by decide) (fun c32 => ?_) (fun c32 => ?_)
            · refine g_aload_n 23 dX8_toolAt_22 rfl rfl ?_
              refine g_get 26 dX8_toolAt_23 faX8_22_X8 F0 rfl rfl ?_
              refine g_iload_n 27 dX8_toolAt_26 rfl rfl ?_
              refine g_aaldZ 28 dX8_toolAt_27 F4 (by decide) (by omega) (by omega) (by decide) (tls_at (by omega) (by omega)) rfl ?_
              refine g_aret rfl (Or.inr ⟨_, rfl⟩) dX8_toolAt_28 ?_
              refine rR ?_
              refine g_astore (L1 := [some (.ref 0), some (.int (iZ a)), some (.int (iZ b)), some (.int (iZ i)), some (.ref (71 + 4 * a.toNat)), some (.ref (71 + 4 * b.toNat)), none]) 14 dX8_round_12 (by decide) rfl rfl rfl ?_
              refine g_aload_n 15 dX8_round_14 rfl rfl ?_
              refine g_iload_n 16 dX8_round_15 rfl rfl ?_
              refine g_callV (z := mX8_textAt) (As := [.int (iZ i)]) 19 dX8_round_16 mwX8_textAt ⟨by decide, by decide⟩ rfl wlX8_74 wiX8_textAt wsX8_textAt F0 rfl rfl rfl (nle rfl) (nle rfl) rfl ?_
              refine Go.to [some (.ref 0), some (.int (iZ i))] [] rfl rfl ?_
              refine g_iload_n 1 dX8_textAt_0 rfl rfl ?_
              refine g_ifZ_lt 10 4 dX8_textAt_1 rfl rfl ri (fun c33 => ?_) (fun c33 => ?_)
              · refine g_null 11 dX8_textAt_10 rfl ?_
                refine g_goto 20 dX8_textAt_11 rfl ?_
                refine g_aret rfl (Or.inl rfl) dX8_textAt_20 ?_
                refine rN ?_
                refine g_astoreN (L1 := [some (.ref 0), some (.int (iZ a)), some (.int (iZ b)), some (.int (iZ i)), some (.ref (71 + 4 * a.toNat)), some (.ref (71 + 4 * b.toNat)), some (.null)]) 21 dX8_round_19 (by decide) rfl rfl rfl ?_
                refine g_aload 23 dX8_round_21 rfl rfl ?_
                refine g_ifnull 26 dX8_round_23 rfl ?_
                refine g_aload 28 dX8_round_26 rfl rfl ?_
                refine g_ifnull 31 dX8_round_28 rfl ?_
                refine g_aloadN 33 dX8_round_31 rfl rfl ?_
                refine g_ifnonnullN 36 dX8_round_33 rfl ?_
                refine g_iconst (v := iZ (-1)) 37 dX8_round_36 rfl rfl ?_
                refine g_iret rfl dX8_round_37 ?_
                exact k _ (-1) (by decide) H (fun _ _ _ => rfl)
              · refine g_iload_n 5 dX8_textAt_4 rfl rfl ?_
                refine g_bipush (v := iZ (8)) 7 dX8_textAt_5 (by decide +kernel) rfl ?_
                refine g_icZ_lt 14 10 dX8_textAt_7 rfl rfl ri (by decide) (fun c34 => ?_) (fun c34 => ?_)
                · refine g_aload_n 15 dX8_textAt_14 rfl rfl ?_
                  refine g_get 18 dX8_textAt_15 faX8_16_X8 F0 rfl rfl ?_
                  refine g_iload_n 19 dX8_textAt_18 rfl rfl ?_
                  refine g_aaldZ 20 dX8_textAt_19 F3 (by decide) (by omega) (by omega) (by decide) (txs_at (by omega) (by omega)) rfl ?_
                  refine g_aret rfl (Or.inr ⟨_, rfl⟩) dX8_textAt_20 ?_
                  refine rR ?_
                  refine g_astore (L1 := [some (.ref 0), some (.int (iZ a)), some (.int (iZ b)), some (.int (iZ i)), some (.ref (71 + 4 * a.toNat)), some (.ref (71 + 4 * b.toNat)), some (.ref (34 + 2 * i.toNat))]) 21 dX8_round_19 (by decide) rfl rfl rfl ?_
                  refine g_aload 23 dX8_round_21 rfl rfl ?_
                  refine g_ifnull 26 dX8_round_23 rfl ?_
                  refine g_aload 28 dX8_round_26 rfl rfl ?_
                  refine g_ifnull 31 dX8_round_28 rfl ?_
                  refine g_aload 33 dX8_round_31 rfl rfl ?_
                  refine g_ifnonnull 38 dX8_round_33 rfl ?_
                  refine g_aload_n 39 dX8_round_38 rfl rfl ?_
                  refine g_aload 41 dX8_round_39 rfl rfl ?_
                  refine g_aload 43 dX8_round_41 rfl rfl ?_
                  refine g_aload 45 dX8_round_43 rfl rfl ?_
                  refine g_callV (z := mX8_goneRound) (As := [.ref (71 + 4 * a.toNat), .ref (71 + 4 * b.toNat), .ref (34 + 2 * i.toNat)]) 48 dX8_round_45 mwX8_goneRound ⟨by decide, by decide⟩ rfl wlX8_166 wiX8_goneRound wsX8_goneRound F0 rfl rfl rfl (nle rfl) (nle rfl) rfl ?_
                  refine y_round HC HS  (by omega) (by omega) (by omega) (fun h36 z35 rz35 H37 s38 => ?_)
                  refine rI ?_
                  refine g_iret rfl dX8_round_48 ?_
                  have zz := H.scr s38 H37
                  exact k _ (z35) rz35 zz.1 zz.2
                · refine g_null 11 dX8_textAt_10 rfl ?_
                  refine g_goto 20 dX8_textAt_11 rfl ?_
                  refine g_aret rfl (Or.inl rfl) dX8_textAt_20 ?_
                  refine rN ?_
                  refine g_astoreN (L1 := [some (.ref 0), some (.int (iZ a)), some (.int (iZ b)), some (.int (iZ i)), some (.ref (71 + 4 * a.toNat)), some (.ref (71 + 4 * b.toNat)), some (.null)]) 21 dX8_round_19 (by decide) rfl rfl rfl ?_
                  refine g_aload 23 dX8_round_21 rfl rfl ?_
                  refine g_ifnull 26 dX8_round_23 rfl ?_
                  refine g_aload 28 dX8_round_26 rfl rfl ?_
                  refine g_ifnull 31 dX8_round_28 rfl ?_
                  refine g_aloadN 33 dX8_round_31 rfl rfl ?_
                  refine g_ifnonnullN 36 dX8_round_33 rfl ?_
                  refine g_iconst (v := iZ (-1)) 37 dX8_round_36 rfl rfl ?_
                  refine g_iret rfl dX8_round_37 ?_
                  exact k _ (-1) (by decide) H (fun _ _ _ => rfl)
            · refine g_null 19 dX8_toolAt_18 rfl ?_
              refine g_goto 28 dX8_toolAt_19 rfl ?_
              refine g_aret rfl (Or.inl rfl) dX8_toolAt_28 ?_
              refine rN ?_
              refine g_astoreN (L1 := [some (.ref 0), some (.int (iZ a)), some (.int (iZ b)), some (.int (iZ i)), some (.ref (71 + 4 * a.toNat)), some (.null), none]) 14 dX8_round_12 (by decide) rfl rfl rfl ?_
              refine g_aload_n 15 dX8_round_14 rfl rfl ?_
              refine g_iload_n 16 dX8_round_15 rfl rfl ?_
              refine g_callV (z := mX8_textAt) (As := [.int (iZ i)]) 19 dX8_round_16 mwX8_textAt ⟨by decide, by decide⟩ rfl wlX8_74 wiX8_textAt wsX8_textAt F0 rfl rfl rfl (nle rfl) (nle rfl) rfl ?_
              refine Go.to [some (.ref 0), some (.int (iZ i))] [] rfl rfl ?_
              refine g_iload_n 1 dX8_textAt_0 rfl rfl ?_
              refine g_ifZ_lt 10 4 dX8_textAt_1 rfl rfl ri (fun c39 => ?_) (fun c39 => ?_)
              · refine g_null 11 dX8_textAt_10 rfl ?_
                refine g_goto 20 dX8_textAt_11 rfl ?_
                refine g_aret rfl (Or.inl rfl) dX8_textAt_20 ?_
                refine rN ?_
                refine g_astoreN (L1 := [some (.ref 0), some (.int (iZ a)), some (.int (iZ b)), some (.int (iZ i)), some (.ref (71 + 4 * a.toNat)), some (.null), some (.null)]) 21 dX8_round_19 (by decide) rfl rfl rfl ?_
                refine g_aload 23 dX8_round_21 rfl rfl ?_
                refine g_ifnull 26 dX8_round_23 rfl ?_
                refine g_aloadN 28 dX8_round_26 rfl rfl ?_
                refine g_ifnullN 36 dX8_round_28 rfl ?_
                refine g_iconst (v := iZ (-1)) 37 dX8_round_36 rfl rfl ?_
                refine g_iret rfl dX8_round_37 ?_
                exact k _ (-1) (by decide) H (fun _ _ _ => rfl)
              · refine g_iload_n 5 dX8_textAt_4 rfl rfl ?_
                refine g_bipush (v := iZ (8)) 7 dX8_textAt_5 (by decide +kernel) rfl ?_
                refine g_icZ_lt 14 10 dX8_textAt_7 rfl rfl ri (by decide) (fun c40 => ?_) (fun c40 => ?_)
                · refine g_aload_n 15 dX8_textAt_14 rfl rfl ?_
                  refine g_get 18 dX8_textAt_15 faX8_16_X8 F0 rfl rfl ?_
                  refine g_iload_n 19 dX8_textAt_18 rfl rfl ?_
                  refine g_aaldZ 20 dX8_textAt_19 F3 (by decide) (by omega) (by omega) (by decide) (txs_at (by omega) (by omega)) rfl ?_
                  refine g_aret rfl (Or.inr ⟨_, rfl⟩) dX8_textAt_20 ?_
                  refine rR ?_
                  refine g_astore (L1 := [some (.ref 0), some (.int (iZ a)), some (.int (iZ b)), some (.int (iZ i)), some (.ref (71 + 4 * a.toNat)), some (.null), some (.ref (34 + 2 * i.toNat))]) 21 dX8_round_19 (by decide) rfl rfl rfl ?_
                  refine g_aload 23 dX8_round_21 rfl rfl ?_
                  refine g_ifnull 26 dX8_round_23 rfl ?_
                  refine g_aloadN 28 dX8_round_26 rfl rfl ?_
                  refine g_ifnullN 36 dX8_round_28 rfl ?_
                  refine g_iconst (v := iZ (-1)) 37 dX8_round_36 rfl rfl ?_
                  refine g_iret rfl dX8_round_37 ?_
                  exact k _ (-1) (by decide) H (fun _ _ _ => rfl)
                · refine g_null 11 dX8_textAt_10 rfl ?_
                  refine g_goto 20 dX8_textAt_11 rfl ?_
                  refine g_aret rfl (Or.inl rfl) dX8_textAt_20 ?_
                  refine rN ?_
                  refine g_astoreN (L1 := [some (.ref 0), some (.int (iZ a)), some (.int (iZ b)), some (.int (iZ i)), some (.ref (71 + 4 * a.toNat)), some (.null), some (.null)]) 21 dX8_round_19 (by decide) rfl rfl rfl ?_
                  refine g_aload 23 dX8_round_21 rfl rfl ?_
                  refine g_ifnull 26 dX8_round_23 rfl ?_
                  refine g_aloadN 28 dX8_round_26 rfl rfl ?_
                  refine g_ifnullN 36 dX8_round_28 rfl ?_
                  refine g_iconst (v := iZ (-1)) 37 dX8_round_36 rfl rfl ?_
                  refine g_iret rfl dX8_round_37 ?_
                  exact k _ (-1) (by decide) H (fun _ _ _ => rfl)
      · refine g_null 19 dX8_toolAt_18 rfl ?_
        refine g_goto 28 dX8_toolAt_19 rfl ?_
        refine g_aret rfl (Or.inl rfl) dX8_toolAt_28 ?_
        refine rN ?_
        refine g_astoreN (L1 := [some (.ref 0), some (.int (iZ a)), some (.int (iZ b)), some (.int (iZ i)), some (.null), none, none]) 7 dX8_round_5 (by decide) rfl rfl rfl ?_
        refine g_aload_n 8 dX8_round_7 rfl rfl ?_
        refine g_iload_n 9 dX8_round_8 rfl rfl ?_
        refine g_callV (z := mX8_toolAt) (As := [.int (iZ b)]) 12 dX8_round_9 mwX8_toolAt ⟨by decide, by decide⟩ rfl wlX8_90 wiX8_toolAt wsX8_toolAt F0 rfl rfl rfl (nle rfl) (nle rfl) rfl ?_
        refine Go.to [some (.ref 0), some (.int (iZ b))] [] rfl rfl ?_
        refine g_iload_n 1 dX8_toolAt_0 rfl rfl ?_
        refine g_ifZ_lt 18 4 dX8_toolAt_1 rfl rfl rb (fun c41 => ?_) (fun c41 => ?_)
        · refine g_null 19 dX8_toolAt_18 rfl ?_
          refine g_goto 28 dX8_toolAt_19 rfl ?_
          refine g_aret rfl (Or.inl rfl) dX8_toolAt_28 ?_
          refine rN ?_
          refine g_astoreN (L1 := [some (.ref 0), some (.int (iZ a)), some (.int (iZ b)), some (.int (iZ i)), some (.null), some (.null), none]) 14 dX8_round_12 (by decide) rfl rfl rfl ?_
          refine g_aload_n 15 dX8_round_14 rfl rfl ?_
          refine g_iload_n 16 dX8_round_15 rfl rfl ?_
          refine g_callV (z := mX8_textAt) (As := [.int (iZ i)]) 19 dX8_round_16 mwX8_textAt ⟨by decide, by decide⟩ rfl wlX8_74 wiX8_textAt wsX8_textAt F0 rfl rfl rfl (nle rfl) (nle rfl) rfl ?_
          refine Go.to [some (.ref 0), some (.int (iZ i))] [] rfl rfl ?_
          refine g_iload_n 1 dX8_textAt_0 rfl rfl ?_
          refine g_ifZ_lt 10 4 dX8_textAt_1 rfl rfl ri (fun c42 => ?_) (fun c42 => ?_)
          · refine g_null 11 dX8_textAt_10 rfl ?_
            refine g_goto 20 dX8_textAt_11 rfl ?_
            refine g_aret rfl (Or.inl rfl) dX8_textAt_20 ?_
            refine rN ?_
            refine g_astoreN (L1 := [some (.ref 0), some (.int (iZ a)), some (.int (iZ b)), some (.int (iZ i)), some (.null), some (.null), some (.null)]) 21 dX8_round_19 (by decide) rfl rfl rfl ?_
            refine g_aloadN 23 dX8_round_21 rfl rfl ?_
            refine g_ifnullN 36 dX8_round_23 rfl ?_
            refine g_iconst (v := iZ (-1)) 37 dX8_round_36 rfl rfl ?_
            refine g_iret rfl dX8_round_37 ?_
            exact k _ (-1) (by decide) H (fun _ _ _ => rfl)
          · refine g_iload_n 5 dX8_textAt_4 rfl rfl ?_
            refine g_bipush (v := iZ (8)) 7 dX8_textAt_5 (by decide +kernel) rfl ?_
            refine g_icZ_lt 14 10 dX8_textAt_7 rfl rfl ri (by decide) (fun c43 => ?_) (fun c43 => ?_)
            · refine g_aload_n 15 dX8_textAt_14 rfl rfl ?_
              refine g_get 18 dX8_textAt_15 faX8_16_X8 F0 rfl rfl ?_
              refine g_iload_n 19 dX8_textAt_18 rfl rfl ?_
              refine g_aaldZ 20 dX8_textAt_19 F3 (by decide) (by omega) (by omega) (by decide) (txs_at (by omega) (by omega)) rfl ?_
              refine g_aret rfl (Or.inr ⟨_, rfl⟩) dX8_textAt_20 ?_
              refine rR ?_
              refine g_astore (L1 := [some (.ref 0), some (.int (iZ a)), some (.int (iZ b)), some (.int (iZ i)), some (.null), some (.null), some (.ref (34 + 2 * i.toNat))]) 21 dX8_round_19 (by decide) rfl rfl rfl ?_
              refine g_aloadN 23 dX8_round_21 rfl rfl ?_
              refine g_ifnullN 36 dX8_round_23 rfl ?_
              refine g_iconst (v := iZ (-1)) 37 dX8_round_36 rfl rfl ?_
              refine g_iret rfl dX8_round_37 ?_
              exact k _ (-1) (by decide) H (fun _ _ _ => rfl)
            · refine g_null 11 dX8_textAt_10 rfl ?_
              refine g_goto 20 dX8_textAt_11 rfl ?_
              refine g_aret rfl (Or.inl rfl) dX8_textAt_20 ?_
              refine rN ?_
              refine g_astoreN (L1 := [some (.ref 0), some (.int (iZ a)), some (.int (iZ b)), some (.int (iZ i)), some (.null), some (.null), some (.null)]) 21 dX8_round_19 (by decide) rfl rfl rfl ?_
              refine g_aloadN 23 dX8_round_21 rfl rfl ?_
              refine g_ifnullN 36 dX8_round_23 rfl ?_
              refine g_iconst (v := iZ (-1)) 37 dX8_round_36 rfl rfl ?_
              refine g_iret rfl dX8_round_37 ?_
              exact k _ (-1) (by decide) H (fun _ _ _ => rfl)
        · refine g_iload_n 5 dX8_toolAt_4 rfl rfl ?_
          refine g_aload_n 6 dX8_toolAt_5 rfl rfl ?_
          refine g_get 9 dX8_toolAt_6 faX8_26_X8 F0 rfl rfl ?_
          refine g_icZ_ge 18 12 dX8_toolAt_9 rfl rfl rb (by omega) (fun c44 => ?_) (fun c44 => ?_)
          · refine g_null 19 dX8_toolAt_18 rfl ?_
            refine g_goto 28 dX8_toolAt_19 rfl ?_
            refine g_aret rfl (Or.inl rfl) dX8_toolAt_28 ?_
            refine rN ?_
            refine g_astoreN (L1 := [some (.ref 0), some (.int (iZ a)), some (.int (iZ b)), some (.int (iZ i)), some (.null), some (.null), none]) 14 dX8_round_12 (by decide) rfl rfl rfl ?_
            refine g_aload_n 15 dX8_round_14 rfl rfl ?_
            refine g_iload_n 16 dX8_round_15 rfl rfl ?_
            refine g_callV (z := mX8_textAt) (As := [.int (iZ i)]) 19 dX8_round_16 mwX8_textAt ⟨by decide, by decide⟩ rfl wlX8_74 wiX8_textAt wsX8_textAt F0 rfl rfl rfl (nle rfl) (nle rfl) rfl ?_
            refine Go.to [some (.ref 0), some (.int (iZ i))] [] rfl rfl ?_
            refine g_iload_n 1 dX8_textAt_0 rfl rfl ?_
            refine g_ifZ_lt 10 4 dX8_textAt_1 rfl rfl ri (fun c45 => ?_) (fun c45 => ?_)
            · refine g_null 11 dX8_textAt_10 rfl ?_
              refine g_goto 20 dX8_textAt_11 rfl ?_
              refine g_aret rfl (Or.inl rfl) dX8_textAt_20 ?_
              refine rN ?_
              refine g_astoreN (L1 := [some (.ref 0), some (.int (iZ a)), some (.int (iZ b)), some (.int (iZ i)), some (.null), some (.null), some (.null)]) 21 dX8_round_19 (by decide) rfl rfl rfl ?_
              refine g_aloadN 23 dX8_round_21 rfl rfl ?_
              refine g_ifnullN 36 dX8_round_23 rfl ?_
              refine g_iconst (v := iZ (-1)) 37 dX8_round_36 rfl rfl ?_
              refine g_iret rfl dX8_round_37 ?_
              exact k _ (-1) (by decide) H (fun _ _ _ => rfl)
            · refine g_iload_n 5 dX8_textAt_4 rfl rfl ?_
              refine g_bipush (v := iZ (8)) 7 dX8_textAt_5 (by decide +kernel) rfl ?_
              refine g_icZ_lt 14 10 dX8_textAt_7 rfl rfl ri (by decide) (fun c46 => ?_) (fun c46 => ?_)
              · refine g_aload_n 15 dX8_textAt_14 rfl rfl ?_
                refine g_get 18 dX8_textAt_15 faX8_16_X8 F0 rfl rfl ?_
                refine g_iload_n 19 dX8_textAt_18 rfl rfl ?_
                refine g_aaldZ 20 dX8_textAt_19 F3 (by decide) (by omega) (by omega) (by decide) (txs_at (by omega) (by omega)) rfl ?_
                refine g_aret rfl (Or.inr ⟨_, rfl⟩) dX8_textAt_20 ?_
                refine rR ?_
                refine g_astore (L1 := [some (.ref 0), some (.int (iZ a)), some (.int (iZ b)), some (.int (iZ i)), some (.null), some (.null), some (.ref (34 + 2 * i.toNat))]) 21 dX8_round_19 (by decide) rfl rfl rfl ?_
                refine g_aloadN 23 dX8_round_21 rfl rfl ?_
                refine g_ifnullN 36 dX8_round_23 rfl ?_
                refine g_iconst (v := iZ (-1)) 37 dX8_round_36 rfl rfl ?_
                refine g_iret rfl dX8_round_37 ?_
                exact k _ (-1) (by decide) H (fun _ _ _ => rfl)
              · refine g_null 11 dX8_textAt_10 rfl ?_
                refine g_goto 20 dX8_textAt_11 rfl ?_
                refine g_aret rfl (Or.inl rfl) dX8_textAt_20 ?_
                refine rN ?_
                refine g_astoreN (L1 := [some (.ref 0), some (.int (iZ a)), some (.int (iZ b)), some (.int (iZ i)), some (.null), some (.null), some (.null)]) 21 dX8_round_19 (by decide) rfl rfl rfl ?_
                refine g_aloadN 23 dX8_round_21 rfl rfl ?_
                refine g_ifnullN 36 dX8_round_23 rfl ?_
                refine g_iconst (v := iZ (-1)) 37 dX8_round_36 rfl rfl ?_
                refine g_iret rfl dX8_round_37 ?_
                exact k _ (-1) (by decide) H (fun _ _ _ => rfl)
          · refine g_iload_n 13 dX8_toolAt_12 rfl rfl ?_
            refine g_bipush (v := iZ (12)) 15 dX8_toolAt_13 (by decide +kernel) rfl ?_
            refine g_icZ_lt 22 18 dX8_toolAt_15 rfl rfl rb (by decide) (fun c47 => ?_) (fun c47 => ?_)
            · refine g_aload_n 23 dX8_toolAt_22 rfl rfl ?_
              refine g_get 26 dX8_toolAt_23 faX8_22_X8 F0 rfl rfl ?_
              refine g_iload_n 27 dX8_toolAt_26 rfl rfl ?_
              refine g_aaldZ 28 dX8_toolAt_27 F4 (by decide) (by omega) (by omega) (by decide) (tls_at (by omega) (by omega)) rfl ?_
              refine g_aret rfl (Or.inr ⟨_, rfl⟩) dX8_toolAt_28 ?_
              refine rR ?_
              refine g_astore (L1 := [some (.ref 0), some (.int (iZ a)), some (.int (iZ b)), some (.int (iZ i)), some (.null), some (.ref (71 + 4 * b.toNat)), none]) 14 dX8_round_12 (by decide) rfl rfl rfl ?_
              refine g_aload_n 15 dX8_round_14 rfl rfl ?_
              refine g_iload_n 16 dX8_round_15 rfl rfl ?_
              refine g_callV (z := mX8_textAt) (As := [.int (iZ i)]) 19 dX8_round_16 mwX8_textAt ⟨by decide, by decide⟩ rfl wlX8_74 wiX8_textAt wsX8_textAt F0 rfl rfl rfl (nle rfl) (nle rfl) rfl ?_
              refine Go.to [some (.ref 0), some (.int (iZ i))] [] rfl rfl ?_
              refine g_iload_n 1 dX8_textAt_0 rfl rfl ?_
              refine g_ifZ_lt 10 4 dX8_textAt_1 rfl rfl ri (fun c48 => ?_) (fun c48 => ?_)
              · refine g_null 11 dX8_textAt_10 rfl ?_
                refine g_goto 20 dX8_textAt_11 rfl ?_
                refine g_aret rfl (Or.inl rfl) dX8_textAt_20 ?_
                refine rN ?_
                refine g_astoreN (L1 := [some (.ref 0), some (.int (iZ a)), some (.int (iZ b)), some (.int (iZ i)), some (.null), some (.ref (71 + 4 * b.toNat)), some (.null)]) 21 dX8_round_19 (by decide) rfl rfl rfl ?_
                refine g_aloadN 23 dX8_round_21 rfl rfl ?_
                refine g_ifnullN 36 dX8_round_23 rfl ?_
                refine g_iconst (v := iZ (-1)) 37 dX8_round_36 rfl rfl ?_
                refine g_iret rfl dX8_round_37 ?_
                exact k _ (-1) (by decide) H (fun _ _ _ => rfl)
              · refine g_iload_n 5 dX8_textAt_4 rfl rfl ?_
                refine g_bipush (v := iZ (8)) 7 dX8_textAt_5 (by decide +kernel) rfl ?_
                refine g_icZ_lt 14 10 dX8_textAt_7 rfl rfl ri (by decide) (fun c49 => ?_) (fun c49 => ?_)
                · refine g_aload_n 15 dX8_textAt_14 rfl rfl ?_
                  refine g_get 18 dX8_textAt_15 faX8_16_X8 F0 rfl rfl ?_
                  refine g_iload_n 19 dX8_textAt_18 rfl rfl ?_
                  refine g_aaldZ 20 dX8_textAt_19 F3 (by decide) (by omega) (by omega) (by decide) (txs_at (by omega) (by omega)) rfl ?_
                  refine g_aret rfl (Or.inr ⟨_, rfl⟩) dX8_textAt_20 ?_
                  refine rR ?_
                  refine g_astore (L1 := [some (.ref 0), some (.int (iZ a)), some (.int (iZ b)), some (.int (iZ i)), some (.null), some (.ref (71 + 4 * b.toNat)), some (.ref (34 + 2 * i.toNat))]) 21 dX8_round_19 (by decide) rfl rfl rfl ?_
                  refine g_aloadN 23 dX8_round_21 rfl rfl ?_
                  refine g_ifnullN 36 dX8_round_23 rfl ?_
                  refine g_iconst (v := iZ (-1)) 37 dX8_round_36 rfl rfl ?_
                  refine g_iret rfl dX8_round_37 ?_
                  exact k _ (-1) (by decide) H (fun _ _ _ => rfl)
                · refine g_null 11 dX8_textAt_10 rfl ?_
                  refine g_goto 20 dX8_textAt_11 rfl ?_
                  refine g_aret rfl (Or.inl rfl) dX8_textAt_20 ?_
                  refine rN ?_
                  refine g_astoreN (L1 := [some (.ref 0), some (.int (iZ a)), some (.int (iZ b)), some (.int (iZ i)), some (.null), some (.ref (71 + 4 * b.toNat)), some (.null)]) 21 dX8_round_19 (by decide) rfl rfl rfl ?_
                  refine g_aloadN 23 dX8_round_21 rfl rfl ?_
                  refine g_ifnullN 36 dX8_round_23 rfl ?_
                  refine g_iconst (v := iZ (-1)) 37 dX8_round_36 rfl rfl ?_
                  refine g_iret rfl dX8_round_37 ?_
                  exact k _ (-1) (by decide) H (fun _ _ _ => rfl)
            · refine g_null 19 dX8_toolAt_18 rfl ?_
              refine g_goto 28 dX8_toolAt_19 rfl ?_
              refine g_aret rfl (Or.inl rfl) dX8_toolAt_28 ?_
              refine rN ?_
              refine g_astoreN (L1 := [some (.ref 0), some (.int (iZ a)), some (.int (iZ b)), some (.int (iZ i)), some (.null), some (.null), none]) 14 dX8_round_12 (by decide) rfl rfl rfl ?_
              refine g_aload_n 15 dX8_round_14 rfl rfl ?_
              refine g_iload_n 16 dX8_round_15 rfl rfl ?_
              refine g_callV (z := mX8_textAt) (As := [.int (iZ i)]) 19 dX8_round_16 mwX8_textAt ⟨by decide, by decide⟩ rfl wlX8_74 wiX8_textAt wsX8_textAt F0 rfl rfl rfl (nle rfl) (nle rfl) rfl ?_
              refine Go.to [some (.ref 0), some (.int (iZ i))] [] rfl rfl ?_
              refine g_iload_n 1 dX8_textAt_0 rfl rfl ?_
              refine g_ifZ_lt 10 4 dX8_textAt_1 rfl rfl ri (fun c50 => ?_) (fun c50 => ?_)
              · refine g_null 11 dX8_textAt_10 rfl ?_
                refine g_goto 20 dX8_textAt_11 rfl ?_
                refine g_aret rfl (Or.inl rfl) dX8_textAt_20 ?_
                refine rN ?_
                refine g_astoreN (L1 := [some (.ref 0), some (.int (iZ a)), some (.int (iZ b)), some (.int (iZ i)), some (.null), some (.null), some (.null)]) 21 dX8_round_19 (by decide) rfl rfl rfl ?_
                refine g_aloadN 23 dX8_round_21 rfl rfl ?_
                refine g_ifnullN 36 dX8_round_23 rfl ?_
                refine g_iconst (v := iZ (-1)) 37 dX8_round_36 rfl rfl ?_
                refine g_iret rfl dX8_round_37 ?_
                exact k _ (-1) (by decide) H (fun _ _ _ => rfl)
              · refine g_iload_n 5 dX8_textAt_4 rfl rfl ?_
                refine g_bipush (v := iZ (8)) 7 dX8_textAt_5 (by decide +kernel) rfl ?_
                refine g_icZ_lt 14 10 dX8_textAt_7 rfl rfl ri (by decide) (fun c51 => ?_) (fun c51 => ?_)
                · refine g_aload_n 15 dX8_textAt_14 rfl rfl ?_
                  refine g_get 18 dX8_textAt_15 faX8_16_X8 F0 rfl rfl ?_
                  refine g_iload_n 19 dX8_textAt_18 rfl rfl ?_
                  refine g_aaldZ 20 dX8_textAt_19 F3 (by decide) (by omega) (by omega) (by decide) (txs_at (by omega) (by omega)) rfl ?_
                  refine g_aret rfl (Or.inr ⟨_, rfl⟩) dX8_textAt_20 ?_
                  refine rR ?_
                  refine g_astore (L1 := [some (.ref 0), some (.int (iZ a)), some (.int (iZ b)), some (.int (iZ i)), some (.null), some (.null), some (.ref (34 + 2 * i.toNat))]) 21 dX8_round_19 (by decide) rfl rfl rfl ?_
                  refine g_aloadN 23 dX8_round_21 rfl rfl ?_
                  refine g_ifnullN 36 dX8_round_23 rfl ?_
                  refine g_iconst (v := iZ (-1)) 37 dX8_round_36 rfl rfl ?_
                  refine g_iret rfl dX8_round_37 ?_
                  exact k _ (-1) (by decide) H (fun _ _ _ => rfl)
                · refine g_null 11 dX8_textAt_10 rfl ?_
                  refine g_goto 20 dX8_textAt_11 rfl ?_
                  refine g_aret rfl (Or.inl rfl) dX8_textAt_20 ?_
                  refine rN ?_
                  refine g_astoreN (L1 := [some (.ref 0), some (.int (iZ a)), some (.int (iZ b)), some (.int (iZ i)), some (.null), some (.null), some (.null)]) 21 dX8_round_19 (by decide) rfl rfl rfl ?_
                  refine g_aloadN 23 dX8_round_21 rfl rfl ?_
                  refine g_ifnullN 36 dX8_round_23 rfl ?_
                  refine g_iconst (v := iZ (-1)) 37 dX8_round_36 rfl rfl ?_
                  refine g_iret rfl dX8_round_37 ?_
                  exact k _ (-1) (by decide) H (fun _ _ _ => rfl)
set_option maxRecDepth 100000 in
theorem b8_hides {l : Launch} {h : MH} {Q : Option Value → MH → Prop} {tn : Int} {tf : Nat → Int} {xn : Nat → Int} {xf : Nat → Nat → Int} {en : Int} {tc : Nat} {tr : Int64} {V Bf Lf : Nat → Nat → Int} {q lm lo : Nat → Int} {a b i : Int} (H : IX2 h tn tf xn xf en tc tr V Bf Lf q lm lo) (ra : rg a) (rb : rg b) (ri : rg i) (k : ∀ (h1 : MH) (r : Int), (rg r) → IX2 h1 tn tf xn xf en tc tr V Bf Lf q lm lo → Mo h h1 → Q (some (.int (iZ r))) h1) : Go l mX8_hides 0 [some (.ref 0), some (.int (iZ a)), some (.int (iZ b)), some (.int (iZ i)), none, none, none, none] [] h Q := by
  obtain ⟨HC, HS, HLm, HY, HE, hlen, hmz⟩ := id H
  obtain ⟨F0, F3, F4, htc, HT, HL⟩ := id HC
  refine g_aload_n 1 dX8_hides_0 rfl rfl ?_
  refine g_iload_n 2 dX8_hides_1 rfl rfl ?_
  refine g_callV (z := mX8_toolAt) (As := [.int (iZ a)]) 5 dX8_hides_2 mwX8_toolAt ⟨by decide, by decide⟩ rfl wlX8_90 wiX8_toolAt wsX8_toolAt F0 rfl rfl rfl (nle rfl) (nle rfl) rfl ?_
  refine Go.to [some (.ref 0), some (.int (iZ a))] [] rfl rfl ?_
  refine g_iload_n 1 dX8_toolAt_0 rfl rfl ?_
  refine g_ifZ_lt 18 4 dX8_toolAt_1 rfl rfl ra (fun c1 => ?_) (fun c1 => ?_)
  · refine g_null 19 dX8_toolAt_18 rfl ?_
    refine g_goto 28 dX8_toolAt_19 rfl ?_
    refine g_aret rfl (Or.inl rfl) dX8_toolAt_28 ?_
    refine rN ?_
    refine g_astoreN (L1 := [some (.ref 0), some (.int (iZ a)), some (.int (iZ b)), some (.int (iZ i)), some (.null), none, none, none]) 7 dX8_hides_5 (by decide) rfl rfl rfl ?_
    refine g_aload_n 8 dX8_hides_7 rfl rfl ?_
    refine g_iload_n 9 dX8_hides_8 rfl rfl ?_
    refine g_callV (z := mX8_toolAt) (As := [.int (iZ b)]) 12 dX8_hides_9 mwX8_toolAt ⟨by decide, by decide⟩ rfl wlX8_90 wiX8_toolAt wsX8_toolAt F0 rfl rfl rfl (nle rfl) (nle rfl) rfl ?_
    refine Go.to [some (.ref 0), some (.int (iZ b))] [] rfl rfl ?_
    refine g_iload_n 1 dX8_toolAt_0 rfl rfl ?_
    refine g_ifZ_lt 18 4 dX8_toolAt_1 rfl rfl rb (fun c2 => ?_) (fun c2 => ?_)
    · refine g_null 19 dX8_toolAt_18 rfl ?_
      refine g_goto 28 dX8_toolAt_19 rfl ?_
      refine g_aret rfl (Or.inl rfl) dX8_toolAt_28 ?_
      refine rN ?_
      refine g_astoreN (L1 := [some (.ref 0), some (.int (iZ a)), some (.int (iZ b)), some (.int (iZ i)), some (.null), some (.null), none, none]) 14 dX8_hides_12 (by decide) rfl rfl rfl ?_
      refine g_aload_n 15 dX8_hides_14 rfl rfl ?_
      refine g_iload_n 16 dX8_hides_15 rfl rfl ?_
      refine g_callV (z := mX8_textAt) (As := [.int (iZ i)]) 19 dX8_hides_16 mwX8_textAt ⟨by decide, by decide⟩ rfl wlX8_74 wiX8_textAt wsX8_textAt F0 rfl rfl rfl (nle rfl) (nle rfl) rfl ?_
      refine Go.to [some (.ref 0), some (.int (iZ i))] [] rfl rfl ?_
      refine g_iload_n 1 dX8_textAt_0 rfl rfl ?_
      refine g_ifZ_lt 10 4 dX8_textAt_1 rfl rfl ri (fun c3 => ?_) (fun c3 => ?_)
      · refine g_null 11 dX8_textAt_10 rfl ?_
        refine g_goto 20 dX8_textAt_11 rfl ?_
        refine g_aret rfl (Or.inl rfl) dX8_textAt_20 ?_
        refine rN ?_
        refine g_astoreN (L1 := [some (.ref 0), some (.int (iZ a)), some (.int (iZ b)), some (.int (iZ i)), some (.null), some (.null), some (.null), none]) 21 dX8_hides_19 (by decide) rfl rfl rfl ?_
        refine g_aloadN 23 dX8_hides_21 rfl rfl ?_
        refine g_ifnullN 36 dX8_hides_23 rfl ?_
        refine g_iconst (v := iZ (-1)) 37 dX8_hides_36 rfl rfl ?_
        refine g_iret rfl dX8_hides_37 ?_
        exact k _ (-1) (by decide) H (fun _ _ _ => rfl)
      · refine g_iload_n 5 dX8_textAt_4 rfl rfl ?_
        refine g_bipush (v := iZ (8)) 7 dX8_textAt_5 (by decide +kernel) rfl ?_
        refine g_icZ_lt 14 10 dX8_textAt_7 rfl rfl ri (by decide) (fun c4 => ?_) (fun c4 => ?_)
        · refine g_aload_n 15 dX8_textAt_14 rfl rfl ?_
          refine g_get 18 dX8_textAt_15 faX8_16_X8 F0 rfl rfl ?_
          refine g_iload_n 19 dX8_textAt_18 rfl rfl ?_
          refine g_aaldZ 20 dX8_textAt_19 F3 (by decide) (by omega) (by omega) (by decide) (txs_at (by omega) (by omega)) rfl ?_
          refine g_aret rfl (Or.inr ⟨_, rfl⟩) dX8_textAt_20 ?_
          refine rR ?_
          refine g_astore (L1 := [some (.ref 0), some (.int (iZ a)), some (.int (iZ b)), some (.int (iZ i)), some (.null), some (.null), some (.ref (34 + 2 * i.toNat)), none]) 21 dX8_hides_19 (by decide) rfl rfl rfl ?_
          refine g_aloadN 23 dX8_hides_21 rfl rfl ?_
          refine g_ifnullN 36 dX8_hides_23 rfl ?_
          refine g_iconst (v := iZ (-1)) 37 dX8_hides_36 rfl rfl ?_
          refine g_iret rfl dX8_hides_37 ?_
          exact k _ (-1) (by decide) H (fun _ _ _ => rfl)
        · refine g_null 11 dX8_textAt_10 rfl ?_
          refine g_goto 20 dX8_textAt_11 rfl ?_
          refine g_aret rfl (Or.inl rfl) dX8_textAt_20 ?_
          refine rN ?_
          refine g_astoreN (L1 := [some (.ref 0), some (.int (iZ a)), some (.int (iZ b)), some (.int (iZ i)), some (.null), some (.null), some (.null), none]) 21 dX8_hides_19 (by decide) rfl rfl rfl ?_
          refine g_aloadN 23 dX8_hides_21 rfl rfl ?_
          refine g_ifnullN 36 dX8_hides_23 rfl ?_
          refine g_iconst (v := iZ (-1)) 37 dX8_hides_36 rfl rfl ?_
          refine g_iret rfl dX8_hides_37 ?_
          exact k _ (-1) (by decide) H (fun _ _ _ => rfl)
    · refine g_iload_n 5 dX8_toolAt_4 rfl rfl ?_
      refine g_aload_n 6 dX8_toolAt_5 rfl rfl ?_
      refine g_get 9 dX8_toolAt_6 faX8_26_X8 F0 rfl rfl ?_
      refine g_icZ_ge 18 12 dX8_toolAt_9 rfl rfl rb (by omega) (fun c5 => ?_) (fun c5 => ?_)
      · refine g_null 19 dX8_toolAt_18 rfl ?_
        refine g_goto 28 dX8_toolAt_19 rfl ?_
        refine g_aret rfl (Or.inl rfl) dX8_toolAt_28 ?_
        refine rN ?_
        refine g_astoreN (L1 := [some (.ref 0), some (.int (iZ a)), some (.int (iZ b)), some (.int (iZ i)), some (.null), some (.null), none, none]) 14 dX8_hides_12 (by decide) rfl rfl rfl ?_
        refine g_aload_n 15 dX8_hides_14 rfl rfl ?_
        refine g_iload_n 16 dX8_hides_15 rfl rfl ?_
        refine g_callV (z := mX8_textAt) (As := [.int (iZ i)]) 19 dX8_hides_16 mwX8_textAt ⟨by decide, by decide⟩ rfl wlX8_74 wiX8_textAt wsX8_textAt F0 rfl rfl rfl (nle rfl) (nle rfl) rfl ?_
        refine Go.to [some (.ref 0), some (.int (iZ i))] [] rfl rfl ?_
        refine g_iload_n 1 dX8_textAt_0 rfl rfl ?_
        refine g_ifZ_lt 10 4 dX8_textAt_1 rfl rfl ri (fun c6 => ?_) (fun c6 => ?_)
        · refine g_null 11 dX8_textAt_10 rfl ?_
          refine g_goto 20 dX8_textAt_11 rfl ?_
          refine g_aret rfl (Or.inl rfl) dX8_textAt_20 ?_
          refine rN ?_
          refine g_astoreN (L1 := [some (.ref 0), some (.int (iZ a)), some (.int (iZ b)), some (.int (iZ i)), some (.null), some (.null), some (.null), none]) 21 dX8_hides_19 (by decide) rfl rfl rfl ?_
          refine g_aloadN 23 dX8_hides_21 rfl rfl ?_
          refine g_ifnullN 36 dX8_hides_23 rfl ?_
          refine g_iconst (v := iZ (-1)) 37 dX8_hides_36 rfl rfl ?_
          refine g_iret rfl dX8_hides_37 ?_
          exact k _ (-1) (by decide) H (fun _ _ _ => rfl)
        · refine g_iload_n 5 dX8_textAt_4 rfl rfl ?_
          refine g_bipush (v := iZ (8)) 7 dX8_textAt_5 (by decide +kernel) rfl ?_
          refine g_icZ_lt 14 10 dX8_textAt_7 rfl rfl ri (by decide) (fun c7 => ?_) (fun c7 => ?_)
          · refine g_aload_n 15 dX8_textAt_14 rfl rfl ?_
            refine g_get 18 dX8_textAt_15 faX8_16_X8 F0 rfl rfl ?_
            refine g_iload_n 19 dX8_textAt_18 rfl rfl ?_
            refine g_aaldZ 20 dX8_textAt_19 F3 (by decide) (by omega) (by omega) (by decide) (txs_at (by omega) (by omega)) rfl ?_
            refine g_aret rfl (Or.inr ⟨_, rfl⟩) dX8_textAt_20 ?_
            refine rR ?_
            refine g_astore (L1 := [some (.ref 0), some (.int (iZ a)), some (.int (iZ b)), some (.int (iZ i)), some (.null), some (.null), some (.ref (34 + 2 * i.toNat)), none]) 21 dX8_hides_19 (by decide) rfl rfl rfl ?_
            refine g_aloadN 23 dX8_hides_21 rfl rfl ?_
            refine g_ifnullN 36 dX8_hides_23 rfl ?_
            refine g_iconst (v := iZ (-1)) 37 dX8_hides_36 rfl rfl ?_
            refine g_iret rfl dX8_hides_37 ?_
            exact k _ (-1) (by decide) H (fun _ _ _ => rfl)
          · refine g_null 11 dX8_textAt_10 rfl ?_
            refine g_goto 20 dX8_textAt_11 rfl ?_
            refine g_aret rfl (Or.inl rfl) dX8_textAt_20 ?_
            refine rN ?_
            refine g_astoreN (L1 := [some (.ref 0), some (.int (iZ a)), some (.int (iZ b)), some (.int (iZ i)), some (.null), some (.null), some (.null), none]) 21 dX8_hides_19 (by decide) rfl rfl rfl ?_
            refine g_aloadN 23 dX8_hides_21 rfl rfl ?_
            refine g_ifnullN 36 dX8_hides_23 rfl ?_
            refine g_iconst (v := iZ (-1)) 37 dX8_hides_36 rfl rfl ?_
            refine g_iret rfl dX8_hides_37 ?_
            exact k _ (-1) (by decide) H (fun _ _ _ => rfl)
      · refine g_iload_n 13 dX8_toolAt_12 rfl rfl ?_
        refine g_bipush (v := iZ (12)) 15 dX8_toolAt_13 (by decide +kernel) rfl ?_
        refine g_icZ_lt 22 18 dX8_toolAt_15 rfl rfl rb (by decide) (fun c8 => ?_) (fun c8 => ?_)
        · refine g_aload_n 23 dX8_toolAt_22 rfl rfl ?_
          refine g_get 26 dX8_toolAt_23 faX8_22_X8 F0 rfl rfl ?_
          refine g_iload_n 27 dX8_toolAt_26 rfl rfl ?_
          refine g_aaldZ 28 dX8_toolAt_27 F4 (by decide) (by omega) (by omega) (by decide) (tls_at (by omega) (by omega)) rfl ?_
          refine g_aret rfl (Or.inr ⟨_, rfl⟩) dX8_toolAt_28 ?_
          refine rR ?_
          refine g_astore (L1 := [some (.ref 0), some (.int (iZ a)), some (.int (iZ b)), some (.int (iZ i)), some (.null), some (.ref (71 + 4 * b.toNat)), none, none]) 14 dX8_hides_12 (by decide) rfl rfl rfl ?_
          refine g_aload_n 15 dX8_hides_14 rfl rfl ?_
          refine g_iload_n 16 dX8_hides_15 rfl rfl ?_
          refine g_callV (z := mX8_textAt) (As := [.int (iZ i)]) 19 dX8_hides_16 mwX8_textAt ⟨by decide, by decide⟩ rfl wlX8_74 wiX8_textAt wsX8_textAt F0 rfl rfl rfl (nle rfl) (nle rfl) rfl ?_
          refine Go.to [some (.ref 0), some (.int (iZ i))] [] rfl rfl ?_
          refine g_iload_n 1 dX8_textAt_0 rfl rfl ?_
          refine g_ifZ_lt 10 4 dX8_textAt_1 rfl rfl ri (fun c9 => ?_) (fun c9 => ?_)
          · refine g_null 11 dX8_textAt_10 rfl ?_
            refine g_goto 20 dX8_textAt_11 rfl ?_
            refine g_aret rfl (Or.inl rfl) dX8_textAt_20 ?_
            refine rN ?_
            refine g_astoreN (L1 := [some (.ref 0), some (.int (iZ a)), some (.int (iZ b)), some (.int (iZ i)), some (.null), some (.ref (71 + 4 * b.toNat)), some (.null), none]) 21 dX8_hides_19 (by decide) rfl rfl rfl ?_
            refine g_aloadN 23 dX8_hides_21 rfl rfl ?_
            refine g_ifnullN 36 dX8_hides_23 rfl ?_
            refine g_iconst (v := iZ (-1)) 37 dX8_hides_36 rfl rfl ?_
            refine g_iret rfl dX8_hides_37 ?_
            exact k _ (-1) (by decide) H (fun _ _ _ => rfl)
          · refine g_iload_n 5 dX8_textAt_4 rfl rfl ?_
            refine g_bipush (v := iZ (8)) 7 dX8_textAt_5 (by decide +kernel) rfl ?_
            refine g_icZ_lt 14 10 dX8_textAt_7 rfl rfl ri (by decide) (fun c10 => ?_) (fun c10 => ?_)
            · refine g_aload_n 15 dX8_textAt_14 rfl rfl ?_
              refine g_get 18 dX8_textAt_15 faX8_16_X8 F0 rfl rfl ?_
              refine g_iload_n 19 dX8_textAt_18 rfl rfl ?_
              refine g_aaldZ 20 dX8_textAt_19 F3 (by decide) (by omega) (by omega) (by decide) (txs_at (by omega) (by omega)) rfl ?_
              refine g_aret rfl (Or.inr ⟨_, rfl⟩) dX8_textAt_20 ?_
              refine rR ?_
              refine g_astore (L1 := [some (.ref 0), some (.int (iZ a)), some (.int (iZ b)), some (.int (iZ i)), some (.null), some (.ref (71 + 4 * b.toNat)), some (.ref (34 + 2 * i.toNat)), none]) 21 dX8_hides_19 (by decide) rfl rfl rfl ?_
              refine g_aloadN 23 dX8_hides_21 rfl rfl ?_
              refine g_ifnullN 36 dX8_hides_23 rfl ?_
              refine g_iconst (v := iZ (-1)) 37 dX8_hides_36 rfl rfl ?_
              refine g_iret rfl dX8_hides_37 ?_
              exact k _ (-1) (by decide) H (fun _ _ _ => rfl)
            · refine g_null 11 dX8_textAt_10 rfl ?_
              refine g_goto 20 dX8_textAt_11 rfl ?_
              refine g_aret rfl (Or.inl rfl) dX8_textAt_20 ?_
              refine rN ?_
              refine g_astoreN (L1 := [some (.ref 0), some (.int (iZ a)), some (.int (iZ b)), some (.int (iZ i)), some (.null), some (.ref (71 + 4 * b.toNat)), some (.null), none]) 21 dX8_hides_19 (by decide) rfl rfl rfl ?_
              refine g_aloadN 23 dX8_hides_21 rfl rfl ?_
              refine g_ifnullN 36 dX8_hides_23 rfl ?_
              refine g_iconst (v := iZ (-1)) 37 dX8_hides_36 rfl rfl ?_
              refine g_iret rfl dX8_hides_37 ?_
              exact k _ (-1) (by decide) H (fun _ _ _ => rfl)
        · refine g_null 19 dX8_toolAt_18 rfl ?_
          refine g_goto 28 dX8_toolAt_19 rfl ?_
          refine g_aret rfl (Or.inl rfl) dX8_toolAt_28 ?_
          refine rN ?_
          refine g_astoreN (L1 := [some (.ref 0), some (.int (iZ a)), some (.int (iZ b)), some (.int (iZ i)), some (.null), some (.null), none, none]) 14 dX8_hides_12 (by decide) rfl rfl rfl ?_
          refine g_aload_n 15 dX8_hides_14 rfl rfl ?_
          refine g_iload_n 16 dX8_hides_15 rfl rfl ?_
          refine g_callV (z := mX8_textAt) (As := [.int (iZ i)]) 19 dX8_hides_16 mwX8_textAt ⟨by decide, by decide⟩ rfl wlX8_74 wiX8_textAt wsX8_textAt F0 rfl rfl rfl (nle rfl) (nle rfl) rfl ?_
          refine Go.to [some (.ref 0), some (.int (iZ i))] [] rfl rfl ?_
          refine g_iload_n 1 dX8_textAt_0 rfl rfl ?_
          refine g_ifZ_lt 10 4 dX8_textAt_1 rfl rfl ri (fun c11 => ?_) (fun c11 => ?_)
          · refine g_null 11 dX8_textAt_10 rfl ?_
            refine g_goto 20 dX8_textAt_11 rfl ?_
            refine g_aret rfl (Or.inl rfl) dX8_textAt_20 ?_
            refine rN ?_
            refine g_astoreN (L1 := [some (.ref 0), some (.int (iZ a)), some (.int (iZ b)), some (.int (iZ i)), some (.null), some (.null), some (.null), none]) 21 dX8_hides_19 (by decide) rfl rfl rfl ?_
            refine g_aloadN 23 dX8_hides_21 rfl rfl ?_
            refine g_ifnullN 36 dX8_hides_23 rfl ?_
            refine g_iconst (v := iZ (-1)) 37 dX8_hides_36 rfl rfl ?_
            refine g_iret rfl dX8_hides_37 ?_
            exact k _ (-1) (by decide) H (fun _ _ _ => rfl)
          · refine g_iload_n 5 dX8_textAt_4 rfl rfl ?_
            refine g_bipush (v := iZ (8)) 7 dX8_textAt_5 (by decide +kernel) rfl ?_
            refine g_icZ_lt 14 10 dX8_textAt_7 rfl rfl ri (by decide) (fun c12 => ?_) (fun c12 => ?_)
            · refine g_aload_n 15 dX8_textAt_14 rfl rfl ?_
              refine g_get 18 dX8_textAt_15 faX8_16_X8 F0 rfl rfl ?_
              refine g_iload_n 19 dX8_textAt_18 rfl rfl ?_
              refine g_aaldZ 20 dX8_textAt_19 F3 (by decide) (by omega) (by omega) (by decide) (txs_at (by omega) (by omega)) rfl ?_
              refine g_aret rfl (Or.inr ⟨_, rfl⟩) dX8_textAt_20 ?_
              refine rR ?_
              refine g_astore (L1 := [some (.ref 0), some (.int (iZ a)), some (.int (iZ b)), some (.int (iZ i)), some (.null), some (.null), some (.ref (34 + 2 * i.toNat)), none]) 21 dX8_hides_19 (by decide) rfl rfl rfl ?_
              refine g_aloadN 23 dX8_hides_21 rfl rfl ?_
              refine g_ifnullN 36 dX8_hides_23 rfl ?_
              refine g_iconst (v := iZ (-1)) 37 dX8_hides_36 rfl rfl ?_
              refine g_iret rfl dX8_hides_37 ?_
              exact k _ (-1) (by decide) H (fun _ _ _ => rfl)
            · refine g_null 11 dX8_textAt_10 rfl ?_
              refine g_goto 20 dX8_textAt_11 rfl ?_
              refine g_aret rfl (Or.inl rfl) dX8_textAt_20 ?_
              refine rN ?_
              refine g_astoreN (L1 := [some (.ref 0), some (.int (iZ a)), some (.int (iZ b)), some (.int (iZ i)), some (.null), some (.null), some (.null), none]) 21 dX8_hides_19 (by decide) rfl rfl rfl ?_
              refine g_aloadN 23 dX8_hides_21 rfl rfl ?_
              refine g_ifnullN 36 dX8_hides_23 rfl ?_
              refine g_iconst (v := iZ (-1)) 37 dX8_hides_36 rfl rfl ?_
              refine g_iret rfl dX8_hides_37 ?_
              exact k _ (-1) (by decide) H (fun _ _ _ => rfl)
  · refine g_iload_n 5 dX8_toolAt_4 rfl rfl ?_
    refine g_aload_n 6 dX8_toolAt_5 rfl rfl ?_
    refine g_get 9 dX8_toolAt_6 faX8_26_X8 F0 rfl rfl ?_
    refine g_icZ_ge 18 12 dX8_toolAt_9 rfl rfl ra (by omega) (fun c13 => ?_) (fun c13 => ?_)
    · refine g_null 19 dX8_toolAt_18 rfl ?_
      refine g_goto 28 dX8_toolAt_19 rfl ?_
      refine g_aret rfl (Or.inl rfl) dX8_toolAt_28 ?_
      refine rN ?_
      refine g_astoreN (L1 := [some (.ref 0), some (.int (iZ a)), some (.int (iZ b)), some (.int (iZ i)), some (.null), none, none, none]) 7 dX8_hides_5 (by decide) rfl rfl rfl ?_
      refine g_aload_n 8 dX8_hides_7 rfl rfl ?_
      refine g_iload_n 9 dX8_hides_8 rfl rfl ?_
      refine g_callV (z := mX8_toolAt) (As := [.int (iZ b)]) 12 dX8_hides_9 mwX8_toolAt ⟨by decide, by decide⟩ rfl wlX8_90 wiX8_toolAt wsX8_toolAt F0 rfl rfl rfl (nle rfl) (nle rfl) rfl ?_
      refine Go.to [some (.ref 0), some (.int (iZ b))] [] rfl rfl ?_
      refine g_iload_n 1 dX8_toolAt_0 rfl rfl ?_
      refine g_ifZ_lt 18 4 dX8_toolAt_1 rfl rfl rb (fun c14 => ?_) (fun c14 => ?_)
      · refine g_null 19 dX8_toolAt_18 rfl ?_
        refine g_goto 28 dX8_toolAt_19 rfl ?_
        refine g_aret rfl (Or.inl rfl) dX8_toolAt_28 ?_
        refine rN ?_
        refine g_astoreN (L1 := [some (.ref 0), some (.int (iZ a)), some (.int (iZ b)), some (.int (iZ i)), some (.null), some (.null), none, none]) 14 dX8_hides_12 (by decide) rfl rfl rfl ?_
        refine g_aload_n 15 dX8_hides_14 rfl rfl ?_
        refine g_iload_n 16 dX8_hides_15 rfl rfl ?_
        refine g_callV (z := mX8_textAt) (As := [.int (iZ i)]) 19 dX8_hides_16 mwX8_textAt ⟨by decide, by decide⟩ rfl wlX8_74 wiX8_textAt wsX8_textAt F0 rfl rfl rfl (nle rfl) (nle rfl) rfl ?_
        refine Go.to [some (.ref 0), some (.int (iZ i))] [] rfl rfl ?_
        refine g_iload_n 1 dX8_textAt_0 rfl rfl ?_
        refine g_ifZ_lt 10 4 dX8_textAt_1 rfl rfl ri (fun c15 => ?_) (fun c15 => ?_)
        · refine g_null 11 dX8_textAt_10 rfl ?_
          refine g_goto 20 dX8_textAt_11 rfl ?_
          refine g_aret rfl (Or.inl rfl) dX8_textAt_20 ?_
          refine rN ?_
          refine g_astoreN (L1 := [some (.ref 0), some (.int (iZ a)), some (.int (iZ b)), some (.int (iZ i)), some (.null), some (.null), some (.null), none]) 21 dX8_hides_19 (by decide) rfl rfl rfl ?_
          refine g_aloadN 23 dX8_hides_21 rfl rfl ?_
          refine g_ifnullN 36 dX8_hides_23 rfl ?_
          refine g_iconst (v := iZ (-1)) 37 dX8_hides_36 rfl rfl ?_
          refine g_iret rfl dX8_hides_37 ?_
          exact k _ (-1) (by decide) H (fun _ _ _ => rfl)
        · refine g_iload_n 5 dX8_textAt_4 rfl rfl ?_
          refine g_bipush (v := iZ (8)) 7 dX8_textAt_5 (by decide +kernel) rfl ?_
          refine g_icZ_lt 14 10 dX8_textAt_7 rfl rfl ri (by decide) (fun c16 => ?_) (fun c16 => ?_)
          · refine g_aload_n 15 dX8_textAt_14 rfl rfl ?_
            refine g_get 18 dX8_textAt_15 faX8_16_X8 F0 rfl rfl ?_
            refine g_iload_n 19 dX8_textAt_18 rfl rfl ?_
            refine g_aaldZ 20 dX8_textAt_19 F3 (by decide) (by omega) (by omega) (by decide) (txs_at (by omega) (by omega)) rfl ?_
            refine g_aret rfl (Or.inr ⟨_, rfl⟩) dX8_textAt_20 ?_
            refine rR ?_
            refine g_astore (L1 := [some (.ref 0), some (.int (iZ a)), some (.int (iZ b)), some (.int (iZ i)), some (.null), some (.null), some (.ref (34 + 2 * i.toNat)), none]) 21 dX8_hides_19 (by decide) rfl rfl rfl ?_
            refine g_aloadN 23 dX8_hides_21 rfl rfl ?_
            refine g_ifnullN 36 dX8_hides_23 rfl ?_
            refine g_iconst (v := iZ (-1)) 37 dX8_hides_36 rfl rfl ?_
            refine g_iret rfl dX8_hides_37 ?_
            exact k _ (-1) (by decide) H (fun _ _ _ => rfl)
          · refine g_null 11 dX8_textAt_10 rfl ?_
            refine g_goto 20 dX8_textAt_11 rfl ?_
            refine g_aret rfl (Or.inl rfl) dX8_textAt_20 ?_
            refine rN ?_
            refine g_astoreN (L1 := [some (.ref 0), some (.int (iZ a)), some (.int (iZ b)), some (.int (iZ i)), some (.null), some (.null), some (.null), none]) 21 dX8_hides_19 (by decide) rfl rfl rfl ?_
            refine g_aloadN 23 dX8_hides_21 rfl rfl ?_
            refine g_ifnullN 36 dX8_hides_23 rfl ?_
            refine g_iconst (v := iZ (-1)) 37 dX8_hides_36 rfl rfl ?_
            refine g_iret rfl dX8_hides_37 ?_
            exact k _ (-1) (by decide) H (fun _ _ _ => rfl)
      · refine g_iload_n 5 dX8_toolAt_4 rfl rfl ?_
        refine g_aload_n 6 dX8_toolAt_5 rfl rfl ?_
        refine g_get 9 dX8_toolAt_6 faX8_26_X8 F0 rfl rfl ?_
        refine g_icZ_ge 18 12 dX8_toolAt_9 rfl rfl rb (by omega) (fun c17 => ?_) (fun c17 => ?_)
        · refine g_null 19 dX8_toolAt_18 rfl ?_
          refine g_goto 28 dX8_toolAt_19 rfl ?_
          refine g_aret rfl (Or.inl rfl) dX8_toolAt_28 ?_
          refine rN ?_
          refine g_astoreN (L1 := [some (.ref 0), some (.int (iZ a)), some (.int (iZ b)), some (.int (iZ i)), some (.null), some (.null), none, none]) 14 dX8_hides_12 (by decide) rfl rfl rfl ?_
          refine g_aload_n 15 dX8_hides_14 rfl rfl ?_
          refine g_iload_n 16 dX8_hides_15 rfl rfl ?_
          refine g_callV (z := mX8_textAt) (As := [.int (iZ i)]) 19 dX8_hides_16 mwX8_textAt ⟨by decide, by decide⟩ rfl wlX8_74 wiX8_textAt wsX8_textAt F0 rfl rfl rfl (nle rfl) (nle rfl) rfl ?_
          refine Go.to [some (.ref 0), some (.int (iZ i))] [] rfl rfl ?_
          refine g_iload_n 1 dX8_textAt_0 rfl rfl ?_
          refine g_ifZ_lt 10 4 dX8_textAt_1 rfl rfl ri (fun c18 => ?_) (fun c18 => ?_)
          · refine g_null 11 dX8_textAt_10 rfl ?_
            refine g_goto 20 dX8_textAt_11 rfl ?_
            refine g_aret rfl (Or.inl rfl) dX8_textAt_20 ?_
            refine rN ?_
            refine g_astoreN (L1 := [some (.ref 0), some (.int (iZ a)), some (.int (iZ b)), some (.int (iZ i)), some (.null), some (.null), some (.null), none]) 21 dX8_hides_19 (by decide) rfl rfl rfl ?_
            refine g_aloadN 23 dX8_hides_21 rfl rfl ?_
            refine g_ifnullN 36 dX8_hides_23 rfl ?_
            refine g_iconst (v := iZ (-1)) 37 dX8_hides_36 rfl rfl ?_
            refine g_iret rfl dX8_hides_37 ?_
            exact k _ (-1) (by decide) H (fun _ _ _ => rfl)
          · refine g_iload_n 5 dX8_textAt_4 rfl rfl ?_
            refine g_bipush (v := iZ (8)) 7 dX8_textAt_5 (by decide +kernel) rfl ?_
            refine g_icZ_lt 14 10 dX8_textAt_7 rfl rfl ri (by decide) (fun c19 => ?_) (fun c19 => ?_)
            · refine g_aload_n 15 dX8_textAt_14 rfl rfl ?_
              refine g_get 18 dX8_textAt_15 faX8_16_X8 F0 rfl rfl ?_
              refine g_iload_n 19 dX8_textAt_18 rfl rfl ?_
              refine g_aaldZ 20 dX8_textAt_19 F3 (by decide) (by omega) (by omega) (by decide) (txs_at (by omega) (by omega)) rfl ?_
              refine g_aret rfl (Or.inr ⟨_, rfl⟩) dX8_textAt_20 ?_
              refine rR ?_
              refine g_astore (L1 := [some (.ref 0), some (.int (iZ a)), some (.int (iZ b)), some (.int (iZ i)), some (.null), some (.null), some (.ref (34 + 2 * i.toNat)), none]) 21 dX8_hides_19 (by decide) rfl rfl rfl ?_
              refine g_aloadN 23 dX8_hides_21 rfl rfl ?_
              refine g_ifnullN 36 dX8_hides_23 rfl ?_
              refine g_iconst (v := iZ (-1)) 37 dX8_hides_36 rfl rfl ?_
              refine g_iret rfl dX8_hides_37 ?_
              exact k _ (-1) (by decide) H (fun _ _ _ => rfl)
            · refine g_null 11 dX8_textAt_10 rfl ?_
              refine g_goto 20 dX8_textAt_11 rfl ?_
              refine g_aret rfl (Or.inl rfl) dX8_textAt_20 ?_
              refine rN ?_
              refine g_astoreN (L1 := [some (.ref 0), some (.int (iZ a)), some (.int (iZ b)), some (.int (iZ i)), some (.null), some (.null), some (.null), none]) 21 dX8_hides_19 (by decide) rfl rfl rfl ?_
              refine g_aloadN 23 dX8_hides_21 rfl rfl ?_
              refine g_ifnullN 36 dX8_hides_23 rfl ?_
              refine g_iconst (v := iZ (-1)) 37 dX8_hides_36 rfl rfl ?_
              refine g_iret rfl dX8_hides_37 ?_
              exact k _ (-1) (by decide) H (fun _ _ _ => rfl)
        · refine g_iload_n 13 dX8_toolAt_12 rfl rfl ?_
          refine g_bipush (v := iZ (12)) 15 dX8_toolAt_13 (by decide +kernel) rfl ?_
          refine g_icZ_lt 22 18 dX8_toolAt_15 rfl rfl rb (by decide) (fun c20 => ?_) (fun c20 => ?_)
          · refine g_aload_n 23 dX8_toolAt_22 rfl rfl ?_
            refine g_get 26 dX8_toolAt_23 faX8_22_X8 F0 rfl rfl ?_
            refine g_iload_n 27 dX8_toolAt_26 rfl rfl ?_
            refine g_aaldZ 28 dX8_toolAt_27 F4 (by decide) (by omega) (by omega) (by decide) (tls_at (by omega) (by omega)) rfl ?_
            refine g_aret rfl (Or.inr ⟨_, rfl⟩) dX8_toolAt_28 ?_
            refine rR ?_
            refine g_astore (L1 := [some (.ref 0), some (.int (iZ a)), some (.int (iZ b)), some (.int (iZ i)), some (.null), some (.ref (71 + 4 * b.toNat)), none, none]) 14 dX8_hides_12 (by decide) rfl rfl rfl ?_
            refine g_aload_n 15 dX8_hides_14 rfl rfl ?_
            refine g_iload_n 16 dX8_hides_15 rfl rfl ?_
            refine g_callV (z := mX8_textAt) (As := [.int (iZ i)]) 19 dX8_hides_16 mwX8_textAt ⟨by decide, by decide⟩ rfl wlX8_74 wiX8_textAt wsX8_textAt F0 rfl rfl rfl (nle rfl) (nle rfl) rfl ?_
            refine Go.to [some (.ref 0), some (.int (iZ i))] [] rfl rfl ?_
            refine g_iload_n 1 dX8_textAt_0 rfl rfl ?_
            refine g_ifZ_lt 10 4 dX8_textAt_1 rfl rfl ri (fun c21 => ?_) (fun c21 => ?_)
            · refine g_null 11 dX8_textAt_10 rfl ?_
              refine g_goto 20 dX8_textAt_11 rfl ?_
              refine g_aret rfl (Or.inl rfl) dX8_textAt_20 ?_
              refine rN ?_
              refine g_astoreN (L1 := [some (.ref 0), some (.int (iZ a)), some (.int (iZ b)), some (.int (iZ i)), some (.null), some (.ref (71 + 4 * b.toNat)), some (.null), none]) 21 dX8_hides_19 (by decide) rfl rfl rfl ?_
              refine g_aloadN 23 dX8_hides_21 rfl rfl ?_
              refine g_ifnullN 36 dX8_hides_23 rfl ?_
              refine g_iconst (v := iZ (-1)) 37 dX8_hides_36 rfl rfl ?_
              refine g_iret rfl dX8_hides_37 ?_
              exact k _ (-1) (by decide) H (fun _ _ _ => rfl)
            · refine g_iload_n 5 dX8_textAt_4 rfl rfl ?_
              refine g_bipush (v := iZ (8)) 7 dX8_textAt_5 (by decide +kernel) rfl ?_
              refine g_icZ_lt 14 10 dX8_textAt_7 rfl rfl ri (by decide) (fun c22 => ?_) (fun c22 => ?_)
              · refine g_aload_n 15 dX8_textAt_14 rfl rfl ?_
                refine g_get 18 dX8_textAt_15 faX8_16_X8 F0 rfl rfl ?_
                refine g_iload_n 19 dX8_textAt_18 rfl rfl ?_
                refine g_aaldZ 20 dX8_textAt_19 F3 (by decide) (by omega) (by omega) (by decide) (txs_at (by omega) (by omega)) rfl ?_
                refine g_aret rfl (Or.inr ⟨_, rfl⟩) dX8_textAt_20 ?_
                refine rR ?_
                refine g_astore (L1 := [some (.ref 0), some (.int (iZ a)), some (.int (iZ b)), some (.int (iZ i)), some (.null), some (.ref (71 + 4 * b.toNat)), some (.ref (34 + 2 * i.toNat)), none]) 21 dX8_hides_19 (by decide) rfl rfl rfl ?_
                refine g_aloadN 23 dX8_hides_21 rfl rfl ?_
                refine g_ifnullN 36 dX8_hides_23 rfl ?_
                refine g_iconst (v := iZ (-1)) 37 dX8_hides_36 rfl rfl ?_
                refine g_iret rfl dX8_hides_37 ?_
                exact k _ (-1) (by decide) H (fun _ _ _ => rfl)
              · refine g_null 11 dX8_textAt_10 rfl ?_
                refine g_goto 20 dX8_textAt_11 rfl ?_
                refine g_aret rfl (Or.inl rfl) dX8_textAt_20 ?_
                refine rN ?_
                refine g_astoreN (L1 := [some (.ref 0), some (.int (iZ a)), some (.int (iZ b)), some (.int (iZ i)), some (.null), some (.ref (71 + 4 * b.toNat)), some (.null), none]) 21 dX8_hides_19 (by decide) rfl rfl rfl ?_
                refine g_aloadN 23 dX8_hides_21 rfl rfl ?_
                refine g_ifnullN 36 dX8_hides_23 rfl ?_
                refine g_iconst (v := iZ (-1)) 37 dX8_hides_36 rfl rfl ?_
                refine g_iret rfl dX8_hides_37 ?_
                exact k _ (-1) (by decide) H (fun _ _ _ => rfl)
          · refine g_null 19 dX8_toolAt_18 rfl ?_
            refine g_goto 28 dX8_toolAt_19 rfl ?_
            refine g_aret rfl (Or.inl rfl) dX8_toolAt_28 ?_
            refine rN ?_
            refine g_astoreN (L1 := [some (.ref 0), some (.int (iZ a)), some (.int (iZ b)), some (.int (iZ i)), some (.null), some (.null), none, none]) 14 dX8_hides_12 (by decide) rfl rfl rfl ?_
            refine g_aload_n 15 dX8_hides_14 rfl rfl ?_
            refine g_iload_n 16 dX8_hides_15 rfl rfl ?_
            refine g_callV (z := mX8_textAt) (As := [.int (iZ i)]) 19 dX8_hides_16 mwX8_textAt ⟨by decide, by decide⟩ rfl wlX8_74 wiX8_textAt wsX8_textAt F0 rfl rfl rfl (nle rfl) (nle rfl) rfl ?_
            refine Go.to [some (.ref 0), some (.int (iZ i))] [] rfl rfl ?_
            refine g_iload_n 1 dX8_textAt_0 rfl rfl ?_
            refine g_ifZ_lt 10 4 dX8_textAt_1 rfl rfl ri (fun c23 => ?_) (fun c23 => ?_)
            · refine g_null 11 dX8_textAt_10 rfl ?_
              refine g_goto 20 dX8_textAt_11 rfl ?_
              refine g_aret rfl (Or.inl rfl) dX8_textAt_20 ?_
              refine rN ?_
              refine g_astoreN (L1 := [some (.ref 0), some (.int (iZ a)), some (.int (iZ b)), some (.int (iZ i)), some (.null), some (.null), some (.null), none]) 21 dX8_hides_19 (by decide) rfl rfl rfl ?_
              refine g_aloadN 23 dX8_hides_21 rfl rfl ?_
              refine g_ifnullN 36 dX8_hides_23 rfl ?_
              refine g_iconst (v := iZ (-1)) 37 dX8_hides_36 rfl rfl ?_
              refine g_iret rfl dX8_hides_37 ?_
              exact k _ (-1) (by decide) H (fun _ _ _ => rfl)
            · refine g_iload_n 5 dX8_textAt_4 rfl rfl ?_
              refine g_bipush (v := iZ (8)) 7 dX8_textAt_5 (by decide +kernel) rfl ?_
              refine g_icZ_lt 14 10 dX8_textAt_7 rfl rfl ri (by decide) (fun c24 => ?_) (fun c24 => ?_)
              · refine g_aload_n 15 dX8_textAt_14 rfl rfl ?_
                refine g_get 18 dX8_textAt_15 faX8_16_X8 F0 rfl rfl ?_
                refine g_iload_n 19 dX8_textAt_18 rfl rfl ?_
                refine g_aaldZ 20 dX8_textAt_19 F3 (by decide) (by omega) (by omega) (by decide) (txs_at (by omega) (by omega)) rfl ?_
                refine g_aret rfl (Or.inr ⟨_, rfl⟩) dX8_textAt_20 ?_
                refine rR ?_
                refine g_astore (L1 := [some (.ref 0), some (.int (iZ a)), some (.int (iZ b)), some (.int (iZ i)), some (.null), some (.null), some (.ref (34 + 2 * i.toNat)), none]) 21 dX8_hides_19 (by decide) rfl rfl rfl ?_
                refine g_aloadN 23 dX8_hides_21 rfl rfl ?_
                refine g_ifnullN 36 dX8_hides_23 rfl ?_
                refine g_iconst (v := iZ (-1)) 37 dX8_hides_36 rfl rfl ?_
                refine g_iret rfl dX8_hides_37 ?_
                exact k _ (-1) (by decide) H (fun _ _ _ => rfl)
              · refine g_null 11 dX8_textAt_10 rfl ?_
                refine g_goto 20 dX8_textAt_11 rfl ?_
                refine g_aret rfl (Or.inl rfl) dX8_textAt_20 ?_
                refine rN ?_
                refine g_astoreN (L1 := [some (.ref 0), some (.int (iZ a)), some (.int (iZ b)), some (.int (iZ i)), some (.null), some (.null), some (.null), none]) 21 dX8_hides_19 (by decide) rfl rfl rfl ?_
                refine g_aloadN 23 dX8_hides_21 rfl rfl ?_
                refine g_ifnullN 36 dX8_hides_23 rfl ?_
                refine g_iconst (v := iZ (-1)) 37 dX8_hides_36 rfl rfl ?_
                refine g_iret rfl dX8_hides_37 ?_
                exact k _ (-1) (by decide) H (fun _ _ _ => rfl)
    · refine g_iload_n 13 dX8_toolAt_12 rfl rfl ?_
      refine g_bipush (v := iZ (12)) 15 dX8_toolAt_13 (by decide +kernel) rfl ?_
      refine g_icZ_lt 22 18 dX8_toolAt_15 rfl rfl ra (by decide) (fun c25 => ?_) (fun c25 => ?_)
      · refine g_aload_n 23 dX8_toolAt_22 rfl rfl ?_
        refine g_get 26 dX8_toolAt_23 faX8_22_X8 F0 rfl rfl ?_
        refine g_iload_n 27 dX8_toolAt_26 rfl rfl ?_
        refine g_aaldZ 28 dX8_toolAt_27 F4 (by decide) (by omega) (by omega) (by decide) (tls_at (by omega) (by omega)) rfl ?_
        refine g_aret rfl (Or.inr ⟨_, rfl⟩) dX8_toolAt_28 ?_
        refine rR ?_
        refine g_astore (L1 := [some (.ref 0), some (.int (iZ a)), some (.int (iZ b)), some (.int (iZ i)), some (.ref (71 + 4 * a.toNat)), none, none, none]) 7 dX8_hides_5 (by decide) rfl rfl rfl ?_
        refine g_aload_n 8 dX8_hides_7 rfl rfl ?_
        refine g_iload_n 9 dX8_hides_8 rfl rfl ?_
        refine g_callV (z := mX8_toolAt) (As := [.int (iZ b)]) 12 dX8_hides_9 mwX8_toolAt ⟨by decide, by decide⟩ rfl wlX8_90 wiX8_toolAt wsX8_toolAt F0 rfl rfl rfl (nle rfl) (nle rfl) rfl ?_
        refine Go.to [some (.ref 0), some (.int (iZ b))] [] rfl rfl ?_
        refine g_iload_n 1 dX8_toolAt_0 rfl rfl ?_
        refine g_ifZ_lt 18 4 dX8_toolAt_1 rfl rfl rb (fun c26 => ?_) (fun c26 => ?_)
        · refine g_null 19 dX8_toolAt_18 rfl ?_
          refine g_goto 28 dX8_toolAt_19 rfl ?_
          refine g_aret rfl (Or.inl rfl) dX8_toolAt_28 ?_
          refine rN ?_
          refine g_astoreN (L1 := [some (.ref 0), some (.int (iZ a)), some (.int (iZ b)), some (.int (iZ i)), some (.ref (71 + 4 * a.toNat)), some (.null), none, none]) 14 dX8_hides_12 (by decide) rfl rfl rfl ?_
          refine g_aload_n 15 dX8_hides_14 rfl rfl ?_
          refine g_iload_n 16 dX8_hides_15 rfl rfl ?_
          refine g_callV (z := mX8_textAt) (As := [.int (iZ i)]) 19 dX8_hides_16 mwX8_textAt ⟨by decide, by decide⟩ rfl wlX8_74 wiX8_textAt wsX8_textAt F0 rfl rfl rfl (nle rfl) (nle rfl) rfl ?_
          refine Go.to [some (.ref 0), some (.int (iZ i))] [] rfl rfl ?_
          refine g_iload_n 1 dX8_textAt_0 rfl rfl ?_
          refine g_ifZ_lt 10 4 dX8_textAt_1 rfl rfl ri (fun c27 => ?_) (fun c27 => ?_)
          · refine g_null 11 dX8_textAt_10 rfl ?_
            refine g_goto 20 dX8_textAt_11 rfl ?_
            refine g_aret rfl (Or.inl rfl) dX8_textAt_20 ?_
            refine rN ?_
            refine g_astoreN (L1 := [some (.ref 0), some (.int (iZ a)), some (.int (iZ b)), some (.int (iZ i)), some (.ref (71 + 4 * a.toNat)), some (.null), some (.null), none]) 21 dX8_hides_19 (by decide) rfl rfl rfl ?_
            refine g_aload 23 dX8_hides_21 rfl rfl ?_
            refine g_ifnull 26 dX8_hides_23 rfl ?_
            refine g_aloadN 28 dX8_hides_26 rfl rfl ?_
            refine g_ifnullN 36 dX8_hides_28 rfl ?_
            refine g_iconst (v := iZ (-1)) 37 dX8_hides_36 rfl rfl ?_
            refine g_iret rfl dX8_hides_37 ?_
            exact k _ (-1) (by decide) H (fun _ _ _ => rfl)
          · refine g_iload_n 5 dX8_textAt_4 rfl rfl ?_
            refine g_bipush (v := iZ (8)) 7 dX8_textAt_5 (by decide +kernel) rfl ?_
            refine g_icZ_lt 14 10 dX8_textAt_7 rfl rfl ri (by decide) (fun c28 => ?_) (fun c28 => ?_)
            · refine g_aload_n 15 dX8_textAt_14 rfl rfl ?_
              refine g_get 18 dX8_textAt_15 faX8_16_X8 F0 rfl rfl ?_
              refine g_iload_n 19 dX8_textAt_18 rfl rfl ?_
              refine g_aaldZ 20 dX8_textAt_19 F3 (by decide) (by omega) (by omega) (by decide) (txs_at (by omega) (by omega)) rfl ?_
              refine g_aret rfl (Or.inr ⟨_, rfl⟩) dX8_textAt_20 ?_
              refine rR ?_
              refine g_astore (L1 := [some (.ref 0), some (.int (iZ a)), some (.int (iZ b)), some (.int (iZ i)), some (.ref (71 + 4 * a.toNat)), some (.null), some (.ref (34 + 2 * i.toNat)), none]) 21 dX8_hides_19 (by decide) rfl rfl rfl ?_
              refine g_aload 23 dX8_hides_21 rfl rfl ?_
              refine g_ifnull 26 dX8_hides_23 rfl ?_
              refine g_aloadN 28 dX8_hides_26 rfl rfl ?_
              refine g_ifnullN 36 dX8_hides_28 rfl ?_
              refine g_iconst (v := iZ (-1)) 37 dX8_hides_36 rfl rfl ?_
              refine g_iret rfl dX8_hides_37 ?_
              exact k _ (-1) (by decide) H (fun _ _ _ => rfl)
            · refine g_null 11 dX8_textAt_10 rfl ?_
              refine g_goto 20 dX8_textAt_11 rfl ?_
              refine g_aret rfl (Or.inl rfl) dX8_textAt_20 ?_
              refine rN ?_
              refine g_astoreN (L1 := [some (.ref 0), some (.int (iZ a)), some (.int (iZ b)), some (.int (iZ i)), some (.ref (71 + 4 * a.toNat)), some (.null), some (.null), none]) 21 dX8_hides_19 (by decide) rfl rfl rfl ?_
              refine g_aload 23 dX8_hides_21 rfl rfl ?_
              refine g_ifnull 26 dX8_hides_23 rfl ?_
              refine g_aloadN 28 dX8_hides_26 rfl rfl ?_
              refine g_ifnullN 36 dX8_hides_28 rfl ?_
              refine g_iconst (v := iZ (-1)) 37 dX8_hides_36 rfl rfl ?_
              refine g_iret rfl dX8_hides_37 ?_
              exact k _ (-1) (by decide) H (fun _ _ _ => rfl)
        · refine g_iload_n 5 dX8_toolAt_4 rfl rfl ?_
          refine g_aload_n 6 dX8_toolAt_5 rfl rfl ?_
          refine g_get 9 dX8_toolAt_6 faX8_26_X8 F0 rfl rfl ?_
          refine g_icZ_ge 18 12 dX8_toolAt_9 rfl rfl rb (by omega) (fun c29 => ?_) (fun c29 => ?_)
          · refine g_null 19 dX8_toolAt_18 rfl ?_
            refine g_goto 28 dX8_toolAt_19 rfl ?_
            refine g_aret rfl (Or.inl rfl) dX8_toolAt_28 ?_
            refine rN ?_
            refine g_astoreN (L1 := [some (.ref 0), some (.int (iZ a)), some (.int (iZ b)), some (.int (iZ i)), some (.ref (71 + 4 * a.toNat)), some (.null), none, none]) 14 dX8_hides_12 (by decide) rfl rfl rfl ?_
            refine g_aload_n 15 dX8_hides_14 rfl rfl ?_
            refine g_iload_n 16 dX8_hides_15 rfl rfl ?_
            refine g_callV (z := mX8_textAt) (As := [.int (iZ i)]) 19 dX8_hides_16 mwX8_textAt ⟨by decide, by decide⟩ rfl wlX8_74 wiX8_textAt wsX8_textAt F0 rfl rfl rfl (nle rfl) (nle rfl) rfl ?_
            refine Go.to [some (.ref 0), some (.int (iZ i))] [] rfl rfl ?_
            refine g_iload_n 1 dX8_textAt_0 rfl rfl ?_
            refine g_ifZ_lt 10 4 dX8_textAt_1 rfl rfl ri (fun c30 => ?_) (fun c30 => ?_)
            · refine g_null 11 dX8_textAt_10 rfl ?_
              refine g_goto 20 dX8_textAt_11 rfl ?_
              refine g_aret rfl (Or.inl rfl) dX8_textAt_20 ?_
              refine rN ?_
              refine g_astoreN (L1 := [some (.ref 0), some (.int (iZ a)), some (.int (iZ b)), some (.int (iZ i)), some (.ref (71 + 4 * a.toNat)), some (.null), some (.null), none]) 21 dX8_hides_19 (by decide) rfl rfl rfl ?_
              refine g_aload 23 dX8_hides_21 rfl rfl ?_
              refine g_ifnull 26 dX8_hides_23 rfl ?_
              refine g_aloadN 28 dX8_hides_26 rfl rfl ?_
              refine g_ifnullN 36 dX8_hides_28 rfl ?_
              refine g_iconst (v := iZ (-1)) 37 dX8_hides_36 rfl rfl ?_
              refine g_iret rfl dX8_hides_37 ?_
              exact k _ (-1) (by decide) H (fun _ _ _ => rfl)
            · refine g_iload_n 5 dX8_textAt_4 rfl rfl ?_
              refine g_bipush (v := iZ (8)) 7 dX8_textAt_5 (by decide +kernel) rfl ?_
              refine g_icZ_lt 14 10 dX8_textAt_7 rfl rfl ri (by decide) (fun c31 => ?_) (fun c31 => ?_)
              · refine g_aload_n 15 dX8_textAt_14 rfl rfl ?_
                refine g_get 18 dX8_textAt_15 faX8_16_X8 F0 rfl rfl ?_
                refine g_iload_n 19 dX8_textAt_18 rfl rfl ?_
                refine g_aaldZ 20 dX8_textAt_19 F3 (by decide) (by omega) (by omega) (by decide) (txs_at (by omega) (by omega)) rfl ?_
                refine g_aret rfl (Or.inr ⟨_, rfl⟩) dX8_textAt_20 ?_
                refine rR ?_
                refine g_astore (L1 := [some (.ref 0), some (.int (iZ a)), some (.int (iZ b)), some (.int (iZ i)), some (.ref (71 + 4 * a.toNat)), some (.null), some (.ref (34 + 2 * i.toNat)), none]) 21 dX8_hides_19 (by decide) rfl rfl rfl ?_
                refine g_aload 23 dX8_hides_21 rfl rfl ?_
                refine g_ifnull 26 dX8_hides_23 rfl ?_
                refine g_aloadN 28 dX8_hides_26 rfl rfl ?_
                refine g_ifnullN 36 dX8_hides_28 rfl ?_
                refine g_iconst (v := iZ (-1)) 37 dX8_hides_36 rfl rfl ?_
                refine g_iret rfl dX8_hides_37 ?_
                exact k _ (-1) (by decide) H (fun _ _ _ => rfl)
              · refine g_null 11 dX8_textAt_10 rfl ?_
                refine g_goto 20 dX8_textAt_11 rfl ?_
                refine g_aret rfl (Or.inl rfl) dX8_textAt_20 ?_
                refine rN ?_
                refine g_astoreN (L1 := [some (.ref 0), some (.int (iZ a)), some (.int (iZ b)), some (.int (iZ i)), some (.ref (71 + 4 * a.toNat)), some (.null), some (.null), none]) 21 dX8_hides_19 (by decide) rfl rfl rfl ?_
                refine g_aload 23 dX8_hides_21 rfl rfl ?_
                refine g_ifnull 26 dX8_hides_23 rfl ?_
                refine g_aloadN 28 dX8_hides_26 rfl rfl ?_
                refine g_ifnullN 36 dX8_hides_28 rfl ?_
                refine g_iconst (v := iZ (-1)) 37 dX8_hides_36 rfl rfl ?_
                refine g_iret rfl dX8_hides_37 ?_
                exact k _ (-1) (by decide) H (fun _ _ _ => rfl)
          · refine g_iload_n 13 dX8_toolAt_12 rfl rfl ?_
            refine g_bipush (v := iZ (12)) 15 dX8_toolAt_13 (by decide +kernel) rfl ?_
            refine g_icZ_lt 22 18 dX8_toolAt_15 rfl rfl rb (by decide) (fun c32 => ?_) (fun c32 => ?_)
            · refine g_aload_n 23 dX8_toolAt_22 rfl rfl ?_
              refine g_get 26 dX8_toolAt_23 faX8_22_X8 F0 rfl rfl ?_
              refine g_iload_n 27 dX8_toolAt_26 rfl rfl ?_
              refine g_aaldZ 28 dX8_toolAt_27 F4 (by decide) (by omega) (by omega) (by decide) (tls_at (by omega) (by omega)) rfl ?_
              refine g_aret rfl (Or.inr ⟨_, rfl⟩) dX8_toolAt_28 ?_
              refine rR ?_
              refine g_astore (L1 := [some (.ref 0), some (.int (iZ a)), some (.int (iZ b)), some (.int (iZ i)), some (.ref (71 + 4 * a.toNat)), some (.ref (71 + 4 * b.toNat)), none, none]) 14 dX8_hides_12 (by decide) rfl rfl rfl ?_
              refine g_aload_n 15 dX8_hides_14 rfl rfl ?_
              refine g_iload_n 16 dX8_hides_15 rfl rfl ?_
              refine g_callV (z := mX8_textAt) (As := [.int (iZ i)]) 19 dX8_hides_16 mwX8_textAt ⟨by decide, by decide⟩ rfl wlX8_74 wiX8_textAt wsX8_textAt F0 rfl rfl rfl (nle rfl) (nle rfl) rfl ?_
              refine Go.to [some (.ref 0), some (.int (iZ i))] [] rfl rfl ?_
              refine g_iload_n 1 dX8_textAt_0 rfl rfl ?_
              refine g_ifZ_lt 10 4 dX8_textAt_1 rfl rfl ri (fun c33 => ?_) (fun c33 => ?_)
              · refine g_null 11 dX8_textAt_10 rfl ?_
                refine g_goto 20 dX8_textAt_11 rfl ?_
                refine g_aret rfl (Or.inl rfl) dX8_textAt_20 ?_
                refine rN ?_
                refine g_astoreN (L1 := [some (.ref 0), some (.int (iZ a)), some (.int (iZ b)), some (.int (iZ i)), some (.ref (71 + 4 * a.toNat)), some (.ref (71 + 4 * b.toNat)), some (.null), none]) 21 dX8_hides_19 (by decide) rfl rfl rfl ?_
                refine g_aload 23 dX8_hides_21 rfl rfl ?_
                refine g_ifnull 26 dX8_hides_23 rfl ?_
                refine g_aload 28 dX8_hides_26 rfl rfl ?_
                refine g_ifnull 31 dX8_hides_28 rfl ?_
                refine g_aloadN 33 dX8_hides_31 rfl rfl ?_
                refine g_ifnonnullN 36 dX8_hides_33 rfl ?_
                refine g_iconst (v := iZ (-1)) 37 dX8_hides_36 rfl rfl ?_
                refine g_iret rfl dX8_hides_37 ?_
                exact k _ (-1) (by decide) H (fun _ _ _ => rfl)
              · refine g_iload_n 5 dX8_textAt_4 rfl rfl ?_
                refine g_bipush (v := iZ (8)) 7 dX8_textAt_5 (by decide +kernel) rfl ?_
                refine g_icZ_lt 14 10 dX8_textAt_7 rfl rfl ri (by decide) (fun c34 => ?_) (fun c34 => ?_)
                · refine g_aload_n 15 dX8_textAt_14 rfl rfl ?_
                  refine g_get 18 dX8_textAt_15 faX8_16_X8 F0 rfl rfl ?_
                  refine g_iload_n 19 dX8_textAt_18 rfl rfl ?_
                  refine g_aaldZ 20 dX8_textAt_19 F3 (by decide) (by omega) (by omega) (by decide) (txs_at (by omega) (by omega)) rfl ?_
                  refine g_aret rfl (Or.inr ⟨_, rfl⟩) dX8_textAt_20 ?_
                  refine rR ?_
                  refine g_astore (L1 := [some (.ref 0), some (.int (iZ a)), some (.int (iZ b)), some (.int (iZ i)), some (.ref (71 + 4 * a.toNat)), some (.ref (71 + 4 * b.toNat)), some (.ref (34 + 2 * i.toNat)), none]) 21 dX8_hides_19 (by decide) rfl rfl rfl ?_
                  refine g_aload 23 dX8_hides_21 rfl rfl ?_
                  refine g_ifnull 26 dX8_hides_23 rfl ?_
                  refine g_aload 28 dX8_hides_26 rfl rfl ?_
                  refine g_ifnull 31 dX8_hides_28 rfl ?_
                  refine g_aload 33 dX8_hides_31 rfl rfl ?_
                  refine g_ifnonnull 38 dX8_hides_33 rfl ?_
                  refine g_aload_n 39 dX8_hides_38 rfl rfl ?_
                  refine g_aload 41 dX8_hides_39 rfl rfl ?_
                  refine g_aload 43 dX8_hides_41 rfl rfl ?_
                  refine g_aload 45 dX8_hides_43 rfl rfl ?_
                  refine g_callV (z := mX8_goneRound) (As := [.ref (71 + 4 * a.toNat), .ref (71 + 4 * b.toNat), .ref (34 + 2 * i.toNat)]) 48 dX8_hides_45 mwX8_goneRound ⟨by decide, by decide⟩ rfl wlX8_166 wiX8_goneRound wsX8_goneRound F0 rfl rfl rfl (nle rfl) (nle rfl) rfl ?_
                  refine y_round HC HS  (by omega) (by omega) (by omega) (fun h36 z35 rz35 H37 s38 => ?_)
                  refine rI ?_
                  refine g_istore (L1 := [some (.ref 0), some (.int (iZ a)), some (.int (iZ b)), some (.int (iZ i)), some (.ref (71 + 4 * a.toNat)), some (.ref (71 + 4 * b.toNat)), some (.ref (34 + 2 * i.toNat)), some (.int (iZ z35))]) 50 dX8_hides_48 (by decide) rfl rfl rfl ?_
                  refine g_iload 52 dX8_hides_50 rfl rfl ?_
                  refine g_ifZ_gt 58 55 dX8_hides_52 rfl rfl rz35 (fun c39 => ?_) (fun c39 => ?_)
                  · refine g_aload_n 59 dX8_hides_58 rfl rfl ?_
                    have f40 := (s38.get (by omega) F0)
                    refine g_get 62 dX8_hides_59 faX8_50_X8 f40 rfl rfl ?_
                    refine g_aload 64 dX8_hides_62 rfl rfl ?_
                    obtain ⟨ta1_41, ta2_41, ta3_41, ta4_41, ta5_41, ta6_41, ta7_41, ta8_41, ta9_41, tb0_41, tb1_41, tb2_41, tb3_41⟩ := HL (a.toNat) (by omega)
                    have f42 := (s38.get (by omega) tb0_41)
                    refine g_get 67 dX8_hides_64 faX8_94_X7 f42 rfl rfl ?_
                    refine g_aload 69 dX8_hides_67 rfl rfl ?_
                    obtain ⟨a_43, x_43, p_43, en_43, dn_43, tk_43, hm_43, on_43, mm_43, of_43, og_43, ma1_43, ma2_43, ma3_43, ma4_43, ma5_43, ma6_43, ma7_43, ma8_43, ma9_43, ma10_43, ma11_43, mb0_43, mb1_43, mb2_43, mb3_43, mb4_43⟩ := SC2.m (m := 20) (by decide) H37
                    refine g_callV (z := mX2_builds) (As := [.ref (71 + 4 * a.toNat + 1), .ref (34 + 2 * i.toNat)]) 72 dX8_hides_69 mwX2_builds ⟨by decide, by decide⟩ rfl wlX8_98 wiX2_builds wsX2_builds mb0_43 rfl rfl rfl (nle rfl) (nle rfl) rfl ?_
                    obtain ⟨t0_44, t1_44, t2_44, t3_44, t4_44⟩ := HT (i.toNat) (by omega)
                    have f45 := (s38.get (by omega) t0_44)
                    have f46 := (s38.get (by omega) t1_44)
                    have f47 := (s38.get (by omega) tb1_41)
                    have f48 := (s38.get (by omega) tb2_41)
                    have f49 := (s38.get (by omega) tb3_41)
                    refine sc2_bl (m := 20) (M := (V 0 a.toNat).toNat) (by decide) H37 f47 f48 f49 ta8_41 ta9_41 (by omega) (by omega) (by omega) (by omega) f45 f46 t4_44 (by omega) (by omega) (fun h50 z51 a52 x53 p54 e55 d56 t57 hm58 c59 mm60 of61 og62 r63 R64 X65 H66 s67 => ?_)
                    have S68 : Scr2 _ _ := s67.scr2 (by decide)
                    obtain ⟨ma1_69, ma2_69, ma3_69, ma4_69, ma5_69, ma6_69, ma7_69, ma8_69, ma9_69, ma10_69, ma11_69, mb0_69, mb1_69, mb2_69, mb3_69, mb4_69⟩ := id X65
                    refine rI ?_
                    refine g_ifZ_eq 97 75 dX8_hides_72 rfl rfl (rg01 (by omega)) (fun c70 => ?_) (fun c70 => ?_)
                    · refine g_iconst (v := iZ (0)) 98 dX8_hides_97 rfl rfl ?_
                      refine g_iret rfl dX8_hides_98 ?_
                      have zz := H.scr (s38.tr S68) H66
                      exact k _ (0) (by decide) zz.1 zz.2
                    · refine g_aload 77 dX8_hides_75 rfl rfl ?_
                      have f71 := (S68.get (by omega) f42)
                      refine g_get 80 dX8_hides_77 faX8_94_X7 f71 rfl rfl ?_
                      refine g_aload_n 81 dX8_hides_80 rfl rfl ?_
                      have f72 := (S68.get (by omega) f40)
                      refine g_get 84 dX8_hides_81 faX8_50_X8 f72 rfl rfl ?_
                      refine g_get 87 dX8_hides_84 faX8_102_X2 mb0_69 rfl rfl ?_
                      have f73 := (S68.get (by omega) f47)
                      refine g_callV (z := mX0_unlike) (As := [.ref 22]) 90 dX8_hides_87 mwX0_unlike ⟨by decide, by decide⟩ rfl wlX8_162 wiX0_unlike wsX0_unlike f73 rfl rfl rfl (nle rfl) (nle rfl) rfl ?_
                      have f74 := (S68.get (by omega) f48)
                      have f75 := (S68.get (by omega) f49)
                      refine c_unl (M := (V 0 a.toNat).toNat) (N := 256) f73 f74 f75 mb2_69 mb3_69 mb4_69 ta8_41 ta9_41 ma10_69 ma11_69 (by omega) (by omega) (by omega) (by omega) (by omega) (by omega) (fun z76 rz76 => ?_)
                      refine rI ?_
                      refine g_ifZ_ne 97 93 dX8_hides_90 rfl rfl (by omega) (fun c77 => ?_) (fun c77 => ?_)
                      · refine g_iconst (v := iZ (0)) 98 dX8_hides_97 rfl rfl ?_
                        refine g_iret rfl dX8_hides_98 ?_
                        have zz := H.scr (s38.tr S68) H66
                        exact k _ (0) (by decide) zz.1 zz.2
                      · refine g_iconst (v := iZ (1)) 94 dX8_hides_93 rfl rfl ?_
                        refine g_goto 98 dX8_hides_94 rfl ?_
                        refine g_iret rfl dX8_hides_98 ?_
                        have zz := H.scr (s38.tr S68) H66
                        exact k _ (1) (by decide) zz.1 zz.2
                  · refine g_iload 57 dX8_hides_55 rfl rfl ?_
                    refine g_iret rfl dX8_hides_57 ?_
                    have zz := H.scr s38 H37
                    exact k _ (z35) rz35 zz.1 zz.2
                · refine g_null 11 dX8_textAt_10 rfl ?_
                  refine g_goto 20 dX8_textAt_11 rfl ?_
                  refine g_aret rfl (Or.inl rfl) dX8_textAt_20 ?_
                  refine rN ?_
                  refine g_astoreN (L1 := [some (.ref 0), some (.int (iZ a)), some (.int (iZ b)), some (.int (iZ i)), some (.ref (71 + 4 * a.toNat)), some (.ref (71 + 4 * b.toNat)), some (.null), none]) 21 dX8_hides_19 (by decide) rfl rfl rfl ?_
                  refine g_aload 23 dX8_hides_21 rfl rfl ?_
                  refine g_ifnull 26 dX8_hides_23 rfl ?_
                  refine g_aload 28 dX8_hides_26 rfl rfl ?_
                  refine g_ifnull 31 dX8_hides_28 rfl ?_
                  refine g_aloadN 33 dX8_hides_31 rfl rfl ?_
                  refine g_ifnonnullN 36 dX8_hides_33 rfl ?_
                  refine g_iconst (v := iZ (-1)) 37 dX8_hides_36 rfl rfl ?_
                  refine g_iret rfl dX8_hides_37 ?_
                  exact k _ (-1) (by decide) H (fun _ _ _ => rfl)
            · refine g_null 19 dX8_toolAt_18 rfl ?_
              refine g_goto 28 dX8_toolAt_19 rfl ?_
              refine g_aret rfl (Or.inl rfl) dX8_toolAt_28 ?_
              refine rN ?_
              refine g_astoreN (L1 := [some (.ref 0), some (.int (iZ a)), some (.int (iZ b)), some (.int (iZ i)), some (.ref (71 + 4 * a.toNat)), some (.null), none, none]) 14 dX8_hides_12 (by decide) rfl rfl rfl ?_
              refine g_aload_n 15 dX8_hides_14 rfl rfl ?_
              refine g_iload_n 16 dX8_hides_15 rfl rfl ?_
              refine g_callV (z := mX8_textAt) (As := [.int (iZ i)]) 19 dX8_hides_16 mwX8_textAt ⟨by decide, by decide⟩ rfl wlX8_74 wiX8_textAt wsX8_textAt F0 rfl rfl rfl (nle rfl) (nle rfl) rfl ?_
              refine Go.to [some (.ref 0), some (.int (iZ i))] [] rfl rfl ?_
              refine g_iload_n 1 dX8_textAt_0 rfl rfl ?_
              refine g_ifZ_lt 10 4 dX8_textAt_1 rfl rfl ri (fun c78 => ?_) (fun c78 => ?_)
              · refine g_null 11 dX8_textAt_10 rfl ?_
                refine g_goto 20 dX8_textAt_11 rfl ?_
                refine g_aret rfl (Or.inl rfl) dX8_textAt_20 ?_
                refine rN ?_
                refine g_astoreN (L1 := [some (.ref 0), some (.int (iZ a)), some (.int (iZ b)), some (.int (iZ i)), some (.ref (71 + 4 * a.toNat)), some (.null), some (.null), none]) 21 dX8_hides_19 (by decide) rfl rfl rfl ?_
                refine g_aload 23 dX8_hides_21 rfl rfl ?_
                refine g_ifnull 26 dX8_hides_23 rfl ?_
                refine g_aloadN 28 dX8_hides_26 rfl rfl ?_
                refine g_ifnullN 36 dX8_hides_28 rfl ?_
                refine g_iconst (v := iZ (-1)) 37 dX8_hides_36 rfl rfl ?_
                refine g_iret rfl dX8_hides_37 ?_
                exact k _ (-1) (by decide) H (fun _ _ _ => rfl)
              · refine g_iload_n 5 dX8_textAt_4 rfl rfl ?_
                refine g_bipush (v := iZ (8)) 7 dX8_textAt_5 (by decide +kernel) rfl ?_
                refine g_icZ_lt 14 10 dX8_textAt_7 rfl rfl ri (by decide) (fun c79 => ?_) (fun c79 => ?_)
                · refine g_aload_n 15 dX8_textAt_14 rfl rfl ?_
                  refine g_get 18 dX8_textAt_15 faX8_16_X8 F0 rfl rfl ?_
                  refine g_iload_n 19 dX8_textAt_18 rfl rfl ?_
                  refine g_aaldZ 20 dX8_textAt_19 F3 (by decide) (by omega) (by omega) (by decide) (txs_at (by omega) (by omega)) rfl ?_
                  refine g_aret rfl (Or.inr ⟨_, rfl⟩) dX8_textAt_20 ?_
                  refine rR ?_
                  refine g_astore (L1 := [some (.ref 0), some (.int (iZ a)), some (.int (iZ b)), some (.int (iZ i)), some (.ref (71 + 4 * a.toNat)), some (.null), some (.ref (34 + 2 * i.toNat)), none]) 21 dX8_hides_19 (by decide) rfl rfl rfl ?_
                  refine g_aload 23 dX8_hides_21 rfl rfl ?_
                  refine g_ifnull 26 dX8_hides_23 rfl ?_
                  refine g_aloadN 28 dX8_hides_26 rfl rfl ?_
                  refine g_ifnullN 36 dX8_hides_28 rfl ?_
                  refine g_iconst (v := iZ (-1)) 37 dX8_hides_36 rfl rfl ?_
                  refine g_iret rfl dX8_hides_37 ?_
                  exact k _ (-1) (by decide) H (fun _ _ _ => rfl)
                · refine g_null 11 dX8_textAt_10 rfl ?_
                  refine g_goto 20 dX8_textAt_11 rfl ?_
                  refine g_aret rfl (Or.inl rfl) dX8_textAt_20 ?_
                  refine rN ?_
                  refine g_astoreN (L1 := [some (.ref 0), some (.int (iZ a)), some (.int (iZ b)), some (.int (iZ i)), some (.ref (71 + 4 * a.toNat)), some (.null), some (.null), none]) 21 dX8_hides_19 (by decide) rfl rfl rfl ?_
                  refine g_aload 23 dX8_hides_21 rfl rfl ?_
                  refine g_ifnull 26 dX8_hides_23 rfl ?_
                  refine g_aloadN 28 dX8_hides_26 rfl rfl ?_
                  refine g_ifnullN 36 dX8_hides_28 rfl ?_
                  refine g_iconst (v := iZ (-1)) 37 dX8_hides_36 rfl rfl ?_
                  refine g_iret rfl dX8_hides_37 ?_
                  exact k _ (-1) (by decide) H (fun _ _ _ => rfl)
      · refine g_null 19 dX8_toolAt_18 rfl ?_
        refine g_goto 28 dX8_toolAt_19 rfl ?_
        refine g_aret rfl (Or.inl rfl) dX8_toolAt_28 ?_
        refine rN ?_
        refine g_astoreN (L1 := [some (.ref 0), some (.int (iZ a)), some (.int (iZ b)), some (.int (iZ i)), some (.null), none, none, none]) 7 dX8_hides_5 (by decide) rfl rfl rfl ?_
        refine g_aload_n 8 dX8_hides_7 rfl rfl ?_
        refine g_iload_n 9 dX8_hides_8 rfl rfl ?_
        refine g_callV (z := mX8_toolAt) (As := [.int (iZ b)]) 12 dX8_hides_9 mwX8_toolAt ⟨by decide, by decide⟩ rfl wlX8_90 wiX8_toolAt wsX8_toolAt F0 rfl rfl rfl (nle rfl) (nle rfl) rfl ?_
        refine Go.to [some (.ref 0), some (.int (iZ b))] [] rfl rfl ?_
        refine g_iload_n 1 dX8_toolAt_0 rfl rfl ?_
        refine g_ifZ_lt 18 4 dX8_toolAt_1 rfl rfl rb (fun c80 => ?_) (fun c80 => ?_)
        · refine g_null 19 dX8_toolAt_18 rfl ?_
          refine g_goto 28 dX8_toolAt_19 rfl ?_
          refine g_aret rfl (Or.inl rfl) dX8_toolAt_28 ?_
          refine rN ?_
          refine g_astoreN (L1 := [some (.ref 0), some (.int (iZ a)), some (.int (iZ b)), some (.int (iZ i)), some (.null), some (.null), none, none]) 14 dX8_hides_12 (by decide) rfl rfl rfl ?_
          refine g_aload_n 15 dX8_hides_14 rfl rfl ?_
          refine g_iload_n 16 dX8_hides_15 rfl rfl ?_
          refine g_callV (z := mX8_textAt) (As := [.int (iZ i)]) 19 dX8_hides_16 mwX8_textAt ⟨by decide, by decide⟩ rfl wlX8_74 wiX8_textAt wsX8_textAt F0 rfl rfl rfl (nle rfl) (nle rfl) rfl ?_
          refine Go.to [some (.ref 0), some (.int (iZ i))] [] rfl rfl ?_
          refine g_iload_n 1 dX8_textAt_0 rfl rfl ?_
          refine g_ifZ_lt 10 4 dX8_textAt_1 rfl rfl ri (fun c81 => ?_) (fun c81 => ?_)
          · refine g_null 11 dX8_textAt_10 rfl ?_
            refine g_goto 20 dX8_textAt_11 rfl ?_
            refine g_aret rfl (Or.inl rfl) dX8_textAt_20 ?_
            refine rN ?_
            refine g_astoreN (L1 := [some (.ref 0), some (.int (iZ a)), some (.int (iZ b)), some (.int (iZ i)), some (.null), some (.null), some (.null), none]) 21 dX8_hides_19 (by decide) rfl rfl rfl ?_
            refine g_aloadN 23 dX8_hides_21 rfl rfl ?_
            refine g_ifnullN 36 dX8_hides_23 rfl ?_
            refine g_iconst (v := iZ (-1)) 37 dX8_hides_36 rfl rfl ?_
            refine g_iret rfl dX8_hides_37 ?_
            exact k _ (-1) (by decide) H (fun _ _ _ => rfl)
          · refine g_iload_n 5 dX8_textAt_4 rfl rfl ?_
            refine g_bipush (v := iZ (8)) 7 dX8_textAt_5 (by decide +kernel) rfl ?_
            refine g_icZ_lt 14 10 dX8_textAt_7 rfl rfl ri (by decide) (fun c82 => ?_) (fun c82 => ?_)
            · refine g_aload_n 15 dX8_textAt_14 rfl rfl ?_
              refine g_get 18 dX8_textAt_15 faX8_16_X8 F0 rfl rfl ?_
              refine g_iload_n 19 dX8_textAt_18 rfl rfl ?_
              refine g_aaldZ 20 dX8_textAt_19 F3 (by decide) (by omega) (by omega) (by decide) (txs_at (by omega) (by omega)) rfl ?_
              refine g_aret rfl (Or.inr ⟨_, rfl⟩) dX8_textAt_20 ?_
              refine rR ?_
              refine g_astore (L1 := [some (.ref 0), some (.int (iZ a)), some (.int (iZ b)), some (.int (iZ i)), some (.null), some (.null), some (.ref (34 + 2 * i.toNat)), none]) 21 dX8_hides_19 (by decide) rfl rfl rfl ?_
              refine g_aloadN 23 dX8_hides_21 rfl rfl ?_
              refine g_ifnullN 36 dX8_hides_23 rfl ?_
              refine g_iconst (v := iZ (-1)) 37 dX8_hides_36 rfl rfl ?_
              refine g_iret rfl dX8_hides_37 ?_
              exact k _ (-1) (by decide) H (fun _ _ _ => rfl)
            · refine g_null 11 dX8_textAt_10 rfl ?_
              refine g_goto 20 dX8_textAt_11 rfl ?_
              refine g_aret rfl (Or.inl rfl) dX8_textAt_20 ?_
              refine rN ?_
              refine g_astoreN (L1 := [some (.ref 0), some (.int (iZ a)), some (.int (iZ b)), some (.int (iZ i)), some (.null), some (.null), some (.null), none]) 21 dX8_hides_19 (by decide) rfl rfl rfl ?_
              refine g_aloadN 23 dX8_hides_21 rfl rfl ?_
              refine g_ifnullN 36 dX8_hides_23 rfl ?_
              refine g_iconst (v := iZ (-1)) 37 dX8_hides_36 rfl rfl ?_
              refine g_iret rfl dX8_hides_37 ?_
              exact k _ (-1) (by decide) H (fun _ _ _ => rfl)
        · refine g_iload_n 5 dX8_toolAt_4 rfl rfl ?_
          refine g_aload_n 6 dX8_toolAt_5 rfl rfl ?_
          refine g_get 9 dX8_toolAt_6 faX8_26_X8 F0 rfl rfl ?_
          refine g_icZ_ge 18 12 dX8_toolAt_9 rfl rfl rb (by omega) (fun c83 => ?_) (fun c83 => ?_)
          · refine g_null 19 dX8_toolAt_18 rfl ?_
            refine g_goto 28 dX8_toolAt_19 rfl ?_
            refine g_aret rfl (Or.inl rfl) dX8_toolAt_28 ?_
            refine rN ?_
            refine g_astoreN (L1 := [some (.ref 0), some (.int (iZ a)), some (.int (iZ b)), some (.int (iZ i)), some (.null), some (.null), none, none]) 14 dX8_hides_12 (by decide) rfl rfl rfl ?_
            refine g_aload_n 15 dX8_hides_14 rfl rfl ?_
            refine g_iload_n 16 dX8_hides_15 rfl rfl ?_
            refine g_callV (z := mX8_textAt) (As := [.int (iZ i)]) 19 dX8_hides_16 mwX8_textAt ⟨by decide, by decide⟩ rfl wlX8_74 wiX8_textAt wsX8_textAt F0 rfl rfl rfl (nle rfl) (nle rfl) rfl ?_
            refine Go.to [some (.ref 0), some (.int (iZ i))] [] rfl rfl ?_
            refine g_iload_n 1 dX8_textAt_0 rfl rfl ?_
            refine g_ifZ_lt 10 4 dX8_textAt_1 rfl rfl ri (fun c84 => ?_) (fun c84 => ?_)
            · refine g_null 11 dX8_textAt_10 rfl ?_
              refine g_goto 20 dX8_textAt_11 rfl ?_
              refine g_aret rfl (Or.inl rfl) dX8_textAt_20 ?_
              refine rN ?_
              refine g_astoreN (L1 := [some (.ref 0), some (.int (iZ a)), some (.int (iZ b)), some (.int (iZ i)), some (.null), some (.null), some (.null), none]) 21 dX8_hides_19 (by decide) rfl rfl rfl ?_
              refine g_aloadN 23 dX8_hides_21 rfl rfl ?_
              refine g_ifnullN 36 dX8_hides_23 rfl ?_
              refine g_iconst (v := iZ (-1)) 37 dX8_hides_36 rfl rfl ?_
              refine g_iret rfl dX8_hides_37 ?_
              exact k _ (-1) (by decide) H (fun _ _ _ => rfl)
            · refine g_iload_n 5 dX8_textAt_4 rfl rfl ?_
              refine g_bipush (v := iZ (8)) 7 dX8_textAt_5 (by decide +kernel) rfl ?_
              refine g_icZ_lt 14 10 dX8_textAt_7 rfl rfl ri (by decide) (fun c85 => ?_) (fun c85 => ?_)
              · refine g_aload_n 15 dX8_textAt_14 rfl rfl ?_
                refine g_get 18 dX8_textAt_15 faX8_16_X8 F0 rfl rfl ?_
                refine g_iload_n 19 dX8_textAt_18 rfl rfl ?_
                refine g_aaldZ 20 dX8_textAt_19 F3 (by decide) (by omega) (by omega) (by decide) (txs_at (by omega) (by omega)) rfl ?_
                refine g_aret rfl (Or.inr ⟨_, rfl⟩) dX8_textAt_20 ?_
                refine rR ?_
                refine g_astore (L1 := [some (.ref 0), some (.int (iZ a)), some (.int (iZ b)), some (.int (iZ i)), some (.null), some (.null), some (.ref (34 + 2 * i.toNat)), none]) 21 dX8_hides_19 (by decide) rfl rfl rfl ?_
                refine g_aloadN 23 dX8_hides_21 rfl rfl ?_
                refine g_ifnullN 36 dX8_hides_23 rfl ?_
                refine g_iconst (v := iZ (-1)) 37 dX8_hides_36 rfl rfl ?_
                refine g_iret rfl dX8_hides_37 ?_
                exact k _ (-1) (by decide) H (fun _ _ _ => rfl)
              · refine g_null 11 dX8_textAt_10 rfl ?_
                refine g_goto 20 dX8_textAt_11 rfl ?_
                refine g_aret rfl (Or.inl rfl) dX8_textAt_20 ?_
                refine rN ?_
                refine g_astoreN (L1 := [some (.ref 0), some (.int (iZ a)), some (.int (iZ b)), some (.int (iZ i)), some (.null), some (.null), some (.null), none]) 21 dX8_hides_19 (by decide) rfl rfl rfl ?_
                refine g_aloadN 23 dX8_hides_21 rfl rfl ?_
                refine g_ifnullN 36 dX8_hides_23 rfl ?_
                refine g_iconst (v := iZ (-1)) 37 dX8_hides_36 rfl rfl ?_
                refine g_iret rfl dX8_hides_37 ?_
                exact k _ (-1) (by decide) H (fun _ _ _ => rfl)
          · refine g_iload_n 13 dX8_toolAt_12 rfl rfl ?_
            refine g_bipush (v := iZ (12)) 15 dX8_toolAt_13 (by decide +kernel) rfl ?_
            refine g_icZ_lt 22 18 dX8_toolAt_15 rfl rfl rb (by decide) (fun c86 => ?_) (fun c86 => ?_)
            · refine g_aload_n 23 dX8_toolAt_22 rfl rfl ?_
              refine g_get 26 dX8_toolAt_23 faX8_22_X8 F0 rfl rfl ?_
              refine g_iload_n 27 dX8_toolAt_26 rfl rfl ?_
              refine g_aaldZ 28 dX8_toolAt_27 F4 (by decide) (by omega) (by omega) (by decide) (tls_at (by omega) (by omega)) rfl ?_
              refine g_aret rfl (Or.inr ⟨_, rfl⟩) dX8_toolAt_28 ?_
              refine rR ?_
              refine g_astore (L1 := [some (.ref 0), some (.int (iZ a)), some (.int (iZ b)), some (.int (iZ i)), some (.null), some (.ref (71 + 4 * b.toNat)), none, none]) 14 dX8_hides_12 (by decide) rfl rfl rfl ?_
              refine g_aload_n 15 dX8_hides_14 rfl rfl ?_
              refine g_iload_n 16 dX8_hides_15 rfl rfl ?_
              refine g_callV (z := mX8_textAt) (As := [.int (iZ i)]) 19 dX8_hides_16 mwX8_textAt ⟨by decide, by decide⟩ rfl wlX8_74 wiX8_textAt wsX8_textAt F0 rfl rfl rfl (nle rfl) (nle rfl) rfl ?_
              refine Go.to [some (.ref 0), some (.int (iZ i))] [] rfl rfl ?_
              refine g_iload_n 1 dX8_textAt_0 rfl rfl ?_
              refine g_ifZ_lt 10 4 dX8_textAt_1 rfl rfl ri (fun c87 => ?_) (fun c87 => ?_)
              · refine g_null 11 dX8_textAt_10 rfl ?_
                refine g_goto 20 dX8_textAt_11 rfl ?_
                refine g_aret rfl (Or.inl rfl) dX8_textAt_20 ?_
                refine rN ?_
                refine g_astoreN (L1 := [some (.ref 0), some (.int (iZ a)), some (.int (iZ b)), some (.int (iZ i)), some (.null), some (.ref (71 + 4 * b.toNat)), some (.null), none]) 21 dX8_hides_19 (by decide) rfl rfl rfl ?_
                refine g_aloadN 23 dX8_hides_21 rfl rfl ?_
                refine g_ifnullN 36 dX8_hides_23 rfl ?_
                refine g_iconst (v := iZ (-1)) 37 dX8_hides_36 rfl rfl ?_
                refine g_iret rfl dX8_hides_37 ?_
                exact k _ (-1) (by decide) H (fun _ _ _ => rfl)
              · refine g_iload_n 5 dX8_textAt_4 rfl rfl ?_
                refine g_bipush (v := iZ (8)) 7 dX8_textAt_5 (by decide +kernel) rfl ?_
                refine g_icZ_lt 14 10 dX8_textAt_7 rfl rfl ri (by decide) (fun c88 => ?_) (fun c88 => ?_)
                · refine g_aload_n 15 dX8_textAt_14 rfl rfl ?_
                  refine g_get 18 dX8_textAt_15 faX8_16_X8 F0 rfl rfl ?_
                  refine g_iload_n 19 dX8_textAt_18 rfl rfl ?_
                  refine g_aaldZ 20 dX8_textAt_19 F3 (by decide) (by omega) (by omega) (by decide) (txs_at (by omega) (by omega)) rfl ?_
                  refine g_aret rfl (Or.inr ⟨_, rfl⟩) dX8_textAt_20 ?_
                  refine rR ?_
                  refine g_astore (L1 := [some (.ref 0), some (.int (iZ a)), some (.int (iZ b)), some (.int (iZ i)), some (.null), some (.ref (71 + 4 * b.toNat)), some (.ref (34 + 2 * i.toNat)), none]) 21 dX8_hides_19 (by decide) rfl rfl rfl ?_
                  refine g_aloadN 23 dX8_hides_21 rfl rfl ?_
                  refine g_ifnullN 36 dX8_hides_23 rfl ?_
                  refine g_iconst (v := iZ (-1)) 37 dX8_hides_36 rfl rfl ?_
                  refine g_iret rfl dX8_hides_37 ?_
                  exact k _ (-1) (by decide) H (fun _ _ _ => rfl)
                · refine g_null 11 dX8_textAt_10 rfl ?_
                  refine g_goto 20 dX8_textAt_11 rfl ?_
                  refine g_aret rfl (Or.inl rfl) dX8_textAt_20 ?_
                  refine rN ?_
                  refine g_astoreN (L1 := [some (.ref 0), some (.int (iZ a)), some (.int (iZ b)), some (.int (iZ i)), some (.null), some (.ref (71 + 4 * b.toNat)), some (.null), none]) 21 dX8_hides_19 (by decide) rfl rfl rfl ?_
                  refine g_aloadN 23 dX8_hides_21 rfl rfl ?_
                  refine g_ifnullN 36 dX8_hides_23 rfl ?_
                  refine g_iconst (v := iZ (-1)) 37 dX8_hides_36 rfl rfl ?_
                  refine g_iret rfl dX8_hides_37 ?_
                  exact k _ (-1) (by decide) H (fun _ _ _ => rfl)
            · refine g_null 19 dX8_toolAt_18 rfl ?_
              refine g_goto 28 dX8_toolAt_19 rfl ?_
              refine g_aret rfl (Or.inl rfl) dX8_toolAt_28 ?_
              refine rN ?_
              refine g_astoreN (L1 := [some (.ref 0), some (.int (iZ a)), some (.int (iZ b)), some (.int (iZ i)), some (.null), some (.null), none, none]) 14 dX8_hides_12 (by decide) rfl rfl rfl ?_
              refine g_aload_n 15 dX8_hides_14 rfl rfl ?_
              refine g_iload_n 16 dX8_hides_15 rfl rfl ?_
              refine g_callV (z := mX8_textAt) (As := [.int (iZ i)]) 19 dX8_hides_16 mwX8_textAt ⟨by decide, by decide⟩ rfl wlX8_74 wiX8_textAt wsX8_textAt F0 rfl rfl rfl (nle rfl) (nle rfl) rfl ?_
              refine Go.to [some (.ref 0), some (.int (iZ i))] [] rfl rfl ?_
              refine g_iload_n 1 dX8_textAt_0 rfl rfl ?_
              refine g_ifZ_lt 10 4 dX8_textAt_1 rfl rfl ri (fun c89 => ?_) (fun c89 => ?_)
              · refine g_null 11 dX8_textAt_10 rfl ?_
                refine g_goto 20 dX8_textAt_11 rfl ?_
                refine g_aret rfl (Or.inl rfl) dX8_textAt_20 ?_
                refine rN ?_
                refine g_astoreN (L1 := [some (.ref 0), some (.int (iZ a)), some (.int (iZ b)), some (.int (iZ i)), some (.null), some (.null), some (.null), none]) 21 dX8_hides_19 (by decide) rfl rfl rfl ?_
                refine g_aloadN 23 dX8_hides_21 rfl rfl ?_
                refine g_ifnullN 36 dX8_hides_23 rfl ?_
                refine g_iconst (v := iZ (-1)) 37 dX8_hides_36 rfl rfl ?_
                refine g_iret rfl dX8_hides_37 ?_
                exact k _ (-1) (by decide) H (fun _ _ _ => rfl)
              · refine g_iload_n 5 dX8_textAt_4 rfl rfl ?_
                refine g_bipush (v := iZ (8)) 7 dX8_textAt_5 (by decide +kernel) rfl ?_
                refine g_icZ_lt 14 10 dX8_textAt_7 rfl rfl ri (by decide) (fun c90 => ?_) (fun c90 => ?_)
                · refine g_aload_n 15 dX8_textAt_14 rfl rfl ?_
                  refine g_get 18 dX8_textAt_15 faX8_16_X8 F0 rfl rfl ?_
                  refine g_iload_n 19 dX8_textAt_18 rfl rfl ?_
                  refine g_aaldZ 20 dX8_textAt_19 F3 (by decide) (by omega) (by omega) (by decide) (txs_at (by omega) (by omega)) rfl ?_
                  refine g_aret rfl (Or.inr ⟨_, rfl⟩) dX8_textAt_20 ?_
                  refine rR ?_
                  refine g_astore (L1 := [some (.ref 0), some (.int (iZ a)), some (.int (iZ b)), some (.int (iZ i)), some (.null), some (.null), some (.ref (34 + 2 * i.toNat)), none]) 21 dX8_hides_19 (by decide) rfl rfl rfl ?_
                  refine g_aloadN 23 dX8_hides_21 rfl rfl ?_
                  refine g_ifnullN 36 dX8_hides_23 rfl ?_
                  refine g_iconst (v := iZ (-1)) 37 dX8_hides_36 rfl rfl ?_
                  refine g_iret rfl dX8_hides_37 ?_
                  exact k _ (-1) (by decide) H (fun _ _ _ => rfl)
                · refine g_null 11 dX8_textAt_10 rfl ?_
                  refine g_goto 20 dX8_textAt_11 rfl ?_
                  refine g_aret rfl (Or.inl rfl) dX8_textAt_20 ?_
                  refine rN ?_
                  refine g_astoreN (L1 := [some (.ref 0), some (.int (iZ a)), some (.int (iZ b)), some (.int (iZ i)), some (.null), some (.null), some (.null), none]) 21 dX8_hides_19 (by decide) rfl rfl rfl ?_
                  refine g_aloadN 23 dX8_hides_21 rfl rfl ?_
                  refine g_ifnullN 36 dX8_hides_23 rfl ?_
                  refine g_iconst (v := iZ (-1)) 37 dX8_hides_36 rfl rfl ?_
                  refine g_iret rfl dX8_hides_37 ?_
                  exact k _ (-1) (by decide) H (fun _ _ _ => rfl)
set_option maxRecDepth 100000 in
theorem b8_sealed {l : Launch} {h : MH} {Q : Option Value → MH → Prop} {tn : Int} {tf : Nat → Int} {xn : Nat → Int} {xf : Nat → Nat → Int} {en : Int} {tc : Nat} {tr : Int64} {V Bf Lf : Nat → Nat → Int} {q lm lo : Nat → Int} {t : Int} (H : IX2 h tn tf xn xf en tc tr V Bf Lf q lm lo) (rt : rg t) (k : ∀ (h1 : MH) (r : Int), (rg r) → IX2 h1 tn tf xn xf en tc tr V Bf Lf q lm lo → Mo h h1 → Q (some (.int (iZ r))) h1) : Go l mX8_sealed 0 [some (.ref 0), some (.int (iZ t))] [] h Q := by
  obtain ⟨HC, HS, HLm, HY, HE, hlen, hmz⟩ := id H
  obtain ⟨F0, F3, F4, htc, HT, HL⟩ := id HC
  refine g_aload_n 1 dX8_sealed_0 rfl rfl ?_
  refine g_iload_n 2 dX8_sealed_1 rfl rfl ?_
  refine g_callV (z := mX8_toolAt) (As := [.int (iZ t)]) 5 dX8_sealed_2 mwX8_toolAt ⟨by decide, by decide⟩ rfl wlX8_90 wiX8_toolAt wsX8_toolAt F0 rfl rfl rfl (nle rfl) (nle rfl) rfl ?_
  refine Go.to [some (.ref 0), some (.int (iZ t))] [] rfl rfl ?_
  refine g_iload_n 1 dX8_toolAt_0 rfl rfl ?_
  refine g_ifZ_lt 18 4 dX8_toolAt_1 rfl rfl rt (fun c1 => ?_) (fun c1 => ?_)
  · refine g_null 19 dX8_toolAt_18 rfl ?_
    refine g_goto 28 dX8_toolAt_19 rfl ?_
    refine g_aret rfl (Or.inl rfl) dX8_toolAt_28 ?_
    refine rN ?_
    refine g_ifnonnullN 8 dX8_sealed_5 rfl ?_
    refine g_iconst (v := iZ (-1)) 9 dX8_sealed_8 rfl rfl ?_
    refine g_iret rfl dX8_sealed_9 ?_
    exact k _ (-1) (by decide) H (fun _ _ _ => rfl)
  · refine g_iload_n 5 dX8_toolAt_4 rfl rfl ?_
    refine g_aload_n 6 dX8_toolAt_5 rfl rfl ?_
    refine g_get 9 dX8_toolAt_6 faX8_26_X8 F0 rfl rfl ?_
    refine g_icZ_ge 18 12 dX8_toolAt_9 rfl rfl rt (by omega) (fun c2 => ?_) (fun c2 => ?_)
    · refine g_null 19 dX8_toolAt_18 rfl ?_
      refine g_goto 28 dX8_toolAt_19 rfl ?_
      refine g_aret rfl (Or.inl rfl) dX8_toolAt_28 ?_
      refine rN ?_
      refine g_ifnonnullN 8 dX8_sealed_5 rfl ?_
      refine g_iconst (v := iZ (-1)) 9 dX8_sealed_8 rfl rfl ?_
      refine g_iret rfl dX8_sealed_9 ?_
      exact k _ (-1) (by decide) H (fun _ _ _ => rfl)
    · refine g_iload_n 13 dX8_toolAt_12 rfl rfl ?_
      refine g_bipush (v := iZ (12)) 15 dX8_toolAt_13 (by decide +kernel) rfl ?_
      refine g_icZ_lt 22 18 dX8_toolAt_15 rfl rfl rt (by decide) (fun c3 => ?_) (fun c3 => ?_)
      · refine g_aload_n 23 dX8_toolAt_22 rfl rfl ?_
        refine g_get 26 dX8_toolAt_23 faX8_22_X8 F0 rfl rfl ?_
        refine g_iload_n 27 dX8_toolAt_26 rfl rfl ?_
        refine g_aaldZ 28 dX8_toolAt_27 F4 (by decide) (by omega) (by omega) (by decide) (tls_at (by omega) (by omega)) rfl ?_
        refine g_aret rfl (Or.inr ⟨_, rfl⟩) dX8_toolAt_28 ?_
        refine rR ?_
        refine g_ifnonnull 10 dX8_sealed_5 rfl ?_
        refine g_aload_n 11 dX8_sealed_10 rfl rfl ?_
        refine g_iload_n 12 dX8_sealed_11 rfl rfl ?_
        refine g_aload_n 13 dX8_sealed_12 rfl rfl ?_
        refine g_callV (z := mX8_staleBits) (As := []) 16 dX8_sealed_13 mwX8_staleBits ⟨by decide, by decide⟩ rfl wlX8_158 wiX8_staleBits wsX8_staleBits F0 rfl rfl rfl (nle rfl) (nle rfl) rfl ?_
        refine y_stale HC HS   (fun h5 z4 rz4 H6 s7 => ?_)
        refine rI ?_
        have f8 := (s7.get (by omega) F0)
        refine g_callV (z := mX8_isSealed) (As := [.int (iZ t), .int (iZ z4)]) 19 dX8_sealed_16 mwX8_isSealed ⟨by decide, by decide⟩ rfl wlX8_176 wiX8_isSealed wsX8_isSealed f8 rfl rfl rfl (nle rfl) (nle rfl) rfl ?_
        refine y_seal (HC.scr s7) rt rz4  (fun z9 rz9 => ?_)
        refine rI ?_
        refine g_ifZ_eq 26 22 dX8_sealed_19 rfl rfl (rg01 rz9) (fun c10 => ?_) (fun c10 => ?_)
        · refine g_iconst (v := iZ (0)) 27 dX8_sealed_26 rfl rfl ?_
          refine g_iret rfl dX8_sealed_27 ?_
          have zz := H.scr s7 H6
          exact k _ (0) (by decide) zz.1 zz.2
        · refine g_iconst (v := iZ (1)) 23 dX8_sealed_22 rfl rfl ?_
          refine g_goto 27 dX8_sealed_23 rfl ?_
          refine g_iret rfl dX8_sealed_27 ?_
          have zz := H.scr s7 H6
          exact k _ (1) (by decide) zz.1 zz.2
      · refine g_null 19 dX8_toolAt_18 rfl ?_
        refine g_goto 28 dX8_toolAt_19 rfl ?_
        refine g_aret rfl (Or.inl rfl) dX8_toolAt_28 ?_
        refine rN ?_
        refine g_ifnonnullN 8 dX8_sealed_5 rfl ?_
        refine g_iconst (v := iZ (-1)) 9 dX8_sealed_8 rfl rfl ?_
        refine g_iret rfl dX8_sealed_9 ?_
        exact k _ (-1) (by decide) H (fun _ _ _ => rfl)
set_option maxRecDepth 100000 in
theorem b8_count {l : Launch} {h : MH} {Q : Option Value → MH → Prop} {tn : Int} {tf : Nat → Int} {xn : Nat → Int} {xf : Nat → Nat → Int} {en : Int} {tc : Nat} {tr : Int64} {V Bf Lf : Nat → Nat → Int} {q lm lo : Nat → Int} {w : Int} (H : IX2 h tn tf xn xf en tc tr V Bf Lf q lm lo) (rw : rg w) (k : ∀ (h1 : MH) (r : Int), (rg r) → IX2 h1 tn tf xn xf en tc tr V Bf Lf q lm lo → Mo h h1 → Q (some (.int (iZ r))) h1) : Go l mX8_count 0 [some (.ref 0), some (.int (iZ w))] [] h Q := by
  obtain ⟨HC, HS, HLm, HY, HE, hlen, hmz⟩ := id H
  obtain ⟨F0, F3, F4, htc, HT, HL⟩ := id HC
  refine g_iload_n 1 dX8_count_0 rfl rfl ?_
  by_cases c1 : w < 0 ∨ 4 < w
  · refine g_tabZO 71 dX8_count_1 rw c1 rfl ?_
    refine g_iconst (v := iZ (-1)) 72 dX8_count_71 rfl rfl ?_
    refine g_iret rfl dX8_count_72 ?_
    exact k _ (-1) (by decide) H (fun _ _ _ => rfl)
  · have c2 : w = 0 ∨ w = 1 ∨ w = 2 ∨ w = 3 ∨ w = 4 := by omega
    rcases c2 with c2 | c2 | c2 | c2 | c2
    · refine g_tabZI (0) 36 dX8_count_1 rw c2 (by decide) (by decide) rfl rfl ?_
      refine g_aload_n 37 dX8_count_36 rfl rfl ?_
      refine g_get 40 dX8_count_37 faX8_26_X8 F0 rfl rfl ?_
      refine g_iret rfl dX8_count_40 ?_
      exact k _ ((tc : Int)) (by omega) H (fun _ _ _ => rfl)
    · refine g_tabZI (1) 41 dX8_count_1 rw c2 (by decide) (by decide) rfl rfl ?_
      refine g_aload_n 42 dX8_count_41 rfl rfl ?_
      refine g_get 45 dX8_count_42 faX8_59_X8 F0 rfl rfl ?_
      obtain ⟨eu, ek, el, oeu, oek, oel, e1, e2, E0, E1, E2, E3⟩ := id HE
      refine g_get 48 dX8_count_45 faX8_219_X1 E0 rfl rfl ?_
      refine g_iret rfl dX8_count_48 ?_
      exact k _ (en) (by omega) H (fun _ _ _ => rfl)
    · refine g_tabZI (2) 49 dX8_count_1 rw c2 (by decide) (by decide) rfl rfl ?_
      refine g_aload_n 50 dX8_count_49 rfl rfl ?_
      refine g_get 53 dX8_count_50 faX8_10_X8 F0 rfl rfl ?_
      obtain ⟨y0, y1, y2, y3, y4⟩ := id HY
      refine g_get 56 dX8_count_53 faX8_67_X6 y0 rfl rfl ?_
      refine g_iret rfl dX8_count_56 ?_
      exact k _ (tn) (by omega) H (fun _ _ _ => rfl)
    · refine g_tabZI (3) 57 dX8_count_1 rw c2 (by decide) (by decide) rfl rfl ?_
      refine g_aload_n 58 dX8_count_57 rfl rfl ?_
      refine g_callV (z := mX8_checkedTools) (As := []) 61 dX8_count_58 mwX8_checkedTools ⟨by decide, by decide⟩ rfl wlX8_222 wiX8_checkedTools wsX8_checkedTools F0 rfl rfl rfl (nle rfl) (nle rfl) rfl ?_
      refine y_chk HC   (fun z3 rz3 => ?_)
      refine rI ?_
      refine g_iret rfl dX8_count_61 ?_
      exact k _ (z3) rz3 H (fun _ _ _ => rfl)
    · refine g_tabZI (4) 62 dX8_count_1 rw c2 (by decide) (by decide) rfl rfl ?_
      refine g_aload_n 63 dX8_count_62 rfl rfl ?_
      refine g_aload_n 64 dX8_count_63 rfl rfl ?_
      refine g_callV (z := mX8_staleBits) (As := []) 67 dX8_count_64 mwX8_staleBits ⟨by decide, by decide⟩ rfl wlX8_158 wiX8_staleBits wsX8_staleBits F0 rfl rfl rfl (nle rfl) (nle rfl) rfl ?_
      refine y_stale HC HS   (fun h5 z4 rz4 H6 s7 => ?_)
      refine rI ?_
      have f8 := (s7.get (by omega) F0)
      refine g_callV (z := mX8_sealedTools) (As := [.int (iZ z4)]) 70 dX8_count_67 mwX8_sealedTools ⟨by decide, by decide⟩ rfl wlX8_225 wiX8_sealedTools wsX8_sealedTools f8 rfl rfl rfl (nle rfl) (nle rfl) rfl ?_
      refine y_sls (HC.scr s7) rz4  (fun z9 rz9 => ?_)
      refine rI ?_
      refine g_iret rfl dX8_count_70 ?_
      have zz := H.scr s7 H6
      exact k _ (z9) rz9 zz.1 zz.2
set_option maxRecDepth 100000 in
theorem y_least_l {l : Launch} {Q : Option Value → MH → Prop} {tc : Nat} {tr : Int64} {xn : Nat → Int} {xf V Bf Lf : Nat → Nat → Int}    : ∀ (m0 : Nat) (h : MH) (fr : Int) (b : Int) (j : Int), (12 - j).toNat = m0 → CORE2 h tc tr xn xf V Bf Lf → SC2 h → (rg fr) → (rg b) → (0 ≤ j ∧ j ≤ 12) → (∀ (h1 : MH) (r : Int), (rg r) → SC2 h1 → Scr2 h h1 → Q (some (.int (iZ r))) h1) → Go l mX8_least 30 [some (.ref 0), none, some (.int (iZ fr)), some (.int (iZ b)), some (.int (iZ j)), none, none] [] h Q := by
  intro m0
  induction m0 using Nat.strongRecOn with
  | ind m0 ih =>
    intro h fr b j hmz HC HS rfr rb hj k
    obtain ⟨F0, F3, F4, htc, HT, HL⟩ := id HC
    refine g_iload 32 dX8_least_30 rfl rfl ?_
    refine g_bipush (v := iZ (12)) 34 dX8_least_32 (by decide +kernel) rfl ?_
    refine g_icZ_ge 96 37 dX8_least_34 rfl rfl (by omega) (by decide) (fun c1 => ?_) (fun c1 => ?_)
    · refine g_iload_n 97 dX8_least_96 rfl rfl ?_
      refine g_iret rfl dX8_least_97 ?_
      exact k _ (b) rb HS (Scr2.refl _)
    · refine g_iload_n 38 dX8_least_37 rfl rfl ?_
      refine g_iload 40 dX8_least_38 rfl rfl ?_
      refine g_callS (z := mX8_hasBit) (As := [.int (iZ fr), .int (iZ j)]) 43 dX8_least_40 mwX8_hasBit ⟨by decide, by decide⟩ rfl wlX8_180 wtX8_hasBit rfl (nle rfl) (nle rfl) rfl ?_
      refine w_hb rfr (by omega) (fun z2 rz2 => ?_)
      refine rI ?_
      refine g_ifZ_eq 90 46 dX8_least_43 rfl rfl (rg01 rz2) (fun c3 => ?_) (fun c3 => ?_)
      · refine g_iincZ [some (.ref 0), none, some (.int (iZ fr)), some (.int (iZ b)), some (.int (iZ (j + 1))), none, none] 93 dX8_least_90 rfl (by omega) (by decide) rfl rfl rfl ?_
        refine g_goto 30 dX8_least_93 rfl ?_
        exact ih _ (by omega) _ (fr) (b) (j + 1) rfl HC HS rfr rb (by omega) k
      · refine g_aload_n 47 dX8_least_46 rfl rfl ?_
        refine g_iload 49 dX8_least_47 rfl rfl ?_
        refine g_callV (z := mX8_chainEnd) (As := [.int (iZ j)]) 52 dX8_least_49 mwX8_chainEnd ⟨by decide, by decide⟩ rfl wlX8_183 wiX8_chainEnd wsX8_chainEnd F0 rfl rfl rfl (nle rfl) (nle rfl) rfl ?_
        refine y_che HC (by omega)  (fun z4 rz4 => ?_)
        refine rI ?_
        refine g_istore (L1 := [some (.ref 0), none, some (.int (iZ fr)), some (.int (iZ b)), some (.int (iZ j)), some (.int (iZ z4)), none]) 54 dX8_least_52 (by decide) rfl rfl rfl ?_
        refine g_aload_n 55 dX8_least_54 rfl rfl ?_
        refine g_iload 57 dX8_least_55 rfl rfl ?_
        refine g_callV (z := mX8_toolAt) (As := [.int (iZ z4)]) 60 dX8_least_57 mwX8_toolAt ⟨by decide, by decide⟩ rfl wlX8_90 wiX8_toolAt wsX8_toolAt F0 rfl rfl rfl (nle rfl) (nle rfl) rfl ?_
        refine Go.to [some (.ref 0), some (.int (iZ z4))] [] rfl rfl ?_
        refine g_iload_n 1 dX8_toolAt_0 rfl rfl ?_
        refine g_ifZ_lt 18 4 dX8_toolAt_1 rfl rfl rz4 (fun c5 => ?_) (fun c5 => ?_)
        · refine g_null 19 dX8_toolAt_18 rfl ?_
          refine g_goto 28 dX8_toolAt_19 rfl ?_
          refine g_aret rfl (Or.inl rfl) dX8_toolAt_28 ?_
          refine rN ?_
          refine g_astoreN (L1 := [some (.ref 0), none, some (.int (iZ fr)), some (.int (iZ b)), some (.int (iZ j)), some (.int (iZ z4)), some (.null)]) 62 dX8_least_60 (by decide) rfl rfl rfl ?_
          refine g_aloadN 64 dX8_least_62 rfl rfl ?_
          refine g_ifnullN 90 dX8_least_64 rfl ?_
          refine g_iincZ [some (.ref 0), none, some (.int (iZ fr)), some (.int (iZ b)), some (.int (iZ (j + 1))), some (.int (iZ z4)), some (.null)] 93 dX8_least_90 rfl (by omega) (by decide) rfl rfl rfl ?_
          refine g_goto 30 dX8_least_93 rfl ?_
          refine Go.fgt 5 ?_
          refine Go.fgt 6 ?_
          exact ih _ (by omega) _ (fr) (b) (j + 1) rfl HC HS rfr rb (by omega) k
        · refine g_iload_n 5 dX8_toolAt_4 rfl rfl ?_
          refine g_aload_n 6 dX8_toolAt_5 rfl rfl ?_
          refine g_get 9 dX8_toolAt_6 faX8_26_X8 F0 rfl rfl ?_
          refine g_icZ_ge 18 12 dX8_toolAt_9 rfl rfl rz4 (by omega) (fun c6 => ?_) (fun c6 => ?_)
          · refine g_null 19 dX8_toolAt_18 rfl ?_
            refine g_goto 28 dX8_toolAt_19 rfl ?_
            refine g_aret rfl (Or.inl rfl) dX8_toolAt_28 ?_
            refine rN ?_
            refine g_astoreN (L1 := [some (.ref 0), none, some (.int (iZ fr)), some (.int (iZ b)), some (.int (iZ j)), some (.int (iZ z4)), some (.null)]) 62 dX8_least_60 (by decide) rfl rfl rfl ?_
            refine g_aloadN 64 dX8_least_62 rfl rfl ?_
            refine g_ifnullN 90 dX8_least_64 rfl ?_
            refine g_iincZ [some (.ref 0), none, some (.int (iZ fr)), some (.int (iZ b)), some (.int (iZ (j + 1))), some (.int (iZ z4)), some (.null)] 93 dX8_least_90 rfl (by omega) (by decide) rfl rfl rfl ?_
            refine g_goto 30 dX8_least_93 rfl ?_
            refine Go.fgt 5 ?_
            refine Go.fgt 6 ?_
            exact ih _ (by omega) _ (fr) (b) (j + 1) rfl HC HS rfr rb (by omega) k
          · refine g_iload_n 13 dX8_toolAt_12 rfl rfl ?_
            refine g_bipush (v := iZ (12)) 15 dX8_toolAt_13 (by decide +kernel) rfl ?_
            refine g_icZ_lt 22 18 dX8_toolAt_15 rfl rfl rz4 (by decide) (fun c7 => ?_) (fun c7 => ?_)
            · refine g_aload_n 23 dX8_toolAt_22 rfl rfl ?_
              refine g_get 26 dX8_toolAt_23 faX8_22_X8 F0 rfl rfl ?_
              refine g_iload_n 27 dX8_toolAt_26 rfl rfl ?_
              refine g_aaldZ 28 dX8_toolAt_27 F4 (by decide) (by omega) (by omega) (by decide) (tls_at (by omega) (by omega)) rfl ?_
              refine g_aret rfl (Or.inr ⟨_, rfl⟩) dX8_toolAt_28 ?_
              refine rR ?_
              refine g_astore (L1 := [some (.ref 0), none, some (.int (iZ fr)), some (.int (iZ b)), some (.int (iZ j)), some (.int (iZ z4)), some (.ref (71 + 4 * z4.toNat))]) 62 dX8_least_60 (by decide) rfl rfl rfl ?_
              refine g_aload 64 dX8_least_62 rfl rfl ?_
              refine g_ifnull 67 dX8_least_64 rfl ?_
              refine g_aload 69 dX8_least_67 rfl rfl ?_
              obtain ⟨ta1_8, ta2_8, ta3_8, ta4_8, ta5_8, ta6_8, ta7_8, ta8_8, ta9_8, tb0_8, tb1_8, tb2_8, tb3_8⟩ := HL (z4.toNat) (by omega)
              refine g_get 72 dX8_least_69 faX8_112_X7 tb0_8 rfl rfl ?_
              refine g_ifZ_ne 90 75 dX8_least_72 rfl rfl (by omega) (fun c9 => ?_) (fun c9 => ?_)
              · refine g_iincZ [some (.ref 0), none, some (.int (iZ fr)), some (.int (iZ b)), some (.int (iZ (j + 1))), some (.int (iZ z4)), some (.ref (71 + 4 * z4.toNat))] 93 dX8_least_90 rfl (by omega) (by decide) rfl rfl rfl ?_
                refine g_goto 30 dX8_least_93 rfl ?_
                refine Go.fgt 5 ?_
                refine Go.fgt 6 ?_
                exact ih _ (by omega) _ (fr) (b) (j + 1) rfl HC HS rfr rb (by omega) k
              · refine g_aload 77 dX8_least_75 rfl rfl ?_
                refine g_get 80 dX8_least_77 faX8_121_X7 tb0_8 rfl rfl ?_
                refine g_ifZ_ne 90 83 dX8_least_80 rfl rfl (rg01 ta7_8) (fun c10 => ?_) (fun c10 => ?_)
                · refine g_iincZ [some (.ref 0), none, some (.int (iZ fr)), some (.int (iZ b)), some (.int (iZ (j + 1))), some (.int (iZ z4)), some (.ref (71 + 4 * z4.toNat))] 93 dX8_least_90 rfl (by omega) (by decide) rfl rfl rfl ?_
                  refine g_goto 30 dX8_least_93 rfl ?_
                  refine Go.fgt 5 ?_
                  refine Go.fgt 6 ?_
                  exact ih _ (by omega) _ (fr) (b) (j + 1) rfl HC HS rfr rb (by omega) k
                · refine g_iload_n 84 dX8_least_83 rfl rfl ?_
                  refine g_iconst (v := iZ (1)) 85 dX8_least_84 rfl rfl ?_
                  refine g_iload 87 dX8_least_85 rfl rfl ?_
                  refine g_ishl 88 dX8_least_87 rfl ?_
                  refine Go.genZ (fun z11 rz11 => ?_)
                  refine g_ior 89 dX8_least_88 rfl ?_
                  refine Go.genZ (fun z12 rz12 => ?_)
                  refine g_istore_n (L1 := [some (.ref 0), none, some (.int (iZ fr)), some (.int (iZ z12)), some (.int (iZ j)), some (.int (iZ z4)), some (.ref (71 + 4 * z4.toNat))]) 90 dX8_least_89 (by decide) rfl rfl rfl ?_
                  refine g_iincZ [some (.ref 0), none, some (.int (iZ fr)), some (.int (iZ z12)), some (.int (iZ (j + 1))), some (.int (iZ z4)), some (.ref (71 + 4 * z4.toNat))] 93 dX8_least_90 rfl (by omega) (by decide) rfl rfl rfl ?_
                  refine g_goto 30 dX8_least_93 rfl ?_
                  refine Go.fgt 5 ?_
                  refine Go.fgt 6 ?_
                  exact ih _ (by omega) _ (fr) (z12) (j + 1) rfl HC HS rfr rz12 (by omega) k
            · refine g_null 19 dX8_toolAt_18 rfl ?_
              refine g_goto 28 dX8_toolAt_19 rfl ?_
              refine g_aret rfl (Or.inl rfl) dX8_toolAt_28 ?_
              refine rN ?_
              refine g_astoreN (L1 := [some (.ref 0), none, some (.int (iZ fr)), some (.int (iZ b)), some (.int (iZ j)), some (.int (iZ z4)), some (.null)]) 62 dX8_least_60 (by decide) rfl rfl rfl ?_
              refine g_aloadN 64 dX8_least_62 rfl rfl ?_
              refine g_ifnullN 90 dX8_least_64 rfl ?_
              refine g_iincZ [some (.ref 0), none, some (.int (iZ fr)), some (.int (iZ b)), some (.int (iZ (j + 1))), some (.int (iZ z4)), some (.null)] 93 dX8_least_90 rfl (by omega) (by decide) rfl rfl rfl ?_
              refine g_goto 30 dX8_least_93 rfl ?_
              refine Go.fgt 5 ?_
              refine Go.fgt 6 ?_
              exact ih _ (by omega) _ (fr) (b) (j + 1) rfl HC HS rfr rb (by omega) k
set_option maxRecDepth 100000 in
theorem y_least {l : Launch} {h : MH} {Q : Option Value → MH → Prop} {tc : Nat} {tr : Int64} {xn : Nat → Int} {xf V Bf Lf : Nat → Nat → Int} {z0 : Int} (HC : CORE2 h tc tr xn xf V Bf Lf) (HS : SC2 h) (rz0 : rg z0)  (k : ∀ (h1 : MH) (r : Int), (rg r) → SC2 h1 → Scr2 h h1 → Q (some (.int (iZ r))) h1) : Go l mX8_least 0 [some (.ref 0), some (.int (iZ z0)), none, none, none, none, none] [] h Q := by
  obtain ⟨F0, F3, F4, htc, HT, HL⟩ := id HC
  refine g_iload_n 1 dX8_least_0 rfl rfl ?_
  refine g_ifZ_lt 14 4 dX8_least_1 rfl rfl rz0 (fun c1 => ?_) (fun c1 => ?_)
  · refine g_iconst (v := iZ (-1)) 15 dX8_least_14 rfl rfl ?_
    refine g_iret rfl dX8_least_15 ?_
    exact k _ (-1) (by decide) HS (Scr2.refl _)
  · refine g_iload_n 5 dX8_least_4 rfl rfl ?_
    refine g_iconst (v := iZ (1)) 6 dX8_least_5 rfl rfl ?_
    refine g_aload_n 7 dX8_least_6 rfl rfl ?_
    refine g_get 10 dX8_least_7 faX8_26_X8 F0 rfl rfl ?_
    refine g_ishl 11 dX8_least_10 rfl ?_
    refine Go.genZ (fun z2 rz2 => ?_)
    refine g_icZ_lt 16 14 dX8_least_11 rfl rfl rz0 rz2 (fun c3 => ?_) (fun c3 => ?_)
    · refine g_iload_n 17 dX8_least_16 rfl rfl ?_
      refine g_aload_n 18 dX8_least_17 rfl rfl ?_
      refine g_callV (z := mX8_staleBits) (As := []) 21 dX8_least_18 mwX8_staleBits ⟨by decide, by decide⟩ rfl wlX8_158 wiX8_staleBits wsX8_staleBits F0 rfl rfl rfl (nle rfl) (nle rfl) rfl ?_
      refine y_stale HC HS   (fun h5 z4 rz4 H6 s7 => ?_)
      refine rI ?_
      refine g_iconst (v := iZ (-1)) 22 dX8_least_21 rfl rfl ?_
      refine g_ixor 23 dX8_least_22 rfl ?_
      refine Go.genZ (fun z8 rz8 => ?_)
      refine g_iand 24 dX8_least_23 rfl ?_
      refine Go.genZ (fun z9 rz9 => ?_)
      refine g_istore_n (L1 := [some (.ref 0), some (.int (iZ z0)), some (.int (iZ z9)), none, none, none, none]) 25 dX8_least_24 (by decide) rfl rfl rfl ?_
      refine g_iconst (v := iZ (0)) 26 dX8_least_25 rfl rfl ?_
      refine g_istore_n (L1 := [some (.ref 0), some (.int (iZ z0)), some (.int (iZ z9)), some (.int (iZ 0)), none, none, none]) 27 dX8_least_26 (by decide) rfl rfl rfl ?_
      refine g_iconst (v := iZ (0)) 28 dX8_least_27 rfl rfl ?_
      refine g_istore (L1 := [some (.ref 0), some (.int (iZ z0)), some (.int (iZ z9)), some (.int (iZ 0)), some (.int (iZ 0)), none, none]) 30 dX8_least_28 (by decide) rfl rfl rfl ?_
      refine Go.fgt 1 ?_
      exact y_least_l   _ _ (z9) (0) (0) rfl (HC.scr s7) H6 rz9 (by decide) (by omega) (fun h9 r9 y9 a9 b9 => k h9 r9 y9 a9 (s7.tr b9))
    · refine g_iconst (v := iZ (-1)) 15 dX8_least_14 rfl rfl ?_
      refine g_iret rfl dX8_least_15 ?_
      exact k _ (-1) (by decide) HS (Scr2.refl _)
theorem b8_least {l : Launch} {h : MH} {Q : Option Value → MH → Prop} {tn : Int} {tf : Nat → Int} {xn : Nat → Int} {xf : Nat → Nat → Int} {en : Int} {tc : Nat} {tr : Int64} {V Bf Lf : Nat → Nat → Int} {q lm lo : Nat → Int} {z0 : Int} (H : IX2 h tn tf xn xf en tc tr V Bf Lf q lm lo) (rz0 : rg z0) (k : ∀ (h1 : MH) (r : Int), (rg r) → IX2 h1 tn tf xn xf en tc tr V Bf Lf q lm lo → Mo h h1 → Q (some (.int (iZ r))) h1) : Go l mX8_least 0 [some (.ref 0), some (.int (iZ z0)), none, none, none, none, none] [] h Q :=
  y_least H.1 H.2.1 rz0 (fun h1 r rr S1 s => k h1 r rr (H.scr s S1).1 (H.scr s S1).2)
theorem b8_trace {l : Launch} {h : MH} {Q : Option Value → MH → Prop} {tn : Int} {tf : Nat → Int} {xn : Nat → Int} {xf : Nat → Nat → Int} {en : Int} {tc : Nat} {tr : Int64} {V Bf Lf : Nat → Nat → Int} {q lm lo : Nat → Int} (H : IX2 h tn tf xn xf en tc tr V Bf Lf q lm lo) (k : Q (some (.long tr)) h) : Go l mX8_trace 0 [some (.ref 0)] [] h Q := by
  obtain ⟨HC, HS, HLm, HY, HE, hlen, hmz⟩ := id H
  obtain ⟨F0, F3, F4, htc, HT, HL⟩ := id HC
  refine g_aload_n 1 dX8_trace_0 rfl rfl ?_
  refine g_get 4 dX8_trace_1 faX8_63_X8 F0 rfl rfl ?_
  refine g_lret rfl dX8_trace_4 ?_
  exact k

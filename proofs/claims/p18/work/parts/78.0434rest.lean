set_option maxRecDepth 100000 in
theorem b8_rebuilt {l : Launch} {h : MH} {Q : Option Value → MH → Prop} {tn : Int} {tf : Nat → Int} {xn : Nat → Int} {xf : Nat → Nat → Int} {en : Int} {tc : Nat} {tr : Int64} {V Bf Lf : Nat → Nat → Int} {q lm lo : Nat → Int} {t : Int} (H : IX2 h tn tf xn xf en tc tr V Bf Lf q lm lo) (rt : rg t) (k : ∀ (h1 : MH) (r : Int), (rg r) → IX2 h1 tn tf xn xf en tc tr V Bf Lf q lm lo → Mo h h1 → Q (some (.int (iZ r))) h1) : Go l mX8_rebuilt 0 [some (.ref 0), some (.int (iZ t)), none] [] h Q := by
  obtain ⟨HC, HS, HLm, HY, HE, hlen, hmz⟩ := id H
  obtain ⟨F0, F3, F4, htc, HT, HL⟩ := id HC
  refine g_aload_n 1 dX8_rebuilt_0 rfl rfl ?_
  refine g_iload_n 2 dX8_rebuilt_1 rfl rfl ?_
  refine g_callV (z := mX8_toolAt) (As := [.int (iZ t)]) 5 dX8_rebuilt_2 mwX8_toolAt ⟨by decide, by decide⟩ rfl wlX8_90 wiX8_toolAt wsX8_toolAt F0 rfl rfl rfl (nle rfl) (nle rfl) rfl ?_
  refine Go.to [some (.ref 0), some (.int (iZ t))] [] rfl rfl ?_
  refine g_iload_n 1 dX8_toolAt_0 rfl rfl ?_
  refine g_ifZ_lt 18 4 dX8_toolAt_1 rfl rfl rt (fun c1 => ?_) (fun c1 => ?_)
  · refine g_null 19 dX8_toolAt_18 rfl ?_
    refine g_goto 28 dX8_toolAt_19 rfl ?_
    refine g_aret rfl (Or.inl rfl) dX8_toolAt_28 ?_
    refine rN ?_
    refine g_astore_nN (L1 := [some (.ref 0), some (.int (iZ t)), some (.null)]) 6 dX8_rebuilt_5 (by decide) rfl rfl rfl ?_
    refine g_aload_nN 7 dX8_rebuilt_6 rfl rfl ?_
    refine g_ifnonnullN 10 dX8_rebuilt_7 rfl ?_
    refine g_iconst (v := iZ (-1)) 11 dX8_rebuilt_10 rfl rfl ?_
    refine g_goto 19 dX8_rebuilt_11 rfl ?_
    refine g_iret rfl dX8_rebuilt_19 ?_
    exact k _ (-1) (by decide) H (fun _ _ _ => rfl)
  · refine g_iload_n 5 dX8_toolAt_4 rfl rfl ?_
    refine g_aload_n 6 dX8_toolAt_5 rfl rfl ?_
    refine g_get 9 dX8_toolAt_6 faX8_26_X8 F0 rfl rfl ?_
    refine g_icZ_ge 18 12 dX8_toolAt_9 rfl rfl rt (by omega) (fun c2 => ?_) (fun c2 => ?_)
    · refine g_null 19 dX8_toolAt_18 rfl ?_
      refine g_goto 28 dX8_toolAt_19 rfl ?_
      refine g_aret rfl (Or.inl rfl) dX8_toolAt_28 ?_
      refine rN ?_
      refine g_astore_nN (L1 := [some (.ref 0), some (.int (iZ t)), some (.null)]) 6 dX8_rebuilt_5 (by decide) rfl rfl rfl ?_
      refine g_aload_nN 7 dX8_rebuilt_6 rfl rfl ?_
      refine g_ifnonnullN 10 dX8_rebuilt_7 rfl ?_
      refine g_iconst (v := iZ (-1)) 11 dX8_rebuilt_10 rfl rfl ?_
      refine g_goto 19 dX8_rebuilt_11 rfl ?_
      refine g_iret rfl dX8_rebuilt_19 ?_
      exact k _ (-1) (by decide) H (fun _ _ _ => rfl)
    · refine g_iload_n 13 dX8_toolAt_12 rfl rfl ?_
      refine g_bipush (v := iZ (12)) 15 dX8_toolAt_13 (by decide +kernel) rfl ?_
      refine g_icZ_lt 22 18 dX8_toolAt_15 rfl rfl rt (by decide) (fun c3 => ?_) (fun c3 => ?_)
      · refine g_aload_n 23 dX8_toolAt_22 rfl rfl ?_
        refine g_get 26 dX8_toolAt_23 faX8_22_X8 F0 rfl rfl ?_
        refine g_iload_n 27 dX8_toolAt_26 rfl rfl ?_
        refine g_aaldZ 28 dX8_toolAt_27 F4 (by decide) (by omega) (by omega) (by decide) (tls_at (by omega) (by omega)) rfl ?_
        refine g_aret rfl (Or.inr ⟨_, rfl⟩) dX8_toolAt_28 ?_
        refine rR ?_
        refine g_astore_n (L1 := [some (.ref 0), some (.int (iZ t)), some (.ref (71 + 4 * t.toNat))]) 6 dX8_rebuilt_5 (by decide) rfl rfl rfl ?_
        refine g_aload_n 7 dX8_rebuilt_6 rfl rfl ?_
        refine g_ifnonnull 14 dX8_rebuilt_7 rfl ?_
        refine g_aload_n 15 dX8_rebuilt_14 rfl rfl ?_
        refine g_aload_n 16 dX8_rebuilt_15 rfl rfl ?_
        refine g_callV (z := mX8_madeAgain) (As := [.ref (71 + 4 * t.toNat)]) 19 dX8_rebuilt_16 mwX8_madeAgain ⟨by decide, by decide⟩ rfl wlX8_154 wiX8_madeAgain wsX8_madeAgain F0 rfl rfl rfl (nle rfl) (nle rfl) rfl ?_
        refine y_again HC HS  (by omega) (fun h5 z4 rz4 H6 s7 => ?_)
        refine rI ?_
        refine g_iret rfl dX8_rebuilt_19 ?_
        have zz := H.scr s7 H6
        exact k _ (z4) rz4 zz.1 zz.2
      · refine g_null 19 dX8_toolAt_18 rfl ?_
        refine g_goto 28 dX8_toolAt_19 rfl ?_
        refine g_aret rfl (Or.inl rfl) dX8_toolAt_28 ?_
        refine rN ?_
        refine g_astore_nN (L1 := [some (.ref 0), some (.int (iZ t)), some (.null)]) 6 dX8_rebuilt_5 (by decide) rfl rfl rfl ?_
        refine g_aload_nN 7 dX8_rebuilt_6 rfl rfl ?_
        refine g_ifnonnullN 10 dX8_rebuilt_7 rfl ?_
        refine g_iconst (v := iZ (-1)) 11 dX8_rebuilt_10 rfl rfl ?_
        refine g_goto 19 dX8_rebuilt_11 rfl ?_
        refine g_iret rfl dX8_rebuilt_19 ?_
        exact k _ (-1) (by decide) H (fun _ _ _ => rfl)
theorem b8_trace {l : Launch} {h : MH} {Q : Option Value → MH → Prop} {tn : Int} {tf : Nat → Int} {xn : Nat → Int} {xf : Nat → Nat → Int} {en : Int} {tc : Nat} {tr : Int64} {V Bf Lf : Nat → Nat → Int} {q lm lo : Nat → Int} (H : IX2 h tn tf xn xf en tc tr V Bf Lf q lm lo) (k : Q (some (.long tr)) h) : Go l mX8_trace 0 [some (.ref 0)] [] h Q := by
  obtain ⟨HC, HS, HLm, HY, HE, hlen, hmz⟩ := id H
  obtain ⟨F0, F3, F4, htc, HT, HL⟩ := id HC
  refine g_aload_n 1 dX8_trace_0 rfl rfl ?_
  refine g_get 4 dX8_trace_1 faX8_63_X8 F0 rfl rfl ?_
  refine g_lret rfl dX8_trace_4 ?_
  exact k

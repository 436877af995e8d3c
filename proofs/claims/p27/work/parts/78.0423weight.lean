set_option maxRecDepth 100000 in
theorem b8_weight {l : Launch} {h : MH} {Q : Option Value → MH → Prop} {tn : Int} {tf : Nat → Int} {xn : Nat → Int} {xf : Nat → Nat → Int} {en : Int} {tc : Nat} {tr : Int64} {V Bf Lf : Nat → Nat → Int} {q lm lo : Nat → Int} {x t : Int} (H : IX2 h tn tf xn xf en tc tr V Bf Lf q lm lo) (rx : rg x) (rt : rg t) (k : ∀ (h1 : MH) (tr1 : Int64) (r : Int), wgP tc V Bf x t r → wtP tc tr x t tr1 → IX2 h1 tn tf xn xf en tc tr1 V Bf Lf q lm lo → Mo h h1 → Q (some (.int (iZ r))) h1) : Go l mX8_weight 0 [some (.ref 0), some (.int (iZ x)), some (.int (iZ t)), none] [] h Q := by
  obtain ⟨HC, HS, HLm, HY, HE, hlen, hmz⟩ := id H
  obtain ⟨F0, F3, F4, htc, HT, HL⟩ := id HC
  refine g_aload_n 1 dX8_weight_0 rfl rfl ?_
  refine g_iload_n 2 dX8_weight_1 rfl rfl ?_
  refine g_callV (z := mX8_toolAt) (As := [.int (iZ t)]) 5 dX8_weight_2 mwX8_toolAt ⟨by decide, by decide⟩ rfl wlX8_90 wiX8_toolAt wsX8_toolAt F0 rfl rfl rfl (nle rfl) (nle rfl) rfl ?_
  refine Go.to [some (.ref 0), some (.int (iZ t))] [] rfl rfl ?_
  refine g_iload_n 1 dX8_toolAt_0 rfl rfl ?_
  refine g_ifZ_lt 18 4 dX8_toolAt_1 rfl rfl rt (fun c1 => ?_) (fun c1 => ?_)
  · refine g_null 19 dX8_toolAt_18 rfl ?_
    refine g_goto 28 dX8_toolAt_19 rfl ?_
    refine g_aret rfl (Or.inl rfl) dX8_toolAt_28 ?_
    refine rN ?_
    refine g_astore_nN (L1 := [some (.ref 0), some (.int (iZ x)), some (.int (iZ t)), some (.null)]) 6 dX8_weight_5 (by decide) rfl rfl rfl ?_
    refine g_aload_nN 7 dX8_weight_6 rfl rfl ?_
    refine g_ifnonnullN 10 dX8_weight_7 rfl ?_
    refine g_iconst (v := iZ (-1)) 11 dX8_weight_10 rfl rfl ?_
    refine g_iret rfl dX8_weight_11 ?_
    exact k _ tr (-1) ⟨fun q => ⟨fun z => by omega, fun z => by omega, fun z => by omega, fun z => by omega, fun z => by omega, fun z => by omega⟩, fun _ => rfl⟩ ⟨fun q => by omega, fun _ => rfl⟩ H (fun _ _ _ => rfl)
  · refine g_iload_n 5 dX8_toolAt_4 rfl rfl ?_
    refine g_aload_n 6 dX8_toolAt_5 rfl rfl ?_
    refine g_get 9 dX8_toolAt_6 faX8_26_X8 F0 rfl rfl ?_
    refine g_icZ_ge 18 12 dX8_toolAt_9 rfl rfl rt (by omega) (fun c2 => ?_) (fun c2 => ?_)
    · refine g_null 19 dX8_toolAt_18 rfl ?_
      refine g_goto 28 dX8_toolAt_19 rfl ?_
      refine g_aret rfl (Or.inl rfl) dX8_toolAt_28 ?_
      refine rN ?_
      refine g_astore_nN (L1 := [some (.ref 0), some (.int (iZ x)), some (.int (iZ t)), some (.null)]) 6 dX8_weight_5 (by decide) rfl rfl rfl ?_
      refine g_aload_nN 7 dX8_weight_6 rfl rfl ?_
      refine g_ifnonnullN 10 dX8_weight_7 rfl ?_
      refine g_iconst (v := iZ (-1)) 11 dX8_weight_10 rfl rfl ?_
      refine g_iret rfl dX8_weight_11 ?_
      exact k _ tr (-1) ⟨fun q => ⟨fun z => by omega, fun z => by omega, fun z => by omega, fun z => by omega, fun z => by omega, fun z => by omega⟩, fun _ => rfl⟩ ⟨fun q => by omega, fun _ => rfl⟩ H (fun _ _ _ => rfl)
    · refine g_iload_n 13 dX8_toolAt_12 rfl rfl ?_
      refine g_bipush (v := iZ (12)) 15 dX8_toolAt_13 (by decide +kernel) rfl ?_
      refine g_icZ_lt 22 18 dX8_toolAt_15 rfl rfl rt (by decide) (fun c3 => ?_) (fun c3 => ?_)
      · refine g_aload_n 23 dX8_toolAt_22 rfl rfl ?_
        refine g_get 26 dX8_toolAt_23 faX8_22_X8 F0 rfl rfl ?_
        refine g_iload_n 27 dX8_toolAt_26 rfl rfl ?_
        refine g_aaldZ 28 dX8_toolAt_27 F4 (by decide) (by omega) (by omega) (by decide) (tls_at (by omega) (by omega)) rfl ?_
        refine g_aret rfl (Or.inr ⟨_, rfl⟩) dX8_toolAt_28 ?_
        refine rR ?_
        refine g_astore_n (L1 := [some (.ref 0), some (.int (iZ x)), some (.int (iZ t)), some (.ref (71 + 4 * t.toNat))]) 6 dX8_weight_5 (by decide) rfl rfl rfl ?_
        refine g_aload_n 7 dX8_weight_6 rfl rfl ?_
        refine g_ifnonnull 12 dX8_weight_7 rfl ?_
        refine g_iload_n 13 dX8_weight_12 rfl rfl ?_
        by_cases c4 : x < 0 ∨ 5 < x
        · refine g_tabZO 90 dX8_weight_13 rx c4 rfl ?_
          refine g_iconst (v := iZ (-1)) 91 dX8_weight_90 rfl rfl ?_
          refine g_iret rfl dX8_weight_91 ?_
          exact k _ tr (-1) ⟨fun q => ⟨fun z => by omega, fun z => by omega, fun z => by omega, fun z => by omega, fun z => by omega, fun z => by omega⟩, fun _ => rfl⟩ ⟨fun q => by omega, fun _ => rfl⟩ H (fun _ _ _ => rfl)
        · have c5 : x = 0 ∨ x = 1 ∨ x = 2 ∨ x = 3 ∨ x = 4 ∨ x = 5 := by omega
          rcases c5 with c5 | c5 | c5 | c5 | c5 | c5
          · refine g_tabZI (0) 52 dX8_weight_13 rx c5 (by decide) (by decide) rfl rfl ?_
            refine g_aload_n 53 dX8_weight_52 rfl rfl ?_
            refine g_aload_n 54 dX8_weight_53 rfl rfl ?_
            refine g_callV (z := mX8_asTool) (As := [.ref (71 + 4 * t.toNat)]) 57 dX8_weight_54 mwX8_asTool ⟨by decide, by decide⟩ rfl wlX8_200 wiX8_asTool wsX8_asTool F0 rfl rfl rfl (nle rfl) (nle rfl) rfl ?_
            refine Go.to [some (.ref 0), some (.ref (71 + 4 * t.toNat))] [] rfl rfl ?_
            refine g_aload_n 1 dX8_asTool_0 rfl rfl ?_
            refine g_dup 2 dX8_asTool_1 rfl rfl ?_
            refine g_get 5 dX8_asTool_2 faX8_63_X8 F0 rfl rfl ?_
            refine g_lconst (v := 1) 6 dX8_asTool_5 rfl rfl ?_
            refine g_ladd 7 dX8_asTool_6 rfl ?_
            refine g_putC (fs1 := [.ref 1, .ref 3, .ref 4, .int (iZ ((tc : Int))), .ref 5, .ref 9, .ref 15, .ref 20, .ref 25, .ref 30, .long ((tr) + (1))]) 10 dX8_asTool_7 fpX8_63_X8 F0 (nle rfl) (vL _) rfl rfl (fun h6 s7 f8 => ?_)
            refine g_aload_n 11 dX8_asTool_10 rfl rfl ?_
            obtain ⟨ta1_9, ta2_9, ta3_9, ta4_9, ta5_9, ta6_9, ta7_9, ta8_9, ta9_9, tb0_9, tb1_9, tb2_9, tb3_9⟩ := HL (t.toNat) (by omega)
            have f10 := (s7.get (by simp <;> omega) tb0_9)
            refine g_get 14 dX8_asTool_11 faX8_94_X7 f10 rfl rfl ?_
            have f11 := (s7.get (by simp <;> omega) tb1_9)
            refine g_get 17 dX8_asTool_14 faX8_109_X0 f11 rfl rfl ?_
            refine g_iret rfl dX8_asTool_17 ?_
            refine rI ?_
            refine g_iret rfl dX8_weight_57 ?_
            have zz := H.c0 ((Sm.refl [0] _).tr s7 (fun _ q => q) (by simp)) f8
            exact k _ _ (V 0 t.toNat) ⟨fun q => ⟨fun z => by omega, fun z => by omega, fun z => by omega, fun z => by omega, fun z => by omega, fun z => by omega⟩, fun q => by omega⟩ ⟨fun _ => wt_0 tr c5, fun q => by omega⟩ zz.1 zz.2
          · refine g_tabZI (1) 58 dX8_weight_13 rx c5 (by decide) (by decide) rfl rfl ?_
            refine g_aload_n 59 dX8_weight_58 rfl rfl ?_
            refine g_aload_n 60 dX8_weight_59 rfl rfl ?_
            refine g_callV (z := mX8_asPaired) (As := [.ref (71 + 4 * t.toNat)]) 63 dX8_weight_60 mwX8_asPaired ⟨by decide, by decide⟩ rfl wlX8_203 wiX8_asPaired wsX8_asPaired F0 rfl rfl rfl (nle rfl) (nle rfl) rfl ?_
            refine Go.to [some (.ref 0), some (.ref (71 + 4 * t.toNat))] [] rfl rfl ?_
            refine g_aload_n 1 dX8_asPaired_0 rfl rfl ?_
            refine g_dup 2 dX8_asPaired_1 rfl rfl ?_
            refine g_get 5 dX8_asPaired_2 faX8_63_X8 F0 rfl rfl ?_
            refine g_ldc2 8 dX8_asPaired_5 wnX8_256 rfl ?_
            refine g_ladd 9 dX8_asPaired_8 rfl ?_
            refine g_putC (fs1 := [.ref 1, .ref 3, .ref 4, .int (iZ ((tc : Int))), .ref 5, .ref 9, .ref 15, .ref 20, .ref 25, .ref 30, .long ((tr) + (10))]) 12 dX8_asPaired_9 fpX8_63_X8 F0 (nle rfl) (vL _) rfl rfl (fun h12 s13 f14 => ?_)
            refine g_aload_n 13 dX8_asPaired_12 rfl rfl ?_
            refine g_aload_n 14 dX8_asPaired_13 rfl rfl ?_
            refine g_callV (z := mX8_asTool) (As := [.ref (71 + 4 * t.toNat)]) 17 dX8_asPaired_14 mwX8_asTool ⟨by decide, by decide⟩ rfl wlX8_200 wiX8_asTool wsX8_asTool f14 rfl rfl rfl (nle rfl) (nle rfl) rfl ?_
            refine Go.to [some (.ref 0), some (.ref (71 + 4 * t.toNat))] [] rfl rfl ?_
            refine g_aload_n 1 dX8_asTool_0 rfl rfl ?_
            refine g_dup 2 dX8_asTool_1 rfl rfl ?_
            refine g_get 5 dX8_asTool_2 faX8_63_X8 f14 rfl rfl ?_
            refine g_lconst (v := 1) 6 dX8_asTool_5 rfl rfl ?_
            refine g_ladd 7 dX8_asTool_6 rfl ?_
            refine g_putC (fs1 := [.ref 1, .ref 3, .ref 4, .int (iZ ((tc : Int))), .ref 5, .ref 9, .ref 15, .ref 20, .ref 25, .ref 30, .long (((tr) + (10)) + (1))]) 10 dX8_asTool_7 fpX8_63_X8 f14 (nle rfl) (vL _) rfl rfl (fun h15 s16 f17 => ?_)
            refine g_aload_n 11 dX8_asTool_10 rfl rfl ?_
            obtain ⟨ta1_18, ta2_18, ta3_18, ta4_18, ta5_18, ta6_18, ta7_18, ta8_18, ta9_18, tb0_18, tb1_18, tb2_18, tb3_18⟩ := HL (t.toNat) (by omega)
            have f19 := (s16.get (by simp <;> omega) (s13.get (by simp <;> omega) tb0_18))
            refine g_get 14 dX8_asTool_11 faX8_94_X7 f19 rfl rfl ?_
            have f20 := (s16.get (by simp <;> omega) (s13.get (by simp <;> omega) tb1_18))
            refine g_get 17 dX8_asTool_14 faX8_109_X0 f20 rfl rfl ?_
            refine g_iret rfl dX8_asTool_17 ?_
            refine rI ?_
            refine g_aload_n 18 dX8_asPaired_17 rfl rfl ?_
            refine g_get 21 dX8_asPaired_18 faX8_121_X7 f19 rfl rfl ?_
            refine g_ifZ_eq 29 24 dX8_asPaired_21 rfl rfl (rg01 ta7_18) (fun c21 => ?_) (fun c21 => ?_)
            · refine g_iconst (v := iZ (0)) 30 dX8_asPaired_29 rfl rfl ?_
              refine g_iaddZ ((V 0 t.toNat) + 0) 31 dX8_asPaired_30 (by omega) rfl ?_
              refine g_iret rfl dX8_asPaired_31 ?_
              refine rI ?_
              refine g_iret rfl dX8_weight_63 ?_
              have zz := H.c0 (((Sm.refl [0] _).tr s13 (fun _ q => q) (by simp)).tr s16 (fun _ q => q) (by simp)) f17
              exact k _ _ ((V 0 t.toNat) + 0) ⟨fun q => ⟨fun z => by omega, fun z => by omega, fun z => by omega, fun z => by omega, fun z => by omega, fun z => by omega⟩, fun q => by omega⟩ ⟨fun _ => wt_1 tr c5, fun q => by omega⟩ zz.1 zz.2
            · refine g_bipush (v := iZ (9)) 26 dX8_asPaired_24 (by decide +kernel) rfl ?_
              refine g_goto 30 dX8_asPaired_26 rfl ?_
              refine g_iaddZ ((V 0 t.toNat) + 9) 31 dX8_asPaired_30 (by omega) rfl ?_
              refine g_iret rfl dX8_asPaired_31 ?_
              refine rI ?_
              refine g_iret rfl dX8_weight_63 ?_
              have zz := H.c0 (((Sm.refl [0] _).tr s13 (fun _ q => q) (by simp)).tr s16 (fun _ q => q) (by simp)) f17
              exact k _ _ ((V 0 t.toNat) + 9) ⟨fun q => ⟨fun z => by omega, fun z => by omega, fun z => by omega, fun z => by omega, fun z => by omega, fun z => by omega⟩, fun q => by omega⟩ ⟨fun _ => wt_1 tr c5, fun q => by omega⟩ zz.1 zz.2
          · refine g_tabZI (2) 64 dX8_weight_13 rx c5 (by decide) (by decide) rfl rfl ?_
            refine g_aload_n 65 dX8_weight_64 rfl rfl ?_
            refine g_aload_n 66 dX8_weight_65 rfl rfl ?_
            refine g_callV (z := mX8_asNamed) (As := [.ref (71 + 4 * t.toNat)]) 69 dX8_weight_66 mwX8_asNamed ⟨by decide, by decide⟩ rfl wlX8_206 wiX8_asNamed wsX8_asNamed F0 rfl rfl rfl (nle rfl) (nle rfl) rfl ?_
            refine Go.to [some (.ref 0), some (.ref (71 + 4 * t.toNat))] [] rfl rfl ?_
            refine g_aload_n 1 dX8_asNamed_0 rfl rfl ?_
            refine g_dup 2 dX8_asNamed_1 rfl rfl ?_
            refine g_get 5 dX8_asNamed_2 faX8_63_X8 F0 rfl rfl ?_
            refine g_ldc2 8 dX8_asNamed_5 wnX8_258 rfl ?_
            refine g_ladd 9 dX8_asNamed_8 rfl ?_
            refine g_putC (fs1 := [.ref 1, .ref 3, .ref 4, .int (iZ ((tc : Int))), .ref 5, .ref 9, .ref 15, .ref 20, .ref 25, .ref 30, .long ((tr) + (100))]) 12 dX8_asNamed_9 fpX8_63_X8 F0 (nle rfl) (vL _) rfl rfl (fun h22 s23 f24 => ?_)
            refine g_aload_n 13 dX8_asNamed_12 rfl rfl ?_
            refine g_aload_n 14 dX8_asNamed_13 rfl rfl ?_
            refine g_callV (z := mX8_asTool) (As := [.ref (71 + 4 * t.toNat)]) 17 dX8_asNamed_14 mwX8_asTool ⟨by decide, by decide⟩ rfl wlX8_200 wiX8_asTool wsX8_asTool f24 rfl rfl rfl (nle rfl) (nle rfl) rfl ?_
            refine Go.to [some (.ref 0), some (.ref (71 + 4 * t.toNat))] [] rfl rfl ?_
            refine g_aload_n 1 dX8_asTool_0 rfl rfl ?_
            refine g_dup 2 dX8_asTool_1 rfl rfl ?_
            refine g_get 5 dX8_asTool_2 faX8_63_X8 f24 rfl rfl ?_
            refine g_lconst (v := 1) 6 dX8_asTool_5 rfl rfl ?_
            refine g_ladd 7 dX8_asTool_6 rfl ?_
            refine g_putC (fs1 := [.ref 1, .ref 3, .ref 4, .int (iZ ((tc : Int))), .ref 5, .ref 9, .ref 15, .ref 20, .ref 25, .ref 30, .long (((tr) + (100)) + (1))]) 10 dX8_asTool_7 fpX8_63_X8 f24 (nle rfl) (vL _) rfl rfl (fun h25 s26 f27 => ?_)
            refine g_aload_n 11 dX8_asTool_10 rfl rfl ?_
            obtain ⟨ta1_28, ta2_28, ta3_28, ta4_28, ta5_28, ta6_28, ta7_28, ta8_28, ta9_28, tb0_28, tb1_28, tb2_28, tb3_28⟩ := HL (t.toNat) (by omega)
            have f29 := (s26.get (by simp <;> omega) (s23.get (by simp <;> omega) tb0_28))
            refine g_get 14 dX8_asTool_11 faX8_94_X7 f29 rfl rfl ?_
            have f30 := (s26.get (by simp <;> omega) (s23.get (by simp <;> omega) tb1_28))
            refine g_get 17 dX8_asTool_14 faX8_109_X0 f30 rfl rfl ?_
            refine g_iret rfl dX8_asTool_17 ?_
            refine rI ?_
            refine g_iconst (v := iZ (2)) 18 dX8_asNamed_17 rfl rfl ?_
            refine g_aload_n 19 dX8_asNamed_18 rfl rfl ?_
            refine g_get 22 dX8_asNamed_19 faX8_94_X7 f29 rfl rfl ?_
            refine g_callV (z := mX0_beyondOrders) (As := []) 25 dX8_asNamed_22 mwX0_beyondOrders ⟨by decide, by decide⟩ rfl wlX8_260 wiX0_beyondOrders wsX0_beyondOrders f30 rfl rfl rfl (nle rfl) (nle rfl) rfl ?_
            have f31 := (s26.get (by simp <;> omega) (s23.get (by simp <;> omega) tb2_28))
            have f32 := (s26.get (by simp <;> omega) (s23.get (by simp <;> omega) tb3_28))
            refine c_bey (M := (V 0 t.toNat).toNat) f30 f31 f32 ta8_28 ta9_28 (by omega) (by omega) (by omega) (fun z33 rz33 => ?_)
            refine rI ?_
            refine g_imulZ (2 * z33) 26 dX8_asNamed_25 (by omega) rfl ?_
            refine g_iaddZ ((V 0 t.toNat) + (2 * z33)) 27 dX8_asNamed_26 (by omega) rfl ?_
            refine g_iret rfl dX8_asNamed_27 ?_
            refine rI ?_
            refine g_iret rfl dX8_weight_69 ?_
            have zz := H.c0 (((Sm.refl [0] _).tr s23 (fun _ q => q) (by simp)).tr s26 (fun _ q => q) (by simp)) f27
            have by9 := rz33.1
            exact k _ _ ((V 0 t.toNat) + (2 * z33)) ⟨fun q => ⟨fun z => by omega, fun z => by omega, fun z => by omega, fun z => by omega, fun z => by omega, fun z => by omega⟩, fun q => by omega⟩ ⟨fun _ => wt_2 tr c5, fun q => by omega⟩ zz.1 zz.2
          · refine g_tabZI (3) 70 dX8_weight_13 rx c5 (by decide) (by decide) rfl rfl ?_
            refine g_aload_n 71 dX8_weight_70 rfl rfl ?_
            refine g_aload_n 72 dX8_weight_71 rfl rfl ?_
            refine g_iload_n 73 dX8_weight_72 rfl rfl ?_
            refine g_callV (z := mX8_asBuilt) (As := [.ref (71 + 4 * t.toNat), .int (iZ t)]) 76 dX8_weight_73 mwX8_asBuilt ⟨by decide, by decide⟩ rfl wlX8_209 wiX8_asBuilt wsX8_asBuilt F0 rfl rfl rfl (nle rfl) (nle rfl) rfl ?_
            refine Go.to [some (.ref 0), some (.ref (71 + 4 * t.toNat)), some (.int (iZ t))] [] rfl rfl ?_
            refine g_aload_n 1 dX8_asBuilt_0 rfl rfl ?_
            refine g_dup 2 dX8_asBuilt_1 rfl rfl ?_
            refine g_get 5 dX8_asBuilt_2 faX8_63_X8 F0 rfl rfl ?_
            refine g_ldc2 8 dX8_asBuilt_5 wnX8_263 rfl ?_
            refine g_ladd 9 dX8_asBuilt_8 rfl ?_
            refine g_putC (fs1 := [.ref 1, .ref 3, .ref 4, .int (iZ ((tc : Int))), .ref 5, .ref 9, .ref 15, .ref 20, .ref 25, .ref 30, .long ((tr) + (1000))]) 12 dX8_asBuilt_9 fpX8_63_X8 F0 (nle rfl) (vL _) rfl rfl (fun h34 s35 f36 => ?_)
            refine g_aload_n 13 dX8_asBuilt_12 rfl rfl ?_
            refine g_aload_n 14 dX8_asBuilt_13 rfl rfl ?_
            refine g_callV (z := mX8_asNamed) (As := [.ref (71 + 4 * t.toNat)]) 17 dX8_asBuilt_14 mwX8_asNamed ⟨by decide, by decide⟩ rfl wlX8_206 wiX8_asNamed wsX8_asNamed f36 rfl rfl rfl (nle rfl) (nle rfl) rfl ?_
            refine Go.to [some (.ref 0), some (.ref (71 + 4 * t.toNat))] [] rfl rfl ?_
            refine g_aload_n 1 dX8_asNamed_0 rfl rfl ?_
            refine g_dup 2 dX8_asNamed_1 rfl rfl ?_
            refine g_get 5 dX8_asNamed_2 faX8_63_X8 f36 rfl rfl ?_
            refine g_ldc2 8 dX8_asNamed_5 wnX8_258 rfl ?_
            refine g_ladd 9 dX8_asNamed_8 rfl ?_
            refine g_putC (fs1 := [.ref 1, .ref 3, .ref 4, .int (iZ ((tc : Int))), .ref 5, .ref 9, .ref 15, .ref 20, .ref 25, .ref 30, .long (((tr) + (1000)) + (100))]) 12 dX8_asNamed_9 fpX8_63_X8 f36 (nle rfl) (vL _) rfl rfl (fun h37 s38 f39 => ?_)
            refine g_aload_n 13 dX8_asNamed_12 rfl rfl ?_
            refine g_aload_n 14 dX8_asNamed_13 rfl rfl ?_
            refine g_callV (z := mX8_asTool) (As := [.ref (71 + 4 * t.toNat)]) 17 dX8_asNamed_14 mwX8_asTool ⟨by decide, by decide⟩ rfl wlX8_200 wiX8_asTool wsX8_asTool f39 rfl rfl rfl (nle rfl) (nle rfl) rfl ?_
            refine Go.to [some (.ref 0), some (.ref (71 + 4 * t.toNat))] [] rfl rfl ?_
            refine g_aload_n 1 dX8_asTool_0 rfl rfl ?_
            refine g_dup 2 dX8_asTool_1 rfl rfl ?_
            refine g_get 5 dX8_asTool_2 faX8_63_X8 f39 rfl rfl ?_
            refine g_lconst (v := 1) 6 dX8_asTool_5 rfl rfl ?_
            refine g_ladd 7 dX8_asTool_6 rfl ?_
            refine g_putC (fs1 := [.ref 1, .ref 3, .ref 4, .int (iZ ((tc : Int))), .ref 5, .ref 9, .ref 15, .ref 20, .ref 25, .ref 30, .long ((((tr) + (1000)) + (100)) + (1))]) 10 dX8_asTool_7 fpX8_63_X8 f39 (nle rfl) (vL _) rfl rfl (fun h40 s41 f42 => ?_)
            refine g_aload_n 11 dX8_asTool_10 rfl rfl ?_
            obtain ⟨ta1_43, ta2_43, ta3_43, ta4_43, ta5_43, ta6_43, ta7_43, ta8_43, ta9_43, tb0_43, tb1_43, tb2_43, tb3_43⟩ := HL (t.toNat) (by omega)
            have f44 := (s41.get (by simp <;> omega) (s38.get (by simp <;> omega) (s35.get (by simp <;> omega) tb0_43)))
            refine g_get 14 dX8_asTool_11 faX8_94_X7 f44 rfl rfl ?_
            have f45 := (s41.get (by simp <;> omega) (s38.get (by simp <;> omega) (s35.get (by simp <;> omega) tb1_43)))
            refine g_get 17 dX8_asTool_14 faX8_109_X0 f45 rfl rfl ?_
            refine g_iret rfl dX8_asTool_17 ?_
            refine rI ?_
            refine g_iconst (v := iZ (2)) 18 dX8_asNamed_17 rfl rfl ?_
            refine g_aload_n 19 dX8_asNamed_18 rfl rfl ?_
            refine g_get 22 dX8_asNamed_19 faX8_94_X7 f44 rfl rfl ?_
            refine g_callV (z := mX0_beyondOrders) (As := []) 25 dX8_asNamed_22 mwX0_beyondOrders ⟨by decide, by decide⟩ rfl wlX8_260 wiX0_beyondOrders wsX0_beyondOrders f45 rfl rfl rfl (nle rfl) (nle rfl) rfl ?_
            have f46 := (s41.get (by simp <;> omega) (s38.get (by simp <;> omega) (s35.get (by simp <;> omega) tb2_43)))
            have f47 := (s41.get (by simp <;> omega) (s38.get (by simp <;> omega) (s35.get (by simp <;> omega) tb3_43)))
            refine c_bey (M := (V 0 t.toNat).toNat) f45 f46 f47 ta8_43 ta9_43 (by omega) (by omega) (by omega) (fun z48 rz48 => ?_)
            refine rI ?_
            refine g_imulZ (2 * z48) 26 dX8_asNamed_25 (by omega) rfl ?_
            refine g_iaddZ ((V 0 t.toNat) + (2 * z48)) 27 dX8_asNamed_26 (by omega) rfl ?_
            refine g_iret rfl dX8_asNamed_27 ?_
            refine rI ?_
            refine g_aload_n 18 dX8_asBuilt_17 rfl rfl ?_
            refine g_iload_n 19 dX8_asBuilt_18 rfl rfl ?_
            refine g_callV (z := mX8_chainLength) (As := [.int (iZ t)]) 22 dX8_asBuilt_19 mwX8_chainLength ⟨by decide, by decide⟩ rfl wlX8_170 wiX8_chainLength wsX8_chainLength f42 rfl rfl rfl (nle rfl) (nle rfl) rfl ?_
            refine y_chl (((HC.c0 s35 f36).c0 s38 f39).c0 s41 f42) rt  (fun z49 rz49 => ?_)
            refine rI ?_
            refine g_iaddZ (((V 0 t.toNat) + (2 * z48)) + z49) 23 dX8_asBuilt_22 (by omega) rfl ?_
            refine g_iret rfl dX8_asBuilt_23 ?_
            refine rI ?_
            refine g_iret rfl dX8_weight_76 ?_
            have zz := H.c0 ((((Sm.refl [0] _).tr s35 (fun _ q => q) (by simp)).tr s38 (fun _ q => q) (by simp)).tr s41 (fun _ q => q) (by simp)) f42
            have by9 := rz48.1
            exact k _ _ (((V 0 t.toNat) + (2 * z48)) + z49) ⟨fun q => ⟨fun z => by omega, fun z => by omega, fun z => by omega, fun z => ⟨z49, rz49.1 (by omega), by omega⟩, fun z => by omega, fun z => by omega⟩, fun q => by omega⟩ ⟨fun _ => wt_3 tr c5, fun q => by omega⟩ zz.1 zz.2
          · refine g_tabZI (4) 77 dX8_weight_13 rx c5 (by decide) (by decide) rfl rfl ?_
            refine g_aload_n 78 dX8_weight_77 rfl rfl ?_
            refine g_aload_n 79 dX8_weight_78 rfl rfl ?_
            refine g_iload_n 80 dX8_weight_79 rfl rfl ?_
            refine g_callV (z := mX8_asSealed) (As := [.ref (71 + 4 * t.toNat), .int (iZ t)]) 83 dX8_weight_80 mwX8_asSealed ⟨by decide, by decide⟩ rfl wlX8_213 wiX8_asSealed wsX8_asSealed F0 rfl rfl rfl (nle rfl) (nle rfl) rfl ?_
            refine Go.to [some (.ref 0), some (.ref (71 + 4 * t.toNat)), some (.int (iZ t))] [] rfl rfl ?_
            refine g_aload_n 1 dX8_asSealed_0 rfl rfl ?_
            refine g_dup 2 dX8_asSealed_1 rfl rfl ?_
            refine g_get 5 dX8_asSealed_2 faX8_63_X8 F0 rfl rfl ?_
            refine g_ldc2 8 dX8_asSealed_5 wnX8_265 rfl ?_
            refine g_ladd 9 dX8_asSealed_8 rfl ?_
            refine g_putC (fs1 := [.ref 1, .ref 3, .ref 4, .int (iZ ((tc : Int))), .ref 5, .ref 9, .ref 15, .ref 20, .ref 25, .ref 30, .long ((tr) + (10000))]) 12 dX8_asSealed_9 fpX8_63_X8 F0 (nle rfl) (vL _) rfl rfl (fun h50 s51 f52 => ?_)
            refine g_aload_n 13 dX8_asSealed_12 rfl rfl ?_
            refine g_aload_n 14 dX8_asSealed_13 rfl rfl ?_
            refine g_iload_n 15 dX8_asSealed_14 rfl rfl ?_
            refine g_callV (z := mX8_asBuilt) (As := [.ref (71 + 4 * t.toNat), .int (iZ t)]) 18 dX8_asSealed_15 mwX8_asBuilt ⟨by decide, by decide⟩ rfl wlX8_209 wiX8_asBuilt wsX8_asBuilt f52 rfl rfl rfl (nle rfl) (nle rfl) rfl ?_
            refine Go.to [some (.ref 0), some (.ref (71 + 4 * t.toNat)), some (.int (iZ t))] [] rfl rfl ?_
            refine g_aload_n 1 dX8_asBuilt_0 rfl rfl ?_
            refine g_dup 2 dX8_asBuilt_1 rfl rfl ?_
            refine g_get 5 dX8_asBuilt_2 faX8_63_X8 f52 rfl rfl ?_
            refine g_ldc2 8 dX8_asBuilt_5 wnX8_263 rfl ?_
            refine g_ladd 9 dX8_asBuilt_8 rfl ?_
            refine g_putC (fs1 := [.ref 1, .ref 3, .ref 4, .int (iZ ((tc : Int))), .ref 5, .ref 9, .ref 15, .ref 20, .ref 25, .ref 30, .long (((tr) + (10000)) + (1000))]) 12 dX8_asBuilt_9 fpX8_63_X8 f52 (nle rfl) (vL _) rfl rfl (fun h53 s54 f55 => ?_)
            refine g_aload_n 13 dX8_asBuilt_12 rfl rfl ?_
            refine g_aload_n 14 dX8_asBuilt_13 rfl rfl ?_
            refine g_callV (z := mX8_asNamed) (As := [.ref (71 + 4 * t.toNat)]) 17 dX8_asBuilt_14 mwX8_asNamed ⟨by decide, by decide⟩ rfl wlX8_206 wiX8_asNamed wsX8_asNamed f55 rfl rfl rfl (nle rfl) (nle rfl) rfl ?_
            refine Go.to [some (.ref 0), some (.ref (71 + 4 * t.toNat))] [] rfl rfl ?_
            refine g_aload_n 1 dX8_asNamed_0 rfl rfl ?_
            refine g_dup 2 dX8_asNamed_1 rfl rfl ?_
            refine g_get 5 dX8_asNamed_2 faX8_63_X8 f55 rfl rfl ?_
            refine g_ldc2 8 dX8_asNamed_5 wnX8_258 rfl ?_
            refine g_ladd 9 dX8_asNamed_8 rfl ?_
            refine g_putC (fs1 := [.ref 1, .ref 3, .ref 4, .int (iZ ((tc : Int))), .ref 5, .ref 9, .ref 15, .ref 20, .ref 25, .ref 30, .long ((((tr) + (10000)) + (1000)) + (100))]) 12 dX8_asNamed_9 fpX8_63_X8 f55 (nle rfl) (vL _) rfl rfl (fun h56 s57 f58 => ?_)
            refine g_aload_n 13 dX8_asNamed_12 rfl rfl ?_
            refine g_aload_n 14 dX8_asNamed_13 rfl rfl ?_
            refine g_callV (z := mX8_asTool) (As := [.ref (71 + 4 * t.toNat)]) 17 dX8_asNamed_14 mwX8_asTool ⟨by decide, by decide⟩ rfl wlX8_200 wiX8_asTool wsX8_asTool f58 rfl rfl rfl (nle rfl) (nle rfl) rfl ?_
            refine Go.to [some (.ref 0), some (.ref (71 + 4 * t.toNat))] [] rfl rfl ?_
            refine g_aload_n 1 dX8_asTool_0 rfl rfl ?_
            refine g_dup 2 dX8_asTool_1 rfl rfl ?_
            refine g_get 5 dX8_asTool_2 faX8_63_X8 f58 rfl rfl ?_
            refine g_lconst (v := 1) 6 dX8_asTool_5 rfl rfl ?_
            refine g_ladd 7 dX8_asTool_6 rfl ?_
            refine g_putC (fs1 := [.ref 1, .ref 3, .ref 4, .int (iZ ((tc : Int))), .ref 5, .ref 9, .ref 15, .ref 20, .ref 25, .ref 30, .long (((((tr) + (10000)) + (1000)) + (100)) + (1))]) 10 dX8_asTool_7 fpX8_63_X8 f58 (nle rfl) (vL _) rfl rfl (fun h59 s60 f61 => ?_)
            refine g_aload_n 11 dX8_asTool_10 rfl rfl ?_
            obtain ⟨ta1_62, ta2_62, ta3_62, ta4_62, ta5_62, ta6_62, ta7_62, ta8_62, ta9_62, tb0_62, tb1_62, tb2_62, tb3_62⟩ := HL (t.toNat) (by omega)
            have f63 := (s60.get (by simp <;> omega) (s57.get (by simp <;> omega) (s54.get (by simp <;> omega) (s51.get (by simp <;> omega) tb0_62))))
            refine g_get 14 dX8_asTool_11 faX8_94_X7 f63 rfl rfl ?_
            have f64 := (s60.get (by simp <;> omega) (s57.get (by simp <;> omega) (s54.get (by simp <;> omega) (s51.get (by simp <;> omega) tb1_62))))
            refine g_get 17 dX8_asTool_14 faX8_109_X0 f64 rfl rfl ?_
            refine g_iret rfl dX8_asTool_17 ?_
            refine rI ?_
            refine g_iconst (v := iZ (2)) 18 dX8_asNamed_17 rfl rfl ?_
            refine g_aload_n 19 dX8_asNamed_18 rfl rfl ?_
            refine g_get 22 dX8_asNamed_19 faX8_94_X7 f63 rfl rfl ?_
            refine g_callV (z := mX0_beyondOrders) (As := []) 25 dX8_asNamed_22 mwX0_beyondOrders ⟨by decide, by decide⟩ rfl wlX8_260 wiX0_beyondOrders wsX0_beyondOrders f64 rfl rfl rfl (nle rfl) (nle rfl) rfl ?_
            have f65 := (s60.get (by simp <;> omega) (s57.get (by simp <;> omega) (s54.get (by simp <;> omega) (s51.get (by simp <;> omega) tb2_62))))
            have f66 := (s60.get (by simp <;> omega) (s57.get (by simp <;> omega) (s54.get (by simp <;> omega) (s51.get (by simp <;> omega) tb3_62))))
            refine c_bey (M := (V 0 t.toNat).toNat) f64 f65 f66 ta8_62 ta9_62 (by omega) (by omega) (by omega) (fun z67 rz67 => ?_)
            refine rI ?_
            refine g_imulZ (2 * z67) 26 dX8_asNamed_25 (by omega) rfl ?_
            refine g_iaddZ ((V 0 t.toNat) + (2 * z67)) 27 dX8_asNamed_26 (by omega) rfl ?_
            refine g_iret rfl dX8_asNamed_27 ?_
            refine rI ?_
            refine g_aload_n 18 dX8_asBuilt_17 rfl rfl ?_
            refine g_iload_n 19 dX8_asBuilt_18 rfl rfl ?_
            refine g_callV (z := mX8_chainLength) (As := [.int (iZ t)]) 22 dX8_asBuilt_19 mwX8_chainLength ⟨by decide, by decide⟩ rfl wlX8_170 wiX8_chainLength wsX8_chainLength f61 rfl rfl rfl (nle rfl) (nle rfl) rfl ?_
            refine y_chl ((((HC.c0 s51 f52).c0 s54 f55).c0 s57 f58).c0 s60 f61) rt  (fun z68 rz68 => ?_)
            refine rI ?_
            refine g_iaddZ (((V 0 t.toNat) + (2 * z67)) + z68) 23 dX8_asBuilt_22 (by omega) rfl ?_
            refine g_iret rfl dX8_asBuilt_23 ?_
            refine rI ?_
            refine g_iconst (v := iZ (3)) 19 dX8_asSealed_18 rfl rfl ?_
            refine g_imulZ ((((V 0 t.toNat) + (2 * z67)) + z68) * 3) 20 dX8_asSealed_19 (by omega) rfl ?_
            refine g_sipush (v := iZ (251)) 23 dX8_asSealed_20 (by decide +kernel) rfl ?_
            refine g_irem 24 dX8_asSealed_23 (by decide +kernel) rfl ?_
            refine Go.eqI (iZ (((((V 0 t.toNat) + (2 * z67)) + z68) * 3) % 251)) (irem_Z (by omega) (by omega)) ?_
            refine g_iret rfl dX8_asSealed_24 ?_
            refine rI ?_
            refine g_iret rfl dX8_weight_83 ?_
            have zz := H.c0 (((((Sm.refl [0] _).tr s51 (fun _ q => q) (by simp)).tr s54 (fun _ q => q) (by simp)).tr s57 (fun _ q => q) (by simp)).tr s60 (fun _ q => q) (by simp)) f61
            have by9 := rz67.1
            exact k _ _ (((((V 0 t.toNat) + (2 * z67)) + z68) * 3) % 251) ⟨fun q => ⟨fun z => by omega, fun z => by omega, fun z => by omega, fun z => by omega, fun z => ⟨z68, rz68.1 (by omega), by omega⟩, fun z => by omega⟩, fun q => by omega⟩ ⟨fun _ => wt_4 tr c5, fun q => by omega⟩ zz.1 zz.2
          · refine g_tabZI (5) 84 dX8_weight_13 rx c5 (by decide) (by decide) rfl rfl ?_
            refine g_aload_n 85 dX8_weight_84 rfl rfl ?_
            refine g_aload_n 86 dX8_weight_85 rfl rfl ?_
            refine g_callV (z := mX8_asDoubted) (As := [.ref (71 + 4 * t.toNat)]) 89 dX8_weight_86 mwX8_asDoubted ⟨by decide, by decide⟩ rfl wlX8_216 wiX8_asDoubted wsX8_asDoubted F0 rfl rfl rfl (nle rfl) (nle rfl) rfl ?_
            refine Go.to [some (.ref 0), some (.ref (71 + 4 * t.toNat))] [] rfl rfl ?_
            refine g_aload_n 1 dX8_asDoubted_0 rfl rfl ?_
            refine g_dup 2 dX8_asDoubted_1 rfl rfl ?_
            refine g_get 5 dX8_asDoubted_2 faX8_63_X8 F0 rfl rfl ?_
            refine g_ldc2 8 dX8_asDoubted_5 wnX8_267 rfl ?_
            refine g_ladd 9 dX8_asDoubted_8 rfl ?_
            refine g_putC (fs1 := [.ref 1, .ref 3, .ref 4, .int (iZ ((tc : Int))), .ref 5, .ref 9, .ref 15, .ref 20, .ref 25, .ref 30, .long ((tr) + (100000))]) 12 dX8_asDoubted_9 fpX8_63_X8 F0 (nle rfl) (vL _) rfl rfl (fun h69 s70 f71 => ?_)
            refine g_aload_n 13 dX8_asDoubted_12 rfl rfl ?_
            refine g_aload_n 14 dX8_asDoubted_13 rfl rfl ?_
            refine g_callV (z := mX8_asTool) (As := [.ref (71 + 4 * t.toNat)]) 17 dX8_asDoubted_14 mwX8_asTool ⟨by decide, by decide⟩ rfl wlX8_200 wiX8_asTool wsX8_asTool f71 rfl rfl rfl (nle rfl) (nle rfl) rfl ?_
            refine Go.to [some (.ref 0), some (.ref (71 + 4 * t.toNat))] [] rfl rfl ?_
            refine g_aload_n 1 dX8_asTool_0 rfl rfl ?_
            refine g_dup 2 dX8_asTool_1 rfl rfl ?_
            refine g_get 5 dX8_asTool_2 faX8_63_X8 f71 rfl rfl ?_
            refine g_lconst (v := 1) 6 dX8_asTool_5 rfl rfl ?_
            refine g_ladd 7 dX8_asTool_6 rfl ?_
            refine g_putC (fs1 := [.ref 1, .ref 3, .ref 4, .int (iZ ((tc : Int))), .ref 5, .ref 9, .ref 15, .ref 20, .ref 25, .ref 30, .long (((tr) + (100000)) + (1))]) 10 dX8_asTool_7 fpX8_63_X8 f71 (nle rfl) (vL _) rfl rfl (fun h72 s73 f74 => ?_)
            refine g_aload_n 11 dX8_asTool_10 rfl rfl ?_
            obtain ⟨ta1_75, ta2_75, ta3_75, ta4_75, ta5_75, ta6_75, ta7_75, ta8_75, ta9_75, tb0_75, tb1_75, tb2_75, tb3_75⟩ := HL (t.toNat) (by omega)
            have f76 := (s73.get (by simp <;> omega) (s70.get (by simp <;> omega) tb0_75))
            refine g_get 14 dX8_asTool_11 faX8_94_X7 f76 rfl rfl ?_
            have f77 := (s73.get (by simp <;> omega) (s70.get (by simp <;> omega) tb1_75))
            refine g_get 17 dX8_asTool_14 faX8_109_X0 f77 rfl rfl ?_
            refine g_iret rfl dX8_asTool_17 ?_
            refine rI ?_
            refine g_iconst (v := iZ (3)) 18 dX8_asDoubted_17 rfl rfl ?_
            refine g_idiv 19 dX8_asDoubted_18 (by decide +kernel) rfl ?_
            refine Go.eqI (iZ ((V 0 t.toNat) / 3)) (idiv_Z (by omega) (by omega)) ?_
            refine g_iret rfl dX8_asDoubted_19 ?_
            refine rI ?_
            refine g_iret rfl dX8_weight_89 ?_
            have zz := H.c0 (((Sm.refl [0] _).tr s70 (fun _ q => q) (by simp)).tr s73 (fun _ q => q) (by simp)) f74
            exact k _ _ ((V 0 t.toNat) / 3) ⟨fun q => ⟨fun z => by omega, fun z => by omega, fun z => by omega, fun z => by omega, fun z => by omega, fun z => by omega⟩, fun q => by omega⟩ ⟨fun _ => wt_5 tr c5, fun q => by omega⟩ zz.1 zz.2
      · refine g_null 19 dX8_toolAt_18 rfl ?_
        refine g_goto 28 dX8_toolAt_19 rfl ?_
        refine g_aret rfl (Or.inl rfl) dX8_toolAt_28 ?_
        refine rN ?_
        refine g_astore_nN (L1 := [some (.ref 0), some (.int (iZ x)), some (.int (iZ t)), some (.null)]) 6 dX8_weight_5 (by decide) rfl rfl rfl ?_
        refine g_aload_nN 7 dX8_weight_6 rfl rfl ?_
        refine g_ifnonnullN 10 dX8_weight_7 rfl ?_
        refine g_iconst (v := iZ (-1)) 11 dX8_weight_10 rfl rfl ?_
        refine g_iret rfl dX8_weight_11 ?_
        exact k _ tr (-1) ⟨fun q => ⟨fun z => by omega, fun z => by omega, fun z => by omega, fun z => by omega, fun z => by omega, fun z => by omega⟩, fun _ => rfl⟩ ⟨fun q => by omega, fun _ => rfl⟩ H (fun _ _ _ => rfl)

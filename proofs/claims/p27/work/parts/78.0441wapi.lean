set_option maxRecDepth 100000 in
theorem b8_ladder {l : Launch} {h : MH} {Q : Option Value → MH → Prop} {tn : Int} {tf : Nat → Int} {xn : Nat → Int} {xf : Nat → Nat → Int} {en : Int} {tc : Nat} {tr : Int64} {V Bf Lf : Nat → Nat → Int} {q lm lo : Nat → Int} {a b k0 : Int} (H : IX2 h tn tf xn xf en tc tr V Bf Lf q lm lo) (ra : rg a) (rb : rg b) (rk0 : rg k0) (k : ∀ (h1 : MH) (r : Int), rg r → IX2 h1 tn tf xn xf en tc tr V Bf Lf q lm lo → Mo h h1 → Q (some (.int (iZ r))) h1) : Go l mX8_ladder 0 [some (.ref 0), some (.int (iZ a)), some (.int (iZ b)), some (.int (iZ k0)), none] [] h Q := by
  obtain ⟨HC, HS, HLm, HY, HE, hlen, hmz⟩ := id H
  obtain ⟨F0, F3, F4, htc, HT, HL⟩ := id HC
  refine g_aload_n 1 dX8_ladder_0 rfl rfl ?_
  refine g_get 4 dX8_ladder_1 faX8_59_X8 F0 rfl rfl ?_
  refine g_iload_n 5 dX8_ladder_4 rfl rfl ?_
  obtain ⟨eu, ek, el, oeu, oek, oel, e1, e2, E0, E1, E2, E3⟩ := id HE
  refine g_callV (z := mX1_has) (As := [.int (iZ a)]) 8 dX8_ladder_5 mwX1_has ⟨by decide, by decide⟩ rfl wlX8_189 wiX1_has wsX1_has E0 rfl rfl rfl (nle rfl) (nle rfl) rfl ?_
  refine Go.to [some (.ref 30), some (.int (iZ a))] [] rfl rfl ?_
  refine g_iload_n 1 dX1_has_0 rfl rfl ?_
  refine g_ifZ_lt 22 4 dX1_has_1 rfl rfl ra (fun c1 => ?_) (fun c1 => ?_)
  · refine g_iconst (v := iZ (0)) 23 dX1_has_22 rfl rfl ?_
    refine g_zret rfl z01_0 dX1_has_23 ?_
    refine rI ?_
    refine g_ifZ_eq 27 11 dX8_ladder_8 rfl rfl (by decide) (fun _ => ?_) (fun q => absurd q (by decide))
    refine g_iconst (v := iZ (-1)) 28 dX8_ladder_27 rfl rfl ?_
    refine g_iret rfl dX8_ladder_28 ?_
    exact k _ (-1) (by decide) H (fun _ _ _ => rfl)
  · refine g_iload_n 5 dX1_has_4 rfl rfl ?_
    refine g_aload_n 6 dX1_has_5 rfl rfl ?_
    refine g_get 9 dX1_has_6 faX1_21_X1 E0 rfl rfl ?_
    refine g_icZ_ge 22 12 dX1_has_9 rfl rfl ra (by omega) (fun c2 => ?_) (fun c2 => ?_)
    · refine g_iconst (v := iZ (0)) 23 dX1_has_22 rfl rfl ?_
      refine g_zret rfl z01_0 dX1_has_23 ?_
      refine rI ?_
      refine g_ifZ_eq 27 11 dX8_ladder_8 rfl rfl (by decide) (fun _ => ?_) (fun q => absurd q (by decide))
      refine g_iconst (v := iZ (-1)) 28 dX8_ladder_27 rfl rfl ?_
      refine g_iret rfl dX8_ladder_28 ?_
      exact k _ (-1) (by decide) H (fun _ _ _ => rfl)
    · refine g_iload_n 13 dX1_has_12 rfl rfl ?_
      refine g_bipush (v := iZ (12)) 15 dX1_has_13 (by decide +kernel) rfl ?_
      refine g_icZ_ge 22 18 dX1_has_15 rfl rfl ra (by decide) (fun c3 => ?_) (fun c3 => ?_)
      · refine g_iconst (v := iZ (0)) 23 dX1_has_22 rfl rfl ?_
        refine g_zret rfl z01_0 dX1_has_23 ?_
        refine rI ?_
        refine g_ifZ_eq 27 11 dX8_ladder_8 rfl rfl (by decide) (fun _ => ?_) (fun q => absurd q (by decide))
        refine g_iconst (v := iZ (-1)) 28 dX8_ladder_27 rfl rfl ?_
        refine g_iret rfl dX8_ladder_28 ?_
        exact k _ (-1) (by decide) H (fun _ _ _ => rfl)
      · refine g_iconst (v := iZ (1)) 19 dX1_has_18 rfl rfl ?_
        refine g_goto 23 dX1_has_19 rfl ?_
        refine g_zret rfl z01_1 dX1_has_23 ?_
        refine rI ?_
        refine g_ifZ_eq 27 11 dX8_ladder_8 rfl rfl (by decide) (fun q => absurd q (by decide)) (fun _ => ?_)
        refine g_aload_n 12 dX8_ladder_11 rfl rfl ?_
        refine g_get 15 dX8_ladder_12 faX8_59_X8 F0 rfl rfl ?_
        refine g_iload_n 16 dX8_ladder_15 rfl rfl ?_
        refine g_callV (z := mX1_has) (As := [.int (iZ b)]) 19 dX8_ladder_16 mwX1_has ⟨by decide, by decide⟩ rfl wlX8_189 wiX1_has wsX1_has E0 rfl rfl rfl (nle rfl) (nle rfl) rfl ?_
        refine Go.to [some (.ref 30), some (.int (iZ b))] [] rfl rfl ?_
        refine g_iload_n 1 dX1_has_0 rfl rfl ?_
        refine g_ifZ_lt 22 4 dX1_has_1 rfl rfl rb (fun c4 => ?_) (fun c4 => ?_)
        · refine g_iconst (v := iZ (0)) 23 dX1_has_22 rfl rfl ?_
          refine g_zret rfl z01_0 dX1_has_23 ?_
          refine rI ?_
          refine g_ifZ_eq 27 22 dX8_ladder_19 rfl rfl (by decide) (fun _ => ?_) (fun q => absurd q (by decide))
          refine g_iconst (v := iZ (-1)) 28 dX8_ladder_27 rfl rfl ?_
          refine g_iret rfl dX8_ladder_28 ?_
          exact k _ (-1) (by decide) H (fun _ _ _ => rfl)
        · refine g_iload_n 5 dX1_has_4 rfl rfl ?_
          refine g_aload_n 6 dX1_has_5 rfl rfl ?_
          refine g_get 9 dX1_has_6 faX1_21_X1 E0 rfl rfl ?_
          refine g_icZ_ge 22 12 dX1_has_9 rfl rfl rb (by omega) (fun c5 => ?_) (fun c5 => ?_)
          · refine g_iconst (v := iZ (0)) 23 dX1_has_22 rfl rfl ?_
            refine g_zret rfl z01_0 dX1_has_23 ?_
            refine rI ?_
            refine g_ifZ_eq 27 22 dX8_ladder_19 rfl rfl (by decide) (fun _ => ?_) (fun q => absurd q (by decide))
            refine g_iconst (v := iZ (-1)) 28 dX8_ladder_27 rfl rfl ?_
            refine g_iret rfl dX8_ladder_28 ?_
            exact k _ (-1) (by decide) H (fun _ _ _ => rfl)
          · refine g_iload_n 13 dX1_has_12 rfl rfl ?_
            refine g_bipush (v := iZ (12)) 15 dX1_has_13 (by decide +kernel) rfl ?_
            refine g_icZ_ge 22 18 dX1_has_15 rfl rfl rb (by decide) (fun c6 => ?_) (fun c6 => ?_)
            · refine g_iconst (v := iZ (0)) 23 dX1_has_22 rfl rfl ?_
              refine g_zret rfl z01_0 dX1_has_23 ?_
              refine rI ?_
              refine g_ifZ_eq 27 22 dX8_ladder_19 rfl rfl (by decide) (fun _ => ?_) (fun q => absurd q (by decide))
              refine g_iconst (v := iZ (-1)) 28 dX8_ladder_27 rfl rfl ?_
              refine g_iret rfl dX8_ladder_28 ?_
              exact k _ (-1) (by decide) H (fun _ _ _ => rfl)
            · refine g_iconst (v := iZ (1)) 19 dX1_has_18 rfl rfl ?_
              refine g_goto 23 dX1_has_19 rfl ?_
              refine g_zret rfl z01_1 dX1_has_23 ?_
              refine rI ?_
              refine g_ifZ_eq 27 22 dX8_ladder_19 rfl rfl (by decide) (fun q => absurd q (by decide)) (fun _ => ?_)
              refine g_iload_n 23 dX8_ladder_22 rfl rfl ?_
              refine g_iconst (v := iZ (-1)) 24 dX8_ladder_23 rfl rfl ?_
              refine g_icZ_ge 29 27 dX8_ladder_24 rfl rfl rk0 (by decide) (fun c7 => ?_) (fun c7 => ?_)
              · refine g_aload_n 30 dX8_ladder_29 rfl rfl ?_
                refine g_get 33 dX8_ladder_30 faX8_59_X8 F0 rfl rfl ?_
                refine g_iload_n 34 dX8_ladder_33 rfl rfl ?_
                refine g_iload_n 35 dX8_ladder_34 rfl rfl ?_
                refine g_iconst (v := iZ (0)) 36 dX8_ladder_35 rfl rfl ?_
                refine g_callV (z := mX1_fewest) (As := [.int (iZ a), .int (iZ b), .int (iZ 0)]) 39 dX8_ladder_36 mwX1_fewest ⟨by decide, by decide⟩ rfl wlX8_193 wiX1_fewest wsX1_fewest E0 rfl rfl rfl (nle rfl) (nle rfl) rfl ?_
                refine w_few  E0 E1 E2 E3 oeu oek oel (by omega) ra rb (by decide) (fun h8 g10 g11 z12 og10 og11 rz12 s9 f13 f14 => ?_)
                refine rI ?_
                refine g_istore (L1 := [some (.ref 0), some (.int (iZ a)), some (.int (iZ b)), some (.int (iZ k0)), some (.int (iZ z12))]) 41 dX8_ladder_39 (by decide) rfl rfl rfl ?_
                refine g_iload 43 dX8_ladder_41 rfl rfl ?_
                refine g_bipush (v := iZ (-9)) 45 dX8_ladder_43 (by decide +kernel) rfl ?_
                refine g_icZ_eq 54 48 dX8_ladder_45 rfl rfl rz12 (by decide) (fun c15 => ?_) (fun c15 => ?_)
                · refine g_bipush (v := iZ (-9)) 56 dX8_ladder_54 (by decide +kernel) rfl ?_
                  refine g_iret rfl dX8_ladder_56 ?_
                  have f16 := (s9.get (by decide) E0)
                  have f17 := (s9.get (by decide) E1)
                  have zz := H.ed (en1 := en) ((Sm.refl [30, 31, 32, 33] _).tr s9 (fun _ q => q) (by simp)) (by decide) ⟨eu, g10, g11, oeu, og10, og11, e1, e2, f16, f17, f13, f14⟩
                  exact k _ (-9) (by decide) zz.1 zz.2
                · refine g_iload_n 49 dX8_ladder_48 rfl rfl ?_
                  refine g_iload 51 dX8_ladder_49 rfl rfl ?_
                  refine g_icZ_le 57 54 dX8_ladder_51 rfl rfl rk0 rz12 (fun c18 => ?_) (fun c18 => ?_)
                  · refine g_iload_n 58 dX8_ladder_57 rfl rfl ?_
                    refine g_iconst (v := iZ (-1)) 59 dX8_ladder_58 rfl rfl ?_
                    refine g_icZ_ne 67 62 dX8_ladder_59 rfl rfl rk0 (by decide) (fun c19 => ?_) (fun c19 => ?_)
                    · refine g_aload_n 68 dX8_ladder_67 rfl rfl ?_
                      have f20 := (s9.get (by decide) F0)
                      refine g_get 71 dX8_ladder_68 faX8_59_X8 f20 rfl rfl ?_
                      refine g_iload_n 72 dX8_ladder_71 rfl rfl ?_
                      refine g_iload_n 73 dX8_ladder_72 rfl rfl ?_
                      have f21 := (s9.get (by decide) E0)
                      refine g_callV (z := mX1_step) (As := [.int (iZ a), .int (iZ k0)]) 76 dX8_ladder_73 mwX1_step ⟨by decide, by decide⟩ rfl wlX8_197 wiX1_step wsX1_step f21 rfl rfl rfl (nle rfl) (nle rfl) rfl ?_
                      have f22 := (s9.get (by decide) E1)
                      refine w_step  f21 f22 f13 f14 oeu og10 og11 (by omega) ra rk0 (fun z23 rz23 => ?_)
                      refine rI ?_
                      refine g_iret rfl dX8_ladder_76 ?_
                      have zz := H.ed (en1 := en) ((Sm.refl [30, 31, 32, 33] _).tr s9 (fun _ q => q) (by simp)) (by decide) ⟨eu, g10, g11, oeu, og10, og11, e1, e2, f21, f22, f13, f14⟩
                      exact k _ (z23) rz23 zz.1 zz.2
                    · refine g_iload 64 dX8_ladder_62 rfl rfl ?_
                      refine g_goto 76 dX8_ladder_64 rfl ?_
                      refine g_iret rfl dX8_ladder_76 ?_
                      have f24 := (s9.get (by decide) E0)
                      have f25 := (s9.get (by decide) E1)
                      have zz := H.ed (en1 := en) ((Sm.refl [30, 31, 32, 33] _).tr s9 (fun _ q => q) (by simp)) (by decide) ⟨eu, g10, g11, oeu, og10, og11, e1, e2, f24, f25, f13, f14⟩
                      exact k _ (z12) rz12 zz.1 zz.2
                  · refine g_bipush (v := iZ (-9)) 56 dX8_ladder_54 (by decide +kernel) rfl ?_
                    refine g_iret rfl dX8_ladder_56 ?_
                    have f26 := (s9.get (by decide) E0)
                    have f27 := (s9.get (by decide) E1)
                    have zz := H.ed (en1 := en) ((Sm.refl [30, 31, 32, 33] _).tr s9 (fun _ q => q) (by simp)) (by decide) ⟨eu, g10, g11, oeu, og10, og11, e1, e2, f26, f27, f13, f14⟩
                    exact k _ (-9) (by decide) zz.1 zz.2
              · refine g_iconst (v := iZ (-1)) 28 dX8_ladder_27 rfl rfl ?_
                refine g_iret rfl dX8_ladder_28 ?_
                exact k _ (-1) (by decide) H (fun _ _ _ => rfl)
set_option maxRecDepth 100000 in
theorem b8_edition {l : Launch} {h : MH} {Q : Option Value → MH → Prop} {tn : Int} {tf : Nat → Int} {xn : Nat → Int} {xf : Nat → Nat → Int} {en : Int} {tc : Nat} {tr : Int64} {V Bf Lf : Nat → Nat → Int} {q lm lo : Nat → Int} {i j : Int} (H : IX2 h tn tf xn xf en tc tr V Bf Lf q lm lo) (ri : rg i) (rj : rg j) (k : ∀ (h1 : MH) (r en1 : Int), (0 ≤ i ∧ i ≤ 65535 ∧ 0 ≤ j ∧ j ≤ 65535 ∧ en < 12 → r = en ∧ en1 = en + 1) → (0 ≤ i ∧ i ≤ 65535 ∧ 0 ≤ j ∧ j ≤ 65535 ∧ en = 12 → r = -3 ∧ en1 = en) → (¬ (0 ≤ i ∧ i ≤ 65535 ∧ 0 ≤ j ∧ j ≤ 65535) → r = -1 ∧ en1 = en) → IX2 h1 tn tf xn xf en1 tc tr V Bf Lf q lm lo → Mo h h1 → Q (some (.int (iZ r))) h1) : Go l mX8_edition 0 [some (.ref 0), some (.int (iZ i)), some (.int (iZ j))] [] h Q := by
  obtain ⟨HC, HS, HLm, HY, HE, hlen, hmz⟩ := id H
  obtain ⟨F0, F3, F4, htc, HT, HL⟩ := id HC
  refine g_iload_n 1 dX8_edition_0 rfl rfl ?_
  refine g_ifZ_lt 20 4 dX8_edition_1 rfl rfl ri (fun c1 => ?_) (fun c1 => ?_)
  · refine g_iconst (v := iZ (-1)) 21 dX8_edition_20 rfl rfl ?_
    refine g_iret rfl dX8_edition_21 ?_
    exact k _ (-1) en (by omega) (by omega) (by omega) H (fun _ _ _ => rfl)
  · refine g_iload_n 5 dX8_edition_4 rfl rfl ?_
    refine g_ldc (v := iZ (65535)) 7 dX8_edition_5 wnX8_186 rfl ?_
    refine g_icZ_gt 20 10 dX8_edition_7 rfl rfl ri (by decide) (fun c2 => ?_) (fun c2 => ?_)
    · refine g_iconst (v := iZ (-1)) 21 dX8_edition_20 rfl rfl ?_
      refine g_iret rfl dX8_edition_21 ?_
      exact k _ (-1) en (by omega) (by omega) (by omega) H (fun _ _ _ => rfl)
    · refine g_iload_n 11 dX8_edition_10 rfl rfl ?_
      refine g_ifZ_lt 20 14 dX8_edition_11 rfl rfl rj (fun c3 => ?_) (fun c3 => ?_)
      · refine g_iconst (v := iZ (-1)) 21 dX8_edition_20 rfl rfl ?_
        refine g_iret rfl dX8_edition_21 ?_
        exact k _ (-1) en (by omega) (by omega) (by omega) H (fun _ _ _ => rfl)
      · refine g_iload_n 15 dX8_edition_14 rfl rfl ?_
        refine g_ldc (v := iZ (65535)) 17 dX8_edition_15 wnX8_186 rfl ?_
        refine g_icZ_le 22 20 dX8_edition_17 rfl rfl rj (by decide) (fun c4 => ?_) (fun c4 => ?_)
        · refine g_aload_n 23 dX8_edition_22 rfl rfl ?_
          refine g_get 26 dX8_edition_23 faX8_59_X8 F0 rfl rfl ?_
          refine g_iload_n 27 dX8_edition_26 rfl rfl ?_
          refine g_iload_n 28 dX8_edition_27 rfl rfl ?_
          obtain ⟨eu, ek, el, oeu, oek, oel, e1, e2, E0, E1, E2, E3⟩ := id HE
          refine g_callV (z := mX1_add) (As := [.int (iZ i), .int (iZ j)]) 31 dX8_edition_28 mwX1_add ⟨by decide, by decide⟩ rfl wlX8_187 wiX1_add wsX1_add E0 rfl rfl rfl (nle rfl) (nle rfl) rfl ?_
          refine Go.to [some (.ref 30), some (.int (iZ i)), some (.int (iZ j))] [] rfl rfl ?_
          refine g_aload_n 1 dX1_add_0 rfl rfl ?_
          refine g_get 4 dX1_add_1 faX1_21_X1 E0 rfl rfl ?_
          refine g_ifZ_lt 16 7 dX1_add_4 rfl rfl (by omega) (fun c5 => ?_) (fun c5 => ?_)
          · refine g_bipush (v := iZ (-3)) 18 dX1_add_16 (by decide +kernel) rfl ?_
            refine g_iret rfl dX1_add_18 ?_
            refine rI ?_
            refine g_iret rfl dX8_edition_31 ?_
            exact k _ (-3) en (by omega) (by omega) (by omega) H (fun _ _ _ => rfl)
          · refine g_aload_n 8 dX1_add_7 rfl rfl ?_
            refine g_get 11 dX1_add_8 faX1_21_X1 E0 rfl rfl ?_
            refine g_bipush (v := iZ (12)) 13 dX1_add_11 (by decide +kernel) rfl ?_
            refine g_icZ_lt 19 16 dX1_add_13 rfl rfl (by omega) (by decide) (fun c6 => ?_) (fun c6 => ?_)
            · refine g_aload_n 20 dX1_add_19 rfl rfl ?_
              refine g_get 23 dX1_add_20 faX1_9_X1 E0 rfl rfl ?_
              refine g_aload_n 24 dX1_add_23 rfl rfl ?_
              refine g_get 27 dX1_add_24 faX1_21_X1 E0 rfl rfl ?_
              refine g_iload_n 28 dX1_add_27 rfl rfl ?_
              refine g_iastW 29 dX1_add_28 E1 oeu ri (by omega) (by omega) (by decide) rfl (fun h8 g7 og7 s9 f10 => ?_)
              refine g_aload_n 30 dX1_add_29 rfl rfl ?_
              have f11 := (s9.get (by decide) E0)
              refine g_get 33 dX1_add_30 faX1_15_X1 f11 rfl rfl ?_
              refine g_aload_n 34 dX1_add_33 rfl rfl ?_
              refine g_get 37 dX1_add_34 faX1_21_X1 f11 rfl rfl ?_
              refine g_iload_n 38 dX1_add_37 rfl rfl ?_
              have f12 := (s9.get (by decide) E2)
              refine g_iastW 39 dX1_add_38 f12 oek rj (by omega) (by omega) (by decide) rfl (fun h14 g13 og13 s15 f16 => ?_)
              refine g_aload_n 40 dX1_add_39 rfl rfl ?_
              refine g_dup 41 dX1_add_40 rfl rfl ?_
              have f17 := (s15.get (by decide) f11)
              refine g_get 44 dX1_add_41 faX1_21_X1 f17 rfl rfl ?_
              refine g_iconst (v := iZ (1)) 45 dX1_add_44 rfl rfl ?_
              refine g_iaddZ (en + 1) 46 dX1_add_45 (by omega) rfl ?_
              refine g_putC (fs1 := [.ref 31, .ref 32, .ref 33, .int (iZ (en + 1))]) 49 dX1_add_46 fpX1_21_X1 f17 (nle rfl) (vI _) rfl rfl (fun h18 s19 f20 => ?_)
              refine g_aload_n 50 dX1_add_49 rfl rfl ?_
              refine g_get 53 dX1_add_50 faX1_21_X1 f20 rfl rfl ?_
              refine g_iconst (v := iZ (1)) 54 dX1_add_53 rfl rfl ?_
              refine g_isubZ (en) 55 dX1_add_54 (by omega) rfl ?_
              refine g_iret rfl dX1_add_55 ?_
              refine rI ?_
              refine g_iret rfl dX8_edition_31 ?_
              have f21 := (s19.get (by decide) (s15.get (by decide) f10))
              have f22 := (s19.get (by decide) f16)
              have f23 := (s19.get (by decide) (s15.get (by decide) (s9.get (by decide) E3)))
              have zz := H.ed (en1 := en + 1) ((((Sm.refl [30, 31, 32, 33] _).tr s9 (fun _ q => q) (by simp)).tr s15 (fun _ q => q) (by simp)).tr s19 (fun _ q => q) (by simp)) (by decide) ⟨g7, g13, el, og7, og13, oel, by omega, by omega, f20, f21, f22, f23⟩
              exact k _ (en) (en + 1) (by omega) (by omega) (by omega) zz.1 zz.2
            · refine g_bipush (v := iZ (-3)) 18 dX1_add_16 (by decide +kernel) rfl ?_
              refine g_iret rfl dX1_add_18 ?_
              refine rI ?_
              refine g_iret rfl dX8_edition_31 ?_
              exact k _ (-3) en (by omega) (by omega) (by omega) H (fun _ _ _ => rfl)
        · refine g_iconst (v := iZ (-1)) 21 dX8_edition_20 rfl rfl ?_
          refine g_iret rfl dX8_edition_21 ?_
          exact k _ (-1) en (by omega) (by omega) (by omega) H (fun _ _ _ => rfl)
set_option maxRecDepth 100000 in
theorem b8_clear {l : Launch} {h : MH} {Q : Option Value → MH → Prop} {tn : Int} {tf : Nat → Int} {xn : Nat → Int} {xf : Nat → Nat → Int} {en : Int} {tc : Nat} {tr : Int64} {V Bf Lf : Nat → Nat → Int} {q lm lo : Nat → Int}  (H : IX2 h tn tf xn xf en tc tr V Bf Lf q lm lo)  (k : ∀ (h1 : MH), IX2 h1 0 tf xn xf en tc tr V Bf Lf q lm lo → Mo h h1 → Q (some (.int (iZ tn))) h1) : Go l mX8_clear 0 [some (.ref 0), none] [] h Q := by
  obtain ⟨HC, HS, HLm, HY, HE, hlen, hmz⟩ := id H
  obtain ⟨F0, F3, F4, htc, HT, HL⟩ := id HC
  refine g_aload_n 1 dX8_clear_0 rfl rfl ?_
  refine g_get 4 dX8_clear_1 faX8_10_X8 F0 rfl rfl ?_
  obtain ⟨y0, y1, y2, y3, y4⟩ := id HY
  refine g_get 7 dX8_clear_4 faX8_67_X6 y0 rfl rfl ?_
  refine g_istore_n (L1 := [some (.ref 0), some (.int (iZ tn))]) 8 dX8_clear_7 (by decide) rfl rfl rfl ?_
  refine g_aload_n 9 dX8_clear_8 rfl rfl ?_
  refine g_get 12 dX8_clear_9 faX8_10_X8 F0 rfl rfl ?_
  refine g_iconst (v := iZ (0)) 13 dX8_clear_12 rfl rfl ?_
  refine g_putC (fs1 := [.ref 2, .int (iZ 0)]) 16 dX8_clear_13 fpX8_67_X6 y0 (nle rfl) (vI _) rfl rfl (fun h1 s2 f3 => ?_)
  refine g_iload_n 17 dX8_clear_16 rfl rfl ?_
  refine g_iret rfl dX8_clear_17 ?_
  have f4 := (s2.get (by decide) y1)
  have zz := H.ty (tn1 := 0) (tf1 := tf) ((Sm.refl [1, 2] _).tr s2 (fun _ q => q) (by simp)) (by decide) ⟨f3, f4, by decide, by decide, y4⟩
  exact k _ zz.1 zz.2

set_option maxRecDepth 100000 in
theorem w_need_l {l : Launch} {Q : Option Value → MH → Prop} {tc : Nat} {tr : Int64} {en a b w : Int} {eu : Nat → Int} (oeu : okr eu) (ren : rg en) (ra : rg a) (rb : rg b) (rw : rg w) (htc : tc ≤ 12) : ∀ (m0 : Nat) (h : MH) (ek el : Nat → Int) (wd bs j : Int), (16 - j).toNat = m0 → okr ek → okr el → h[0]? = some (.inr (7, [.ref 1, .ref 3, .ref 4, .int (iZ ((tc : Int))), .ref 5, .ref 9, .ref 15, .ref 20, .ref 25, .ref 30, .long (tr)])) → h[30]? = some (.inr (1, [.ref 31, .ref 32, .ref 33, .int (iZ en)])) → h[31]? = some (.inl (0, 12, .inl (zA eu))) → h[32]? = some (.inl (0, 12, .inl (zA ek))) → h[33]? = some (.inl (0, 12, .inl (zA el))) → rg wd → rg bs → 0 ≤ j ∧ j ≤ 16 → (∀ (h1 : MH) (ek_1 el_1 : Nat → Int) (r : Int), okr ek_1 → okr el_1 → rg r → Sm [32, 33] h h1 → h1[32]? = some (.inl (0, 12, .inl (zA ek_1))) → h1[33]? = some (.inl (0, 12, .inl (zA el_1))) → Q (some (.int (iZ r))) h1) → Go l mX8_needed 52 [some (.ref 0), some (.int (iZ a)), some (.int (iZ b)), some (.int (iZ w)), some (.int (iZ wd)), some (.int (iZ bs)), some (.int (iZ j)), none] [] h Q := by
  intro m0
  induction m0 using Nat.strongRecOn with
  | ind m0 ih =>
    intro h ek el wd bs j hmz oek oel F0 F1 F2 F3 F4 rwd rbs hj k
    refine g_iload 54 dX8_needed_52 rfl rfl ?_
    refine g_bipush (v := iZ (16)) 56 dX8_needed_54 (by decide +kernel) rfl ?_
    refine g_icZ_ge 109 59 dX8_needed_56 rfl rfl (by omega) (by decide) (fun c1 => ?_) (fun c1 => ?_)
    · refine g_iload 111 dX8_needed_109 rfl rfl ?_
      refine g_bipush (v := iZ (-9)) 113 dX8_needed_111 (by decide +kernel) rfl ?_
      refine g_icZ_eq 120 116 dX8_needed_113 rfl rfl rwd (by decide) (fun c2 => ?_) (fun c2 => ?_)
      · refine g_iload 122 dX8_needed_120 rfl rfl ?_
        refine g_goto 127 dX8_needed_122 rfl ?_
        refine g_iret rfl dX8_needed_127 ?_
        exact k _ (ek) (el) (wd) oek oel rwd (Sm.refl [32, 33] _) F3 F4
      · refine g_iload_n 117 dX8_needed_116 rfl rfl ?_
        refine g_ifZ_ne 125 120 dX8_needed_117 rfl rfl rw (fun c3 => ?_) (fun c3 => ?_)
        · refine g_iload 127 dX8_needed_125 rfl rfl ?_
          refine g_iret rfl dX8_needed_127 ?_
          exact k _ (ek) (el) (bs) oek oel rbs (Sm.refl [32, 33] _) F3 F4
        · refine g_iload 122 dX8_needed_120 rfl rfl ?_
          refine g_goto 127 dX8_needed_122 rfl ?_
          refine g_iret rfl dX8_needed_127 ?_
          exact k _ (ek) (el) (wd) oek oel rwd (Sm.refl [32, 33] _) F3 F4
    · refine g_aload_n 60 dX8_needed_59 rfl rfl ?_
      refine g_get 63 dX8_needed_60 faX8_59_X8 F0 rfl rfl ?_
      refine g_iload_n 64 dX8_needed_63 rfl rfl ?_
      refine g_iload_n 65 dX8_needed_64 rfl rfl ?_
      refine g_iconst (v := iZ (1)) 66 dX8_needed_65 rfl rfl ?_
      refine g_iload 68 dX8_needed_66 rfl rfl ?_
      refine g_ishl 69 dX8_needed_68 rfl ?_
      refine Go.genZ (fun z4 rz4 => ?_)
      refine g_callV (z := mX1_fewest) (As := [.int (iZ a), .int (iZ b), .int (iZ z4)]) 72 dX8_needed_69 mwX1_fewest ⟨by decide, by decide⟩ rfl wlX8_193 wiX1_fewest wsX1_fewest F1 rfl rfl rfl (nle rfl) (nle rfl) rfl ?_
      refine w_few  F1 F2 F3 F4 oeu oek oel ren ra rb rz4 (fun h5 g7 g8 z9 og7 og8 rz9 s6 f10 f11 => ?_)
      refine rI ?_
      refine g_istore (L1 := [some (.ref 0), some (.int (iZ a)), some (.int (iZ b)), some (.int (iZ w)), some (.int (iZ wd)), some (.int (iZ bs)), some (.int (iZ j)), some (.int (iZ z9))]) 74 dX8_needed_72 (by decide) rfl rfl rfl ?_
      refine g_iload 76 dX8_needed_74 rfl rfl ?_
      refine g_bipush (v := iZ (-9)) 78 dX8_needed_76 (by decide +kernel) rfl ?_
      refine g_icZ_eq 103 81 dX8_needed_78 rfl rfl rz9 (by decide) (fun c12 => ?_) (fun c12 => ?_)
      · refine g_iincZ [some (.ref 0), some (.int (iZ a)), some (.int (iZ b)), some (.int (iZ w)), some (.int (iZ wd)), some (.int (iZ bs)), some (.int (iZ (j + 1))), some (.int (iZ z9))] 106 dX8_needed_103 rfl (by omega) (by decide) rfl rfl rfl ?_
        refine g_goto 52 dX8_needed_106 rfl ?_
        refine Go.fgt 7 ?_
        have f13 := (s6.get (by decide) F0)
        have f14 := (s6.get (by decide) F1)
        have f15 := (s6.get (by decide) F2)
        exact ih _ (by omega) _ (g7) (g8) (wd) (bs) (j + 1) rfl og7 og8 f13 f14 f15 f10 f11 rwd rbs (by omega) (fun hQ xQ0 xQ1 rQ yQ0 yQ1 yQ2 sQ uQ0 uQ1 => k hQ xQ0 xQ1 rQ yQ0 yQ1 yQ2 (((Sm.refl [32, 33] _).tr s6 (fun _ q => q) (by simp)).tr sQ (fun _ q => q) (fun _ q => q)) uQ0 uQ1)
      · refine g_iload 83 dX8_needed_81 rfl rfl ?_
        refine g_bipush (v := iZ (-9)) 85 dX8_needed_83 (by decide +kernel) rfl ?_
        refine g_icZ_eq 95 88 dX8_needed_85 rfl rfl rbs (by decide) (fun c16 => ?_) (fun c16 => ?_)
        · refine g_iload 97 dX8_needed_95 rfl rfl ?_
          refine g_istore (L1 := [some (.ref 0), some (.int (iZ a)), some (.int (iZ b)), some (.int (iZ w)), some (.int (iZ wd)), some (.int (iZ z9)), some (.int (iZ j)), some (.int (iZ z9))]) 99 dX8_needed_97 (by decide) rfl rfl rfl ?_
          refine g_iload 101 dX8_needed_99 rfl rfl ?_
          refine g_istore (L1 := [some (.ref 0), some (.int (iZ a)), some (.int (iZ b)), some (.int (iZ w)), some (.int (iZ j)), some (.int (iZ z9)), some (.int (iZ j)), some (.int (iZ z9))]) 103 dX8_needed_101 (by decide) rfl rfl rfl ?_
          refine g_iincZ [some (.ref 0), some (.int (iZ a)), some (.int (iZ b)), some (.int (iZ w)), some (.int (iZ j)), some (.int (iZ z9)), some (.int (iZ (j + 1))), some (.int (iZ z9))] 106 dX8_needed_103 rfl (by omega) (by decide) rfl rfl rfl ?_
          refine g_goto 52 dX8_needed_106 rfl ?_
          refine Go.fgt 7 ?_
          have f17 := (s6.get (by decide) F0)
          have f18 := (s6.get (by decide) F1)
          have f19 := (s6.get (by decide) F2)
          exact ih _ (by omega) _ (g7) (g8) (j) (z9) (j + 1) rfl og7 og8 f17 f18 f19 f10 f11 (by omega) rz9 (by omega) (fun hQ xQ0 xQ1 rQ yQ0 yQ1 yQ2 sQ uQ0 uQ1 => k hQ xQ0 xQ1 rQ yQ0 yQ1 yQ2 (((Sm.refl [32, 33] _).tr s6 (fun _ q => q) (by simp)).tr sQ (fun _ q => q) (fun _ q => q)) uQ0 uQ1)
        · refine g_iload 90 dX8_needed_88 rfl rfl ?_
          refine g_iload 92 dX8_needed_90 rfl rfl ?_
          refine g_icZ_ge 103 95 dX8_needed_92 rfl rfl rz9 rbs (fun c20 => ?_) (fun c20 => ?_)
          · refine g_iincZ [some (.ref 0), some (.int (iZ a)), some (.int (iZ b)), some (.int (iZ w)), some (.int (iZ wd)), some (.int (iZ bs)), some (.int (iZ (j + 1))), some (.int (iZ z9))] 106 dX8_needed_103 rfl (by omega) (by decide) rfl rfl rfl ?_
            refine g_goto 52 dX8_needed_106 rfl ?_
            refine Go.fgt 7 ?_
            have f21 := (s6.get (by decide) F0)
            have f22 := (s6.get (by decide) F1)
            have f23 := (s6.get (by decide) F2)
            exact ih _ (by omega) _ (g7) (g8) (wd) (bs) (j + 1) rfl og7 og8 f21 f22 f23 f10 f11 rwd rbs (by omega) (fun hQ xQ0 xQ1 rQ yQ0 yQ1 yQ2 sQ uQ0 uQ1 => k hQ xQ0 xQ1 rQ yQ0 yQ1 yQ2 (((Sm.refl [32, 33] _).tr s6 (fun _ q => q) (by simp)).tr sQ (fun _ q => q) (fun _ q => q)) uQ0 uQ1)
          · refine g_iload 97 dX8_needed_95 rfl rfl ?_
            refine g_istore (L1 := [some (.ref 0), some (.int (iZ a)), some (.int (iZ b)), some (.int (iZ w)), some (.int (iZ wd)), some (.int (iZ z9)), some (.int (iZ j)), some (.int (iZ z9))]) 99 dX8_needed_97 (by decide) rfl rfl rfl ?_
            refine g_iload 101 dX8_needed_99 rfl rfl ?_
            refine g_istore (L1 := [some (.ref 0), some (.int (iZ a)), some (.int (iZ b)), some (.int (iZ w)), some (.int (iZ j)), some (.int (iZ z9)), some (.int (iZ j)), some (.int (iZ z9))]) 103 dX8_needed_101 (by decide) rfl rfl rfl ?_
            refine g_iincZ [some (.ref 0), some (.int (iZ a)), some (.int (iZ b)), some (.int (iZ w)), some (.int (iZ j)), some (.int (iZ z9)), some (.int (iZ (j + 1))), some (.int (iZ z9))] 106 dX8_needed_103 rfl (by omega) (by decide) rfl rfl rfl ?_
            refine g_goto 52 dX8_needed_106 rfl ?_
            refine Go.fgt 7 ?_
            have f24 := (s6.get (by decide) F0)
            have f25 := (s6.get (by decide) F1)
            have f26 := (s6.get (by decide) F2)
            exact ih _ (by omega) _ (g7) (g8) (j) (z9) (j + 1) rfl og7 og8 f24 f25 f26 f10 f11 (by omega) rz9 (by omega) (fun hQ xQ0 xQ1 rQ yQ0 yQ1 yQ2 sQ uQ0 uQ1 => k hQ xQ0 xQ1 rQ yQ0 yQ1 yQ2 (((Sm.refl [32, 33] _).tr s6 (fun _ q => q) (by simp)).tr sQ (fun _ q => q) (fun _ q => q)) uQ0 uQ1)
set_option maxRecDepth 100000 in
theorem w_need {l : Launch} {h : MH} {Q : Option Value → MH → Prop} {tc : Nat} {tr : Int64} {en a b w : Int} {eu ek el : Nat → Int} (F0 : h[0]? = some (.inr (7, [.ref 1, .ref 3, .ref 4, .int (iZ ((tc : Int))), .ref 5, .ref 9, .ref 15, .ref 20, .ref 25, .ref 30, .long (tr)]))) (F1 : h[30]? = some (.inr (1, [.ref 31, .ref 32, .ref 33, .int (iZ en)]))) (F2 : h[31]? = some (.inl (0, 12, .inl (zA eu)))) (F3 : h[32]? = some (.inl (0, 12, .inl (zA ek)))) (F4 : h[33]? = some (.inl (0, 12, .inl (zA el)))) (oeu : okr eu) (oek : okr ek) (oel : okr el) (ren : rg en) (ra : rg a) (rb : rg b) (rw : rg w) (htc : tc ≤ 12) (k : ∀ (h1 : MH) (ek_1 el_1 : Nat → Int) (r : Int), okr ek_1 → okr el_1 → rg r → Sm [32, 33] h h1 → h1[32]? = some (.inl (0, 12, .inl (zA ek_1))) → h1[33]? = some (.inl (0, 12, .inl (zA el_1))) → Q (some (.int (iZ r))) h1) : Go l mX8_needed 0 [some (.ref 0), some (.int (iZ a)), some (.int (iZ b)), some (.int (iZ w)), none, none, none, none] [] h Q := by
  refine g_aload_n 1 dX8_needed_0 rfl rfl ?_
  refine g_get 4 dX8_needed_1 faX8_59_X8 F0 rfl rfl ?_
  refine g_iload_n 5 dX8_needed_4 rfl rfl ?_
  refine g_callV (z := mX1_has) (As := [.int (iZ a)]) 8 dX8_needed_5 mwX1_has ⟨by decide, by decide⟩ rfl wlX8_189 wiX1_has wsX1_has F1 rfl rfl rfl (nle rfl) (nle rfl) rfl ?_
  refine Go.to [some (.ref 30), some (.int (iZ a))] [] rfl rfl ?_
  refine g_iload_n 1 dX1_has_0 rfl rfl ?_
  refine g_ifZ_lt 22 4 dX1_has_1 rfl rfl ra (fun c1 => ?_) (fun c1 => ?_)
  · refine g_iconst (v := iZ (0)) 23 dX1_has_22 rfl rfl ?_
    refine g_zret rfl z01_0 dX1_has_23 ?_
    refine rI ?_
    refine g_ifZ_eq 31 11 dX8_needed_8 rfl rfl (by decide) (fun _ => ?_) (fun q => absurd q (by decide))
    refine g_iconst (v := iZ (-1)) 32 dX8_needed_31 rfl rfl ?_
    refine g_iret rfl dX8_needed_32 ?_
    exact k _ (ek) (el) (-1) oek oel (by decide) (Sm.refl [32, 33] _) F3 F4
  · refine g_iload_n 5 dX1_has_4 rfl rfl ?_
    refine g_aload_n 6 dX1_has_5 rfl rfl ?_
    refine g_get 9 dX1_has_6 faX1_21_X1 F1 rfl rfl ?_
    refine g_icZ_ge 22 12 dX1_has_9 rfl rfl ra ren (fun c2 => ?_) (fun c2 => ?_)
    · refine g_iconst (v := iZ (0)) 23 dX1_has_22 rfl rfl ?_
      refine g_zret rfl z01_0 dX1_has_23 ?_
      refine rI ?_
      refine g_ifZ_eq 31 11 dX8_needed_8 rfl rfl (by decide) (fun _ => ?_) (fun q => absurd q (by decide))
      refine g_iconst (v := iZ (-1)) 32 dX8_needed_31 rfl rfl ?_
      refine g_iret rfl dX8_needed_32 ?_
      exact k _ (ek) (el) (-1) oek oel (by decide) (Sm.refl [32, 33] _) F3 F4
    · refine g_iload_n 13 dX1_has_12 rfl rfl ?_
      refine g_bipush (v := iZ (12)) 15 dX1_has_13 (by decide +kernel) rfl ?_
      refine g_icZ_ge 22 18 dX1_has_15 rfl rfl ra (by decide) (fun c3 => ?_) (fun c3 => ?_)
      · refine g_iconst (v := iZ (0)) 23 dX1_has_22 rfl rfl ?_
        refine g_zret rfl z01_0 dX1_has_23 ?_
        refine rI ?_
        refine g_ifZ_eq 31 11 dX8_needed_8 rfl rfl (by decide) (fun _ => ?_) (fun q => absurd q (by decide))
        refine g_iconst (v := iZ (-1)) 32 dX8_needed_31 rfl rfl ?_
        refine g_iret rfl dX8_needed_32 ?_
        exact k _ (ek) (el) (-1) oek oel (by decide) (Sm.refl [32, 33] _) F3 F4
      · refine g_iconst (v := iZ (1)) 19 dX1_has_18 rfl rfl ?_
        refine g_goto 23 dX1_has_19 rfl ?_
        refine g_zret rfl z01_1 dX1_has_23 ?_
        refine rI ?_
        refine g_ifZ_eq 31 11 dX8_needed_8 rfl rfl (by decide) (fun q => absurd q (by decide)) (fun _ => ?_)
        refine g_aload_n 12 dX8_needed_11 rfl rfl ?_
        refine g_get 15 dX8_needed_12 faX8_59_X8 F0 rfl rfl ?_
        refine g_iload_n 16 dX8_needed_15 rfl rfl ?_
        refine g_callV (z := mX1_has) (As := [.int (iZ b)]) 19 dX8_needed_16 mwX1_has ⟨by decide, by decide⟩ rfl wlX8_189 wiX1_has wsX1_has F1 rfl rfl rfl (nle rfl) (nle rfl) rfl ?_
        refine Go.to [some (.ref 30), some (.int (iZ b))] [] rfl rfl ?_
        refine g_iload_n 1 dX1_has_0 rfl rfl ?_
        refine g_ifZ_lt 22 4 dX1_has_1 rfl rfl rb (fun c4 => ?_) (fun c4 => ?_)
        · refine g_iconst (v := iZ (0)) 23 dX1_has_22 rfl rfl ?_
          refine g_zret rfl z01_0 dX1_has_23 ?_
          refine rI ?_
          refine g_ifZ_eq 31 22 dX8_needed_19 rfl rfl (by decide) (fun _ => ?_) (fun q => absurd q (by decide))
          refine g_iconst (v := iZ (-1)) 32 dX8_needed_31 rfl rfl ?_
          refine g_iret rfl dX8_needed_32 ?_
          exact k _ (ek) (el) (-1) oek oel (by decide) (Sm.refl [32, 33] _) F3 F4
        · refine g_iload_n 5 dX1_has_4 rfl rfl ?_
          refine g_aload_n 6 dX1_has_5 rfl rfl ?_
          refine g_get 9 dX1_has_6 faX1_21_X1 F1 rfl rfl ?_
          refine g_icZ_ge 22 12 dX1_has_9 rfl rfl rb ren (fun c5 => ?_) (fun c5 => ?_)
          · refine g_iconst (v := iZ (0)) 23 dX1_has_22 rfl rfl ?_
            refine g_zret rfl z01_0 dX1_has_23 ?_
            refine rI ?_
            refine g_ifZ_eq 31 22 dX8_needed_19 rfl rfl (by decide) (fun _ => ?_) (fun q => absurd q (by decide))
            refine g_iconst (v := iZ (-1)) 32 dX8_needed_31 rfl rfl ?_
            refine g_iret rfl dX8_needed_32 ?_
            exact k _ (ek) (el) (-1) oek oel (by decide) (Sm.refl [32, 33] _) F3 F4
          · refine g_iload_n 13 dX1_has_12 rfl rfl ?_
            refine g_bipush (v := iZ (12)) 15 dX1_has_13 (by decide +kernel) rfl ?_
            refine g_icZ_ge 22 18 dX1_has_15 rfl rfl rb (by decide) (fun c6 => ?_) (fun c6 => ?_)
            · refine g_iconst (v := iZ (0)) 23 dX1_has_22 rfl rfl ?_
              refine g_zret rfl z01_0 dX1_has_23 ?_
              refine rI ?_
              refine g_ifZ_eq 31 22 dX8_needed_19 rfl rfl (by decide) (fun _ => ?_) (fun q => absurd q (by decide))
              refine g_iconst (v := iZ (-1)) 32 dX8_needed_31 rfl rfl ?_
              refine g_iret rfl dX8_needed_32 ?_
              exact k _ (ek) (el) (-1) oek oel (by decide) (Sm.refl [32, 33] _) F3 F4
            · refine g_iconst (v := iZ (1)) 19 dX1_has_18 rfl rfl ?_
              refine g_goto 23 dX1_has_19 rfl ?_
              refine g_zret rfl z01_1 dX1_has_23 ?_
              refine rI ?_
              refine g_ifZ_eq 31 22 dX8_needed_19 rfl rfl (by decide) (fun q => absurd q (by decide)) (fun _ => ?_)
              refine g_iload_n 23 dX8_needed_22 rfl rfl ?_
              refine g_ifZ_lt 31 26 dX8_needed_23 rfl rfl rw (fun c7 => ?_) (fun c7 => ?_)
              · refine g_iconst (v := iZ (-1)) 32 dX8_needed_31 rfl rfl ?_
                refine g_iret rfl dX8_needed_32 ?_
                exact k _ (ek) (el) (-1) oek oel (by decide) (Sm.refl [32, 33] _) F3 F4
              · refine g_iload_n 27 dX8_needed_26 rfl rfl ?_
                refine g_iconst (v := iZ (1)) 28 dX8_needed_27 rfl rfl ?_
                refine g_icZ_le 33 31 dX8_needed_28 rfl rfl rw (by decide) (fun c8 => ?_) (fun c8 => ?_)
                · refine g_bipush (v := iZ (-9)) 35 dX8_needed_33 (by decide +kernel) rfl ?_
                  refine g_istore (L1 := [some (.ref 0), some (.int (iZ a)), some (.int (iZ b)), some (.int (iZ w)), some (.int (iZ (-9))), none, none, none]) 37 dX8_needed_35 (by decide) rfl rfl rfl ?_
                  refine g_aload_n 38 dX8_needed_37 rfl rfl ?_
                  refine g_get 41 dX8_needed_38 faX8_59_X8 F0 rfl rfl ?_
                  refine g_iload_n 42 dX8_needed_41 rfl rfl ?_
                  refine g_iload_n 43 dX8_needed_42 rfl rfl ?_
                  refine g_iconst (v := iZ (0)) 44 dX8_needed_43 rfl rfl ?_
                  refine g_callV (z := mX1_fewest) (As := [.int (iZ a), .int (iZ b), .int (iZ 0)]) 47 dX8_needed_44 mwX1_fewest ⟨by decide, by decide⟩ rfl wlX8_193 wiX1_fewest wsX1_fewest F1 rfl rfl rfl (nle rfl) (nle rfl) rfl ?_
                  refine w_few  F1 F2 F3 F4 oeu oek oel ren ra rb (by decide) (fun h9 g11 g12 z13 og11 og12 rz13 s10 f14 f15 => ?_)
                  refine rI ?_
                  refine g_istore (L1 := [some (.ref 0), some (.int (iZ a)), some (.int (iZ b)), some (.int (iZ w)), some (.int (iZ (-9))), some (.int (iZ z13)), none, none]) 49 dX8_needed_47 (by decide) rfl rfl rfl ?_
                  refine g_iconst (v := iZ (0)) 50 dX8_needed_49 rfl rfl ?_
                  refine g_istore (L1 := [some (.ref 0), some (.int (iZ a)), some (.int (iZ b)), some (.int (iZ w)), some (.int (iZ (-9))), some (.int (iZ z13)), some (.int (iZ 0)), none]) 52 dX8_needed_50 (by decide) rfl rfl rfl ?_
                  have f16 := (s10.get (by decide) F0)
                  have f17 := (s10.get (by decide) F1)
                  have f18 := (s10.get (by decide) F2)
                  exact w_need_l oeu ren ra rb rw htc _ _ (g11) (g12) (-9) (z13) (0) rfl og11 og12 f16 f17 f18 f14 f15 (by decide) rz13 (by omega) (fun hQ xQ0 xQ1 rQ yQ0 yQ1 yQ2 sQ uQ0 uQ1 => k hQ xQ0 xQ1 rQ yQ0 yQ1 yQ2 (((Sm.refl [32, 33] _).tr s10 (fun _ q => q) (by simp)).tr sQ (fun _ q => q) (fun _ q => q)) uQ0 uQ1)
                · refine g_iconst (v := iZ (-1)) 32 dX8_needed_31 rfl rfl ?_
                  refine g_iret rfl dX8_needed_32 ?_
                  exact k _ (ek) (el) (-1) oek oel (by decide) (Sm.refl [32, 33] _) F3 F4
/-- byte i of v, as the class takes it -/
def bt (v : Int64) (i : Int) : Int := ((v.toUInt64 >>> ((iZ (8 * i)).toInt64.toUInt64 &&& Int64.toUInt64 63)).toInt64.toInt32).toInt % 256
/-- n bytes of v behind place t of f -/
def tyb (v : Int64) (n t : Int) (f : Nat → Int) : Nat → Int := fun j => if t ≤ j ∧ j < t + n then bt v (t + n - 1 - j) else f j
theorem tyb_0 (v : Int64) (t : Int) (f : Nat → Int) : tyb v 0 t f = f := by
  funext j
  unfold tyb
  rw [if_neg (by omega)]
theorem tyb_s (v : Int64) (k t : Int) (f : Nat → Int) (hk : 0 ≤ k) (ht : 0 ≤ t) : tyb v k (t + 1) (va_up f t.toNat (bt v k)) = tyb v (k + 1) t f := by
  funext j
  unfold tyb va_up
  by_cases h1 : t + 1 ≤ (j : Int) ∧ (j : Int) < t + 1 + k
  · rw [if_pos h1, if_pos (by omega)]
    congr 1
    omega
  · rw [if_neg h1]
    by_cases h2 : j = t.toNat
    · rw [if_pos h2, if_pos (by omega)]
      congr 1
      omega
    · rw [if_neg h2, if_neg (by omega)]
theorem okb_up {f : Nat → Int} (h : okb f) (i : Nat) {v : Int} (hv : 0 ≤ v ∧ v ≤ 255) : okb (va_up f i v) := by
  intro j
  unfold va_up
  split
  · exact hv
  · exact h j
theorem lp8_ty {l : Launch} {Q : Option Value → MH → Prop} (v : Int64) (z : Int) {tc : Nat} {tr : Int64} : ∀ (k : Nat) (h : MH) (f : Nat → Int) (t i : Int), i = k - 1 → 0 ≤ t → t + k ≤ 200 → k ≤ 8 → okb f → h[0]? = some (.inr (7, [.ref 1, .ref 3, .ref 4, .int (iZ ((tc : Int))), .ref 5, .ref 9, .ref 15, .ref 20, .ref 25, .ref 30, .long (tr)])) → h[1]? = some (.inr (5, [.ref 2, .int (iZ t)])) → h[2]? = some (.inl (0, 200, .inl (zA f))) → (∀ (h1 : MH) (f1 : Nat → Int) (r : Int), r = t + k → f1 = tyb v k t f → okb f1 → Sm [1, 2] h h1 → h1[1]? = some (.inr (5, [.ref 2, .int (iZ r)])) → h1[2]? = some (.inl (0, 200, .inl (zA f1))) → Q (some (.int (iZ r))) h1) → Go l mX8_type 36 [some (.ref 0), some (.long (v)), none, some (.int (iZ z)), some (.int (iZ i))] [] h Q := by
  intro k
  induction k with
  | zero =>
    intro h f t i hi h0 h2 h3 of f0 f1 f2 k
    have : i = -1 := by omega
    subst this
    refine g_iload 38 dX8_type_36 rfl rfl ?_
    refine g_ifZ_lt 66 41 dX8_type_38 rfl rfl (by decide) (fun _ => ?_) (fun q => absurd q (by decide))
    refine g_aload_n 67 dX8_type_66 rfl rfl ?_
    refine g_get 70 dX8_type_67 faX8_10_X8 f0 rfl rfl ?_
    refine g_get 73 dX8_type_70 faX8_67_X6 f1 rfl rfl ?_
    refine g_iret rfl dX8_type_73 ?_
    exact k h f t (by omega) (tyb_0 v t f).symm of (Sm.refl _ _) f1 f2
  | succ k ih =>
    intro h f t i hi h0 h2 h3 of f0 f1 f2 kf
    have : i = (k : Int) := by omega
    subst this
    refine g_iload 38 dX8_type_36 rfl rfl ?_
    refine g_ifZ_lt 66 41 dX8_type_38 rfl rfl (by omega) (fun q => absurd q (by omega)) (fun _ => ?_)
    refine g_aload_n 42 dX8_type_41 rfl rfl ?_
    refine g_get 45 dX8_type_42 faX8_10_X8 f0 rfl rfl ?_
    refine g_lload_n 46 dX8_type_45 rfl rfl ?_
    refine g_bipush (v := iZ (8)) 48 dX8_type_46 (by decide +kernel) rfl ?_
    refine g_iload 50 dX8_type_48 rfl rfl ?_
    refine g_imulZ (8 * ((k : Int))) 51 dX8_type_50 (by omega) rfl ?_
    refine g_lushr 52 dX8_type_51 rfl ?_
    refine g_l2i 53 dX8_type_52 rfl ?_
    refine Go.zof ?_
    refine g_sipush (v := iZ (255)) 56 dX8_type_53 (by decide +kernel) rfl ?_
    refine g_and255Z (bt v (k : Int)) 57 dX8_type_56 rfl rfl ?_
    have hbt : 0 ≤ bt v (k : Int) ∧ bt v (k : Int) ≤ 255 := by unfold bt; omega
    refine g_callV (z := mX6_add) (As := [.int (iZ (bt v (k : Int)))]) 60 dX8_type_57 mwX6_add ⟨by decide, by decide⟩ rfl wlX8_70 wiX6_add wsX6_add f1 rfl rfl rfl (nle rfl) (nle rfl) rfl ?_
    refine Go.to [some (.ref 1), some (.int (iZ (bt v (k : Int))))] [] rfl rfl ?_
    refine g_aload_n 1 dX6_add_0 rfl rfl ?_
    refine g_get 4 dX6_add_1 faX6_15_X6 f1 rfl rfl ?_
    refine g_ifZ_lt 37 7 dX6_add_4 rfl rfl (by omega) (fun q => absurd q (by omega)) (fun _ => ?_)
    refine g_aload_n 8 dX6_add_7 rfl rfl ?_
    refine g_get 11 dX6_add_8 faX6_15_X6 f1 rfl rfl ?_
    refine g_sipush (v := iZ (200)) 14 dX6_add_11 (by decide +kernel) rfl ?_
    refine g_icZ_ge 37 17 dX6_add_14 rfl rfl (by omega) (by decide) (fun q => absurd q (by omega)) (fun _ => ?_)
    refine g_aload_n 18 dX6_add_17 rfl rfl ?_
    refine g_get 21 dX6_add_18 faX6_9_X6 f1 rfl rfl ?_
    refine g_aload_n 22 dX6_add_21 rfl rfl ?_
    refine g_get 25 dX6_add_22 faX6_15_X6 f1 rfl rfl ?_
    refine g_iload_n 26 dX6_add_25 rfl rfl ?_
    refine g_iastF 27 dX6_add_26 f2 (by omega) (by omega) (by decide) rfl (fun h1 s2 f3 => ?_)
    refine g_aload_n 28 dX6_add_27 rfl rfl ?_
    refine g_dup 29 dX6_add_28 rfl rfl ?_
    have f4 := (s2.get (by decide) f1)
    refine g_get 32 dX6_add_29 faX6_15_X6 f4 rfl rfl ?_
    refine g_iconst (v := iZ (1)) 33 dX6_add_32 rfl rfl ?_
    refine g_iaddZ (t + 1) 34 dX6_add_33 (by omega) rfl ?_
    refine g_putC (fs1 := [.ref 2, .int (iZ (t + 1))]) 37 dX6_add_34 fpX6_15_X6 f4 (nle rfl) (vI _) rfl rfl (fun h5 s6 f7 => ?_)
    refine g_vret rfl dX6_add_37 ?_
    refine rV ?_
    refine g_iincZ [some (.ref 0), some (.long (v)), none, some (.int (iZ z)), some (.int (iZ ((k : Int) - 1)))] 63 dX8_type_60 rfl (by omega) (by decide) rfl rfl rfl ?_
    refine g_goto 36 dX8_type_63 rfl ?_
    have f8 := (s6.get (by decide) (s2.get (by decide) f0))
    have f9 := (s6.get (by decide) f3)
    refine ih _ _ (t + 1) _ (by omega) (by omega) (by omega) (by omega) (okb_up of _ hbt) f8 f7 f9 (fun h1 g1 r e1 e2 o1 s1 u1 u2 => ?_)
    exact kf h1 g1 r (by omega) (by rw [e2]; exact tyb_s v k t f (by omega) h0) o1 ((((Sm.refl [1, 2] _).tr s2 (fun _ q => q) (by simp)).tr s6 (fun _ q => q) (by simp)).tr s1 (fun _ q => q) (fun _ q => q)) u1 u2
set_option maxRecDepth 100000 in
theorem k_bec {l : Launch} {Q : Option Value → MH → Prop} {t u : Nat} {m : Int} {g : Nat → Int} (htu : u + 1 < t) (hm : 0 ≤ m ∧ m ≤ 200) (og : okb g) : ∀ (m0 : Nat) (h : MH) (i : Int) (f : Nat → Int), (m - i).toNat = m0 → 0 ≤ i → i ≤ m → okb f → (∀ j : Nat, (j : Int) < i → f j = g j) → h[t]? = some (.inr (5, [.ref (t + 1), .int (iZ i)])) → h[t + 1]? = some (.inl (0, 200, .inl (zA f))) → h[u]? = some (.inr (5, [.ref (u + 1), .int (iZ m)])) → h[u + 1]? = some (.inl (0, 200, .inl (zA g))) → (∀ (h1 : MH) (f1 : Nat → Int), okb f1 → (∀ j : Nat, (j : Int) < m → f1 j = g j) → Sm [t, t + 1] h h1 → h1[t]? = some (.inr (5, [.ref (t + 1), .int (iZ m)])) → h1[t + 1]? = some (.inl (0, 200, .inl (zA f1))) → Q none h1) → Go l mX6_become 7 [some (.ref t), some (.ref u), some (.int (iZ i))] [] h Q := by
  intro m0
  induction m0 using Nat.strongRecOn with
  | ind m0 ih =>
    intro h i f hmz hi0 him of hfg F0 F1 F2 F3 k
    refine g_iload_n 8 dX6_become_7 rfl rfl ?_
    refine g_aload_n 9 dX6_become_8 rfl rfl ?_
    refine g_get 12 dX6_become_9 faX6_15_X6 F2 rfl rfl ?_
    refine g_icZ_ge 30 15 dX6_become_12 rfl rfl (by omega) (by omega) (fun c1 => ?_) (fun c1 => ?_)
    · refine g_vret rfl dX6_become_30 ?_
      have : i = m := by omega
      subst this
      exact k h f of hfg (Sm.refl _ _) F0 F1
    · refine g_aload_n 16 dX6_become_15 rfl rfl ?_
      refine g_aload_n 17 dX6_become_16 rfl rfl ?_
      refine g_iload_n 18 dX6_become_17 rfl rfl ?_
      refine g_callV (z := mX6_at) (As := [.int (iZ i)]) 21 dX6_become_18 mwX6_at ⟨by decide, by decide⟩ rfl wlX6_19 wiX6_at wsX6_at F2 rfl rfl rfl (nle rfl) (nle rfl) rfl ?_
      refine Go.to [some (.ref u), some (.int (iZ i))] [] rfl rfl ?_
      refine g_iload_n 1 dX6_at_0 rfl rfl ?_
      refine g_ifZ_lt 19 4 dX6_at_1 rfl rfl (by omega) (fun q => absurd q (by omega)) (fun _ => ?_)
      refine g_iload_n 5 dX6_at_4 rfl rfl ?_
      refine g_aload_n 6 dX6_at_5 rfl rfl ?_
      refine g_get 9 dX6_at_6 faX6_15_X6 F2 rfl rfl ?_
      refine g_icZ_ge 19 12 dX6_at_9 rfl rfl (by omega) (by omega) (fun q => absurd q (by omega)) (fun _ => ?_)
      refine g_iload_n 13 dX6_at_12 rfl rfl ?_
      refine g_sipush (v := iZ (200)) 16 dX6_at_13 (by decide +kernel) rfl ?_
      refine g_icZ_lt 23 19 dX6_at_16 rfl rfl (by omega) (by decide) (fun _ => ?_) (fun q => absurd q (by omega))
      refine g_aload_n 24 dX6_at_23 rfl rfl ?_
      refine g_get 27 dX6_at_24 faX6_9_X6 F2 rfl rfl ?_
      refine g_iload_n 28 dX6_at_27 rfl rfl ?_
      refine g_ialdZ (v := iZ (g i.toNat)) 29 dX6_at_28 F3 (by omega) (by omega) (by decide) rfl rfl ?_
      refine g_iret rfl dX6_at_29 ?_
      refine rI ?_
      refine g_callV (z := mX6_add) (As := [.int (iZ (g i.toNat))]) 24 dX6_become_21 mwX6_add ⟨by decide, by decide⟩ rfl wlX6_23 wiX6_add wsX6_add F0 rfl rfl rfl (nle rfl) (nle rfl) rfl ?_
      refine Go.to [some (.ref t), some (.int (iZ (g i.toNat)))] [] rfl rfl ?_
      refine g_aload_n 1 dX6_add_0 rfl rfl ?_
      refine g_get 4 dX6_add_1 faX6_15_X6 F0 rfl rfl ?_
      refine g_ifZ_lt 37 7 dX6_add_4 rfl rfl (by omega) (fun q => absurd q (by omega)) (fun _ => ?_)
      refine g_aload_n 8 dX6_add_7 rfl rfl ?_
      refine g_get 11 dX6_add_8 faX6_15_X6 F0 rfl rfl ?_
      refine g_sipush (v := iZ (200)) 14 dX6_add_11 (by decide +kernel) rfl ?_
      refine g_icZ_ge 37 17 dX6_add_14 rfl rfl (by omega) (by decide) (fun q => absurd q (by omega)) (fun _ => ?_)
      refine g_aload_n 18 dX6_add_17 rfl rfl ?_
      refine g_get 21 dX6_add_18 faX6_9_X6 F0 rfl rfl ?_
      refine g_aload_n 22 dX6_add_21 rfl rfl ?_
      refine g_get 25 dX6_add_22 faX6_15_X6 F0 rfl rfl ?_
      refine g_iload_n 26 dX6_add_25 rfl rfl ?_
      refine g_iastF 27 dX6_add_26 F1 (by omega) (by omega) (by decide) rfl (fun h2 s3 f4 => ?_)
      refine g_aload_n 28 dX6_add_27 rfl rfl ?_
      refine g_dup 29 dX6_add_28 rfl rfl ?_
      have f5 := (s3.get (by simp <;> omega) F0)
      refine g_get 32 dX6_add_29 faX6_15_X6 f5 rfl rfl ?_
      refine g_iconst (v := iZ (1)) 33 dX6_add_32 rfl rfl ?_
      refine g_iaddZ (i + 1) 34 dX6_add_33 (by omega) rfl ?_
      refine g_putC (fs1 := [.ref (t + 1), .int (iZ (i + 1))]) 37 dX6_add_34 fpX6_15_X6 f5 (nle rfl) (vI _) rfl rfl (fun h6 s7 f8 => ?_)
      refine g_vret rfl dX6_add_37 ?_
      refine rV ?_
      refine g_iincZ [some (.ref t), some (.ref u), some (.int (iZ (i + 1)))] 27 dX6_become_24 rfl (by omega) (by decide) rfl rfl rfl ?_
      refine g_goto 7 dX6_become_27 rfl ?_
      have f9 := (s7.get (by simp <;> omega) f4)
      have f10 := (s7.get (by simp <;> omega) (s3.get (by simp <;> omega) F2))
      have f11 := (s7.get (by simp <;> omega) (s3.get (by simp <;> omega) F3))
      refine ih _ (by omega) _ (i + 1) _ rfl (by omega) (by omega) (okb_up of _ (og _)) ?_ f8 f9 f10 f11 (fun h1 f1 o1 e1 s1 u0 u1 => k h1 f1 o1 e1 ((((Sm.refl [t, t + 1] _).tr s3 (fun _ q => q) (by simp)).tr s7 (fun _ q => q) (by simp)).tr s1 (fun _ q => q) (fun _ q => q)) u0 u1)
      intro j hj
      unfold va_up
      split
      · next hh => subst hh; rfl
      · exact hfg j (by omega)

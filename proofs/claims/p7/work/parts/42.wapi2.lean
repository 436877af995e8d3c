set_option maxRecDepth 100000 in
theorem w_need_l {l : Launch} {Q : Option Value → MH → Prop} {tc : Nat} {tr : Int64} {en a b w : Int} {eu : Nat → Int} (oeu : okr eu) (ren : rg en) (ra : rg a) (rb : rg b) (rw : rg w) (htc : tc ≤ 12) : ∀ (m0 : Nat) (h : MH) (ek el : Nat → Int) (wd bs j : Int), (16 - j).toNat = m0 → okr ek → okr el → h[0]? = some (.inr (7, [.ref 1, .ref 3, .ref 4, .int (iZ ((tc : Int))), .ref 5, .ref 9, .ref 15, .ref 20, .ref 25, .ref 30, .long (tr)])) → h[30]? = some (.inr (1, [.ref 31, .ref 32, .ref 33, .int (iZ en)])) → h[31]? = some (.inl (0, 12, .inl (zA eu))) → h[32]? = some (.inl (0, 12, .inl (zA ek))) → h[33]? = some (.inl (0, 12, .inl (zA el))) → rg wd → rg bs → 0 ≤ j ∧ j ≤ 16 → (∀ (h1 : MH) (ek_1 el_1 : Nat → Int) (r : Int), okr ek_1 → okr el_1 → rg r → Sm [32, 33] h h1 → h1[32]? = some (.inl (0, 12, .inl (zA ek_1))) → h1[33]? = some (.inl (0, 12, .inl (zA el_1))) → Q (some (.int (iZ r))) h1) → Go l mX8_needed 52 [some (.ref 0), some (.int (iZ a)), some (.int (iZ b)), some (.int (iZ w)), some (.int (iZ wd)), some (.int (iZ bs)), some (.int (iZ j)), none] [] h Q := by
  intro m0
  induction m0 using Nat.strongRecOn with
  | ind m0 ih =>
    intro h ek el wd bs j hmz oek oel F0 F1 F2 F3 F4 rwd rbs hj k
    refine g_iload 54 dX8_needed_52 rfl rfl ?_
    refine g_bipush (v := iZ (16)) 56 dX8_needed_54 (by decide +kernel) rfl ?_
    refine g_icZ_ge 109 59 dX8_needed_56 rfl rfl (by omega) (by decide) (fun c1 => ?_) (fun c1 => ?_)
    · refine g_iload 111 dX8_needed_109 rfl rfl ?_
      refine g_bipush (v := iZ (-9)) 113 dX8_needed_111 (by decide +kernel) rfl ?_
      refine g_icZ_eq 120 116 dX8_needed_113 rfl rfl rwd (by decide) (fun c2 => ?_) (fun c2 => ?_)
      · refine g_iload 122 dX8_needed_120 rfl rfl ?_
        refine g_goto 127 dX8_needed_122 rfl ?_
        refine g_iret rfl dX8_needed_127 ?_
        exact k _ (ek) (el) (wd) oek oel rwd (Sm.refl [32, 33] _) F3 F4
      · refine g_iload_n 117 dX8_needed_116 rfl rfl ?_
        refine g_ifZ_ne 125 120 dX8_needed_117 rfl rfl rw (fun c3 => ?_) (fun c3 => ?_)
        · refine g_iload 127 dX8_needed_125 rfl rfl ?_
          refine g_iret rfl dX8_needed_127 ?_
          exact k _ (ek) (el) (bs) oek oel rbs (Sm.refl [32, 33] _) F3 F4
        · refine g_iload 122 dX8_needed_120 rfl rfl ?_
          refine g_goto 127 dX8_needed_122 rfl ?_
          refine g_iret rfl dX8_needed_127 ?_
          exact k _ (ek) (el) (wd) oek oel rwd (Sm.refl [32, 33] _) F3 F4
    · refine g_aload_n 60 dX8_needed_59 rfl rfl ?_
      refine g_get 63 dX8_needed_60 faX8_59_X8 F0 rfl rfl ?_
      refine g_iload_n 64 dX8_needed_63 rfl rfl ?_
      refine g_iload_n 65 dX8_needed_64 rfl rfl ?_
      refine g_iconst (v := iZ (1)) 66 dX8_needed_65 rfl rfl ?_
      refine g_iload 68 dX8_needed_66 rfl rfl ?_
      refine g_ishl 69 dX8_needed_68 rfl ?_
      refine Go.genZ (fun z4 rz4 => ?_)
      refine g_callV (z := mX1_fewest) (As := [.int (iZ a), .int (iZ b), .int (iZ z4)]) 72 dX8_needed_69 mwX1_fewest ⟨by decide, by decide⟩ rfl wlX8_193 wiX1_fewest wsX1_fewest F1 rfl rfl rfl (nle rfl) (nle rfl) rfl ?_
      refine w_few  F1 F2 F3 F4 oeu oek oel ren ra rb rz4 (fun h5 g7 g8 z9 og7 og8 rz9 s6 f10 f11 => ?_)
      refine rI ?_
      refine g_istore (L1 := [some (.ref 0), some (.int (iZ a)), some (.int (iZ b)), some (.int (iZ w)), some (.int (iZ wd)), some (.int (iZ bs)), some (.int (iZ j)), some (.int (iZ z9))]) 74 dX8_needed_72 (by decide) rfl rfl rfl ?_
      refine g_iload 76 dX8_needed_74 rfl rfl ?_
      refine g_bipush (v := iZ (-9)) 78 dX8_needed_76 (by decide +kernel) rfl ?_
      refine g_icZ_eq 103 81 dX8_needed_78 rfl rfl rz9 (by decide) (fun c12 => ?_) (fun c12 => ?_)
      · refine g_iincZ [some (.ref 0), some (.int (iZ a)), some (.int (iZ b)), some (.int (iZ w)), some (.int (iZ wd)), some (.int (iZ bs)), some (.int (iZ (j + 1))), some (.int (iZ z9))] 106 dX8_needed_103 rfl (by omega) (by decide) rfl rfl rfl ?_
        refine g_goto 52 dX8_needed_106 rfl ?_
        refine Go.fgt 7 ?_
        have f13 := (s6.get (by decide) F0)
        have f14 := (s6.get (by decide) F1)
        have f15 := (s6.get (by decide) F2)
        exact ih _ (by omega) _ (g7) (g8) (wd) (bs) (j + 1) rfl og7 og8 f13 f14 f15 f10 f11 rwd rbs (by omega) (fun hQ xQ0 xQ1 rQ yQ0 yQ1 yQ2 sQ uQ0 uQ1 => k hQ xQ0 xQ1 rQ yQ0 yQ1 yQ2 (((Sm.refl [32, 33] _).tr s6 (fun _ q => q) (by simp)).tr sQ (fun _ q => q) (fun _ q => q)) uQ0 uQ1)
      · refine g_iload 83 dX8_needed_81 rfl rfl ?_
        refine g_bipush (v := iZ (-9)) 85 dX8_needed_83 (by decide +kernel) rfl ?_
        refine g_icZ_eq 95 88 dX8_needed_85 rfl rfl rbs (by decide) (fun c16 => ?_) (fun c16 => ?_)
        · refine g_iload 97 dX8_needed_95 rfl rfl ?_
          refine g_istore (L1 := [some (.ref 0), some (.int (iZ a)), some (.int (iZ b)), some (.int (iZ w)), some (.int (iZ wd)), some (.int (iZ z9)), some (.int (iZ j)), some (.int (iZ z9))]) 99 dX8_needed_97 (by decide) rfl rfl rfl ?_
          refine g_iload 101 dX8_needed_99 rfl rfl ?_
          refine g_istore (L1 := [some (.ref 0), some (.int (iZ a)), some (.int (iZ b)), some (.int (iZ w)), some (.int (iZ j)), some (.int (iZ z9)), some (.int (iZ j)), some (.int (iZ z9))]) 103 dX8_needed_101 (by decide) rfl rfl rfl ?_
          refine g_iincZ [some (.ref 0), some (.int (iZ a)), some (.int (iZ b)), some (.int (iZ w)), some (.int (iZ j)), some (.int (iZ z9)), some (.int (iZ (j + 1))), some (.int (iZ z9))] 106 dX8_needed_103 rfl (by omega) (by decide) rfl rfl rfl ?_
          refine g_goto 52 dX8_needed_106 rfl ?_
          refine Go.fgt 7 ?_
          have f17 := (s6.get (by decide) F0)
          have f18 := (s6.get (by decide) F1)
          have f19 := (s6.get (by decide) F2)
          exact ih _ (by omega) _ (g7) (g8) (j) (z9) (j + 1) rfl og7 og8 f17 f18 f19 f10 f11 (by omega) rz9 (by omega) (fun hQ xQ0 xQ1 rQ yQ0 yQ1 yQ2 sQ uQ0 uQ1 => k hQ xQ0 xQ1 rQ yQ0 yQ1 yQ2 (((Sm.refl [32, 33] _).tr s6 (fun _ q => q) (by simp)).tr sQ (fun _ q => q) (fun _ q => q)) uQ0 uQ1)
        · refine g_iload 90 dX8_needed_88 rfl rfl ?_
          refine g_iload 92 dX8_needed_90 rfl rfl ?_
          refine g_icZ_ge 103 95 dX8_needed_92 rfl rfl rz9 rbs (fun c20 => ?_) (fun c20 => ?_)
          · refine g_iincZ [some (.ref 0), some (.int (iZ a)), some (.int (iZ b)), some (.int (iZ w)), some (.int (iZ wd)), some (.int (iZ bs)), some (.int (iZ (j + 1))), some (.int (iZ z9))] 106 dX8_needed_103 rfl (by omega) (by decide) rfl rfl rfl ?_
            refine g_goto 52 dX8_needed_106 rfl ?_
            refine Go.fgt 7 ?_
            have f21 := (s6.get (by decide) F0)
            have f22 := (s6.get (by decide) F1)
            have f23 := (s6.get (by decide) F2)
            exact ih _ (by omega) _ (g7) (g8) (wd) (bs) (j + 1) rfl og7 og8 f21 f22 f23 f10 f11 rwd rbs (by omega) (fun hQ xQ0 xQ1 rQ yQ0 yQ1 yQ2 sQ uQ0 uQ1 => k hQ xQ0 xQ1 rQ yQ0 yQ1 yQ2 (((Sm.refl [32, 33] _).tr s6 (fun _ q => q) (by simp)).tr sQ (fun _ q => q) (fun _ q => q)) uQ0 uQ1)
          · refine g_iload 97 dX8_needed_95 rfl rfl ?_
            refine g_istore (L1 := [some (.ref 0), some (.int (iZ a)), some (.int (iZ b)), some (.int (iZ w)), some (.int (iZ wd)), some (.int (iZ z9)), some (.int (iZ j)), some (.int (iZ z9))]) 99 dX8_needed_97 (by decide) rfl rfl rfl ?_
            refine g_iload 101 dX8_needed_99 rfl rfl ?_
            refine g_istore (L1 := [some (.ref 0), some (.int (iZ a)), some (.int (iZ b)), some (.int (iZ w)), some (.int (iZ j)), some (.int (iZ z9)), some (.int (iZ j)), some (.int (iZ z9))]) 103 dX8_needed_101 (by decide) rfl rfl rfl ?_
            refine g_iincZ [some (.ref 0), some (.int (iZ a)), some (.int (iZ b)), some (.int (iZ w)), some (.int (iZ j)), some (.int (iZ z9)), some (.int (iZ (j + 1))), some (.int (iZ z9))] 106 dX8_needed_103 rfl (by omega) (by decide) rfl rfl rfl ?_
            refine g_goto 52 dX8_needed_106 rfl ?_
            refine Go.fgt 7 ?_
            have f24 := (s6.get (by decide) F0)
            have f25 := (s6.get (by decide) F1)
            have f26 := (s6.get (by decide) F2)
            exact ih _ (by omega) _ (g7) (g8) (j) (z9) (j + 1) rfl og7 og8 f24 f25 f26 f10 f11 (by omega) rz9 (by omega) (fun hQ xQ0 xQ1 rQ yQ0 yQ1 yQ2 sQ uQ0 uQ1 => k hQ xQ0 xQ1 rQ yQ0 yQ1 yQ2 (((Sm.refl [32, 33] _).tr s6 (fun _ q => q) (by simp)).tr sQ (fun _ q => q) (fun _ q => q)) uQ0 uQ1)
set_option maxRecDepth 100000 in
theorem w_need {l : Launch} {h : MH} {Q : Option Value → MH → Prop} {tc : Nat} {tr : Int64} {en a b w : Int} {eu ek el : Nat → Int} (F0 : h[0]? = some (.inr (7, [.ref 1, .ref 3, .ref 4, .int (iZ ((tc : Int))), .ref 5, .ref 9, .ref 15, .ref 20, .ref 25, .ref 30, .long (tr)]))) (F1 : h[30]? = some (.inr (1, [.ref 31, .ref 32, .ref 33, .int (iZ en)]))) (F2 : h[31]? = some (.inl (0, 12, .inl (zA eu)))) (F3 : h[32]? = some (.inl (0, 12, .inl (zA ek)))) (F4 : h[33]? = some (.inl (0, 12, .inl (zA el)))) (oeu : okr eu) (oek : okr ek) (oel : okr el) (ren : rg en) (ra : rg a) (rb : rg b) (rw : rg w) (htc : tc ≤ 12) (k : ∀ (h1 : MH) (ek_1 el_1 : Nat → Int) (r : Int), okr ek_1 → okr el_1 → rg r → Sm [32, 33] h h1 → h1[32]? = some (.inl (0, 12, .inl (zA ek_1))) → h1[33]? = some (.inl (0, 12, .inl (zA el_1))) → Q (some (.int (iZ r))) h1) : Go l mX8_needed 0 [some (.ref 0), some (.int (iZ a)), some (.int (iZ b)), some (.int (iZ w)), none, none, none, none] [] h Q := by
  refine g_aload_n 1 dX8_needed_0 rfl rfl ?_
  refine g_get 4 dX8_needed_1 faX8_59_X8 F0 rfl rfl ?_
  refine g_iload_n 5 dX8_needed_4 rfl rfl ?_
  refine g_callV (z := mX1_has) (As := [.int (iZ a)]) 8 dX8_needed_5 mwX1_has ⟨by decide, by decide⟩ rfl wlX8_189 wiX1_has wsX1_has F1 rfl rfl rfl (nle rfl) (nle rfl) rfl ?_
  refine Go.to [some (.ref 30), some (.int (iZ a))] [] rfl rfl ?_
  refine g_iload_n 1 dX1_has_0 rfl rfl ?_
  refine g_ifZ_lt 22 4 dX1_has_1 rfl rfl ra (fun c1 => ?_) (fun c1 => ?_)
  · refine g_iconst (v := iZ (0)) 23 dX1_has_22 rfl rfl ?_
    refine g_zret rfl z01_0 dX1_has_23 ?_
    refine rI ?_
    refine g_ifZ_eq 31 11 dX8_needed_8 rfl rfl (by decide) (fun _ => ?_) (fun q => absurd q (by decide))
    refine g_iconst (v := iZ (-1)) 32 dX8_needed_31 rfl rfl ?_
    refine g_iret rfl dX8_needed_32 ?_
    exact k _ (ek) (el) (-1) oek oel (by decide) (Sm.refl [32, 33] _) F3 F4
  · refine g_iload_n 5 dX1_has_4 rfl rfl ?_
    refine g_aload_n 6 dX1_has_5 rfl rfl ?_
    refine g_get 9 dX1_has_6 faX1_21_X1 F1 rfl rfl ?_
    refine g_icZ_ge 22 12 dX1_has_9 rfl rfl ra ren (fun c2 => ?_) (fun c2 => ?_)
    · refine g_iconst (v := iZ (0)) 23 dX1_has_22 rfl rfl ?_
      refine g_zret rfl z01_0 dX1_has_23 ?_
      refine rI ?_
      refine g_ifZ_eq 31 11 dX8_needed_8 rfl rfl (by decide) (fun _ => ?_) (fun q => absurd q (by decide))
      refine g_iconst (v := iZ (-1)) 32 dX8_needed_31 rfl rfl ?_
      refine g_iret rfl dX8_needed_32 ?_
      exact k _ (ek) (el) (-1) oek oel (by decide) (Sm.refl [32, 33] _) F3 F4
    · refine g_iload_n 13 dX1_has_12 rfl rfl ?_
      refine g_bipush (v := iZ (12)) 15 dX1_has_13 (by decide +kernel) rfl ?_
      refine g_icZ_ge 22 18 dX1_has_15 rfl rfl ra (by decide) (fun c3 => ?_) (fun c3 => ?_)
      · refine g_iconst (v := iZ (0)) 23 dX1_has_22 rfl rfl ?_
        refine g_zret rfl z01_0 dX1_has_23 ?_
        refine rI ?_
        refine g_ifZ_eq 31 11 dX8_needed_8 rfl rfl (by decide) (fun _ => ?_) (fun q => absurd q (by decide))
        refine g_iconst (v := iZ (-1)) 32 dX8_needed_31 rfl rfl ?_
        refine g_iret rfl dX8_needed_32 ?_
        exact k _ (ek) (el) (-1) oek oel (by decide) (Sm.refl [32, 33] _) F3 F4
      · refine g_iconst (v := iZ (1)) 19 dX1_has_18 rfl rfl ?_
        refine g_goto 23 dX1_has_19 rfl ?_
        refine g_zret rfl z01_1 dX1_has_23 ?_
        refine rI ?_
        refine g_ifZ_eq 31 11 dX8_needed_8 rfl rfl (by decide) (fun q => absurd q (by decide)) (fun _ => ?_)
        refine g_aload_n 12 dX8_needed_11 rfl rfl ?_
        refine g_get 15 dX8_needed_12 faX8_59_X8 F0 rfl rfl ?_
        refine g_iload_n 16 dX8_needed_15 rfl rfl ?_
        refine g_callV (z := mX1_has) (As := [.int (iZ b)]) 19 dX8_needed_16 mwX1_has ⟨by decide, by decide⟩ rfl wlX8_189 wiX1_has wsX1_has F1 rfl rfl rfl (nle rfl) (nle rfl) rfl ?_
        refine Go.to [some (.ref 30), some (.int (iZ b))] [] rfl rfl ?_
        refine g_iload_n 1 dX1_has_0 rfl rfl ?_
        refine g_ifZ_lt 22 4 dX1_has_1 rfl rfl rb (fun c4 => ?_) (fun c4 => ?_)
        · refine g_iconst (v := iZ (0)) 23 dX1_has_22 rfl rfl ?_
          refine g_zret rfl z01_0 dX1_has_23 ?_
          refine rI ?_
          refine g_ifZ_eq 31 22 dX8_needed_19 rfl rfl (by decide) (fun _ => ?_) (fun q => absurd q (by decide))
          refine g_iconst (v := iZ (-1)) 32 dX8_needed_31 rfl rfl ?_
          refine g_iret rfl dX8_needed_32 ?_
          exact k _ (ek) (el) (-1) oek oel (by decide) (Sm.refl [32, 33] _) F3 F4
        · refine g_iload_n 5 dX1_has_4 rfl rfl ?_
          refine g_aload_n 6 dX1_has_5 rfl rfl ?_
          refine g_get 9 dX1_has_6 faX1_21_X1 F1 rfl rfl ?_
          refine g_icZ_ge 22 12 dX1_has_9 rfl rfl rb ren (fun c5 => ?_) (fun c5 => ?_)
          · refine g_iconst (v := iZ (0)) 23 dX1_has_22 rfl rfl ?_
            refine g_zret rfl z01_0 dX1_has_23 ?_
            refine rI ?_
            refine g_ifZ_eq 31 22 dX8_needed_19 rfl rfl (by decide) (fun _ => ?_) (fun q => absurd q (by decide))
            refine g_iconst (v := iZ (-1)) 32 dX8_needed_31 rfl rfl ?_
            refine g_iret rfl dX8_needed_32 ?_
            exact k _ (ek) (el) (-1) oek oel (by decide) (Sm.refl [32, 33] _) F3 F4
          · refine g_iload_n 13 dX1_has_12 rfl rfl ?_
            refine g_bipush (v := iZ (12)) 15 dX1_has_13 (by decide +kernel) rfl ?_
            refine g_icZ_ge 22 18 dX1_has_15 rfl rfl rb (by decide) (fun c6 => ?_) (fun c6 => ?_)
            · refine g_iconst (v := iZ (0)) 23 dX1_has_22 rfl rfl ?_
              refine g_zret rfl z01_0 dX1_has_23 ?_
              refine rI ?_
              refine g_ifZ_eq 31 22 dX8_needed_19 rfl rfl (by decide) (fun _ => ?_) (fun q => absurd q (by decide))
              refine g_iconst (v := iZ (-1)) 32 dX8_needed_31 rfl rfl ?_
              refine g_iret rfl dX8_needed_32 ?_
              exact k _ (ek) (el) (-1) oek oel (by decide) (Sm.refl [32, 33] _) F3 F4
            · refine g_iconst (v := iZ (1)) 19 dX1_has_18 rfl rfl ?_
              refine g_goto 23 dX1_has_19 rfl ?_
              refine g_zret rfl z01_1 dX1_has_23 ?_
              refine rI ?_
              refine g_ifZ_eq 31 22 dX8_needed_19 rfl rfl (by decide) (fun q => absurd q (by decide)) (fun _ => ?_)
              refine g_iload_n 23 dX8_needed_22 rfl rfl ?_
              refine g_ifZ_lt 31 26 dX8_needed_23 rfl rfl rw (fun c7 => ?_) (fun c7 => ?_)
              · refine g_iconst (v := iZ (-1)) 32 dX8_needed_31 rfl rfl ?_
                refine g_iret rfl dX8_needed_32 ?_
                exact k _ (ek) (el) (-1) oek oel (by decide) (Sm.refl [32, 33] _) F3 F4
              · refine g_iload_n 27 dX8_needed_26 rfl rfl ?_
                refine g_iconst (v := iZ (1)) 28 dX8_needed_27 rfl rfl ?_
                refine g_icZ_le 33 31 dX8_needed_28 rfl rfl rw (by decide) (fun c8 => ?_) (fun c8 => ?_)
                · refine g_bipush (v := iZ (-9)) 35 dX8_needed_33 (by decide +kernel) rfl ?_
                  refine g_istore (L1 := [some (.ref 0), some (.int (iZ a)), some (.int (iZ b)), some (.int (iZ w)), some (.int (iZ (-9))), none, none, none]) 37 dX8_needed_35 (by decide) rfl rfl rfl ?_
                  refine g_aload_n 38 dX8_needed_37 rfl rfl ?_
                  refine g_get 41 dX8_needed_38 faX8_59_X8 F0 rfl rfl ?_
                  refine g_iload_n 42 dX8_needed_41 rfl rfl ?_
                  refine g_iload_n 43 dX8_needed_42 rfl rfl ?_
                  refine g_iconst (v := iZ (0)) 44 dX8_needed_43 rfl rfl ?_
                  refine g_callV (z := mX1_fewest) (As := [.int (iZ a), .int (iZ b), .int (iZ 0)]) 47 dX8_needed_44 mwX1_fewest ⟨by decide, by decide⟩ rfl wlX8_193 wiX1_fewest wsX1_fewest F1 rfl rfl rfl (nle rfl) (nle rfl) rfl ?_
                  refine w_few  F1 F2 F3 F4 oeu oek oel ren ra rb (by decide) (fun h9 g11 g12 z13 og11 og12 rz13 s10 f14 f15 => ?_)
                  refine rI ?_
                  refine g_istore (L1 := [some (.ref 0), some (.int (iZ a)), some (.int (iZ b)), some (.int (iZ w)), some (.int (iZ (-9))), some (.int (iZ z13)), none, none]) 49 dX8_needed_47 (by decide) rfl rfl rfl ?_
                  refine g_iconst (v := iZ (0)) 50 dX8_needed_49 rfl rfl ?_
                  refine g_istore (L1 := [some (.ref 0), some (.int (iZ a)), some (.int (iZ b)), some (.int (iZ w)), some (.int (iZ (-9))), some (.int (iZ z13)), some (.int (iZ 0)), none]) 52 dX8_needed_50 (by decide) rfl rfl rfl ?_
                  have f16 := (s10.get (by decide) F0)
                  have f17 := (s10.get (by decide) F1)
                  have f18 := (s10.get (by decide) F2)
                  exact w_need_l oeu ren ra rb rw htc _ _ (g11) (g12) (-9) (z13) (0) rfl og11 og12 f16 f17 f18 f14 f15 (by decide) rz13 (by omega) (fun hQ xQ0 xQ1 rQ yQ0 yQ1 yQ2 sQ uQ0 uQ1 => k hQ xQ0 xQ1 rQ yQ0 yQ1 yQ2 (((Sm.refl [32, 33] _).tr s10 (fun _ q => q) (by simp)).tr sQ (fun _ q => q) (fun _ q => q)) uQ0 uQ1)
                · refine g_iconst (v := iZ (-1)) 32 dX8_needed_31 rfl rfl ?_
                  refine g_iret rfl dX8_needed_32 ?_
                  exact k _ (ek) (el) (-1) oek oel (by decide) (Sm.refl [32, 33] _) F3 F4
theorem a8_needed {l : Launch} {h : MH} {Q : Option Value → MH → Prop} {tn : Int} {tf : Nat → Int} {xn : Nat → Int} {xf : Nat → Nat → Int} {en : Int} {tc : Nat} {a b w : Int} (H : IX h tn tf xn xf en tc) (ra : rg a) (rb : rg b) (rw : rg w) (k : ∀ (h1 : MH) (tc1 : Nat) (r : Int), rg r → IX h1 tn tf xn xf en tc1 → Mo h h1 → Q (some (.int (iZ r))) h1) : Go l mX8_needed 0 [some (.ref 0), some (.int (iZ a)), some (.int (iZ b)), some (.int (iZ w)), none, none, none, none] [] h Q := by
  obtain ⟨HC, HS, HY, HE, hlen, hmz⟩ := id H
  obtain ⟨⟨tr, F0⟩, F3, F4, htc, HT, HL⟩ := id HC
  obtain ⟨eu, ek, el, oeu, oek, oel, e1, e2, E0, E1, E2, E3⟩ := id HE
  refine w_need F0 E0 E1 E2 E3 oeu oek oel ⟨by omega, by omega⟩ ra rb rw htc (fun h1 ek1 el1 r o1 o2 rr s f2 f3 => ?_)
  have zz := H.ed (en1 := en) s (by decide) ⟨eu, ek1, el1, oeu, o1, o2, e1, e2, s.get (by decide) E0, s.get (by decide) E1, f2, f3⟩
  exact k _ tc r rr zz.1 zz.2
/-- byte i of v, as the class takes it -/
def bt (v : Int64) (i : Int) : Int := ((v.toUInt64 >>> ((iZ (8 * i)).toInt64.toUInt64 &&& Int64.toUInt64 63)).toInt64.toInt32).toInt % 256
/-- n bytes of v behind place t of f -/
def tyb (v : Int64) (n t : Int) (f : Nat → Int) : Nat → Int := fun j => if t ≤ j ∧ j < t + n then bt v (t + n - 1 - j) else f j
theorem tyb_0 (v : Int64) (t : Int) (f : Nat → Int) : tyb v 0 t f = f := by
  funext j
  unfold tyb
  rw [if_neg (by omega)]
theorem tyb_s (v : Int64) (k t : Int) (f : Nat → Int) (hk : 0 ≤ k) (ht : 0 ≤ t) : tyb v k (t + 1) (va_up f t.toNat (bt v k)) = tyb v (k + 1) t f := by
  funext j
  unfold tyb va_up
  by_cases h1 : t + 1 ≤ (j : Int) ∧ (j : Int) < t + 1 + k
  · rw [if_pos h1, if_pos (by omega)]
    congr 1
    omega
  · rw [if_neg h1]
    by_cases h2 : j = t.toNat
    · rw [if_pos h2, if_pos (by omega)]
      congr 1
      omega
    · rw [if_neg h2, if_neg (by omega)]
theorem okb_up {f : Nat → Int} (h : okb f) (i : Nat) {v : Int} (hv : 0 ≤ v ∧ v ≤ 255) : okb (va_up f i v) := by
  intro j
  unfold va_up
  split
  · exact hv
  · exact h j
theorem lp8_ty {l : Launch} {Q : Option Value → MH → Prop} (v : Int64) (z : Int) {tc : Nat} {tr : Int64} : ∀ (k : Nat) (h : MH) (f : Nat → Int) (t i : Int), i = k - 1 → 0 ≤ t → t + k ≤ 200 → k ≤ 8 → okb f → h[0]? = some (.inr (7, [.ref 1, .ref 3, .ref 4, .int (iZ ((tc : Int))), .ref 5, .ref 9, .ref 15, .ref 20, .ref 25, .ref 30, .long (tr)])) → h[1]? = some (.inr (5, [.ref 2, .int (iZ t)])) → h[2]? = some (.inl (0, 200, .inl (zA f))) → (∀ (h1 : MH) (f1 : Nat → Int) (r : Int), r = t + k → f1 = tyb v k t f → okb f1 → Sm [1, 2] h h1 → h1[1]? = some (.inr (5, [.ref 2, .int (iZ r)])) → h1[2]? = some (.inl (0, 200, .inl (zA f1))) → Q (some (.int (iZ r))) h1) → Go l mX8_type 36 [some (.ref 0), some (.long (v)), none, some (.int (iZ z)), some (.int (iZ i))] [] h Q := by
  intro k
  induction k with
  | zero =>
    intro h f t i hi h0 h2 h3 of f0 f1 f2 k
    have : i = -1 := by omega
    subst this
    refine g_iload 38 dX8_type_36 rfl rfl ?_
    refine g_ifZ_lt 66 41 dX8_type_38 rfl rfl (by decide) (fun _ => ?_) (fun q => absurd q (by decide))
    refine g_aload_n 67 dX8_type_66 rfl rfl ?_
    refine g_get 70 dX8_type_67 faX8_10_X8 f0 rfl rfl ?_
    refine g_get 73 dX8_type_70 faX8_67_X6 f1 rfl rfl ?_
    refine g_iret rfl dX8_type_73 ?_
    exact k h f t (by omega) (tyb_0 v t f).symm of (Sm.refl _ _) f1 f2
  | succ k ih =>
    intro h f t i hi h0 h2 h3 of f0 f1 f2 kf
    have : i = (k : Int) := by omega
    subst this
    refine g_iload 38 dX8_type_36 rfl rfl ?_
    refine g_ifZ_lt 66 41 dX8_type_38 rfl rfl (by omega) (fun q => absurd q (by omega)) (fun _ => ?_)
    refine g_aload_n 42 dX8_type_41 rfl rfl ?_
    refine g_get 45 dX8_type_42 faX8_10_X8 f0 rfl rfl ?_
    refine g_lload_n 46 dX8_type_45 rfl rfl ?_
    refine g_bipush (v := iZ (8)) 48 dX8_type_46 (by decide +kernel) rfl ?_
    refine g_iload 50 dX8_type_48 rfl rfl ?_
    refine g_imulZ (8 * ((k : Int))) 51 dX8_type_50 (by omega) rfl ?_
    refine g_lushr 52 dX8_type_51 rfl ?_
    refine g_l2i 53 dX8_type_52 rfl ?_
    refine Go.zof ?_
    refine g_sipush (v := iZ (255)) 56 dX8_type_53 (by decide +kernel) rfl ?_
    refine g_and255Z (bt v (k : Int)) 57 dX8_type_56 rfl rfl ?_
    have hbt : 0 ≤ bt v (k : Int) ∧ bt v (k : Int) ≤ 255 := by unfold bt; omega
    refine g_callV (z := mX6_add) (As := [.int (iZ (bt v (k : Int)))]) 60 dX8_type_57 mwX6_add ⟨by decide, by decide⟩ rfl wlX8_70 wiX6_add wsX6_add f1 rfl rfl rfl (nle rfl) (nle rfl) rfl ?_
    refine Go.to [some (.ref 1), some (.int (iZ (bt v (k : Int))))] [] rfl rfl ?_
    refine g_aload_n 1 dX6_add_0 rfl rfl ?_
    refine g_get 4 dX6_add_1 faX6_15_X6 f1 rfl rfl ?_
    refine g_ifZ_lt 37 7 dX6_add_4 rfl rfl (by omega) (fun q => absurd q (by omega)) (fun _ => ?_)
    refine g_aload_n 8 dX6_add_7 rfl rfl ?_
    refine g_get 11 dX6_add_8 faX6_15_X6 f1 rfl rfl ?_
    refine g_sipush (v := iZ (200)) 14 dX6_add_11 (by decide +kernel) rfl ?_
    refine g_icZ_ge 37 17 dX6_add_14 rfl rfl (by omega) (by decide) (fun q => absurd q (by omega)) (fun _ => ?_)
    refine g_aload_n 18 dX6_add_17 rfl rfl ?_
    refine g_get 21 dX6_add_18 faX6_9_X6 f1 rfl rfl ?_
    refine g_aload_n 22 dX6_add_21 rfl rfl ?_
    refine g_get 25 dX6_add_22 faX6_15_X6 f1 rfl rfl ?_
    refine g_iload_n 26 dX6_add_25 rfl rfl ?_
    refine g_iastF 27 dX6_add_26 f2 (by omega) (by omega) (by decide) rfl (fun h1 s2 f3 => ?_)
    refine g_aload_n 28 dX6_add_27 rfl rfl ?_
    refine g_dup 29 dX6_add_28 rfl rfl ?_
    have f4 := (s2.get (by decide) f1)
    refine g_get 32 dX6_add_29 faX6_15_X6 f4 rfl rfl ?_
    refine g_iconst (v := iZ (1)) 33 dX6_add_32 rfl rfl ?_
    refine g_iaddZ (t + 1) 34 dX6_add_33 (by omega) rfl ?_
    refine g_putC (fs1 := [.ref 2, .int (iZ (t + 1))]) 37 dX6_add_34 fpX6_15_X6 f4 (nle rfl) (vI _) rfl rfl (fun h5 s6 f7 => ?_)
    refine g_vret rfl dX6_add_37 ?_
    refine rV ?_
    refine g_iincZ [some (.ref 0), some (.long (v)), none, some (.int (iZ z)), some (.int (iZ ((k : Int) - 1)))] 63 dX8_type_60 rfl (by omega) (by decide) rfl rfl rfl ?_
    refine g_goto 36 dX8_type_63 rfl ?_
    have f8 := (s6.get (by decide) (s2.get (by decide) f0))
    have f9 := (s6.get (by decide) f3)
    refine ih _ _ (t + 1) _ (by omega) (by omega) (by omega) (by omega) (okb_up of _ hbt) f8 f7 f9 (fun h1 g1 r e1 e2 o1 s1 u1 u2 => ?_)
    exact kf h1 g1 r (by omega) (by rw [e2]; exact tyb_s v k t f (by omega) h0) o1 ((((Sm.refl [1, 2] _).tr s2 (fun _ q => q) (by simp)).tr s6 (fun _ q => q) (by simp)).tr s1 (fun _ q => q) (fun _ q => q)) u1 u2
set_option maxRecDepth 100000 in
theorem a8_type {l : Launch} {h : MH} {Q : Option Value → MH → Prop} {tn : Int} {tf : Nat → Int} {xn : Nat → Int} {xf : Nat → Nat → Int} {en : Int} {tc : Nat} {n : Int} {v : Int64} (H : IX h tn tf xn xf en tc) (rn : rg n) (k : ∀ (h1 : MH) (r tn1 : Int) (tf1 : Nat → Int), (1 ≤ n ∧ n ≤ 8 ∧ tn + n ≤ 200 → r = tn + n ∧ tn1 = tn + n ∧ tf1 = tyb v n tn tf) → (1 ≤ n ∧ n ≤ 8 ∧ 200 < tn + n → r = -3 ∧ tn1 = tn ∧ tf1 = tf) → (¬ (1 ≤ n ∧ n ≤ 8) → r = -1 ∧ tn1 = tn ∧ tf1 = tf) → IX h1 tn1 tf1 xn xf en tc → Mo h h1 → Q (some (.int (iZ r))) h1) : Go l mX8_type 0 [some (.ref 0), some (.long (v)), none, some (.int (iZ n)), none] [] h Q := by
  obtain ⟨HC, HS, HY, HE, hlen, hmz⟩ := id H
  obtain ⟨⟨tr, F0⟩, F3, F4, htc, HT, HL⟩ := id HC
  refine g_iload_n 1 dX8_type_0 rfl rfl ?_
  refine g_iconst (v := iZ (1)) 2 dX8_type_1 rfl rfl ?_
  refine g_icZ_lt 11 5 dX8_type_2 rfl rfl rn (by decide) (fun c1 => ?_) (fun c1 => ?_)
  · refine g_iconst (v := iZ (-1)) 12 dX8_type_11 rfl rfl ?_
    refine g_iret rfl dX8_type_12 ?_
    exact k _ (-1) tn tf (fun q => by omega) (fun q => ⟨by omega, rfl, rfl⟩) (fun q => ⟨by omega, rfl, rfl⟩) H (fun _ _ _ => rfl)
  · refine g_iload_n 6 dX8_type_5 rfl rfl ?_
    refine g_bipush (v := iZ (8)) 8 dX8_type_6 (by decide +kernel) rfl ?_
    refine g_icZ_le 13 11 dX8_type_8 rfl rfl rn (by decide) (fun c2 => ?_) (fun c2 => ?_)
    · refine g_aload_n 14 dX8_type_13 rfl rfl ?_
      refine g_get 17 dX8_type_14 faX8_10_X8 F0 rfl rfl ?_
      obtain ⟨y0, y1, y2, y3, y4⟩ := id HY
      refine g_get 20 dX8_type_17 faX8_67_X6 y0 rfl rfl ?_
      refine g_iload_n 21 dX8_type_20 rfl rfl ?_
      refine g_iaddZ (tn + n) 22 dX8_type_21 (by omega) rfl ?_
      refine g_sipush (v := iZ (200)) 25 dX8_type_22 (by decide +kernel) rfl ?_
      refine g_icZ_le 31 28 dX8_type_25 rfl rfl (by omega) (by decide) (fun c3 => ?_) (fun c3 => ?_)
      · refine g_iload_n 32 dX8_type_31 rfl rfl ?_
        refine g_iconst (v := iZ (1)) 33 dX8_type_32 rfl rfl ?_
        refine g_isubZ (n - 1) 34 dX8_type_33 (by omega) rfl ?_
        refine g_istore (L1 := [some (.ref 0), some (.long (v)), none, some (.int (iZ n)), some (.int (iZ (n - 1)))]) 36 dX8_type_34 (by decide) rfl rfl rfl ?_
        obtain ⟨j, hj⟩ : ∃ j : Nat, (j : Int) = n := ⟨n.toNat, by omega⟩
        refine lp8_ty v n j _ tf tn _ (by omega) (by omega) (by omega) (by omega) y4 F0 y0 y1 (fun h1 g1 r e1 e2 o1 s1 u1 u2 => ?_)
        have zz := H.ty s1 (by decide) ⟨u1, u2, by omega, by omega, o1⟩
        exact k _ r r g1 (fun q => ⟨by omega, by omega, by rw [e2, hj]⟩) (fun q => by omega) (fun q => by omega) zz.1 zz.2
      · refine g_bipush (v := iZ (-3)) 30 dX8_type_28 (by decide +kernel) rfl ?_
        refine g_iret rfl dX8_type_30 ?_
        exact k _ (-3) tn tf (fun q => by omega) (fun q => ⟨by omega, rfl, rfl⟩) (fun q => ⟨by omega, rfl, rfl⟩) H (fun _ _ _ => rfl)
    · refine g_iconst (v := iZ (-1)) 12 dX8_type_11 rfl rfl ?_
      refine g_iret rfl dX8_type_12 ?_
      exact k _ (-1) tn tf (fun q => by omega) (fun q => ⟨by omega, rfl, rfl⟩) (fun q => ⟨by omega, rfl, rfl⟩) H (fun _ _ _ => rfl)
set_option maxRecDepth 100000 in
theorem k_bec {l : Launch} {Q : Option Value → MH → Prop} {t u : Nat} {m : Int} {g : Nat → Int} (htu : u + 1 < t) (hm : 0 ≤ m ∧ m ≤ 200) (og : okb g) : ∀ (m0 : Nat) (h : MH) (i : Int) (f : Nat → Int), (m - i).toNat = m0 → 0 ≤ i → i ≤ m → okb f → (∀ j : Nat, (j : Int) < i → f j = g j) → h[t]? = some (.inr (5, [.ref (t + 1), .int (iZ i)])) → h[t + 1]? = some (.inl (0, 200, .inl (zA f))) → h[u]? = some (.inr (5, [.ref (u + 1), .int (iZ m)])) → h[u + 1]? = some (.inl (0, 200, .inl (zA g))) → (∀ (h1 : MH) (f1 : Nat → Int), okb f1 → (∀ j : Nat, (j : Int) < m → f1 j = g j) → Sm [t, t + 1] h h1 → h1[t]? = some (.inr (5, [.ref (t + 1), .int (iZ m)])) → h1[t + 1]? = some (.inl (0, 200, .inl (zA f1))) → Q none h1) → Go l mX6_become 7 [some (.ref t), some (.ref u), some (.int (iZ i))] [] h Q := by
  intro m0
  induction m0 using Nat.strongRecOn with
  | ind m0 ih =>
    intro h i f hmz hi0 him of hfg F0 F1 F2 F3 k
    refine g_iload_n 8 dX6_become_7 rfl rfl ?_
    refine g_aload_n 9 dX6_become_8 rfl rfl ?_
    refine g_get 12 dX6_become_9 faX6_15_X6 F2 rfl rfl ?_
    refine g_icZ_ge 30 15 dX6_become_12 rfl rfl (by omega) (by omega) (fun c1 => ?_) (fun c1 => ?_)
    · refine g_vret rfl dX6_become_30 ?_
      have : i = m := by omega
      subst this
      exact k h f of hfg (Sm.refl _ _) F0 F1
    · refine g_aload_n 16 dX6_become_15 rfl rfl ?_
      refine g_aload_n 17 dX6_become_16 rfl rfl ?_
      refine g_iload_n 18 dX6_become_17 rfl rfl ?_
      refine g_callV (z := mX6_at) (As := [.int (iZ i)]) 21 dX6_become_18 mwX6_at ⟨by decide, by decide⟩ rfl wlX6_19 wiX6_at wsX6_at F2 rfl rfl rfl (nle rfl) (nle rfl) rfl ?_
      refine Go.to [some (.ref u), some (.int (iZ i))] [] rfl rfl ?_
      refine g_iload_n 1 dX6_at_0 rfl rfl ?_
      refine g_ifZ_lt 19 4 dX6_at_1 rfl rfl (by omega) (fun q => absurd q (by omega)) (fun _ => ?_)
      refine g_iload_n 5 dX6_at_4 rfl rfl ?_
      refine g_aload_n 6 dX6_at_5 rfl rfl ?_
      refine g_get 9 dX6_at_6 faX6_15_X6 F2 rfl rfl ?_
      refine g_icZ_ge 19 12 dX6_at_9 rfl rfl (by omega) (by omega) (fun q => absurd q (by omega)) (fun _ => ?_)
      refine g_iload_n 13 dX6_at_12 rfl rfl ?_
      refine g_sipush (v := iZ (200)) 16 dX6_at_13 (by decide +kernel) rfl ?_
      refine g_icZ_lt 23 19 dX6_at_16 rfl rfl (by omega) (by decide) (fun _ => ?_) (fun q => absurd q (by omega))
      refine g_aload_n 24 dX6_at_23 rfl rfl ?_
      refine g_get 27 dX6_at_24 faX6_9_X6 F2 rfl rfl ?_
      refine g_iload_n 28 dX6_at_27 rfl rfl ?_
      refine g_ialdZ (v := iZ (g i.toNat)) 29 dX6_at_28 F3 (by omega) (by omega) (by decide) rfl rfl ?_
      refine g_iret rfl dX6_at_29 ?_
      refine rI ?_
      refine g_callV (z := mX6_add) (As := [.int (iZ (g i.toNat))]) 24 dX6_become_21 mwX6_add ⟨by decide, by decide⟩ rfl wlX6_23 wiX6_add wsX6_add F0 rfl rfl rfl (nle rfl) (nle rfl) rfl ?_
      refine Go.to [some (.ref t), some (.int (iZ (g i.toNat)))] [] rfl rfl ?_
      refine g_aload_n 1 dX6_add_0 rfl rfl ?_
      refine g_get 4 dX6_add_1 faX6_15_X6 F0 rfl rfl ?_
      refine g_ifZ_lt 37 7 dX6_add_4 rfl rfl (by omega) (fun q => absurd q (by omega)) (fun _ => ?_)
      refine g_aload_n 8 dX6_add_7 rfl rfl ?_
      refine g_get 11 dX6_add_8 faX6_15_X6 F0 rfl rfl ?_
      refine g_sipush (v := iZ (200)) 14 dX6_add_11 (by decide +kernel) rfl ?_
      refine g_icZ_ge 37 17 dX6_add_14 rfl rfl (by omega) (by decide) (fun q => absurd q (by omega)) (fun _ => ?_)
      refine g_aload_n 18 dX6_add_17 rfl rfl ?_
      refine g_get 21 dX6_add_18 faX6_9_X6 F0 rfl rfl ?_
      refine g_aload_n 22 dX6_add_21 rfl rfl ?_
      refine g_get 25 dX6_add_22 faX6_15_X6 F0 rfl rfl ?_
      refine g_iload_n 26 dX6_add_25 rfl rfl ?_
      refine g_iastF 27 dX6_add_26 F1 (by omega) (by omega) (by decide) rfl (fun h2 s3 f4 => ?_)
      refine g_aload_n 28 dX6_add_27 rfl rfl ?_
      refine g_dup 29 dX6_add_28 rfl rfl ?_
      have f5 := (s3.get (by simp <;> omega) F0)
      refine g_get 32 dX6_add_29 faX6_15_X6 f5 rfl rfl ?_
      refine g_iconst (v := iZ (1)) 33 dX6_add_32 rfl rfl ?_
      refine g_iaddZ (i + 1) 34 dX6_add_33 (by omega) rfl ?_
      refine g_putC (fs1 := [.ref (t + 1), .int (iZ (i + 1))]) 37 dX6_add_34 fpX6_15_X6 f5 (nle rfl) (vI _) rfl rfl (fun h6 s7 f8 => ?_)
      refine g_vret rfl dX6_add_37 ?_
      refine rV ?_
      refine g_iincZ [some (.ref t), some (.ref u), some (.int (iZ (i + 1)))] 27 dX6_become_24 rfl (by omega) (by decide) rfl rfl rfl ?_
      refine g_goto 7 dX6_become_27 rfl ?_
      have f9 := (s7.get (by simp <;> omega) f4)
      have f10 := (s7.get (by simp <;> omega) (s3.get (by simp <;> omega) F2))
      have f11 := (s7.get (by simp <;> omega) (s3.get (by simp <;> omega) F3))
      refine ih _ (by omega) _ (i + 1) _ rfl (by omega) (by omega) (okb_up of _ (og _)) ?_ f8 f9 f10 f11 (fun h1 f1 o1 e1 s1 u0 u1 => k h1 f1 o1 e1 ((((Sm.refl [t, t + 1] _).tr s3 (fun _ q => q) (by simp)).tr s7 (fun _ q => q) (by simp)).tr s1 (fun _ q => q) (fun _ q => q)) u0 u1)
      intro j hj
      unfold va_up
      split
      · next hh => subst hh; rfl
      · exact hfg j (by omega)
set_option maxRecDepth 100000 in
theorem a8_text {l : Launch} {h : MH} {Q : Option Value → MH → Prop} {tn : Int} {tf : Nat → Int} {xn : Nat → Int} {xf : Nat → Nat → Int} {en : Int} {tc : Nat} {i : Int} (H : IX h tn tf xn xf en tc) (ri : rg i) (k : ∀ (h1 : MH) (r tn1 : Int) (xn1 : Nat → Int) (xf1 : Nat → Nat → Int), (0 ≤ i ∧ i < 8 → r = tn ∧ tn1 = 0 ∧ xn1 = va_up xn i.toNat tn ∧ ∃ f1 : Nat → Int, (∀ j : Nat, (j : Int) < tn → f1 j = tf j) ∧ xf1 = va_up xf i.toNat f1) → (¬ (0 ≤ i ∧ i < 8) → r = -1 ∧ tn1 = tn ∧ xn1 = xn ∧ xf1 = xf) → IX h1 tn1 tf xn1 xf1 en tc → Mo h h1 → Q (some (.int (iZ r))) h1) : Go l mX8_text 0 [some (.ref 0), some (.int (iZ i)), none] [] h Q := by
  obtain ⟨HC, HS, HY, HE, hlen, hmz⟩ := id H
  obtain ⟨⟨tr, F0⟩, F3, F4, htc, HT, HL⟩ := id HC
  refine g_aload_n 1 dX8_text_0 rfl rfl ?_
  refine g_iload_n 2 dX8_text_1 rfl rfl ?_
  refine g_callV (z := mX8_textAt) (As := [.int (iZ i)]) 5 dX8_text_2 mwX8_textAt ⟨by decide, by decide⟩ rfl wlX8_74 wiX8_textAt wsX8_textAt F0 rfl rfl rfl (nle rfl) (nle rfl) rfl ?_
  refine Go.to [some (.ref 0), some (.int (iZ i))] [] rfl rfl ?_
  refine g_iload_n 1 dX8_textAt_0 rfl rfl ?_
  refine g_ifZ_lt 10 4 dX8_textAt_1 rfl rfl ri (fun c1 => ?_) (fun c1 => ?_)
  · refine g_null 11 dX8_textAt_10 rfl ?_
    refine g_goto 20 dX8_textAt_11 rfl ?_
    refine g_aret rfl (Or.inl rfl) dX8_textAt_20 ?_
    refine rN ?_
    refine g_astore_nN (L1 := [some (.ref 0), some (.int (iZ i)), some (.null)]) 6 dX8_text_5 (by decide) rfl rfl rfl ?_
    refine g_aload_nN 7 dX8_text_6 rfl rfl ?_
    refine g_ifnonnullN 10 dX8_text_7 rfl ?_
    refine g_iconst (v := iZ (-1)) 11 dX8_text_10 rfl rfl ?_
    refine g_iret rfl dX8_text_11 ?_
    exact k _ (-1) tn xn xf (fun q => by omega) (fun q => ⟨rfl, rfl, rfl, rfl⟩) H (fun _ _ _ => rfl)
  · refine g_iload_n 5 dX8_textAt_4 rfl rfl ?_
    refine g_bipush (v := iZ (8)) 7 dX8_textAt_5 (by decide +kernel) rfl ?_
    refine g_icZ_lt 14 10 dX8_textAt_7 rfl rfl ri (by decide) (fun c2 => ?_) (fun c2 => ?_)
    · refine g_aload_n 15 dX8_textAt_14 rfl rfl ?_
      refine g_get 18 dX8_textAt_15 faX8_16_X8 F0 rfl rfl ?_
      refine g_iload_n 19 dX8_textAt_18 rfl rfl ?_
      refine g_aaldZ 20 dX8_textAt_19 F3 (by decide) (by omega) (by omega) (by decide) (txs_at (by omega) (by omega)) rfl ?_
      refine g_aret rfl (Or.inr ⟨_, rfl⟩) dX8_textAt_20 ?_
      refine rR ?_
      refine g_astore_n (L1 := [some (.ref 0), some (.int (iZ i)), some (.ref (34 + 2 * i.toNat))]) 6 dX8_text_5 (by decide) rfl rfl rfl ?_
      refine g_aload_n 7 dX8_text_6 rfl rfl ?_
      refine g_ifnonnull 12 dX8_text_7 rfl ?_
      refine g_aload_n 13 dX8_text_12 rfl rfl ?_
      refine g_aload_n 14 dX8_text_13 rfl rfl ?_
      refine g_get 17 dX8_text_14 faX8_10_X8 F0 rfl rfl ?_
      obtain ⟨t0_3, t1_3, t2_3, t3_3, t4_3⟩ := HT (i.toNat) (by omega)
      refine g_callV (z := mX6_become) (As := [.ref 1]) 20 dX8_text_17 mwX6_become ⟨by decide, by decide⟩ rfl wlX8_78 wiX6_become wsX6_become t0_3 rfl rfl rfl (nle rfl) (nle rfl) rfl ?_
      refine Go.to [some (.ref (34 + 2 * i.toNat)), some (.ref 1), none] [] rfl rfl ?_
      refine g_aload_n 1 dX6_become_0 rfl rfl ?_
      refine g_iconst (v := iZ (0)) 2 dX6_become_1 rfl rfl ?_
      refine g_putC (fs1 := [.ref (34 + 2 * i.toNat + 1), .int (iZ 0)]) 5 dX6_become_2 fpX6_15_X6 t0_3 (nle rfl) (vI _) rfl rfl (fun h4 s5 f6 => ?_)
      refine g_iconst (v := iZ (0)) 6 dX6_become_5 rfl rfl ?_
      refine g_istore_n (L1 := [some (.ref (34 + 2 * i.toNat)), some (.ref 1), some (.int (iZ 0))]) 7 dX6_become_6 (by decide) rfl rfl rfl ?_
      obtain ⟨y0, y1, y2, y3, y4⟩ := id HY
      have f7 := (s5.get (by simp <;> omega) t1_3)
      have f8 := (s5.get (by simp <;> omega) y0)
      have f9 := (s5.get (by simp <;> omega) y1)
      refine k_bec (by omega) (by omega) y4 _ _ 0 _ rfl (by omega) (by omega) (HT _ (by omega)).2.2.2.2 (fun j hj => by omega) f6 f7 f8 f9 (fun hB gF oF eF sB fB0 fB1 => ?_)
      refine rV ?_
      refine g_aload_n 21 dX8_text_20 rfl rfl ?_
      have f10 := (sB.get (by simp <;> omega) (s5.get (by simp <;> omega) F0))
      refine g_get 24 dX8_text_21 faX8_10_X8 f10 rfl rfl ?_
      refine g_iconst (v := iZ (0)) 25 dX8_text_24 rfl rfl ?_
      have f11 := (sB.get (by simp <;> omega) f8)
      refine g_putC (fs1 := [.ref 2, .int (iZ 0)]) 28 dX8_text_25 fpX8_67_X6 f11 (nle rfl) (vI _) rfl rfl (fun h12 s13 f14 => ?_)
      refine g_aload_n 29 dX8_text_28 rfl rfl ?_
      have f15 := (s13.get (by simp <;> omega) fB0)
      refine g_get 32 dX8_text_29 faX8_67_X6 f15 rfl rfl ?_
      refine g_iret rfl dX8_text_32 ?_
      have f16 := (s13.get (by decide) (sB.get (by simp <;> omega) f9))
      have f17 := (s13.get (by simp <;> omega) fB1)
      have zz := H.text (i := i.toNat) (tn1 := 0) (tf1 := tf) (by omega) ((((Sm.refl [1, 34 + 2 * i.toNat, 34 + 2 * i.toNat + 1] _).tr s5 (fun _ q => q) (by simp)).tr sB (fun _ q => q) (by simp)).tr s13 (fun _ q => q) (by simp)) (by simp <;> omega) ⟨f14, f16, by decide, by decide, y4⟩ ⟨f15, f17, by omega, by omega, oF⟩
      exact k _ (tn) 0 _ _ (fun q => ⟨rfl, rfl, rfl, _, eF, rfl⟩) (fun q => by omega) zz.1 zz.2
    · refine g_null 11 dX8_textAt_10 rfl ?_
      refine g_goto 20 dX8_textAt_11 rfl ?_
      refine g_aret rfl (Or.inl rfl) dX8_textAt_20 ?_
      refine rN ?_
      refine g_astore_nN (L1 := [some (.ref 0), some (.int (iZ i)), some (.null)]) 6 dX8_text_5 (by decide) rfl rfl rfl ?_
      refine g_aload_nN 7 dX8_text_6 rfl rfl ?_
      refine g_ifnonnullN 10 dX8_text_7 rfl ?_
      refine g_iconst (v := iZ (-1)) 11 dX8_text_10 rfl rfl ?_
      refine g_iret rfl dX8_text_11 ?_
      exact k _ (-1) tn xn xf (fun q => by omega) (fun q => ⟨rfl, rfl, rfl, rfl⟩) H (fun _ _ _ => rfl)
set_option maxRecDepth 100000 in
theorem a8_read {l : Launch} {h : MH} {Q : Option Value → MH → Prop} {tn : Int} {tf : Nat → Int} {xn : Nat → Int} {xf : Nat → Nat → Int} {en : Int} {tc : Nat} {i a : Int} (H : IX h tn tf xn xf en tc) (ri : rg i) (ra : rg a) (k : ∀ r : Int, (0 ≤ i ∧ i < 8 ∧ 0 ≤ a ∧ a < xn i.toNat → r = xf i.toNat a.toNat) → (¬ (0 ≤ i ∧ i < 8 ∧ 0 ≤ a ∧ a < xn i.toNat) → r = -1) → Q (some (.int (iZ r))) h) : Go l mX8_read 0 [some (.ref 0), some (.int (iZ i)), some (.int (iZ a)), none] [] h Q := by
  obtain ⟨HC, HS, HY, HE, hlen, hmz⟩ := id H
  obtain ⟨⟨tr, F0⟩, F3, F4, htc, HT, HL⟩ := id HC
  refine g_aload_n 1 dX8_read_0 rfl rfl ?_
  refine g_iload_n 2 dX8_read_1 rfl rfl ?_
  refine g_callV (z := mX8_textAt) (As := [.int (iZ i)]) 5 dX8_read_2 mwX8_textAt ⟨by decide, by decide⟩ rfl wlX8_74 wiX8_textAt wsX8_textAt F0 rfl rfl rfl (nle rfl) (nle rfl) rfl ?_
  refine Go.to [some (.ref 0), some (.int (iZ i))] [] rfl rfl ?_
  refine g_iload_n 1 dX8_textAt_0 rfl rfl ?_
  refine g_ifZ_lt 10 4 dX8_textAt_1 rfl rfl ri (fun c1 => ?_) (fun c1 => ?_)
  · refine g_null 11 dX8_textAt_10 rfl ?_
    refine g_goto 20 dX8_textAt_11 rfl ?_
    refine g_aret rfl (Or.inl rfl) dX8_textAt_20 ?_
    refine rN ?_
    refine g_astore_nN (L1 := [some (.ref 0), some (.int (iZ i)), some (.int (iZ a)), some (.null)]) 6 dX8_read_5 (by decide) rfl rfl rfl ?_
    refine g_aload_nN 7 dX8_read_6 rfl rfl ?_
    refine g_ifnonnullN 10 dX8_read_7 rfl ?_
    refine g_iconst (v := iZ (-1)) 11 dX8_read_10 rfl rfl ?_
    refine g_goto 19 dX8_read_11 rfl ?_
    refine g_iret rfl dX8_read_19 ?_
    exact k (-1) (fun q => by first | rfl | omega) (fun q => by omega)
  · refine g_iload_n 5 dX8_textAt_4 rfl rfl ?_
    refine g_bipush (v := iZ (8)) 7 dX8_textAt_5 (by decide +kernel) rfl ?_
    refine g_icZ_lt 14 10 dX8_textAt_7 rfl rfl ri (by decide) (fun c2 => ?_) (fun c2 => ?_)
    · refine g_aload_n 15 dX8_textAt_14 rfl rfl ?_
      refine g_get 18 dX8_textAt_15 faX8_16_X8 F0 rfl rfl ?_
      refine g_iload_n 19 dX8_textAt_18 rfl rfl ?_
      refine g_aaldZ 20 dX8_textAt_19 F3 (by decide) (by omega) (by omega) (by decide) (txs_at (by omega) (by omega)) rfl ?_
      refine g_aret rfl (Or.inr ⟨_, rfl⟩) dX8_textAt_20 ?_
      refine rR ?_
      refine g_astore_n (L1 := [some (.ref 0), some (.int (iZ i)), some (.int (iZ a)), some (.ref (34 + 2 * i.toNat))]) 6 dX8_read_5 (by decide) rfl rfl rfl ?_
      refine g_aload_n 7 dX8_read_6 rfl rfl ?_
      refine g_ifnonnull 14 dX8_read_7 rfl ?_
      refine g_aload_n 15 dX8_read_14 rfl rfl ?_
      refine g_iload_n 16 dX8_read_15 rfl rfl ?_
      obtain ⟨t0_3, t1_3, t2_3, t3_3, t4_3⟩ := HT (i.toNat) (by omega)
      refine g_callV (z := mX6_at) (As := [.int (iZ a)]) 19 dX8_read_16 mwX6_at ⟨by decide, by decide⟩ rfl wlX8_82 wiX6_at wsX6_at t0_3 rfl rfl rfl (nle rfl) (nle rfl) rfl ?_
      refine Go.to [some (.ref (34 + 2 * i.toNat)), some (.int (iZ a))] [] rfl rfl ?_
      refine g_iload_n 1 dX6_at_0 rfl rfl ?_
      refine g_ifZ_lt 19 4 dX6_at_1 rfl rfl ra (fun c4 => ?_) (fun c4 => ?_)
      · refine g_iconst (v := iZ (-1)) 20 dX6_at_19 rfl rfl ?_
        refine g_goto 29 dX6_at_20 rfl ?_
        refine g_iret rfl dX6_at_29 ?_
        refine rI ?_
        refine g_iret rfl dX8_read_19 ?_
        exact k (-1) (fun q => by first | rfl | omega) (fun q => by omega)
      · refine g_iload_n 5 dX6_at_4 rfl rfl ?_
        refine g_aload_n 6 dX6_at_5 rfl rfl ?_
        refine g_get 9 dX6_at_6 faX6_15_X6 t0_3 rfl rfl ?_
        refine g_icZ_ge 19 12 dX6_at_9 rfl rfl ra (by omega) (fun c5 => ?_) (fun c5 => ?_)
        · refine g_iconst (v := iZ (-1)) 20 dX6_at_19 rfl rfl ?_
          refine g_goto 29 dX6_at_20 rfl ?_
          refine g_iret rfl dX6_at_29 ?_
          refine rI ?_
          refine g_iret rfl dX8_read_19 ?_
          exact k (-1) (fun q => by first | rfl | omega) (fun q => by omega)
        · refine g_iload_n 13 dX6_at_12 rfl rfl ?_
          refine g_sipush (v := iZ (200)) 16 dX6_at_13 (by decide +kernel) rfl ?_
          refine g_icZ_lt 23 19 dX6_at_16 rfl rfl ra (by decide) (fun c6 => ?_) (fun c6 => ?_)
          · refine g_aload_n 24 dX6_at_23 rfl rfl ?_
            refine g_get 27 dX6_at_24 faX6_9_X6 t0_3 rfl rfl ?_
            refine g_iload_n 28 dX6_at_27 rfl rfl ?_
            refine g_ialdZ (v := iZ (((xf i.toNat)) a.toNat)) 29 dX6_at_28 t1_3 (by omega) (by omega) (by decide) rfl rfl ?_
            refine g_iret rfl dX6_at_29 ?_
            refine rI ?_
            refine g_iret rfl dX8_read_19 ?_
            exact k (((xf i.toNat)) a.toNat) (fun q => by first | rfl | omega) (fun q => by omega)
          · refine g_iconst (v := iZ (-1)) 20 dX6_at_19 rfl rfl ?_
            refine g_goto 29 dX6_at_20 rfl ?_
            refine g_iret rfl dX6_at_29 ?_
            refine rI ?_
            refine g_iret rfl dX8_read_19 ?_
            exact k (-1) (fun q => by first | rfl | omega) (fun q => by omega)
    · refine g_null 11 dX8_textAt_10 rfl ?_
      refine g_goto 20 dX8_textAt_11 rfl ?_
      refine g_aret rfl (Or.inl rfl) dX8_textAt_20 ?_
      refine rN ?_
      refine g_astore_nN (L1 := [some (.ref 0), some (.int (iZ i)), some (.int (iZ a)), some (.null)]) 6 dX8_read_5 (by decide) rfl rfl rfl ?_
      refine g_aload_nN 7 dX8_read_6 rfl rfl ?_
      refine g_ifnonnullN 10 dX8_read_7 rfl ?_
      refine g_iconst (v := iZ (-1)) 11 dX8_read_10 rfl rfl ?_
      refine g_goto 19 dX8_read_11 rfl ?_
      refine g_iret rfl dX8_read_19 ?_
      exact k (-1) (fun q => by first | rfl | omega) (fun q => by omega)

set_option maxRecDepth 100000 in
theorem w_dig {l : Launch} {h : MH} {Q : Option Value → MH → Prop} {i : Int} (ri : rg i) (k : ∀ (r : Int), rg r → Q (some (.int (iZ r))) h) : Go l mX5_digit 0 [some (.int (iZ i))] [] h Q := by
  refine g_iload_n 1 dX5_digit_0 rfl rfl ?_
  refine g_bipush (v := iZ (48)) 3 dX5_digit_1 (by decide +kernel) rfl ?_
  refine g_icZ_lt 17 6 dX5_digit_3 rfl rfl ri (by decide) (fun c1 => ?_) (fun c1 => ?_)
  · refine g_iload_n 18 dX5_digit_17 rfl rfl ?_
    refine g_bipush (v := iZ (97)) 20 dX5_digit_18 (by decide +kernel) rfl ?_
    refine g_icZ_lt 39 23 dX5_digit_20 rfl rfl ri (by decide) (fun _ => ?_) (fun q => absurd q (by omega))
    refine g_bipush (v := iZ (-9)) 41 dX5_digit_39 (by decide +kernel) rfl ?_
    refine g_iret rfl dX5_digit_41 ?_
    exact k (-9) (by decide)
  · refine g_iload_n 7 dX5_digit_6 rfl rfl ?_
    refine g_bipush (v := iZ (57)) 9 dX5_digit_7 (by decide +kernel) rfl ?_
    refine g_icZ_gt 17 12 dX5_digit_9 rfl rfl ri (by decide) (fun c2 => ?_) (fun c2 => ?_)
    · refine g_iload_n 18 dX5_digit_17 rfl rfl ?_
      refine g_bipush (v := iZ (97)) 20 dX5_digit_18 (by decide +kernel) rfl ?_
      refine g_icZ_lt 39 23 dX5_digit_20 rfl rfl ri (by decide) (fun c3 => ?_) (fun c3 => ?_)
      · refine g_bipush (v := iZ (-9)) 41 dX5_digit_39 (by decide +kernel) rfl ?_
        refine g_iret rfl dX5_digit_41 ?_
        exact k (-9) (by decide)
      · refine g_iload_n 24 dX5_digit_23 rfl rfl ?_
        refine g_bipush (v := iZ (102)) 26 dX5_digit_24 (by decide +kernel) rfl ?_
        refine g_icZ_gt 39 29 dX5_digit_26 rfl rfl ri (by decide) (fun c4 => ?_) (fun c4 => ?_)
        · refine g_bipush (v := iZ (-9)) 41 dX5_digit_39 (by decide +kernel) rfl ?_
          refine g_iret rfl dX5_digit_41 ?_
          exact k (-9) (by decide)
        · refine g_iload_n 30 dX5_digit_29 rfl rfl ?_
          refine g_bipush (v := iZ (97)) 32 dX5_digit_30 (by decide +kernel) rfl ?_
          refine g_isub 33 dX5_digit_32 rfl ?_
          refine Go.genZ (fun z5 rz5 => ?_)
          refine g_bipush (v := iZ (10)) 35 dX5_digit_33 (by decide +kernel) rfl ?_
          refine g_iadd 36 dX5_digit_35 rfl ?_
          refine Go.genZ (fun z6 rz6 => ?_)
          refine g_goto 41 dX5_digit_36 rfl ?_
          refine g_iret rfl dX5_digit_41 ?_
          exact k (z6) rz6
    · refine g_iload_n 13 dX5_digit_12 rfl rfl ?_
      refine g_bipush (v := iZ (48)) 15 dX5_digit_13 (by decide +kernel) rfl ?_
      refine g_isub 16 dX5_digit_15 rfl ?_
      refine Go.genZ (fun z7 rz7 => ?_)
      refine g_iret rfl dX5_digit_16 ?_
      exact k (z7) rz7
set_option maxRecDepth 100000 in
theorem w_pf_l {l : Launch} {Q : Option Value → MH → Prop} {tn : Int} {t : Nat} {tf : Nat → Int} (otf : okr tf) (rtn : rg tn) (hT : 15 < t) : ∀ (m0 : Nat) (h : MH) (n : Int) (f g : Nat → Int) (av j : Int), (200 - j).toNat = m0 → rg n → okr f → okr g → h[5]? = some (.inr (4, [.ref 6])) → h[6]? = some (.inr (0, [.int (iZ 256), .ref 7, .ref 8, .int (iZ n)])) → h[7]? = some (.inl (0, 256, .inl (zA f))) → h[8]? = some (.inl (0, 256, .inl (zA g))) → h[t]? = some (.inr (5, [.ref (t + 1), .int (iZ tn)])) → h[t + 1]? = some (.inl (0, 200, .inl (zA tf))) → rg av → 0 ≤ j ∧ j ≤ 200 → (∀ (h1 : MH) (n_1 : Int) (f_1 g_1 : Nat → Int) (r : Int), rg n_1 → okr f_1 → okr g_1 → rg r → Sm [6, 7, 8] h h1 → h1[6]? = some (.inr (0, [.int (iZ 256), .ref 7, .ref 8, .int (iZ n_1)])) → h1[7]? = some (.inl (0, 256, .inl (zA f_1))) → h1[8]? = some (.inl (0, 256, .inl (zA g_1))) → Q (some (.int (iZ r))) h1) → Go l mX5_faultIn 16 [some (.ref 5), some (.ref t), some (.int (iZ av)), some (.int (iZ j)), none, none] [] h Q := by
  intro m0
  induction m0 using Nat.strongRecOn with
  | ind m0 ih =>
    intro h n f g av j hmz rn of og F0 F1 F2 F3 F4 F5 rav hj k
    refine g_iload_n 17 dX5_faultIn_16 rfl rfl ?_
    refine g_sipush (v := iZ (200)) 20 dX5_faultIn_17 (by decide +kernel) rfl ?_
    refine g_icZ_ge 106 23 dX5_faultIn_20 rfl rfl (by omega) (by decide) (fun c1 => ?_) (fun c1 => ?_)
    · refine g_aload_n 107 dX5_faultIn_106 rfl rfl ?_
      refine g_get 110 dX5_faultIn_107 faX5_9_X5 F0 rfl rfl ?_
      refine g_get 113 dX5_faultIn_110 faX5_15_X0 F1 rfl rfl ?_
      refine g_ifZ_ne 123 116 dX5_faultIn_113 rfl rfl rn (fun c2 => ?_) (fun c2 => ?_)
      · refine g_bipush (v := iZ (-9)) 125 dX5_faultIn_123 (by decide +kernel) rfl ?_
        refine g_iret rfl dX5_faultIn_125 ?_
        exact k _ (n) (f) (g) (-9) rn of og (by decide) (Sm.refl [6, 7, 8] _) F1 F2 F3
      · refine g_aload_n 117 dX5_faultIn_116 rfl rfl ?_
        refine g_get 120 dX5_faultIn_117 faX5_27_X6 F4 rfl rfl ?_
        refine g_goto 125 dX5_faultIn_120 rfl ?_
        refine g_iret rfl dX5_faultIn_125 ?_
        exact k _ (n) (f) (g) (tn) rn of og rtn (Sm.refl [6, 7, 8] _) F1 F2 F3
    · refine g_iload_n 24 dX5_faultIn_23 rfl rfl ?_
      refine g_aload_n 25 dX5_faultIn_24 rfl rfl ?_
      refine g_get 28 dX5_faultIn_25 faX5_27_X6 F4 rfl rfl ?_
      refine g_icZ_ge 106 31 dX5_faultIn_28 rfl rfl rav rtn (fun c3 => ?_) (fun c3 => ?_)
      · refine g_aload_n 107 dX5_faultIn_106 rfl rfl ?_
        refine g_get 110 dX5_faultIn_107 faX5_9_X5 F0 rfl rfl ?_
        refine g_get 113 dX5_faultIn_110 faX5_15_X0 F1 rfl rfl ?_
        refine g_ifZ_ne 123 116 dX5_faultIn_113 rfl rfl rn (fun c4 => ?_) (fun c4 => ?_)
        · refine g_bipush (v := iZ (-9)) 125 dX5_faultIn_123 (by decide +kernel) rfl ?_
          refine g_iret rfl dX5_faultIn_125 ?_
          exact k _ (n) (f) (g) (-9) rn of og (by decide) (Sm.refl [6, 7, 8] _) F1 F2 F3
        · refine g_aload_n 117 dX5_faultIn_116 rfl rfl ?_
          refine g_get 120 dX5_faultIn_117 faX5_27_X6 F4 rfl rfl ?_
          refine g_goto 125 dX5_faultIn_120 rfl ?_
          refine g_iret rfl dX5_faultIn_125 ?_
          exact k _ (n) (f) (g) (tn) rn of og rtn (Sm.refl [6, 7, 8] _) F1 F2 F3
      · refine g_aload_n 32 dX5_faultIn_31 rfl rfl ?_
        refine g_iload_n 33 dX5_faultIn_32 rfl rfl ?_
        refine g_callV (z := mX6_at) (As := [.int (iZ av)]) 36 dX5_faultIn_33 mwX6_at ⟨by decide, by decide⟩ rfl wlX5_28 wiX6_at wsX6_at F4 rfl rfl rfl (nle rfl) (nle rfl) rfl ?_
        refine w_tat  F4 F5 otf rtn rav (fun z5 rz5 => ?_)
        refine rI ?_
        refine g_callS (z := mX5_digit) (As := [.int (iZ z5)]) 39 dX5_faultIn_36 mwX5_digit ⟨by decide, by decide⟩ rfl wlX5_31 wtX5_digit rfl (nle rfl) (nle rfl) rfl ?_
        refine w_dig  rz5 (fun z6 rz6 => ?_)
        refine rI ?_
        refine g_istore (L1 := [some (.ref 5), some (.ref t), some (.int (iZ av)), some (.int (iZ j)), some (.int (iZ z6)), none]) 41 dX5_faultIn_39 (by decide) rfl rfl rfl ?_
        refine g_iload 43 dX5_faultIn_41 rfl rfl ?_
        refine g_bipush (v := iZ (-9)) 45 dX5_faultIn_43 (by decide +kernel) rfl ?_
        refine g_icZ_ne 50 48 dX5_faultIn_45 rfl rfl rz6 (by decide) (fun c7 => ?_) (fun c7 => ?_)
        · refine g_aload_n 51 dX5_faultIn_50 rfl rfl ?_
          refine g_iload_n 52 dX5_faultIn_51 rfl rfl ?_
          refine g_iconst (v := iZ (1)) 53 dX5_faultIn_52 rfl rfl ?_
          refine g_iadd 54 dX5_faultIn_53 rfl ?_
          refine Go.genZ (fun z8 rz8 => ?_)
          refine g_callV (z := mX6_at) (As := [.int (iZ z8)]) 57 dX5_faultIn_54 mwX6_at ⟨by decide, by decide⟩ rfl wlX5_28 wiX6_at wsX6_at F4 rfl rfl rfl (nle rfl) (nle rfl) rfl ?_
          refine w_tat  F4 F5 otf rtn rz8 (fun z9 rz9 => ?_)
          refine rI ?_
          refine g_callS (z := mX5_digit) (As := [.int (iZ z9)]) 60 dX5_faultIn_57 mwX5_digit ⟨by decide, by decide⟩ rfl wlX5_31 wtX5_digit rfl (nle rfl) (nle rfl) rfl ?_
          refine w_dig  rz9 (fun z10 rz10 => ?_)
          refine rI ?_
          refine g_istore (L1 := [some (.ref 5), some (.ref t), some (.int (iZ av)), some (.int (iZ j)), some (.int (iZ z6)), some (.int (iZ z10))]) 62 dX5_faultIn_60 (by decide) rfl rfl rfl ?_
          refine g_iload 64 dX5_faultIn_62 rfl rfl ?_
          refine g_bipush (v := iZ (-9)) 66 dX5_faultIn_64 (by decide +kernel) rfl ?_
          refine g_icZ_eq 88 69 dX5_faultIn_66 rfl rfl rz10 (by decide) (fun c11 => ?_) (fun c11 => ?_)
          · refine g_iload_n 89 dX5_faultIn_88 rfl rfl ?_
            refine g_iconst (v := iZ (1)) 90 dX5_faultIn_89 rfl rfl ?_
            refine g_iadd 91 dX5_faultIn_90 rfl ?_
            refine Go.genZ (fun z12 rz12 => ?_)
            refine g_iret rfl dX5_faultIn_91 ?_
            exact k _ (n) (f) (g) (z12) rn of og rz12 (Sm.refl [6, 7, 8] _) F1 F2 F3
          · refine g_aload_n 70 dX5_faultIn_69 rfl rfl ?_
            refine g_get 73 dX5_faultIn_70 faX5_9_X5 F0 rfl rfl ?_
            refine g_bipush (v := iZ (16)) 75 dX5_faultIn_73 (by decide +kernel) rfl ?_
            refine g_iload 77 dX5_faultIn_75 rfl rfl ?_
            refine g_imul 78 dX5_faultIn_77 rfl ?_
            refine Go.genZ (fun z13 rz13 => ?_)
            refine g_iload 80 dX5_faultIn_78 rfl rfl ?_
            refine g_iadd 81 dX5_faultIn_80 rfl ?_
            refine Go.genZ (fun z14 rz14 => ?_)
            refine g_iload_n 82 dX5_faultIn_81 rfl rfl ?_
            refine g_callV (z := mX0_add) (As := [.int (iZ z14), .int (iZ av)]) 85 dX5_faultIn_82 mwX0_add ⟨by decide, by decide⟩ rfl wlX5_34 wiX0_add wsX0_add F1 rfl rfl rfl (nle rfl) (nle rfl) rfl ?_
            refine w_cadd (M := 256) F1 F2 F3 of og rn rz14 rav (by decide) (fun h15 z17 g18 g19 z20 rz17 og18 og19 rz20 s16 f21 f22 f23 => ?_)
            refine rI ?_
            refine g_ifZ_ne 92 88 dX5_faultIn_85 rfl rfl (rg01 rz20) (fun c24 => ?_) (fun c24 => ?_)
            · refine g_aload_n 93 dX5_faultIn_92 rfl rfl ?_
              refine g_iload_n 94 dX5_faultIn_93 rfl rfl ?_
              refine g_iconst (v := iZ (2)) 95 dX5_faultIn_94 rfl rfl ?_
              refine g_iadd 96 dX5_faultIn_95 rfl ?_
              refine Go.genZ (fun z25 rz25 => ?_)
              have f26 := (s16.get (by simp <;> omega) F4)
              refine g_callV (z := mX6_pastGap) (As := [.int (iZ z25)]) 99 dX5_faultIn_96 mwX6_pastGap ⟨by decide, by decide⟩ rfl wlX5_21 wiX6_pastGap wsX6_pastGap f26 rfl rfl rfl (nle rfl) (nle rfl) rfl ?_
              have f27 := (s16.get (by simp <;> omega) F5)
              refine w_gap  f26 f27 otf rtn rz25 (fun z28 rz28 => ?_)
              refine rI ?_
              refine g_istore_n (L1 := [some (.ref 5), some (.ref t), some (.int (iZ z28)), some (.int (iZ j)), some (.int (iZ z6)), some (.int (iZ z10))]) 100 dX5_faultIn_99 (by decide) rfl rfl rfl ?_
              refine g_iincZ [some (.ref 5), some (.ref t), some (.int (iZ z28)), some (.int (iZ (j + 1))), some (.int (iZ z6)), some (.int (iZ z10))] 103 dX5_faultIn_100 rfl (by omega) (by decide) rfl rfl rfl ?_
              refine g_goto 16 dX5_faultIn_103 rfl ?_
              refine Go.fgt 4 ?_
              refine Go.fgt 5 ?_
              have f29 := (s16.get (by decide) F0)
              exact ih _ (by omega) _ (z17) (g18) (g19) (z28) (j + 1) rfl rz17 og18 og19 f29 f21 f22 f23 f26 f27 rz28 (by omega) (fun hQ xQ0 xQ1 xQ2 rQ yQ0 yQ1 yQ2 yQ3 sQ uQ0 uQ1 uQ2 => k hQ xQ0 xQ1 xQ2 rQ yQ0 yQ1 yQ2 yQ3 (((Sm.refl [6, 7, 8] _).tr s16 (fun _ q => q) (by simp)).tr sQ (fun _ q => q) (fun _ q => q)) uQ0 uQ1 uQ2)
            · refine g_iload_n 89 dX5_faultIn_88 rfl rfl ?_
              refine g_iconst (v := iZ (1)) 90 dX5_faultIn_89 rfl rfl ?_
              refine g_iadd 91 dX5_faultIn_90 rfl ?_
              refine Go.genZ (fun z30 rz30 => ?_)
              refine g_iret rfl dX5_faultIn_91 ?_
              exact k _ (z17) (g18) (g19) (z30) rz17 og18 og19 rz30 ((Sm.refl [6, 7, 8] _).tr s16 (fun _ q => q) (by simp)) f21 f22 f23
        · refine g_iload_n 49 dX5_faultIn_48 rfl rfl ?_
          refine g_iret rfl dX5_faultIn_49 ?_
          exact k _ (n) (f) (g) (av) rn of og rav (Sm.refl [6, 7, 8] _) F1 F2 F3
set_option maxRecDepth 100000 in
theorem w_pf {l : Launch} {h : MH} {Q : Option Value → MH → Prop} {n tn : Int} {t : Nat} {f g tf : Nat → Int} (F0 : h[5]? = some (.inr (4, [.ref 6]))) (F1 : h[6]? = some (.inr (0, [.int (iZ 256), .ref 7, .ref 8, .int (iZ n)]))) (F2 : h[7]? = some (.inl (0, 256, .inl (zA f)))) (F3 : h[8]? = some (.inl (0, 256, .inl (zA g)))) (F4 : h[t]? = some (.inr (5, [.ref (t + 1), .int (iZ tn)]))) (F5 : h[t + 1]? = some (.inl (0, 200, .inl (zA tf)))) (of : okr f) (og : okr g) (otf : okr tf) (rn : rg n) (rtn : rg tn) (hT : 15 < t) (k : ∀ (h1 : MH) (n_1 : Int) (f_1 g_1 : Nat → Int) (r : Int), rg n_1 → okr f_1 → okr g_1 → rg r → Sm [6, 7, 8] h h1 → h1[6]? = some (.inr (0, [.int (iZ 256), .ref 7, .ref 8, .int (iZ n_1)])) → h1[7]? = some (.inl (0, 256, .inl (zA f_1))) → h1[8]? = some (.inl (0, 256, .inl (zA g_1))) → Q (some (.int (iZ r))) h1) : Go l mX5_faultIn 0 [some (.ref 5), some (.ref t), none, none, none, none] [] h Q := by
  refine g_aload_n 1 dX5_faultIn_0 rfl rfl ?_
  refine g_get 4 dX5_faultIn_1 faX5_9_X5 F0 rfl rfl ?_
  refine g_iconst (v := iZ (0)) 5 dX5_faultIn_4 rfl rfl ?_
  refine g_putC (fs1 := [.int (iZ 256), .ref 7, .ref 8, .int (iZ 0)]) 8 dX5_faultIn_5 fpX5_15_X0 F1 (nle rfl) (vI _) rfl rfl (fun h1 s2 f3 => ?_)
  refine g_aload_n 9 dX5_faultIn_8 rfl rfl ?_
  refine g_iconst (v := iZ (0)) 10 dX5_faultIn_9 rfl rfl ?_
  have f4 := (s2.get (by simp <;> omega) F4)
  refine g_callV (z := mX6_pastGap) (As := [.int (iZ 0)]) 13 dX5_faultIn_10 mwX6_pastGap ⟨by decide, by decide⟩ rfl wlX5_21 wiX6_pastGap wsX6_pastGap f4 rfl rfl rfl (nle rfl) (nle rfl) rfl ?_
  have f5 := (s2.get (by simp <;> omega) F5)
  refine w_gap  f4 f5 otf rtn (by decide) (fun z6 rz6 => ?_)
  refine rI ?_
  refine g_istore_n (L1 := [some (.ref 5), some (.ref t), some (.int (iZ z6)), none, none, none]) 14 dX5_faultIn_13 (by decide) rfl rfl rfl ?_
  refine g_iconst (v := iZ (0)) 15 dX5_faultIn_14 rfl rfl ?_
  refine g_istore_n (L1 := [some (.ref 5), some (.ref t), some (.int (iZ z6)), some (.int (iZ 0)), none, none]) 16 dX5_faultIn_15 (by decide) rfl rfl rfl ?_
  have f7 := (s2.get (by decide) F0)
  have f8 := (s2.get (by decide) F2)
  have f9 := (s2.get (by decide) F3)
  exact w_pf_l otf rtn hT _ _ (0) (f) (g) (z6) (0) rfl (by decide) of og f7 f3 f8 f9 f4 f5 rz6 (by omega) (fun hQ xQ0 xQ1 xQ2 rQ yQ0 yQ1 yQ2 yQ3 sQ uQ0 uQ1 uQ2 => k hQ xQ0 xQ1 xQ2 rQ yQ0 yQ1 yQ2 yQ3 (((Sm.refl [6, 7, 8] _).tr s2 (fun _ q => q) (by simp)).tr sQ (fun _ q => q) (fun _ q => q)) uQ0 uQ1 uQ2)
theorem lp4_a {l : Launch} {Q : Option Value → MH → Prop} {a b : Value} : ∀ (k : Nat) (h : MH) (g : Nat → Int) (i : Int), i = 26 - k → k ≤ 26 → okr g → h[9]? = some (.inr (3, [.ref 10, .ref 13, .ref 14, a, b])) → h[13]? = some (.inl (0, 26, .inl (zA g))) → (∀ (h1 : MH) (g1 : Nat → Int), okr g1 → Sm [13] h h1 → h1[13]? = some (.inl (0, 26, .inl (zA g1))) → Go l mX4_begin 41 [some (.ref 9), some (.int (iZ 26))] [] h1 Q) → Go l mX4_begin 21 [some (.ref 9), some (.int (iZ i))] [] h Q := by
  intro k
  induction k with
  | zero =>
    intro h g i hi hk og f0 f1 kk
    have : i = 26 := by omega
    subst this
    refine g_iload_n 22 dX4_begin_21 rfl rfl ?_
    refine g_bipush (v := iZ (26)) 24 dX4_begin_22 (by decide +kernel) rfl ?_
    refine g_icZ_ge 41 27 dX4_begin_24 rfl rfl (by decide) (by decide) (fun _ => ?_) (fun q => absurd q (by decide))
    exact kk _ _ og (Sm.refl _ _) f1
  | succ k ih =>
    intro h g i hi hk og f0 f1 kk
    have h0 : 0 ≤ i := by omega
    have h2 : i < 26 := by omega
    refine g_iload_n 22 dX4_begin_21 rfl rfl ?_
    refine g_bipush (v := iZ (26)) 24 dX4_begin_22 (by decide +kernel) rfl ?_
    refine g_icZ_ge 41 27 dX4_begin_24 rfl rfl (by omega) (by decide) (fun q => absurd q (by omega)) (fun _ => ?_)
    refine g_aload_n 28 dX4_begin_27 rfl rfl ?_
    refine g_get 31 dX4_begin_28 faX4_11_X4 f0 rfl rfl ?_
    refine g_iload_n 32 dX4_begin_31 rfl rfl ?_
    refine g_bipush (v := iZ (-9)) 34 dX4_begin_32 (by decide +kernel) rfl ?_
    refine g_iastW 35 dX4_begin_34 f1 og (by decide) (by omega) (by omega) (by decide) rfl (fun h2 g1 og1 s3 f4 => ?_)
    refine g_iincZ [some (.ref 9), some (.int (iZ (i + 1)))] 38 dX4_begin_35 rfl (by omega) (by decide) rfl rfl rfl ?_
    refine g_goto 21 dX4_begin_38 rfl ?_
    have f5 := (s3.get (by decide) f0)
    exact ih _ _ _ (by omega) (by omega) og1 f5 f4 (fun h1 g1 o1 hs f1 => kk h1 g1 o1 (s3.tr hs (fun _ q => q) (fun _ q => q)) f1)
theorem lp4_b {l : Launch} {Q : Option Value → MH → Prop} {a b : Value} : ∀ (k : Nat) (h : MH) (g : Nat → Int) (i : Int), i = 256 - k → k ≤ 256 → okr g → h[9]? = some (.inr (3, [.ref 10, .ref 13, .ref 14, a, b])) → h[14]? = some (.inl (0, 256, .inl (zA g))) → (∀ (h1 : MH) (g1 : Nat → Int), okr g1 → Sm [14] h h1 → h1[14]? = some (.inl (0, 256, .inl (zA g1))) → Go l mX4_begin 64 [some (.ref 9), some (.int (iZ 256))] [] h1 Q) → Go l mX4_begin 43 [some (.ref 9), some (.int (iZ i))] [] h Q := by
  intro k
  induction k with
  | zero =>
    intro h g i hi hk og f0 f1 kk
    have : i = 256 := by omega
    subst this
    refine g_iload_n 44 dX4_begin_43 rfl rfl ?_
    refine g_sipush (v := iZ (256)) 47 dX4_begin_44 (by decide +kernel) rfl ?_
    refine g_icZ_ge 64 50 dX4_begin_47 rfl rfl (by decide) (by decide) (fun _ => ?_) (fun q => absurd q (by decide))
    exact kk _ _ og (Sm.refl _ _) f1
  | succ k ih =>
    intro h g i hi hk og f0 f1 kk
    have h0 : 0 ≤ i := by omega
    have h2 : i < 256 := by omega
    refine g_iload_n 44 dX4_begin_43 rfl rfl ?_
    refine g_sipush (v := iZ (256)) 47 dX4_begin_44 (by decide +kernel) rfl ?_
    refine g_icZ_ge 64 50 dX4_begin_47 rfl rfl (by omega) (by decide) (fun q => absurd q (by omega)) (fun _ => ?_)
    refine g_aload_n 51 dX4_begin_50 rfl rfl ?_
    refine g_get 54 dX4_begin_51 faX4_15_X4 f0 rfl rfl ?_
    refine g_iload_n 55 dX4_begin_54 rfl rfl ?_
    refine g_bipush (v := iZ (-9)) 57 dX4_begin_55 (by decide +kernel) rfl ?_
    refine g_iastW 58 dX4_begin_57 f1 og (by decide) (by omega) (by omega) (by decide) rfl (fun h2 g1 og1 s3 f4 => ?_)
    refine g_iincZ [some (.ref 9), some (.int (iZ (i + 1)))] 61 dX4_begin_58 rfl (by omega) (by decide) rfl rfl rfl ?_
    refine g_goto 43 dX4_begin_61 rfl ?_
    have f5 := (s3.get (by decide) f0)
    exact ih _ _ _ (by omega) (by omega) og1 f5 f4 (fun h1 g1 o1 hs f1 => kk h1 g1 o1 (s3.tr hs (fun _ q => q) (fun _ q => q)) f1)
set_option maxRecDepth 100000 in
theorem w_beg {l : Launch} {h : MH} {Q : Option Value → MH → Prop} {due la n : Int} {pl lu f g : Nat → Int} (F0 : h[9]? = some (.inr (3, [.ref 10, .ref 13, .ref 14, .int (iZ due), .int (iZ la)]))) (F1 : h[10]? = some (.inr (0, [.int (iZ 256), .ref 11, .ref 12, .int (iZ n)]))) (F2 : h[11]? = some (.inl (0, 256, .inl (zA f)))) (F3 : h[12]? = some (.inl (0, 256, .inl (zA g)))) (F4 : h[13]? = some (.inl (0, 26, .inl (zA pl)))) (F5 : h[14]? = some (.inl (0, 256, .inl (zA lu)))) (of : okr f) (og : okr g) (opl : okr pl) (olu : okr lu) (rdue : rg due) (rla : rg la) (rn : rg n) (k : ∀ (h1 : MH) (due_1 la_1 n_1 : Int) (f_1 g_1 pl_1 lu_1 : Nat → Int), rg due_1 → rg la_1 → rg n_1 → okr f_1 → okr g_1 → okr pl_1 → okr lu_1 → Sm [9, 10, 11, 12, 13, 14] h h1 → h1[9]? = some (.inr (3, [.ref 10, .ref 13, .ref 14, .int (iZ due_1), .int (iZ la_1)])) → h1[10]? = some (.inr (0, [.int (iZ 256), .ref 11, .ref 12, .int (iZ n_1)])) → h1[11]? = some (.inl (0, 256, .inl (zA f_1))) → h1[12]? = some (.inl (0, 256, .inl (zA g_1))) → h1[13]? = some (.inl (0, 26, .inl (zA pl_1))) → h1[14]? = some (.inl (0, 256, .inl (zA lu_1))) → Q none h1) : Go l mX4_begin 0 [some (.ref 9), none] [] h Q := by
  refine g_aload_n 1 dX4_begin_0 rfl rfl ?_
  refine g_get 4 dX4_begin_1 faX4_45_X4 F0 rfl rfl ?_
  refine g_iconst (v := iZ (0)) 5 dX4_begin_4 rfl rfl ?_
  refine g_putC (fs1 := [.int (iZ 256), .ref 11, .ref 12, .int (iZ 0)]) 8 dX4_begin_5 fpX4_49_X0 F1 (nle rfl) (vI _) rfl rfl (fun h1 s2 f3 => ?_)
  refine g_aload_n 9 dX4_begin_8 rfl rfl ?_
  refine g_iconst (v := iZ (0)) 10 dX4_begin_9 rfl rfl ?_
  have f4 := (s2.get (by decide) F0)
  refine g_putC (fs1 := [.ref 10, .ref 13, .ref 14, .int (iZ 0), .int (iZ la)]) 13 dX4_begin_10 fpX4_18_X4 f4 (nle rfl) (vI _) rfl rfl (fun h5 s6 f7 => ?_)
  refine g_aload_n 14 dX4_begin_13 rfl rfl ?_
  refine g_bipush (v := iZ (-9)) 16 dX4_begin_14 (by decide +kernel) rfl ?_
  refine g_putC (fs1 := [.ref 10, .ref 13, .ref 14, .int (iZ 0), .int (iZ (-9))]) 19 dX4_begin_16 fpX4_22_X4 f7 (nle rfl) (vI _) rfl rfl (fun h8 s9 f10 => ?_)
  refine g_iconst (v := iZ (0)) 20 dX4_begin_19 rfl rfl ?_
  refine g_istore_n (L1 := [some (.ref 9), some (.int (iZ 0))]) 21 dX4_begin_20 (by decide) rfl rfl rfl ?_
  have f12 := (s9.get (by decide) (s6.get (by decide) (s2.get (by decide) F4)))
  refine lp4_a 26 _ _ _ (by decide) (by decide) opl f10 f12 ?_
  intro h13 g11 og11 s14 f15
  refine g_iconst (v := iZ (0)) 42 dX4_begin_41 rfl rfl ?_
  refine g_istore_n (L1 := [some (.ref 9), some (.int (iZ 0))]) 43 dX4_begin_42 (by decide) rfl rfl rfl ?_
  have f17 := (s14.get (by decide) f10)
  have f18 := (s14.get (by decide) (s9.get (by decide) (s6.get (by decide) (s2.get (by decide) F5))))
  refine lp4_b 256 _ _ _ (by decide) (by decide) olu f17 f18 ?_
  intro h19 g16 og16 s20 f21
  refine g_vret rfl dX4_begin_64 ?_
  have f22 := (s20.get (by decide) f17)
  have f23 := (s20.get (by decide) (s14.get (by decide) (s9.get (by decide) (s6.get (by decide) f3))))
  have f24 := (s20.get (by decide) (s14.get (by decide) (s9.get (by decide) (s6.get (by decide) (s2.get (by decide) F2)))))
  have f25 := (s20.get (by decide) (s14.get (by decide) (s9.get (by decide) (s6.get (by decide) (s2.get (by decide) F3)))))
  have f26 := (s20.get (by decide) f15)
  exact k _ (0) (-9) (0) (f) (g) (g11) (g16) (by decide) (by decide) (by decide) of og og11 og16 ((((((Sm.refl [9, 10, 11, 12, 13, 14] _).tr s2 (fun _ q => q) (by simp)).tr s6 (fun _ q => q) (by simp)).tr s9 (fun _ q => q) (by simp)).tr s14 (fun _ q => q) (by simp)).tr s20 (fun _ q => q) (by simp)) f22 f23 f24 f25 f26 f21
set_option maxRecDepth 100000 in
theorem w_isDigit {l : Launch} {h : MH} {Q : Option Value → MH → Prop} {i : Int} (ri : rg i) (k : ∀ (r : Int), (r = 0 ∨ r = 1) → Q (some (.int (iZ r))) h) : Go l mX4_isDigit 0 [some (.int (iZ i))] [] h Q := by
  refine g_iload_n 1 dX4_isDigit_0 rfl rfl ?_
  refine g_bipush (v := iZ (48)) 3 dX4_isDigit_1 (by decide +kernel) rfl ?_
  refine g_icZ_lt 16 6 dX4_isDigit_3 rfl rfl ri (by decide) (fun c1 => ?_) (fun c1 => ?_)
  · refine g_iconst (v := iZ (0)) 17 dX4_isDigit_16 rfl rfl ?_
    refine g_zret rfl z01_0 dX4_isDigit_17 ?_
    exact k (0) (Or.inl rfl)
  · refine g_iload_n 7 dX4_isDigit_6 rfl rfl ?_
    refine g_bipush (v := iZ (57)) 9 dX4_isDigit_7 (by decide +kernel) rfl ?_
    refine g_icZ_gt 16 12 dX4_isDigit_9 rfl rfl ri (by decide) (fun c2 => ?_) (fun c2 => ?_)
    · refine g_iconst (v := iZ (0)) 17 dX4_isDigit_16 rfl rfl ?_
      refine g_zret rfl z01_0 dX4_isDigit_17 ?_
      exact k (0) (Or.inl rfl)
    · refine g_iconst (v := iZ (1)) 13 dX4_isDigit_12 rfl rfl ?_
      refine g_goto 17 dX4_isDigit_13 rfl ?_
      refine g_zret rfl z01_1 dX4_isDigit_17 ?_
      exact k (1) (Or.inr rfl)
set_option maxRecDepth 100000 in
theorem w_isSmall {l : Launch} {h : MH} {Q : Option Value → MH → Prop} {i : Int} (ri : rg i) (k : ∀ (r : Int), (r = 0 ∨ r = 1) → Q (some (.int (iZ r))) h) : Go l mX4_isSmall 0 [some (.int (iZ i))] [] h Q := by
  refine g_iload_n 1 dX4_isSmall_0 rfl rfl ?_
  refine g_bipush (v := iZ (97)) 3 dX4_isSmall_1 (by decide +kernel) rfl ?_
  refine g_icZ_lt 16 6 dX4_isSmall_3 rfl rfl ri (by decide) (fun c1 => ?_) (fun c1 => ?_)
  · refine g_iconst (v := iZ (0)) 17 dX4_isSmall_16 rfl rfl ?_
    refine g_zret rfl z01_0 dX4_isSmall_17 ?_
    exact k (0) (Or.inl rfl)
  · refine g_iload_n 7 dX4_isSmall_6 rfl rfl ?_
    refine g_bipush (v := iZ (122)) 9 dX4_isSmall_7 (by decide +kernel) rfl ?_
    refine g_icZ_gt 16 12 dX4_isSmall_9 rfl rfl ri (by decide) (fun c2 => ?_) (fun c2 => ?_)
    · refine g_iconst (v := iZ (0)) 17 dX4_isSmall_16 rfl rfl ?_
      refine g_zret rfl z01_0 dX4_isSmall_17 ?_
      exact k (0) (Or.inl rfl)
    · refine g_iconst (v := iZ (1)) 13 dX4_isSmall_12 rfl rfl ?_
      refine g_goto 17 dX4_isSmall_13 rfl ?_
      refine g_zret rfl z01_1 dX4_isSmall_17 ?_
      exact k (1) (Or.inr rfl)
set_option maxRecDepth 100000 in
theorem w_isLetter {l : Launch} {h : MH} {Q : Option Value → MH → Prop} {i : Int} (ri : rg i) (k : ∀ (r : Int), (r = 0 ∨ r = 1) → Q (some (.int (iZ r))) h) : Go l mX4_isLetter 0 [some (.int (iZ i))] [] h Q := by
  refine g_iload_n 1 dX4_isLetter_0 rfl rfl ?_
  refine g_bipush (v := iZ (65)) 3 dX4_isLetter_1 (by decide +kernel) rfl ?_
  refine g_icZ_lt 16 6 dX4_isLetter_3 rfl rfl ri (by decide) (fun c1 => ?_) (fun c1 => ?_)
  · refine g_iconst (v := iZ (0)) 17 dX4_isLetter_16 rfl rfl ?_
    refine g_zret rfl z01_0 dX4_isLetter_17 ?_
    exact k (0) (Or.inl rfl)
  · refine g_iload_n 7 dX4_isLetter_6 rfl rfl ?_
    refine g_bipush (v := iZ (90)) 9 dX4_isLetter_7 (by decide +kernel) rfl ?_
    refine g_icZ_gt 16 12 dX4_isLetter_9 rfl rfl ri (by decide) (fun c2 => ?_) (fun c2 => ?_)
    · refine g_iconst (v := iZ (0)) 17 dX4_isLetter_16 rfl rfl ?_
      refine g_zret rfl z01_0 dX4_isLetter_17 ?_
      exact k (0) (Or.inl rfl)
    · refine g_iconst (v := iZ (1)) 13 dX4_isLetter_12 rfl rfl ?_
      refine g_goto 17 dX4_isLetter_13 rfl ?_
      refine g_zret rfl z01_1 dX4_isLetter_17 ?_
      exact k (1) (Or.inr rfl)
set_option maxRecDepth 100000 in
theorem w_isMoreOf {l : Launch} {h : MH} {Q : Option Value → MH → Prop} {i j : Int} (ri : rg i) (rj : rg j) (k : ∀ (r : Int), (r = 0 ∨ r = 1) → Q (some (.int (iZ r))) h) : Go l mX4_isMoreOf 0 [some (.int (iZ i)), some (.int (iZ j))] [] h Q := by
  refine g_iload_n 1 dX4_isMoreOf_0 rfl rfl ?_
  refine g_callS (z := mX4_isDigit) (As := [.int (iZ i)]) 4 dX4_isMoreOf_1 mwX4_isDigit ⟨by decide, by decide⟩ rfl wlX4_67 wtX4_isDigit rfl (nle rfl) (nle rfl) rfl ?_
  refine w_isDigit  ri (fun z1 rz1 => ?_)
  refine rI ?_
  refine g_ifZ_eq 14 7 dX4_isMoreOf_4 rfl rfl (rg01 rz1) (fun c2 => ?_) (fun c2 => ?_)
  · refine g_iload_n 15 dX4_isMoreOf_14 rfl rfl ?_
    refine g_callS (z := mX4_isSmall) (As := [.int (iZ i)]) 18 dX4_isMoreOf_15 mwX4_isSmall ⟨by decide, by decide⟩ rfl wlX4_70 wtX4_isSmall rfl (nle rfl) (nle rfl) rfl ?_
    refine w_isSmall  ri (fun z3 rz3 => ?_)
    refine rI ?_
    refine g_ifZ_eq 32 21 dX4_isMoreOf_18 rfl rfl (rg01 rz3) (fun c4 => ?_) (fun c4 => ?_)
    · refine g_iconst (v := iZ (0)) 33 dX4_isMoreOf_32 rfl rfl ?_
      refine g_zret rfl z01_0 dX4_isMoreOf_33 ?_
      exact k (0) (Or.inl rfl)
    · refine g_iload_n 22 dX4_isMoreOf_21 rfl rfl ?_
      refine g_callS (z := mX4_isSmall) (As := [.int (iZ j)]) 25 dX4_isMoreOf_22 mwX4_isSmall ⟨by decide, by decide⟩ rfl wlX4_70 wtX4_isSmall rfl (nle rfl) (nle rfl) rfl ?_
      refine w_isSmall  rj (fun z5 rz5 => ?_)
      refine rI ?_
      refine g_ifZ_eq 32 28 dX4_isMoreOf_25 rfl rfl (rg01 rz5) (fun c6 => ?_) (fun c6 => ?_)
      · refine g_iconst (v := iZ (0)) 33 dX4_isMoreOf_32 rfl rfl ?_
        refine g_zret rfl z01_0 dX4_isMoreOf_33 ?_
        exact k (0) (Or.inl rfl)
      · refine g_iconst (v := iZ (1)) 29 dX4_isMoreOf_28 rfl rfl ?_
        refine g_goto 33 dX4_isMoreOf_29 rfl ?_
        refine g_zret rfl z01_1 dX4_isMoreOf_33 ?_
        exact k (1) (Or.inr rfl)
  · refine g_iload_n 8 dX4_isMoreOf_7 rfl rfl ?_
    refine g_callS (z := mX4_isDigit) (As := [.int (iZ j)]) 11 dX4_isMoreOf_8 mwX4_isDigit ⟨by decide, by decide⟩ rfl wlX4_67 wtX4_isDigit rfl (nle rfl) (nle rfl) rfl ?_
    refine w_isDigit  rj (fun z7 rz7 => ?_)
    refine rI ?_
    refine g_ifZ_ne 28 14 dX4_isMoreOf_11 rfl rfl (rg01 rz7) (fun c8 => ?_) (fun c8 => ?_)
    · refine g_iconst (v := iZ (1)) 29 dX4_isMoreOf_28 rfl rfl ?_
      refine g_goto 33 dX4_isMoreOf_29 rfl ?_
      refine g_zret rfl z01_1 dX4_isMoreOf_33 ?_
      exact k (1) (Or.inr rfl)
    · refine g_iload_n 15 dX4_isMoreOf_14 rfl rfl ?_
      refine g_callS (z := mX4_isSmall) (As := [.int (iZ i)]) 18 dX4_isMoreOf_15 mwX4_isSmall ⟨by decide, by decide⟩ rfl wlX4_70 wtX4_isSmall rfl (nle rfl) (nle rfl) rfl ?_
      refine w_isSmall  ri (fun z9 rz9 => ?_)
      refine rI ?_
      refine g_ifZ_eq 32 21 dX4_isMoreOf_18 rfl rfl (rg01 rz9) (fun c10 => ?_) (fun c10 => ?_)
      · refine g_iconst (v := iZ (0)) 33 dX4_isMoreOf_32 rfl rfl ?_
        refine g_zret rfl z01_0 dX4_isMoreOf_33 ?_
        exact k (0) (Or.inl rfl)
      · refine g_iload_n 22 dX4_isMoreOf_21 rfl rfl ?_
        refine g_callS (z := mX4_isSmall) (As := [.int (iZ j)]) 25 dX4_isMoreOf_22 mwX4_isSmall ⟨by decide, by decide⟩ rfl wlX4_70 wtX4_isSmall rfl (nle rfl) (nle rfl) rfl ?_
        refine w_isSmall  rj (fun z11 rz11 => ?_)
        refine rI ?_
        refine g_ifZ_eq 32 28 dX4_isMoreOf_25 rfl rfl (rg01 rz11) (fun c12 => ?_) (fun c12 => ?_)
        · refine g_iconst (v := iZ (0)) 33 dX4_isMoreOf_32 rfl rfl ?_
          refine g_zret rfl z01_0 dX4_isMoreOf_33 ?_
          exact k (0) (Or.inl rfl)
        · refine g_iconst (v := iZ (1)) 29 dX4_isMoreOf_28 rfl rfl ?_
          refine g_goto 33 dX4_isMoreOf_29 rfl ?_
          refine g_zret rfl z01_1 dX4_isMoreOf_33 ?_
          exact k (1) (Or.inr rfl)
set_option maxRecDepth 100000 in
theorem w_tok_l {l : Launch} {Q : Option Value → MH → Prop} {t : Nat} {tn i : Int} {tf : Nat → Int} (otf : okr tf) (rtn : rg tn) (ri : rg i) : ∀ (m0 : Nat) (h : MH) (u j : Int), (tn - j).toNat = m0 → h[t]? = some (.inr (5, [.ref (t + 1), .int (iZ tn)])) → h[t + 1]? = some (.inl (0, 200, .inl (zA tf))) → rg u → rg j → (∀ (r : Int), rg r → Q (some (.int (iZ r))) h) → Go l mX4_tokenSigns 23 [some (.ref t), some (.int (iZ i)), some (.int (iZ u)), some (.int (iZ j))] [] h Q := by
  intro m0
  induction m0 using Nat.strongRecOn with
  | ind m0 ih =>
    intro h u j hmz F0 F1 ru rj k
    refine g_iload_n 24 dX4_tokenSigns_23 rfl rfl ?_
    refine g_aload_n 25 dX4_tokenSigns_24 rfl rfl ?_
    refine g_get 28 dX4_tokenSigns_25 faX4_34_X6 F0 rfl rfl ?_
    refine g_icZ_ge 49 31 dX4_tokenSigns_28 rfl rfl rj rtn (fun c1 => ?_) (fun c1 => ?_)
    · refine g_iload_n 50 dX4_tokenSigns_49 rfl rfl ?_
      refine g_iload_n 51 dX4_tokenSigns_50 rfl rfl ?_
      refine g_isub 52 dX4_tokenSigns_51 rfl ?_
      refine Go.genZ (fun z2 rz2 => ?_)
      refine g_iret rfl dX4_tokenSigns_52 ?_
      exact k (z2) rz2
    · refine g_iload_n 32 dX4_tokenSigns_31 rfl rfl ?_
      refine g_aload_n 33 dX4_tokenSigns_32 rfl rfl ?_
      refine g_iload_n 34 dX4_tokenSigns_33 rfl rfl ?_
      refine g_callV (z := mX6_at) (As := [.int (iZ j)]) 37 dX4_tokenSigns_34 mwX6_at ⟨by decide, by decide⟩ rfl wlX4_56 wiX6_at wsX6_at F0 rfl rfl rfl (nle rfl) (nle rfl) rfl ?_
      refine w_tat  F0 F1 otf rtn rj (fun z3 rz3 => ?_)
      refine rI ?_
      refine g_callS (z := mX4_isMoreOf) (As := [.int (iZ u), .int (iZ z3)]) 40 dX4_tokenSigns_37 mwX4_isMoreOf ⟨by decide, by decide⟩ rfl wlX4_63 wtX4_isMoreOf rfl (nle rfl) (nle rfl) rfl ?_
      refine w_isMoreOf  ru rz3 (fun z4 rz4 => ?_)
      refine rI ?_
      refine g_ifZ_eq 49 43 dX4_tokenSigns_40 rfl rfl (rg01 rz4) (fun c5 => ?_) (fun c5 => ?_)
      · refine g_iload_n 50 dX4_tokenSigns_49 rfl rfl ?_
        refine g_iload_n 51 dX4_tokenSigns_50 rfl rfl ?_
        refine g_isub 52 dX4_tokenSigns_51 rfl ?_
        refine Go.genZ (fun z6 rz6 => ?_)
        refine g_iret rfl dX4_tokenSigns_52 ?_
        exact k (z6) rz6
      · refine g_iincZ [some (.ref t), some (.int (iZ i)), some (.int (iZ u)), some (.int (iZ (j + 1)))] 46 dX4_tokenSigns_43 rfl (by omega) (by decide) rfl rfl rfl ?_
        refine g_goto 23 dX4_tokenSigns_46 rfl ?_
        exact ih _ (by omega) _ (u) (j + 1) rfl F0 F1 ru (by omega) k
set_option maxRecDepth 100000 in
theorem w_tok {l : Launch} {h : MH} {Q : Option Value → MH → Prop} {t : Nat} {tn i : Int} {tf : Nat → Int} (F0 : h[t]? = some (.inr (5, [.ref (t + 1), .int (iZ tn)]))) (F1 : h[t + 1]? = some (.inl (0, 200, .inl (zA tf)))) (otf : okr tf) (rtn : rg tn) (ri : rg i) (k : ∀ (r : Int), rg r → Q (some (.int (iZ r))) h) : Go l mX4_tokenSigns 0 [some (.ref t), some (.int (iZ i)), none, none] [] h Q := by
  refine g_aload_n 1 dX4_tokenSigns_0 rfl rfl ?_
  refine g_iload_n 2 dX4_tokenSigns_1 rfl rfl ?_
  refine g_callV (z := mX6_at) (As := [.int (iZ i)]) 5 dX4_tokenSigns_2 mwX6_at ⟨by decide, by decide⟩ rfl wlX4_56 wiX6_at wsX6_at F0 rfl rfl rfl (nle rfl) (nle rfl) rfl ?_
  refine w_tat  F0 F1 otf rtn ri (fun z1 rz1 => ?_)
  refine rI ?_
  refine g_istore_n (L1 := [some (.ref t), some (.int (iZ i)), some (.int (iZ z1)), none]) 6 dX4_tokenSigns_5 (by decide) rfl rfl rfl ?_
  refine g_iload_n 7 dX4_tokenSigns_6 rfl rfl ?_
  refine g_bipush (v := iZ (58)) 9 dX4_tokenSigns_7 (by decide +kernel) rfl ?_
  refine g_icZ_eq 19 12 dX4_tokenSigns_9 rfl rfl rz1 (by decide) (fun c2 => ?_) (fun c2 => ?_)
  · refine g_iconst (v := iZ (1)) 20 dX4_tokenSigns_19 rfl rfl ?_
    refine g_iret rfl dX4_tokenSigns_20 ?_
    exact k (1) (by decide)
  · refine g_iload_n 13 dX4_tokenSigns_12 rfl rfl ?_
    refine g_callS (z := mX4_isLetter) (As := [.int (iZ z1)]) 16 dX4_tokenSigns_13 mwX4_isLetter ⟨by decide, by decide⟩ rfl wlX4_59 wtX4_isLetter rfl (nle rfl) (nle rfl) rfl ?_
    refine w_isLetter  rz1 (fun z3 rz3 => ?_)
    refine rI ?_
    refine g_ifZ_eq 21 19 dX4_tokenSigns_16 rfl rfl (rg01 rz3) (fun c4 => ?_) (fun c4 => ?_)
    · refine g_iload_n 22 dX4_tokenSigns_21 rfl rfl ?_
      refine g_istore_n (L1 := [some (.ref t), some (.int (iZ i)), some (.int (iZ z1)), some (.int (iZ i))]) 23 dX4_tokenSigns_22 (by decide) rfl rfl rfl ?_
      exact w_tok_l otf rtn ri _ _ (z1) (i) rfl F0 F1 rz1 ri k
    · refine g_iconst (v := iZ (1)) 20 dX4_tokenSigns_19 rfl rfl ?_
      refine g_iret rfl dX4_tokenSigns_20 ?_
      exact k (1) (by decide)
set_option maxRecDepth 100000 in
theorem w_val_l {l : Launch} {Q : Option Value → MH → Prop} {t : Nat} {tn i k0 : Int} {tf : Nat → Int} (otf : okr tf) (rtn : rg tn) (ri : rg i) (rk0 : rg k0) : ∀ (m0 : Nat) (h : MH) (u j : Int), (k0 - j).toNat = m0 → h[t]? = some (.inr (5, [.ref (t + 1), .int (iZ tn)])) → h[t + 1]? = some (.inl (0, 200, .inl (zA tf))) → rg u → rg j → (∀ (r : Int), rg r → Q (some (.int (iZ r))) h) → Go l mX4_valueOf 28 [some (.ref t), some (.int (iZ i)), some (.int (iZ k0)), some (.int (iZ u)), some (.int (iZ j))] [] h Q := by
  intro m0
  induction m0 using Nat.strongRecOn with
  | ind m0 ih =>
    intro h u j hmz F0 F1 ru rj k
    refine g_iload 30 dX4_valueOf_28 rfl rfl ?_
    refine g_iload_n 31 dX4_valueOf_30 rfl rfl ?_
    refine g_icZ_ge 57 34 dX4_valueOf_31 rfl rfl rj rk0 (fun c1 => ?_) (fun c1 => ?_)
    · refine g_iload_n 58 dX4_valueOf_57 rfl rfl ?_
      refine g_sipush (v := iZ (255)) 61 dX4_valueOf_58 (by decide +kernel) rfl ?_
      refine g_icZ_le 69 64 dX4_valueOf_61 rfl rfl ru (by decide) (fun c2 => ?_) (fun c2 => ?_)
      · refine g_iload_n 70 dX4_valueOf_69 rfl rfl ?_
        refine g_iret rfl dX4_valueOf_70 ?_
        exact k (u) ru
      · refine g_bipush (v := iZ (-9)) 66 dX4_valueOf_64 (by decide +kernel) rfl ?_
        refine g_goto 70 dX4_valueOf_66 rfl ?_
        refine g_iret rfl dX4_valueOf_70 ?_
        exact k (-9) (by decide)
    · refine g_bipush (v := iZ (10)) 36 dX4_valueOf_34 (by decide +kernel) rfl ?_
      refine g_iload_n 37 dX4_valueOf_36 rfl rfl ?_
      refine g_imul 38 dX4_valueOf_37 rfl ?_
      refine Go.genZ (fun z3 rz3 => ?_)
      refine g_aload_n 39 dX4_valueOf_38 rfl rfl ?_
      refine g_iload_n 40 dX4_valueOf_39 rfl rfl ?_
      refine g_iload 42 dX4_valueOf_40 rfl rfl ?_
      refine g_iadd 43 dX4_valueOf_42 rfl ?_
      refine Go.genZ (fun z4 rz4 => ?_)
      refine g_callV (z := mX6_at) (As := [.int (iZ z4)]) 46 dX4_valueOf_43 mwX6_at ⟨by decide, by decide⟩ rfl wlX4_56 wiX6_at wsX6_at F0 rfl rfl rfl (nle rfl) (nle rfl) rfl ?_
      refine w_tat  F0 F1 otf rtn rz4 (fun z5 rz5 => ?_)
      refine rI ?_
      refine g_iadd 47 dX4_valueOf_46 rfl ?_
      refine Go.genZ (fun z6 rz6 => ?_)
      refine g_bipush (v := iZ (48)) 49 dX4_valueOf_47 (by decide +kernel) rfl ?_
      refine g_isub 50 dX4_valueOf_49 rfl ?_
      refine Go.genZ (fun z7 rz7 => ?_)
      refine g_istore_n (L1 := [some (.ref t), some (.int (iZ i)), some (.int (iZ k0)), some (.int (iZ z7)), some (.int (iZ j))]) 51 dX4_valueOf_50 (by decide) rfl rfl rfl ?_
      refine g_iincZ [some (.ref t), some (.int (iZ i)), some (.int (iZ k0)), some (.int (iZ z7)), some (.int (iZ (j + 1)))] 54 dX4_valueOf_51 rfl (by omega) (by decide) rfl rfl rfl ?_
      refine g_goto 28 dX4_valueOf_54 rfl ?_
      exact ih _ (by omega) _ (z7) (j + 1) rfl F0 F1 rz7 (by omega) k
set_option maxRecDepth 100000 in
theorem w_val {l : Launch} {h : MH} {Q : Option Value → MH → Prop} {t : Nat} {tn i k0 : Int} {tf : Nat → Int} (F0 : h[t]? = some (.inr (5, [.ref (t + 1), .int (iZ tn)]))) (F1 : h[t + 1]? = some (.inl (0, 200, .inl (zA tf)))) (otf : okr tf) (rtn : rg tn) (ri : rg i) (rk0 : rg k0) (k : ∀ (r : Int), rg r → Q (some (.int (iZ r))) h) : Go l mX4_valueOf 0 [some (.ref t), some (.int (iZ i)), some (.int (iZ k0)), none, none] [] h Q := by
  refine g_iload_n 1 dX4_valueOf_0 rfl rfl ?_
  refine g_iconst (v := iZ (3)) 2 dX4_valueOf_1 rfl rfl ?_
  refine g_icZ_gt 20 5 dX4_valueOf_2 rfl rfl rk0 (by decide) (fun c1 => ?_) (fun c1 => ?_)
  · refine g_bipush (v := iZ (-9)) 22 dX4_valueOf_20 (by decide +kernel) rfl ?_
    refine g_iret rfl dX4_valueOf_22 ?_
    exact k (-9) (by decide)
  · refine g_iload_n 6 dX4_valueOf_5 rfl rfl ?_
    refine g_iconst (v := iZ (1)) 7 dX4_valueOf_6 rfl rfl ?_
    refine g_icZ_le 23 10 dX4_valueOf_7 rfl rfl rk0 (by decide) (fun c2 => ?_) (fun c2 => ?_)
    · refine g_iconst (v := iZ (0)) 24 dX4_valueOf_23 rfl rfl ?_
      refine g_istore_n (L1 := [some (.ref t), some (.int (iZ i)), some (.int (iZ k0)), some (.int (iZ 0)), none]) 25 dX4_valueOf_24 (by decide) rfl rfl rfl ?_
      refine g_iconst (v := iZ (0)) 26 dX4_valueOf_25 rfl rfl ?_
      refine g_istore (L1 := [some (.ref t), some (.int (iZ i)), some (.int (iZ k0)), some (.int (iZ 0)), some (.int (iZ 0))]) 28 dX4_valueOf_26 (by decide) rfl rfl rfl ?_
      exact w_val_l otf rtn ri rk0 _ _ (0) (0) rfl F0 F1 rg_0 rg_0 k
    · refine g_aload_n 11 dX4_valueOf_10 rfl rfl ?_
      refine g_iload_n 12 dX4_valueOf_11 rfl rfl ?_
      refine g_callV (z := mX6_at) (As := [.int (iZ i)]) 15 dX4_valueOf_12 mwX6_at ⟨by decide, by decide⟩ rfl wlX4_56 wiX6_at wsX6_at F0 rfl rfl rfl (nle rfl) (nle rfl) rfl ?_
      refine w_tat  F0 F1 otf rtn ri (fun z3 rz3 => ?_)
      refine rI ?_
      refine g_bipush (v := iZ (48)) 17 dX4_valueOf_15 (by decide +kernel) rfl ?_
      refine g_icZ_ne 23 20 dX4_valueOf_17 rfl rfl rz3 (by decide) (fun c4 => ?_) (fun c4 => ?_)
      · refine g_iconst (v := iZ (0)) 24 dX4_valueOf_23 rfl rfl ?_
        refine g_istore_n (L1 := [some (.ref t), some (.int (iZ i)), some (.int (iZ k0)), some (.int (iZ 0)), none]) 25 dX4_valueOf_24 (by decide) rfl rfl rfl ?_
        refine g_iconst (v := iZ (0)) 26 dX4_valueOf_25 rfl rfl ?_
        refine g_istore (L1 := [some (.ref t), some (.int (iZ i)), some (.int (iZ k0)), some (.int (iZ 0)), some (.int (iZ 0))]) 28 dX4_valueOf_26 (by decide) rfl rfl rfl ?_
        exact w_val_l otf rtn ri rk0 _ _ (0) (0) rfl F0 F1 rg_0 rg_0 k
      · refine g_bipush (v := iZ (-9)) 22 dX4_valueOf_20 (by decide +kernel) rfl ?_
        refine g_iret rfl dX4_valueOf_22 ?_
        exact k (-9) (by decide)
set_option maxRecDepth 100000 in
theorem w_word_l {l : Launch} {Q : Option Value → MH → Prop} {t : Nat} {tn i k0 : Int} {tf : Nat → Int} (otf : okr tf) (rtn : rg tn) (ri : rg i) (rk0 : rg k0) : ∀ (m0 : Nat) (h : MH) (w al j : Int), ((17 - w) * 7 + (5 - j)).toNat = m0 → h[t]? = some (.inr (5, [.ref (t + 1), .int (iZ tn)])) → h[t + 1]? = some (.inl (0, 200, .inl (zA tf))) → 0 ≤ w ∧ w < 17 → 0 ≤ al ∧ al ≤ 6 → 0 ≤ j ∧ j ≤ 5 → (∀ (r : Int), rg r → Q (some (.int (iZ r))) h) → Go l mX4_wordOf 22 [some (.ref t), some (.int (iZ i)), some (.int (iZ k0)), some (.int (iZ w)), some (.int (iZ al)), some (.int (iZ j)), none, none] [] h Q := by
  intro m0
  induction m0 using Nat.strongRecOn with
  | ind m0 ih =>
    intro h w al j hmz F0 F1 hw hal hj k
    refine g_iload 24 dX4_wordOf_22 rfl rfl ?_
    refine g_iconst (v := iZ (5)) 25 dX4_wordOf_24 rfl rfl ?_
    refine g_icZ_ge 95 28 dX4_wordOf_25 rfl rfl (by omega) (by decide) (fun c1 => ?_) (fun c1 => ?_)
    · refine g_iload 97 dX4_wordOf_95 rfl rfl ?_
      refine g_iconst (v := iZ (5)) 98 dX4_wordOf_97 rfl rfl ?_
      refine g_icZ_ne 103 101 dX4_wordOf_98 rfl rfl (by omega) (by decide) (fun c2 => ?_) (fun c2 => ?_)
      · refine g_iincZ [some (.ref t), some (.int (iZ i)), some (.int (iZ k0)), some (.int (iZ (w + 1))), some (.int (iZ al)), some (.int (iZ j)), none, none] 106 dX4_wordOf_103 rfl (by omega) (by decide) rfl rfl rfl ?_
        refine g_goto 10 dX4_wordOf_106 rfl ?_
        refine g_iload_n 11 dX4_wordOf_10 rfl rfl ?_
        refine g_bipush (v := iZ (17)) 13 dX4_wordOf_11 (by decide +kernel) rfl ?_
        refine g_icZ_ge 109 16 dX4_wordOf_13 rfl rfl (by omega) (by decide) (fun c3 => ?_) (fun c3 => ?_)
        · refine g_bipush (v := iZ (-9)) 111 dX4_wordOf_109 (by decide +kernel) rfl ?_
          refine g_iret rfl dX4_wordOf_111 ?_
          exact k (-9) (by decide)
        · refine g_iconst (v := iZ (0)) 17 dX4_wordOf_16 rfl rfl ?_
          refine g_istore (L1 := [some (.ref t), some (.int (iZ i)), some (.int (iZ k0)), some (.int (iZ (w + 1))), some (.int (iZ 0)), some (.int (iZ j)), none, none]) 19 dX4_wordOf_17 (by decide) rfl rfl rfl ?_
          refine g_iconst (v := iZ (0)) 20 dX4_wordOf_19 rfl rfl ?_
          refine g_istore (L1 := [some (.ref t), some (.int (iZ i)), some (.int (iZ k0)), some (.int (iZ (w + 1))), some (.int (iZ 0)), some (.int (iZ 0)), none, none]) 22 dX4_wordOf_20 (by decide) rfl rfl rfl ?_
          exact ih _ (by omega) _ (w + 1) (0) (0) rfl F0 F1 (by omega) (by omega) (by omega) k
      · refine g_iload_n 102 dX4_wordOf_101 rfl rfl ?_
        refine g_iret rfl dX4_wordOf_102 ?_
        exact k (w) (by omega)
    · refine g_iload 30 dX4_wordOf_28 rfl rfl ?_
      refine g_iload 32 dX4_wordOf_30 rfl rfl ?_
      refine g_icZ_ne 95 35 dX4_wordOf_32 rfl rfl (by omega) (by omega) (fun c4 => ?_) (fun c4 => ?_)
      · refine g_iload 97 dX4_wordOf_95 rfl rfl ?_
        refine g_iconst (v := iZ (5)) 98 dX4_wordOf_97 rfl rfl ?_
        refine g_icZ_ne 103 101 dX4_wordOf_98 rfl rfl (by omega) (by decide) (fun c5 => ?_) (fun c5 => ?_)
        · refine g_iincZ [some (.ref t), some (.int (iZ i)), some (.int (iZ k0)), some (.int (iZ (w + 1))), some (.int (iZ al)), some (.int (iZ j)), none, none] 106 dX4_wordOf_103 rfl (by omega) (by decide) rfl rfl rfl ?_
          refine g_goto 10 dX4_wordOf_106 rfl ?_
          refine g_iload_n 11 dX4_wordOf_10 rfl rfl ?_
          refine g_bipush (v := iZ (17)) 13 dX4_wordOf_11 (by decide +kernel) rfl ?_
          refine g_icZ_ge 109 16 dX4_wordOf_13 rfl rfl (by omega) (by decide) (fun c6 => ?_) (fun c6 => ?_)
          · refine g_bipush (v := iZ (-9)) 111 dX4_wordOf_109 (by decide +kernel) rfl ?_
            refine g_iret rfl dX4_wordOf_111 ?_
            exact k (-9) (by decide)
          · refine g_iconst (v := iZ (0)) 17 dX4_wordOf_16 rfl rfl ?_
            refine g_istore (L1 := [some (.ref t), some (.int (iZ i)), some (.int (iZ k0)), some (.int (iZ (w + 1))), some (.int (iZ 0)), some (.int (iZ j)), none, none]) 19 dX4_wordOf_17 (by decide) rfl rfl rfl ?_
            refine g_iconst (v := iZ (0)) 20 dX4_wordOf_19 rfl rfl ?_
            refine g_istore (L1 := [some (.ref t), some (.int (iZ i)), some (.int (iZ k0)), some (.int (iZ (w + 1))), some (.int (iZ 0)), some (.int (iZ 0)), none, none]) 22 dX4_wordOf_20 (by decide) rfl rfl rfl ?_
            exact ih _ (by omega) _ (w + 1) (0) (0) rfl F0 F1 (by omega) (by omega) (by omega) k
        · refine g_iload_n 102 dX4_wordOf_101 rfl rfl ?_
          refine g_iret rfl dX4_wordOf_102 ?_
          exact k (w) (by omega)
      · refine g_iconst (v := iZ (5)) 36 dX4_wordOf_35 rfl rfl ?_
        refine g_iload_n 37 dX4_wordOf_36 rfl rfl ?_
        refine g_imulZ (5 * w) 38 dX4_wordOf_37 (by omega) rfl ?_
        refine g_iload 40 dX4_wordOf_38 rfl rfl ?_
        refine g_iaddZ ((5 * w) + j) 41 dX4_wordOf_40 (by omega) rfl ?_
        refine g_istore (L1 := [some (.ref t), some (.int (iZ i)), some (.int (iZ k0)), some (.int (iZ w)), some (.int (iZ al)), some (.int (iZ j)), some (.int (iZ ((5 * w) + j))), none]) 43 dX4_wordOf_41 (by decide) rfl rfl rfl ?_
        refine g_iload 45 dX4_wordOf_43 rfl rfl ?_
        refine g_iload_n 46 dX4_wordOf_45 rfl rfl ?_
        refine g_icZ_ge 60 49 dX4_wordOf_46 rfl rfl (by omega) rk0 (fun c7 => ?_) (fun c7 => ?_)
        · refine g_bipush (v := iZ (32)) 62 dX4_wordOf_60 (by decide +kernel) rfl ?_
          refine g_istore (L1 := [some (.ref t), some (.int (iZ i)), some (.int (iZ k0)), some (.int (iZ w)), some (.int (iZ al)), some (.int (iZ j)), some (.int (iZ ((5 * w) + j))), some (.int (iZ 32))]) 64 dX4_wordOf_62 (by decide) rfl rfl rfl ?_
          refine g_iload 66 dX4_wordOf_64 rfl rfl ?_
          refine g_slen 71 dX4_wordOf_66 dX4_wordOf_68 rfl ⟨by decide, by decide⟩ (nle rfl) rfl ?_
          refine g_icZ_ge 89 74 dX4_wordOf_71 rfl rfl (by omega) (by decide) (fun c8 => ?_) (fun c8 => ?_)
          · refine g_iincZ [some (.ref t), some (.int (iZ i)), some (.int (iZ k0)), some (.int (iZ w)), some (.int (iZ al)), some (.int (iZ (j + 1))), some (.int (iZ ((5 * w) + j))), some (.int (iZ 32))] 92 dX4_wordOf_89 rfl (by omega) (by decide) rfl rfl rfl ?_
            refine g_goto 22 dX4_wordOf_92 rfl ?_
            refine Go.fgt 6 ?_
            refine Go.fgt 7 ?_
            exact ih _ (by omega) _ (w) (al) (j + 1) rfl F0 F1 (by omega) (by omega) (by omega) k
          · refine g_schr 81 dX4_wordOf_74 dX4_wordOf_76 dX4_wordOf_78 rfl (by omega) (by omega) rfl ⟨by decide, by decide⟩ (nle rfl) rfl ?_
            refine Go.genZ (fun z9 rz9 => ?_)
            refine g_iload 83 dX4_wordOf_81 rfl rfl ?_
            refine g_icZ_ne 89 86 dX4_wordOf_83 rfl rfl rz9 (by decide) (fun c10 => ?_) (fun c10 => ?_)
            · refine g_iincZ [some (.ref t), some (.int (iZ i)), some (.int (iZ k0)), some (.int (iZ w)), some (.int (iZ al)), some (.int (iZ (j + 1))), some (.int (iZ ((5 * w) + j))), some (.int (iZ 32))] 92 dX4_wordOf_89 rfl (by omega) (by decide) rfl rfl rfl ?_
              refine g_goto 22 dX4_wordOf_92 rfl ?_
              refine Go.fgt 6 ?_
              refine Go.fgt 7 ?_
              exact ih _ (by omega) _ (w) (al) (j + 1) rfl F0 F1 (by omega) (by omega) (by omega) k
            · refine g_iincZ [some (.ref t), some (.int (iZ i)), some (.int (iZ k0)), some (.int (iZ w)), some (.int (iZ (al + 1))), some (.int (iZ j)), some (.int (iZ ((5 * w) + j))), some (.int (iZ 32))] 89 dX4_wordOf_86 rfl (by omega) (by decide) rfl rfl rfl ?_
              refine g_iincZ [some (.ref t), some (.int (iZ i)), some (.int (iZ k0)), some (.int (iZ w)), some (.int (iZ (al + 1))), some (.int (iZ (j + 1))), some (.int (iZ ((5 * w) + j))), some (.int (iZ 32))] 92 dX4_wordOf_89 rfl (by omega) (by decide) rfl rfl rfl ?_
              refine g_goto 22 dX4_wordOf_92 rfl ?_
              refine Go.fgt 6 ?_
              refine Go.fgt 7 ?_
              exact ih _ (by omega) _ (w) (al + 1) (j + 1) rfl F0 F1 (by omega) (by omega) (by omega) k
        · refine g_aload_n 50 dX4_wordOf_49 rfl rfl ?_
          refine g_iload_n 51 dX4_wordOf_50 rfl rfl ?_
          refine g_iload 53 dX4_wordOf_51 rfl rfl ?_
          refine g_iadd 54 dX4_wordOf_53 rfl ?_
          refine Go.genZ (fun z11 rz11 => ?_)
          refine g_callV (z := mX6_at) (As := [.int (iZ z11)]) 57 dX4_wordOf_54 mwX6_at ⟨by decide, by decide⟩ rfl wlX4_56 wiX6_at wsX6_at F0 rfl rfl rfl (nle rfl) (nle rfl) rfl ?_
          refine w_tat  F0 F1 otf rtn rz11 (fun z12 rz12 => ?_)
          refine rI ?_
          refine g_goto 62 dX4_wordOf_57 rfl ?_
          refine g_istore (L1 := [some (.ref t), some (.int (iZ i)), some (.int (iZ k0)), some (.int (iZ w)), some (.int (iZ al)), some (.int (iZ j)), some (.int (iZ ((5 * w) + j))), some (.int (iZ z12))]) 64 dX4_wordOf_62 (by decide) rfl rfl rfl ?_
          refine g_iload 66 dX4_wordOf_64 rfl rfl ?_
          refine g_slen 71 dX4_wordOf_66 dX4_wordOf_68 rfl ⟨by decide, by decide⟩ (nle rfl) rfl ?_
          refine g_icZ_ge 89 74 dX4_wordOf_71 rfl rfl (by omega) (by decide) (fun c13 => ?_) (fun c13 => ?_)
          · refine g_iincZ [some (.ref t), some (.int (iZ i)), some (.int (iZ k0)), some (.int (iZ w)), some (.int (iZ al)), some (.int (iZ (j + 1))), some (.int (iZ ((5 * w) + j))), some (.int (iZ z12))] 92 dX4_wordOf_89 rfl (by omega) (by decide) rfl rfl rfl ?_
            refine g_goto 22 dX4_wordOf_92 rfl ?_
            refine Go.fgt 6 ?_
            refine Go.fgt 7 ?_
            exact ih _ (by omega) _ (w) (al) (j + 1) rfl F0 F1 (by omega) (by omega) (by omega) k
          · refine g_schr 81 dX4_wordOf_74 dX4_wordOf_76 dX4_wordOf_78 rfl (by omega) (by omega) rfl ⟨by decide, by decide⟩ (nle rfl) rfl ?_
            refine Go.genZ (fun z14 rz14 => ?_)
            refine g_iload 83 dX4_wordOf_81 rfl rfl ?_
            refine g_icZ_ne 89 86 dX4_wordOf_83 rfl rfl rz14 rz12 (fun c15 => ?_) (fun c15 => ?_)
            · refine g_iincZ [some (.ref t), some (.int (iZ i)), some (.int (iZ k0)), some (.int (iZ w)), some (.int (iZ al)), some (.int (iZ (j + 1))), some (.int (iZ ((5 * w) + j))), some (.int (iZ z12))] 92 dX4_wordOf_89 rfl (by omega) (by decide) rfl rfl rfl ?_
              refine g_goto 22 dX4_wordOf_92 rfl ?_
              refine Go.fgt 6 ?_
              refine Go.fgt 7 ?_
              exact ih _ (by omega) _ (w) (al) (j + 1) rfl F0 F1 (by omega) (by omega) (by omega) k
            · refine g_iincZ [some (.ref t), some (.int (iZ i)), some (.int (iZ k0)), some (.int (iZ w)), some (.int (iZ (al + 1))), some (.int (iZ j)), some (.int (iZ ((5 * w) + j))), some (.int (iZ z12))] 89 dX4_wordOf_86 rfl (by omega) (by decide) rfl rfl rfl ?_
              refine g_iincZ [some (.ref t), some (.int (iZ i)), some (.int (iZ k0)), some (.int (iZ w)), some (.int (iZ (al + 1))), some (.int (iZ (j + 1))), some (.int (iZ ((5 * w) + j))), some (.int (iZ z12))] 92 dX4_wordOf_89 rfl (by omega) (by decide) rfl rfl rfl ?_
              refine g_goto 22 dX4_wordOf_92 rfl ?_
              refine Go.fgt 6 ?_
              refine Go.fgt 7 ?_
              exact ih _ (by omega) _ (w) (al + 1) (j + 1) rfl F0 F1 (by omega) (by omega) (by omega) k
set_option maxRecDepth 100000 in
theorem w_word {l : Launch} {h : MH} {Q : Option Value → MH → Prop} {t : Nat} {tn i k0 : Int} {tf : Nat → Int} (F0 : h[t]? = some (.inr (5, [.ref (t + 1), .int (iZ tn)]))) (F1 : h[t + 1]? = some (.inl (0, 200, .inl (zA tf)))) (otf : okr tf) (rtn : rg tn) (ri : rg i) (rk0 : rg k0) (k : ∀ (r : Int), rg r → Q (some (.int (iZ r))) h) : Go l mX4_wordOf 0 [some (.ref t), some (.int (iZ i)), some (.int (iZ k0)), none, none, none, none, none] [] h Q := by
  refine g_iload_n 1 dX4_wordOf_0 rfl rfl ?_
  refine g_iconst (v := iZ (5)) 2 dX4_wordOf_1 rfl rfl ?_
  refine g_icZ_le 8 5 dX4_wordOf_2 rfl rfl rk0 (by decide) (fun c1 => ?_) (fun c1 => ?_)
  · refine g_iconst (v := iZ (0)) 9 dX4_wordOf_8 rfl rfl ?_
    refine g_istore_n (L1 := [some (.ref t), some (.int (iZ i)), some (.int (iZ k0)), some (.int (iZ 0)), none, none, none, none]) 10 dX4_wordOf_9 (by decide) rfl rfl rfl ?_
    refine g_iload_n 11 dX4_wordOf_10 rfl rfl ?_
    refine g_bipush (v := iZ (17)) 13 dX4_wordOf_11 (by decide +kernel) rfl ?_
    refine g_icZ_ge 109 16 dX4_wordOf_13 rfl rfl (by decide) (by decide) (fun q => absurd q (by decide)) (fun _ => ?_)
    refine g_iconst (v := iZ (0)) 17 dX4_wordOf_16 rfl rfl ?_
    refine g_istore (L1 := [some (.ref t), some (.int (iZ i)), some (.int (iZ k0)), some (.int (iZ 0)), some (.int (iZ 0)), none, none, none]) 19 dX4_wordOf_17 (by decide) rfl rfl rfl ?_
    refine g_iconst (v := iZ (0)) 20 dX4_wordOf_19 rfl rfl ?_
    refine g_istore (L1 := [some (.ref t), some (.int (iZ i)), some (.int (iZ k0)), some (.int (iZ 0)), some (.int (iZ 0)), some (.int (iZ 0)), none, none]) 22 dX4_wordOf_20 (by decide) rfl rfl rfl ?_
    exact w_word_l otf rtn ri rk0 _ _ (0) (0) (0) rfl F0 F1 (by omega) (by omega) (by omega) k
  · refine g_bipush (v := iZ (-9)) 7 dX4_wordOf_5 (by decide +kernel) rfl ?_
    refine g_iret rfl dX4_wordOf_7 ?_
    exact k (-9) (by decide)
set_option maxRecDepth 100000 in
theorem w_tcol {l : Launch} {h : MH} {Q : Option Value → MH → Prop} {due la i : Int} (F0 : h[9]? = some (.inr (3, [.ref 10, .ref 13, .ref 14, .int (iZ due), .int (iZ la)]))) (rdue : rg due) (rla : rg la) (ri : rg i) (k : ∀ (h1 : MH) (due_1 la_1 : Int) (r : Int), rg due_1 → rg la_1 → (r = 0 ∨ r = 1) → Sm [9] h h1 → h1[9]? = some (.inr (3, [.ref 10, .ref 13, .ref 14, .int (iZ due_1), .int (iZ la_1)])) → Q (some (.int (iZ r))) h1) : Go l mX4_takesColon 0 [some (.ref 9), some (.int (iZ i))] [] h Q := by
  refine g_aload_n 1 dX4_takesColon_0 rfl rfl ?_
  refine g_get 4 dX4_takesColon_1 faX4_18_X4 F0 rfl rfl ?_
  refine g_iconst (v := iZ (1)) 5 dX4_takesColon_4 rfl rfl ?_
  refine g_icZ_ne 18 8 dX4_takesColon_5 rfl rfl rdue (by decide) (fun c1 => ?_) (fun c1 => ?_)
  · refine g_iconst (v := iZ (0)) 19 dX4_takesColon_18 rfl rfl ?_
    refine g_zret rfl z01_0 dX4_takesColon_19 ?_
    exact k _ (due) (la) (0) rdue rla (Or.inl rfl) (Sm.refl [9] _) F0
  · refine g_iload_n 9 dX4_takesColon_8 rfl rfl ?_
    refine g_aload_n 10 dX4_takesColon_9 rfl rfl ?_
    refine g_get 13 dX4_takesColon_10 faX4_22_X4 F0 rfl rfl ?_
    refine g_iconst (v := iZ (1)) 14 dX4_takesColon_13 rfl rfl ?_
    refine g_iadd 15 dX4_takesColon_14 rfl ?_
    refine Go.genZ (fun z2 rz2 => ?_)
    refine g_icZ_eq 20 18 dX4_takesColon_15 rfl rfl ri rz2 (fun c3 => ?_) (fun c3 => ?_)
    · refine g_aload_n 21 dX4_takesColon_20 rfl rfl ?_
      refine g_iconst (v := iZ (0)) 22 dX4_takesColon_21 rfl rfl ?_
      refine g_putC (fs1 := [.ref 10, .ref 13, .ref 14, .int (iZ 0), .int (iZ la)]) 25 dX4_takesColon_22 fpX4_18_X4 F0 (nle rfl) (vI _) rfl rfl (fun h4 s5 f6 => ?_)
      refine g_iconst (v := iZ (1)) 26 dX4_takesColon_25 rfl rfl ?_
      refine g_zret rfl z01_1 dX4_takesColon_26 ?_
      exact k _ (0) (la) (1) (by decide) rla (Or.inr rfl) ((Sm.refl [9] _).tr s5 (fun _ q => q) (by simp)) f6
    · refine g_iconst (v := iZ (0)) 19 dX4_takesColon_18 rfl rfl ?_
      refine g_zret rfl z01_0 dX4_takesColon_19 ?_
      exact k _ (due) (la) (0) rdue rla (Or.inl rfl) (Sm.refl [9] _) F0
set_option maxRecDepth 100000 in
theorem w_tpl {l : Launch} {h : MH} {Q : Option Value → MH → Prop} {due la n i j : Int} {pl : Nat → Int} (F0 : h[9]? = some (.inr (3, [.ref 10, .ref 13, .ref 14, .int (iZ due), .int (iZ la)]))) (F1 : h[10]? = some (.inr (0, [.int (iZ 256), .ref 11, .ref 12, .int (iZ n)]))) (F2 : h[13]? = some (.inl (0, 26, .inl (zA pl)))) (opl : okr pl) (rdue : rg due) (rla : rg la) (rn : rg n) (ri : rg i) (rj : rg j) (k : ∀ (h1 : MH) (due_1 la_1 : Int) (pl_1 : Nat → Int) (r : Int), rg due_1 → rg la_1 → okr pl_1 → (r = 0 ∨ r = 1) → Sm [9, 13] h h1 → h1[9]? = some (.inr (3, [.ref 10, .ref 13, .ref 14, .int (iZ due_1), .int (iZ la_1)])) → h1[13]? = some (.inl (0, 26, .inl (zA pl_1))) → Q (some (.int (iZ r))) h1) : Go l mX4_takesPlace 0 [some (.ref 9), some (.int (iZ i)), some (.int (iZ j))] [] h Q := by
  refine g_aload_n 1 dX4_takesPlace_0 rfl rfl ?_
  refine g_get 4 dX4_takesPlace_1 faX4_18_X4 F0 rfl rfl ?_
  refine g_ifZ_ne 28 7 dX4_takesPlace_4 rfl rfl rdue (fun c1 => ?_) (fun c1 => ?_)
  · refine g_iconst (v := iZ (0)) 29 dX4_takesPlace_28 rfl rfl ?_
    refine g_zret rfl z01_0 dX4_takesPlace_29 ?_
    exact k _ (due) (la) (pl) (0) rdue rla opl (Or.inl rfl) (Sm.refl [9, 13] _) F0 F2
  · refine g_iload_n 8 dX4_takesPlace_7 rfl rfl ?_
    refine g_ifZ_lt 28 11 dX4_takesPlace_8 rfl rfl ri (fun c2 => ?_) (fun c2 => ?_)
    · refine g_iconst (v := iZ (0)) 29 dX4_takesPlace_28 rfl rfl ?_
      refine g_zret rfl z01_0 dX4_takesPlace_29 ?_
      exact k _ (due) (la) (pl) (0) rdue rla opl (Or.inl rfl) (Sm.refl [9, 13] _) F0 F2
    · refine g_iload_n 12 dX4_takesPlace_11 rfl rfl ?_
      refine g_bipush (v := iZ (26)) 14 dX4_takesPlace_12 (by decide +kernel) rfl ?_
      refine g_icZ_ge 28 17 dX4_takesPlace_14 rfl rfl ri (by decide) (fun c3 => ?_) (fun c3 => ?_)
      · refine g_iconst (v := iZ (0)) 29 dX4_takesPlace_28 rfl rfl ?_
        refine g_zret rfl z01_0 dX4_takesPlace_29 ?_
        exact k _ (due) (la) (pl) (0) rdue rla opl (Or.inl rfl) (Sm.refl [9, 13] _) F0 F2
      · refine g_aload_n 18 dX4_takesPlace_17 rfl rfl ?_
        refine g_get 21 dX4_takesPlace_18 faX4_11_X4 F0 rfl rfl ?_
        refine g_iload_n 22 dX4_takesPlace_21 rfl rfl ?_
        refine g_ialdW 23 dX4_takesPlace_22 F2 opl (by omega) (by omega) (by decide) rfl (fun v4 rv4 => ?_)
        refine g_bipush (v := iZ (-9)) 25 dX4_takesPlace_23 (by decide +kernel) rfl ?_
        refine g_icZ_eq 30 28 dX4_takesPlace_25 rfl rfl rv4 (by decide) (fun c5 => ?_) (fun c5 => ?_)
        · refine g_aload_n 31 dX4_takesPlace_30 rfl rfl ?_
          refine g_get 34 dX4_takesPlace_31 faX4_11_X4 F0 rfl rfl ?_
          refine g_iload_n 35 dX4_takesPlace_34 rfl rfl ?_
          refine g_aload_n 36 dX4_takesPlace_35 rfl rfl ?_
          refine g_get 39 dX4_takesPlace_36 faX4_45_X4 F0 rfl rfl ?_
          refine g_get 42 dX4_takesPlace_39 faX4_49_X0 F1 rfl rfl ?_
          refine g_iastW 43 dX4_takesPlace_42 F2 opl rn (by omega) (by omega) (by decide) rfl (fun h7 g6 og6 s8 f9 => ?_)
          refine g_aload_n 44 dX4_takesPlace_43 rfl rfl ?_
          refine g_iload_n 45 dX4_takesPlace_44 rfl rfl ?_
          have f10 := (s8.get (by decide) F0)
          refine g_putC (fs1 := [.ref 10, .ref 13, .ref 14, .int (iZ due), .int (iZ j)]) 48 dX4_takesPlace_45 fpX4_22_X4 f10 (nle rfl) (vI _) rfl rfl (fun h11 s12 f13 => ?_)
          refine g_aload_n 49 dX4_takesPlace_48 rfl rfl ?_
          refine g_iconst (v := iZ (1)) 50 dX4_takesPlace_49 rfl rfl ?_
          refine g_putC (fs1 := [.ref 10, .ref 13, .ref 14, .int (iZ 1), .int (iZ j)]) 53 dX4_takesPlace_50 fpX4_18_X4 f13 (nle rfl) (vI _) rfl rfl (fun h14 s15 f16 => ?_)
          refine g_iconst (v := iZ (1)) 54 dX4_takesPlace_53 rfl rfl ?_
          refine g_zret rfl z01_1 dX4_takesPlace_54 ?_
          have f17 := (s15.get (by decide) (s12.get (by decide) f9))
          exact k _ (1) (j) (g6) (1) (by decide) rj og6 (Or.inr rfl) ((((Sm.refl [9, 13] _).tr s8 (fun _ q => q) (by simp)).tr s12 (fun _ q => q) (by simp)).tr s15 (fun _ q => q) (by simp)) f16 f17
        · refine g_iconst (v := iZ (0)) 29 dX4_takesPlace_28 rfl rfl ?_
          refine g_zret rfl z01_0 dX4_takesPlace_29 ?_
          exact k _ (due) (la) (pl) (0) rdue rla opl (Or.inl rfl) (Sm.refl [9, 13] _) F0 F2
set_option maxRecDepth 100000 in
theorem w_tlet {l : Launch} {h : MH} {Q : Option Value → MH → Prop} {due la n i j : Int} {lu f g : Nat → Int} (F0 : h[9]? = some (.inr (3, [.ref 10, .ref 13, .ref 14, .int (iZ due), .int (iZ la)]))) (F1 : h[10]? = some (.inr (0, [.int (iZ 256), .ref 11, .ref 12, .int (iZ n)]))) (F2 : h[11]? = some (.inl (0, 256, .inl (zA f)))) (F3 : h[12]? = some (.inl (0, 256, .inl (zA g)))) (F4 : h[14]? = some (.inl (0, 256, .inl (zA lu)))) (of : okr f) (og : okr g) (olu : okr lu) (rdue : rg due) (rla : rg la) (rn : rg n) (ri : rg i) (rj : rg j) (k : ∀ (h1 : MH) (due_1 la_1 n_1 : Int) (f_1 g_1 lu_1 : Nat → Int) (r : Int), rg due_1 → rg la_1 → rg n_1 → okr f_1 → okr g_1 → okr lu_1 → (r = 0 ∨ r = 1) → Sm [9, 10, 11, 12, 14] h h1 → h1[9]? = some (.inr (3, [.ref 10, .ref 13, .ref 14, .int (iZ due_1), .int (iZ la_1)])) → h1[10]? = some (.inr (0, [.int (iZ 256), .ref 11, .ref 12, .int (iZ n_1)])) → h1[11]? = some (.inl (0, 256, .inl (zA f_1))) → h1[12]? = some (.inl (0, 256, .inl (zA g_1))) → h1[14]? = some (.inl (0, 256, .inl (zA lu_1))) → Q (some (.int (iZ r))) h1) : Go l mX4_takesLetter 0 [some (.ref 9), some (.int (iZ i)), some (.int (iZ j)), none] [] h Q := by
  refine g_aload_n 1 dX4_takesLetter_0 rfl rfl ?_
  refine g_get 4 dX4_takesLetter_1 faX4_45_X4 F0 rfl rfl ?_
  refine g_get 7 dX4_takesLetter_4 faX4_49_X0 F1 rfl rfl ?_
  refine g_istore_n (L1 := [some (.ref 9), some (.int (iZ i)), some (.int (iZ j)), some (.int (iZ n))]) 8 dX4_takesLetter_7 (by decide) rfl rfl rfl ?_
  refine g_iload_n 9 dX4_takesLetter_8 rfl rfl ?_
  refine g_ifZ_lt 19 12 dX4_takesLetter_9 rfl rfl rn (fun c1 => ?_) (fun c1 => ?_)
  · refine g_iconst (v := iZ (0)) 20 dX4_takesLetter_19 rfl rfl ?_
    refine g_zret rfl z01_0 dX4_takesLetter_20 ?_
    exact k _ (due) (la) (n) (f) (g) (lu) (0) rdue rla rn of og olu (Or.inl rfl) (Sm.refl [9, 10, 11, 12, 14] _) F0 F1 F2 F3 F4
  · refine g_iload_n 13 dX4_takesLetter_12 rfl rfl ?_
    refine g_sipush (v := iZ (256)) 16 dX4_takesLetter_13 (by decide +kernel) rfl ?_
    refine g_icZ_lt 21 19 dX4_takesLetter_16 rfl rfl rn (by decide) (fun c2 => ?_) (fun c2 => ?_)
    · refine g_aload_n 22 dX4_takesLetter_21 rfl rfl ?_
      refine g_get 25 dX4_takesLetter_22 faX4_15_X4 F0 rfl rfl ?_
      refine g_iload_n 26 dX4_takesLetter_25 rfl rfl ?_
      refine g_iload_n 27 dX4_takesLetter_26 rfl rfl ?_
      refine g_iastW 28 dX4_takesLetter_27 F4 olu ri (by omega) (by omega) (by decide) rfl (fun h4 g3 og3 s5 f6 => ?_)
      refine g_aload_n 29 dX4_takesLetter_28 rfl rfl ?_
      refine g_iconst (v := iZ (0)) 30 dX4_takesLetter_29 rfl rfl ?_
      have f7 := (s5.get (by decide) F0)
      refine g_putC (fs1 := [.ref 10, .ref 13, .ref 14, .int (iZ 0), .int (iZ la)]) 33 dX4_takesLetter_30 fpX4_18_X4 f7 (nle rfl) (vI _) rfl rfl (fun h8 s9 f10 => ?_)
      refine g_aload_n 34 dX4_takesLetter_33 rfl rfl ?_
      refine g_get 37 dX4_takesLetter_34 faX4_45_X4 f10 rfl rfl ?_
      refine g_iconst (v := iZ (0)) 38 dX4_takesLetter_37 rfl rfl ?_
      refine g_iload_n 39 dX4_takesLetter_38 rfl rfl ?_
      have f11 := (s9.get (by decide) (s5.get (by decide) F1))
      refine g_callV (z := mX0_add) (As := [.int (iZ 0), .int (iZ j)]) 42 dX4_takesLetter_39 mwX0_add ⟨by decide, by decide⟩ rfl wlX4_95 wiX0_add wsX0_add f11 rfl rfl rfl (nle rfl) (nle rfl) rfl ?_
      have f12 := (s9.get (by decide) (s5.get (by decide) F2))
      have f13 := (s9.get (by decide) (s5.get (by decide) F3))
      refine w_cadd (M := 256) f11 f12 f13 of og rn (by decide) rj (by decide) (fun h14 z16 g17 g18 z19 rz16 og17 og18 rz19 s15 f20 f21 f22 => ?_)
      refine rI ?_
      refine g_zret rfl (z01 rz19) dX4_takesLetter_42 ?_
      have f23 := (s15.get (by decide) f10)
      have f24 := (s15.get (by decide) (s9.get (by decide) f6))
      exact k _ (0) (la) (z16) (g17) (g18) (g3) (z19) (by decide) rla rz16 og17 og18 og3 rz19 ((((Sm.refl [9, 10, 11, 12, 14] _).tr s5 (fun _ q => q) (by simp)).tr s9 (fun _ q => q) (by simp)).tr s15 (fun _ q => q) (by simp)) f23 f20 f21 f22 f24
    · refine g_iconst (v := iZ (0)) 20 dX4_takesLetter_19 rfl rfl ?_
      refine g_zret rfl z01_0 dX4_takesLetter_20 ?_
      exact k _ (due) (la) (n) (f) (g) (lu) (0) rdue rla rn of og olu (Or.inl rfl) (Sm.refl [9, 10, 11, 12, 14] _) F0 F1 F2 F3 F4
set_option maxRecDepth 100000 in
theorem w_tnum {l : Launch} {h : MH} {Q : Option Value → MH → Prop} {due la n i j : Int} {f g : Nat → Int} (F0 : h[9]? = some (.inr (3, [.ref 10, .ref 13, .ref 14, .int (iZ due), .int (iZ la)]))) (F1 : h[10]? = some (.inr (0, [.int (iZ 256), .ref 11, .ref 12, .int (iZ n)]))) (F2 : h[11]? = some (.inl (0, 256, .inl (zA f)))) (F3 : h[12]? = some (.inl (0, 256, .inl (zA g)))) (of : okr f) (og : okr g) (rdue : rg due) (rla : rg la) (rn : rg n) (ri : rg i) (rj : rg j) (k : ∀ (h1 : MH) (due_1 la_1 n_1 : Int) (f_1 g_1 : Nat → Int) (r : Int), rg due_1 → rg la_1 → rg n_1 → okr f_1 → okr g_1 → (r = 0 ∨ r = 1) → Sm [9, 10, 11, 12] h h1 → h1[9]? = some (.inr (3, [.ref 10, .ref 13, .ref 14, .int (iZ due_1), .int (iZ la_1)])) → h1[10]? = some (.inr (0, [.int (iZ 256), .ref 11, .ref 12, .int (iZ n_1)])) → h1[11]? = some (.inl (0, 256, .inl (zA f_1))) → h1[12]? = some (.inl (0, 256, .inl (zA g_1))) → Q (some (.int (iZ r))) h1) : Go l mX4_takesNumber 0 [some (.ref 9), some (.int (iZ i)), some (.int (iZ j))] [] h Q := by
  refine g_aload_n 1 dX4_takesNumber_0 rfl rfl ?_
  refine g_get 4 dX4_takesNumber_1 faX4_18_X4 F0 rfl rfl ?_
  refine g_iconst (v := iZ (2)) 5 dX4_takesNumber_4 rfl rfl ?_
  refine g_icZ_ne 14 8 dX4_takesNumber_5 rfl rfl rdue (by decide) (fun c1 => ?_) (fun c1 => ?_)
  · refine g_iconst (v := iZ (0)) 15 dX4_takesNumber_14 rfl rfl ?_
    refine g_zret rfl z01_0 dX4_takesNumber_15 ?_
    exact k _ (due) (la) (n) (f) (g) (0) rdue rla rn of og (Or.inl rfl) (Sm.refl [9, 10, 11, 12] _) F0 F1 F2 F3
  · refine g_iload_n 9 dX4_takesNumber_8 rfl rfl ?_
    refine g_bipush (v := iZ (-9)) 11 dX4_takesNumber_9 (by decide +kernel) rfl ?_
    refine g_icZ_ne 16 14 dX4_takesNumber_11 rfl rfl ri (by decide) (fun c2 => ?_) (fun c2 => ?_)
    · refine g_aload_n 17 dX4_takesNumber_16 rfl rfl ?_
      refine g_iconst (v := iZ (0)) 18 dX4_takesNumber_17 rfl rfl ?_
      refine g_putC (fs1 := [.ref 10, .ref 13, .ref 14, .int (iZ 0), .int (iZ la)]) 21 dX4_takesNumber_18 fpX4_18_X4 F0 (nle rfl) (vI _) rfl rfl (fun h3 s4 f5 => ?_)
      refine g_aload_n 22 dX4_takesNumber_21 rfl rfl ?_
      refine g_get 25 dX4_takesNumber_22 faX4_45_X4 f5 rfl rfl ?_
      refine g_iload_n 26 dX4_takesNumber_25 rfl rfl ?_
      refine g_iload_n 27 dX4_takesNumber_26 rfl rfl ?_
      have f6 := (s4.get (by decide) F1)
      refine g_callV (z := mX0_add) (As := [.int (iZ i), .int (iZ j)]) 30 dX4_takesNumber_27 mwX0_add ⟨by decide, by decide⟩ rfl wlX4_95 wiX0_add wsX0_add f6 rfl rfl rfl (nle rfl) (nle rfl) rfl ?_
      have f7 := (s4.get (by decide) F2)
      have f8 := (s4.get (by decide) F3)
      refine w_cadd (M := 256) f6 f7 f8 of og rn ri rj (by decide) (fun h9 z11 g12 g13 z14 rz11 og12 og13 rz14 s10 f15 f16 f17 => ?_)
      refine rI ?_
      refine g_zret rfl (z01 rz14) dX4_takesNumber_30 ?_
      have f18 := (s10.get (by decide) f5)
      exact k _ (0) (la) (z11) (g12) (g13) (z14) (by decide) rla rz11 og12 og13 rz14 (((Sm.refl [9, 10, 11, 12] _).tr s4 (fun _ q => q) (by simp)).tr s10 (fun _ q => q) (by simp)) f18 f15 f16 f17
    · refine g_iconst (v := iZ (0)) 15 dX4_takesNumber_14 rfl rfl ?_
      refine g_zret rfl z01_0 dX4_takesNumber_15 ?_
      exact k _ (due) (la) (n) (f) (g) (0) rdue rla rn of og (Or.inl rfl) (Sm.refl [9, 10, 11, 12] _) F0 F1 F2 F3
set_option maxRecDepth 100000 in
theorem w_twor {l : Launch} {h : MH} {Q : Option Value → MH → Prop} {due la n i j : Int} {f g : Nat → Int} (F0 : h[9]? = some (.inr (3, [.ref 10, .ref 13, .ref 14, .int (iZ due), .int (iZ la)]))) (F1 : h[10]? = some (.inr (0, [.int (iZ 256), .ref 11, .ref 12, .int (iZ n)]))) (F2 : h[11]? = some (.inl (0, 256, .inl (zA f)))) (F3 : h[12]? = some (.inl (0, 256, .inl (zA g)))) (of : okr f) (og : okr g) (rdue : rg due) (rla : rg la) (rn : rg n) (ri : rg i) (rj : rg j) (k : ∀ (h1 : MH) (due_1 la_1 n_1 : Int) (f_1 g_1 : Nat → Int) (r : Int), rg due_1 → rg la_1 → rg n_1 → okr f_1 → okr g_1 → (r = 0 ∨ r = 1) → Sm [9, 10, 11, 12] h h1 → h1[9]? = some (.inr (3, [.ref 10, .ref 13, .ref 14, .int (iZ due_1), .int (iZ la_1)])) → h1[10]? = some (.inr (0, [.int (iZ 256), .ref 11, .ref 12, .int (iZ n_1)])) → h1[11]? = some (.inl (0, 256, .inl (zA f_1))) → h1[12]? = some (.inl (0, 256, .inl (zA g_1))) → Q (some (.int (iZ r))) h1) : Go l mX4_takesWord 0 [some (.ref 9), some (.int (iZ i)), some (.int (iZ j))] [] h Q := by
  refine g_aload_n 1 dX4_takesWord_0 rfl rfl ?_
  refine g_get 4 dX4_takesWord_1 faX4_18_X4 F0 rfl rfl ?_
  refine g_ifZ_ne 13 7 dX4_takesWord_4 rfl rfl rdue (fun c1 => ?_) (fun c1 => ?_)
  · refine g_iconst (v := iZ (0)) 14 dX4_takesWord_13 rfl rfl ?_
    refine g_zret rfl z01_0 dX4_takesWord_14 ?_
    exact k _ (due) (la) (n) (f) (g) (0) rdue rla rn of og (Or.inl rfl) (Sm.refl [9, 10, 11, 12] _) F0 F1 F2 F3
  · refine g_iload_n 8 dX4_takesWord_7 rfl rfl ?_
    refine g_bipush (v := iZ (-9)) 10 dX4_takesWord_8 (by decide +kernel) rfl ?_
    refine g_icZ_ne 15 13 dX4_takesWord_10 rfl rfl ri (by decide) (fun c2 => ?_) (fun c2 => ?_)
    · refine g_iload_n 16 dX4_takesWord_15 rfl rfl ?_
      refine g_bipush (v := iZ (16)) 18 dX4_takesWord_16 (by decide +kernel) rfl ?_
      refine g_icZ_ne 28 21 dX4_takesWord_18 rfl rfl ri (by decide) (fun c3 => ?_) (fun c3 => ?_)
      · refine g_aload_n 29 dX4_takesWord_28 rfl rfl ?_
        refine g_iload_n 30 dX4_takesWord_29 rfl rfl ?_
        refine g_callS (z := mX2_hasNumber) (As := [.int (iZ i)]) 33 dX4_takesWord_30 mwX2_hasNumber ⟨by decide, by decide⟩ rfl wlX4_98 wtX2_hasNumber rfl (nle rfl) (nle rfl) rfl ?_
        refine w_hasn  ri (fun z4 rz4 => ?_)
        refine rI ?_
        refine g_ifZ_eq 40 36 dX4_takesWord_33 rfl rfl (rg01 rz4) (fun c5 => ?_) (fun c5 => ?_)
        · refine g_iconst (v := iZ (0)) 41 dX4_takesWord_40 rfl rfl ?_
          refine g_putC (fs1 := [.ref 10, .ref 13, .ref 14, .int (iZ 0), .int (iZ la)]) 44 dX4_takesWord_41 fpX4_18_X4 F0 (nle rfl) (vI _) rfl rfl (fun h6 s7 f8 => ?_)
          refine g_aload_n 45 dX4_takesWord_44 rfl rfl ?_
          refine g_get 48 dX4_takesWord_45 faX4_45_X4 f8 rfl rfl ?_
          refine g_iload_n 49 dX4_takesWord_48 rfl rfl ?_
          refine g_iload_n 50 dX4_takesWord_49 rfl rfl ?_
          have f9 := (s7.get (by decide) F1)
          refine g_callV (z := mX0_add) (As := [.int (iZ i), .int (iZ j)]) 53 dX4_takesWord_50 mwX0_add ⟨by decide, by decide⟩ rfl wlX4_95 wiX0_add wsX0_add f9 rfl rfl rfl (nle rfl) (nle rfl) rfl ?_
          have f10 := (s7.get (by decide) F2)
          have f11 := (s7.get (by decide) F3)
          refine w_cadd (M := 256) f9 f10 f11 of og rn ri rj (by decide) (fun h12 z14 g15 g16 z17 rz14 og15 og16 rz17 s13 f18 f19 f20 => ?_)
          refine rI ?_
          refine g_zret rfl (z01 rz17) dX4_takesWord_53 ?_
          have f21 := (s13.get (by decide) f8)
          exact k _ (0) (la) (z14) (g15) (g16) (z17) (by decide) rla rz14 og15 og16 rz17 (((Sm.refl [9, 10, 11, 12] _).tr s7 (fun _ q => q) (by simp)).tr s13 (fun _ q => q) (by simp)) f21 f18 f19 f20
        · refine g_iconst (v := iZ (2)) 37 dX4_takesWord_36 rfl rfl ?_
          refine g_goto 41 dX4_takesWord_37 rfl ?_
          refine g_putC (fs1 := [.ref 10, .ref 13, .ref 14, .int (iZ 2), .int (iZ la)]) 44 dX4_takesWord_41 fpX4_18_X4 F0 (nle rfl) (vI _) rfl rfl (fun h22 s23 f24 => ?_)
          refine g_aload_n 45 dX4_takesWord_44 rfl rfl ?_
          refine g_get 48 dX4_takesWord_45 faX4_45_X4 f24 rfl rfl ?_
          refine g_iload_n 49 dX4_takesWord_48 rfl rfl ?_
          refine g_iload_n 50 dX4_takesWord_49 rfl rfl ?_
          have f25 := (s23.get (by decide) F1)
          refine g_callV (z := mX0_add) (As := [.int (iZ i), .int (iZ j)]) 53 dX4_takesWord_50 mwX0_add ⟨by decide, by decide⟩ rfl wlX4_95 wiX0_add wsX0_add f25 rfl rfl rfl (nle rfl) (nle rfl) rfl ?_
          have f26 := (s23.get (by decide) F2)
          have f27 := (s23.get (by decide) F3)
          refine w_cadd (M := 256) f25 f26 f27 of og rn ri rj (by decide) (fun h28 z30 g31 g32 z33 rz30 og31 og32 rz33 s29 f34 f35 f36 => ?_)
          refine rI ?_
          refine g_zret rfl (z01 rz33) dX4_takesWord_53 ?_
          have f37 := (s29.get (by decide) f24)
          exact k _ (2) (la) (z30) (g31) (g32) (z33) (by decide) rla rz30 og31 og32 rz33 (((Sm.refl [9, 10, 11, 12] _).tr s23 (fun _ q => q) (by simp)).tr s29 (fun _ q => q) (by simp)) f37 f34 f35 f36
      · refine g_aload_n 22 dX4_takesWord_21 rfl rfl ?_
        refine g_iconst (v := iZ (2)) 23 dX4_takesWord_22 rfl rfl ?_
        refine g_putC (fs1 := [.ref 10, .ref 13, .ref 14, .int (iZ 2), .int (iZ la)]) 26 dX4_takesWord_23 fpX4_18_X4 F0 (nle rfl) (vI _) rfl rfl (fun h38 s39 f40 => ?_)
        refine g_iconst (v := iZ (1)) 27 dX4_takesWord_26 rfl rfl ?_
        refine g_zret rfl z01_1 dX4_takesWord_27 ?_
        have f41 := (s39.get (by decide) F1)
        have f42 := (s39.get (by decide) F2)
        have f43 := (s39.get (by decide) F3)
        exact k _ (2) (la) (n) (f) (g) (1) (by decide) rla rn of og (Or.inr rfl) ((Sm.refl [9, 10, 11, 12] _).tr s39 (fun _ q => q) (by simp)) f40 f41 f42 f43
    · refine g_iconst (v := iZ (0)) 14 dX4_takesWord_13 rfl rfl ?_
      refine g_zret rfl z01_0 dX4_takesWord_14 ?_
      exact k _ (due) (la) (n) (f) (g) (0) rdue rla rn of og (Or.inl rfl) (Sm.refl [9, 10, 11, 12] _) F0 F1 F2 F3
set_option maxRecDepth 100000 in
theorem w_take4 {l : Launch} {h : MH} {Q : Option Value → MH → Prop} {t : Nat} {due la n tn i j : Int} {pl lu f g tf : Nat → Int} (F0 : h[9]? = some (.inr (3, [.ref 10, .ref 13, .ref 14, .int (iZ due), .int (iZ la)]))) (F1 : h[10]? = some (.inr (0, [.int (iZ 256), .ref 11, .ref 12, .int (iZ n)]))) (F2 : h[11]? = some (.inl (0, 256, .inl (zA f)))) (F3 : h[12]? = some (.inl (0, 256, .inl (zA g)))) (F4 : h[13]? = some (.inl (0, 26, .inl (zA pl)))) (F5 : h[14]? = some (.inl (0, 256, .inl (zA lu)))) (F6 : h[t]? = some (.inr (5, [.ref (t + 1), .int (iZ tn)]))) (F7 : h[t + 1]? = some (.inl (0, 200, .inl (zA tf)))) (of : okr f) (og : okr g) (opl : okr pl) (olu : okr lu) (otf : okr tf) (rdue : rg due) (rla : rg la) (rn : rg n) (rtn : rg tn) (ri : rg i) (rj : rg j) (hT : 15 < t) (k : ∀ (h1 : MH) (due_1 la_1 n_1 : Int) (f_1 g_1 pl_1 lu_1 : Nat → Int) (r : Int), rg due_1 → rg la_1 → rg n_1 → okr f_1 → okr g_1 → okr pl_1 → okr lu_1 → (r = 0 ∨ r = 1) → Sm [9, 10, 11, 12, 13, 14] h h1 → h1[9]? = some (.inr (3, [.ref 10, .ref 13, .ref 14, .int (iZ due_1), .int (iZ la_1)])) → h1[10]? = some (.inr (0, [.int (iZ 256), .ref 11, .ref 12, .int (iZ n_1)])) → h1[11]? = some (.inl (0, 256, .inl (zA f_1))) → h1[12]? = some (.inl (0, 256, .inl (zA g_1))) → h1[13]? = some (.inl (0, 26, .inl (zA pl_1))) → h1[14]? = some (.inl (0, 256, .inl (zA lu_1))) → Q (some (.int (iZ r))) h1) : Go l mX4_takes 0 [some (.ref 9), some (.ref t), some (.int (iZ i)), some (.int (iZ j)), none] [] h Q := by
  refine g_aload_n 1 dX4_takes_0 rfl rfl ?_
  refine g_iload_n 2 dX4_takes_1 rfl rfl ?_
  refine g_callV (z := mX6_at) (As := [.int (iZ i)]) 5 dX4_takes_2 mwX6_at ⟨by decide, by decide⟩ rfl wlX4_56 wiX6_at wsX6_at F6 rfl rfl rfl (nle rfl) (nle rfl) rfl ?_
  refine w_tat  F6 F7 otf rtn ri (fun z1 rz1 => ?_)
  refine rI ?_
  refine g_istore (L1 := [some (.ref 9), some (.ref t), some (.int (iZ i)), some (.int (iZ j)), some (.int (iZ z1))]) 7 dX4_takes_5 (by decide) rfl rfl rfl ?_
  refine g_iload 9 dX4_takes_7 rfl rfl ?_
  refine g_bipush (v := iZ (58)) 11 dX4_takes_9 (by decide +kernel) rfl ?_
  refine g_icZ_ne 20 14 dX4_takes_11 rfl rfl rz1 (by decide) (fun c2 => ?_) (fun c2 => ?_)
  · refine g_iload 22 dX4_takes_20 rfl rfl ?_
    refine g_callS (z := mX4_isLetter) (As := [.int (iZ z1)]) 25 dX4_takes_22 mwX4_isLetter ⟨by decide, by decide⟩ rfl wlX4_59 wtX4_isLetter rfl (nle rfl) (nle rfl) rfl ?_
    refine w_isLetter  rz1 (fun z3 rz3 => ?_)
    refine rI ?_
    refine g_ifZ_eq 60 28 dX4_takes_25 rfl rfl (rg01 rz3) (fun c4 => ?_) (fun c4 => ?_)
    · refine g_iload 62 dX4_takes_60 rfl rfl ?_
      refine g_callS (z := mX4_isDigit) (As := [.int (iZ z1)]) 65 dX4_takes_62 mwX4_isDigit ⟨by decide, by decide⟩ rfl wlX4_67 wtX4_isDigit rfl (nle rfl) (nle rfl) rfl ?_
      refine w_isDigit  rz1 (fun z5 rz5 => ?_)
      refine rI ?_
      refine g_ifZ_eq 82 68 dX4_takes_65 rfl rfl (rg01 rz5) (fun c6 => ?_) (fun c6 => ?_)
      · refine g_aload_n 83 dX4_takes_82 rfl rfl ?_
        refine g_aload_n 84 dX4_takes_83 rfl rfl ?_
        refine g_iload_n 85 dX4_takes_84 rfl rfl ?_
        refine g_iload_n 86 dX4_takes_85 rfl rfl ?_
        refine g_callS (z := mX4_wordOf) (As := [.ref t, .int (iZ i), .int (iZ j)]) 89 dX4_takes_86 mwX4_wordOf ⟨by decide, by decide⟩ rfl wlX4_89 wtX4_wordOf rfl (nle rfl) (nle rfl) rfl ?_
        refine w_word  F6 F7 otf rtn ri rj (fun z7 rz7 => ?_)
        refine rI ?_
        refine g_iload_n 90 dX4_takes_89 rfl rfl ?_
        refine g_callV (z := mX4_takesWord) (As := [.int (iZ z7), .int (iZ i)]) 93 dX4_takes_90 mwX4_takesWord ⟨by decide, by decide⟩ rfl wlX4_92 wiX4_takesWord wsX4_takesWord F0 rfl rfl rfl (nle rfl) (nle rfl) rfl ?_
        refine w_twor  F0 F1 F2 F3 of og rdue rla rn rz7 ri (fun h8 z10 z11 z12 g13 g14 z15 rz10 rz11 rz12 og13 og14 rz15 s9 f16 f17 f18 f19 => ?_)
        refine rI ?_
        refine g_zret rfl (z01 rz15) dX4_takes_93 ?_
        have f20 := (s9.get (by decide) F4)
        have f21 := (s9.get (by decide) F5)
        exact k _ (z10) (z11) (z12) (g13) (g14) (pl) (lu) (z15) rz10 rz11 rz12 og13 og14 opl olu rz15 ((Sm.refl [9, 10, 11, 12, 13, 14] _).tr s9 (fun _ q => q) (by simp)) f16 f17 f18 f19 f20 f21
      · refine g_aload_n 69 dX4_takes_68 rfl rfl ?_
        refine g_aload_n 70 dX4_takes_69 rfl rfl ?_
        refine g_iload_n 71 dX4_takes_70 rfl rfl ?_
        refine g_iload_n 72 dX4_takes_71 rfl rfl ?_
        refine g_callS (z := mX4_valueOf) (As := [.ref t, .int (iZ i), .int (iZ j)]) 75 dX4_takes_72 mwX4_valueOf ⟨by decide, by decide⟩ rfl wlX4_82 wtX4_valueOf rfl (nle rfl) (nle rfl) rfl ?_
        refine w_val  F6 F7 otf rtn ri rj (fun z22 rz22 => ?_)
        refine rI ?_
        refine g_iload_n 76 dX4_takes_75 rfl rfl ?_
        refine g_callV (z := mX4_takesNumber) (As := [.int (iZ z22), .int (iZ i)]) 79 dX4_takes_76 mwX4_takesNumber ⟨by decide, by decide⟩ rfl wlX4_86 wiX4_takesNumber wsX4_takesNumber F0 rfl rfl rfl (nle rfl) (nle rfl) rfl ?_
        refine w_tnum  F0 F1 F2 F3 of og rdue rla rn rz22 ri (fun h23 z25 z26 z27 g28 g29 z30 rz25 rz26 rz27 og28 og29 rz30 s24 f31 f32 f33 f34 => ?_)
        refine rI ?_
        refine g_goto 93 dX4_takes_79 rfl ?_
        refine g_zret rfl (z01 rz30) dX4_takes_93 ?_
        have f35 := (s24.get (by decide) F4)
        have f36 := (s24.get (by decide) F5)
        exact k _ (z25) (z26) (z27) (g28) (g29) (pl) (lu) (z30) rz25 rz26 rz27 og28 og29 opl olu rz30 ((Sm.refl [9, 10, 11, 12, 13, 14] _).tr s24 (fun _ q => q) (by simp)) f31 f32 f33 f34 f35 f36
    · refine g_aload_n 29 dX4_takes_28 rfl rfl ?_
      refine g_get 32 dX4_takes_29 faX4_18_X4 F0 rfl rfl ?_
      refine g_iconst (v := iZ (2)) 33 dX4_takes_32 rfl rfl ?_
      refine g_icZ_ne 49 36 dX4_takes_33 rfl rfl rdue (by decide) (fun c37 => ?_) (fun c37 => ?_)
      · refine g_aload_n 50 dX4_takes_49 rfl rfl ?_
        refine g_iload 52 dX4_takes_50 rfl rfl ?_
        refine g_bipush (v := iZ (65)) 54 dX4_takes_52 (by decide +kernel) rfl ?_
        refine g_isub 55 dX4_takes_54 rfl ?_
        refine Go.genZ (fun z38 rz38 => ?_)
        refine g_iload_n 56 dX4_takes_55 rfl rfl ?_
        refine g_callV (z := mX4_takesPlace) (As := [.int (iZ z38), .int (iZ i)]) 59 dX4_takes_56 mwX4_takesPlace ⟨by decide, by decide⟩ rfl wlX4_79 wiX4_takesPlace wsX4_takesPlace F0 rfl rfl rfl (nle rfl) (nle rfl) rfl ?_
        refine w_tpl  F0 F1 F4 opl rdue rla rn rz38 ri (fun h39 z41 z42 g43 z44 rz41 rz42 og43 rz44 s40 f45 f46 => ?_)
        refine rI ?_
        refine g_zret rfl (z01 rz44) dX4_takes_59 ?_
        have f47 := (s40.get (by decide) F1)
        have f48 := (s40.get (by decide) F2)
        have f49 := (s40.get (by decide) F3)
        have f50 := (s40.get (by decide) F5)
        exact k _ (z41) (z42) (n) (f) (g) (g43) (lu) (z44) rz41 rz42 rn of og og43 olu rz44 ((Sm.refl [9, 10, 11, 12, 13, 14] _).tr s40 (fun _ q => q) (by simp)) f45 f47 f48 f49 f46 f50
      · refine g_aload_n 37 dX4_takes_36 rfl rfl ?_
        refine g_iload 39 dX4_takes_37 rfl rfl ?_
        refine g_bipush (v := iZ (65)) 41 dX4_takes_39 (by decide +kernel) rfl ?_
        refine g_isub 42 dX4_takes_41 rfl ?_
        refine Go.genZ (fun z51 rz51 => ?_)
        refine g_iload_n 43 dX4_takes_42 rfl rfl ?_
        refine g_callV (z := mX4_takesLetter) (As := [.int (iZ z51), .int (iZ i)]) 46 dX4_takes_43 mwX4_takesLetter ⟨by decide, by decide⟩ rfl wlX4_76 wiX4_takesLetter wsX4_takesLetter F0 rfl rfl rfl (nle rfl) (nle rfl) rfl ?_
        refine w_tlet  F0 F1 F2 F3 F5 of og olu rdue rla rn rz51 ri (fun h52 z54 z55 z56 g57 g58 g59 z60 rz54 rz55 rz56 og57 og58 og59 rz60 s53 f61 f62 f63 f64 f65 => ?_)
        refine rI ?_
        refine g_goto 59 dX4_takes_46 rfl ?_
        refine g_zret rfl (z01 rz60) dX4_takes_59 ?_
        have f66 := (s53.get (by decide) F4)
        exact k _ (z54) (z55) (z56) (g57) (g58) (pl) (g59) (z60) rz54 rz55 rz56 og57 og58 opl og59 rz60 ((Sm.refl [9, 10, 11, 12, 13, 14] _).tr s53 (fun _ q => q) (by simp)) f61 f62 f63 f64 f66 f65
  · refine g_aload_n 15 dX4_takes_14 rfl rfl ?_
    refine g_iload_n 16 dX4_takes_15 rfl rfl ?_
    refine g_callV (z := mX4_takesColon) (As := [.int (iZ i)]) 19 dX4_takes_16 mwX4_takesColon ⟨by decide, by decide⟩ rfl wlX4_73 wiX4_takesColon wsX4_takesColon F0 rfl rfl rfl (nle rfl) (nle rfl) rfl ?_
    refine w_tcol  F0 rdue rla ri (fun h67 z69 z70 z71 rz69 rz70 rz71 s68 f72 => ?_)
    refine rI ?_
    refine g_zret rfl (z01 rz71) dX4_takes_19 ?_
    have f73 := (s68.get (by decide) F1)
    have f74 := (s68.get (by decide) F2)
    have f75 := (s68.get (by decide) F3)
    have f76 := (s68.get (by decide) F4)
    have f77 := (s68.get (by decide) F5)
    exact k _ (z69) (z70) (n) (f) (g) (pl) (lu) (z71) rz69 rz70 rn of og opl olu rz71 ((Sm.refl [9, 10, 11, 12, 13, 14] _).tr s68 (fun _ q => q) (by simp)) f72 f73 f74 f75 f76 f77
set_option maxRecDepth 100000 in
theorem w_putp_l {l : Launch} {Q : Option Value → MH → Prop} {due la n : Int} {pl lu g : Nat → Int} (og : okr g) (opl : okr pl) (olu : okr lu) (rdue : rg due) (rla : rg la) (rn : rg n) : ∀ (m0 : Nat) (h : MH) (f : Nat → Int) (j : Int), (256 - j).toNat = m0 → okr f → h[9]? = some (.inr (3, [.ref 10, .ref 13, .ref 14, .int (iZ due), .int (iZ la)])) → h[10]? = some (.inr (0, [.int (iZ 256), .ref 11, .ref 12, .int (iZ n)])) → h[11]? = some (.inl (0, 256, .inl (zA f))) → h[12]? = some (.inl (0, 256, .inl (zA g))) → h[13]? = some (.inl (0, 26, .inl (zA pl))) → h[14]? = some (.inl (0, 256, .inl (zA lu))) → 0 ≤ j ∧ j ≤ 256 → (∀ (h1 : MH) (f_1 : Nat → Int) (r : Int), okr f_1 → rg r → Sm [11] h h1 → h1[11]? = some (.inl (0, 256, .inl (zA f_1))) → Q (some (.int (iZ r))) h1) → Go l mX4_putPlaces 2 [some (.ref 9), some (.int (iZ j)), none] [] h Q := by
  intro m0
  induction m0 using Nat.strongRecOn with
  | ind m0 ih =>
    intro h f j hmz of F0 F1 F2 F3 F4 F5 hj k
    refine g_iload_n 3 dX4_putPlaces_2 rfl rfl ?_
    refine g_aload_n 4 dX4_putPlaces_3 rfl rfl ?_
    refine g_get 7 dX4_putPlaces_4 faX4_45_X4 F0 rfl rfl ?_
    refine g_get 10 dX4_putPlaces_7 faX4_49_X0 F1 rfl rfl ?_
    refine g_icZ_ge 77 13 dX4_putPlaces_10 rfl rfl (by omega) rn (fun c1 => ?_) (fun c1 => ?_)
    · refine g_bipush (v := iZ (-9)) 79 dX4_putPlaces_77 (by decide +kernel) rfl ?_
      refine g_iret rfl dX4_putPlaces_79 ?_
      exact k _ (f) (-9) of (by decide) (Sm.refl [11] _) F2
    · refine g_iload_n 14 dX4_putPlaces_13 rfl rfl ?_
      refine g_sipush (v := iZ (256)) 17 dX4_putPlaces_14 (by decide +kernel) rfl ?_
      refine g_icZ_ge 77 20 dX4_putPlaces_17 rfl rfl (by omega) (by decide) (fun c2 => ?_) (fun c2 => ?_)
      · refine g_bipush (v := iZ (-9)) 79 dX4_putPlaces_77 (by decide +kernel) rfl ?_
        refine g_iret rfl dX4_putPlaces_79 ?_
        exact k _ (f) (-9) of (by decide) (Sm.refl [11] _) F2
      · refine g_aload_n 21 dX4_putPlaces_20 rfl rfl ?_
        refine g_get 24 dX4_putPlaces_21 faX4_15_X4 F0 rfl rfl ?_
        refine g_iload_n 25 dX4_putPlaces_24 rfl rfl ?_
        refine g_ialdW 26 dX4_putPlaces_25 F5 olu (by omega) (by omega) (by decide) rfl (fun v3 rv3 => ?_)
        refine g_istore_n (L1 := [some (.ref 9), some (.int (iZ j)), some (.int (iZ v3))]) 27 dX4_putPlaces_26 (by decide) rfl rfl rfl ?_
        refine g_iload_n 28 dX4_putPlaces_27 rfl rfl ?_
        refine g_ifZ_lt 71 31 dX4_putPlaces_28 rfl rfl rv3 (fun c4 => ?_) (fun c4 => ?_)
        · refine g_iincZ [some (.ref 9), some (.int (iZ (j + 1))), some (.int (iZ v3))] 74 dX4_putPlaces_71 rfl (by omega) (by decide) rfl rfl rfl ?_
          refine g_goto 2 dX4_putPlaces_74 rfl ?_
          refine Go.fgt 2 ?_
          exact ih _ (by omega) _ (f) (j + 1) rfl of F0 F1 F2 F3 F4 F5 (by omega) k
        · refine g_iload_n 32 dX4_putPlaces_31 rfl rfl ?_
          refine g_bipush (v := iZ (26)) 34 dX4_putPlaces_32 (by decide +kernel) rfl ?_
          refine g_icZ_ge 71 37 dX4_putPlaces_34 rfl rfl rv3 (by decide) (fun c5 => ?_) (fun c5 => ?_)
          · refine g_iincZ [some (.ref 9), some (.int (iZ (j + 1))), some (.int (iZ v3))] 74 dX4_putPlaces_71 rfl (by omega) (by decide) rfl rfl rfl ?_
            refine g_goto 2 dX4_putPlaces_74 rfl ?_
            refine Go.fgt 2 ?_
            exact ih _ (by omega) _ (f) (j + 1) rfl of F0 F1 F2 F3 F4 F5 (by omega) k
          · refine g_aload_n 38 dX4_putPlaces_37 rfl rfl ?_
            refine g_get 41 dX4_putPlaces_38 faX4_11_X4 F0 rfl rfl ?_
            refine g_iload_n 42 dX4_putPlaces_41 rfl rfl ?_
            refine g_ialdW 43 dX4_putPlaces_42 F4 opl (by omega) (by omega) (by decide) rfl (fun v6 rv6 => ?_)
            refine g_bipush (v := iZ (-9)) 45 dX4_putPlaces_43 (by decide +kernel) rfl ?_
            refine g_icZ_ne 57 48 dX4_putPlaces_45 rfl rfl rv6 (by decide) (fun c7 => ?_) (fun c7 => ?_)
            · refine g_aload_n 58 dX4_putPlaces_57 rfl rfl ?_
              refine g_get 61 dX4_putPlaces_58 faX4_45_X4 F0 rfl rfl ?_
              refine g_iload_n 62 dX4_putPlaces_61 rfl rfl ?_
              refine g_aload_n 63 dX4_putPlaces_62 rfl rfl ?_
              refine g_get 66 dX4_putPlaces_63 faX4_11_X4 F0 rfl rfl ?_
              refine g_iload_n 67 dX4_putPlaces_66 rfl rfl ?_
              refine g_ialdW 68 dX4_putPlaces_67 F4 opl (by omega) (by omega) (by decide) rfl (fun v8 rv8 => ?_)
              refine g_callV (z := mX0_change) (As := [.int (iZ j), .int (iZ v8)]) 71 dX4_putPlaces_68 mwX0_change ⟨by decide, by decide⟩ rfl wlX4_116 wiX0_change wsX0_change F1 rfl rfl rfl (nle rfl) (nle rfl) rfl ?_
              refine w_chg (M := 256) F1 F2 F3 of og rn (by omega) rv8 (by decide) (fun h9 g11 og11 s10 f12 => ?_)
              refine rV ?_
              refine g_iincZ [some (.ref 9), some (.int (iZ (j + 1))), some (.int (iZ v3))] 74 dX4_putPlaces_71 rfl (by omega) (by decide) rfl rfl rfl ?_
              refine g_goto 2 dX4_putPlaces_74 rfl ?_
              refine Go.fgt 2 ?_
              have f13 := (s10.get (by decide) F0)
              have f14 := (s10.get (by decide) F1)
              have f15 := (s10.get (by decide) F3)
              have f16 := (s10.get (by decide) F4)
              have f17 := (s10.get (by decide) F5)
              exact ih _ (by omega) _ (g11) (j + 1) rfl og11 f13 f14 f12 f15 f16 f17 (by omega) (fun hQ xQ0 rQ yQ0 yQ1 sQ uQ0 => k hQ xQ0 rQ yQ0 yQ1 (((Sm.refl [11] _).tr s10 (fun _ q => q) (by simp)).tr sQ (fun _ q => q) (fun _ q => q)) uQ0)
            · refine g_aload_n 49 dX4_putPlaces_48 rfl rfl ?_
              refine g_get 52 dX4_putPlaces_49 faX4_45_X4 F0 rfl rfl ?_
              refine g_iload_n 53 dX4_putPlaces_52 rfl rfl ?_
              refine g_callV (z := mX0_ledAt) (As := [.int (iZ j)]) 56 dX4_putPlaces_53 mwX0_ledAt ⟨by decide, by decide⟩ rfl wlX4_113 wiX0_ledAt wsX0_ledAt F1 rfl rfl rfl (nle rfl) (nle rfl) rfl ?_
              refine w_led (M := 256) F1 F2 F3 of og rn (by omega) (by decide) (fun z18 rz18 => ?_)
              refine rI ?_
              refine g_iret rfl dX4_putPlaces_56 ?_
              exact k _ (f) (z18) of rz18 (Sm.refl [11] _) F2
set_option maxRecDepth 100000 in
theorem w_putp {l : Launch} {h : MH} {Q : Option Value → MH → Prop} {due la n : Int} {pl lu f g : Nat → Int} (F0 : h[9]? = some (.inr (3, [.ref 10, .ref 13, .ref 14, .int (iZ due), .int (iZ la)]))) (F1 : h[10]? = some (.inr (0, [.int (iZ 256), .ref 11, .ref 12, .int (iZ n)]))) (F2 : h[11]? = some (.inl (0, 256, .inl (zA f)))) (F3 : h[12]? = some (.inl (0, 256, .inl (zA g)))) (F4 : h[13]? = some (.inl (0, 26, .inl (zA pl)))) (F5 : h[14]? = some (.inl (0, 256, .inl (zA lu)))) (of : okr f) (og : okr g) (opl : okr pl) (olu : okr lu) (rdue : rg due) (rla : rg la) (rn : rg n) (k : ∀ (h1 : MH) (f_1 : Nat → Int) (r : Int), okr f_1 → rg r → Sm [11] h h1 → h1[11]? = some (.inl (0, 256, .inl (zA f_1))) → Q (some (.int (iZ r))) h1) : Go l mX4_putPlaces 0 [some (.ref 9), none, none] [] h Q := by
  refine g_iconst (v := iZ (0)) 1 dX4_putPlaces_0 rfl rfl ?_
  refine g_istore_n (L1 := [some (.ref 9), some (.int (iZ 0)), none]) 2 dX4_putPlaces_1 (by decide) rfl rfl rfl ?_
  exact w_putp_l og opl olu rdue rla rn _ _ (f) (0) rfl of F0 F1 F2 F3 F4 F5 (by omega) k
set_option maxRecDepth 100000 in
theorem w_nf_l {l : Launch} {Q : Option Value → MH → Prop} {t : Nat} {tn : Int} {tf : Nat → Int} (otf : okr tf) (rtn : rg tn) (hT : 15 < t) : ∀ (m0 : Nat) (h : MH) (due la n : Int) (f g pl lu : Nat → Int) (av j : Int), (200 - j).toNat = m0 → rg due → rg la → rg n → okr f → okr g → okr pl → okr lu → h[9]? = some (.inr (3, [.ref 10, .ref 13, .ref 14, .int (iZ due), .int (iZ la)])) → h[10]? = some (.inr (0, [.int (iZ 256), .ref 11, .ref 12, .int (iZ n)])) → h[11]? = some (.inl (0, 256, .inl (zA f))) → h[12]? = some (.inl (0, 256, .inl (zA g))) → h[13]? = some (.inl (0, 26, .inl (zA pl))) → h[14]? = some (.inl (0, 256, .inl (zA lu))) → h[t]? = some (.inr (5, [.ref (t + 1), .int (iZ tn)])) → h[t + 1]? = some (.inl (0, 200, .inl (zA tf))) → rg av → 0 ≤ j ∧ j ≤ 200 → (∀ (h1 : MH) (due_1 la_1 n_1 : Int) (f_1 g_1 pl_1 lu_1 : Nat → Int) (r : Int), rg due_1 → rg la_1 → rg n_1 → okr f_1 → okr g_1 → okr pl_1 → okr lu_1 → rg r → Sm [9, 10, 11, 12, 13, 14] h h1 → h1[9]? = some (.inr (3, [.ref 10, .ref 13, .ref 14, .int (iZ due_1), .int (iZ la_1)])) → h1[10]? = some (.inr (0, [.int (iZ 256), .ref 11, .ref 12, .int (iZ n_1)])) → h1[11]? = some (.inl (0, 256, .inl (zA f_1))) → h1[12]? = some (.inl (0, 256, .inl (zA g_1))) → h1[13]? = some (.inl (0, 26, .inl (zA pl_1))) → h1[14]? = some (.inl (0, 256, .inl (zA lu_1))) → Q (some (.int (iZ r))) h1) → Go l mX4_faultIn 12 [some (.ref 9), some (.ref t), some (.int (iZ av)), some (.int (iZ j)), none] [] h Q := by
  intro m0
  induction m0 using Nat.strongRecOn with
  | ind m0 ih =>
    intro h due la n f g pl lu av j hmz rdue rla rn of og opl olu F0 F1 F2 F3 F4 F5 F6 F7 rav hj k
    refine g_iload_n 13 dX4_faultIn_12 rfl rfl ?_
    refine g_sipush (v := iZ (200)) 16 dX4_faultIn_13 (by decide +kernel) rfl ?_
    refine g_icZ_ge 67 19 dX4_faultIn_16 rfl rfl (by omega) (by decide) (fun c1 => ?_) (fun c1 => ?_)
    · refine g_aload_n 68 dX4_faultIn_67 rfl rfl ?_
      refine g_get 71 dX4_faultIn_68 faX4_18_X4 F0 rfl rfl ?_
      refine g_ifZ_ne 84 74 dX4_faultIn_71 rfl rfl rdue (fun c2 => ?_) (fun c2 => ?_)
      · refine g_aload_n 85 dX4_faultIn_84 rfl rfl ?_
        refine g_get 88 dX4_faultIn_85 faX4_34_X6 F6 rfl rfl ?_
        refine g_iret rfl dX4_faultIn_88 ?_
        exact k _ (due) (la) (n) (f) (g) (pl) (lu) (tn) rdue rla rn of og opl olu rtn (Sm.refl [9, 10, 11, 12, 13, 14] _) F0 F1 F2 F3 F4 F5
      · refine g_aload_n 75 dX4_faultIn_74 rfl rfl ?_
        refine g_get 78 dX4_faultIn_75 faX4_45_X4 F0 rfl rfl ?_
        refine g_get 81 dX4_faultIn_78 faX4_49_X0 F1 rfl rfl ?_
        refine g_ifZ_ne 89 84 dX4_faultIn_81 rfl rfl rn (fun c3 => ?_) (fun c3 => ?_)
        · refine g_aload_n 90 dX4_faultIn_89 rfl rfl ?_
          refine g_callV (z := mX4_putPlaces) (As := []) 93 dX4_faultIn_90 mwX4_putPlaces ⟨by decide, by decide⟩ rfl wlX4_52 wiX4_putPlaces wsX4_putPlaces F0 rfl rfl rfl (nle rfl) (nle rfl) rfl ?_
          refine w_putp  F0 F1 F2 F3 F4 F5 of og opl olu rdue rla rn (fun h4 g6 z7 og6 rz7 s5 f8 => ?_)
          refine rI ?_
          refine g_iret rfl dX4_faultIn_93 ?_
          have f9 := (s5.get (by decide) F0)
          have f10 := (s5.get (by decide) F1)
          have f11 := (s5.get (by decide) F3)
          have f12 := (s5.get (by decide) F4)
          have f13 := (s5.get (by decide) F5)
          exact k _ (due) (la) (n) (g6) (g) (pl) (lu) (z7) rdue rla rn og6 og opl olu rz7 ((Sm.refl [9, 10, 11, 12, 13, 14] _).tr s5 (fun _ q => q) (by simp)) f9 f10 f8 f11 f12 f13
        · refine g_aload_n 85 dX4_faultIn_84 rfl rfl ?_
          refine g_get 88 dX4_faultIn_85 faX4_34_X6 F6 rfl rfl ?_
          refine g_iret rfl dX4_faultIn_88 ?_
          exact k _ (due) (la) (n) (f) (g) (pl) (lu) (tn) rdue rla rn of og opl olu rtn (Sm.refl [9, 10, 11, 12, 13, 14] _) F0 F1 F2 F3 F4 F5
    · refine g_iload_n 20 dX4_faultIn_19 rfl rfl ?_
      refine g_aload_n 21 dX4_faultIn_20 rfl rfl ?_
      refine g_get 24 dX4_faultIn_21 faX4_34_X6 F6 rfl rfl ?_
      refine g_icZ_ge 67 27 dX4_faultIn_24 rfl rfl rav rtn (fun c14 => ?_) (fun c14 => ?_)
      · refine g_aload_n 68 dX4_faultIn_67 rfl rfl ?_
        refine g_get 71 dX4_faultIn_68 faX4_18_X4 F0 rfl rfl ?_
        refine g_ifZ_ne 84 74 dX4_faultIn_71 rfl rfl rdue (fun c15 => ?_) (fun c15 => ?_)
        · refine g_aload_n 85 dX4_faultIn_84 rfl rfl ?_
          refine g_get 88 dX4_faultIn_85 faX4_34_X6 F6 rfl rfl ?_
          refine g_iret rfl dX4_faultIn_88 ?_
          exact k _ (due) (la) (n) (f) (g) (pl) (lu) (tn) rdue rla rn of og opl olu rtn (Sm.refl [9, 10, 11, 12, 13, 14] _) F0 F1 F2 F3 F4 F5
        · refine g_aload_n 75 dX4_faultIn_74 rfl rfl ?_
          refine g_get 78 dX4_faultIn_75 faX4_45_X4 F0 rfl rfl ?_
          refine g_get 81 dX4_faultIn_78 faX4_49_X0 F1 rfl rfl ?_
          refine g_ifZ_ne 89 84 dX4_faultIn_81 rfl rfl rn (fun c16 => ?_) (fun c16 => ?_)
          · refine g_aload_n 90 dX4_faultIn_89 rfl rfl ?_
            refine g_callV (z := mX4_putPlaces) (As := []) 93 dX4_faultIn_90 mwX4_putPlaces ⟨by decide, by decide⟩ rfl wlX4_52 wiX4_putPlaces wsX4_putPlaces F0 rfl rfl rfl (nle rfl) (nle rfl) rfl ?_
            refine w_putp  F0 F1 F2 F3 F4 F5 of og opl olu rdue rla rn (fun h17 g19 z20 og19 rz20 s18 f21 => ?_)
            refine rI ?_
            refine g_iret rfl dX4_faultIn_93 ?_
            have f22 := (s18.get (by decide) F0)
            have f23 := (s18.get (by decide) F1)
            have f24 := (s18.get (by decide) F3)
            have f25 := (s18.get (by decide) F4)
            have f26 := (s18.get (by decide) F5)
            exact k _ (due) (la) (n) (g19) (g) (pl) (lu) (z20) rdue rla rn og19 og opl olu rz20 ((Sm.refl [9, 10, 11, 12, 13, 14] _).tr s18 (fun _ q => q) (by simp)) f22 f23 f21 f24 f25 f26
          · refine g_aload_n 85 dX4_faultIn_84 rfl rfl ?_
            refine g_get 88 dX4_faultIn_85 faX4_34_X6 F6 rfl rfl ?_
            refine g_iret rfl dX4_faultIn_88 ?_
            exact k _ (due) (la) (n) (f) (g) (pl) (lu) (tn) rdue rla rn of og opl olu rtn (Sm.refl [9, 10, 11, 12, 13, 14] _) F0 F1 F2 F3 F4 F5
      · refine g_aload_n 28 dX4_faultIn_27 rfl rfl ?_
        refine g_iload_n 29 dX4_faultIn_28 rfl rfl ?_
        refine g_callS (z := mX4_tokenSigns) (As := [.ref t, .int (iZ av)]) 32 dX4_faultIn_29 mwX4_tokenSigns ⟨by decide, by decide⟩ rfl wlX4_37 wtX4_tokenSigns rfl (nle rfl) (nle rfl) rfl ?_
        refine w_tok  F6 F7 otf rtn rav (fun z27 rz27 => ?_)
        refine rI ?_
        refine g_istore (L1 := [some (.ref 9), some (.ref t), some (.int (iZ av)), some (.int (iZ j)), some (.int (iZ z27))]) 34 dX4_faultIn_32 (by decide) rfl rfl rfl ?_
        refine g_iload 36 dX4_faultIn_34 rfl rfl ?_
        refine g_ifZ_eq 50 39 dX4_faultIn_36 rfl rfl rz27 (fun c28 => ?_) (fun c28 => ?_)
        · refine g_iload_n 51 dX4_faultIn_50 rfl rfl ?_
          refine g_iret rfl dX4_faultIn_51 ?_
          exact k _ (due) (la) (n) (f) (g) (pl) (lu) (av) rdue rla rn of og opl olu rav (Sm.refl [9, 10, 11, 12, 13, 14] _) F0 F1 F2 F3 F4 F5
        · refine g_aload_n 40 dX4_faultIn_39 rfl rfl ?_
          refine g_aload_n 41 dX4_faultIn_40 rfl rfl ?_
          refine g_iload_n 42 dX4_faultIn_41 rfl rfl ?_
          refine g_iload 44 dX4_faultIn_42 rfl rfl ?_
          refine g_callV (z := mX4_takes) (As := [.ref t, .int (iZ av), .int (iZ z27)]) 47 dX4_faultIn_44 mwX4_takes ⟨by decide, by decide⟩ rfl wlX4_41 wiX4_takes wsX4_takes F0 rfl rfl rfl (nle rfl) (nle rfl) rfl ?_
          refine w_take4  F0 F1 F2 F3 F4 F5 F6 F7 of og opl olu otf rdue rla rn rtn rav rz27 (by omega) (fun h29 z31 z32 z33 g34 g35 g36 g37 z38 rz31 rz32 rz33 og34 og35 og36 og37 rz38 s30 f39 f40 f41 f42 f43 f44 => ?_)
          refine rI ?_
          refine g_ifZ_ne 52 50 dX4_faultIn_47 rfl rfl (rg01 rz38) (fun c45 => ?_) (fun c45 => ?_)
          · refine g_aload_n 53 dX4_faultIn_52 rfl rfl ?_
            refine g_iload_n 54 dX4_faultIn_53 rfl rfl ?_
            refine g_iload 56 dX4_faultIn_54 rfl rfl ?_
            refine g_iadd 57 dX4_faultIn_56 rfl ?_
            refine Go.genZ (fun z46 rz46 => ?_)
            have f47 := (s30.get (by simp <;> omega) F6)
            refine g_callV (z := mX6_pastGap) (As := [.int (iZ z46)]) 60 dX4_faultIn_57 mwX6_pastGap ⟨by decide, by decide⟩ rfl wlX4_28 wiX6_pastGap wsX6_pastGap f47 rfl rfl rfl (nle rfl) (nle rfl) rfl ?_
            have f48 := (s30.get (by simp <;> omega) F7)
            refine w_gap  f47 f48 otf rtn rz46 (fun z49 rz49 => ?_)
            refine rI ?_
            refine g_istore_n (L1 := [some (.ref 9), some (.ref t), some (.int (iZ z49)), some (.int (iZ j)), some (.int (iZ z27))]) 61 dX4_faultIn_60 (by decide) rfl rfl rfl ?_
            refine g_iincZ [some (.ref 9), some (.ref t), some (.int (iZ z49)), some (.int (iZ (j + 1))), some (.int (iZ z27))] 64 dX4_faultIn_61 rfl (by omega) (by decide) rfl rfl rfl ?_
            refine g_goto 12 dX4_faultIn_64 rfl ?_
            refine Go.fgt 4 ?_
            exact ih _ (by omega) _ (z31) (z32) (z33) (g34) (g35) (g36) (g37) (z49) (j + 1) rfl rz31 rz32 rz33 og34 og35 og36 og37 f39 f40 f41 f42 f43 f44 f47 f48 rz49 (by omega) (fun hQ xQ0 xQ1 xQ2 xQ3 xQ4 xQ5 xQ6 rQ yQ0 yQ1 yQ2 yQ3 yQ4 yQ5 yQ6 yQ7 sQ uQ0 uQ1 uQ2 uQ3 uQ4 uQ5 => k hQ xQ0 xQ1 xQ2 xQ3 xQ4 xQ5 xQ6 rQ yQ0 yQ1 yQ2 yQ3 yQ4 yQ5 yQ6 yQ7 (((Sm.refl [9, 10, 11, 12, 13, 14] _).tr s30 (fun _ q => q) (by simp)).tr sQ (fun _ q => q) (fun _ q => q)) uQ0 uQ1 uQ2 uQ3 uQ4 uQ5)
          · refine g_iload_n 51 dX4_faultIn_50 rfl rfl ?_
            refine g_iret rfl dX4_faultIn_51 ?_
            exact k _ (z31) (z32) (z33) (g34) (g35) (g36) (g37) (av) rz31 rz32 rz33 og34 og35 og36 og37 rav ((Sm.refl [9, 10, 11, 12, 13, 14] _).tr s30 (fun _ q => q) (by simp)) f39 f40 f41 f42 f43 f44
set_option maxRecDepth 100000 in
theorem w_nf {l : Launch} {h : MH} {Q : Option Value → MH → Prop} {t : Nat} {due la n tn : Int} {pl lu f g tf : Nat → Int} (F0 : h[9]? = some (.inr (3, [.ref 10, .ref 13, .ref 14, .int (iZ due), .int (iZ la)]))) (F1 : h[10]? = some (.inr (0, [.int (iZ 256), .ref 11, .ref 12, .int (iZ n)]))) (F2 : h[11]? = some (.inl (0, 256, .inl (zA f)))) (F3 : h[12]? = some (.inl (0, 256, .inl (zA g)))) (F4 : h[13]? = some (.inl (0, 26, .inl (zA pl)))) (F5 : h[14]? = some (.inl (0, 256, .inl (zA lu)))) (F6 : h[t]? = some (.inr (5, [.ref (t + 1), .int (iZ tn)]))) (F7 : h[t + 1]? = some (.inl (0, 200, .inl (zA tf)))) (of : okr f) (og : okr g) (opl : okr pl) (olu : okr lu) (otf : okr tf) (rdue : rg due) (rla : rg la) (rn : rg n) (rtn : rg tn) (hT : 15 < t) (k : ∀ (h1 : MH) (due_1 la_1 n_1 : Int) (f_1 g_1 pl_1 lu_1 : Nat → Int) (r : Int), rg due_1 → rg la_1 → rg n_1 → okr f_1 → okr g_1 → okr pl_1 → okr lu_1 → rg r → Sm [9, 10, 11, 12, 13, 14] h h1 → h1[9]? = some (.inr (3, [.ref 10, .ref 13, .ref 14, .int (iZ due_1), .int (iZ la_1)])) → h1[10]? = some (.inr (0, [.int (iZ 256), .ref 11, .ref 12, .int (iZ n_1)])) → h1[11]? = some (.inl (0, 256, .inl (zA f_1))) → h1[12]? = some (.inl (0, 256, .inl (zA g_1))) → h1[13]? = some (.inl (0, 26, .inl (zA pl_1))) → h1[14]? = some (.inl (0, 256, .inl (zA lu_1))) → Q (some (.int (iZ r))) h1) : Go l mX4_faultIn 0 [some (.ref 9), some (.ref t), none, none, none] [] h Q := by
  refine g_aload_n 1 dX4_faultIn_0 rfl rfl ?_
  refine g_callV (z := mX4_begin) (As := []) 4 dX4_faultIn_1 mwX4_begin ⟨by decide, by decide⟩ rfl wlX4_25 wiX4_begin wsX4_begin F0 rfl rfl rfl (nle rfl) (nle rfl) rfl ?_
  refine w_beg  F0 F1 F2 F3 F4 F5 of og opl olu rdue rla rn (fun h1 z3 z4 z5 g6 g7 g8 g9 rz3 rz4 rz5 og6 og7 og8 og9 s2 f10 f11 f12 f13 f14 f15 => ?_)
  refine rV ?_
  refine g_aload_n 5 dX4_faultIn_4 rfl rfl ?_
  refine g_iconst (v := iZ (0)) 6 dX4_faultIn_5 rfl rfl ?_
  have f16 := (s2.get (by simp <;> omega) F6)
  refine g_callV (z := mX6_pastGap) (As := [.int (iZ 0)]) 9 dX4_faultIn_6 mwX6_pastGap ⟨by decide, by decide⟩ rfl wlX4_28 wiX6_pastGap wsX6_pastGap f16 rfl rfl rfl (nle rfl) (nle rfl) rfl ?_
  have f17 := (s2.get (by simp <;> omega) F7)
  refine w_gap  f16 f17 otf rtn (by decide) (fun z18 rz18 => ?_)
  refine rI ?_
  refine g_istore_n (L1 := [some (.ref 9), some (.ref t), some (.int (iZ z18)), none, none]) 10 dX4_faultIn_9 (by decide) rfl rfl rfl ?_
  refine g_iconst (v := iZ (0)) 11 dX4_faultIn_10 rfl rfl ?_
  refine g_istore_n (L1 := [some (.ref 9), some (.ref t), some (.int (iZ z18)), some (.int (iZ 0)), none]) 12 dX4_faultIn_11 (by decide) rfl rfl rfl ?_
  exact w_nf_l otf rtn hT _ _ (z3) (z4) (z5) (g6) (g7) (g8) (g9) (z18) (0) rfl rz3 rz4 rz5 og6 og7 og8 og9 f10 f11 f12 f13 f14 f15 f16 f17 rz18 (by omega) (fun hQ xQ0 xQ1 xQ2 xQ3 xQ4 xQ5 xQ6 rQ yQ0 yQ1 yQ2 yQ3 yQ4 yQ5 yQ6 yQ7 sQ uQ0 uQ1 uQ2 uQ3 uQ4 uQ5 => k hQ xQ0 xQ1 xQ2 xQ3 xQ4 xQ5 xQ6 rQ yQ0 yQ1 yQ2 yQ3 yQ4 yQ5 yQ6 yQ7 (((Sm.refl [9, 10, 11, 12, 13, 14] _).tr s2 (fun _ q => q) (by simp)).tr sQ (fun _ q => q) (fun _ q => q)) uQ0 uQ1 uQ2 uQ3 uQ4 uQ5)

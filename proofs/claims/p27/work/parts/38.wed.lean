set_option maxRecDepth 100000 in
theorem w_fb_l {l : Launch} {Q : Option Value → MH → Prop} {en i j : Int} {eu ek el : Nat → Int} (oeu : okr eu) (oek : okr ek) (oel : okr el) (ren : rg en) (ri : rg i) (rj : rg j) : ∀ (m0 : Nat) (h : MH) (u : Int), (12 - u).toNat = m0 → h[30]? = some (.inr (1, [.ref 31, .ref 32, .ref 33, .int (iZ en)])) → h[31]? = some (.inl (0, 12, .inl (zA eu))) → h[32]? = some (.inl (0, 12, .inl (zA ek))) → h[33]? = some (.inl (0, 12, .inl (zA el))) → 0 ≤ u ∧ u ≤ 12 → (∀ (r : Int), rg r → Q (some (.int (iZ r))) h) → Go l mX1_firstBuilt 2 [some (.ref 30), some (.int (iZ i)), some (.int (iZ j)), some (.int (iZ u))] [] h Q := by
  intro m0
  induction m0 using Nat.strongRecOn with
  | ind m0 ih =>
    intro h u hmz F0 F1 F2 F3 hu k
    refine g_iload_n 3 dX1_firstBuilt_2 rfl rfl ?_
    refine g_aload_n 4 dX1_firstBuilt_3 rfl rfl ?_
    refine g_get 7 dX1_firstBuilt_4 faX1_21_X1 F0 rfl rfl ?_
    refine g_icZ_ge 60 10 dX1_firstBuilt_7 rfl rfl (by omega) ren (fun c1 => ?_) (fun c1 => ?_)
    · refine g_bipush (v := iZ (-9)) 62 dX1_firstBuilt_60 (by decide +kernel) rfl ?_
      refine g_iret rfl dX1_firstBuilt_62 ?_
      exact k (-9) (by decide)
    · refine g_iload_n 11 dX1_firstBuilt_10 rfl rfl ?_
      refine g_bipush (v := iZ (12)) 13 dX1_firstBuilt_11 (by decide +kernel) rfl ?_
      refine g_icZ_ge 60 16 dX1_firstBuilt_13 rfl rfl (by omega) (by decide) (fun c2 => ?_) (fun c2 => ?_)
      · refine g_bipush (v := iZ (-9)) 62 dX1_firstBuilt_60 (by decide +kernel) rfl ?_
        refine g_iret rfl dX1_firstBuilt_62 ?_
        exact k (-9) (by decide)
      · refine g_aload_n 17 dX1_firstBuilt_16 rfl rfl ?_
        refine g_get 20 dX1_firstBuilt_17 faX1_18_X1 F0 rfl rfl ?_
        refine g_iload_n 21 dX1_firstBuilt_20 rfl rfl ?_
        refine g_ialdW 22 dX1_firstBuilt_21 F3 oel (by omega) (by omega) (by decide) rfl (fun v3 rv3 => ?_)
        refine g_iload_n 23 dX1_firstBuilt_22 rfl rfl ?_
        refine g_icZ_ne 54 26 dX1_firstBuilt_23 rfl rfl rv3 rj (fun c4 => ?_) (fun c4 => ?_)
        · refine g_iincZ [some (.ref 30), some (.int (iZ i)), some (.int (iZ j)), some (.int (iZ (u + 1)))] 57 dX1_firstBuilt_54 rfl (by omega) (by decide) rfl rfl rfl ?_
          refine g_goto 2 dX1_firstBuilt_57 rfl ?_
          exact ih _ (by omega) _ (u + 1) rfl F0 F1 F2 F3 (by omega) k
        · refine g_aload_n 27 dX1_firstBuilt_26 rfl rfl ?_
          refine g_iload_n 28 dX1_firstBuilt_27 rfl rfl ?_
          refine g_callV (z := mX1_has) (As := [.int (iZ i)]) 31 dX1_firstBuilt_28 mwX1_has ⟨by decide, by decide⟩ rfl wlX1_25 wiX1_has wsX1_has F0 rfl rfl rfl (nle rfl) (nle rfl) rfl ?_
          refine Go.to [some (.ref 30), some (.int (iZ i))] [] rfl rfl ?_
          refine g_iload_n 1 dX1_has_0 rfl rfl ?_
          refine g_ifZ_lt 22 4 dX1_has_1 rfl rfl ri (fun c5 => ?_) (fun c5 => ?_)
          · refine g_iconst (v := iZ (0)) 23 dX1_has_22 rfl rfl ?_
            refine g_zret rfl z01_0 dX1_has_23 ?_
            refine rI ?_
            refine g_ifZ_eq 54 34 dX1_firstBuilt_31 rfl rfl (by decide) (fun _ => ?_) (fun q => absurd q (by decide))
            refine g_iincZ [some (.ref 30), some (.int (iZ i)), some (.int (iZ j)), some (.int (iZ (u + 1)))] 57 dX1_firstBuilt_54 rfl (by omega) (by decide) rfl rfl rfl ?_
            refine g_goto 2 dX1_firstBuilt_57 rfl ?_
            exact ih _ (by omega) _ (u + 1) rfl F0 F1 F2 F3 (by omega) k
          · refine g_iload_n 5 dX1_has_4 rfl rfl ?_
            refine g_aload_n 6 dX1_has_5 rfl rfl ?_
            refine g_get 9 dX1_has_6 faX1_21_X1 F0 rfl rfl ?_
            refine g_icZ_ge 22 12 dX1_has_9 rfl rfl ri ren (fun c6 => ?_) (fun c6 => ?_)
            · refine g_iconst (v := iZ (0)) 23 dX1_has_22 rfl rfl ?_
              refine g_zret rfl z01_0 dX1_has_23 ?_
              refine rI ?_
              refine g_ifZ_eq 54 34 dX1_firstBuilt_31 rfl rfl (by decide) (fun _ => ?_) (fun q => absurd q (by decide))
              refine g_iincZ [some (.ref 30), some (.int (iZ i)), some (.int (iZ j)), some (.int (iZ (u + 1)))] 57 dX1_firstBuilt_54 rfl (by omega) (by decide) rfl rfl rfl ?_
              refine g_goto 2 dX1_firstBuilt_57 rfl ?_
              exact ih _ (by omega) _ (u + 1) rfl F0 F1 F2 F3 (by omega) k
            · refine g_iload_n 13 dX1_has_12 rfl rfl ?_
              refine g_bipush (v := iZ (12)) 15 dX1_has_13 (by decide +kernel) rfl ?_
              refine g_icZ_ge 22 18 dX1_has_15 rfl rfl ri (by decide) (fun c7 => ?_) (fun c7 => ?_)
              · refine g_iconst (v := iZ (0)) 23 dX1_has_22 rfl rfl ?_
                refine g_zret rfl z01_0 dX1_has_23 ?_
                refine rI ?_
                refine g_ifZ_eq 54 34 dX1_firstBuilt_31 rfl rfl (by decide) (fun _ => ?_) (fun q => absurd q (by decide))
                refine g_iincZ [some (.ref 30), some (.int (iZ i)), some (.int (iZ j)), some (.int (iZ (u + 1)))] 57 dX1_firstBuilt_54 rfl (by omega) (by decide) rfl rfl rfl ?_
                refine g_goto 2 dX1_firstBuilt_57 rfl ?_
                exact ih _ (by omega) _ (u + 1) rfl F0 F1 F2 F3 (by omega) k
              · refine g_iconst (v := iZ (1)) 19 dX1_has_18 rfl rfl ?_
                refine g_goto 23 dX1_has_19 rfl ?_
                refine g_zret rfl z01_1 dX1_has_23 ?_
                refine rI ?_
                refine g_ifZ_eq 54 34 dX1_firstBuilt_31 rfl rfl (by decide) (fun q => absurd q (by decide)) (fun _ => ?_)
                refine g_aload_n 35 dX1_firstBuilt_34 rfl rfl ?_
                refine g_get 38 dX1_firstBuilt_35 faX1_9_X1 F0 rfl rfl ?_
                refine g_iload_n 39 dX1_firstBuilt_38 rfl rfl ?_
                refine g_ialdW 40 dX1_firstBuilt_39 F1 oeu (by omega) (by omega) (by decide) rfl (fun v8 rv8 => ?_)
                refine g_aload_n 41 dX1_firstBuilt_40 rfl rfl ?_
                refine g_get 44 dX1_firstBuilt_41 faX1_15_X1 F0 rfl rfl ?_
                refine g_iload_n 45 dX1_firstBuilt_44 rfl rfl ?_
                refine g_ialdW 46 dX1_firstBuilt_45 F2 oek (by omega) (by omega) (by decide) rfl (fun v9 rv9 => ?_)
                refine g_iconst (v := iZ (-1)) 47 dX1_firstBuilt_46 rfl rfl ?_
                refine g_ixor 48 dX1_firstBuilt_47 rfl ?_
                refine Go.genZ (fun z10 rz10 => ?_)
                refine g_iand 49 dX1_firstBuilt_48 rfl ?_
                refine Go.genZ (fun z11 rz11 => ?_)
                refine g_ifZ_ne 54 52 dX1_firstBuilt_49 rfl rfl rz11 (fun c12 => ?_) (fun c12 => ?_)
                · refine g_iincZ [some (.ref 30), some (.int (iZ i)), some (.int (iZ j)), some (.int (iZ (u + 1)))] 57 dX1_firstBuilt_54 rfl (by omega) (by decide) rfl rfl rfl ?_
                  refine g_goto 2 dX1_firstBuilt_57 rfl ?_
                  exact ih _ (by omega) _ (u + 1) rfl F0 F1 F2 F3 (by omega) k
                · refine g_iload_n 53 dX1_firstBuilt_52 rfl rfl ?_
                  refine g_iret rfl dX1_firstBuilt_53 ?_
                  exact k (u) (by omega)
set_option maxRecDepth 100000 in
theorem w_fb {l : Launch} {h : MH} {Q : Option Value → MH → Prop} {en i j : Int} {eu ek el : Nat → Int} (F0 : h[30]? = some (.inr (1, [.ref 31, .ref 32, .ref 33, .int (iZ en)]))) (F1 : h[31]? = some (.inl (0, 12, .inl (zA eu)))) (F2 : h[32]? = some (.inl (0, 12, .inl (zA ek)))) (F3 : h[33]? = some (.inl (0, 12, .inl (zA el)))) (oeu : okr eu) (oek : okr ek) (oel : okr el) (ren : rg en) (ri : rg i) (rj : rg j) (k : ∀ (r : Int), rg r → Q (some (.int (iZ r))) h) : Go l mX1_firstBuilt 0 [some (.ref 30), some (.int (iZ i)), some (.int (iZ j)), none] [] h Q := by
  refine g_iconst (v := iZ (0)) 1 dX1_firstBuilt_0 rfl rfl ?_
  refine g_istore_n (L1 := [some (.ref 30), some (.int (iZ i)), some (.int (iZ j)), some (.int (iZ 0))]) 2 dX1_firstBuilt_1 (by decide) rfl rfl rfl ?_
  exact w_fb_l oeu oek oel ren ri rj _ _ (0) rfl F0 F1 F2 F3 (by omega) k
set_option maxRecDepth 100000 in
theorem w_rb_l {l : Launch} {Q : Option Value → MH → Prop} {en i : Int} {eu ek : Nat → Int} (oeu : okr eu) (oek : okr ek) (ren : rg en) (ri : rg i) : ∀ (m0 : Nat) (h : MH) (el : Nat → Int) (u : Int), (12 - u).toNat = m0 → okr el → h[30]? = some (.inr (1, [.ref 31, .ref 32, .ref 33, .int (iZ en)])) → h[31]? = some (.inl (0, 12, .inl (zA eu))) → h[32]? = some (.inl (0, 12, .inl (zA ek))) → h[33]? = some (.inl (0, 12, .inl (zA el))) → 0 ≤ u ∧ u ≤ 12 → (∀ (h1 : MH) (el_1 : Nat → Int), okr el_1 → Sm [33] h h1 → h1[33]? = some (.inl (0, 12, .inl (zA el_1))) → Q none h1) → Go l mX1_reachBack 2 [some (.ref 30), some (.int (iZ i)), some (.int (iZ u))] [] h Q := by
  intro m0
  induction m0 using Nat.strongRecOn with
  | ind m0 ih =>
    intro h el u hmz oel F0 F1 F2 F3 hu k
    refine g_iload_n 3 dX1_reachBack_2 rfl rfl ?_
    refine g_aload_n 4 dX1_reachBack_3 rfl rfl ?_
    refine g_get 7 dX1_reachBack_4 faX1_21_X1 F0 rfl rfl ?_
    refine g_icZ_ge 53 10 dX1_reachBack_7 rfl rfl (by omega) ren (fun c1 => ?_) (fun c1 => ?_)
    · refine g_vret rfl dX1_reachBack_53 ?_
      exact k _ (el) oel (Sm.refl [33] _) F3
    · refine g_iload_n 11 dX1_reachBack_10 rfl rfl ?_
      refine g_bipush (v := iZ (12)) 13 dX1_reachBack_11 (by decide +kernel) rfl ?_
      refine g_icZ_ge 53 16 dX1_reachBack_13 rfl rfl (by omega) (by decide) (fun c2 => ?_) (fun c2 => ?_)
      · refine g_vret rfl dX1_reachBack_53 ?_
        exact k _ (el) oel (Sm.refl [33] _) F3
      · refine g_aload_n 17 dX1_reachBack_16 rfl rfl ?_
        refine g_get 20 dX1_reachBack_17 faX1_18_X1 F0 rfl rfl ?_
        refine g_iload_n 21 dX1_reachBack_20 rfl rfl ?_
        refine g_ialdW 22 dX1_reachBack_21 F3 oel (by omega) (by omega) (by decide) rfl (fun v3 rv3 => ?_)
        refine g_bipush (v := iZ (-9)) 24 dX1_reachBack_22 (by decide +kernel) rfl ?_
        refine g_icZ_ne 47 27 dX1_reachBack_24 rfl rfl rv3 (by decide) (fun c4 => ?_) (fun c4 => ?_)
        · refine g_iincZ [some (.ref 30), some (.int (iZ i)), some (.int (iZ (u + 1)))] 50 dX1_reachBack_47 rfl (by omega) (by decide) rfl rfl rfl ?_
          refine g_goto 2 dX1_reachBack_50 rfl ?_
          exact ih _ (by omega) _ (el) (u + 1) rfl oel F0 F1 F2 F3 (by omega) k
        · refine g_aload_n 28 dX1_reachBack_27 rfl rfl ?_
          refine g_iload_n 29 dX1_reachBack_28 rfl rfl ?_
          refine g_iload_n 30 dX1_reachBack_29 rfl rfl ?_
          refine g_callV (z := mX1_firstBuilt) (As := [.int (iZ u), .int (iZ i)]) 33 dX1_reachBack_30 mwX1_firstBuilt ⟨by decide, by decide⟩ rfl wlX1_33 wiX1_firstBuilt wsX1_firstBuilt F0 rfl rfl rfl (nle rfl) (nle rfl) rfl ?_
          refine w_fb  F0 F1 F2 F3 oeu oek oel ren (by omega) ri (fun z5 rz5 => ?_)
          refine rI ?_
          refine g_bipush (v := iZ (-9)) 35 dX1_reachBack_33 (by decide +kernel) rfl ?_
          refine g_icZ_eq 47 38 dX1_reachBack_35 rfl rfl rz5 (by decide) (fun c6 => ?_) (fun c6 => ?_)
          · refine g_iincZ [some (.ref 30), some (.int (iZ i)), some (.int (iZ (u + 1)))] 50 dX1_reachBack_47 rfl (by omega) (by decide) rfl rfl rfl ?_
            refine g_goto 2 dX1_reachBack_50 rfl ?_
            exact ih _ (by omega) _ (el) (u + 1) rfl oel F0 F1 F2 F3 (by omega) k
          · refine g_aload_n 39 dX1_reachBack_38 rfl rfl ?_
            refine g_get 42 dX1_reachBack_39 faX1_18_X1 F0 rfl rfl ?_
            refine g_iload_n 43 dX1_reachBack_42 rfl rfl ?_
            refine g_iload_n 44 dX1_reachBack_43 rfl rfl ?_
            refine g_iconst (v := iZ (1)) 45 dX1_reachBack_44 rfl rfl ?_
            refine g_iadd 46 dX1_reachBack_45 rfl ?_
            refine Go.genZ (fun z7 rz7 => ?_)
            refine g_iastW 47 dX1_reachBack_46 F3 oel rz7 (by omega) (by omega) (by decide) rfl (fun h9 g8 og8 s10 f11 => ?_)
            refine g_iincZ [some (.ref 30), some (.int (iZ i)), some (.int (iZ (u + 1)))] 50 dX1_reachBack_47 rfl (by omega) (by decide) rfl rfl rfl ?_
            refine g_goto 2 dX1_reachBack_50 rfl ?_
            have f12 := (s10.get (by decide) F0)
            have f13 := (s10.get (by decide) F1)
            have f14 := (s10.get (by decide) F2)
            exact ih _ (by omega) _ (g8) (u + 1) rfl og8 f12 f13 f14 f11 (by omega) (fun hQ xQ0 yQ0 sQ uQ0 => k hQ xQ0 yQ0 (((Sm.refl [33] _).tr s10 (fun _ q => q) (by simp)).tr sQ (fun _ q => q) (fun _ q => q)) uQ0)
set_option maxRecDepth 100000 in
theorem w_rb {l : Launch} {h : MH} {Q : Option Value → MH → Prop} {en i : Int} {eu ek el : Nat → Int} (F0 : h[30]? = some (.inr (1, [.ref 31, .ref 32, .ref 33, .int (iZ en)]))) (F1 : h[31]? = some (.inl (0, 12, .inl (zA eu)))) (F2 : h[32]? = some (.inl (0, 12, .inl (zA ek)))) (F3 : h[33]? = some (.inl (0, 12, .inl (zA el)))) (oeu : okr eu) (oek : okr ek) (oel : okr el) (ren : rg en) (ri : rg i) (k : ∀ (h1 : MH) (el_1 : Nat → Int), okr el_1 → Sm [33] h h1 → h1[33]? = some (.inl (0, 12, .inl (zA el_1))) → Q none h1) : Go l mX1_reachBack 0 [some (.ref 30), some (.int (iZ i)), none] [] h Q := by
  refine g_iconst (v := iZ (0)) 1 dX1_reachBack_0 rfl rfl ?_
  refine g_istore_n (L1 := [some (.ref 30), some (.int (iZ i)), some (.int (iZ 0))]) 2 dX1_reachBack_1 (by decide) rfl rfl rfl ?_
  exact w_rb_l oeu oek ren ri _ _ (el) (0) rfl oel F0 F1 F2 F3 (by omega) k
theorem lp1_a {l : Launch} {Q : Option Value → MH → Prop} {a : Value} {x y z : Int32} : ∀ (k : Nat) (h : MH) (g : Nat → Int) (i : Int), i = 12 - k → k ≤ 12 → okr g → h[30]? = some (.inr (1, [.ref 31, .ref 32, .ref 33, a])) → h[33]? = some (.inl (0, 12, .inl (zA g))) → (∀ (h1 : MH) (g1 : Nat → Int), okr g1 → Sm [33] h h1 → h1[33]? = some (.inl (0, 12, .inl (zA g1))) → Go l mX1_fewest 44 [some (.ref 30), some (.int x), some (.int y), some (.int z), some (.int (iZ 12)), none] [] h1 Q) → Go l mX1_fewest 22 [some (.ref 30), some (.int x), some (.int y), some (.int z), some (.int (iZ i)), none] [] h Q := by
  intro k
  induction k with
  | zero =>
    intro h g i hi hk og f0 f1 kk
    have : i = 12 := by omega
    subst this
    refine g_iload 24 dX1_fewest_22 rfl rfl ?_
    refine g_bipush (v := iZ (12)) 26 dX1_fewest_24 (by decide +kernel) rfl ?_
    refine g_icZ_ge 44 29 dX1_fewest_26 rfl rfl (by decide) (by decide) (fun _ => ?_) (fun q => absurd q (by decide))
    exact kk _ _ og (Sm.refl _ _) f1
  | succ k ih =>
    intro h g i hi hk og f0 f1 kk
    have h0 : 0 ≤ i := by omega
    have h2 : i < 12 := by omega
    refine g_iload 24 dX1_fewest_22 rfl rfl ?_
    refine g_bipush (v := iZ (12)) 26 dX1_fewest_24 (by decide +kernel) rfl ?_
    refine g_icZ_ge 44 29 dX1_fewest_26 rfl rfl (by omega) (by decide) (fun q => absurd q (by omega)) (fun _ => ?_)
    refine g_aload_n 30 dX1_fewest_29 rfl rfl ?_
    refine g_get 33 dX1_fewest_30 faX1_18_X1 f0 rfl rfl ?_
    refine g_iload 35 dX1_fewest_33 rfl rfl ?_
    refine g_bipush (v := iZ (-9)) 37 dX1_fewest_35 (by decide +kernel) rfl ?_
    refine g_iastW 38 dX1_fewest_37 f1 og (by decide) (by omega) (by omega) (by decide) rfl (fun h2 g1 og1 s3 f4 => ?_)
    refine g_iincZ [some (.ref 30), some (.int x), some (.int y), some (.int z), some (.int (iZ (i + 1))), none] 41 dX1_fewest_38 rfl (by omega) (by decide) rfl rfl rfl ?_
    refine g_goto 22 dX1_fewest_41 rfl ?_
    have f5 := (s3.get (by decide) f0)
    exact ih _ _ _ (by omega) (by omega) og1 f5 f4 (fun h1 g1 o1 hs f1 => kk h1 g1 o1 (s3.tr hs (fun _ q => q) (fun _ q => q)) f1)
set_option maxRecDepth 100000 in
theorem w_few_l {l : Launch} {Q : Option Value → MH → Prop} {en i : Int} {eu : Nat → Int} (oeu : okr eu) (ren : rg en) (ri : rg i) : ∀ (m0 : Nat) (h : MH) (ek el : Nat → Int) (kw u : Int), (en - u).toNat = m0 → okr ek → okr el → h[30]? = some (.inr (1, [.ref 31, .ref 32, .ref 33, .int (iZ en)])) → h[31]? = some (.inl (0, 12, .inl (zA eu))) → h[32]? = some (.inl (0, 12, .inl (zA ek))) → h[33]? = some (.inl (0, 12, .inl (zA el))) → rg kw → rg u → 0 ≤ i ∧ i < 12 → (∀ (h1 : MH) (ek_1 el_1 : Nat → Int) (r : Int), okr ek_1 → okr el_1 → rg r → Sm [32, 33] h h1 → h1[32]? = some (.inl (0, 12, .inl (zA ek_1))) → h1[33]? = some (.inl (0, 12, .inl (zA el_1))) → Q (some (.int (iZ r))) h1) → Go l mX1_fewest 72 [some (.ref 30), some (.int (iZ i)), none, none, some (.int (iZ kw)), some (.int (iZ u))] [] h Q := by
  intro m0
  induction m0 using Nat.strongRecOn with
  | ind m0 ih =>
    intro h ek el kw u hmz oek oel F0 F1 F2 F3 rkw ru hi k
    refine g_iload 74 dX1_fewest_72 rfl rfl ?_
    refine g_aload_n 75 dX1_fewest_74 rfl rfl ?_
    refine g_get 78 dX1_fewest_75 faX1_21_X1 F0 rfl rfl ?_
    refine g_icZ_ge 93 81 dX1_fewest_78 rfl rfl ru ren (fun c1 => ?_) (fun c1 => ?_)
    · refine g_aload_n 94 dX1_fewest_93 rfl rfl ?_
      refine g_get 97 dX1_fewest_94 faX1_15_X1 F0 rfl rfl ?_
      refine g_iload_n 98 dX1_fewest_97 rfl rfl ?_
      refine g_iload 100 dX1_fewest_98 rfl rfl ?_
      refine g_iastW 101 dX1_fewest_100 F2 oek rkw (by omega) (by omega) (by decide) rfl (fun h3 g2 og2 s4 f5 => ?_)
      refine g_aload_n 102 dX1_fewest_101 rfl rfl ?_
      have f6 := (s4.get (by decide) F0)
      refine g_get 105 dX1_fewest_102 faX1_18_X1 f6 rfl rfl ?_
      refine g_iload_n 106 dX1_fewest_105 rfl rfl ?_
      have f7 := (s4.get (by decide) F3)
      refine g_ialdW 107 dX1_fewest_106 f7 oel (by omega) (by omega) (by decide) rfl (fun v8 rv8 => ?_)
      refine g_iret rfl dX1_fewest_107 ?_
      exact k _ (g2) (el) (v8) og2 oel rv8 ((Sm.refl [32, 33] _).tr s4 (fun _ q => q) (by simp)) f5 f7
    · refine g_aload_n 82 dX1_fewest_81 rfl rfl ?_
      refine g_iload 84 dX1_fewest_82 rfl rfl ?_
      refine g_callV (z := mX1_reachBack) (As := [.int (iZ u)]) 87 dX1_fewest_84 mwX1_reachBack ⟨by decide, by decide⟩ rfl wlX1_29 wiX1_reachBack wsX1_reachBack F0 rfl rfl rfl (nle rfl) (nle rfl) rfl ?_
      refine w_rb  F0 F1 F2 F3 oeu oek oel ren ru (fun h9 g11 og11 s10 f12 => ?_)
      refine rV ?_
      refine g_iincZ [some (.ref 30), some (.int (iZ i)), none, none, some (.int (iZ kw)), some (.int (iZ (u + 1)))] 90 dX1_fewest_87 rfl (by omega) (by decide) rfl rfl rfl ?_
      refine g_goto 72 dX1_fewest_90 rfl ?_
      have f13 := (s10.get (by decide) F0)
      have f14 := (s10.get (by decide) F1)
      have f15 := (s10.get (by decide) F2)
      exact ih _ (by omega) _ (ek) (g11) (kw) (u + 1) rfl oek og11 f13 f14 f15 f12 rkw (by omega) (by omega) (fun hQ xQ0 xQ1 rQ yQ0 yQ1 yQ2 sQ uQ0 uQ1 => k hQ xQ0 xQ1 rQ yQ0 yQ1 yQ2 (((Sm.refl [32, 33] _).tr s10 (fun _ q => q) (by simp)).tr sQ (fun _ q => q) (fun _ q => q)) uQ0 uQ1)
set_option maxRecDepth 100000 in
theorem w_few {l : Launch} {h : MH} {Q : Option Value → MH → Prop} {en i j w0 : Int} {eu ek el : Nat → Int} (F0 : h[30]? = some (.inr (1, [.ref 31, .ref 32, .ref 33, .int (iZ en)]))) (F1 : h[31]? = some (.inl (0, 12, .inl (zA eu)))) (F2 : h[32]? = some (.inl (0, 12, .inl (zA ek)))) (F3 : h[33]? = some (.inl (0, 12, .inl (zA el)))) (oeu : okr eu) (oek : okr ek) (oel : okr el) (ren : rg en) (ri : rg i) (rj : rg j) (rw0 : rg w0) (k : ∀ (h1 : MH) (ek_1 el_1 : Nat → Int) (r : Int), okr ek_1 → okr el_1 → rg r → Sm [32, 33] h h1 → h1[32]? = some (.inl (0, 12, .inl (zA ek_1))) → h1[33]? = some (.inl (0, 12, .inl (zA el_1))) → Q (some (.int (iZ r))) h1) : Go l mX1_fewest 0 [some (.ref 30), some (.int (iZ i)), some (.int (iZ j)), some (.int (iZ w0)), none, none] [] h Q := by
  refine g_aload_n 1 dX1_fewest_0 rfl rfl ?_
  refine g_iload_n 2 dX1_fewest_1 rfl rfl ?_
  refine g_callV (z := mX1_has) (As := [.int (iZ i)]) 5 dX1_fewest_2 mwX1_has ⟨by decide, by decide⟩ rfl wlX1_25 wiX1_has wsX1_has F0 rfl rfl rfl (nle rfl) (nle rfl) rfl ?_
  refine Go.to [some (.ref 30), some (.int (iZ i))] [] rfl rfl ?_
  refine g_iload_n 1 dX1_has_0 rfl rfl ?_
  refine g_ifZ_lt 22 4 dX1_has_1 rfl rfl ri (fun c1 => ?_) (fun c1 => ?_)
  · refine g_iconst (v := iZ (0)) 23 dX1_has_22 rfl rfl ?_
    refine g_zret rfl z01_0 dX1_has_23 ?_
    refine rI ?_
    refine g_ifZ_eq 16 8 dX1_fewest_5 rfl rfl (by decide) (fun _ => ?_) (fun q => absurd q (by decide))
    refine g_bipush (v := iZ (-9)) 18 dX1_fewest_16 (by decide +kernel) rfl ?_
    refine g_iret rfl dX1_fewest_18 ?_
    exact k _ (ek) (el) (-9) oek oel (by decide) (Sm.refl [32, 33] _) F2 F3
  · refine g_iload_n 5 dX1_has_4 rfl rfl ?_
    refine g_aload_n 6 dX1_has_5 rfl rfl ?_
    refine g_get 9 dX1_has_6 faX1_21_X1 F0 rfl rfl ?_
    refine g_icZ_ge 22 12 dX1_has_9 rfl rfl ri ren (fun c2 => ?_) (fun c2 => ?_)
    · refine g_iconst (v := iZ (0)) 23 dX1_has_22 rfl rfl ?_
      refine g_zret rfl z01_0 dX1_has_23 ?_
      refine rI ?_
      refine g_ifZ_eq 16 8 dX1_fewest_5 rfl rfl (by decide) (fun _ => ?_) (fun q => absurd q (by decide))
      refine g_bipush (v := iZ (-9)) 18 dX1_fewest_16 (by decide +kernel) rfl ?_
      refine g_iret rfl dX1_fewest_18 ?_
      exact k _ (ek) (el) (-9) oek oel (by decide) (Sm.refl [32, 33] _) F2 F3
    · refine g_iload_n 13 dX1_has_12 rfl rfl ?_
      refine g_bipush (v := iZ (12)) 15 dX1_has_13 (by decide +kernel) rfl ?_
      refine g_icZ_ge 22 18 dX1_has_15 rfl rfl ri (by decide) (fun c3 => ?_) (fun c3 => ?_)
      · refine g_iconst (v := iZ (0)) 23 dX1_has_22 rfl rfl ?_
        refine g_zret rfl z01_0 dX1_has_23 ?_
        refine rI ?_
        refine g_ifZ_eq 16 8 dX1_fewest_5 rfl rfl (by decide) (fun _ => ?_) (fun q => absurd q (by decide))
        refine g_bipush (v := iZ (-9)) 18 dX1_fewest_16 (by decide +kernel) rfl ?_
        refine g_iret rfl dX1_fewest_18 ?_
        exact k _ (ek) (el) (-9) oek oel (by decide) (Sm.refl [32, 33] _) F2 F3
      · refine g_iconst (v := iZ (1)) 19 dX1_has_18 rfl rfl ?_
        refine g_goto 23 dX1_has_19 rfl ?_
        refine g_zret rfl z01_1 dX1_has_23 ?_
        refine rI ?_
        refine g_ifZ_eq 16 8 dX1_fewest_5 rfl rfl (by decide) (fun q => absurd q (by decide)) (fun _ => ?_)
        refine g_aload_n 9 dX1_fewest_8 rfl rfl ?_
        refine g_iload_n 10 dX1_fewest_9 rfl rfl ?_
        refine g_callV (z := mX1_has) (As := [.int (iZ j)]) 13 dX1_fewest_10 mwX1_has ⟨by decide, by decide⟩ rfl wlX1_25 wiX1_has wsX1_has F0 rfl rfl rfl (nle rfl) (nle rfl) rfl ?_
        refine Go.to [some (.ref 30), some (.int (iZ j))] [] rfl rfl ?_
        refine g_iload_n 1 dX1_has_0 rfl rfl ?_
        refine g_ifZ_lt 22 4 dX1_has_1 rfl rfl rj (fun c4 => ?_) (fun c4 => ?_)
        · refine g_iconst (v := iZ (0)) 23 dX1_has_22 rfl rfl ?_
          refine g_zret rfl z01_0 dX1_has_23 ?_
          refine rI ?_
          refine g_ifZ_ne 19 16 dX1_fewest_13 rfl rfl (by decide) (fun q => absurd q (by decide)) (fun _ => ?_)
          refine g_bipush (v := iZ (-9)) 18 dX1_fewest_16 (by decide +kernel) rfl ?_
          refine g_iret rfl dX1_fewest_18 ?_
          exact k _ (ek) (el) (-9) oek oel (by decide) (Sm.refl [32, 33] _) F2 F3
        · refine g_iload_n 5 dX1_has_4 rfl rfl ?_
          refine g_aload_n 6 dX1_has_5 rfl rfl ?_
          refine g_get 9 dX1_has_6 faX1_21_X1 F0 rfl rfl ?_
          refine g_icZ_ge 22 12 dX1_has_9 rfl rfl rj ren (fun c5 => ?_) (fun c5 => ?_)
          · refine g_iconst (v := iZ (0)) 23 dX1_has_22 rfl rfl ?_
            refine g_zret rfl z01_0 dX1_has_23 ?_
            refine rI ?_
            refine g_ifZ_ne 19 16 dX1_fewest_13 rfl rfl (by decide) (fun q => absurd q (by decide)) (fun _ => ?_)
            refine g_bipush (v := iZ (-9)) 18 dX1_fewest_16 (by decide +kernel) rfl ?_
            refine g_iret rfl dX1_fewest_18 ?_
            exact k _ (ek) (el) (-9) oek oel (by decide) (Sm.refl [32, 33] _) F2 F3
          · refine g_iload_n 13 dX1_has_12 rfl rfl ?_
            refine g_bipush (v := iZ (12)) 15 dX1_has_13 (by decide +kernel) rfl ?_
            refine g_icZ_ge 22 18 dX1_has_15 rfl rfl rj (by decide) (fun c6 => ?_) (fun c6 => ?_)
            · refine g_iconst (v := iZ (0)) 23 dX1_has_22 rfl rfl ?_
              refine g_zret rfl z01_0 dX1_has_23 ?_
              refine rI ?_
              refine g_ifZ_ne 19 16 dX1_fewest_13 rfl rfl (by decide) (fun q => absurd q (by decide)) (fun _ => ?_)
              refine g_bipush (v := iZ (-9)) 18 dX1_fewest_16 (by decide +kernel) rfl ?_
              refine g_iret rfl dX1_fewest_18 ?_
              exact k _ (ek) (el) (-9) oek oel (by decide) (Sm.refl [32, 33] _) F2 F3
            · refine g_iconst (v := iZ (1)) 19 dX1_has_18 rfl rfl ?_
              refine g_goto 23 dX1_has_19 rfl ?_
              refine g_zret rfl z01_1 dX1_has_23 ?_
              refine rI ?_
              refine g_ifZ_ne 19 16 dX1_fewest_13 rfl rfl (by decide) (fun _ => ?_) (fun q => absurd q (by decide))
              refine g_iconst (v := iZ (0)) 20 dX1_fewest_19 rfl rfl ?_
              refine g_istore (L1 := [some (.ref 30), some (.int (iZ i)), some (.int (iZ j)), some (.int (iZ w0)), some (.int (iZ 0)), none]) 22 dX1_fewest_20 (by decide) rfl rfl rfl ?_
              refine lp1_a 12 _ _ _ (by decide) (by decide) oel F0 F3 ?_
              intro h8 g7 og7 s9 f10
              refine g_aload_n 45 dX1_fewest_44 rfl rfl ?_
              have f11 := (s9.get (by decide) F0)
              refine g_get 48 dX1_fewest_45 faX1_18_X1 f11 rfl rfl ?_
              refine g_iload_n 49 dX1_fewest_48 rfl rfl ?_
              refine g_iconst (v := iZ (0)) 50 dX1_fewest_49 rfl rfl ?_
              refine g_iastW 51 dX1_fewest_50 f10 og7 (by decide) (by omega) (by omega) (by decide) rfl (fun h13 g12 og12 s14 f15 => ?_)
              refine g_aload_n 52 dX1_fewest_51 rfl rfl ?_
              have f16 := (s14.get (by decide) f11)
              refine g_get 55 dX1_fewest_52 faX1_15_X1 f16 rfl rfl ?_
              refine g_iload_n 56 dX1_fewest_55 rfl rfl ?_
              have f17 := (s14.get (by decide) (s9.get (by decide) F2))
              refine g_ialdW 57 dX1_fewest_56 f17 oek (by omega) (by omega) (by decide) rfl (fun v18 rv18 => ?_)
              refine g_istore (L1 := [some (.ref 30), some (.int (iZ i)), some (.int (iZ j)), some (.int (iZ w0)), some (.int (iZ v18)), none]) 59 dX1_fewest_57 (by decide) rfl rfl rfl ?_
              refine g_aload_n 60 dX1_fewest_59 rfl rfl ?_
              refine g_get 63 dX1_fewest_60 faX1_15_X1 f16 rfl rfl ?_
              refine g_iload_n 64 dX1_fewest_63 rfl rfl ?_
              refine g_iload 66 dX1_fewest_64 rfl rfl ?_
              refine g_iload_n 67 dX1_fewest_66 rfl rfl ?_
              refine g_ior 68 dX1_fewest_67 rfl ?_
              refine Go.genZ (fun z19 rz19 => ?_)
              refine g_iastW 69 dX1_fewest_68 f17 oek rz19 (by omega) (by omega) (by decide) rfl (fun h21 g20 og20 s22 f23 => ?_)
              refine g_iconst (v := iZ (0)) 70 dX1_fewest_69 rfl rfl ?_
              refine g_istore (L1 := [some (.ref 30), some (.int (iZ i)), some (.int (iZ j)), some (.int (iZ w0)), some (.int (iZ v18)), some (.int (iZ 0))]) 72 dX1_fewest_70 (by decide) rfl rfl rfl ?_
              refine Go.fgt 2 ?_
              refine Go.fgt 3 ?_
              have f24 := (s22.get (by decide) f16)
              have f25 := (s22.get (by decide) (s14.get (by decide) (s9.get (by decide) F1)))
              have f26 := (s22.get (by decide) f15)
              exact w_few_l oeu ren ri _ _ (g20) (g12) (v18) (0) rfl og20 og12 f24 f25 f23 f26 rv18 rg_0 (by omega) (fun hQ xQ0 xQ1 rQ yQ0 yQ1 yQ2 sQ uQ0 uQ1 => k hQ xQ0 xQ1 rQ yQ0 yQ1 yQ2 (((((Sm.refl [32, 33] _).tr s9 (fun _ q => q) (by simp)).tr s14 (fun _ q => q) (by simp)).tr s22 (fun _ q => q) (by simp)).tr sQ (fun _ q => q) (fun _ q => q)) uQ0 uQ1)
set_option maxRecDepth 100000 in
theorem w_step_l {l : Launch} {Q : Option Value → MH → Prop} {en j : Int} {eu ek el : Nat → Int} (oeu : okr eu) (oek : okr ek) (oel : okr el) (ren : rg en) (rj : rg j) : ∀ (m0 : Nat) (h : MH) (a u : Int), (12 - u).toNat = m0 → h[30]? = some (.inr (1, [.ref 31, .ref 32, .ref 33, .int (iZ en)])) → h[31]? = some (.inl (0, 12, .inl (zA eu))) → h[32]? = some (.inl (0, 12, .inl (zA ek))) → h[33]? = some (.inl (0, 12, .inl (zA el))) → rg a → 0 ≤ u ∧ u ≤ 12 → (∀ (r : Int), rg r → Q (some (.int (iZ r))) h) → Go l mX1_step 5 [some (.ref 30), none, some (.int (iZ j)), some (.int (iZ a)), some (.int (iZ u))] [] h Q := by
  intro m0
  induction m0 using Nat.strongRecOn with
  | ind m0 ih =>
    intro h a u hmz F0 F1 F2 F3 ra hu k
    refine g_iload 7 dX1_step_5 rfl rfl ?_
    refine g_iload_n 8 dX1_step_7 rfl rfl ?_
    refine g_icZ_ge 51 11 dX1_step_8 rfl rfl (by omega) rj (fun c1 => ?_) (fun c1 => ?_)
    · refine g_iload_n 52 dX1_step_51 rfl rfl ?_
      refine g_iret rfl dX1_step_52 ?_
      exact k (a) ra
    · refine g_iload 13 dX1_step_11 rfl rfl ?_
      refine g_bipush (v := iZ (12)) 15 dX1_step_13 (by decide +kernel) rfl ?_
      refine g_icZ_ge 51 18 dX1_step_15 rfl rfl (by omega) (by decide) (fun c2 => ?_) (fun c2 => ?_)
      · refine g_iload_n 52 dX1_step_51 rfl rfl ?_
        refine g_iret rfl dX1_step_52 ?_
        exact k (a) ra
      · refine g_aload_n 19 dX1_step_18 rfl rfl ?_
        refine g_iload_n 20 dX1_step_19 rfl rfl ?_
        refine g_callV (z := mX1_has) (As := [.int (iZ a)]) 23 dX1_step_20 mwX1_has ⟨by decide, by decide⟩ rfl wlX1_25 wiX1_has wsX1_has F0 rfl rfl rfl (nle rfl) (nle rfl) rfl ?_
        refine Go.to [some (.ref 30), some (.int (iZ a))] [] rfl rfl ?_
        refine g_iload_n 1 dX1_has_0 rfl rfl ?_
        refine g_ifZ_lt 22 4 dX1_has_1 rfl rfl ra (fun c3 => ?_) (fun c3 => ?_)
        · refine g_iconst (v := iZ (0)) 23 dX1_has_22 rfl rfl ?_
          refine g_zret rfl z01_0 dX1_has_23 ?_
          refine rI ?_
          refine g_ifZ_eq 42 26 dX1_step_23 rfl rfl (by decide) (fun _ => ?_) (fun q => absurd q (by decide))
          refine g_bipush (v := iZ (-9)) 44 dX1_step_42 (by decide +kernel) rfl ?_
          refine g_istore_n (L1 := [some (.ref 30), none, some (.int (iZ j)), some (.int (iZ (-9))), some (.int (iZ u))]) 45 dX1_step_44 (by decide) rfl rfl rfl ?_
          refine g_iincZ [some (.ref 30), none, some (.int (iZ j)), some (.int (iZ (-9))), some (.int (iZ (u + 1)))] 48 dX1_step_45 rfl (by omega) (by decide) rfl rfl rfl ?_
          refine g_goto 5 dX1_step_48 rfl ?_
          exact ih _ (by omega) _ (-9) (u + 1) rfl F0 F1 F2 F3 (by decide) (by omega) k
        · refine g_iload_n 5 dX1_has_4 rfl rfl ?_
          refine g_aload_n 6 dX1_has_5 rfl rfl ?_
          refine g_get 9 dX1_has_6 faX1_21_X1 F0 rfl rfl ?_
          refine g_icZ_ge 22 12 dX1_has_9 rfl rfl ra ren (fun c4 => ?_) (fun c4 => ?_)
          · refine g_iconst (v := iZ (0)) 23 dX1_has_22 rfl rfl ?_
            refine g_zret rfl z01_0 dX1_has_23 ?_
            refine rI ?_
            refine g_ifZ_eq 42 26 dX1_step_23 rfl rfl (by decide) (fun _ => ?_) (fun q => absurd q (by decide))
            refine g_bipush (v := iZ (-9)) 44 dX1_step_42 (by decide +kernel) rfl ?_
            refine g_istore_n (L1 := [some (.ref 30), none, some (.int (iZ j)), some (.int (iZ (-9))), some (.int (iZ u))]) 45 dX1_step_44 (by decide) rfl rfl rfl ?_
            refine g_iincZ [some (.ref 30), none, some (.int (iZ j)), some (.int (iZ (-9))), some (.int (iZ (u + 1)))] 48 dX1_step_45 rfl (by omega) (by decide) rfl rfl rfl ?_
            refine g_goto 5 dX1_step_48 rfl ?_
            exact ih _ (by omega) _ (-9) (u + 1) rfl F0 F1 F2 F3 (by decide) (by omega) k
          · refine g_iload_n 13 dX1_has_12 rfl rfl ?_
            refine g_bipush (v := iZ (12)) 15 dX1_has_13 (by decide +kernel) rfl ?_
            refine g_icZ_ge 22 18 dX1_has_15 rfl rfl ra (by decide) (fun c5 => ?_) (fun c5 => ?_)
            · refine g_iconst (v := iZ (0)) 23 dX1_has_22 rfl rfl ?_
              refine g_zret rfl z01_0 dX1_has_23 ?_
              refine rI ?_
              refine g_ifZ_eq 42 26 dX1_step_23 rfl rfl (by decide) (fun _ => ?_) (fun q => absurd q (by decide))
              refine g_bipush (v := iZ (-9)) 44 dX1_step_42 (by decide +kernel) rfl ?_
              refine g_istore_n (L1 := [some (.ref 30), none, some (.int (iZ j)), some (.int (iZ (-9))), some (.int (iZ u))]) 45 dX1_step_44 (by decide) rfl rfl rfl ?_
              refine g_iincZ [some (.ref 30), none, some (.int (iZ j)), some (.int (iZ (-9))), some (.int (iZ (u + 1)))] 48 dX1_step_45 rfl (by omega) (by decide) rfl rfl rfl ?_
              refine g_goto 5 dX1_step_48 rfl ?_
              exact ih _ (by omega) _ (-9) (u + 1) rfl F0 F1 F2 F3 (by decide) (by omega) k
            · refine g_iconst (v := iZ (1)) 19 dX1_has_18 rfl rfl ?_
              refine g_goto 23 dX1_has_19 rfl ?_
              refine g_zret rfl z01_1 dX1_has_23 ?_
              refine rI ?_
              refine g_ifZ_eq 42 26 dX1_step_23 rfl rfl (by decide) (fun q => absurd q (by decide)) (fun _ => ?_)
              refine g_aload_n 27 dX1_step_26 rfl rfl ?_
              refine g_iload_n 28 dX1_step_27 rfl rfl ?_
              refine g_aload_n 29 dX1_step_28 rfl rfl ?_
              refine g_get 32 dX1_step_29 faX1_18_X1 F0 rfl rfl ?_
              refine g_iload_n 33 dX1_step_32 rfl rfl ?_
              refine g_ialdW 34 dX1_step_33 F3 oel (by omega) (by omega) (by decide) rfl (fun v6 rv6 => ?_)
              refine g_iconst (v := iZ (1)) 35 dX1_step_34 rfl rfl ?_
              refine g_isub 36 dX1_step_35 rfl ?_
              refine Go.genZ (fun z7 rz7 => ?_)
              refine g_callV (z := mX1_firstBuilt) (As := [.int (iZ a), .int (iZ z7)]) 39 dX1_step_36 mwX1_firstBuilt ⟨by decide, by decide⟩ rfl wlX1_33 wiX1_firstBuilt wsX1_firstBuilt F0 rfl rfl rfl (nle rfl) (nle rfl) rfl ?_
              refine w_fb  F0 F1 F2 F3 oeu oek oel ren ra rz7 (fun z8 rz8 => ?_)
              refine rI ?_
              refine g_goto 44 dX1_step_39 rfl ?_
              refine g_istore_n (L1 := [some (.ref 30), none, some (.int (iZ j)), some (.int (iZ z8)), some (.int (iZ u))]) 45 dX1_step_44 (by decide) rfl rfl rfl ?_
              refine g_iincZ [some (.ref 30), none, some (.int (iZ j)), some (.int (iZ z8)), some (.int (iZ (u + 1)))] 48 dX1_step_45 rfl (by omega) (by decide) rfl rfl rfl ?_
              refine g_goto 5 dX1_step_48 rfl ?_
              exact ih _ (by omega) _ (z8) (u + 1) rfl F0 F1 F2 F3 rz8 (by omega) k
set_option maxRecDepth 100000 in
theorem w_step {l : Launch} {h : MH} {Q : Option Value → MH → Prop} {en i j : Int} {eu ek el : Nat → Int} (F0 : h[30]? = some (.inr (1, [.ref 31, .ref 32, .ref 33, .int (iZ en)]))) (F1 : h[31]? = some (.inl (0, 12, .inl (zA eu)))) (F2 : h[32]? = some (.inl (0, 12, .inl (zA ek)))) (F3 : h[33]? = some (.inl (0, 12, .inl (zA el)))) (oeu : okr eu) (oek : okr ek) (oel : okr el) (ren : rg en) (ri : rg i) (rj : rg j) (k : ∀ (r : Int), rg r → Q (some (.int (iZ r))) h) : Go l mX1_step 0 [some (.ref 30), some (.int (iZ i)), some (.int (iZ j)), none, none] [] h Q := by
  refine g_iload_n 1 dX1_step_0 rfl rfl ?_
  refine g_istore_n (L1 := [some (.ref 30), some (.int (iZ i)), some (.int (iZ j)), some (.int (iZ i)), none]) 2 dX1_step_1 (by decide) rfl rfl rfl ?_
  refine g_iconst (v := iZ (0)) 3 dX1_step_2 rfl rfl ?_
  refine g_istore (L1 := [some (.ref 30), some (.int (iZ i)), some (.int (iZ j)), some (.int (iZ i)), some (.int (iZ 0))]) 5 dX1_step_3 (by decide) rfl rfl rfl ?_
  refine Go.fgt 1 ?_
  exact w_step_l oeu oek oel ren rj _ _ (i) (0) rfl F0 F1 F2 F3 ri (by omega) k

set_option maxRecDepth 100000 in
theorem c_has {l : Launch} {h : MH} {Q : Option Value → MH → Prop} {en i : Int} (F0 : h[30]? = some (.inr (1, [.ref 31, .ref 32, .ref 33, .int (iZ en)]))) (ren : (0 ≤ en ∧ en ≤ 12)) (ri : rg i) (k : ∀ (r : Int), ((r = 1 ∧ 0 ≤ i ∧ i < en) ∨ (r = 0 ∧ (i < 0 ∨ en ≤ i))) → Q (some (.int (iZ r))) h) : Go l mX1_has 0 [some (.ref 30), some (.int (iZ i))] [] h Q := by
  refine g_iload_n 1 dX1_has_0 rfl rfl ?_
  refine g_ifZ_lt 22 4 dX1_has_1 rfl rfl ri (fun c1 => ?_) (fun c1 => ?_)
  · refine g_iconst (v := iZ (0)) 23 dX1_has_22 rfl rfl ?_
    refine g_zret rfl z01_0 dX1_has_23 ?_
    exact k (0) (by omega)
  · refine g_iload_n 5 dX1_has_4 rfl rfl ?_
    refine g_aload_n 6 dX1_has_5 rfl rfl ?_
    refine g_get 9 dX1_has_6 faX1_21_X1 F0 rfl rfl ?_
    refine g_icZ_ge 22 12 dX1_has_9 rfl rfl ri (by omega) (fun c2 => ?_) (fun c2 => ?_)
    · refine g_iconst (v := iZ (0)) 23 dX1_has_22 rfl rfl ?_
      refine g_zret rfl z01_0 dX1_has_23 ?_
      exact k (0) (by omega)
    · refine g_iload_n 13 dX1_has_12 rfl rfl ?_
      refine g_bipush (v := iZ (12)) 15 dX1_has_13 (by decide +kernel) rfl ?_
      refine g_icZ_ge 22 18 dX1_has_15 rfl rfl ri (by decide) (fun q => absurd q (by omega)) (fun _ => ?_)
      refine g_iconst (v := iZ (1)) 19 dX1_has_18 rfl rfl ?_
      refine g_goto 23 dX1_has_19 rfl ?_
      refine g_zret rfl z01_1 dX1_has_23 ?_
      exact k (1) (by omega)
set_option maxRecDepth 100000 in
theorem c_fb_l {l : Launch} {Q : Option Value → MH → Prop} {en b bl : Int} {eu ek el : Nat → Int} (oeu : okr eu) (oek : okr ek) (oel : okr el) (ren : (0 ≤ en ∧ en ≤ 12)) (rb : (0 ≤ b ∧ b ≤ 11)) (rbl : rg bl) (hb : b < en) : ∀ (m0 : Nat) (h : MH) (j : Int), (12 - j).toNat = m0 → h[30]? = some (.inr (1, [.ref 31, .ref 32, .ref 33, .int (iZ en)])) → h[31]? = some (.inl (0, 12, .inl (zA eu))) → h[32]? = some (.inl (0, 12, .inl (zA ek))) → h[33]? = some (.inl (0, 12, .inl (zA el))) → 0 ≤ j ∧ j ≤ en → fst1 (fun j => el j = bl ∧ cn (iZ (eu j)) (iZ (ek b.toNat))) j.toNat = -9 → (∀ (r : Int), (r = fst1 (fun j => el j = bl ∧ cn (iZ (eu j)) (iZ (ek b.toNat))) en.toNat ∧ -9 ≤ r ∧ r ≤ 12) → Q (some (.int (iZ r))) h) → Go l mX1_firstBuilt 2 [some (.ref 30), some (.int (iZ b)), some (.int (iZ bl)), some (.int (iZ j))] [] h Q := by
  intro m0
  induction m0 using Nat.strongRecOn with
  | ind m0 ih =>
    intro h j hmz F0 F1 F2 F3 hj hX k
    refine g_iload_n 3 dX1_firstBuilt_2 rfl rfl ?_
    refine g_aload_n 4 dX1_firstBuilt_3 rfl rfl ?_
    refine g_get 7 dX1_firstBuilt_4 faX1_21_X1 F0 rfl rfl ?_
    refine g_icZ_ge 60 10 dX1_firstBuilt_7 rfl rfl (by omega) (by omega) (fun c1 => ?_) (fun c1 => ?_)
    · refine g_bipush (v := iZ (-9)) 62 dX1_firstBuilt_60 (by decide +kernel) rfl ?_
      refine g_iret rfl dX1_firstBuilt_62 ?_
      have e9 : j = en := by omega
      rw [e9] at hX
      exact k (-9) ⟨hX.symm, by decide, by decide⟩
    · refine g_iload_n 11 dX1_firstBuilt_10 rfl rfl ?_
      refine g_bipush (v := iZ (12)) 13 dX1_firstBuilt_11 (by decide +kernel) rfl ?_
      refine g_icZ_ge 60 16 dX1_firstBuilt_13 rfl rfl (by omega) (by decide) (fun q => absurd q (by omega)) (fun _ => ?_)
      refine g_aload_n 17 dX1_firstBuilt_16 rfl rfl ?_
      refine g_get 20 dX1_firstBuilt_17 faX1_18_X1 F0 rfl rfl ?_
      refine g_iload_n 21 dX1_firstBuilt_20 rfl rfl ?_
      refine g_ialdZ (v := iZ (el j.toNat)) 22 dX1_firstBuilt_21 F3 (by omega) (by omega) (by decide) rfl rfl ?_
      refine g_iload_n 23 dX1_firstBuilt_22 rfl rfl ?_
      refine g_icZ_ne 54 26 dX1_firstBuilt_23 rfl rfl (oel _) rbl (fun c2 => ?_) (fun c2 => ?_)
      · refine g_iincZ [some (.ref 30), some (.int (iZ b)), some (.int (iZ bl)), some (.int (iZ (j + 1)))] 57 dX1_firstBuilt_54 rfl (by omega) (by decide) rfl rfl rfl ?_
        refine g_goto 2 dX1_firstBuilt_57 rfl ?_
        exact ih _ (by omega) _ (j + 1) rfl F0 F1 F2 F3 (by omega) ((fstI_neg (by omega) (fun q => c2 q.2.1)).trans hX) k
      · refine g_aload_n 27 dX1_firstBuilt_26 rfl rfl ?_
        refine g_iload_n 28 dX1_firstBuilt_27 rfl rfl ?_
        refine g_callV (z := mX1_has) (As := [.int (iZ b)]) 31 dX1_firstBuilt_28 mwX1_has ⟨by decide, by decide⟩ rfl wlX1_25 wiX1_has wsX1_has F0 rfl rfl rfl (nle rfl) (nle rfl) rfl ?_
        refine c_has  F0 (by omega) (by omega) (fun z3 rz3 => ?_)
        refine rI ?_
        refine g_ifZ_eq 54 34 dX1_firstBuilt_31 rfl rfl (rg01 (by omega)) (fun q => absurd q (by omega)) (fun _ => ?_)
        refine g_aload_n 35 dX1_firstBuilt_34 rfl rfl ?_
        refine g_get 38 dX1_firstBuilt_35 faX1_9_X1 F0 rfl rfl ?_
        refine g_iload_n 39 dX1_firstBuilt_38 rfl rfl ?_
        refine g_ialdZ (v := iZ (eu j.toNat)) 40 dX1_firstBuilt_39 F1 (by omega) (by omega) (by decide) rfl rfl ?_
        refine g_aload_n 41 dX1_firstBuilt_40 rfl rfl ?_
        refine g_get 44 dX1_firstBuilt_41 faX1_15_X1 F0 rfl rfl ?_
        refine g_iload_n 45 dX1_firstBuilt_44 rfl rfl ?_
        refine g_ialdZ (v := iZ (ek b.toNat)) 46 dX1_firstBuilt_45 F2 (by omega) (by omega) (by decide) rfl rfl ?_
        refine g_iconst (v := iZ (-1)) 47 dX1_firstBuilt_46 rfl rfl ?_
        refine g_ixor 48 dX1_firstBuilt_47 rfl ?_
        refine g_iand 49 dX1_firstBuilt_48 rfl ?_
        refine Go.zof ?_
        refine g_ifZ_ne 54 52 dX1_firstBuilt_49 rfl rfl (rg_toInt _) (fun c4 => ?_) (fun c4 => ?_)
        · refine g_iincZ [some (.ref 30), some (.int (iZ b)), some (.int (iZ bl)), some (.int (iZ (j + 1)))] 57 dX1_firstBuilt_54 rfl (by omega) (by decide) rfl rfl rfl ?_
          refine g_goto 2 dX1_firstBuilt_57 rfl ?_
          exact ih _ (by omega) _ (j + 1) rfl F0 F1 F2 F3 (by omega) ((fstI_neg (by omega) (fun q => c4 q.2.2)).trans hX) k
        · refine g_iload_n 53 dX1_firstBuilt_52 rfl rfl ?_
          refine g_iret rfl dX1_firstBuilt_53 ?_
          exact k j ⟨(fsE_at (by omega) (by omega) hX ⟨c2, c4⟩).symm, by omega, by omega⟩
set_option maxRecDepth 100000 in
theorem c_fb {l : Launch} {h : MH} {Q : Option Value → MH → Prop} {en b bl : Int} {eu ek el : Nat → Int} (F0 : h[30]? = some (.inr (1, [.ref 31, .ref 32, .ref 33, .int (iZ en)]))) (F1 : h[31]? = some (.inl (0, 12, .inl (zA eu)))) (F2 : h[32]? = some (.inl (0, 12, .inl (zA ek)))) (F3 : h[33]? = some (.inl (0, 12, .inl (zA el)))) (oeu : okr eu) (oek : okr ek) (oel : okr el) (ren : (0 ≤ en ∧ en ≤ 12)) (rb : (0 ≤ b ∧ b ≤ 11)) (rbl : rg bl) (hb : b < en) (k : ∀ (r : Int), (r = fst1 (fun j => el j = bl ∧ cn (iZ (eu j)) (iZ (ek b.toNat))) en.toNat ∧ -9 ≤ r ∧ r ≤ 12) → Q (some (.int (iZ r))) h) : Go l mX1_firstBuilt 0 [some (.ref 30), some (.int (iZ b)), some (.int (iZ bl)), none] [] h Q := by
  refine g_iconst (v := iZ (0)) 1 dX1_firstBuilt_0 rfl rfl ?_
  refine g_istore_n (L1 := [some (.ref 30), some (.int (iZ b)), some (.int (iZ bl)), some (.int (iZ 0))]) 2 dX1_firstBuilt_1 (by decide) rfl rfl rfl ?_
  exact c_fb_l oeu oek oel ren rb rbl hb _ _ (0) rfl F0 F1 F2 F3 (by omega) rfl k
set_option maxRecDepth 100000 in
theorem c_rb_l {l : Launch} {Q : Option Value → MH → Prop} {en bl : Int} {eu ek : Nat → Int} {t : Nat} (oeu : okr eu) (oek : okr ek) (ren : (0 ≤ en ∧ en ≤ 12)) (rbl : (0 ≤ bl ∧ bl ≤ 12)) : ∀ (m0 : Nat) (h : MH) (el : Nat → Int) (i : Int), (12 - i).toNat = m0 → okr el → h[30]? = some (.inr (1, [.ref 31, .ref 32, .ref 33, .int (iZ en)])) → h[31]? = some (.inl (0, 12, .inl (zA eu))) → h[32]? = some (.inl (0, 12, .inl (zA ek))) → h[33]? = some (.inl (0, 12, .inl (zA el))) → 0 ≤ i ∧ i ≤ en → (∀ j : Nat, (j : Int) < i → el j = lv en.toNat (fun o => iZ (eu o)) (fun e => iZ (ek e)) t (bl + 1).toNat j) → (∀ j : Nat, i ≤ j → (j : Int) < en → el j = lv en.toNat (fun o => iZ (eu o)) (fun e => iZ (ek e)) t bl.toNat j) → (∀ (h1 : MH) (el_1 : Nat → Int), okr el_1 → (∀ j : Nat, (j : Int) < en → el_1 j = lv en.toNat (fun o => iZ (eu o)) (fun e => iZ (ek e)) t (bl + 1).toNat j) → Sm [33] h h1 → h1[33]? = some (.inl (0, 12, .inl (zA el_1))) → Q none h1) → Go l mX1_reachBack 2 [some (.ref 30), some (.int (iZ bl)), some (.int (iZ i))] [] h Q := by
  intro m0
  induction m0 using Nat.strongRecOn with
  | ind m0 ih =>
    intro h el i hmz oel F0 F1 F2 F3 hi hA hB k
    refine g_iload_n 3 dX1_reachBack_2 rfl rfl ?_
    refine g_aload_n 4 dX1_reachBack_3 rfl rfl ?_
    refine g_get 7 dX1_reachBack_4 faX1_21_X1 F0 rfl rfl ?_
    refine g_icZ_ge 53 10 dX1_reachBack_7 rfl rfl (by omega) (by omega) (fun c1 => ?_) (fun c1 => ?_)
    · refine g_vret rfl dX1_reachBack_53 ?_
      exact k _ (el) oel (fun j hj => hA j (by omega)) (Sm.refl [33] _) F3
    · refine g_iload_n 11 dX1_reachBack_10 rfl rfl ?_
      refine g_bipush (v := iZ (12)) 13 dX1_reachBack_11 (by decide +kernel) rfl ?_
      refine g_icZ_ge 53 16 dX1_reachBack_13 rfl rfl (by omega) (by decide) (fun q => absurd q (by omega)) (fun _ => ?_)
      refine g_aload_n 17 dX1_reachBack_16 rfl rfl ?_
      refine g_get 20 dX1_reachBack_17 faX1_18_X1 F0 rfl rfl ?_
      refine g_iload_n 21 dX1_reachBack_20 rfl rfl ?_
      refine g_ialdZ (v := iZ (el i.toNat)) 22 dX1_reachBack_21 F3 (by omega) (by omega) (by decide) rfl rfl ?_
      refine g_bipush (v := iZ (-9)) 24 dX1_reachBack_22 (by decide +kernel) rfl ?_
      refine g_icZ_ne 47 27 dX1_reachBack_24 rfl rfl (oel _) (by decide) (fun c2 => ?_) (fun c2 => ?_)
      · refine g_iincZ [some (.ref 30), some (.int (iZ bl)), some (.int (iZ (i + 1)))] 50 dX1_reachBack_47 rfl (by omega) (by decide) rfl rfl rfl ?_
        refine g_goto 2 dX1_reachBack_50 rfl ?_
        have hv := midC (v := el i.toNat) (by omega) (by omega) (by omega) hA hB (Or.inr ⟨fun q => c2 q.1, rfl⟩)
        exact ih _ (by omega) _ (el) (i + 1) rfl oel F0 F1 F2 F3 (by omega) (stA (by omega) hA hv) (fun j a9 b9 => hB j (by omega) b9) k
      · refine g_aload_n 28 dX1_reachBack_27 rfl rfl ?_
        refine g_iload_n 29 dX1_reachBack_28 rfl rfl ?_
        refine g_iload_n 30 dX1_reachBack_29 rfl rfl ?_
        refine g_callV (z := mX1_firstBuilt) (As := [.int (iZ i), .int (iZ bl)]) 33 dX1_reachBack_30 mwX1_firstBuilt ⟨by decide, by decide⟩ rfl wlX1_33 wiX1_firstBuilt wsX1_firstBuilt F0 rfl rfl rfl (nle rfl) (nle rfl) rfl ?_
        refine c_fb  F0 F1 F2 F3 oeu oek oel (by omega) (by omega) (by omega) (by omega) (fun z3 rz3 => ?_)
        refine rI ?_
        refine g_bipush (v := iZ (-9)) 35 dX1_reachBack_33 (by decide +kernel) rfl ?_
        refine g_icZ_eq 47 38 dX1_reachBack_35 rfl rfl (by omega) (by decide) (fun c4 => ?_) (fun c4 => ?_)
        · refine g_iincZ [some (.ref 30), some (.int (iZ bl)), some (.int (iZ (i + 1)))] 50 dX1_reachBack_47 rfl (by omega) (by decide) rfl rfl rfl ?_
          refine g_goto 2 dX1_reachBack_50 rfl ?_
          have hv := midC (v := el i.toNat) (by omega) (by omega) (by omega) hA hB (Or.inr ⟨fun q => q.2 (rz3.1.symm.trans c4), rfl⟩)
          exact ih _ (by omega) _ (el) (i + 1) rfl oel F0 F1 F2 F3 (by omega) (stA (by omega) hA hv) (fun j a9 b9 => hB j (by omega) b9) k
        · refine g_aload_n 39 dX1_reachBack_38 rfl rfl ?_
          refine g_get 42 dX1_reachBack_39 faX1_18_X1 F0 rfl rfl ?_
          refine g_iload_n 43 dX1_reachBack_42 rfl rfl ?_
          refine g_iload_n 44 dX1_reachBack_43 rfl rfl ?_
          refine g_iconst (v := iZ (1)) 45 dX1_reachBack_44 rfl rfl ?_
          refine g_iaddZ (bl + 1) 46 dX1_reachBack_45 (by omega) rfl ?_
          refine g_iastFj (i.toNat) 47 dX1_reachBack_46 F3 (by omega) (by omega) (by decide) rfl rfl (fun h5 s6 f7 => ?_)
          refine g_iincZ [some (.ref 30), some (.int (iZ bl)), some (.int (iZ (i + 1)))] 50 dX1_reachBack_47 rfl (by omega) (by decide) rfl rfl rfl ?_
          refine g_goto 2 dX1_reachBack_50 rfl ?_
          have f8 := (s6.get (by decide) F0)
          have f9 := (s6.get (by decide) F1)
          have f10 := (s6.get (by decide) F2)
          have hv := midC (v := bl + 1) (by omega) (by omega) (by omega) hA hB (Or.inl ⟨c2, fun q => c4 (rz3.1.trans q), rfl⟩)
          exact ih _ (by omega) _ (va_up el i.toNat (bl + 1)) (i + 1) rfl (okr_up oel _ (by omega)) f8 f9 f10 f7 (by omega) (upA (by omega) hA hv) (upB (by omega) hB) (fun hQ xQ0 yQ0 pQ0 sQ uQ0 => k hQ xQ0 yQ0 pQ0 (((Sm.refl [33] _).tr s6 (fun _ q => q) (by simp)).tr sQ (fun _ q => q) (fun _ q => q)) uQ0)
set_option maxRecDepth 100000 in
theorem c_rb {l : Launch} {h : MH} {Q : Option Value → MH → Prop} {en bl : Int} {eu ek el : Nat → Int} {t : Nat} (F0 : h[30]? = some (.inr (1, [.ref 31, .ref 32, .ref 33, .int (iZ en)]))) (F1 : h[31]? = some (.inl (0, 12, .inl (zA eu)))) (F2 : h[32]? = some (.inl (0, 12, .inl (zA ek)))) (F3 : h[33]? = some (.inl (0, 12, .inl (zA el)))) (oeu : okr eu) (oek : okr ek) (oel : okr el) (ren : (0 ≤ en ∧ en ≤ 12)) (rbl : (0 ≤ bl ∧ bl ≤ 12)) (hL : ∀ j : Nat, (j : Int) < en → el j = lv en.toNat (fun o => iZ (eu o)) (fun e => iZ (ek e)) t bl.toNat j) (k : ∀ (h1 : MH) (el_1 : Nat → Int), okr el_1 → (∀ j : Nat, (j : Int) < en → el_1 j = lv en.toNat (fun o => iZ (eu o)) (fun e => iZ (ek e)) t (bl + 1).toNat j) → Sm [33] h h1 → h1[33]? = some (.inl (0, 12, .inl (zA el_1))) → Q none h1) : Go l mX1_reachBack 0 [some (.ref 30), some (.int (iZ bl)), none] [] h Q := by
  refine g_iconst (v := iZ (0)) 1 dX1_reachBack_0 rfl rfl ?_
  refine g_istore_n (L1 := [some (.ref 30), some (.int (iZ bl)), some (.int (iZ 0))]) 2 dX1_reachBack_1 (by decide) rfl rfl rfl ?_
  exact c_rb_l oeu oek ren rbl _ _ (el) (0) rfl oel F0 F1 F2 F3 (by omega) (fun j hj => by omega) (fun j _ hj => hL j hj) k
set_option maxRecDepth 100000 in
theorem fw_I {l : Launch} {Q : Option Value → MH → Prop} {en : Int} {x y z : Int32} : ∀ (k : Nat) (h : MH) (g : Nat → Int) (i : Int), i = 12 - k → k ≤ 12 → okr g → (∀ j : Nat, (j : Int) < i → g j = -9) → h[30]? = some (.inr (1, [.ref 31, .ref 32, .ref 33, .int (iZ en)])) → h[33]? = some (.inl (0, 12, .inl (zA g))) → (∀ (h1 : MH) (g1 : Nat → Int), okr g1 → (∀ j : Nat, (j : Int) < 12 → g1 j = -9) → Sm [33] h h1 → h1[33]? = some (.inl (0, 12, .inl (zA g1))) → Go l mX1_fewest 44 [some (.ref 30), some (.int x), some (.int y), some (.int z), some (.int (iZ 12)), none] [] h1 Q) → Go l mX1_fewest 22 [some (.ref 30), some (.int x), some (.int y), some (.int z), some (.int (iZ i)), none] [] h Q := by
  intro k
  induction k with
  | zero =>
    intro h g i hi hk og hA f0 f1 kk
    have : i = 12 := by omega
    subst this
    refine g_iload 24 dX1_fewest_22 rfl rfl ?_
    refine g_bipush (v := iZ (12)) 26 dX1_fewest_24 (by decide +kernel) rfl ?_
    refine g_icZ_ge 44 29 dX1_fewest_26 rfl rfl (by decide) (by decide) (fun _ => ?_) (fun q => absurd q (by decide))
    exact kk _ _ og hA (Sm.refl _ _) f1
  | succ k ih =>
    intro h g i hi hk og hA f0 f1 kk
    have h0 : 0 ≤ i := by omega
    have h2 : i < 12 := by omega
    refine g_iload 24 dX1_fewest_22 rfl rfl ?_
    refine g_bipush (v := iZ (12)) 26 dX1_fewest_24 (by decide +kernel) rfl ?_
    refine g_icZ_ge 44 29 dX1_fewest_26 rfl rfl (by omega) (by decide) (fun q => absurd q (by omega)) (fun _ => ?_)
    refine g_aload_n 30 dX1_fewest_29 rfl rfl ?_
    refine g_get 33 dX1_fewest_30 faX1_18_X1 f0 rfl rfl ?_
    refine g_iload 35 dX1_fewest_33 rfl rfl ?_
    refine g_bipush (v := iZ (-9)) 37 dX1_fewest_35 (by decide +kernel) rfl ?_
    refine g_iastFj (i.toNat) 38 dX1_fewest_37 f1 (by omega) (by omega) (by decide) rfl rfl (fun h1 s2 f3 => ?_)
    refine g_iincZ [some (.ref 30), some (.int x), some (.int y), some (.int z), some (.int (iZ (i + 1))), none] 41 dX1_fewest_38 rfl (by omega) (by decide) rfl rfl rfl ?_
    refine g_goto 22 dX1_fewest_41 rfl ?_
    have f4 := (s2.get (by decide) f0)
    exact ih _ _ _ (by omega) (by omega) (okr_up og _ (by decide)) (upA (f := fun _ => -9) (by omega) hA rfl) f4 f3 (fun h1 g1 o1 e1 hs f1 => kk h1 g1 o1 e1 (s2.tr hs (fun _ q => q) (fun _ q => q)) f1)
set_option maxRecDepth 100000 in
theorem fw_L {l : Launch} {Q : Option Value → MH → Prop} {en : Int} {x y z q0 : Int32} {eu ek : Nat → Int} {t : Nat} (oeu : okr eu) (oek : okr ek) (ren : 0 ≤ en ∧ en ≤ 12) : ∀ (m0 : Nat) (h : MH) (el : Nat → Int) (u : Int), (en - u).toNat = m0 → 0 ≤ u ∧ u ≤ en → okr el → (∀ j : Nat, (j : Int) < en → el j = lv en.toNat (fun o => iZ (eu o)) (fun e => iZ (ek e)) t u.toNat j) → h[30]? = some (.inr (1, [.ref 31, .ref 32, .ref 33, .int (iZ en)])) → h[31]? = some (.inl (0, 12, .inl (zA eu))) → h[32]? = some (.inl (0, 12, .inl (zA ek))) → h[33]? = some (.inl (0, 12, .inl (zA el))) → (∀ (h1 : MH) (g1 : Nat → Int), okr g1 → (∀ j : Nat, (j : Int) < en → g1 j = lv en.toNat (fun o => iZ (eu o)) (fun e => iZ (ek e)) t en.toNat j) → Sm [33] h h1 → h1[33]? = some (.inl (0, 12, .inl (zA g1))) → Go l mX1_fewest 93 [some (.ref 30), some (.int x), some (.int y), some (.int z), some (.int q0), none] [] h1 Q) → Go l mX1_fewest 72 [some (.ref 30), some (.int x), some (.int y), some (.int z), some (.int q0), some (.int (iZ u))] [] h Q := by
  intro m0
  induction m0 using Nat.strongRecOn with
  | ind m0 ih =>
    intro h el u hmz hu oel hL f0 f1 f2 f3 k
    refine g_iload 74 dX1_fewest_72 rfl rfl ?_
    refine g_aload_n 75 dX1_fewest_74 rfl rfl ?_
    refine g_get 78 dX1_fewest_75 faX1_21_X1 f0 rfl rfl ?_
    refine g_icZ_ge 93 81 dX1_fewest_78 rfl rfl (by omega) (by omega) (fun c1 => ?_) (fun c1 => ?_)
    · refine Go.fgt 5 ?_
      have e9 : u = en := by omega
      rw [e9] at hL
      exact k h el oel hL (Sm.refl _ _) f3
    · refine g_aload_n 82 dX1_fewest_81 rfl rfl ?_
      refine g_iload 84 dX1_fewest_82 rfl rfl ?_
      refine g_callV (z := mX1_reachBack) (As := [.int (iZ u)]) 87 dX1_fewest_84 mwX1_reachBack ⟨by decide, by decide⟩ rfl wlX1_29 wiX1_reachBack wsX1_reachBack f0 rfl rfl rfl (nle rfl) (nle rfl) rfl ?_
      refine c_rb  f0 f1 f2 f3 oeu oek oel (by omega) (by omega) hL (fun h2 g4 og4 p5 s3 f6 => ?_)
      refine rV ?_
      refine g_iincZ [some (.ref 30), some (.int x), some (.int y), some (.int z), some (.int q0), some (.int (iZ (u + 1)))] 90 dX1_fewest_87 rfl (by omega) (by decide) rfl rfl rfl ?_
      refine g_goto 72 dX1_fewest_90 rfl ?_
      have f7 := (s3.get (by decide) f0)
      have f8 := (s3.get (by decide) f1)
      have f9 := (s3.get (by decide) f2)
      exact ih _ (by omega) _ _ (u + 1) rfl (by omega) og4 p5 f7 f8 f9 f6 (fun h1 g1 o1 e1 s1 u1 => k h1 g1 o1 e1 (s3.tr s1 (fun _ q => q) (fun _ q => q)) u1)
set_option maxRecDepth 100000 in
theorem c_few {l : Launch} {h : MH} {Q : Option Value → MH → Prop} {en a b wd : Int} {eu ek el : Nat → Int} (F0 : h[30]? = some (.inr (1, [.ref 31, .ref 32, .ref 33, .int (iZ en)]))) (F1 : h[31]? = some (.inl (0, 12, .inl (zA eu)))) (F2 : h[32]? = some (.inl (0, 12, .inl (zA ek)))) (F3 : h[33]? = some (.inl (0, 12, .inl (zA el)))) (oeu : okr eu) (oek : okr ek) (oel : okr el) (ren : (0 ≤ en ∧ en ≤ 12)) (ra : (0 ≤ a ∧ a ≤ 11)) (rb : (0 ≤ b ∧ b ≤ 11)) (rwd : rg wd) (ha : a < en) (hb : b < en) (k : ∀ (h1 : MH) (ek_1 : Nat → Int) (el_1 : Nat → Int) (r : Int), okr ek_1 → okr el_1 → (r = lvE en eu ek a b wd a.toNat ∧ -9 ≤ r ∧ r ≤ 12) → (ek_1 = ek) → (∀ j : Nat, (j : Int) < en → el_1 j = lvE en eu ek a b wd j) → Sm [32, 33] h h1 → h1[32]? = some (.inl (0, 12, .inl (zA ek_1))) → h1[33]? = some (.inl (0, 12, .inl (zA el_1))) → Q (some (.int (iZ r))) h1) : Go l mX1_fewest 0 [some (.ref 30), some (.int (iZ a)), some (.int (iZ b)), some (.int (iZ wd)), none, none] [] h Q := by
  refine g_aload_n 1 dX1_fewest_0 rfl rfl ?_
  refine g_iload_n 2 dX1_fewest_1 rfl rfl ?_
  refine g_callV (z := mX1_has) (As := [.int (iZ a)]) 5 dX1_fewest_2 mwX1_has ⟨by decide, by decide⟩ rfl wlX1_25 wiX1_has wsX1_has F0 rfl rfl rfl (nle rfl) (nle rfl) rfl ?_
  refine c_has  F0 (by omega) (by omega) (fun z1 rz1 => ?_)
  refine rI ?_
  refine g_ifZ_eq 16 8 dX1_fewest_5 rfl rfl (rg01 (by omega)) (fun q => absurd q (by omega)) (fun _ => ?_)
  refine g_aload_n 9 dX1_fewest_8 rfl rfl ?_
  refine g_iload_n 10 dX1_fewest_9 rfl rfl ?_
  refine g_callV (z := mX1_has) (As := [.int (iZ b)]) 13 dX1_fewest_10 mwX1_has ⟨by decide, by decide⟩ rfl wlX1_25 wiX1_has wsX1_has F0 rfl rfl rfl (nle rfl) (nle rfl) rfl ?_
  refine c_has  F0 (by omega) (by omega) (fun z2 rz2 => ?_)
  refine rI ?_
  refine g_ifZ_ne 19 16 dX1_fewest_13 rfl rfl (rg01 (by omega)) (fun _ => ?_) (fun q => absurd q (by omega))
  refine g_iconst (v := iZ (0)) 20 dX1_fewest_19 rfl rfl ?_
  refine g_istore (L1 := [some (.ref 30), some (.int (iZ a)), some (.int (iZ b)), some (.int (iZ wd)), some (.int (iZ 0)), none]) 22 dX1_fewest_20 (by decide) rfl rfl rfl ?_
  refine fw_I 12 _ _ _ (by decide) (by decide) oel (fun j hj => by omega) F0 F3 (fun h3 g4 og4 e5 s6 f7 => ?_)
  refine g_aload_n 45 dX1_fewest_44 rfl rfl ?_
  have f8 := (s6.get (by decide) F0)
  refine g_get 48 dX1_fewest_45 faX1_18_X1 f8 rfl rfl ?_
  refine g_iload_n 49 dX1_fewest_48 rfl rfl ?_
  refine g_iconst (v := iZ (0)) 50 dX1_fewest_49 rfl rfl ?_
  refine g_iastFj (b.toNat) 51 dX1_fewest_50 f7 (by omega) (by omega) (by decide) rfl rfl (fun h9 s10 f11 => ?_)
  refine g_aload_n 52 dX1_fewest_51 rfl rfl ?_
  have f12 := (s10.get (by decide) f8)
  refine g_get 55 dX1_fewest_52 faX1_15_X1 f12 rfl rfl ?_
  refine g_iload_n 56 dX1_fewest_55 rfl rfl ?_
  have f13 := (s10.get (by decide) (s6.get (by decide) F2))
  refine g_ialdZ (v := iZ (ek a.toNat)) 57 dX1_fewest_56 f13 (by omega) (by omega) (by decide) rfl rfl ?_
  refine g_istore (L1 := [some (.ref 30), some (.int (iZ a)), some (.int (iZ b)), some (.int (iZ wd)), some (.int (iZ (ek a.toNat))), none]) 59 dX1_fewest_57 (by decide) rfl rfl rfl ?_
  refine g_aload_n 60 dX1_fewest_59 rfl rfl ?_
  refine g_get 63 dX1_fewest_60 faX1_15_X1 f12 rfl rfl ?_
  refine g_iload_n 64 dX1_fewest_63 rfl rfl ?_
  refine g_iload 66 dX1_fewest_64 rfl rfl ?_
  refine g_iload_n 67 dX1_fewest_66 rfl rfl ?_
  refine g_ior 68 dX1_fewest_67 rfl ?_
  refine Go.zof ?_
  refine g_iastFj (a.toNat) 69 dX1_fewest_68 f13 (by omega) (by omega) (by decide) rfl rfl (fun h14 s15 f16 => ?_)
  refine g_iconst (v := iZ (0)) 70 dX1_fewest_69 rfl rfl ?_
  refine g_istore (L1 := [some (.ref 30), some (.int (iZ a)), some (.int (iZ b)), some (.int (iZ wd)), some (.int (iZ (ek a.toNat))), some (.int (iZ 0))]) 72 dX1_fewest_70 (by decide) rfl rfl rfl ?_
  have f22 := (s15.get (by decide) f12)
  have f23 := (s15.get (by decide) (s10.get (by decide) (s6.get (by decide) F1)))
  have f24 := (s15.get (by decide) f11)
  refine fw_L (t := b.toNat) oeu (okr_up oek _ (rg_toInt _)) (by omega) _ _ _ 0 rfl (by omega) (okr_up og4 _ (by decide)) (lv0E (by omega) e5) f22 f23 f16 f24 (fun h17 g18 og18 e19 s20 f21 => ?_)
  refine g_aload_n 94 dX1_fewest_93 rfl rfl ?_
  have f25 := (s20.get (by decide) f22)
  refine g_get 97 dX1_fewest_94 faX1_15_X1 f25 rfl rfl ?_
  refine g_iload_n 98 dX1_fewest_97 rfl rfl ?_
  refine g_iload 100 dX1_fewest_98 rfl rfl ?_
  have f26 := (s20.get (by decide) f16)
  refine g_iastFj (a.toNat) 101 dX1_fewest_100 f26 (by omega) (by omega) (by decide) rfl rfl (fun h27 s28 f29 => ?_)
  refine g_aload_n 102 dX1_fewest_101 rfl rfl ?_
  have f30 := (s28.get (by decide) f25)
  refine g_get 105 dX1_fewest_102 faX1_18_X1 f30 rfl rfl ?_
  refine g_iload_n 106 dX1_fewest_105 rfl rfl ?_
  have f31 := (s28.get (by decide) f21)
  refine g_ialdZ (v := iZ (g18 a.toNat)) 107 dX1_fewest_106 f31 (by omega) (by omega) (by decide) rfl rfl ?_
  have eF := fw_eq (by omega) e19
  have eR := eF a.toNat (by omega)
  have eG := lvE_rg en eu ek a b wd a.toNat
  refine g_iret rfl dX1_fewest_107 ?_
  exact k _ (va_up (va_up ek a.toNat ((iZ (ek a.toNat) ||| iZ (wd)).toInt)) a.toNat (ek a.toNat)) (g18) (g18 a.toNat) (okr_up (okr_up oek _ (rg_toInt _)) _ (oek _)) og18 ⟨eR, by omega, by omega⟩ upup eF ((((((Sm.refl [32, 33] _).tr s6 (fun _ q => q) (by simp)).tr s10 (fun _ q => q) (by simp)).tr s15 (fun _ q => q) (by simp)).tr s20 (fun _ q => q) (by simp)).tr s28 (fun _ q => q) (by simp)) f29 f31

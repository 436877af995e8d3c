set_option maxRecDepth 100000 in
theorem w_tat {l : Launch} {h : MH} {Q : Option Value → MH → Prop} {t : Nat} {n i : Int} {f : Nat → Int} (F0 : h[t]? = some (.inr (5, [.ref (t + 1), .int (iZ n)]))) (F1 : h[t + 1]? = some (.inl (0, 200, .inl (zA f)))) (of : okr f) (rn : rg n) (ri : rg i) (k : ∀ (r : Int), rg r → Q (some (.int (iZ r))) h) : Go l mX6_at 0 [some (.ref t), some (.int (iZ i))] [] h Q := by
  refine g_iload_n 1 dX6_at_0 rfl rfl ?_
  refine g_ifZ_lt 19 4 dX6_at_1 rfl rfl ri (fun c1 => ?_) (fun c1 => ?_)
  · refine g_iconst (v := iZ (-1)) 20 dX6_at_19 rfl rfl ?_
    refine g_goto 29 dX6_at_20 rfl ?_
    refine g_iret rfl dX6_at_29 ?_
    exact k (-1) (by decide)
  · refine g_iload_n 5 dX6_at_4 rfl rfl ?_
    refine g_aload_n 6 dX6_at_5 rfl rfl ?_
    refine g_get 9 dX6_at_6 faX6_15_X6 F0 rfl rfl ?_
    refine g_icZ_ge 19 12 dX6_at_9 rfl rfl ri rn (fun c2 => ?_) (fun c2 => ?_)
    · refine g_iconst (v := iZ (-1)) 20 dX6_at_19 rfl rfl ?_
      refine g_goto 29 dX6_at_20 rfl ?_
      refine g_iret rfl dX6_at_29 ?_
      exact k (-1) (by decide)
    · refine g_iload_n 13 dX6_at_12 rfl rfl ?_
      refine g_sipush (v := iZ (200)) 16 dX6_at_13 (by decide +kernel) rfl ?_
      refine g_icZ_lt 23 19 dX6_at_16 rfl rfl ri (by decide) (fun c3 => ?_) (fun c3 => ?_)
      · refine g_aload_n 24 dX6_at_23 rfl rfl ?_
        refine g_get 27 dX6_at_24 faX6_9_X6 F0 rfl rfl ?_
        refine g_iload_n 28 dX6_at_27 rfl rfl ?_
        refine g_ialdW 29 dX6_at_28 F1 of (by omega) (by omega) (by decide) rfl (fun v4 rv4 => ?_)
        refine g_iret rfl dX6_at_29 ?_
        exact k (v4) rv4
      · refine g_iconst (v := iZ (-1)) 20 dX6_at_19 rfl rfl ?_
        refine g_goto 29 dX6_at_20 rfl ?_
        refine g_iret rfl dX6_at_29 ?_
        exact k (-1) (by decide)
set_option maxRecDepth 100000 in
theorem w_gap_l {l : Launch} {Q : Option Value → MH → Prop} {t : Nat} {n i : Int} {f : Nat → Int} (of : okr f) (rn : rg n) (ri : rg i) : ∀ (m0 : Nat) (h : MH) (q j : Int), (n - j).toNat = m0 → h[t]? = some (.inr (5, [.ref (t + 1), .int (iZ n)])) → h[t + 1]? = some (.inl (0, 200, .inl (zA f))) → q = 0 ∨ q = 1 → rg j → (∀ (r : Int), rg r → Q (some (.int (iZ r))) h) → Go l mX6_pastGap 4 [some (.ref t), none, some (.int (iZ q)), some (.int (iZ j)), none] [] h Q := by
  intro m0
  induction m0 using Nat.strongRecOn with
  | ind m0 ih =>
    intro h q j hmz F0 F1 hq rj k
    refine g_iload_n 5 dX6_pastGap_4 rfl rfl ?_
    refine g_aload_n 6 dX6_pastGap_5 rfl rfl ?_
    refine g_get 9 dX6_pastGap_6 faX6_15_X6 F0 rfl rfl ?_
    refine g_icZ_ge 62 12 dX6_pastGap_9 rfl rfl rj rn (fun c1 => ?_) (fun c1 => ?_)
    · refine g_aload_n 63 dX6_pastGap_62 rfl rfl ?_
      refine g_get 66 dX6_pastGap_63 faX6_15_X6 F0 rfl rfl ?_
      refine g_iret rfl dX6_pastGap_66 ?_
      exact k (n) rn
    · refine g_aload_n 13 dX6_pastGap_12 rfl rfl ?_
      refine g_iload_n 14 dX6_pastGap_13 rfl rfl ?_
      refine g_callV (z := mX6_at) (As := [.int (iZ j)]) 17 dX6_pastGap_14 mwX6_at ⟨by decide, by decide⟩ rfl wlX6_19 wiX6_at wsX6_at F0 rfl rfl rfl (nle rfl) (nle rfl) rfl ?_
      refine w_tat  F0 F1 of rn rj (fun z2 rz2 => ?_)
      refine rI ?_
      refine g_istore (L1 := [some (.ref t), none, some (.int (iZ q)), some (.int (iZ j)), some (.int (iZ z2))]) 19 dX6_pastGap_17 (by decide) rfl rfl rfl ?_
      refine g_iload 21 dX6_pastGap_19 rfl rfl ?_
      refine g_bipush (v := iZ (10)) 23 dX6_pastGap_21 (by decide +kernel) rfl ?_
      refine g_icZ_ne 31 26 dX6_pastGap_23 rfl rfl rz2 (by decide) (fun c3 => ?_) (fun c3 => ?_)
      · refine g_iload 33 dX6_pastGap_31 rfl rfl ?_
        refine g_bipush (v := iZ (35)) 35 dX6_pastGap_33 (by decide +kernel) rfl ?_
        refine g_icZ_ne 43 38 dX6_pastGap_35 rfl rfl rz2 (by decide) (fun c4 => ?_) (fun c4 => ?_)
        · refine g_iload_n 44 dX6_pastGap_43 rfl rfl ?_
          refine g_ifZ_ne 56 47 dX6_pastGap_44 rfl rfl (rg01 hq) (fun c5 => ?_) (fun c5 => ?_)
          · refine g_iincZ [some (.ref t), none, some (.int (iZ q)), some (.int (iZ (j + 1))), some (.int (iZ z2))] 59 dX6_pastGap_56 rfl (by omega) (by decide) rfl rfl rfl ?_
            refine g_goto 4 dX6_pastGap_59 rfl ?_
            refine Go.fgt 4 ?_
            exact ih _ (by omega) _ (q) (j + 1) rfl F0 F1 hq (by omega) k
          · refine g_iload 49 dX6_pastGap_47 rfl rfl ?_
            refine g_bipush (v := iZ (32)) 51 dX6_pastGap_49 (by decide +kernel) rfl ?_
            refine g_icZ_eq 56 54 dX6_pastGap_51 rfl rfl rz2 (by decide) (fun c6 => ?_) (fun c6 => ?_)
            · refine g_iincZ [some (.ref t), none, some (.int (iZ q)), some (.int (iZ (j + 1))), some (.int (iZ z2))] 59 dX6_pastGap_56 rfl (by omega) (by decide) rfl rfl rfl ?_
              refine g_goto 4 dX6_pastGap_59 rfl ?_
              refine Go.fgt 4 ?_
              exact ih _ (by omega) _ (q) (j + 1) rfl F0 F1 hq (by omega) k
            · refine g_iload_n 55 dX6_pastGap_54 rfl rfl ?_
              refine g_iret rfl dX6_pastGap_55 ?_
              exact k (j) rj
        · refine g_iconst (v := iZ (1)) 39 dX6_pastGap_38 rfl rfl ?_
          refine g_istore_n (L1 := [some (.ref t), none, some (.int (iZ 1)), some (.int (iZ j)), some (.int (iZ z2))]) 40 dX6_pastGap_39 (by decide) rfl rfl rfl ?_
          refine g_goto 56 dX6_pastGap_40 rfl ?_
          refine g_iincZ [some (.ref t), none, some (.int (iZ 1)), some (.int (iZ (j + 1))), some (.int (iZ z2))] 59 dX6_pastGap_56 rfl (by omega) (by decide) rfl rfl rfl ?_
          refine g_goto 4 dX6_pastGap_59 rfl ?_
          refine Go.fgt 4 ?_
          exact ih _ (by omega) _ (1) (j + 1) rfl F0 F1 (Or.inr rfl) (by omega) k
      · refine g_iconst (v := iZ (0)) 27 dX6_pastGap_26 rfl rfl ?_
        refine g_istore_n (L1 := [some (.ref t), none, some (.int (iZ 0)), some (.int (iZ j)), some (.int (iZ z2))]) 28 dX6_pastGap_27 (by decide) rfl rfl rfl ?_
        refine g_goto 56 dX6_pastGap_28 rfl ?_
        refine g_iincZ [some (.ref t), none, some (.int (iZ 0)), some (.int (iZ (j + 1))), some (.int (iZ z2))] 59 dX6_pastGap_56 rfl (by omega) (by decide) rfl rfl rfl ?_
        refine g_goto 4 dX6_pastGap_59 rfl ?_
        refine Go.fgt 4 ?_
        exact ih _ (by omega) _ (0) (j + 1) rfl F0 F1 (Or.inl rfl) (by omega) k
set_option maxRecDepth 100000 in
theorem w_gap {l : Launch} {h : MH} {Q : Option Value → MH → Prop} {t : Nat} {n i : Int} {f : Nat → Int} (F0 : h[t]? = some (.inr (5, [.ref (t + 1), .int (iZ n)]))) (F1 : h[t + 1]? = some (.inl (0, 200, .inl (zA f)))) (of : okr f) (rn : rg n) (ri : rg i) (k : ∀ (r : Int), rg r → Q (some (.int (iZ r))) h) : Go l mX6_pastGap 0 [some (.ref t), some (.int (iZ i)), none, none, none] [] h Q := by
  refine g_iconst (v := iZ (0)) 1 dX6_pastGap_0 rfl rfl ?_
  refine g_istore_n (L1 := [some (.ref t), some (.int (iZ i)), some (.int (iZ 0)), none, none]) 2 dX6_pastGap_1 (by decide) rfl rfl rfl ?_
  refine g_iload_n 3 dX6_pastGap_2 rfl rfl ?_
  refine g_istore_n (L1 := [some (.ref t), some (.int (iZ i)), some (.int (iZ 0)), some (.int (iZ i)), none]) 4 dX6_pastGap_3 (by decide) rfl rfl rfl ?_
  refine Go.fgt 1 ?_
  exact w_gap_l of rn ri _ _ (0) (i) rfl F0 F1 (Or.inl rfl) ri k
set_option maxRecDepth 100000 in
theorem w_cadd {l : Launch} {h : MH} {Q : Option Value → MH → Prop} {c M : Nat} {n i j : Int} {f g : Nat → Int} (F0 : h[c]? = some (.inr (0, [.int (iZ ((M : Int))), .ref (c + 1), .ref (c + 2), .int (iZ n)]))) (F1 : h[c + 1]? = some (.inl (0, M, .inl (zA f)))) (F2 : h[c + 2]? = some (.inl (0, M, .inl (zA g)))) (of : okr f) (og : okr g) (rn : rg n) (ri : rg i) (rj : rg j) (hM : M ≤ 256) (k : ∀ (h1 : MH) (n_1 : Int) (f_1 g_1 : Nat → Int) (r : Int), rg n_1 → okr f_1 → okr g_1 → (r = 0 ∨ r = 1) → Sm [c, c + 1, c + 2] h h1 → h1[c]? = some (.inr (0, [.int (iZ ((M : Int))), .ref (c + 1), .ref (c + 2), .int (iZ n_1)])) → h1[c + 1]? = some (.inl (0, M, .inl (zA f_1))) → h1[c + 2]? = some (.inl (0, M, .inl (zA g_1))) → Q (some (.int (iZ r))) h1) : Go l mX0_add 0 [some (.ref c), some (.int (iZ i)), some (.int (iZ j))] [] h Q := by
  refine g_aload_n 1 dX0_add_0 rfl rfl ?_
  refine g_get 4 dX0_add_1 faX0_9_X0 F0 rfl rfl ?_
  refine g_ifZ_lt 18 7 dX0_add_4 rfl rfl rn (fun c1 => ?_) (fun c1 => ?_)
  · refine g_iconst (v := iZ (0)) 19 dX0_add_18 rfl rfl ?_
    refine g_zret rfl z01_0 dX0_add_19 ?_
    exact k _ (n) (f) (g) (0) rn of og (Or.inl rfl) (Sm.refl [c, c + 1, c + 2] _) F0 F1 F2
  · refine g_aload_n 8 dX0_add_7 rfl rfl ?_
    refine g_get 11 dX0_add_8 faX0_9_X0 F0 rfl rfl ?_
    refine g_aload_n 12 dX0_add_11 rfl rfl ?_
    refine g_get 15 dX0_add_12 faX0_21_X0 F0 rfl rfl ?_
    refine g_icZ_lt 20 18 dX0_add_15 rfl rfl rn (by omega) (fun c2 => ?_) (fun c2 => ?_)
    · refine g_aload_n 21 dX0_add_20 rfl rfl ?_
      refine g_get 24 dX0_add_21 faX0_24_X0 F0 rfl rfl ?_
      refine g_aload_n 25 dX0_add_24 rfl rfl ?_
      refine g_get 28 dX0_add_25 faX0_9_X0 F0 rfl rfl ?_
      refine g_iload_n 29 dX0_add_28 rfl rfl ?_
      refine g_iastW 30 dX0_add_29 F1 of ri (by omega) (by omega) (by omega) rfl (fun h4 g3 og3 s5 f6 => ?_)
      refine g_aload_n 31 dX0_add_30 rfl rfl ?_
      have f7 := (s5.get (by simp <;> omega) F0)
      refine g_get 34 dX0_add_31 faX0_28_X0 f7 rfl rfl ?_
      refine g_aload_n 35 dX0_add_34 rfl rfl ?_
      refine g_get 38 dX0_add_35 faX0_9_X0 f7 rfl rfl ?_
      refine g_iload_n 39 dX0_add_38 rfl rfl ?_
      have f8 := (s5.get (by simp <;> omega) F2)
      refine g_iastW 40 dX0_add_39 f8 og rj (by omega) (by omega) (by omega) rfl (fun h10 g9 og9 s11 f12 => ?_)
      refine g_aload_n 41 dX0_add_40 rfl rfl ?_
      refine g_dup 42 dX0_add_41 rfl rfl ?_
      have f13 := (s11.get (by simp <;> omega) f7)
      refine g_get 45 dX0_add_42 faX0_9_X0 f13 rfl rfl ?_
      refine g_iconst (v := iZ (1)) 46 dX0_add_45 rfl rfl ?_
      refine g_iadd 47 dX0_add_46 rfl ?_
      refine Go.genZ (fun z14 rz14 => ?_)
      refine g_putC (fs1 := [.int (iZ ((M : Int))), .ref (c + 1), .ref (c + 2), .int (iZ z14)]) 50 dX0_add_47 fpX0_9_X0 f13 (nle rfl) (vI _) rfl rfl (fun h15 s16 f17 => ?_)
      refine g_iconst (v := iZ (1)) 51 dX0_add_50 rfl rfl ?_
      refine g_zret rfl z01_1 dX0_add_51 ?_
      have f18 := (s16.get (by simp <;> omega) (s11.get (by simp <;> omega) f6))
      have f19 := (s16.get (by simp <;> omega) f12)
      exact k _ (z14) (g3) (g9) (1) rz14 og3 og9 (Or.inr rfl) ((((Sm.refl [c, c + 1, c + 2] _).tr s5 (fun _ q => q) (by simp)).tr s11 (fun _ q => q) (by simp)).tr s16 (fun _ q => q) (by simp)) f17 f18 f19
    · refine g_iconst (v := iZ (0)) 19 dX0_add_18 rfl rfl ?_
      refine g_zret rfl z01_0 dX0_add_19 ?_
      exact k _ (n) (f) (g) (0) rn of og (Or.inl rfl) (Sm.refl [c, c + 1, c + 2] _) F0 F1 F2
set_option maxRecDepth 100000 in
theorem w_cat {l : Launch} {h : MH} {Q : Option Value → MH → Prop} {c M : Nat} {n i : Int} {f g : Nat → Int} (F0 : h[c]? = some (.inr (0, [.int (iZ ((M : Int))), .ref (c + 1), .ref (c + 2), .int (iZ n)]))) (F1 : h[c + 1]? = some (.inl (0, M, .inl (zA f)))) (F2 : h[c + 2]? = some (.inl (0, M, .inl (zA g)))) (of : okr f) (og : okr g) (rn : rg n) (ri : rg i) (hM : M ≤ 256) (k : ∀ (r : Int), rg r → Q (some (.int (iZ r))) h) : Go l mX0_at 0 [some (.ref c), some (.int (iZ i))] [] h Q := by
  refine g_iload_n 1 dX0_at_0 rfl rfl ?_
  refine g_ifZ_lt 20 4 dX0_at_1 rfl rfl ri (fun c1 => ?_) (fun c1 => ?_)
  · refine g_iconst (v := iZ (-1)) 21 dX0_at_20 rfl rfl ?_
    refine g_goto 30 dX0_at_21 rfl ?_
    refine g_iret rfl dX0_at_30 ?_
    exact k (-1) (by decide)
  · refine g_iload_n 5 dX0_at_4 rfl rfl ?_
    refine g_aload_n 6 dX0_at_5 rfl rfl ?_
    refine g_get 9 dX0_at_6 faX0_9_X0 F0 rfl rfl ?_
    refine g_icZ_ge 20 12 dX0_at_9 rfl rfl ri rn (fun c2 => ?_) (fun c2 => ?_)
    · refine g_iconst (v := iZ (-1)) 21 dX0_at_20 rfl rfl ?_
      refine g_goto 30 dX0_at_21 rfl ?_
      refine g_iret rfl dX0_at_30 ?_
      exact k (-1) (by decide)
    · refine g_iload_n 13 dX0_at_12 rfl rfl ?_
      refine g_aload_n 14 dX0_at_13 rfl rfl ?_
      refine g_get 17 dX0_at_14 faX0_21_X0 F0 rfl rfl ?_
      refine g_icZ_lt 24 20 dX0_at_17 rfl rfl ri (by omega) (fun c3 => ?_) (fun c3 => ?_)
      · refine g_aload_n 25 dX0_at_24 rfl rfl ?_
        refine g_get 28 dX0_at_25 faX0_24_X0 F0 rfl rfl ?_
        refine g_iload_n 29 dX0_at_28 rfl rfl ?_
        refine g_ialdW 30 dX0_at_29 F1 of (by omega) (by omega) (by omega) rfl (fun v4 rv4 => ?_)
        refine g_iret rfl dX0_at_30 ?_
        exact k (v4) rv4
      · refine g_iconst (v := iZ (-1)) 21 dX0_at_20 rfl rfl ?_
        refine g_goto 30 dX0_at_21 rfl ?_
        refine g_iret rfl dX0_at_30 ?_
        exact k (-1) (by decide)
set_option maxRecDepth 100000 in
theorem w_led {l : Launch} {h : MH} {Q : Option Value → MH → Prop} {c M : Nat} {n i : Int} {f g : Nat → Int} (F0 : h[c]? = some (.inr (0, [.int (iZ ((M : Int))), .ref (c + 1), .ref (c + 2), .int (iZ n)]))) (F1 : h[c + 1]? = some (.inl (0, M, .inl (zA f)))) (F2 : h[c + 2]? = some (.inl (0, M, .inl (zA g)))) (of : okr f) (og : okr g) (rn : rg n) (ri : rg i) (hM : M ≤ 256) (k : ∀ (r : Int), rg r → Q (some (.int (iZ r))) h) : Go l mX0_ledAt 0 [some (.ref c), some (.int (iZ i))] [] h Q := by
  refine g_iload_n 1 dX0_ledAt_0 rfl rfl ?_
  refine g_ifZ_lt 20 4 dX0_ledAt_1 rfl rfl ri (fun c1 => ?_) (fun c1 => ?_)
  · refine g_iconst (v := iZ (-1)) 21 dX0_ledAt_20 rfl rfl ?_
    refine g_goto 30 dX0_ledAt_21 rfl ?_
    refine g_iret rfl dX0_ledAt_30 ?_
    exact k (-1) (by decide)
  · refine g_iload_n 5 dX0_ledAt_4 rfl rfl ?_
    refine g_aload_n 6 dX0_ledAt_5 rfl rfl ?_
    refine g_get 9 dX0_ledAt_6 faX0_9_X0 F0 rfl rfl ?_
    refine g_icZ_ge 20 12 dX0_ledAt_9 rfl rfl ri rn (fun c2 => ?_) (fun c2 => ?_)
    · refine g_iconst (v := iZ (-1)) 21 dX0_ledAt_20 rfl rfl ?_
      refine g_goto 30 dX0_ledAt_21 rfl ?_
      refine g_iret rfl dX0_ledAt_30 ?_
      exact k (-1) (by decide)
    · refine g_iload_n 13 dX0_ledAt_12 rfl rfl ?_
      refine g_aload_n 14 dX0_ledAt_13 rfl rfl ?_
      refine g_get 17 dX0_ledAt_14 faX0_21_X0 F0 rfl rfl ?_
      refine g_icZ_lt 24 20 dX0_ledAt_17 rfl rfl ri (by omega) (fun c3 => ?_) (fun c3 => ?_)
      · refine g_aload_n 25 dX0_ledAt_24 rfl rfl ?_
        refine g_get 28 dX0_ledAt_25 faX0_28_X0 F0 rfl rfl ?_
        refine g_iload_n 29 dX0_ledAt_28 rfl rfl ?_
        refine g_ialdW 30 dX0_ledAt_29 F2 og (by omega) (by omega) (by omega) rfl (fun v4 rv4 => ?_)
        refine g_iret rfl dX0_ledAt_30 ?_
        exact k (v4) rv4
      · refine g_iconst (v := iZ (-1)) 21 dX0_ledAt_20 rfl rfl ?_
        refine g_goto 30 dX0_ledAt_21 rfl ?_
        refine g_iret rfl dX0_ledAt_30 ?_
        exact k (-1) (by decide)
set_option maxRecDepth 100000 in
theorem w_chg {l : Launch} {h : MH} {Q : Option Value → MH → Prop} {c M : Nat} {n i j : Int} {f g : Nat → Int} (F0 : h[c]? = some (.inr (0, [.int (iZ ((M : Int))), .ref (c + 1), .ref (c + 2), .int (iZ n)]))) (F1 : h[c + 1]? = some (.inl (0, M, .inl (zA f)))) (F2 : h[c + 2]? = some (.inl (0, M, .inl (zA g)))) (of : okr f) (og : okr g) (rn : rg n) (ri : rg i) (rj : rg j) (hM : M ≤ 256) (k : ∀ (h1 : MH) (f_1 : Nat → Int), okr f_1 → Sm [c + 1] h h1 → h1[c + 1]? = some (.inl (0, M, .inl (zA f_1))) → Q none h1) : Go l mX0_change 0 [some (.ref c), some (.int (iZ i)), some (.int (iZ j))] [] h Q := by
  refine g_iload_n 1 dX0_change_0 rfl rfl ?_
  refine g_ifZ_lt 27 4 dX0_change_1 rfl rfl ri (fun c1 => ?_) (fun c1 => ?_)
  · refine g_vret rfl dX0_change_27 ?_
    exact k _ (f) of (Sm.refl [c + 1] _) F1
  · refine g_iload_n 5 dX0_change_4 rfl rfl ?_
    refine g_aload_n 6 dX0_change_5 rfl rfl ?_
    refine g_get 9 dX0_change_6 faX0_9_X0 F0 rfl rfl ?_
    refine g_icZ_ge 27 12 dX0_change_9 rfl rfl ri rn (fun c2 => ?_) (fun c2 => ?_)
    · refine g_vret rfl dX0_change_27 ?_
      exact k _ (f) of (Sm.refl [c + 1] _) F1
    · refine g_iload_n 13 dX0_change_12 rfl rfl ?_
      refine g_aload_n 14 dX0_change_13 rfl rfl ?_
      refine g_get 17 dX0_change_14 faX0_21_X0 F0 rfl rfl ?_
      refine g_icZ_ge 27 20 dX0_change_17 rfl rfl ri (by omega) (fun c3 => ?_) (fun c3 => ?_)
      · refine g_vret rfl dX0_change_27 ?_
        exact k _ (f) of (Sm.refl [c + 1] _) F1
      · refine g_aload_n 21 dX0_change_20 rfl rfl ?_
        refine g_get 24 dX0_change_21 faX0_24_X0 F0 rfl rfl ?_
        refine g_iload_n 25 dX0_change_24 rfl rfl ?_
        refine g_iload_n 26 dX0_change_25 rfl rfl ?_
        refine g_iastW 27 dX0_change_26 F1 of rj (by omega) (by omega) (by omega) rfl (fun h5 g4 og4 s6 f7 => ?_)
        refine g_vret rfl dX0_change_27 ?_
        exact k _ (g4) og4 ((Sm.refl [c + 1] _).tr s6 (fun _ q => q) (by simp)) f7
set_option maxRecDepth 100000 in
theorem w_unl_l {l : Launch} {Q : Option Value → MH → Prop} {c M d N : Nat} {n k0 : Int} {f g f2 g2 : Nat → Int} (of : okr f) (og : okr g) (of2 : okr f2) (og2 : okr g2) (rn : rg n) (rk0 : rg k0) (hM : M ≤ 256) (hN : N ≤ 256) : ∀ (m0 : Nat) (h : MH) (u j : Int), (u - j).toNat = m0 → h[c]? = some (.inr (0, [.int (iZ ((M : Int))), .ref (c + 1), .ref (c + 2), .int (iZ n)])) → h[c + 1]? = some (.inl (0, M, .inl (zA f))) → h[c + 2]? = some (.inl (0, M, .inl (zA g))) → h[d]? = some (.inr (0, [.int (iZ ((N : Int))), .ref (d + 1), .ref (d + 2), .int (iZ k0)])) → h[d + 1]? = some (.inl (0, N, .inl (zA f2))) → h[d + 2]? = some (.inl (0, N, .inl (zA g2))) → rg u → rg j → (∀ (r : Int), rg r → Q (some (.int (iZ r))) h) → Go l mX0_unlike 14 [some (.ref c), some (.ref d), some (.int (iZ u)), some (.int (iZ j))] [] h Q := by
  intro m0
  induction m0 using Nat.strongRecOn with
  | ind m0 ih =>
    intro h u j hmz F0 F1 F2 F3 F4 F5 ru rj k
    refine g_iload_n 15 dX0_unlike_14 rfl rfl ?_
    refine g_iload_n 16 dX0_unlike_15 rfl rfl ?_
    refine g_icZ_ge 42 19 dX0_unlike_16 rfl rfl rj ru (fun c1 => ?_) (fun c1 => ?_)
    · refine g_aload_n 43 dX0_unlike_42 rfl rfl ?_
      refine g_get 46 dX0_unlike_43 faX0_9_X0 F0 rfl rfl ?_
      refine g_aload_n 47 dX0_unlike_46 rfl rfl ?_
      refine g_get 50 dX0_unlike_47 faX0_9_X0 F3 rfl rfl ?_
      refine g_icZ_ne 57 53 dX0_unlike_50 rfl rfl rn rk0 (fun c2 => ?_) (fun c2 => ?_)
      · refine g_iconst (v := iZ (1)) 58 dX0_unlike_57 rfl rfl ?_
        refine g_iload_n 59 dX0_unlike_58 rfl rfl ?_
        refine g_iadd 60 dX0_unlike_59 rfl ?_
        refine Go.genZ (fun z3 rz3 => ?_)
        refine g_iret rfl dX0_unlike_60 ?_
        exact k (z3) rz3
      · refine g_iconst (v := iZ (0)) 54 dX0_unlike_53 rfl rfl ?_
        refine g_goto 60 dX0_unlike_54 rfl ?_
        refine g_iret rfl dX0_unlike_60 ?_
        exact k (0) (by decide)
    · refine g_aload_n 20 dX0_unlike_19 rfl rfl ?_
      refine g_iload_n 21 dX0_unlike_20 rfl rfl ?_
      refine g_callV (z := mX0_at) (As := [.int (iZ j)]) 24 dX0_unlike_21 mwX0_at ⟨by decide, by decide⟩ rfl wlX0_31 wiX0_at wsX0_at F0 rfl rfl rfl (nle rfl) (nle rfl) rfl ?_
      refine w_cat (M := M) F0 F1 F2 of og rn rj (by omega) (fun z4 rz4 => ?_)
      refine rI ?_
      refine g_aload_n 25 dX0_unlike_24 rfl rfl ?_
      refine g_iload_n 26 dX0_unlike_25 rfl rfl ?_
      refine g_callV (z := mX0_at) (As := [.int (iZ j)]) 29 dX0_unlike_26 mwX0_at ⟨by decide, by decide⟩ rfl wlX0_31 wiX0_at wsX0_at F3 rfl rfl rfl (nle rfl) (nle rfl) rfl ?_
      refine w_cat (M := N) F3 F4 F5 of2 og2 rk0 rj (by omega) (fun z5 rz5 => ?_)
      refine rI ?_
      refine g_icZ_eq 36 32 dX0_unlike_29 rfl rfl rz4 rz5 (fun c6 => ?_) (fun c6 => ?_)
      · refine g_iincZ [some (.ref c), some (.ref d), some (.int (iZ u)), some (.int (iZ (j + 1)))] 39 dX0_unlike_36 rfl (by omega) (by decide) rfl rfl rfl ?_
        refine g_goto 14 dX0_unlike_39 rfl ?_
        exact ih _ (by omega) _ (u) (j + 1) rfl F0 F1 F2 F3 F4 F5 ru (by omega) k
      · refine g_iconst (v := iZ (1)) 33 dX0_unlike_32 rfl rfl ?_
        refine g_iload_n 34 dX0_unlike_33 rfl rfl ?_
        refine g_iadd 35 dX0_unlike_34 rfl ?_
        refine Go.genZ (fun z7 rz7 => ?_)
        refine g_iret rfl dX0_unlike_35 ?_
        exact k (z7) rz7
set_option maxRecDepth 100000 in
theorem w_unl {l : Launch} {h : MH} {Q : Option Value → MH → Prop} {c M d N : Nat} {n k0 : Int} {f g f2 g2 : Nat → Int} (F0 : h[c]? = some (.inr (0, [.int (iZ ((M : Int))), .ref (c + 1), .ref (c + 2), .int (iZ n)]))) (F1 : h[c + 1]? = some (.inl (0, M, .inl (zA f)))) (F2 : h[c + 2]? = some (.inl (0, M, .inl (zA g)))) (F3 : h[d]? = some (.inr (0, [.int (iZ ((N : Int))), .ref (d + 1), .ref (d + 2), .int (iZ k0)]))) (F4 : h[d + 1]? = some (.inl (0, N, .inl (zA f2)))) (F5 : h[d + 2]? = some (.inl (0, N, .inl (zA g2)))) (of : okr f) (og : okr g) (of2 : okr f2) (og2 : okr g2) (rn : rg n) (rk0 : rg k0) (hM : M ≤ 256) (hN : N ≤ 256) (k : ∀ (r : Int), rg r → Q (some (.int (iZ r))) h) : Go l mX0_unlike 0 [some (.ref c), some (.ref d), none, none] [] h Q := by
  refine g_aload_n 1 dX0_unlike_0 rfl rfl ?_
  refine g_get 4 dX0_unlike_1 faX0_9_X0 F0 rfl rfl ?_
  refine g_aload_n 5 dX0_unlike_4 rfl rfl ?_
  refine g_get 8 dX0_unlike_5 faX0_9_X0 F3 rfl rfl ?_
  refine g_minT 11 dX0_unlike_8 wlX0_15 wmin1 wMath wmin2 (by decide) (nle rfl) rn rk0 rfl ?_
  refine Go.genZ (fun z1 rz1 => ?_)
  refine g_istore_n (L1 := [some (.ref c), some (.ref d), some (.int (iZ z1)), none]) 12 dX0_unlike_11 (by decide) rfl rfl rfl ?_
  refine g_iconst (v := iZ (0)) 13 dX0_unlike_12 rfl rfl ?_
  refine g_istore_n (L1 := [some (.ref c), some (.ref d), some (.int (iZ z1)), some (.int (iZ 0))]) 14 dX0_unlike_13 (by decide) rfl rfl rfl ?_
  exact w_unl_l of og of2 og2 rn rk0 hM hN _ _ (z1) (0) rfl F0 F1 F2 F3 F4 F5 rz1 rg_0 k
set_option maxRecDepth 100000 in
theorem w_bey_l {l : Launch} {Q : Option Value → MH → Prop} {c M : Nat} {n : Int} {f g : Nat → Int} (of : okr f) (og : okr g) (rn : rg n) (hM : M ≤ 256) : ∀ (m0 : Nat) (h : MH) (u j : Int), (n - j).toNat = m0 → h[c]? = some (.inr (0, [.int (iZ ((M : Int))), .ref (c + 1), .ref (c + 2), .int (iZ n)])) → h[c + 1]? = some (.inl (0, M, .inl (zA f))) → h[c + 2]? = some (.inl (0, M, .inl (zA g))) → 0 ≤ u ∧ u ≤ j → rg j → (∀ (r : Int), rg r → Q (some (.int (iZ r))) h) → Go l mX0_beyondOrders 4 [some (.ref c), some (.int (iZ u)), some (.int (iZ j))] [] h Q := by
  intro m0
  induction m0 using Nat.strongRecOn with
  | ind m0 ih =>
    intro h u j hmz F0 F1 F2 hu rj k
    refine g_iload_n 5 dX0_beyondOrders_4 rfl rfl ?_
    refine g_aload_n 6 dX0_beyondOrders_5 rfl rfl ?_
    refine g_get 9 dX0_beyondOrders_6 faX0_9_X0 F0 rfl rfl ?_
    refine g_icZ_ge 31 12 dX0_beyondOrders_9 rfl rfl rj rn (fun c1 => ?_) (fun c1 => ?_)
    · refine g_iload_n 32 dX0_beyondOrders_31 rfl rfl ?_
      refine g_iret rfl dX0_beyondOrders_32 ?_
      exact k (u) (by omega)
    · refine g_aload_n 13 dX0_beyondOrders_12 rfl rfl ?_
      refine g_iload_n 14 dX0_beyondOrders_13 rfl rfl ?_
      refine g_callV (z := mX0_at) (As := [.int (iZ j)]) 17 dX0_beyondOrders_14 mwX0_at ⟨by decide, by decide⟩ rfl wlX0_31 wiX0_at wsX0_at F0 rfl rfl rfl (nle rfl) (nle rfl) rfl ?_
      refine w_cat (M := M) F0 F1 F2 of og rn rj (by omega) (fun z2 rz2 => ?_)
      refine rI ?_
      refine g_bipush (v := iZ (15)) 19 dX0_beyondOrders_17 (by decide +kernel) rfl ?_
      refine g_icZ_le 25 22 dX0_beyondOrders_19 rfl rfl rz2 (by decide) (fun c3 => ?_) (fun c3 => ?_)
      · refine g_iincZ [some (.ref c), some (.int (iZ u)), some (.int (iZ (j + 1)))] 28 dX0_beyondOrders_25 rfl (by omega) (by decide) rfl rfl rfl ?_
        refine g_goto 4 dX0_beyondOrders_28 rfl ?_
        exact ih _ (by omega) _ (u) (j + 1) rfl F0 F1 F2 (by omega) (by omega) k
      · refine g_iincZ [some (.ref c), some (.int (iZ (u + 1))), some (.int (iZ j))] 25 dX0_beyondOrders_22 rfl (by omega) (by decide) rfl rfl rfl ?_
        refine g_iincZ [some (.ref c), some (.int (iZ (u + 1))), some (.int (iZ (j + 1)))] 28 dX0_beyondOrders_25 rfl (by omega) (by decide) rfl rfl rfl ?_
        refine g_goto 4 dX0_beyondOrders_28 rfl ?_
        exact ih _ (by omega) _ (u + 1) (j + 1) rfl F0 F1 F2 (by omega) (by omega) k
set_option maxRecDepth 100000 in
theorem w_bey {l : Launch} {h : MH} {Q : Option Value → MH → Prop} {c M : Nat} {n : Int} {f g : Nat → Int} (F0 : h[c]? = some (.inr (0, [.int (iZ ((M : Int))), .ref (c + 1), .ref (c + 2), .int (iZ n)]))) (F1 : h[c + 1]? = some (.inl (0, M, .inl (zA f)))) (F2 : h[c + 2]? = some (.inl (0, M, .inl (zA g)))) (of : okr f) (og : okr g) (rn : rg n) (hM : M ≤ 256) (k : ∀ (r : Int), rg r → Q (some (.int (iZ r))) h) : Go l mX0_beyondOrders 0 [some (.ref c), none, none] [] h Q := by
  refine g_iconst (v := iZ (0)) 1 dX0_beyondOrders_0 rfl rfl ?_
  refine g_istore_n (L1 := [some (.ref c), some (.int (iZ 0)), none]) 2 dX0_beyondOrders_1 (by decide) rfl rfl rfl ?_
  refine g_iconst (v := iZ (0)) 3 dX0_beyondOrders_2 rfl rfl ?_
  refine g_istore_n (L1 := [some (.ref c), some (.int (iZ 0)), some (.int (iZ 0))]) 4 dX0_beyondOrders_3 (by decide) rfl rfl rfl ?_
  exact w_bey_l of og rn hM _ _ (0) (0) rfl F0 F1 F2 (by omega) rg_0 k

theorem lp9_type {l : Launch} {Q : Option Value → MH → Prop} (v : Int64) (z : Int) : ∀ (k : Nat) (h : MH) (f : Nat → Int32) (len i : Int), i = k - 1 → 0 ≤ len → len + k ≤ 200 → k ≤ 8 → h[50]? = some (.inr (8, [.long (0), .ref 51, .int (iZ len), .ref 52, .ref 53, .int (iZ 0), .ref 54, .ref 55, .ref 56, .ref 57, .ref 58, .ref 59, .ref 60, .int (iZ 0), .int (iZ 0), .int (iZ 0), .int (iZ 0), .int (iZ 0), .int (iZ 0), .int (iZ 0), .int (iZ 0), .ref 61, .ref 62, .ref 63, .ref 64, .int (iZ 0), .int (iZ 0), .int (iZ 0), .int (iZ 0), .int (iZ 0), .int (iZ 0), .int (iZ 0), .ref 65, .ref 66, .ref 67, .int (iZ 0), .ref 68, .ref 69, .ref 70])) → h[51]? = some (.inl (1, 200, .inl f)) → (∀ (h1 : MH) (r : Int), r = len + k → Sx 1000 h h1 → Q (some (.int (iZ r))) h1) → Go l mX9_type 32 [some (.ref 50), some (.long (v)), none, some (.int (iZ z)), some (.int (iZ i))] [] h Q := by
  intro k
  induction k with
  | zero =>
    intro h f len i hi h0 h2 h3 f0 f1 k
    have : i = -1 := by omega
    subst this
    refine g_iload 34 dX9_type_32 rfl rfl ?_
    refine g_ifZ_lt 75 37 dX9_type_34 rfl rfl (by decide) (fun _ => ?_) (fun q => absurd q (by decide))
    refine g_aload_n 76 dX9_type_75 rfl rfl ?_
    refine g_get 79 dX9_type_76 faX9_71_X9 f0 rfl rfl ?_
    refine g_iret rfl dX9_type_79 ?_
    exact k _ _ (by omega) (Sx.refl _ _)
  | succ k ih =>
    intro h f len i hi h0 h2 h3 f0 f1 kf
    have : i = (k : Int) := by omega
    subst this
    refine g_iload 34 dX9_type_32 rfl rfl ?_
    refine g_ifZ_lt 75 37 dX9_type_34 rfl rfl (by omega) (fun q => absurd q (by omega)) (fun _ => ?_)
    refine g_aload_n 38 dX9_type_37 rfl rfl ?_
    refine g_get 41 dX9_type_38 faX9_7_X9 f0 rfl rfl ?_
    refine g_aload_n 42 dX9_type_41 rfl rfl ?_
    refine g_get 45 dX9_type_42 faX9_71_X9 f0 rfl rfl ?_
    refine g_lload_n 46 dX9_type_45 rfl rfl ?_
    refine g_bipush (v := iZ (8)) 48 dX9_type_46 (by decide +kernel) rfl ?_
    refine g_iload 50 dX9_type_48 rfl rfl ?_
    refine g_imulZ (8 * ((k : Int))) 51 dX9_type_50 (by omega) rfl ?_
    refine g_lshr 52 dX9_type_51 rfl ?_
    refine g_ldc2 55 dX9_type_52 wnX9_79 rfl ?_
    refine g_land 56 dX9_type_55 rfl ?_
    refine g_l2i 57 dX9_type_56 rfl ?_
    refine Go.gen (fun w1 => ?_)
    refine g_i2b 58 dX9_type_57 rfl ?_
    refine Go.gen (fun w2 => ?_)
    refine g_bastZ (f1 := upd (f) (len).toNat (vp_nar .byte w2)) 59 dX9_type_58 f1 (by omega) (by omega) (by decide) rfl rfl (fun h3 s4 f5 => ?_)
    refine g_aload_n 60 dX9_type_59 rfl rfl ?_
    refine g_dup 61 dX9_type_60 rfl rfl ?_
    have f6 := (s4.get (by decide) f0)
    refine g_get 64 dX9_type_61 faX9_71_X9 f6 rfl rfl ?_
    refine g_iconst (v := iZ (1)) 65 dX9_type_64 rfl rfl ?_
    refine g_iaddZ (len + 1) 66 dX9_type_65 (by omega) rfl ?_
    refine g_putC (fs1 := [.long (0), .ref 51, .int (iZ (len + 1)), .ref 52, .ref 53, .int (iZ 0), .ref 54, .ref 55, .ref 56, .ref 57, .ref 58, .ref 59, .ref 60, .int (iZ 0), .int (iZ 0), .int (iZ 0), .int (iZ 0), .int (iZ 0), .int (iZ 0), .int (iZ 0), .int (iZ 0), .ref 61, .ref 62, .ref 63, .ref 64, .int (iZ 0), .int (iZ 0), .int (iZ 0), .int (iZ 0), .int (iZ 0), .int (iZ 0), .int (iZ 0), .ref 65, .ref 66, .ref 67, .int (iZ 0), .ref 68, .ref 69, .ref 70]) 69 dX9_type_66 fpX9_71_X9 f6 (nle rfl) (vI _) rfl rfl (fun h7 s8 f9 => ?_)
    refine g_iincZ [some (.ref 50), some (.long (v)), none, some (.int (iZ z)), some (.int (iZ ((k : Int) - 1)))] 72 dX9_type_69 rfl (by omega) (by decide) rfl rfl rfl ?_
    refine g_goto 32 dX9_type_72 rfl ?_
    have f10 := (s8.get (by decide) f5)
    exact ih _ _ _ _ (by omega) (by omega) (by omega) (by omega) f9 f10 (fun h1 r hr hs => kf h1 r (by omega) (((s4.X (by decide)).tr (s8.X (by decide))).tr hs))
theorem lp9_rn {l : Launch} {Q : Option Value → MH → Prop} {a b : Int32} {fs : List Value} (hfs : fs[21]? = some (.ref 61)) : ∀ (k : Nat) (h : MH) (f : Nat → Int32) (i : Int), i = 26 - k → k ≤ 26 → h[50]? = some (.inr (8, fs)) → h[61]? = some (.inl (0, 26, .inl f)) → (∀ (h1 : MH), Sm [61] h h1 → Go l mX9_readNames 34 [some (.ref 50), some (.int a), some (.int b), some (.int (iZ 26)), none, none, none] [] h1 Q) → Go l mX9_readNames 14 [some (.ref 50), some (.int a), some (.int b), some (.int (iZ i)), none, none, none] [] h Q := by
  intro k
  induction k with
  | zero =>
    intro h f i hi hk f0 f1 kk
    have : i = 26 := by omega
    subst this
    refine g_iload_n 15 dX9_readNames_14 rfl rfl ?_
    refine g_bipush (v := iZ (26)) 17 dX9_readNames_15 (by decide +kernel) rfl ?_
    refine g_icZ_ge 34 20 dX9_readNames_17 rfl rfl (by decide) (by decide) (fun _ => ?_) (fun q => absurd q (by decide))
    exact kk _ (Sm.refl _ _)
  | succ k ih =>
    intro h f i hi hk f0 f1 kk
    have h0 : 0 ≤ i := by omega
    have h2 : i < 26 := by omega
    refine g_iload_n 15 dX9_readNames_14 rfl rfl ?_
    refine g_bipush (v := iZ (26)) 17 dX9_readNames_15 (by decide +kernel) rfl ?_
    refine g_icZ_ge 34 20 dX9_readNames_17 rfl rfl (by omega) (by decide) (fun q => absurd q (by omega)) (fun _ => ?_)
    refine g_aload_n 21 dX9_readNames_20 rfl rfl ?_
    refine g_get 24 dX9_readNames_21 faX9_41_X9 f0 hfs rfl ?_
    refine g_iload_n 25 dX9_readNames_24 rfl rfl ?_
    refine g_bipush (v := iZ (-9)) 27 dX9_readNames_25 (by decide +kernel) rfl ?_
    refine g_iastZ (f1 := upd (f) (i).toNat (iZ (-9))) 28 dX9_readNames_27 f1 (by omega) (by omega) (by decide) rfl rfl (fun h1 s2 f3 => ?_)
    refine g_iincZ [some (.ref 50), some (.int a), some (.int b), some (.int (iZ (i + 1))), none, none, none] 31 dX9_readNames_28 rfl (by omega) (by decide) rfl rfl rfl ?_
    refine g_goto 14 dX9_readNames_31 rfl ?_
    have f4 := (s2.get (by decide) f0)
    exact ih _ _ _ (by omega) (by omega) f4 f3 (fun h1 hs => kk h1 (s2.tr hs (fun _ q => q) (fun _ q => q)))
set_option maxRecDepth 100000 in
theorem q9_type {l : Launch} {h : MH} (F : FM h) (v : Int64) (n : Int) (rn : rg n) {Q : Option Value → MH → Prop} (kq : ∀ (h1 : MH) (r : Int), r = a_type n → Sx 1000 h h1 → Q (some (.int (iZ r))) h1) : Go l mX9_type 0 [some (.ref 50), some (.long (v)), none, some (.int (iZ n)), none] [] h Q := by
  refine g_iload_n 1 dX9_type_0 rfl rfl ?_
  refine g_iconst (v := iZ (1)) 2 dX9_type_1 rfl rfl ?_
  refine g_bipush (v := iZ (8)) 4 dX9_type_2 (by decide +kernel) rfl ?_
  refine g_callS (z := mX9_in) (As := [.int (iZ n), .int (iZ 1), .int (iZ 8)]) 7 dX9_type_4 mwX9_in ⟨by decide, by decide⟩ rfl wlX9_75 wtX9_in rfl (nle rfl) (nle rfl) rfl ?_
  refine Go.to [some (.int (iZ n)), some (.int (iZ 1)), some (.int (iZ 8))] [] rfl rfl ?_
  refine g_iload_n 1 dX9_in_0 rfl rfl ?_
  refine g_iload_n 2 dX9_in_1 rfl rfl ?_
  refine g_icZ_lt 14 5 dX9_in_2 rfl rfl rn (by decide) (fun c1 => ?_) (fun c1 => ?_)
  · refine g_iconst (v := iZ (0)) 15 dX9_in_14 rfl rfl ?_
    refine g_zret rfl z01_0 dX9_in_15 ?_
    refine rI ?_
    refine g_ifZ_ne 12 10 dX9_type_7 rfl rfl (by decide) (fun q => absurd q (by decide)) (fun _ => ?_)
    refine g_iconst (v := iZ (-1)) 11 dX9_type_10 rfl rfl ?_
    refine g_iret rfl dX9_type_11 ?_
    exact kq _ _ (by unfold a_type; split <;> omega) (Sx.refl _ _)
  · refine g_iload_n 6 dX9_in_5 rfl rfl ?_
    refine g_iload_n 7 dX9_in_6 rfl rfl ?_
    refine g_icZ_gt 14 10 dX9_in_7 rfl rfl rn (by decide) (fun c2 => ?_) (fun c2 => ?_)
    · refine g_iconst (v := iZ (0)) 15 dX9_in_14 rfl rfl ?_
      refine g_zret rfl z01_0 dX9_in_15 ?_
      refine rI ?_
      refine g_ifZ_ne 12 10 dX9_type_7 rfl rfl (by decide) (fun q => absurd q (by decide)) (fun _ => ?_)
      refine g_iconst (v := iZ (-1)) 11 dX9_type_10 rfl rfl ?_
      refine g_iret rfl dX9_type_11 ?_
      exact kq _ _ (by unfold a_type; split <;> omega) (Sx.refl _ _)
    · refine g_iconst (v := iZ (1)) 11 dX9_in_10 rfl rfl ?_
      refine g_goto 15 dX9_in_11 rfl ?_
      refine g_zret rfl z01_1 dX9_in_15 ?_
      refine rI ?_
      refine g_ifZ_ne 12 10 dX9_type_7 rfl rfl (by decide) (fun _ => ?_) (fun q => absurd q (by decide))
      refine g_aload_n 13 dX9_type_12 rfl rfl ?_
      refine g_get 16 dX9_type_13 faX9_71_X9 F.1 rfl rfl ?_
      refine g_iload_n 17 dX9_type_16 rfl rfl ?_
      refine g_iaddZ (0 + n) 18 dX9_type_17 (by omega) rfl ?_
      refine g_sipush (v := iZ (200)) 21 dX9_type_18 (by decide +kernel) rfl ?_
      refine g_icZ_le 27 24 dX9_type_21 rfl rfl (by omega) (by decide) (fun c3 => ?_) (fun c3 => ?_)
      · refine g_iload_n 28 dX9_type_27 rfl rfl ?_
        refine g_iconst (v := iZ (1)) 29 dX9_type_28 rfl rfl ?_
        refine g_isubZ (n - 1) 30 dX9_type_29 (by omega) rfl ?_
        refine g_istore (L1 := [some (.ref 50), some (.long (v)), none, some (.int (iZ n)), some (.int (iZ (n - 1)))]) 32 dX9_type_30 (by decide) rfl rfl rfl ?_
        obtain ⟨j, hj⟩ : ∃ j : Nat, (j : Int) = n := ⟨n.toNat, by omega⟩
        exact lp9_type v n j _ _ 0 _ (by omega) (by omega) (by omega) (by omega) F.1 F.2.1 (fun h1 r hr hs => kq _ _ (by unfold a_type; split <;> omega) hs)
      · refine g_bipush (v := iZ (-3)) 26 dX9_type_24 (by decide +kernel) rfl ?_
        refine g_iret rfl dX9_type_26 ?_
        exact kq _ _ (by unfold a_type; split <;> omega) (Sx.refl _ _)
set_option maxRecDepth 100000 in
theorem q9_clear {l : Launch} {h : MH} (F : FM h)  {Q : Option Value → MH → Prop} (kq : ∀ (h1 : MH) (r : Int), r = 0 → Sx 1000 h h1 → Q (some (.int (iZ r))) h1) : Go l mX9_clear 0 [some (.ref 50), none] [] h Q := by
  refine g_aload_n 1 dX9_clear_0 rfl rfl ?_
  refine g_get 4 dX9_clear_1 faX9_71_X9 F.1 rfl rfl ?_
  refine g_istore_n (L1 := [some (.ref 50), some (.int (iZ 0))]) 5 dX9_clear_4 (by decide) rfl rfl rfl ?_
  refine g_aload_n 6 dX9_clear_5 rfl rfl ?_
  refine g_iconst (v := iZ (0)) 7 dX9_clear_6 rfl rfl ?_
  refine g_putC (fs1 := [.long (0), .ref 51, .int (iZ 0), .ref 52, .ref 53, .int (iZ 0), .ref 54, .ref 55, .ref 56, .ref 57, .ref 58, .ref 59, .ref 60, .int (iZ 0), .int (iZ 0), .int (iZ 0), .int (iZ 0), .int (iZ 0), .int (iZ 0), .int (iZ 0), .int (iZ 0), .ref 61, .ref 62, .ref 63, .ref 64, .int (iZ 0), .int (iZ 0), .int (iZ 0), .int (iZ 0), .int (iZ 0), .int (iZ 0), .int (iZ 0), .ref 65, .ref 66, .ref 67, .int (iZ 0), .ref 68, .ref 69, .ref 70]) 10 dX9_clear_7 fpX9_71_X9 F.1 (nle rfl) (vI _) rfl rfl (fun h1 s2 f3 => ?_)
  refine g_iload_n 11 dX9_clear_10 rfl rfl ?_
  refine g_iret rfl dX9_clear_11 ?_
  exact kq _ _ rfl (s2.X (by decide))
set_option maxRecDepth 100000 in
theorem q9_text {l : Launch} {h : MH} (F : FM h) (i : Int) (ri : rg i) {Q : Option Value → MH → Prop} (kq : ∀ (h1 : MH) (r : Int), r = a_ix0 i → Sx 1000 h h1 → Q (some (.int (iZ r))) h1) : Go l mX9_text 0 [some (.ref 50), some (.int (iZ i)), none] [] h Q := by
  refine g_iload_n 1 dX9_text_0 rfl rfl ?_
  refine g_callS (z := mX9_isText) (As := [.int (iZ i)]) 4 dX9_text_1 mwX9_isText ⟨by decide, by decide⟩ rfl wlX9_81 wtX9_isText rfl (nle rfl) (nle rfl) rfl ?_
  refine Go.to [some (.int (iZ i))] [] rfl rfl ?_
  refine g_iload_n 1 dX9_isText_0 rfl rfl ?_
  refine g_iconst (v := iZ (0)) 2 dX9_isText_1 rfl rfl ?_
  refine g_bipush (v := iZ (7)) 4 dX9_isText_2 (by decide +kernel) rfl ?_
  refine g_callS (z := mX9_in) (As := [.int (iZ i), .int (iZ 0), .int (iZ 7)]) 7 dX9_isText_4 mwX9_in ⟨by decide, by decide⟩ rfl wlX9_75 wtX9_in rfl (nle rfl) (nle rfl) rfl ?_
  refine Go.to [some (.int (iZ i)), some (.int (iZ 0)), some (.int (iZ 7))] [] rfl rfl ?_
  refine g_iload_n 1 dX9_in_0 rfl rfl ?_
  refine g_iload_n 2 dX9_in_1 rfl rfl ?_
  refine g_icZ_lt 14 5 dX9_in_2 rfl rfl ri (by decide) (fun c1 => ?_) (fun c1 => ?_)
  · refine g_iconst (v := iZ (0)) 15 dX9_in_14 rfl rfl ?_
    refine g_zret rfl z01_0 dX9_in_15 ?_
    refine rI ?_
    refine g_zret rfl z01_0 dX9_isText_7 ?_
    refine rI ?_
    refine g_ifZ_ne 9 7 dX9_text_4 rfl rfl (by decide) (fun q => absurd q (by decide)) (fun _ => ?_)
    refine g_iconst (v := iZ (-1)) 8 dX9_text_7 rfl rfl ?_
    refine g_iret rfl dX9_text_8 ?_
    exact kq _ _ (by unfold a_ix0; split <;> omega) (Sx.refl _ _)
  · refine g_iload_n 6 dX9_in_5 rfl rfl ?_
    refine g_iload_n 7 dX9_in_6 rfl rfl ?_
    refine g_icZ_gt 14 10 dX9_in_7 rfl rfl ri (by decide) (fun c2 => ?_) (fun c2 => ?_)
    · refine g_iconst (v := iZ (0)) 15 dX9_in_14 rfl rfl ?_
      refine g_zret rfl z01_0 dX9_in_15 ?_
      refine rI ?_
      refine g_zret rfl z01_0 dX9_isText_7 ?_
      refine rI ?_
      refine g_ifZ_ne 9 7 dX9_text_4 rfl rfl (by decide) (fun q => absurd q (by decide)) (fun _ => ?_)
      refine g_iconst (v := iZ (-1)) 8 dX9_text_7 rfl rfl ?_
      refine g_iret rfl dX9_text_8 ?_
      exact kq _ _ (by unfold a_ix0; split <;> omega) (Sx.refl _ _)
    · refine g_iconst (v := iZ (1)) 11 dX9_in_10 rfl rfl ?_
      refine g_goto 15 dX9_in_11 rfl ?_
      refine g_zret rfl z01_1 dX9_in_15 ?_
      refine rI ?_
      refine g_zret rfl z01_1 dX9_isText_7 ?_
      refine rI ?_
      refine g_ifZ_ne 9 7 dX9_text_4 rfl rfl (by decide) (fun _ => ?_) (fun q => absurd q (by decide))
      refine g_iconst (v := iZ (0)) 10 dX9_text_9 rfl rfl ?_
      refine g_istore_n (L1 := [some (.ref 50), some (.int (iZ i)), some (.int (iZ 0))]) 11 dX9_text_10 (by decide) rfl rfl rfl ?_
      refine g_iload_n 12 dX9_text_11 rfl rfl ?_
      refine g_aload_n 13 dX9_text_12 rfl rfl ?_
      refine g_get 16 dX9_text_13 faX9_71_X9 F.1 rfl rfl ?_
      refine g_icZ_ge 43 19 dX9_text_16 rfl rfl (by decide) (by decide) (fun _ => ?_) (fun q => absurd q (by decide))
      refine g_aload_n 44 dX9_text_43 rfl rfl ?_
      refine g_get 47 dX9_text_44 faX9_16_X9 F.1 rfl rfl ?_
      refine g_iload_n 48 dX9_text_47 rfl rfl ?_
      refine g_aload_n 49 dX9_text_48 rfl rfl ?_
      refine g_get 52 dX9_text_49 faX9_71_X9 F.1 rfl rfl ?_
      refine g_iastZ (f1 := upd (fun _ => 0) (i).toNat (iZ 0)) 53 dX9_text_52 F.2.2.2.1 (by omega) (by omega) (by decide) rfl rfl (fun h3 s4 f5 => ?_)
      refine g_aload_n 54 dX9_text_53 rfl rfl ?_
      refine g_iconst (v := iZ (0)) 55 dX9_text_54 rfl rfl ?_
      have f6 := (s4.get (by decide) F.1)
      refine g_putC (fs1 := [.long (0), .ref 51, .int (iZ 0), .ref 52, .ref 53, .int (iZ 0), .ref 54, .ref 55, .ref 56, .ref 57, .ref 58, .ref 59, .ref 60, .int (iZ 0), .int (iZ 0), .int (iZ 0), .int (iZ 0), .int (iZ 0), .int (iZ 0), .int (iZ 0), .int (iZ 0), .ref 61, .ref 62, .ref 63, .ref 64, .int (iZ 0), .int (iZ 0), .int (iZ 0), .int (iZ 0), .int (iZ 0), .int (iZ 0), .int (iZ 0), .ref 65, .ref 66, .ref 67, .int (iZ 0), .ref 68, .ref 69, .ref 70]) 58 dX9_text_55 fpX9_71_X9 f6 (nle rfl) (vI _) rfl rfl (fun h7 s8 f9 => ?_)
      refine g_aload_n 59 dX9_text_58 rfl rfl ?_
      refine g_get 62 dX9_text_59 faX9_16_X9 f9 rfl rfl ?_
      refine g_iload_n 63 dX9_text_62 rfl rfl ?_
      have f10 := (s8.get (by decide) f5)
      refine g_ialdZ 64 dX9_text_63 f10 (by omega) (by omega) (by decide) pk_us rfl ?_
      refine g_iret rfl dX9_text_64 ?_
      exact kq _ _ (by unfold a_ix0; split <;> omega) ((s4.X (by decide)).tr (s8.X (by decide)))
set_option maxRecDepth 100000 in
theorem q9_read {l : Launch} {h : MH} (F : FM h) (i : Int) (a : Int) (ri : rg i) (ra : rg a) {Q : Option Value → MH → Prop} (kq : ∀ (h1 : MH) (r : Int), r = -1 → Sx 1000 h h1 → Q (some (.int (iZ r))) h1) : Go l mX9_read 0 [some (.ref 50), some (.int (iZ i)), some (.int (iZ a))] [] h Q := by
  refine g_iload_n 1 dX9_read_0 rfl rfl ?_
  refine g_callS (z := mX9_isText) (As := [.int (iZ i)]) 4 dX9_read_1 mwX9_isText ⟨by decide, by decide⟩ rfl wlX9_81 wtX9_isText rfl (nle rfl) (nle rfl) rfl ?_
  refine Go.to [some (.int (iZ i))] [] rfl rfl ?_
  refine g_iload_n 1 dX9_isText_0 rfl rfl ?_
  refine g_iconst (v := iZ (0)) 2 dX9_isText_1 rfl rfl ?_
  refine g_bipush (v := iZ (7)) 4 dX9_isText_2 (by decide +kernel) rfl ?_
  refine g_callS (z := mX9_in) (As := [.int (iZ i), .int (iZ 0), .int (iZ 7)]) 7 dX9_isText_4 mwX9_in ⟨by decide, by decide⟩ rfl wlX9_75 wtX9_in rfl (nle rfl) (nle rfl) rfl ?_
  refine Go.to [some (.int (iZ i)), some (.int (iZ 0)), some (.int (iZ 7))] [] rfl rfl ?_
  refine g_iload_n 1 dX9_in_0 rfl rfl ?_
  refine g_iload_n 2 dX9_in_1 rfl rfl ?_
  refine g_icZ_lt 14 5 dX9_in_2 rfl rfl ri (by decide) (fun c1 => ?_) (fun c1 => ?_)
  · refine g_iconst (v := iZ (0)) 15 dX9_in_14 rfl rfl ?_
    refine g_zret rfl z01_0 dX9_in_15 ?_
    refine rI ?_
    refine g_zret rfl z01_0 dX9_isText_7 ?_
    refine rI ?_
    refine g_ifZ_eq 42 7 dX9_read_4 rfl rfl (by decide) (fun _ => ?_) (fun q => absurd q (by decide))
    refine g_iconst (v := iZ (-1)) 43 dX9_read_42 rfl rfl ?_
    refine g_iret rfl dX9_read_43 ?_
    exact kq _ _ rfl (Sx.refl _ _)
  · refine g_iload_n 6 dX9_in_5 rfl rfl ?_
    refine g_iload_n 7 dX9_in_6 rfl rfl ?_
    refine g_icZ_gt 14 10 dX9_in_7 rfl rfl ri (by decide) (fun c2 => ?_) (fun c2 => ?_)
    · refine g_iconst (v := iZ (0)) 15 dX9_in_14 rfl rfl ?_
      refine g_zret rfl z01_0 dX9_in_15 ?_
      refine rI ?_
      refine g_zret rfl z01_0 dX9_isText_7 ?_
      refine rI ?_
      refine g_ifZ_eq 42 7 dX9_read_4 rfl rfl (by decide) (fun _ => ?_) (fun q => absurd q (by decide))
      refine g_iconst (v := iZ (-1)) 43 dX9_read_42 rfl rfl ?_
      refine g_iret rfl dX9_read_43 ?_
      exact kq _ _ rfl (Sx.refl _ _)
    · refine g_iconst (v := iZ (1)) 11 dX9_in_10 rfl rfl ?_
      refine g_goto 15 dX9_in_11 rfl ?_
      refine g_zret rfl z01_1 dX9_in_15 ?_
      refine rI ?_
      refine g_zret rfl z01_1 dX9_isText_7 ?_
      refine rI ?_
      refine g_ifZ_eq 42 7 dX9_read_4 rfl rfl (by decide) (fun q => absurd q (by decide)) (fun _ => ?_)
      refine g_iload_n 8 dX9_read_7 rfl rfl ?_
      refine g_iconst (v := iZ (0)) 9 dX9_read_8 rfl rfl ?_
      refine g_aload_n 10 dX9_read_9 rfl rfl ?_
      refine g_get 13 dX9_read_10 faX9_16_X9 F.1 rfl rfl ?_
      refine g_iload_n 14 dX9_read_13 rfl rfl ?_
      refine g_ialdZ 15 dX9_read_14 F.2.2.2.1 (by omega) (by omega) (by decide) iZ_0 rfl ?_
      refine g_iconst (v := iZ (1)) 16 dX9_read_15 rfl rfl ?_
      refine g_isubZ (-1) 17 dX9_read_16 (by decide) rfl ?_
      refine g_callS (z := mX9_in) (As := [.int (iZ a), .int (iZ 0), .int (iZ (-1))]) 20 dX9_read_17 mwX9_in ⟨by decide, by decide⟩ rfl wlX9_75 wtX9_in rfl (nle rfl) (nle rfl) rfl ?_
      refine Go.to [some (.int (iZ a)), some (.int (iZ 0)), some (.int (iZ (-1)))] [] rfl rfl ?_
      refine g_iload_n 1 dX9_in_0 rfl rfl ?_
      refine g_iload_n 2 dX9_in_1 rfl rfl ?_
      refine g_icZ_lt 14 5 dX9_in_2 rfl rfl ra (by decide) (fun c3 => ?_) (fun c3 => ?_)
      · refine g_iconst (v := iZ (0)) 15 dX9_in_14 rfl rfl ?_
        refine g_zret rfl z01_0 dX9_in_15 ?_
        refine rI ?_
        refine g_ifZ_eq 42 23 dX9_read_20 rfl rfl (by decide) (fun _ => ?_) (fun q => absurd q (by decide))
        refine g_iconst (v := iZ (-1)) 43 dX9_read_42 rfl rfl ?_
        refine g_iret rfl dX9_read_43 ?_
        exact kq _ _ rfl (Sx.refl _ _)
      · refine g_iload_n 6 dX9_in_5 rfl rfl ?_
        refine g_iload_n 7 dX9_in_6 rfl rfl ?_
        refine g_icZ_gt 14 10 dX9_in_7 rfl rfl ra (by decide) (fun _ => ?_) (fun q => absurd q (by omega))
        refine g_iconst (v := iZ (0)) 15 dX9_in_14 rfl rfl ?_
        refine g_zret rfl z01_0 dX9_in_15 ?_
        refine rI ?_
        refine g_ifZ_eq 42 23 dX9_read_20 rfl rfl (by decide) (fun _ => ?_) (fun q => absurd q (by decide))
        refine g_iconst (v := iZ (-1)) 43 dX9_read_42 rfl rfl ?_
        refine g_iret rfl dX9_read_43 ?_
        exact kq _ _ rfl (Sx.refl _ _)
set_option maxRecDepth 100000 in
theorem q9_pairs {l : Launch} {h : MH} (F : FM h) (i : Int) (ri : rg i) {Q : Option Value → MH → Prop} (kq : ∀ (h1 : MH) (r : Int), r = a_ix10 i → Sx 1000 h h1 → Q (some (.int (iZ r))) h1) : Go l mX9_pairs 0 [some (.ref 50), some (.int (iZ i))] [] h Q := by
  refine g_aload_n 1 dX9_pairs_0 rfl rfl ?_
  refine g_iload_n 2 dX9_pairs_1 rfl rfl ?_
  refine g_iconst (v := iZ (0)) 3 dX9_pairs_2 rfl rfl ?_
  refine g_callV (z := mX9_make) (As := [.int (iZ i), .int (iZ 0)]) 6 dX9_pairs_3 mwX9_make ⟨by decide, by decide⟩ rfl wlX9_175 wiX9_make wsX9_make F.1 rfl rfl rfl (nle rfl) (nle rfl) rfl ?_
  refine Go.to [some (.ref 50), some (.int (iZ i)), some (.int (iZ 0)), none] [] rfl rfl ?_
  refine g_iload_n 1 dX9_make_0 rfl rfl ?_
  refine g_callS (z := mX9_isText) (As := [.int (iZ i)]) 4 dX9_make_1 mwX9_isText ⟨by decide, by decide⟩ rfl wlX9_81 wtX9_isText rfl (nle rfl) (nle rfl) rfl ?_
  refine Go.to [some (.int (iZ i))] [] rfl rfl ?_
  refine g_iload_n 1 dX9_isText_0 rfl rfl ?_
  refine g_iconst (v := iZ (0)) 2 dX9_isText_1 rfl rfl ?_
  refine g_bipush (v := iZ (7)) 4 dX9_isText_2 (by decide +kernel) rfl ?_
  refine g_callS (z := mX9_in) (As := [.int (iZ i), .int (iZ 0), .int (iZ 7)]) 7 dX9_isText_4 mwX9_in ⟨by decide, by decide⟩ rfl wlX9_75 wtX9_in rfl (nle rfl) (nle rfl) rfl ?_
  refine Go.to [some (.int (iZ i)), some (.int (iZ 0)), some (.int (iZ 7))] [] rfl rfl ?_
  refine g_iload_n 1 dX9_in_0 rfl rfl ?_
  refine g_iload_n 2 dX9_in_1 rfl rfl ?_
  refine g_icZ_lt 14 5 dX9_in_2 rfl rfl ri (by decide) (fun c1 => ?_) (fun c1 => ?_)
  · refine g_iconst (v := iZ (0)) 15 dX9_in_14 rfl rfl ?_
    refine g_zret rfl z01_0 dX9_in_15 ?_
    refine rI ?_
    refine g_zret rfl z01_0 dX9_isText_7 ?_
    refine rI ?_
    refine g_ifZ_ne 9 7 dX9_make_4 rfl rfl (by decide) (fun q => absurd q (by decide)) (fun _ => ?_)
    refine g_iconst (v := iZ (-1)) 8 dX9_make_7 rfl rfl ?_
    refine g_iret rfl dX9_make_8 ?_
    refine rI ?_
    refine g_iret rfl dX9_pairs_6 ?_
    exact kq _ _ (by unfold a_ix10; split <;> omega) (Sx.refl _ _)
  · refine g_iload_n 6 dX9_in_5 rfl rfl ?_
    refine g_iload_n 7 dX9_in_6 rfl rfl ?_
    refine g_icZ_gt 14 10 dX9_in_7 rfl rfl ri (by decide) (fun c2 => ?_) (fun c2 => ?_)
    · refine g_iconst (v := iZ (0)) 15 dX9_in_14 rfl rfl ?_
      refine g_zret rfl z01_0 dX9_in_15 ?_
      refine rI ?_
      refine g_zret rfl z01_0 dX9_isText_7 ?_
      refine rI ?_
      refine g_ifZ_ne 9 7 dX9_make_4 rfl rfl (by decide) (fun q => absurd q (by decide)) (fun _ => ?_)
      refine g_iconst (v := iZ (-1)) 8 dX9_make_7 rfl rfl ?_
      refine g_iret rfl dX9_make_8 ?_
      refine rI ?_
      refine g_iret rfl dX9_pairs_6 ?_
      exact kq _ _ (by unfold a_ix10; split <;> omega) (Sx.refl _ _)
    · refine g_iconst (v := iZ (1)) 11 dX9_in_10 rfl rfl ?_
      refine g_goto 15 dX9_in_11 rfl ?_
      refine g_zret rfl z01_1 dX9_in_15 ?_
      refine rI ?_
      refine g_zret rfl z01_1 dX9_isText_7 ?_
      refine rI ?_
      refine g_ifZ_ne 9 7 dX9_make_4 rfl rfl (by decide) (fun _ => ?_) (fun q => absurd q (by decide))
      refine g_iload_n 10 dX9_make_9 rfl rfl ?_
      refine g_ifZ_ne 23 13 dX9_make_10 rfl rfl (by decide) (fun q => absurd q (by decide)) (fun _ => ?_)
      refine g_aload_n 14 dX9_make_13 rfl rfl ?_
      refine g_iload_n 15 dX9_make_14 rfl rfl ?_
      refine g_bipush (v := iZ (12)) 17 dX9_make_15 (by decide +kernel) rfl ?_
      refine g_callV (z := mX9_readPairs) (As := [.int (iZ i), .int (iZ 12)]) 20 dX9_make_17 mwX9_readPairs ⟨by decide, by decide⟩ rfl wlX9_161 wiX9_readPairs wsX9_readPairs F.1 rfl rfl rfl (nle rfl) (nle rfl) rfl ?_
      refine Go.to [some (.ref 50), some (.int (iZ i)), some (.int (iZ 12)), none, none, none] [] rfl rfl ?_
      refine g_aload_n 1 dX9_readPairs_0 rfl rfl ?_
      refine g_iload_n 2 dX9_readPairs_1 rfl rfl ?_
      refine g_callV (z := mX9_open) (As := [.int (iZ i)]) 5 dX9_readPairs_2 mwX9_open ⟨by decide, by decide⟩ rfl wlX9_104 wiX9_open wsX9_open F.1 rfl rfl rfl (nle rfl) (nle rfl) rfl ?_
      refine Go.to [some (.ref 50), some (.int (iZ i))] [] rfl rfl ?_
      refine g_aload_n 1 dX9_open_0 rfl rfl ?_
      refine g_sipush (v := iZ (200)) 4 dX9_open_1 (by decide +kernel) rfl ?_
      refine g_iload_n 5 dX9_open_4 rfl rfl ?_
      refine g_imulZ (200 * i) 6 dX9_open_5 (by omega) rfl ?_
      refine g_putC (fs1 := [.long (0), .ref 51, .int (iZ 0), .ref 52, .ref 53, .int (iZ 0), .ref 54, .ref 55, .ref 56, .ref 57, .ref 58, .ref 59, .ref 60, .int (iZ (200 * i)), .int (iZ 0), .int (iZ 0), .int (iZ 0), .int (iZ 0), .int (iZ 0), .int (iZ 0), .int (iZ 0), .ref 61, .ref 62, .ref 63, .ref 64, .int (iZ 0), .int (iZ 0), .int (iZ 0), .int (iZ 0), .int (iZ 0), .int (iZ 0), .int (iZ 0), .ref 65, .ref 66, .ref 67, .int (iZ 0), .ref 68, .ref 69, .ref 70]) 9 dX9_open_6 fpX9_94_X9 F.1 (nle rfl) (vI _) rfl rfl (fun h3 s4 f5 => ?_)
      refine g_aload_n 10 dX9_open_9 rfl rfl ?_
      refine g_aload_n 11 dX9_open_10 rfl rfl ?_
      refine g_get 14 dX9_open_11 faX9_16_X9 f5 rfl rfl ?_
      refine g_iload_n 15 dX9_open_14 rfl rfl ?_
      have f6 := (s4.get (by decide) F.2.2.2.1)
      refine g_ialdZ 16 dX9_open_15 f6 (by omega) (by omega) (by decide) iZ_0 rfl ?_
      refine g_putC (fs1 := [.long (0), .ref 51, .int (iZ 0), .ref 52, .ref 53, .int (iZ 0), .ref 54, .ref 55, .ref 56, .ref 57, .ref 58, .ref 59, .ref 60, .int (iZ (200 * i)), .int (iZ 0), .int (iZ 0), .int (iZ 0), .int (iZ 0), .int (iZ 0), .int (iZ 0), .int (iZ 0), .ref 61, .ref 62, .ref 63, .ref 64, .int (iZ 0), .int (iZ 0), .int (iZ 0), .int (iZ 0), .int (iZ 0), .int (iZ 0), .int (iZ 0), .ref 65, .ref 66, .ref 67, .int (iZ 0), .ref 68, .ref 69, .ref 70]) 19 dX9_open_16 fpX9_91_X9 f5 (nle rfl) (vI _) rfl rfl (fun h7 s8 f9 => ?_)
      refine g_aload_n 20 dX9_open_19 rfl rfl ?_
      refine g_iconst (v := iZ (0)) 21 dX9_open_20 rfl rfl ?_
      refine g_putC (fs1 := [.long (0), .ref 51, .int (iZ 0), .ref 52, .ref 53, .int (iZ 0), .ref 54, .ref 55, .ref 56, .ref 57, .ref 58, .ref 59, .ref 60, .int (iZ (200 * i)), .int (iZ 0), .int (iZ 0), .int (iZ 0), .int (iZ 0), .int (iZ 0), .int (iZ 0), .int (iZ 0), .ref 61, .ref 62, .ref 63, .ref 64, .int (iZ 0), .int (iZ 0), .int (iZ 0), .int (iZ 0), .int (iZ 0), .int (iZ 0), .int (iZ 0), .ref 65, .ref 66, .ref 67, .int (iZ 0), .ref 68, .ref 69, .ref 70]) 24 dX9_open_21 fpX9_88_X9 f9 (nle rfl) (vI _) rfl rfl (fun h10 s11 f12 => ?_)
      refine g_aload_n 25 dX9_open_24 rfl rfl ?_
      refine g_bipush (v := iZ (-9)) 27 dX9_open_25 (by decide +kernel) rfl ?_
      refine g_putC (fs1 := [.long (0), .ref 51, .int (iZ 0), .ref 52, .ref 53, .int (iZ 0), .ref 54, .ref 55, .ref 56, .ref 57, .ref 58, .ref 59, .ref 60, .int (iZ (200 * i)), .int (iZ 0), .int (iZ 0), .int (iZ (-9)), .int (iZ 0), .int (iZ 0), .int (iZ 0), .int (iZ 0), .ref 61, .ref 62, .ref 63, .ref 64, .int (iZ 0), .int (iZ 0), .int (iZ 0), .int (iZ 0), .int (iZ 0), .int (iZ 0), .int (iZ 0), .ref 65, .ref 66, .ref 67, .int (iZ 0), .ref 68, .ref 69, .ref 70]) 30 dX9_open_27 fpX9_97_X9 f12 (nle rfl) (vI _) rfl rfl (fun h13 s14 f15 => ?_)
      refine g_vret rfl dX9_open_30 ?_
      refine rV ?_
      refine g_aload_n 6 dX9_readPairs_5 rfl rfl ?_
      refine g_get 9 dX9_readPairs_6 faX9_26_X9 f15 rfl rfl ?_
      refine g_iload_n 10 dX9_readPairs_9 rfl rfl ?_
      refine g_iconst (v := iZ (0)) 11 dX9_readPairs_10 rfl rfl ?_
      have f16 := (s14.get (by decide) (s11.get (by decide) (s8.get (by decide) (s4.get (by decide) F.2.2.2.2.2.2.1))))
      refine g_iastZ (f1 := upd (fun _ => 0) 12 (iZ 0)) 12 dX9_readPairs_11 f16 (by decide) (by decide) (by decide) rfl rfl (fun h17 s18 f19 => ?_)
      refine g_aload_n 13 dX9_readPairs_12 rfl rfl ?_
      have f20 := (s18.get (by decide) f15)
      refine g_callV (z := mX9_pass) (As := []) 16 dX9_readPairs_13 mwX9_pass ⟨by decide, by decide⟩ rfl wlX9_108 wiX9_pass wsX9_pass f20 rfl rfl rfl (nle rfl) (nle rfl) rfl ?_
      refine Go.to [some (.ref 50), none, none] [] rfl rfl ?_
      refine g_iconst (v := iZ (1)) 1 dX9_pass_0 rfl rfl ?_
      refine g_istore_n (L1 := [some (.ref 50), some (.int (iZ 1)), none]) 2 dX9_pass_1 (by decide) rfl rfl rfl ?_
      refine g_iload_n 3 dX9_pass_2 rfl rfl ?_
      refine g_ifZ_eq 85 6 dX9_pass_3 rfl rfl (by decide) (fun q => absurd q (by decide)) (fun _ => ?_)
      refine g_aload_n 7 dX9_pass_6 rfl rfl ?_
      refine g_callV (z := mX9_here) (As := []) 10 dX9_pass_7 mwX9_here ⟨by decide, by decide⟩ rfl wlX9_100 wiX9_here wsX9_here f20 rfl rfl rfl (nle rfl) (nle rfl) rfl ?_
      refine Go.to [some (.ref 50)] [] rfl rfl ?_
      refine g_aload_n 1 dX9_here_0 rfl rfl ?_
      refine g_get 4 dX9_here_1 faX9_88_X9 f20 rfl rfl ?_
      refine g_aload_n 5 dX9_here_4 rfl rfl ?_
      refine g_get 8 dX9_here_5 faX9_91_X9 f20 rfl rfl ?_
      refine g_icZ_ge 32 11 dX9_here_8 rfl rfl (by decide) (by decide) (fun _ => ?_) (fun q => absurd q (by decide))
      refine g_iconst (v := iZ (-1)) 33 dX9_here_32 rfl rfl ?_
      refine g_iret rfl dX9_here_33 ?_
      refine rI ?_
      refine g_istore_n (L1 := [some (.ref 50), some (.int (iZ 1)), some (.int (iZ (-1)))]) 11 dX9_pass_10 (by decide) rfl rfl rfl ?_
      refine g_iload_n 12 dX9_pass_11 rfl rfl ?_
      refine g_bipush (v := iZ (35)) 14 dX9_pass_12 (by decide +kernel) rfl ?_
      refine g_icZ_ne 46 17 dX9_pass_14 rfl rfl (by decide) (by decide) (fun _ => ?_) (fun q => absurd q (by decide))
      refine g_iload_n 47 dX9_pass_46 rfl rfl ?_
      refine g_bipush (v := iZ (32)) 49 dX9_pass_47 (by decide +kernel) rfl ?_
      refine g_icZ_eq 58 52 dX9_pass_49 rfl rfl (by decide) (by decide) (fun q => absurd q (by decide)) (fun _ => ?_)
      refine g_iload_n 53 dX9_pass_52 rfl rfl ?_
      refine g_bipush (v := iZ (10)) 55 dX9_pass_53 (by decide +kernel) rfl ?_
      refine g_icZ_ne 62 58 dX9_pass_55 rfl rfl (by decide) (by decide) (fun _ => ?_) (fun q => absurd q (by decide))
      refine g_iconst (v := iZ (0)) 63 dX9_pass_62 rfl rfl ?_
      refine g_istore_n (L1 := [some (.ref 50), some (.int (iZ 0)), some (.int (iZ (-1)))]) 64 dX9_pass_63 (by decide) rfl rfl rfl ?_
      refine g_aload_n 65 dX9_pass_64 rfl rfl ?_
      refine g_dup 66 dX9_pass_65 rfl rfl ?_
      refine g_get 69 dX9_pass_66 faX9_88_X9 f20 rfl rfl ?_
      refine g_iload_n 70 dX9_pass_69 rfl rfl ?_
      refine g_ifZ_eq 77 73 dX9_pass_70 rfl rfl (by decide) (fun _ => ?_) (fun q => absurd q (by decide))
      refine g_iconst (v := iZ (0)) 78 dX9_pass_77 rfl rfl ?_
      refine g_iaddZ (0) 79 dX9_pass_78 (by decide) rfl ?_
      refine g_putC (fs1 := [.long (0), .ref 51, .int (iZ 0), .ref 52, .ref 53, .int (iZ 0), .ref 54, .ref 55, .ref 56, .ref 57, .ref 58, .ref 59, .ref 60, .int (iZ (200 * i)), .int (iZ 0), .int (iZ 0), .int (iZ (-9)), .int (iZ 0), .int (iZ 0), .int (iZ 0), .int (iZ 0), .ref 61, .ref 62, .ref 63, .ref 64, .int (iZ 0), .int (iZ 0), .int (iZ 0), .int (iZ 0), .int (iZ 0), .int (iZ 0), .int (iZ 0), .ref 65, .ref 66, .ref 67, .int (iZ 0), .ref 68, .ref 69, .ref 70]) 82 dX9_pass_79 fpX9_88_X9 f20 (nle rfl) (vI _) rfl rfl (fun h21 s22 f23 => ?_)
      refine g_goto 2 dX9_pass_82 rfl ?_
      refine g_iload_n 3 dX9_pass_2 rfl rfl ?_
      refine g_ifZ_eq 85 6 dX9_pass_3 rfl rfl (by decide) (fun _ => ?_) (fun q => absurd q (by decide))
      refine g_vret rfl dX9_pass_85 ?_
      refine rV ?_
      refine g_aload_n 17 dX9_readPairs_16 rfl rfl ?_
      refine g_get 20 dX9_readPairs_17 faX9_88_X9 f23 rfl rfl ?_
      refine g_aload_n 21 dX9_readPairs_20 rfl rfl ?_
      refine g_get 24 dX9_readPairs_21 faX9_91_X9 f23 rfl rfl ?_
      refine g_icZ_ge 115 27 dX9_readPairs_24 rfl rfl (by decide) (by decide) (fun _ => ?_) (fun q => absurd q (by decide))
      refine g_aload_n 116 dX9_readPairs_115 rfl rfl ?_
      refine g_get 119 dX9_readPairs_116 faX9_26_X9 f23 rfl rfl ?_
      refine g_iload_n 120 dX9_readPairs_119 rfl rfl ?_
      have f24 := (s22.get (by decide) f19)
      refine g_ialdZ 121 dX9_readPairs_120 f24 (by decide) (by decide) (by decide) pk_us rfl ?_
      refine g_ifZ_ne 131 124 dX9_readPairs_121 rfl rfl (by decide) (fun q => absurd q (by decide)) (fun _ => ?_)
      refine g_aload_n 125 dX9_readPairs_124 rfl rfl ?_
      refine g_get 128 dX9_readPairs_125 faX9_91_X9 f23 rfl rfl ?_
      refine g_goto 133 dX9_readPairs_128 rfl ?_
      refine g_iret rfl dX9_readPairs_133 ?_
      refine rI ?_
      refine g_goto 30 dX9_make_20 rfl ?_
      refine g_istore_n (L1 := [some (.ref 50), some (.int (iZ i)), some (.int (iZ 0)), some (.int (iZ 0))]) 31 dX9_make_30 (by decide) rfl rfl rfl ?_
      refine g_iload_n 32 dX9_make_31 rfl rfl ?_
      refine g_bipush (v := iZ (-9)) 34 dX9_make_32 (by decide +kernel) rfl ?_
      refine g_icZ_eq 42 37 dX9_make_34 rfl rfl (by decide) (by decide) (fun q => absurd q (by decide)) (fun _ => ?_)
      refine g_bipush (v := iZ (-10)) 39 dX9_make_37 (by decide +kernel) rfl ?_
      refine g_iload_n 40 dX9_make_39 rfl rfl ?_
      refine g_isubZ (-10) 41 dX9_make_40 (by decide) rfl ?_
      refine g_iret rfl dX9_make_41 ?_
      refine rI ?_
      refine g_iret rfl dX9_pairs_6 ?_
      exact kq _ _ (by unfold a_ix10; split <;> omega) ((((((s4.X (by decide)).tr (s8.X (by decide))).tr (s11.X (by decide))).tr (s14.X (by decide))).tr (s18.X (by decide))).tr (s22.X (by decide)))
set_option maxRecDepth 100000 in
theorem q9_named {l : Launch} {h : MH} (F : FM h) (i : Int) (ri : rg i) {Q : Option Value → MH → Prop} (kq : ∀ (h1 : MH) (r : Int), r = a_ix10 i → Sx 1000 h h1 → Q (some (.int (iZ r))) h1) : Go l mX9_named 0 [some (.ref 50), some (.int (iZ i))] [] h Q := by
  refine g_aload_n 1 dX9_named_0 rfl rfl ?_
  refine g_iload_n 2 dX9_named_1 rfl rfl ?_
  refine g_iconst (v := iZ (1)) 3 dX9_named_2 rfl rfl ?_
  refine g_callV (z := mX9_make) (As := [.int (iZ i), .int (iZ 1)]) 6 dX9_named_3 mwX9_make ⟨by decide, by decide⟩ rfl wlX9_175 wiX9_make wsX9_make F.1 rfl rfl rfl (nle rfl) (nle rfl) rfl ?_
  refine Go.to [some (.ref 50), some (.int (iZ i)), some (.int (iZ 1)), none] [] rfl rfl ?_
  refine g_iload_n 1 dX9_make_0 rfl rfl ?_
  refine g_callS (z := mX9_isText) (As := [.int (iZ i)]) 4 dX9_make_1 mwX9_isText ⟨by decide, by decide⟩ rfl wlX9_81 wtX9_isText rfl (nle rfl) (nle rfl) rfl ?_
  refine Go.to [some (.int (iZ i))] [] rfl rfl ?_
  refine g_iload_n 1 dX9_isText_0 rfl rfl ?_
  refine g_iconst (v := iZ (0)) 2 dX9_isText_1 rfl rfl ?_
  refine g_bipush (v := iZ (7)) 4 dX9_isText_2 (by decide +kernel) rfl ?_
  refine g_callS (z := mX9_in) (As := [.int (iZ i), .int (iZ 0), .int (iZ 7)]) 7 dX9_isText_4 mwX9_in ⟨by decide, by decide⟩ rfl wlX9_75 wtX9_in rfl (nle rfl) (nle rfl) rfl ?_
  refine Go.to [some (.int (iZ i)), some (.int (iZ 0)), some (.int (iZ 7))] [] rfl rfl ?_
  refine g_iload_n 1 dX9_in_0 rfl rfl ?_
  refine g_iload_n 2 dX9_in_1 rfl rfl ?_
  refine g_icZ_lt 14 5 dX9_in_2 rfl rfl ri (by decide) (fun c1 => ?_) (fun c1 => ?_)
  · refine g_iconst (v := iZ (0)) 15 dX9_in_14 rfl rfl ?_
    refine g_zret rfl z01_0 dX9_in_15 ?_
    refine rI ?_
    refine g_zret rfl z01_0 dX9_isText_7 ?_
    refine rI ?_
    refine g_ifZ_ne 9 7 dX9_make_4 rfl rfl (by decide) (fun q => absurd q (by decide)) (fun _ => ?_)
    refine g_iconst (v := iZ (-1)) 8 dX9_make_7 rfl rfl ?_
    refine g_iret rfl dX9_make_8 ?_
    refine rI ?_
    refine g_iret rfl dX9_named_6 ?_
    exact kq _ _ (by unfold a_ix10; split <;> omega) (Sx.refl _ _)
  · refine g_iload_n 6 dX9_in_5 rfl rfl ?_
    refine g_iload_n 7 dX9_in_6 rfl rfl ?_
    refine g_icZ_gt 14 10 dX9_in_7 rfl rfl ri (by decide) (fun c2 => ?_) (fun c2 => ?_)
    · refine g_iconst (v := iZ (0)) 15 dX9_in_14 rfl rfl ?_
      refine g_zret rfl z01_0 dX9_in_15 ?_
      refine rI ?_
      refine g_zret rfl z01_0 dX9_isText_7 ?_
      refine rI ?_
      refine g_ifZ_ne 9 7 dX9_make_4 rfl rfl (by decide) (fun q => absurd q (by decide)) (fun _ => ?_)
      refine g_iconst (v := iZ (-1)) 8 dX9_make_7 rfl rfl ?_
      refine g_iret rfl dX9_make_8 ?_
      refine rI ?_
      refine g_iret rfl dX9_named_6 ?_
      exact kq _ _ (by unfold a_ix10; split <;> omega) (Sx.refl _ _)
    · refine g_iconst (v := iZ (1)) 11 dX9_in_10 rfl rfl ?_
      refine g_goto 15 dX9_in_11 rfl ?_
      refine g_zret rfl z01_1 dX9_in_15 ?_
      refine rI ?_
      refine g_zret rfl z01_1 dX9_isText_7 ?_
      refine rI ?_
      refine g_ifZ_ne 9 7 dX9_make_4 rfl rfl (by decide) (fun _ => ?_) (fun q => absurd q (by decide))
      refine g_iload_n 10 dX9_make_9 rfl rfl ?_
      refine g_ifZ_ne 23 13 dX9_make_10 rfl rfl (by decide) (fun _ => ?_) (fun q => absurd q (by decide))
      refine g_aload_n 24 dX9_make_23 rfl rfl ?_
      refine g_iload_n 25 dX9_make_24 rfl rfl ?_
      refine g_bipush (v := iZ (12)) 27 dX9_make_25 (by decide +kernel) rfl ?_
      refine g_callV (z := mX9_readNames) (As := [.int (iZ i), .int (iZ 12)]) 30 dX9_make_27 mwX9_readNames ⟨by decide, by decide⟩ rfl wlX9_164 wiX9_readNames wsX9_readNames F.1 rfl rfl rfl (nle rfl) (nle rfl) rfl ?_
      refine Go.to [some (.ref 50), some (.int (iZ i)), some (.int (iZ 12)), none, none, none, none] [] rfl rfl ?_
      refine g_aload_n 1 dX9_readNames_0 rfl rfl ?_
      refine g_iload_n 2 dX9_readNames_1 rfl rfl ?_
      refine g_callV (z := mX9_open) (As := [.int (iZ i)]) 5 dX9_readNames_2 mwX9_open ⟨by decide, by decide⟩ rfl wlX9_104 wiX9_open wsX9_open F.1 rfl rfl rfl (nle rfl) (nle rfl) rfl ?_
      refine Go.to [some (.ref 50), some (.int (iZ i))] [] rfl rfl ?_
      refine g_aload_n 1 dX9_open_0 rfl rfl ?_
      refine g_sipush (v := iZ (200)) 4 dX9_open_1 (by decide +kernel) rfl ?_
      refine g_iload_n 5 dX9_open_4 rfl rfl ?_
      refine g_imulZ (200 * i) 6 dX9_open_5 (by omega) rfl ?_
      refine g_putC (fs1 := [.long (0), .ref 51, .int (iZ 0), .ref 52, .ref 53, .int (iZ 0), .ref 54, .ref 55, .ref 56, .ref 57, .ref 58, .ref 59, .ref 60, .int (iZ (200 * i)), .int (iZ 0), .int (iZ 0), .int (iZ 0), .int (iZ 0), .int (iZ 0), .int (iZ 0), .int (iZ 0), .ref 61, .ref 62, .ref 63, .ref 64, .int (iZ 0), .int (iZ 0), .int (iZ 0), .int (iZ 0), .int (iZ 0), .int (iZ 0), .int (iZ 0), .ref 65, .ref 66, .ref 67, .int (iZ 0), .ref 68, .ref 69, .ref 70]) 9 dX9_open_6 fpX9_94_X9 F.1 (nle rfl) (vI _) rfl rfl (fun h3 s4 f5 => ?_)
      refine g_aload_n 10 dX9_open_9 rfl rfl ?_
      refine g_aload_n 11 dX9_open_10 rfl rfl ?_
      refine g_get 14 dX9_open_11 faX9_16_X9 f5 rfl rfl ?_
      refine g_iload_n 15 dX9_open_14 rfl rfl ?_
      have f6 := (s4.get (by decide) F.2.2.2.1)
      refine g_ialdZ 16 dX9_open_15 f6 (by omega) (by omega) (by decide) iZ_0 rfl ?_
      refine g_putC (fs1 := [.long (0), .ref 51, .int (iZ 0), .ref 52, .ref 53, .int (iZ 0), .ref 54, .ref 55, .ref 56, .ref 57, .ref 58, .ref 59, .ref 60, .int (iZ (200 * i)), .int (iZ 0), .int (iZ 0), .int (iZ 0), .int (iZ 0), .int (iZ 0), .int (iZ 0), .int (iZ 0), .ref 61, .ref 62, .ref 63, .ref 64, .int (iZ 0), .int (iZ 0), .int (iZ 0), .int (iZ 0), .int (iZ 0), .int (iZ 0), .int (iZ 0), .ref 65, .ref 66, .ref 67, .int (iZ 0), .ref 68, .ref 69, .ref 70]) 19 dX9_open_16 fpX9_91_X9 f5 (nle rfl) (vI _) rfl rfl (fun h7 s8 f9 => ?_)
      refine g_aload_n 20 dX9_open_19 rfl rfl ?_
      refine g_iconst (v := iZ (0)) 21 dX9_open_20 rfl rfl ?_
      refine g_putC (fs1 := [.long (0), .ref 51, .int (iZ 0), .ref 52, .ref 53, .int (iZ 0), .ref 54, .ref 55, .ref 56, .ref 57, .ref 58, .ref 59, .ref 60, .int (iZ (200 * i)), .int (iZ 0), .int (iZ 0), .int (iZ 0), .int (iZ 0), .int (iZ 0), .int (iZ 0), .int (iZ 0), .ref 61, .ref 62, .ref 63, .ref 64, .int (iZ 0), .int (iZ 0), .int (iZ 0), .int (iZ 0), .int (iZ 0), .int (iZ 0), .int (iZ 0), .ref 65, .ref 66, .ref 67, .int (iZ 0), .ref 68, .ref 69, .ref 70]) 24 dX9_open_21 fpX9_88_X9 f9 (nle rfl) (vI _) rfl rfl (fun h10 s11 f12 => ?_)
      refine g_aload_n 25 dX9_open_24 rfl rfl ?_
      refine g_bipush (v := iZ (-9)) 27 dX9_open_25 (by decide +kernel) rfl ?_
      refine g_putC (fs1 := [.long (0), .ref 51, .int (iZ 0), .ref 52, .ref 53, .int (iZ 0), .ref 54, .ref 55, .ref 56, .ref 57, .ref 58, .ref 59, .ref 60, .int (iZ (200 * i)), .int (iZ 0), .int (iZ 0), .int (iZ (-9)), .int (iZ 0), .int (iZ 0), .int (iZ 0), .int (iZ 0), .ref 61, .ref 62, .ref 63, .ref 64, .int (iZ 0), .int (iZ 0), .int (iZ 0), .int (iZ 0), .int (iZ 0), .int (iZ 0), .int (iZ 0), .ref 65, .ref 66, .ref 67, .int (iZ 0), .ref 68, .ref 69, .ref 70]) 30 dX9_open_27 fpX9_97_X9 f12 (nle rfl) (vI _) rfl rfl (fun h13 s14 f15 => ?_)
      refine g_vret rfl dX9_open_30 ?_
      refine rV ?_
      refine g_aload_n 6 dX9_readNames_5 rfl rfl ?_
      refine g_get 9 dX9_readNames_6 faX9_26_X9 f15 rfl rfl ?_
      refine g_iload_n 10 dX9_readNames_9 rfl rfl ?_
      refine g_iconst (v := iZ (0)) 11 dX9_readNames_10 rfl rfl ?_
      have f16 := (s14.get (by decide) (s11.get (by decide) (s8.get (by decide) (s4.get (by decide) F.2.2.2.2.2.2.1))))
      refine g_iastZ (f1 := upd (fun _ => 0) 12 (iZ 0)) 12 dX9_readNames_11 f16 (by decide) (by decide) (by decide) rfl rfl (fun h17 s18 f19 => ?_)
      refine g_iconst (v := iZ (0)) 13 dX9_readNames_12 rfl rfl ?_
      refine g_istore_n (L1 := [some (.ref 50), some (.int (iZ i)), some (.int (iZ 12)), some (.int (iZ 0)), none, none, none]) 14 dX9_readNames_13 (by decide) rfl rfl rfl ?_
      have f20 := (s18.get (by decide) f15)
      have f21 := (s18.get (by decide) (s14.get (by decide) (s11.get (by decide) (s8.get (by decide) (s4.get (by decide) F.2.2.2.2.2.2.2.2.2.2.2.1)))))
      refine lp9_rn rfl 26 _ _ _ (by decide) (by decide) f20 f21 ?_
      intro h22 s23
      refine g_aload_n 35 dX9_readNames_34 rfl rfl ?_
      have f24 := (s23.get (by decide) f20)
      refine g_callV (z := mX9_next) (As := []) 38 dX9_readNames_35 mwX9_next ⟨by decide, by decide⟩ rfl wlX9_147 wiX9_next wsX9_next f24 rfl rfl rfl (nle rfl) (nle rfl) rfl ?_
      refine Go.to [some (.ref 50), none] [] rfl rfl ?_
      refine g_aload_n 1 dX9_next_0 rfl rfl ?_
      refine g_aload_n 2 dX9_next_1 rfl rfl ?_
      refine g_get 5 dX9_next_2 faX9_88_X9 f24 rfl rfl ?_
      refine g_putC (fs1 := [.long (0), .ref 51, .int (iZ 0), .ref 52, .ref 53, .int (iZ 0), .ref 54, .ref 55, .ref 56, .ref 57, .ref 58, .ref 59, .ref 60, .int (iZ (200 * i)), .int (iZ 0), .int (iZ 0), .int (iZ (-9)), .int (iZ 0), .int (iZ 0), .int (iZ 0), .int (iZ 0), .ref 61, .ref 62, .ref 63, .ref 64, .int (iZ 0), .int (iZ 0), .int (iZ 0), .int (iZ 0), .int (iZ 0), .int (iZ 0), .int (iZ 0), .ref 65, .ref 66, .ref 67, .int (iZ 0), .ref 68, .ref 69, .ref 70]) 8 dX9_next_5 fpX9_131_X9 f24 (nle rfl) (vI _) rfl rfl (fun h25 s26 f27 => ?_)
      refine g_aload_n 9 dX9_next_8 rfl rfl ?_
      refine g_callV (z := mX9_pass) (As := []) 12 dX9_next_9 mwX9_pass ⟨by decide, by decide⟩ rfl wlX9_108 wiX9_pass wsX9_pass f27 rfl rfl rfl (nle rfl) (nle rfl) rfl ?_
      refine Go.to [some (.ref 50), none, none] [] rfl rfl ?_
      refine g_iconst (v := iZ (1)) 1 dX9_pass_0 rfl rfl ?_
      refine g_istore_n (L1 := [some (.ref 50), some (.int (iZ 1)), none]) 2 dX9_pass_1 (by decide) rfl rfl rfl ?_
      refine g_iload_n 3 dX9_pass_2 rfl rfl ?_
      refine g_ifZ_eq 85 6 dX9_pass_3 rfl rfl (by decide) (fun q => absurd q (by decide)) (fun _ => ?_)
      refine g_aload_n 7 dX9_pass_6 rfl rfl ?_
      refine g_callV (z := mX9_here) (As := []) 10 dX9_pass_7 mwX9_here ⟨by decide, by decide⟩ rfl wlX9_100 wiX9_here wsX9_here f27 rfl rfl rfl (nle rfl) (nle rfl) rfl ?_
      refine Go.to [some (.ref 50)] [] rfl rfl ?_
      refine g_aload_n 1 dX9_here_0 rfl rfl ?_
      refine g_get 4 dX9_here_1 faX9_88_X9 f27 rfl rfl ?_
      refine g_aload_n 5 dX9_here_4 rfl rfl ?_
      refine g_get 8 dX9_here_5 faX9_91_X9 f27 rfl rfl ?_
      refine g_icZ_ge 32 11 dX9_here_8 rfl rfl (by decide) (by decide) (fun _ => ?_) (fun q => absurd q (by decide))
      refine g_iconst (v := iZ (-1)) 33 dX9_here_32 rfl rfl ?_
      refine g_iret rfl dX9_here_33 ?_
      refine rI ?_
      refine g_istore_n (L1 := [some (.ref 50), some (.int (iZ 1)), some (.int (iZ (-1)))]) 11 dX9_pass_10 (by decide) rfl rfl rfl ?_
      refine g_iload_n 12 dX9_pass_11 rfl rfl ?_
      refine g_bipush (v := iZ (35)) 14 dX9_pass_12 (by decide +kernel) rfl ?_
      refine g_icZ_ne 46 17 dX9_pass_14 rfl rfl (by decide) (by decide) (fun _ => ?_) (fun q => absurd q (by decide))
      refine g_iload_n 47 dX9_pass_46 rfl rfl ?_
      refine g_bipush (v := iZ (32)) 49 dX9_pass_47 (by decide +kernel) rfl ?_
      refine g_icZ_eq 58 52 dX9_pass_49 rfl rfl (by decide) (by decide) (fun q => absurd q (by decide)) (fun _ => ?_)
      refine g_iload_n 53 dX9_pass_52 rfl rfl ?_
      refine g_bipush (v := iZ (10)) 55 dX9_pass_53 (by decide +kernel) rfl ?_
      refine g_icZ_ne 62 58 dX9_pass_55 rfl rfl (by decide) (by decide) (fun _ => ?_) (fun q => absurd q (by decide))
      refine g_iconst (v := iZ (0)) 63 dX9_pass_62 rfl rfl ?_
      refine g_istore_n (L1 := [some (.ref 50), some (.int (iZ 0)), some (.int (iZ (-1)))]) 64 dX9_pass_63 (by decide) rfl rfl rfl ?_
      refine g_aload_n 65 dX9_pass_64 rfl rfl ?_
      refine g_dup 66 dX9_pass_65 rfl rfl ?_
      refine g_get 69 dX9_pass_66 faX9_88_X9 f27 rfl rfl ?_
      refine g_iload_n 70 dX9_pass_69 rfl rfl ?_
      refine g_ifZ_eq 77 73 dX9_pass_70 rfl rfl (by decide) (fun _ => ?_) (fun q => absurd q (by decide))
      refine g_iconst (v := iZ (0)) 78 dX9_pass_77 rfl rfl ?_
      refine g_iaddZ (0) 79 dX9_pass_78 (by decide) rfl ?_
      refine g_putC (fs1 := [.long (0), .ref 51, .int (iZ 0), .ref 52, .ref 53, .int (iZ 0), .ref 54, .ref 55, .ref 56, .ref 57, .ref 58, .ref 59, .ref 60, .int (iZ (200 * i)), .int (iZ 0), .int (iZ 0), .int (iZ (-9)), .int (iZ 0), .int (iZ 0), .int (iZ 0), .int (iZ 0), .ref 61, .ref 62, .ref 63, .ref 64, .int (iZ 0), .int (iZ 0), .int (iZ 0), .int (iZ 0), .int (iZ 0), .int (iZ 0), .int (iZ 0), .ref 65, .ref 66, .ref 67, .int (iZ 0), .ref 68, .ref 69, .ref 70]) 82 dX9_pass_79 fpX9_88_X9 f27 (nle rfl) (vI _) rfl rfl (fun h28 s29 f30 => ?_)
      refine g_goto 2 dX9_pass_82 rfl ?_
      refine g_iload_n 3 dX9_pass_2 rfl rfl ?_
      refine g_ifZ_eq 85 6 dX9_pass_3 rfl rfl (by decide) (fun _ => ?_) (fun q => absurd q (by decide))
      refine g_vret rfl dX9_pass_85 ?_
      refine rV ?_
      refine g_aload_n 13 dX9_next_12 rfl rfl ?_
      refine g_aload_n 14 dX9_next_13 rfl rfl ?_
      refine g_get 17 dX9_next_14 faX9_88_X9 f30 rfl rfl ?_
      refine g_putC (fs1 := [.long (0), .ref 51, .int (iZ 0), .ref 52, .ref 53, .int (iZ 0), .ref 54, .ref 55, .ref 56, .ref 57, .ref 58, .ref 59, .ref 60, .int (iZ (200 * i)), .int (iZ 0), .int (iZ 0), .int (iZ (-9)), .int (iZ 0), .int (iZ 0), .int (iZ 0), .int (iZ 0), .ref 61, .ref 62, .ref 63, .ref 64, .int (iZ 0), .int (iZ 0), .int (iZ 0), .int (iZ 0), .int (iZ 0), .int (iZ 0), .int (iZ 0), .ref 65, .ref 66, .ref 67, .int (iZ 0), .ref 68, .ref 69, .ref 70]) 20 dX9_next_17 fpX9_134_X9 f30 (nle rfl) (vI _) rfl rfl (fun h31 s32 f33 => ?_)
      refine g_aload_n 21 dX9_next_20 rfl rfl ?_
      refine g_iconst (v := iZ (0)) 22 dX9_next_21 rfl rfl ?_
      refine g_putC (fs1 := [.long (0), .ref 51, .int (iZ 0), .ref 52, .ref 53, .int (iZ 0), .ref 54, .ref 55, .ref 56, .ref 57, .ref 58, .ref 59, .ref 60, .int (iZ (200 * i)), .int (iZ 0), .int (iZ 0), .int (iZ (-9)), .int (iZ 0), .int (iZ 0), .int (iZ 0), .int (iZ 0), .ref 61, .ref 62, .ref 63, .ref 64, .int (iZ 0), .int (iZ 0), .int (iZ 0), .int (iZ 0), .int (iZ 0), .int (iZ 0), .int (iZ 0), .ref 65, .ref 66, .ref 67, .int (iZ 0), .ref 68, .ref 69, .ref 70]) 25 dX9_next_22 fpX9_137_X9 f33 (nle rfl) (vI _) rfl rfl (fun h34 s35 f36 => ?_)
      refine g_aload_n 26 dX9_next_25 rfl rfl ?_
      refine g_callV (z := mX9_here) (As := []) 29 dX9_next_26 mwX9_here ⟨by decide, by decide⟩ rfl wlX9_100 wiX9_here wsX9_here f36 rfl rfl rfl (nle rfl) (nle rfl) rfl ?_
      refine Go.to [some (.ref 50)] [] rfl rfl ?_
      refine g_aload_n 1 dX9_here_0 rfl rfl ?_
      refine g_get 4 dX9_here_1 faX9_88_X9 f36 rfl rfl ?_
      refine g_aload_n 5 dX9_here_4 rfl rfl ?_
      refine g_get 8 dX9_here_5 faX9_91_X9 f36 rfl rfl ?_
      refine g_icZ_ge 32 11 dX9_here_8 rfl rfl (by decide) (by decide) (fun _ => ?_) (fun q => absurd q (by decide))
      refine g_iconst (v := iZ (-1)) 33 dX9_here_32 rfl rfl ?_
      refine g_iret rfl dX9_here_33 ?_
      refine rI ?_
      refine g_istore_n (L1 := [some (.ref 50), some (.int (iZ (-1)))]) 30 dX9_next_29 (by decide) rfl rfl rfl ?_
      refine g_iload_n 31 dX9_next_30 rfl rfl ?_
      refine g_ifZ_ge 42 34 dX9_next_31 rfl rfl (by decide) (fun q => absurd q (by decide)) (fun _ => ?_)
      refine g_aload_n 35 dX9_next_34 rfl rfl ?_
      refine g_iconst (v := iZ (0)) 36 dX9_next_35 rfl rfl ?_
      refine g_putC (fs1 := [.long (0), .ref 51, .int (iZ 0), .ref 52, .ref 53, .int (iZ 0), .ref 54, .ref 55, .ref 56, .ref 57, .ref 58, .ref 59, .ref 60, .int (iZ (200 * i)), .int (iZ 0), .int (iZ 0), .int (iZ (-9)), .int (iZ 0), .int (iZ 0), .int (iZ 0), .int (iZ 0), .ref 61, .ref 62, .ref 63, .ref 64, .int (iZ 0), .int (iZ 0), .int (iZ 0), .int (iZ 0), .int (iZ 0), .int (iZ 0), .int (iZ 0), .ref 65, .ref 66, .ref 67, .int (iZ 0), .ref 68, .ref 69, .ref 70]) 39 dX9_next_36 fpX9_140_X9 f36 (nle rfl) (vI _) rfl rfl (fun h37 s38 f39 => ?_)
      refine g_goto 280 dX9_next_39 rfl ?_
      refine g_vret rfl dX9_next_280 ?_
      refine rV ?_
      refine g_aload_n 39 dX9_readNames_38 rfl rfl ?_
      refine g_get 42 dX9_readNames_39 faX9_97_X9 f39 rfl rfl ?_
      refine g_bipush (v := iZ (-9)) 44 dX9_readNames_42 (by decide +kernel) rfl ?_
      refine g_icZ_ne 287 47 dX9_readNames_44 rfl rfl (by decide) (by decide) (fun q => absurd q (by decide)) (fun _ => ?_)
      refine g_aload_n 48 dX9_readNames_47 rfl rfl ?_
      refine g_get 51 dX9_readNames_48 faX9_140_X9 f39 rfl rfl ?_
      refine g_ifZ_eq 287 54 dX9_readNames_51 rfl rfl (by decide) (fun _ => ?_) (fun q => absurd q (by decide))
      refine g_aload_n 288 dX9_readNames_287 rfl rfl ?_
      refine g_get 291 dX9_readNames_288 faX9_97_X9 f39 rfl rfl ?_
      refine g_bipush (v := iZ (-9)) 293 dX9_readNames_291 (by decide +kernel) rfl ?_
      refine g_icZ_ne 305 296 dX9_readNames_293 rfl rfl (by decide) (by decide) (fun q => absurd q (by decide)) (fun _ => ?_)
      refine g_aload_n 297 dX9_readNames_296 rfl rfl ?_
      refine g_get 300 dX9_readNames_297 faX9_26_X9 f39 rfl rfl ?_
      refine g_iload_n 301 dX9_readNames_300 rfl rfl ?_
      have f40 := (s38.get (by decide) (s35.get (by decide) (s32.get (by decide) (s29.get (by decide) (s26.get (by decide) (s23.get (by decide) f19))))))
      refine g_ialdZ 302 dX9_readNames_301 f40 (by decide) (by decide) (by decide) pk_us rfl ?_
      refine g_ifZ_ne 326 305 dX9_readNames_302 rfl rfl (by decide) (fun q => absurd q (by decide)) (fun _ => ?_)
      refine g_aload_n 306 dX9_readNames_305 rfl rfl ?_
      refine g_get 309 dX9_readNames_306 faX9_97_X9 f39 rfl rfl ?_
      refine g_bipush (v := iZ (-9)) 311 dX9_readNames_309 (by decide +kernel) rfl ?_
      refine g_icZ_eq 321 314 dX9_readNames_311 rfl rfl (by decide) (by decide) (fun _ => ?_) (fun q => absurd q (by decide))
      refine g_aload_n 322 dX9_readNames_321 rfl rfl ?_
      refine g_get 325 dX9_readNames_322 faX9_91_X9 f39 rfl rfl ?_
      refine g_iret rfl dX9_readNames_325 ?_
      refine rI ?_
      refine g_istore_n (L1 := [some (.ref 50), some (.int (iZ i)), some (.int (iZ 1)), some (.int (iZ 0))]) 31 dX9_make_30 (by decide) rfl rfl rfl ?_
      refine g_iload_n 32 dX9_make_31 rfl rfl ?_
      refine g_bipush (v := iZ (-9)) 34 dX9_make_32 (by decide +kernel) rfl ?_
      refine g_icZ_eq 42 37 dX9_make_34 rfl rfl (by decide) (by decide) (fun q => absurd q (by decide)) (fun _ => ?_)
      refine g_bipush (v := iZ (-10)) 39 dX9_make_37 (by decide +kernel) rfl ?_
      refine g_iload_n 40 dX9_make_39 rfl rfl ?_
      refine g_isubZ (-10) 41 dX9_make_40 (by decide) rfl ?_
      refine g_iret rfl dX9_make_41 ?_
      refine rI ?_
      refine g_iret rfl dX9_named_6 ?_
      exact kq _ _ (by unfold a_ix10; split <;> omega) (((((((((((s4.X (by decide)).tr (s8.X (by decide))).tr (s11.X (by decide))).tr (s14.X (by decide))).tr (s18.X (by decide))).tr (s23.X (by decide))).tr (s26.X (by decide))).tr (s29.X (by decide))).tr (s32.X (by decide))).tr (s35.X (by decide))).tr (s38.X (by decide)))
set_option maxRecDepth 100000 in
theorem q9_build {l : Launch} {h : MH} (F : FM h) (t : Int) (i : Int) (rt : rg t) (ri : rg i) {Q : Option Value → MH → Prop} (kq : ∀ (h1 : MH) (r : Int), r = -1 → Sx 1000 h h1 → Q (some (.int (iZ r))) h1) : Go l mX9_build 0 [some (.ref 50), some (.int (iZ t)), some (.int (iZ i))] [] h Q := by
  refine g_aload_n 1 dX9_build_0 rfl rfl ?_
  refine g_iload_n 2 dX9_build_1 rfl rfl ?_
  refine g_callV (z := mX9_isTool) (As := [.int (iZ t)]) 5 dX9_build_2 mwX9_isTool ⟨by decide, by decide⟩ rfl wlX9_178 wiX9_isTool wsX9_isTool F.1 rfl rfl rfl (nle rfl) (nle rfl) rfl ?_
  refine Go.to [some (.ref 50), some (.int (iZ t))] [] rfl rfl ?_
  refine g_iload_n 1 dX9_isTool_0 rfl rfl ?_
  refine g_iconst (v := iZ (0)) 2 dX9_isTool_1 rfl rfl ?_
  refine g_aload_n 3 dX9_isTool_2 rfl rfl ?_
  refine g_get 6 dX9_isTool_3 faX9_85_X9 F.1 rfl rfl ?_
  refine g_iconst (v := iZ (1)) 7 dX9_isTool_6 rfl rfl ?_
  refine g_isubZ (-1) 8 dX9_isTool_7 (by decide) rfl ?_
  refine g_callS (z := mX9_in) (As := [.int (iZ t), .int (iZ 0), .int (iZ (-1))]) 11 dX9_isTool_8 mwX9_in ⟨by decide, by decide⟩ rfl wlX9_75 wtX9_in rfl (nle rfl) (nle rfl) rfl ?_
  refine Go.to [some (.int (iZ t)), some (.int (iZ 0)), some (.int (iZ (-1)))] [] rfl rfl ?_
  refine g_iload_n 1 dX9_in_0 rfl rfl ?_
  refine g_iload_n 2 dX9_in_1 rfl rfl ?_
  refine g_icZ_lt 14 5 dX9_in_2 rfl rfl rt (by decide) (fun c1 => ?_) (fun c1 => ?_)
  · refine g_iconst (v := iZ (0)) 15 dX9_in_14 rfl rfl ?_
    refine g_zret rfl z01_0 dX9_in_15 ?_
    refine rI ?_
    refine g_zret rfl z01_0 dX9_isTool_11 ?_
    refine rI ?_
    refine g_ifZ_eq 15 8 dX9_build_5 rfl rfl (by decide) (fun _ => ?_) (fun q => absurd q (by decide))
    refine g_iconst (v := iZ (-1)) 16 dX9_build_15 rfl rfl ?_
    refine g_iret rfl dX9_build_16 ?_
    exact kq _ _ rfl (Sx.refl _ _)
  · refine g_iload_n 6 dX9_in_5 rfl rfl ?_
    refine g_iload_n 7 dX9_in_6 rfl rfl ?_
    refine g_icZ_gt 14 10 dX9_in_7 rfl rfl rt (by decide) (fun _ => ?_) (fun q => absurd q (by omega))
    refine g_iconst (v := iZ (0)) 15 dX9_in_14 rfl rfl ?_
    refine g_zret rfl z01_0 dX9_in_15 ?_
    refine rI ?_
    refine g_zret rfl z01_0 dX9_isTool_11 ?_
    refine rI ?_
    refine g_ifZ_eq 15 8 dX9_build_5 rfl rfl (by decide) (fun _ => ?_) (fun q => absurd q (by decide))
    refine g_iconst (v := iZ (-1)) 16 dX9_build_15 rfl rfl ?_
    refine g_iret rfl dX9_build_16 ?_
    exact kq _ _ rfl (Sx.refl _ _)
set_option maxRecDepth 100000 in
theorem q9_tool {l : Launch} {h : MH} (F : FM h) (t : Int) (w : Int) (rt : rg t) (rw : rg w) {Q : Option Value → MH → Prop} (kq : ∀ (h1 : MH) (r : Int), r = -1 → Sx 1000 h h1 → Q (some (.int (iZ r))) h1) : Go l mX9_tool 0 [some (.ref 50), some (.int (iZ t)), some (.int (iZ w))] [] h Q := by
  refine g_aload_n 1 dX9_tool_0 rfl rfl ?_
  refine g_iload_n 2 dX9_tool_1 rfl rfl ?_
  refine g_callV (z := mX9_isTool) (As := [.int (iZ t)]) 5 dX9_tool_2 mwX9_isTool ⟨by decide, by decide⟩ rfl wlX9_178 wiX9_isTool wsX9_isTool F.1 rfl rfl rfl (nle rfl) (nle rfl) rfl ?_
  refine Go.to [some (.ref 50), some (.int (iZ t))] [] rfl rfl ?_
  refine g_iload_n 1 dX9_isTool_0 rfl rfl ?_
  refine g_iconst (v := iZ (0)) 2 dX9_isTool_1 rfl rfl ?_
  refine g_aload_n 3 dX9_isTool_2 rfl rfl ?_
  refine g_get 6 dX9_isTool_3 faX9_85_X9 F.1 rfl rfl ?_
  refine g_iconst (v := iZ (1)) 7 dX9_isTool_6 rfl rfl ?_
  refine g_isubZ (-1) 8 dX9_isTool_7 (by decide) rfl ?_
  refine g_callS (z := mX9_in) (As := [.int (iZ t), .int (iZ 0), .int (iZ (-1))]) 11 dX9_isTool_8 mwX9_in ⟨by decide, by decide⟩ rfl wlX9_75 wtX9_in rfl (nle rfl) (nle rfl) rfl ?_
  refine Go.to [some (.int (iZ t)), some (.int (iZ 0)), some (.int (iZ (-1)))] [] rfl rfl ?_
  refine g_iload_n 1 dX9_in_0 rfl rfl ?_
  refine g_iload_n 2 dX9_in_1 rfl rfl ?_
  refine g_icZ_lt 14 5 dX9_in_2 rfl rfl rt (by decide) (fun c1 => ?_) (fun c1 => ?_)
  · refine g_iconst (v := iZ (0)) 15 dX9_in_14 rfl rfl ?_
    refine g_zret rfl z01_0 dX9_in_15 ?_
    refine rI ?_
    refine g_zret rfl z01_0 dX9_isTool_11 ?_
    refine rI ?_
    refine g_ifZ_ne 10 8 dX9_tool_5 rfl rfl (by decide) (fun q => absurd q (by decide)) (fun _ => ?_)
    refine g_iconst (v := iZ (-1)) 9 dX9_tool_8 rfl rfl ?_
    refine g_iret rfl dX9_tool_9 ?_
    exact kq _ _ rfl (Sx.refl _ _)
  · refine g_iload_n 6 dX9_in_5 rfl rfl ?_
    refine g_iload_n 7 dX9_in_6 rfl rfl ?_
    refine g_icZ_gt 14 10 dX9_in_7 rfl rfl rt (by decide) (fun _ => ?_) (fun q => absurd q (by omega))
    refine g_iconst (v := iZ (0)) 15 dX9_in_14 rfl rfl ?_
    refine g_zret rfl z01_0 dX9_in_15 ?_
    refine rI ?_
    refine g_zret rfl z01_0 dX9_isTool_11 ?_
    refine rI ?_
    refine g_ifZ_ne 10 8 dX9_tool_5 rfl rfl (by decide) (fun q => absurd q (by decide)) (fun _ => ?_)
    refine g_iconst (v := iZ (-1)) 9 dX9_tool_8 rfl rfl ?_
    refine g_iret rfl dX9_tool_9 ?_
    exact kq _ _ rfl (Sx.refl _ _)
set_option maxRecDepth 100000 in
theorem q9_code {l : Launch} {h : MH} (F : FM h) (t : Int) (a : Int) (w : Int) (rt : rg t) (ra : rg a) (rw : rg w) {Q : Option Value → MH → Prop} (kq : ∀ (h1 : MH) (r : Int), r = -1 → Sx 1000 h h1 → Q (some (.int (iZ r))) h1) : Go l mX9_code 0 [some (.ref 50), some (.int (iZ t)), some (.int (iZ a)), some (.int (iZ w))] [] h Q := by
  refine g_aload_n 1 dX9_code_0 rfl rfl ?_
  refine g_iload_n 2 dX9_code_1 rfl rfl ?_
  refine g_callV (z := mX9_isTool) (As := [.int (iZ t)]) 5 dX9_code_2 mwX9_isTool ⟨by decide, by decide⟩ rfl wlX9_178 wiX9_isTool wsX9_isTool F.1 rfl rfl rfl (nle rfl) (nle rfl) rfl ?_
  refine Go.to [some (.ref 50), some (.int (iZ t))] [] rfl rfl ?_
  refine g_iload_n 1 dX9_isTool_0 rfl rfl ?_
  refine g_iconst (v := iZ (0)) 2 dX9_isTool_1 rfl rfl ?_
  refine g_aload_n 3 dX9_isTool_2 rfl rfl ?_
  refine g_get 6 dX9_isTool_3 faX9_85_X9 F.1 rfl rfl ?_
  refine g_iconst (v := iZ (1)) 7 dX9_isTool_6 rfl rfl ?_
  refine g_isubZ (-1) 8 dX9_isTool_7 (by decide) rfl ?_
  refine g_callS (z := mX9_in) (As := [.int (iZ t), .int (iZ 0), .int (iZ (-1))]) 11 dX9_isTool_8 mwX9_in ⟨by decide, by decide⟩ rfl wlX9_75 wtX9_in rfl (nle rfl) (nle rfl) rfl ?_
  refine Go.to [some (.int (iZ t)), some (.int (iZ 0)), some (.int (iZ (-1)))] [] rfl rfl ?_
  refine g_iload_n 1 dX9_in_0 rfl rfl ?_
  refine g_iload_n 2 dX9_in_1 rfl rfl ?_
  refine g_icZ_lt 14 5 dX9_in_2 rfl rfl rt (by decide) (fun c1 => ?_) (fun c1 => ?_)
  · refine g_iconst (v := iZ (0)) 15 dX9_in_14 rfl rfl ?_
    refine g_zret rfl z01_0 dX9_in_15 ?_
    refine rI ?_
    refine g_zret rfl z01_0 dX9_isTool_11 ?_
    refine rI ?_
    refine g_ifZ_eq 33 8 dX9_code_5 rfl rfl (by decide) (fun _ => ?_) (fun q => absurd q (by decide))
    refine g_iconst (v := iZ (-1)) 34 dX9_code_33 rfl rfl ?_
    refine g_iret rfl dX9_code_34 ?_
    exact kq _ _ rfl (Sx.refl _ _)
  · refine g_iload_n 6 dX9_in_5 rfl rfl ?_
    refine g_iload_n 7 dX9_in_6 rfl rfl ?_
    refine g_icZ_gt 14 10 dX9_in_7 rfl rfl rt (by decide) (fun _ => ?_) (fun q => absurd q (by omega))
    refine g_iconst (v := iZ (0)) 15 dX9_in_14 rfl rfl ?_
    refine g_zret rfl z01_0 dX9_in_15 ?_
    refine rI ?_
    refine g_zret rfl z01_0 dX9_isTool_11 ?_
    refine rI ?_
    refine g_ifZ_eq 33 8 dX9_code_5 rfl rfl (by decide) (fun _ => ?_) (fun q => absurd q (by decide))
    refine g_iconst (v := iZ (-1)) 34 dX9_code_33 rfl rfl ?_
    refine g_iret rfl dX9_code_34 ?_
    exact kq _ _ rfl (Sx.refl _ _)
set_option maxRecDepth 100000 in
theorem q9_run {l : Launch} {h : MH} (F : FM h) (t : Int) (i : Int) (rt : rg t) (ri : rg i) {Q : Option Value → MH → Prop} (kq : ∀ (h1 : MH) (r : Int), r = -1 → Sx 1000 h h1 → Q (some (.int (iZ r))) h1) : Go l mX9_run 0 [some (.ref 50), some (.int (iZ t)), some (.int (iZ i)), none, none] [] h Q := by
  refine g_aload_n 1 dX9_run_0 rfl rfl ?_
  refine g_iload_n 2 dX9_run_1 rfl rfl ?_
  refine g_callV (z := mX9_isTool) (As := [.int (iZ t)]) 5 dX9_run_2 mwX9_isTool ⟨by decide, by decide⟩ rfl wlX9_178 wiX9_isTool wsX9_isTool F.1 rfl rfl rfl (nle rfl) (nle rfl) rfl ?_
  refine Go.to [some (.ref 50), some (.int (iZ t))] [] rfl rfl ?_
  refine g_iload_n 1 dX9_isTool_0 rfl rfl ?_
  refine g_iconst (v := iZ (0)) 2 dX9_isTool_1 rfl rfl ?_
  refine g_aload_n 3 dX9_isTool_2 rfl rfl ?_
  refine g_get 6 dX9_isTool_3 faX9_85_X9 F.1 rfl rfl ?_
  refine g_iconst (v := iZ (1)) 7 dX9_isTool_6 rfl rfl ?_
  refine g_isubZ (-1) 8 dX9_isTool_7 (by decide) rfl ?_
  refine g_callS (z := mX9_in) (As := [.int (iZ t), .int (iZ 0), .int (iZ (-1))]) 11 dX9_isTool_8 mwX9_in ⟨by decide, by decide⟩ rfl wlX9_75 wtX9_in rfl (nle rfl) (nle rfl) rfl ?_
  refine Go.to [some (.int (iZ t)), some (.int (iZ 0)), some (.int (iZ (-1)))] [] rfl rfl ?_
  refine g_iload_n 1 dX9_in_0 rfl rfl ?_
  refine g_iload_n 2 dX9_in_1 rfl rfl ?_
  refine g_icZ_lt 14 5 dX9_in_2 rfl rfl rt (by decide) (fun c1 => ?_) (fun c1 => ?_)
  · refine g_iconst (v := iZ (0)) 15 dX9_in_14 rfl rfl ?_
    refine g_zret rfl z01_0 dX9_in_15 ?_
    refine rI ?_
    refine g_zret rfl z01_0 dX9_isTool_11 ?_
    refine rI ?_
    refine g_ifZ_eq 15 8 dX9_run_5 rfl rfl (by decide) (fun _ => ?_) (fun q => absurd q (by decide))
    refine g_iconst (v := iZ (-1)) 16 dX9_run_15 rfl rfl ?_
    refine g_iret rfl dX9_run_16 ?_
    exact kq _ _ rfl (Sx.refl _ _)
  · refine g_iload_n 6 dX9_in_5 rfl rfl ?_
    refine g_iload_n 7 dX9_in_6 rfl rfl ?_
    refine g_icZ_gt 14 10 dX9_in_7 rfl rfl rt (by decide) (fun _ => ?_) (fun q => absurd q (by omega))
    refine g_iconst (v := iZ (0)) 15 dX9_in_14 rfl rfl ?_
    refine g_zret rfl z01_0 dX9_in_15 ?_
    refine rI ?_
    refine g_zret rfl z01_0 dX9_isTool_11 ?_
    refine rI ?_
    refine g_ifZ_eq 15 8 dX9_run_5 rfl rfl (by decide) (fun _ => ?_) (fun q => absurd q (by decide))
    refine g_iconst (v := iZ (-1)) 16 dX9_run_15 rfl rfl ?_
    refine g_iret rfl dX9_run_16 ?_
    exact kq _ _ rfl (Sx.refl _ _)
set_option maxRecDepth 100000 in
theorem q9_ran {l : Launch} {h : MH} (F : FM h) (w : Int) (rw : rg w) {Q : Option Value → MH → Prop} (kq : ∀ (h1 : MH) (r : Int), r = a_ran w → Sx 1000 h h1 → Q (some (.int (iZ r))) h1) : Go l mX9_ran 0 [some (.ref 50), some (.int (iZ w))] [] h Q := by
  refine g_iload_n 1 dX9_ran_0 rfl rfl ?_
  refine g_iconst (v := iZ (0)) 2 dX9_ran_1 rfl rfl ?_
  refine g_iconst (v := iZ (5)) 3 dX9_ran_2 rfl rfl ?_
  refine g_callS (z := mX9_in) (As := [.int (iZ w), .int (iZ 0), .int (iZ 5)]) 6 dX9_ran_3 mwX9_in ⟨by decide, by decide⟩ rfl wlX9_75 wtX9_in rfl (nle rfl) (nle rfl) rfl ?_
  refine Go.to [some (.int (iZ w)), some (.int (iZ 0)), some (.int (iZ 5))] [] rfl rfl ?_
  refine g_iload_n 1 dX9_in_0 rfl rfl ?_
  refine g_iload_n 2 dX9_in_1 rfl rfl ?_
  refine g_icZ_lt 14 5 dX9_in_2 rfl rfl rw (by decide) (fun c1 => ?_) (fun c1 => ?_)
  · refine g_iconst (v := iZ (0)) 15 dX9_in_14 rfl rfl ?_
    refine g_zret rfl z01_0 dX9_in_15 ?_
    refine rI ?_
    refine g_ifZ_eq 18 9 dX9_ran_6 rfl rfl (by decide) (fun _ => ?_) (fun q => absurd q (by decide))
    refine g_iconst (v := iZ (-1)) 19 dX9_ran_18 rfl rfl ?_
    refine g_iret rfl dX9_ran_19 ?_
    exact kq _ _ (by unfold a_ran; split <;> omega) (Sx.refl _ _)
  · refine g_iload_n 6 dX9_in_5 rfl rfl ?_
    refine g_iload_n 7 dX9_in_6 rfl rfl ?_
    refine g_icZ_gt 14 10 dX9_in_7 rfl rfl rw (by decide) (fun c2 => ?_) (fun c2 => ?_)
    · refine g_iconst (v := iZ (0)) 15 dX9_in_14 rfl rfl ?_
      refine g_zret rfl z01_0 dX9_in_15 ?_
      refine rI ?_
      refine g_ifZ_eq 18 9 dX9_ran_6 rfl rfl (by decide) (fun _ => ?_) (fun q => absurd q (by decide))
      refine g_iconst (v := iZ (-1)) 19 dX9_ran_18 rfl rfl ?_
      refine g_iret rfl dX9_ran_19 ?_
      exact kq _ _ (by unfold a_ran; split <;> omega) (Sx.refl _ _)
    · refine g_iconst (v := iZ (1)) 11 dX9_in_10 rfl rfl ?_
      refine g_goto 15 dX9_in_11 rfl ?_
      refine g_zret rfl z01_1 dX9_in_15 ?_
      refine rI ?_
      refine g_ifZ_eq 18 9 dX9_ran_6 rfl rfl (by decide) (fun q => absurd q (by decide)) (fun _ => ?_)
      refine g_aload_n 10 dX9_ran_9 rfl rfl ?_
      refine g_get 13 dX9_ran_10 faX9_53_X9 F.1 rfl rfl ?_
      refine g_iload_n 14 dX9_ran_13 rfl rfl ?_
      refine g_ialdZ 15 dX9_ran_14 F.2.2.2.2.2.2.2.2.2.2.2.2.2.2.2.1 (by omega) (by omega) (by decide) iZ_0 rfl ?_
      refine g_goto 19 dX9_ran_15 rfl ?_
      refine g_iret rfl dX9_ran_19 ?_
      exact kq _ _ (by unfold a_ran; split <;> omega) (Sx.refl _ _)
set_option maxRecDepth 100000 in
theorem q9_tape {l : Launch} {h : MH} (F : FM h) (a : Int) (w : Int) (ra : rg a) (rw : rg w) {Q : Option Value → MH → Prop} (kq : ∀ (h1 : MH) (r : Int), r = a_tape a w → Sx 1000 h h1 → Q (some (.int (iZ r))) h1) : Go l mX9_tape 0 [some (.ref 50), some (.int (iZ a)), some (.int (iZ w))] [] h Q := by
  refine g_iload_n 1 dX9_tape_0 rfl rfl ?_
  refine g_iconst (v := iZ (0)) 2 dX9_tape_1 rfl rfl ?_
  refine g_iconst (v := iZ (1)) 3 dX9_tape_2 rfl rfl ?_
  refine g_callS (z := mX9_in) (As := [.int (iZ w), .int (iZ 0), .int (iZ 1)]) 6 dX9_tape_3 mwX9_in ⟨by decide, by decide⟩ rfl wlX9_75 wtX9_in rfl (nle rfl) (nle rfl) rfl ?_
  refine Go.to [some (.int (iZ w)), some (.int (iZ 0)), some (.int (iZ 1))] [] rfl rfl ?_
  refine g_iload_n 1 dX9_in_0 rfl rfl ?_
  refine g_iload_n 2 dX9_in_1 rfl rfl ?_
  refine g_icZ_lt 14 5 dX9_in_2 rfl rfl rw (by decide) (fun c1 => ?_) (fun c1 => ?_)
  · refine g_iconst (v := iZ (0)) 15 dX9_in_14 rfl rfl ?_
    refine g_zret rfl z01_0 dX9_in_15 ?_
    refine rI ?_
    refine g_ifZ_eq 35 9 dX9_tape_6 rfl rfl (by decide) (fun _ => ?_) (fun q => absurd q (by decide))
    refine g_iconst (v := iZ (-1)) 36 dX9_tape_35 rfl rfl ?_
    refine g_iret rfl dX9_tape_36 ?_
    exact kq _ _ (by unfold a_tape; split <;> omega) (Sx.refl _ _)
  · refine g_iload_n 6 dX9_in_5 rfl rfl ?_
    refine g_iload_n 7 dX9_in_6 rfl rfl ?_
    refine g_icZ_gt 14 10 dX9_in_7 rfl rfl rw (by decide) (fun c2 => ?_) (fun c2 => ?_)
    · refine g_iconst (v := iZ (0)) 15 dX9_in_14 rfl rfl ?_
      refine g_zret rfl z01_0 dX9_in_15 ?_
      refine rI ?_
      refine g_ifZ_eq 35 9 dX9_tape_6 rfl rfl (by decide) (fun _ => ?_) (fun q => absurd q (by decide))
      refine g_iconst (v := iZ (-1)) 36 dX9_tape_35 rfl rfl ?_
      refine g_iret rfl dX9_tape_36 ?_
      exact kq _ _ (by unfold a_tape; split <;> omega) (Sx.refl _ _)
    · refine g_iconst (v := iZ (1)) 11 dX9_in_10 rfl rfl ?_
      refine g_goto 15 dX9_in_11 rfl ?_
      refine g_zret rfl z01_1 dX9_in_15 ?_
      refine rI ?_
      refine g_ifZ_eq 35 9 dX9_tape_6 rfl rfl (by decide) (fun q => absurd q (by decide)) (fun _ => ?_)
      refine g_iload_n 10 dX9_tape_9 rfl rfl ?_
      refine g_iconst (v := iZ (0)) 11 dX9_tape_10 rfl rfl ?_
      refine g_iload_n 12 dX9_tape_11 rfl rfl ?_
      refine g_ifZ_ne 26 15 dX9_tape_12 rfl rfl rw (fun c3 => ?_) (fun c3 => ?_)
      · refine g_sipush (v := iZ (255)) 29 dX9_tape_26 (by decide +kernel) rfl ?_
        refine g_callS (z := mX9_in) (As := [.int (iZ a), .int (iZ 0), .int (iZ 255)]) 32 dX9_tape_29 mwX9_in ⟨by decide, by decide⟩ rfl wlX9_75 wtX9_in rfl (nle rfl) (nle rfl) rfl ?_
        refine Go.to [some (.int (iZ a)), some (.int (iZ 0)), some (.int (iZ 255))] [] rfl rfl ?_
        refine g_iload_n 1 dX9_in_0 rfl rfl ?_
        refine g_iload_n 2 dX9_in_1 rfl rfl ?_
        refine g_icZ_lt 14 5 dX9_in_2 rfl rfl ra (by decide) (fun c4 => ?_) (fun c4 => ?_)
        · refine g_iconst (v := iZ (0)) 15 dX9_in_14 rfl rfl ?_
          refine g_zret rfl z01_0 dX9_in_15 ?_
          refine rI ?_
          refine g_ifZ_ne 37 35 dX9_tape_32 rfl rfl (by decide) (fun q => absurd q (by decide)) (fun _ => ?_)
          refine g_iconst (v := iZ (-1)) 36 dX9_tape_35 rfl rfl ?_
          refine g_iret rfl dX9_tape_36 ?_
          exact kq _ _ (by unfold a_tape; split <;> omega) (Sx.refl _ _)
        · refine g_iload_n 6 dX9_in_5 rfl rfl ?_
          refine g_iload_n 7 dX9_in_6 rfl rfl ?_
          refine g_icZ_gt 14 10 dX9_in_7 rfl rfl ra (by decide) (fun c5 => ?_) (fun c5 => ?_)
          · refine g_iconst (v := iZ (0)) 15 dX9_in_14 rfl rfl ?_
            refine g_zret rfl z01_0 dX9_in_15 ?_
            refine rI ?_
            refine g_ifZ_ne 37 35 dX9_tape_32 rfl rfl (by decide) (fun q => absurd q (by decide)) (fun _ => ?_)
            refine g_iconst (v := iZ (-1)) 36 dX9_tape_35 rfl rfl ?_
            refine g_iret rfl dX9_tape_36 ?_
            exact kq _ _ (by unfold a_tape; split <;> omega) (Sx.refl _ _)
          · refine g_iconst (v := iZ (1)) 11 dX9_in_10 rfl rfl ?_
            refine g_goto 15 dX9_in_11 rfl ?_
            refine g_zret rfl z01_1 dX9_in_15 ?_
            refine rI ?_
            refine g_ifZ_ne 37 35 dX9_tape_32 rfl rfl (by decide) (fun _ => ?_) (fun q => absurd q (by decide))
            refine g_iload_n 38 dX9_tape_37 rfl rfl ?_
            refine g_ifZ_ne 50 41 dX9_tape_38 rfl rfl rw (fun c6 => ?_) (fun c6 => ?_)
            · refine g_aload_n 51 dX9_tape_50 rfl rfl ?_
              refine g_get 54 dX9_tape_51 faX9_59_X9 F.1 rfl rfl ?_
              refine g_iload_n 55 dX9_tape_54 rfl rfl ?_
              refine g_ialdZ 56 dX9_tape_55 F.2.2.2.2.2.2.2.2.2.2.2.2.2.2.2.2.2.1 (by omega) (by omega) (by decide) iZ_0 rfl ?_
              refine g_iret rfl dX9_tape_56 ?_
              exact kq _ _ (by unfold a_tape; split <;> omega) (Sx.refl _ _)
            · refine g_aload_n 42 dX9_tape_41 rfl rfl ?_
              refine g_get 45 dX9_tape_42 faX9_56_X9 F.1 rfl rfl ?_
              refine g_iload_n 46 dX9_tape_45 rfl rfl ?_
              refine g_ialdZ 47 dX9_tape_46 F.2.2.2.2.2.2.2.2.2.2.2.2.2.2.2.2.1 (by omega) (by omega) (by decide) iZ_0 rfl ?_
              refine g_goto 56 dX9_tape_47 rfl ?_
              refine g_iret rfl dX9_tape_56 ?_
              exact kq _ _ (by unfold a_tape; split <;> omega) (Sx.refl _ _)
      · refine g_aload_n 16 dX9_tape_15 rfl rfl ?_
        refine g_get 19 dX9_tape_16 faX9_53_X9 F.1 rfl rfl ?_
        refine g_iconst (v := iZ (5)) 20 dX9_tape_19 rfl rfl ?_
        refine g_ialdZ 21 dX9_tape_20 F.2.2.2.2.2.2.2.2.2.2.2.2.2.2.2.1 (by decide) (by decide) (by decide) iZ_0 rfl ?_
        refine g_iconst (v := iZ (1)) 22 dX9_tape_21 rfl rfl ?_
        refine g_isubZ (-1) 23 dX9_tape_22 (by decide) rfl ?_
        refine g_goto 29 dX9_tape_23 rfl ?_
        refine g_callS (z := mX9_in) (As := [.int (iZ a), .int (iZ 0), .int (iZ (-1))]) 32 dX9_tape_29 mwX9_in ⟨by decide, by decide⟩ rfl wlX9_75 wtX9_in rfl (nle rfl) (nle rfl) rfl ?_
        refine Go.to [some (.int (iZ a)), some (.int (iZ 0)), some (.int (iZ (-1)))] [] rfl rfl ?_
        refine g_iload_n 1 dX9_in_0 rfl rfl ?_
        refine g_iload_n 2 dX9_in_1 rfl rfl ?_
        refine g_icZ_lt 14 5 dX9_in_2 rfl rfl ra (by decide) (fun c7 => ?_) (fun c7 => ?_)
        · refine g_iconst (v := iZ (0)) 15 dX9_in_14 rfl rfl ?_
          refine g_zret rfl z01_0 dX9_in_15 ?_
          refine rI ?_
          refine g_ifZ_ne 37 35 dX9_tape_32 rfl rfl (by decide) (fun q => absurd q (by decide)) (fun _ => ?_)
          refine g_iconst (v := iZ (-1)) 36 dX9_tape_35 rfl rfl ?_
          refine g_iret rfl dX9_tape_36 ?_
          exact kq _ _ (by unfold a_tape; split <;> omega) (Sx.refl _ _)
        · refine g_iload_n 6 dX9_in_5 rfl rfl ?_
          refine g_iload_n 7 dX9_in_6 rfl rfl ?_
          refine g_icZ_gt 14 10 dX9_in_7 rfl rfl ra (by decide) (fun _ => ?_) (fun q => absurd q (by omega))
          refine g_iconst (v := iZ (0)) 15 dX9_in_14 rfl rfl ?_
          refine g_zret rfl z01_0 dX9_in_15 ?_
          refine rI ?_
          refine g_ifZ_ne 37 35 dX9_tape_32 rfl rfl (by decide) (fun q => absurd q (by decide)) (fun _ => ?_)
          refine g_iconst (v := iZ (-1)) 36 dX9_tape_35 rfl rfl ?_
          refine g_iret rfl dX9_tape_36 ?_
          exact kq _ _ (by unfold a_tape; split <;> omega) (Sx.refl _ _)
set_option maxRecDepth 100000 in
theorem q9_rebuilt {l : Launch} {h : MH} (F : FM h) (t : Int) (rt : rg t) {Q : Option Value → MH → Prop} (kq : ∀ (h1 : MH) (r : Int), r = -1 → Sx 1000 h h1 → Q (some (.int (iZ r))) h1) : Go l mX9_rebuilt 0 [some (.ref 50), some (.int (iZ t))] [] h Q := by
  refine g_aload_n 1 dX9_rebuilt_0 rfl rfl ?_
  refine g_iload_n 2 dX9_rebuilt_1 rfl rfl ?_
  refine g_callV (z := mX9_isTool) (As := [.int (iZ t)]) 5 dX9_rebuilt_2 mwX9_isTool ⟨by decide, by decide⟩ rfl wlX9_178 wiX9_isTool wsX9_isTool F.1 rfl rfl rfl (nle rfl) (nle rfl) rfl ?_
  refine Go.to [some (.ref 50), some (.int (iZ t))] [] rfl rfl ?_
  refine g_iload_n 1 dX9_isTool_0 rfl rfl ?_
  refine g_iconst (v := iZ (0)) 2 dX9_isTool_1 rfl rfl ?_
  refine g_aload_n 3 dX9_isTool_2 rfl rfl ?_
  refine g_get 6 dX9_isTool_3 faX9_85_X9 F.1 rfl rfl ?_
  refine g_iconst (v := iZ (1)) 7 dX9_isTool_6 rfl rfl ?_
  refine g_isubZ (-1) 8 dX9_isTool_7 (by decide) rfl ?_
  refine g_callS (z := mX9_in) (As := [.int (iZ t), .int (iZ 0), .int (iZ (-1))]) 11 dX9_isTool_8 mwX9_in ⟨by decide, by decide⟩ rfl wlX9_75 wtX9_in rfl (nle rfl) (nle rfl) rfl ?_
  refine Go.to [some (.int (iZ t)), some (.int (iZ 0)), some (.int (iZ (-1)))] [] rfl rfl ?_
  refine g_iload_n 1 dX9_in_0 rfl rfl ?_
  refine g_iload_n 2 dX9_in_1 rfl rfl ?_
  refine g_icZ_lt 14 5 dX9_in_2 rfl rfl rt (by decide) (fun c1 => ?_) (fun c1 => ?_)
  · refine g_iconst (v := iZ (0)) 15 dX9_in_14 rfl rfl ?_
    refine g_zret rfl z01_0 dX9_in_15 ?_
    refine rI ?_
    refine g_zret rfl z01_0 dX9_isTool_11 ?_
    refine rI ?_
    refine g_ifZ_eq 16 8 dX9_rebuilt_5 rfl rfl (by decide) (fun _ => ?_) (fun q => absurd q (by decide))
    refine g_iconst (v := iZ (-1)) 17 dX9_rebuilt_16 rfl rfl ?_
    refine g_iret rfl dX9_rebuilt_17 ?_
    exact kq _ _ rfl (Sx.refl _ _)
  · refine g_iload_n 6 dX9_in_5 rfl rfl ?_
    refine g_iload_n 7 dX9_in_6 rfl rfl ?_
    refine g_icZ_gt 14 10 dX9_in_7 rfl rfl rt (by decide) (fun _ => ?_) (fun q => absurd q (by omega))
    refine g_iconst (v := iZ (0)) 15 dX9_in_14 rfl rfl ?_
    refine g_zret rfl z01_0 dX9_in_15 ?_
    refine rI ?_
    refine g_zret rfl z01_0 dX9_isTool_11 ?_
    refine rI ?_
    refine g_ifZ_eq 16 8 dX9_rebuilt_5 rfl rfl (by decide) (fun _ => ?_) (fun q => absurd q (by decide))
    refine g_iconst (v := iZ (-1)) 17 dX9_rebuilt_16 rfl rfl ?_
    refine g_iret rfl dX9_rebuilt_17 ?_
    exact kq _ _ rfl (Sx.refl _ _)
set_option maxRecDepth 100000 in
theorem q9_stale {l : Launch} {h : MH} (F : FM h)  {Q : Option Value → MH → Prop} (kq : ∀ (h1 : MH) (r : Int), r = 0 → Sx 1000 h h1 → Q (some (.int (iZ r))) h1) : Go l mX9_stale 0 [some (.ref 50), none, none, none] [] h Q := by
  refine g_iconst (v := iZ (0)) 1 dX9_stale_0 rfl rfl ?_
  refine g_istore_n (L1 := [some (.ref 50), some (.int (iZ 0)), none, none]) 2 dX9_stale_1 (by decide) rfl rfl rfl ?_
  refine g_iconst (v := iZ (0)) 3 dX9_stale_2 rfl rfl ?_
  refine g_istore_n (L1 := [some (.ref 50), some (.int (iZ 0)), some (.int (iZ 0)), none]) 4 dX9_stale_3 (by decide) rfl rfl rfl ?_
  refine g_iload_n 5 dX9_stale_4 rfl rfl ?_
  refine g_aload_n 6 dX9_stale_5 rfl rfl ?_
  refine g_get 9 dX9_stale_6 faX9_85_X9 F.1 rfl rfl ?_
  refine g_icZ_ge 71 12 dX9_stale_9 rfl rfl (by decide) (by decide) (fun _ => ?_) (fun q => absurd q (by decide))
  refine g_iload_n 72 dX9_stale_71 rfl rfl ?_
  refine g_iret rfl dX9_stale_72 ?_
  exact kq _ _ rfl (Sx.refl _ _)
set_option maxRecDepth 100000 in
theorem q9_settles {l : Launch} {h : MH} (F : FM h) (t : Int) (i : Int) (rt : rg t) (ri : rg i) {Q : Option Value → MH → Prop} (kq : ∀ (h1 : MH) (r : Int), r = -1 → Sx 1000 h h1 → Q (some (.int (iZ r))) h1) : Go l mX9_settles 0 [some (.ref 50), some (.int (iZ t)), some (.int (iZ i)), none] [] h Q := by
  refine g_aload_n 1 dX9_settles_0 rfl rfl ?_
  refine g_iload_n 2 dX9_settles_1 rfl rfl ?_
  refine g_callV (z := mX9_isTool) (As := [.int (iZ t)]) 5 dX9_settles_2 mwX9_isTool ⟨by decide, by decide⟩ rfl wlX9_178 wiX9_isTool wsX9_isTool F.1 rfl rfl rfl (nle rfl) (nle rfl) rfl ?_
  refine Go.to [some (.ref 50), some (.int (iZ t))] [] rfl rfl ?_
  refine g_iload_n 1 dX9_isTool_0 rfl rfl ?_
  refine g_iconst (v := iZ (0)) 2 dX9_isTool_1 rfl rfl ?_
  refine g_aload_n 3 dX9_isTool_2 rfl rfl ?_
  refine g_get 6 dX9_isTool_3 faX9_85_X9 F.1 rfl rfl ?_
  refine g_iconst (v := iZ (1)) 7 dX9_isTool_6 rfl rfl ?_
  refine g_isubZ (-1) 8 dX9_isTool_7 (by decide) rfl ?_
  refine g_callS (z := mX9_in) (As := [.int (iZ t), .int (iZ 0), .int (iZ (-1))]) 11 dX9_isTool_8 mwX9_in ⟨by decide, by decide⟩ rfl wlX9_75 wtX9_in rfl (nle rfl) (nle rfl) rfl ?_
  refine Go.to [some (.int (iZ t)), some (.int (iZ 0)), some (.int (iZ (-1)))] [] rfl rfl ?_
  refine g_iload_n 1 dX9_in_0 rfl rfl ?_
  refine g_iload_n 2 dX9_in_1 rfl rfl ?_
  refine g_icZ_lt 14 5 dX9_in_2 rfl rfl rt (by decide) (fun c1 => ?_) (fun c1 => ?_)
  · refine g_iconst (v := iZ (0)) 15 dX9_in_14 rfl rfl ?_
    refine g_zret rfl z01_0 dX9_in_15 ?_
    refine rI ?_
    refine g_zret rfl z01_0 dX9_isTool_11 ?_
    refine rI ?_
    refine g_ifZ_eq 15 8 dX9_settles_5 rfl rfl (by decide) (fun _ => ?_) (fun q => absurd q (by decide))
    refine g_iconst (v := iZ (-1)) 16 dX9_settles_15 rfl rfl ?_
    refine g_iret rfl dX9_settles_16 ?_
    exact kq _ _ rfl (Sx.refl _ _)
  · refine g_iload_n 6 dX9_in_5 rfl rfl ?_
    refine g_iload_n 7 dX9_in_6 rfl rfl ?_
    refine g_icZ_gt 14 10 dX9_in_7 rfl rfl rt (by decide) (fun _ => ?_) (fun q => absurd q (by omega))
    refine g_iconst (v := iZ (0)) 15 dX9_in_14 rfl rfl ?_
    refine g_zret rfl z01_0 dX9_in_15 ?_
    refine rI ?_
    refine g_zret rfl z01_0 dX9_isTool_11 ?_
    refine rI ?_
    refine g_ifZ_eq 15 8 dX9_settles_5 rfl rfl (by decide) (fun _ => ?_) (fun q => absurd q (by decide))
    refine g_iconst (v := iZ (-1)) 16 dX9_settles_15 rfl rfl ?_
    refine g_iret rfl dX9_settles_16 ?_
    exact kq _ _ rfl (Sx.refl _ _)
set_option maxRecDepth 100000 in
theorem q9_round {l : Launch} {h : MH} (F : FM h) (a : Int) (b : Int) (i : Int) (ra : rg a) (rb : rg b) (ri : rg i) {Q : Option Value → MH → Prop} (kq : ∀ (h1 : MH) (r : Int), r = -1 → Sx 1000 h h1 → Q (some (.int (iZ r))) h1) : Go l mX9_round 0 [some (.ref 50), some (.int (iZ a)), some (.int (iZ b)), some (.int (iZ i))] [] h Q := by
  refine g_aload_n 1 dX9_round_0 rfl rfl ?_
  refine g_iload_n 2 dX9_round_1 rfl rfl ?_
  refine g_callV (z := mX9_isTool) (As := [.int (iZ a)]) 5 dX9_round_2 mwX9_isTool ⟨by decide, by decide⟩ rfl wlX9_178 wiX9_isTool wsX9_isTool F.1 rfl rfl rfl (nle rfl) (nle rfl) rfl ?_
  refine Go.to [some (.ref 50), some (.int (iZ a))] [] rfl rfl ?_
  refine g_iload_n 1 dX9_isTool_0 rfl rfl ?_
  refine g_iconst (v := iZ (0)) 2 dX9_isTool_1 rfl rfl ?_
  refine g_aload_n 3 dX9_isTool_2 rfl rfl ?_
  refine g_get 6 dX9_isTool_3 faX9_85_X9 F.1 rfl rfl ?_
  refine g_iconst (v := iZ (1)) 7 dX9_isTool_6 rfl rfl ?_
  refine g_isubZ (-1) 8 dX9_isTool_7 (by decide) rfl ?_
  refine g_callS (z := mX9_in) (As := [.int (iZ a), .int (iZ 0), .int (iZ (-1))]) 11 dX9_isTool_8 mwX9_in ⟨by decide, by decide⟩ rfl wlX9_75 wtX9_in rfl (nle rfl) (nle rfl) rfl ?_
  refine Go.to [some (.int (iZ a)), some (.int (iZ 0)), some (.int (iZ (-1)))] [] rfl rfl ?_
  refine g_iload_n 1 dX9_in_0 rfl rfl ?_
  refine g_iload_n 2 dX9_in_1 rfl rfl ?_
  refine g_icZ_lt 14 5 dX9_in_2 rfl rfl ra (by decide) (fun c1 => ?_) (fun c1 => ?_)
  · refine g_iconst (v := iZ (0)) 15 dX9_in_14 rfl rfl ?_
    refine g_zret rfl z01_0 dX9_in_15 ?_
    refine rI ?_
    refine g_zret rfl z01_0 dX9_isTool_11 ?_
    refine rI ?_
    refine g_ifZ_eq 33 8 dX9_round_5 rfl rfl (by decide) (fun _ => ?_) (fun q => absurd q (by decide))
    refine g_iconst (v := iZ (-1)) 34 dX9_round_33 rfl rfl ?_
    refine g_iret rfl dX9_round_34 ?_
    exact kq _ _ rfl (Sx.refl _ _)
  · refine g_iload_n 6 dX9_in_5 rfl rfl ?_
    refine g_iload_n 7 dX9_in_6 rfl rfl ?_
    refine g_icZ_gt 14 10 dX9_in_7 rfl rfl ra (by decide) (fun _ => ?_) (fun q => absurd q (by omega))
    refine g_iconst (v := iZ (0)) 15 dX9_in_14 rfl rfl ?_
    refine g_zret rfl z01_0 dX9_in_15 ?_
    refine rI ?_
    refine g_zret rfl z01_0 dX9_isTool_11 ?_
    refine rI ?_
    refine g_ifZ_eq 33 8 dX9_round_5 rfl rfl (by decide) (fun _ => ?_) (fun q => absurd q (by decide))
    refine g_iconst (v := iZ (-1)) 34 dX9_round_33 rfl rfl ?_
    refine g_iret rfl dX9_round_34 ?_
    exact kq _ _ rfl (Sx.refl _ _)
set_option maxRecDepth 100000 in
theorem q9_hides {l : Launch} {h : MH} (F : FM h) (a : Int) (b : Int) (i : Int) (ra : rg a) (rb : rg b) (ri : rg i) {Q : Option Value → MH → Prop} (kq : ∀ (h1 : MH) (r : Int), r = -1 → Sx 1000 h h1 → Q (some (.int (iZ r))) h1) : Go l mX9_hides 0 [some (.ref 50), some (.int (iZ a)), some (.int (iZ b)), some (.int (iZ i)), none] [] h Q := by
  refine g_aload_n 1 dX9_hides_0 rfl rfl ?_
  refine g_iload_n 2 dX9_hides_1 rfl rfl ?_
  refine g_callV (z := mX9_isTool) (As := [.int (iZ a)]) 5 dX9_hides_2 mwX9_isTool ⟨by decide, by decide⟩ rfl wlX9_178 wiX9_isTool wsX9_isTool F.1 rfl rfl rfl (nle rfl) (nle rfl) rfl ?_
  refine Go.to [some (.ref 50), some (.int (iZ a))] [] rfl rfl ?_
  refine g_iload_n 1 dX9_isTool_0 rfl rfl ?_
  refine g_iconst (v := iZ (0)) 2 dX9_isTool_1 rfl rfl ?_
  refine g_aload_n 3 dX9_isTool_2 rfl rfl ?_
  refine g_get 6 dX9_isTool_3 faX9_85_X9 F.1 rfl rfl ?_
  refine g_iconst (v := iZ (1)) 7 dX9_isTool_6 rfl rfl ?_
  refine g_isubZ (-1) 8 dX9_isTool_7 (by decide) rfl ?_
  refine g_callS (z := mX9_in) (As := [.int (iZ a), .int (iZ 0), .int (iZ (-1))]) 11 dX9_isTool_8 mwX9_in ⟨by decide, by decide⟩ rfl wlX9_75 wtX9_in rfl (nle rfl) (nle rfl) rfl ?_
  refine Go.to [some (.int (iZ a)), some (.int (iZ 0)), some (.int (iZ (-1)))] [] rfl rfl ?_
  refine g_iload_n 1 dX9_in_0 rfl rfl ?_
  refine g_iload_n 2 dX9_in_1 rfl rfl ?_
  refine g_icZ_lt 14 5 dX9_in_2 rfl rfl ra (by decide) (fun c1 => ?_) (fun c1 => ?_)
  · refine g_iconst (v := iZ (0)) 15 dX9_in_14 rfl rfl ?_
    refine g_zret rfl z01_0 dX9_in_15 ?_
    refine rI ?_
    refine g_zret rfl z01_0 dX9_isTool_11 ?_
    refine rI ?_
    refine g_ifZ_eq 23 8 dX9_hides_5 rfl rfl (by decide) (fun _ => ?_) (fun q => absurd q (by decide))
    refine g_iconst (v := iZ (-1)) 24 dX9_hides_23 rfl rfl ?_
    refine g_iret rfl dX9_hides_24 ?_
    exact kq _ _ rfl (Sx.refl _ _)
  · refine g_iload_n 6 dX9_in_5 rfl rfl ?_
    refine g_iload_n 7 dX9_in_6 rfl rfl ?_
    refine g_icZ_gt 14 10 dX9_in_7 rfl rfl ra (by decide) (fun _ => ?_) (fun q => absurd q (by omega))
    refine g_iconst (v := iZ (0)) 15 dX9_in_14 rfl rfl ?_
    refine g_zret rfl z01_0 dX9_in_15 ?_
    refine rI ?_
    refine g_zret rfl z01_0 dX9_isTool_11 ?_
    refine rI ?_
    refine g_ifZ_eq 23 8 dX9_hides_5 rfl rfl (by decide) (fun _ => ?_) (fun q => absurd q (by decide))
    refine g_iconst (v := iZ (-1)) 24 dX9_hides_23 rfl rfl ?_
    refine g_iret rfl dX9_hides_24 ?_
    exact kq _ _ rfl (Sx.refl _ _)
set_option maxRecDepth 100000 in
theorem q9_check {l : Launch} {h : MH} (F : FM h) (t : Int) (i : Int) (rt : rg t) (ri : rg i) {Q : Option Value → MH → Prop} (kq : ∀ (h1 : MH) (r : Int), r = -1 → Sx 1000 h h1 → Q (some (.int (iZ r))) h1) : Go l mX9_check 0 [some (.ref 50), some (.int (iZ t)), some (.int (iZ i)), none] [] h Q := by
  refine g_aload_n 1 dX9_check_0 rfl rfl ?_
  refine g_iload_n 2 dX9_check_1 rfl rfl ?_
  refine g_callV (z := mX9_isTool) (As := [.int (iZ t)]) 5 dX9_check_2 mwX9_isTool ⟨by decide, by decide⟩ rfl wlX9_178 wiX9_isTool wsX9_isTool F.1 rfl rfl rfl (nle rfl) (nle rfl) rfl ?_
  refine Go.to [some (.ref 50), some (.int (iZ t))] [] rfl rfl ?_
  refine g_iload_n 1 dX9_isTool_0 rfl rfl ?_
  refine g_iconst (v := iZ (0)) 2 dX9_isTool_1 rfl rfl ?_
  refine g_aload_n 3 dX9_isTool_2 rfl rfl ?_
  refine g_get 6 dX9_isTool_3 faX9_85_X9 F.1 rfl rfl ?_
  refine g_iconst (v := iZ (1)) 7 dX9_isTool_6 rfl rfl ?_
  refine g_isubZ (-1) 8 dX9_isTool_7 (by decide) rfl ?_
  refine g_callS (z := mX9_in) (As := [.int (iZ t), .int (iZ 0), .int (iZ (-1))]) 11 dX9_isTool_8 mwX9_in ⟨by decide, by decide⟩ rfl wlX9_75 wtX9_in rfl (nle rfl) (nle rfl) rfl ?_
  refine Go.to [some (.int (iZ t)), some (.int (iZ 0)), some (.int (iZ (-1)))] [] rfl rfl ?_
  refine g_iload_n 1 dX9_in_0 rfl rfl ?_
  refine g_iload_n 2 dX9_in_1 rfl rfl ?_
  refine g_icZ_lt 14 5 dX9_in_2 rfl rfl rt (by decide) (fun c1 => ?_) (fun c1 => ?_)
  · refine g_iconst (v := iZ (0)) 15 dX9_in_14 rfl rfl ?_
    refine g_zret rfl z01_0 dX9_in_15 ?_
    refine rI ?_
    refine g_zret rfl z01_0 dX9_isTool_11 ?_
    refine rI ?_
    refine g_ifZ_eq 17 8 dX9_check_5 rfl rfl (by decide) (fun _ => ?_) (fun q => absurd q (by decide))
    refine g_iconst (v := iZ (-1)) 18 dX9_check_17 rfl rfl ?_
    refine g_iret rfl dX9_check_18 ?_
    exact kq _ _ rfl (Sx.refl _ _)
  · refine g_iload_n 6 dX9_in_5 rfl rfl ?_
    refine g_iload_n 7 dX9_in_6 rfl rfl ?_
    refine g_icZ_gt 14 10 dX9_in_7 rfl rfl rt (by decide) (fun _ => ?_) (fun q => absurd q (by omega))
    refine g_iconst (v := iZ (0)) 15 dX9_in_14 rfl rfl ?_
    refine g_zret rfl z01_0 dX9_in_15 ?_
    refine rI ?_
    refine g_zret rfl z01_0 dX9_isTool_11 ?_
    refine rI ?_
    refine g_ifZ_eq 17 8 dX9_check_5 rfl rfl (by decide) (fun _ => ?_) (fun q => absurd q (by decide))
    refine g_iconst (v := iZ (-1)) 18 dX9_check_17 rfl rfl ?_
    refine g_iret rfl dX9_check_18 ?_
    exact kq _ _ rfl (Sx.refl _ _)
set_option maxRecDepth 100000 in
theorem q9_chain {l : Launch} {h : MH} (F : FM h) (t : Int) (k : Int) (rt : rg t) (rk : rg k) {Q : Option Value → MH → Prop} (kq : ∀ (h1 : MH) (r : Int), r = -1 → Sx 1000 h h1 → Q (some (.int (iZ r))) h1) : Go l mX9_chain 0 [some (.ref 50), some (.int (iZ t)), some (.int (iZ k)), none, none] [] h Q := by
  refine g_aload_n 1 dX9_chain_0 rfl rfl ?_
  refine g_iload_n 2 dX9_chain_1 rfl rfl ?_
  refine g_callV (z := mX9_isTool) (As := [.int (iZ t)]) 5 dX9_chain_2 mwX9_isTool ⟨by decide, by decide⟩ rfl wlX9_178 wiX9_isTool wsX9_isTool F.1 rfl rfl rfl (nle rfl) (nle rfl) rfl ?_
  refine Go.to [some (.ref 50), some (.int (iZ t))] [] rfl rfl ?_
  refine g_iload_n 1 dX9_isTool_0 rfl rfl ?_
  refine g_iconst (v := iZ (0)) 2 dX9_isTool_1 rfl rfl ?_
  refine g_aload_n 3 dX9_isTool_2 rfl rfl ?_
  refine g_get 6 dX9_isTool_3 faX9_85_X9 F.1 rfl rfl ?_
  refine g_iconst (v := iZ (1)) 7 dX9_isTool_6 rfl rfl ?_
  refine g_isubZ (-1) 8 dX9_isTool_7 (by decide) rfl ?_
  refine g_callS (z := mX9_in) (As := [.int (iZ t), .int (iZ 0), .int (iZ (-1))]) 11 dX9_isTool_8 mwX9_in ⟨by decide, by decide⟩ rfl wlX9_75 wtX9_in rfl (nle rfl) (nle rfl) rfl ?_
  refine Go.to [some (.int (iZ t)), some (.int (iZ 0)), some (.int (iZ (-1)))] [] rfl rfl ?_
  refine g_iload_n 1 dX9_in_0 rfl rfl ?_
  refine g_iload_n 2 dX9_in_1 rfl rfl ?_
  refine g_icZ_lt 14 5 dX9_in_2 rfl rfl rt (by decide) (fun c1 => ?_) (fun c1 => ?_)
  · refine g_iconst (v := iZ (0)) 15 dX9_in_14 rfl rfl ?_
    refine g_zret rfl z01_0 dX9_in_15 ?_
    refine rI ?_
    refine g_zret rfl z01_0 dX9_isTool_11 ?_
    refine rI ?_
    refine g_ifZ_eq 23 8 dX9_chain_5 rfl rfl (by decide) (fun _ => ?_) (fun q => absurd q (by decide))
    refine g_iconst (v := iZ (-1)) 24 dX9_chain_23 rfl rfl ?_
    refine g_iret rfl dX9_chain_24 ?_
    exact kq _ _ rfl (Sx.refl _ _)
  · refine g_iload_n 6 dX9_in_5 rfl rfl ?_
    refine g_iload_n 7 dX9_in_6 rfl rfl ?_
    refine g_icZ_gt 14 10 dX9_in_7 rfl rfl rt (by decide) (fun _ => ?_) (fun q => absurd q (by omega))
    refine g_iconst (v := iZ (0)) 15 dX9_in_14 rfl rfl ?_
    refine g_zret rfl z01_0 dX9_in_15 ?_
    refine rI ?_
    refine g_zret rfl z01_0 dX9_isTool_11 ?_
    refine rI ?_
    refine g_ifZ_eq 23 8 dX9_chain_5 rfl rfl (by decide) (fun _ => ?_) (fun q => absurd q (by decide))
    refine g_iconst (v := iZ (-1)) 24 dX9_chain_23 rfl rfl ?_
    refine g_iret rfl dX9_chain_24 ?_
    exact kq _ _ rfl (Sx.refl _ _)
set_option maxRecDepth 100000 in
theorem q9_sealed {l : Launch} {h : MH} (F : FM h) (t : Int) (rt : rg t) {Q : Option Value → MH → Prop} (kq : ∀ (h1 : MH) (r : Int), r = -1 → Sx 1000 h h1 → Q (some (.int (iZ r))) h1) : Go l mX9_sealed 0 [some (.ref 50), some (.int (iZ t))] [] h Q := by
  refine g_aload_n 1 dX9_sealed_0 rfl rfl ?_
  refine g_iload_n 2 dX9_sealed_1 rfl rfl ?_
  refine g_callV (z := mX9_isTool) (As := [.int (iZ t)]) 5 dX9_sealed_2 mwX9_isTool ⟨by decide, by decide⟩ rfl wlX9_178 wiX9_isTool wsX9_isTool F.1 rfl rfl rfl (nle rfl) (nle rfl) rfl ?_
  refine Go.to [some (.ref 50), some (.int (iZ t))] [] rfl rfl ?_
  refine g_iload_n 1 dX9_isTool_0 rfl rfl ?_
  refine g_iconst (v := iZ (0)) 2 dX9_isTool_1 rfl rfl ?_
  refine g_aload_n 3 dX9_isTool_2 rfl rfl ?_
  refine g_get 6 dX9_isTool_3 faX9_85_X9 F.1 rfl rfl ?_
  refine g_iconst (v := iZ (1)) 7 dX9_isTool_6 rfl rfl ?_
  refine g_isubZ (-1) 8 dX9_isTool_7 (by decide) rfl ?_
  refine g_callS (z := mX9_in) (As := [.int (iZ t), .int (iZ 0), .int (iZ (-1))]) 11 dX9_isTool_8 mwX9_in ⟨by decide, by decide⟩ rfl wlX9_75 wtX9_in rfl (nle rfl) (nle rfl) rfl ?_
  refine Go.to [some (.int (iZ t)), some (.int (iZ 0)), some (.int (iZ (-1)))] [] rfl rfl ?_
  refine g_iload_n 1 dX9_in_0 rfl rfl ?_
  refine g_iload_n 2 dX9_in_1 rfl rfl ?_
  refine g_icZ_lt 14 5 dX9_in_2 rfl rfl rt (by decide) (fun c1 => ?_) (fun c1 => ?_)
  · refine g_iconst (v := iZ (0)) 15 dX9_in_14 rfl rfl ?_
    refine g_zret rfl z01_0 dX9_in_15 ?_
    refine rI ?_
    refine g_zret rfl z01_0 dX9_isTool_11 ?_
    refine rI ?_
    refine g_ifZ_eq 19 8 dX9_sealed_5 rfl rfl (by decide) (fun _ => ?_) (fun q => absurd q (by decide))
    refine g_iconst (v := iZ (-1)) 20 dX9_sealed_19 rfl rfl ?_
    refine g_iret rfl dX9_sealed_20 ?_
    exact kq _ _ rfl (Sx.refl _ _)
  · refine g_iload_n 6 dX9_in_5 rfl rfl ?_
    refine g_iload_n 7 dX9_in_6 rfl rfl ?_
    refine g_icZ_gt 14 10 dX9_in_7 rfl rfl rt (by decide) (fun _ => ?_) (fun q => absurd q (by omega))
    refine g_iconst (v := iZ (0)) 15 dX9_in_14 rfl rfl ?_
    refine g_zret rfl z01_0 dX9_in_15 ?_
    refine rI ?_
    refine g_zret rfl z01_0 dX9_isTool_11 ?_
    refine rI ?_
    refine g_ifZ_eq 19 8 dX9_sealed_5 rfl rfl (by decide) (fun _ => ?_) (fun q => absurd q (by decide))
    refine g_iconst (v := iZ (-1)) 20 dX9_sealed_19 rfl rfl ?_
    refine g_iret rfl dX9_sealed_20 ?_
    exact kq _ _ rfl (Sx.refl _ _)
set_option maxRecDepth 100000 in
theorem q9_least {l : Launch} {h : MH} (F : FM h) (z : Int) (rz : rg z) {Q : Option Value → MH → Prop} (kq : ∀ (h1 : MH) (r : Int), r = a_least z → Sx 1000 h h1 → Q (some (.int (iZ r))) h1) : Go l mX9_least 0 [some (.ref 50), some (.int (iZ z)), none, none, none, none] [] h Q := by
  refine g_iload_n 1 dX9_least_0 rfl rfl ?_
  refine g_iconst (v := iZ (0)) 2 dX9_least_1 rfl rfl ?_
  refine g_iconst (v := iZ (1)) 3 dX9_least_2 rfl rfl ?_
  refine g_aload_n 4 dX9_least_3 rfl rfl ?_
  refine g_get 7 dX9_least_4 faX9_85_X9 F.1 rfl rfl ?_
  refine g_ishlZ (1) 8 dX9_least_7 (by decide +kernel) rfl ?_
  refine g_iconst (v := iZ (1)) 9 dX9_least_8 rfl rfl ?_
  refine g_isubZ (0) 10 dX9_least_9 (by decide) rfl ?_
  refine g_callS (z := mX9_in) (As := [.int (iZ z), .int (iZ 0), .int (iZ 0)]) 13 dX9_least_10 mwX9_in ⟨by decide, by decide⟩ rfl wlX9_75 wtX9_in rfl (nle rfl) (nle rfl) rfl ?_
  refine Go.to [some (.int (iZ z)), some (.int (iZ 0)), some (.int (iZ 0))] [] rfl rfl ?_
  refine g_iload_n 1 dX9_in_0 rfl rfl ?_
  refine g_iload_n 2 dX9_in_1 rfl rfl ?_
  refine g_icZ_lt 14 5 dX9_in_2 rfl rfl rz (by decide) (fun c1 => ?_) (fun c1 => ?_)
  · refine g_iconst (v := iZ (0)) 15 dX9_in_14 rfl rfl ?_
    refine g_zret rfl z01_0 dX9_in_15 ?_
    refine rI ?_
    refine g_ifZ_ne 18 16 dX9_least_13 rfl rfl (by decide) (fun q => absurd q (by decide)) (fun _ => ?_)
    refine g_iconst (v := iZ (-1)) 17 dX9_least_16 rfl rfl ?_
    refine g_iret rfl dX9_least_17 ?_
    exact kq _ _ (by unfold a_least; split <;> omega) (Sx.refl _ _)
  · refine g_iload_n 6 dX9_in_5 rfl rfl ?_
    refine g_iload_n 7 dX9_in_6 rfl rfl ?_
    refine g_icZ_gt 14 10 dX9_in_7 rfl rfl rz (by decide) (fun c2 => ?_) (fun c2 => ?_)
    · refine g_iconst (v := iZ (0)) 15 dX9_in_14 rfl rfl ?_
      refine g_zret rfl z01_0 dX9_in_15 ?_
      refine rI ?_
      refine g_ifZ_ne 18 16 dX9_least_13 rfl rfl (by decide) (fun q => absurd q (by decide)) (fun _ => ?_)
      refine g_iconst (v := iZ (-1)) 17 dX9_least_16 rfl rfl ?_
      refine g_iret rfl dX9_least_17 ?_
      exact kq _ _ (by unfold a_least; split <;> omega) (Sx.refl _ _)
    · refine g_iconst (v := iZ (1)) 11 dX9_in_10 rfl rfl ?_
      refine g_goto 15 dX9_in_11 rfl ?_
      refine g_zret rfl z01_1 dX9_in_15 ?_
      refine rI ?_
      refine g_ifZ_ne 18 16 dX9_least_13 rfl rfl (by decide) (fun _ => ?_) (fun q => absurd q (by decide))
      refine g_aload_n 19 dX9_least_18 rfl rfl ?_
      refine g_callV (z := mX9_stale) (As := []) 22 dX9_least_19 mwX9_stale ⟨by decide, by decide⟩ rfl wlX9_226 wiX9_stale wsX9_stale F.1 rfl rfl rfl (nle rfl) (nle rfl) rfl ?_
      refine Go.to [some (.ref 50), none, none, none] [] rfl rfl ?_
      refine g_iconst (v := iZ (0)) 1 dX9_stale_0 rfl rfl ?_
      refine g_istore_n (L1 := [some (.ref 50), some (.int (iZ 0)), none, none]) 2 dX9_stale_1 (by decide) rfl rfl rfl ?_
      refine g_iconst (v := iZ (0)) 3 dX9_stale_2 rfl rfl ?_
      refine g_istore_n (L1 := [some (.ref 50), some (.int (iZ 0)), some (.int (iZ 0)), none]) 4 dX9_stale_3 (by decide) rfl rfl rfl ?_
      refine g_iload_n 5 dX9_stale_4 rfl rfl ?_
      refine g_aload_n 6 dX9_stale_5 rfl rfl ?_
      refine g_get 9 dX9_stale_6 faX9_85_X9 F.1 rfl rfl ?_
      refine g_icZ_ge 71 12 dX9_stale_9 rfl rfl (by decide) (by decide) (fun _ => ?_) (fun q => absurd q (by decide))
      refine g_iload_n 72 dX9_stale_71 rfl rfl ?_
      refine g_iret rfl dX9_stale_72 ?_
      refine rI ?_
      refine g_istore_n (L1 := [some (.ref 50), some (.int (iZ z)), some (.int (iZ 0)), none, none, none]) 23 dX9_least_22 (by decide) rfl rfl rfl ?_
      refine g_iconst (v := iZ (0)) 24 dX9_least_23 rfl rfl ?_
      refine g_istore_n (L1 := [some (.ref 50), some (.int (iZ z)), some (.int (iZ 0)), some (.int (iZ 0)), none, none]) 25 dX9_least_24 (by decide) rfl rfl rfl ?_
      refine g_iconst (v := iZ (0)) 26 dX9_least_25 rfl rfl ?_
      refine g_istore (L1 := [some (.ref 50), some (.int (iZ z)), some (.int (iZ 0)), some (.int (iZ 0)), some (.int (iZ 0)), none]) 28 dX9_least_26 (by decide) rfl rfl rfl ?_
      refine g_iload 30 dX9_least_28 rfl rfl ?_
      refine g_aload_n 31 dX9_least_30 rfl rfl ?_
      refine g_get 34 dX9_least_31 faX9_85_X9 F.1 rfl rfl ?_
      refine g_icZ_ge 112 37 dX9_least_34 rfl rfl (by decide) (by decide) (fun _ => ?_) (fun q => absurd q (by decide))
      refine g_iload_n 113 dX9_least_112 rfl rfl ?_
      refine g_iret rfl dX9_least_113 ?_
      exact kq _ _ (by unfold a_least; split <;> omega) (Sx.refl _ _)
set_option maxRecDepth 100000 in
theorem q9_same {l : Launch} {h : MH} (F : FM h) (a : Int) (b : Int) (ra : rg a) (rb : rg b) {Q : Option Value → MH → Prop} (kq : ∀ (h1 : MH) (r : Int), r = -1 → Sx 1000 h h1 → Q (some (.int (iZ r))) h1) : Go l mX9_same 0 [some (.ref 50), some (.int (iZ a)), some (.int (iZ b))] [] h Q := by
  refine g_aload_n 1 dX9_same_0 rfl rfl ?_
  refine g_iload_n 2 dX9_same_1 rfl rfl ?_
  refine g_callV (z := mX9_isTool) (As := [.int (iZ a)]) 5 dX9_same_2 mwX9_isTool ⟨by decide, by decide⟩ rfl wlX9_178 wiX9_isTool wsX9_isTool F.1 rfl rfl rfl (nle rfl) (nle rfl) rfl ?_
  refine Go.to [some (.ref 50), some (.int (iZ a))] [] rfl rfl ?_
  refine g_iload_n 1 dX9_isTool_0 rfl rfl ?_
  refine g_iconst (v := iZ (0)) 2 dX9_isTool_1 rfl rfl ?_
  refine g_aload_n 3 dX9_isTool_2 rfl rfl ?_
  refine g_get 6 dX9_isTool_3 faX9_85_X9 F.1 rfl rfl ?_
  refine g_iconst (v := iZ (1)) 7 dX9_isTool_6 rfl rfl ?_
  refine g_isubZ (-1) 8 dX9_isTool_7 (by decide) rfl ?_
  refine g_callS (z := mX9_in) (As := [.int (iZ a), .int (iZ 0), .int (iZ (-1))]) 11 dX9_isTool_8 mwX9_in ⟨by decide, by decide⟩ rfl wlX9_75 wtX9_in rfl (nle rfl) (nle rfl) rfl ?_
  refine Go.to [some (.int (iZ a)), some (.int (iZ 0)), some (.int (iZ (-1)))] [] rfl rfl ?_
  refine g_iload_n 1 dX9_in_0 rfl rfl ?_
  refine g_iload_n 2 dX9_in_1 rfl rfl ?_
  refine g_icZ_lt 14 5 dX9_in_2 rfl rfl ra (by decide) (fun c1 => ?_) (fun c1 => ?_)
  · refine g_iconst (v := iZ (0)) 15 dX9_in_14 rfl rfl ?_
    refine g_zret rfl z01_0 dX9_in_15 ?_
    refine rI ?_
    refine g_zret rfl z01_0 dX9_isTool_11 ?_
    refine rI ?_
    refine g_ifZ_eq 25 8 dX9_same_5 rfl rfl (by decide) (fun _ => ?_) (fun q => absurd q (by decide))
    refine g_iconst (v := iZ (-1)) 26 dX9_same_25 rfl rfl ?_
    refine g_iret rfl dX9_same_26 ?_
    exact kq _ _ rfl (Sx.refl _ _)
  · refine g_iload_n 6 dX9_in_5 rfl rfl ?_
    refine g_iload_n 7 dX9_in_6 rfl rfl ?_
    refine g_icZ_gt 14 10 dX9_in_7 rfl rfl ra (by decide) (fun _ => ?_) (fun q => absurd q (by omega))
    refine g_iconst (v := iZ (0)) 15 dX9_in_14 rfl rfl ?_
    refine g_zret rfl z01_0 dX9_in_15 ?_
    refine rI ?_
    refine g_zret rfl z01_0 dX9_isTool_11 ?_
    refine rI ?_
    refine g_ifZ_eq 25 8 dX9_same_5 rfl rfl (by decide) (fun _ => ?_) (fun q => absurd q (by decide))
    refine g_iconst (v := iZ (-1)) 26 dX9_same_25 rfl rfl ?_
    refine g_iret rfl dX9_same_26 ?_
    exact kq _ _ rfl (Sx.refl _ _)
set_option maxRecDepth 100000 in
theorem q9_edition {l : Launch} {h : MH} (F : FM h) (u : Int) (k : Int) (ru : rg u) (rk : rg k) {Q : Option Value → MH → Prop} (kq : ∀ (h1 : MH) (r : Int), r = a_edition u k → Sx 1000 h h1 → Q (some (.int (iZ r))) h1) : Go l mX9_edition 0 [some (.ref 50), some (.int (iZ u)), some (.int (iZ k))] [] h Q := by
  refine g_iload_n 1 dX9_edition_0 rfl rfl ?_
  refine g_iconst (v := iZ (0)) 2 dX9_edition_1 rfl rfl ?_
  refine g_ldc (v := iZ (65535)) 4 dX9_edition_2 wnX9_235 rfl ?_
  refine g_callS (z := mX9_in) (As := [.int (iZ u), .int (iZ 0), .int (iZ 65535)]) 7 dX9_edition_4 mwX9_in ⟨by decide, by decide⟩ rfl wlX9_75 wtX9_in rfl (nle rfl) (nle rfl) rfl ?_
  refine Go.to [some (.int (iZ u)), some (.int (iZ 0)), some (.int (iZ 65535))] [] rfl rfl ?_
  refine g_iload_n 1 dX9_in_0 rfl rfl ?_
  refine g_iload_n 2 dX9_in_1 rfl rfl ?_
  refine g_icZ_lt 14 5 dX9_in_2 rfl rfl ru (by decide) (fun c1 => ?_) (fun c1 => ?_)
  · refine g_iconst (v := iZ (0)) 15 dX9_in_14 rfl rfl ?_
    refine g_zret rfl z01_0 dX9_in_15 ?_
    refine rI ?_
    refine g_ifZ_eq 20 10 dX9_edition_7 rfl rfl (by decide) (fun _ => ?_) (fun q => absurd q (by decide))
    refine g_iconst (v := iZ (-1)) 21 dX9_edition_20 rfl rfl ?_
    refine g_iret rfl dX9_edition_21 ?_
    exact kq _ _ (by unfold a_edition; split <;> omega) (Sx.refl _ _)
  · refine g_iload_n 6 dX9_in_5 rfl rfl ?_
    refine g_iload_n 7 dX9_in_6 rfl rfl ?_
    refine g_icZ_gt 14 10 dX9_in_7 rfl rfl ru (by decide) (fun c2 => ?_) (fun c2 => ?_)
    · refine g_iconst (v := iZ (0)) 15 dX9_in_14 rfl rfl ?_
      refine g_zret rfl z01_0 dX9_in_15 ?_
      refine rI ?_
      refine g_ifZ_eq 20 10 dX9_edition_7 rfl rfl (by decide) (fun _ => ?_) (fun q => absurd q (by decide))
      refine g_iconst (v := iZ (-1)) 21 dX9_edition_20 rfl rfl ?_
      refine g_iret rfl dX9_edition_21 ?_
      exact kq _ _ (by unfold a_edition; split <;> omega) (Sx.refl _ _)
    · refine g_iconst (v := iZ (1)) 11 dX9_in_10 rfl rfl ?_
      refine g_goto 15 dX9_in_11 rfl ?_
      refine g_zret rfl z01_1 dX9_in_15 ?_
      refine rI ?_
      refine g_ifZ_eq 20 10 dX9_edition_7 rfl rfl (by decide) (fun q => absurd q (by decide)) (fun _ => ?_)
      refine g_iload_n 11 dX9_edition_10 rfl rfl ?_
      refine g_iconst (v := iZ (0)) 12 dX9_edition_11 rfl rfl ?_
      refine g_ldc (v := iZ (65535)) 14 dX9_edition_12 wnX9_235 rfl ?_
      refine g_callS (z := mX9_in) (As := [.int (iZ k), .int (iZ 0), .int (iZ 65535)]) 17 dX9_edition_14 mwX9_in ⟨by decide, by decide⟩ rfl wlX9_75 wtX9_in rfl (nle rfl) (nle rfl) rfl ?_
      refine Go.to [some (.int (iZ k)), some (.int (iZ 0)), some (.int (iZ 65535))] [] rfl rfl ?_
      refine g_iload_n 1 dX9_in_0 rfl rfl ?_
      refine g_iload_n 2 dX9_in_1 rfl rfl ?_
      refine g_icZ_lt 14 5 dX9_in_2 rfl rfl rk (by decide) (fun c3 => ?_) (fun c3 => ?_)
      · refine g_iconst (v := iZ (0)) 15 dX9_in_14 rfl rfl ?_
        refine g_zret rfl z01_0 dX9_in_15 ?_
        refine rI ?_
        refine g_ifZ_ne 22 20 dX9_edition_17 rfl rfl (by decide) (fun q => absurd q (by decide)) (fun _ => ?_)
        refine g_iconst (v := iZ (-1)) 21 dX9_edition_20 rfl rfl ?_
        refine g_iret rfl dX9_edition_21 ?_
        exact kq _ _ (by unfold a_edition; split <;> omega) (Sx.refl _ _)
      · refine g_iload_n 6 dX9_in_5 rfl rfl ?_
        refine g_iload_n 7 dX9_in_6 rfl rfl ?_
        refine g_icZ_gt 14 10 dX9_in_7 rfl rfl rk (by decide) (fun c4 => ?_) (fun c4 => ?_)
        · refine g_iconst (v := iZ (0)) 15 dX9_in_14 rfl rfl ?_
          refine g_zret rfl z01_0 dX9_in_15 ?_
          refine rI ?_
          refine g_ifZ_ne 22 20 dX9_edition_17 rfl rfl (by decide) (fun q => absurd q (by decide)) (fun _ => ?_)
          refine g_iconst (v := iZ (-1)) 21 dX9_edition_20 rfl rfl ?_
          refine g_iret rfl dX9_edition_21 ?_
          exact kq _ _ (by unfold a_edition; split <;> omega) (Sx.refl _ _)
        · refine g_iconst (v := iZ (1)) 11 dX9_in_10 rfl rfl ?_
          refine g_goto 15 dX9_in_11 rfl ?_
          refine g_zret rfl z01_1 dX9_in_15 ?_
          refine rI ?_
          refine g_ifZ_ne 22 20 dX9_edition_17 rfl rfl (by decide) (fun _ => ?_) (fun q => absurd q (by decide))
          refine g_aload_n 23 dX9_edition_22 rfl rfl ?_
          refine g_get 26 dX9_edition_23 faX9_236_X9 F.1 rfl rfl ?_
          refine g_bipush (v := iZ (12)) 28 dX9_edition_26 (by decide +kernel) rfl ?_
          refine g_icZ_ne 34 31 dX9_edition_28 rfl rfl (by decide) (by decide) (fun _ => ?_) (fun q => absurd q (by decide))
          refine g_aload_n 35 dX9_edition_34 rfl rfl ?_
          refine g_get 38 dX9_edition_35 faX9_62_X9 F.1 rfl rfl ?_
          refine g_aload_n 39 dX9_edition_38 rfl rfl ?_
          refine g_get 42 dX9_edition_39 faX9_236_X9 F.1 rfl rfl ?_
          refine g_iload_n 43 dX9_edition_42 rfl rfl ?_
          refine g_iastZ (f1 := upd (fun _ => 0) 0 (iZ u)) 44 dX9_edition_43 F.2.2.2.2.2.2.2.2.2.2.2.2.2.2.2.2.2.2.1 (by decide) (by decide) (by decide) rfl rfl (fun h5 s6 f7 => ?_)
          refine g_aload_n 45 dX9_edition_44 rfl rfl ?_
          have f8 := (s6.get (by decide) F.1)
          refine g_get 48 dX9_edition_45 faX9_65_X9 f8 rfl rfl ?_
          refine g_aload_n 49 dX9_edition_48 rfl rfl ?_
          refine g_get 52 dX9_edition_49 faX9_236_X9 f8 rfl rfl ?_
          refine g_iload_n 53 dX9_edition_52 rfl rfl ?_
          have f9 := (s6.get (by decide) F.2.2.2.2.2.2.2.2.2.2.2.2.2.2.2.2.2.2.2.1)
          refine g_iastZ (f1 := upd (fun _ => 0) 0 (iZ k)) 54 dX9_edition_53 f9 (by decide) (by decide) (by decide) rfl rfl (fun h10 s11 f12 => ?_)
          refine g_aload_n 55 dX9_edition_54 rfl rfl ?_
          refine g_dup 56 dX9_edition_55 rfl rfl ?_
          have f13 := (s11.get (by decide) f8)
          refine g_get 59 dX9_edition_56 faX9_236_X9 f13 rfl rfl ?_
          refine g_iconst (v := iZ (1)) 60 dX9_edition_59 rfl rfl ?_
          refine g_iaddZ (1) 61 dX9_edition_60 (by decide) rfl ?_
          refine g_putC (fs1 := [.long (0), .ref 51, .int (iZ 0), .ref 52, .ref 53, .int (iZ 0), .ref 54, .ref 55, .ref 56, .ref 57, .ref 58, .ref 59, .ref 60, .int (iZ 0), .int (iZ 0), .int (iZ 0), .int (iZ 0), .int (iZ 0), .int (iZ 0), .int (iZ 0), .int (iZ 0), .ref 61, .ref 62, .ref 63, .ref 64, .int (iZ 0), .int (iZ 0), .int (iZ 0), .int (iZ 0), .int (iZ 0), .int (iZ 0), .int (iZ 0), .ref 65, .ref 66, .ref 67, .int (iZ 1), .ref 68, .ref 69, .ref 70]) 64 dX9_edition_61 fpX9_236_X9 f13 (nle rfl) (vI _) rfl rfl (fun h14 s15 f16 => ?_)
          refine g_aload_n 65 dX9_edition_64 rfl rfl ?_
          refine g_get 68 dX9_edition_65 faX9_236_X9 f16 rfl rfl ?_
          refine g_iconst (v := iZ (1)) 69 dX9_edition_68 rfl rfl ?_
          refine g_isubZ (0) 70 dX9_edition_69 (by decide) rfl ?_
          refine g_iret rfl dX9_edition_70 ?_
          exact kq _ _ (by unfold a_edition; split <;> omega) (((s6.X (by decide)).tr (s11.X (by decide))).tr (s15.X (by decide)))
set_option maxRecDepth 100000 in
theorem q9_ladder {l : Launch} {h : MH} (F : FM h) (a : Int) (b : Int) (k : Int) (ra : rg a) (rb : rg b) (rk : rg k) {Q : Option Value → MH → Prop} (kq : ∀ (h1 : MH) (r : Int), r = -1 → Sx 1000 h h1 → Q (some (.int (iZ r))) h1) : Go l mX9_ladder 0 [some (.ref 50), some (.int (iZ a)), some (.int (iZ b)), some (.int (iZ k)), none, none, none, none, none] [] h Q := by
  refine g_aload_n 1 dX9_ladder_0 rfl rfl ?_
  refine g_iload_n 2 dX9_ladder_1 rfl rfl ?_
  refine g_callV (z := mX9_isEdition) (As := [.int (iZ a)]) 5 dX9_ladder_2 mwX9_isEdition ⟨by decide, by decide⟩ rfl wlX9_239 wiX9_isEdition wsX9_isEdition F.1 rfl rfl rfl (nle rfl) (nle rfl) rfl ?_
  refine Go.to [some (.ref 50), some (.int (iZ a))] [] rfl rfl ?_
  refine g_iload_n 1 dX9_isEdition_0 rfl rfl ?_
  refine g_iconst (v := iZ (0)) 2 dX9_isEdition_1 rfl rfl ?_
  refine g_aload_n 3 dX9_isEdition_2 rfl rfl ?_
  refine g_get 6 dX9_isEdition_3 faX9_236_X9 F.1 rfl rfl ?_
  refine g_iconst (v := iZ (1)) 7 dX9_isEdition_6 rfl rfl ?_
  refine g_isubZ (-1) 8 dX9_isEdition_7 (by decide) rfl ?_
  refine g_callS (z := mX9_in) (As := [.int (iZ a), .int (iZ 0), .int (iZ (-1))]) 11 dX9_isEdition_8 mwX9_in ⟨by decide, by decide⟩ rfl wlX9_75 wtX9_in rfl (nle rfl) (nle rfl) rfl ?_
  refine Go.to [some (.int (iZ a)), some (.int (iZ 0)), some (.int (iZ (-1)))] [] rfl rfl ?_
  refine g_iload_n 1 dX9_in_0 rfl rfl ?_
  refine g_iload_n 2 dX9_in_1 rfl rfl ?_
  refine g_icZ_lt 14 5 dX9_in_2 rfl rfl ra (by decide) (fun c1 => ?_) (fun c1 => ?_)
  · refine g_iconst (v := iZ (0)) 15 dX9_in_14 rfl rfl ?_
    refine g_zret rfl z01_0 dX9_in_15 ?_
    refine rI ?_
    refine g_zret rfl z01_0 dX9_isEdition_11 ?_
    refine rI ?_
    refine g_ifZ_eq 21 8 dX9_ladder_5 rfl rfl (by decide) (fun _ => ?_) (fun q => absurd q (by decide))
    refine g_iconst (v := iZ (-1)) 22 dX9_ladder_21 rfl rfl ?_
    refine g_iret rfl dX9_ladder_22 ?_
    exact kq _ _ rfl (Sx.refl _ _)
  · refine g_iload_n 6 dX9_in_5 rfl rfl ?_
    refine g_iload_n 7 dX9_in_6 rfl rfl ?_
    refine g_icZ_gt 14 10 dX9_in_7 rfl rfl ra (by decide) (fun _ => ?_) (fun q => absurd q (by omega))
    refine g_iconst (v := iZ (0)) 15 dX9_in_14 rfl rfl ?_
    refine g_zret rfl z01_0 dX9_in_15 ?_
    refine rI ?_
    refine g_zret rfl z01_0 dX9_isEdition_11 ?_
    refine rI ?_
    refine g_ifZ_eq 21 8 dX9_ladder_5 rfl rfl (by decide) (fun _ => ?_) (fun q => absurd q (by decide))
    refine g_iconst (v := iZ (-1)) 22 dX9_ladder_21 rfl rfl ?_
    refine g_iret rfl dX9_ladder_22 ?_
    exact kq _ _ rfl (Sx.refl _ _)
set_option maxRecDepth 100000 in
theorem q9_needed {l : Launch} {h : MH} (F : FM h) (a : Int) (b : Int) (w : Int) (ra : rg a) (rb : rg b) (rw : rg w) {Q : Option Value → MH → Prop} (kq : ∀ (h1 : MH) (r : Int), r = -1 → Sx 1000 h h1 → Q (some (.int (iZ r))) h1) : Go l mX9_needed 0 [some (.ref 50), some (.int (iZ a)), some (.int (iZ b)), some (.int (iZ w)), none, none, none, none, none] [] h Q := by
  refine g_aload_n 1 dX9_needed_0 rfl rfl ?_
  refine g_iload_n 2 dX9_needed_1 rfl rfl ?_
  refine g_callV (z := mX9_isEdition) (As := [.int (iZ a)]) 5 dX9_needed_2 mwX9_isEdition ⟨by decide, by decide⟩ rfl wlX9_239 wiX9_isEdition wsX9_isEdition F.1 rfl rfl rfl (nle rfl) (nle rfl) rfl ?_
  refine Go.to [some (.ref 50), some (.int (iZ a))] [] rfl rfl ?_
  refine g_iload_n 1 dX9_isEdition_0 rfl rfl ?_
  refine g_iconst (v := iZ (0)) 2 dX9_isEdition_1 rfl rfl ?_
  refine g_aload_n 3 dX9_isEdition_2 rfl rfl ?_
  refine g_get 6 dX9_isEdition_3 faX9_236_X9 F.1 rfl rfl ?_
  refine g_iconst (v := iZ (1)) 7 dX9_isEdition_6 rfl rfl ?_
  refine g_isubZ (-1) 8 dX9_isEdition_7 (by decide) rfl ?_
  refine g_callS (z := mX9_in) (As := [.int (iZ a), .int (iZ 0), .int (iZ (-1))]) 11 dX9_isEdition_8 mwX9_in ⟨by decide, by decide⟩ rfl wlX9_75 wtX9_in rfl (nle rfl) (nle rfl) rfl ?_
  refine Go.to [some (.int (iZ a)), some (.int (iZ 0)), some (.int (iZ (-1)))] [] rfl rfl ?_
  refine g_iload_n 1 dX9_in_0 rfl rfl ?_
  refine g_iload_n 2 dX9_in_1 rfl rfl ?_
  refine g_icZ_lt 14 5 dX9_in_2 rfl rfl ra (by decide) (fun c1 => ?_) (fun c1 => ?_)
  · refine g_iconst (v := iZ (0)) 15 dX9_in_14 rfl rfl ?_
    refine g_zret rfl z01_0 dX9_in_15 ?_
    refine rI ?_
    refine g_zret rfl z01_0 dX9_isEdition_11 ?_
    refine rI ?_
    refine g_ifZ_eq 25 8 dX9_needed_5 rfl rfl (by decide) (fun _ => ?_) (fun q => absurd q (by decide))
    refine g_iconst (v := iZ (-1)) 26 dX9_needed_25 rfl rfl ?_
    refine g_iret rfl dX9_needed_26 ?_
    exact kq _ _ rfl (Sx.refl _ _)
  · refine g_iload_n 6 dX9_in_5 rfl rfl ?_
    refine g_iload_n 7 dX9_in_6 rfl rfl ?_
    refine g_icZ_gt 14 10 dX9_in_7 rfl rfl ra (by decide) (fun _ => ?_) (fun q => absurd q (by omega))
    refine g_iconst (v := iZ (0)) 15 dX9_in_14 rfl rfl ?_
    refine g_zret rfl z01_0 dX9_in_15 ?_
    refine rI ?_
    refine g_zret rfl z01_0 dX9_isEdition_11 ?_
    refine rI ?_
    refine g_ifZ_eq 25 8 dX9_needed_5 rfl rfl (by decide) (fun _ => ?_) (fun q => absurd q (by decide))
    refine g_iconst (v := iZ (-1)) 26 dX9_needed_25 rfl rfl ?_
    refine g_iret rfl dX9_needed_26 ?_
    exact kq _ _ rfl (Sx.refl _ _)
set_option maxRecDepth 100000 in
theorem q9_weight {l : Launch} {h : MH} (F : FM h) (k : Int) (t : Int) (rk : rg k) (rt : rg t) {Q : Option Value → MH → Prop} (kq : ∀ (h1 : MH) (r : Int), r = -1 → Sx 1000 h h1 → Q (some (.int (iZ r))) h1) : Go l mX9_weight 0 [some (.ref 50), some (.int (iZ k)), some (.int (iZ t)), none, none, none] [] h Q := by
  refine g_iload_n 1 dX9_weight_0 rfl rfl ?_
  refine g_iconst (v := iZ (0)) 2 dX9_weight_1 rfl rfl ?_
  refine g_iconst (v := iZ (5)) 3 dX9_weight_2 rfl rfl ?_
  refine g_callS (z := mX9_in) (As := [.int (iZ k), .int (iZ 0), .int (iZ 5)]) 6 dX9_weight_3 mwX9_in ⟨by decide, by decide⟩ rfl wlX9_75 wtX9_in rfl (nle rfl) (nle rfl) rfl ?_
  refine Go.to [some (.int (iZ k)), some (.int (iZ 0)), some (.int (iZ 5))] [] rfl rfl ?_
  refine g_iload_n 1 dX9_in_0 rfl rfl ?_
  refine g_iload_n 2 dX9_in_1 rfl rfl ?_
  refine g_icZ_lt 14 5 dX9_in_2 rfl rfl rk (by decide) (fun c1 => ?_) (fun c1 => ?_)
  · refine g_iconst (v := iZ (0)) 15 dX9_in_14 rfl rfl ?_
    refine g_zret rfl z01_0 dX9_in_15 ?_
    refine rI ?_
    refine g_ifZ_eq 17 9 dX9_weight_6 rfl rfl (by decide) (fun _ => ?_) (fun q => absurd q (by decide))
    refine g_iconst (v := iZ (-1)) 18 dX9_weight_17 rfl rfl ?_
    refine g_iret rfl dX9_weight_18 ?_
    exact kq _ _ rfl (Sx.refl _ _)
  · refine g_iload_n 6 dX9_in_5 rfl rfl ?_
    refine g_iload_n 7 dX9_in_6 rfl rfl ?_
    refine g_icZ_gt 14 10 dX9_in_7 rfl rfl rk (by decide) (fun c2 => ?_) (fun c2 => ?_)
    · refine g_iconst (v := iZ (0)) 15 dX9_in_14 rfl rfl ?_
      refine g_zret rfl z01_0 dX9_in_15 ?_
      refine rI ?_
      refine g_ifZ_eq 17 9 dX9_weight_6 rfl rfl (by decide) (fun _ => ?_) (fun q => absurd q (by decide))
      refine g_iconst (v := iZ (-1)) 18 dX9_weight_17 rfl rfl ?_
      refine g_iret rfl dX9_weight_18 ?_
      exact kq _ _ rfl (Sx.refl _ _)
    · refine g_iconst (v := iZ (1)) 11 dX9_in_10 rfl rfl ?_
      refine g_goto 15 dX9_in_11 rfl ?_
      refine g_zret rfl z01_1 dX9_in_15 ?_
      refine rI ?_
      refine g_ifZ_eq 17 9 dX9_weight_6 rfl rfl (by decide) (fun q => absurd q (by decide)) (fun _ => ?_)
      refine g_aload_n 10 dX9_weight_9 rfl rfl ?_
      refine g_iload_n 11 dX9_weight_10 rfl rfl ?_
      refine g_callV (z := mX9_isTool) (As := [.int (iZ t)]) 14 dX9_weight_11 mwX9_isTool ⟨by decide, by decide⟩ rfl wlX9_178 wiX9_isTool wsX9_isTool F.1 rfl rfl rfl (nle rfl) (nle rfl) rfl ?_
      refine Go.to [some (.ref 50), some (.int (iZ t))] [] rfl rfl ?_
      refine g_iload_n 1 dX9_isTool_0 rfl rfl ?_
      refine g_iconst (v := iZ (0)) 2 dX9_isTool_1 rfl rfl ?_
      refine g_aload_n 3 dX9_isTool_2 rfl rfl ?_
      refine g_get 6 dX9_isTool_3 faX9_85_X9 F.1 rfl rfl ?_
      refine g_iconst (v := iZ (1)) 7 dX9_isTool_6 rfl rfl ?_
      refine g_isubZ (-1) 8 dX9_isTool_7 (by decide) rfl ?_
      refine g_callS (z := mX9_in) (As := [.int (iZ t), .int (iZ 0), .int (iZ (-1))]) 11 dX9_isTool_8 mwX9_in ⟨by decide, by decide⟩ rfl wlX9_75 wtX9_in rfl (nle rfl) (nle rfl) rfl ?_
      refine Go.to [some (.int (iZ t)), some (.int (iZ 0)), some (.int (iZ (-1)))] [] rfl rfl ?_
      refine g_iload_n 1 dX9_in_0 rfl rfl ?_
      refine g_iload_n 2 dX9_in_1 rfl rfl ?_
      refine g_icZ_lt 14 5 dX9_in_2 rfl rfl rt (by decide) (fun c3 => ?_) (fun c3 => ?_)
      · refine g_iconst (v := iZ (0)) 15 dX9_in_14 rfl rfl ?_
        refine g_zret rfl z01_0 dX9_in_15 ?_
        refine rI ?_
        refine g_zret rfl z01_0 dX9_isTool_11 ?_
        refine rI ?_
        refine g_ifZ_ne 19 17 dX9_weight_14 rfl rfl (by decide) (fun q => absurd q (by decide)) (fun _ => ?_)
        refine g_iconst (v := iZ (-1)) 18 dX9_weight_17 rfl rfl ?_
        refine g_iret rfl dX9_weight_18 ?_
        exact kq _ _ rfl (Sx.refl _ _)
      · refine g_iload_n 6 dX9_in_5 rfl rfl ?_
        refine g_iload_n 7 dX9_in_6 rfl rfl ?_
        refine g_icZ_gt 14 10 dX9_in_7 rfl rfl rt (by decide) (fun _ => ?_) (fun q => absurd q (by omega))
        refine g_iconst (v := iZ (0)) 15 dX9_in_14 rfl rfl ?_
        refine g_zret rfl z01_0 dX9_in_15 ?_
        refine rI ?_
        refine g_zret rfl z01_0 dX9_isTool_11 ?_
        refine rI ?_
        refine g_ifZ_ne 19 17 dX9_weight_14 rfl rfl (by decide) (fun q => absurd q (by decide)) (fun _ => ?_)
        refine g_iconst (v := iZ (-1)) 18 dX9_weight_17 rfl rfl ?_
        refine g_iret rfl dX9_weight_18 ?_
        exact kq _ _ rfl (Sx.refl _ _)
set_option maxRecDepth 100000 in
theorem q9_count {l : Launch} {h : MH} (F : FM h) (w : Int) (rw : rg w) {Q : Option Value → MH → Prop} (kq : ∀ (h1 : MH) (r : Int), r = a_count w → Sx 1000 h h1 → Q (some (.int (iZ r))) h1) : Go l mX9_count 0 [some (.ref 50), some (.int (iZ w)), none, none, none] [] h Q := by
  refine g_iconst (v := iZ (0)) 1 dX9_count_0 rfl rfl ?_
  refine g_istore_n (L1 := [some (.ref 50), some (.int (iZ w)), some (.int (iZ 0)), none, none]) 2 dX9_count_1 (by decide) rfl rfl rfl ?_
  refine g_iload_n 3 dX9_count_2 rfl rfl ?_
  refine g_iconst (v := iZ (4)) 4 dX9_count_3 rfl rfl ?_
  refine g_icZ_ne 14 7 dX9_count_4 rfl rfl rw (by decide) (fun c1 => ?_) (fun c1 => ?_)
  · refine g_iconst (v := iZ (0)) 15 dX9_count_14 rfl rfl ?_
    refine g_istore_n (L1 := [some (.ref 50), some (.int (iZ w)), some (.int (iZ 0)), some (.int (iZ 0)), none]) 16 dX9_count_15 (by decide) rfl rfl rfl ?_
    refine g_iload_n 17 dX9_count_16 rfl rfl ?_
    by_cases c2 : w < 0 ∨ 4 < w
    · refine g_tabZO 126 dX9_count_17 rw c2 rfl ?_
      refine g_iconst (v := iZ (-1)) 127 dX9_count_126 rfl rfl ?_
      refine g_iret rfl dX9_count_127 ?_
      exact kq _ _ (by unfold a_count; split <;> omega) (Sx.refl _ _)
    · have c3 : w = 0 ∨ w = 1 ∨ w = 2 ∨ w = 3 ∨ w = 4 := by omega
      rcases c3 with c3 | c3 | c3 | c3 | c3
      · refine g_tabZI (0) 52 dX9_count_17 rw c3 (by decide) (by decide) rfl rfl ?_
        refine g_aload_n 53 dX9_count_52 rfl rfl ?_
        refine g_get 56 dX9_count_53 faX9_85_X9 F.1 rfl rfl ?_
        refine g_iret rfl dX9_count_56 ?_
        exact kq _ _ (by unfold a_count; split <;> omega) (Sx.refl _ _)
      · refine g_tabZI (1) 57 dX9_count_17 rw c3 (by decide) (by decide) rfl rfl ?_
        refine g_aload_n 58 dX9_count_57 rfl rfl ?_
        refine g_get 61 dX9_count_58 faX9_236_X9 F.1 rfl rfl ?_
        refine g_iret rfl dX9_count_61 ?_
        exact kq _ _ (by unfold a_count; split <;> omega) (Sx.refl _ _)
      · refine g_tabZI (2) 62 dX9_count_17 rw c3 (by decide) (by decide) rfl rfl ?_
        refine g_aload_n 63 dX9_count_62 rfl rfl ?_
        refine g_get 66 dX9_count_63 faX9_71_X9 F.1 rfl rfl ?_
        refine g_iret rfl dX9_count_66 ?_
        exact kq _ _ (by unfold a_count; split <;> omega) (Sx.refl _ _)
      · refine g_tabZI (3) 67 dX9_count_17 rw c3 (by decide) (by decide) rfl rfl ?_
        refine g_iconst (v := iZ (0)) 68 dX9_count_67 rfl rfl ?_
        refine g_istore (L1 := [some (.ref 50), some (.int (iZ w)), some (.int (iZ 0)), some (.int (iZ 0)), some (.int (iZ 0))]) 70 dX9_count_68 (by decide) rfl rfl rfl ?_
        refine g_iload 72 dX9_count_70 rfl rfl ?_
        refine g_aload_n 73 dX9_count_72 rfl rfl ?_
        refine g_get 76 dX9_count_73 faX9_85_X9 F.1 rfl rfl ?_
        refine g_icZ_ge 95 79 dX9_count_76 rfl rfl (by decide) (by decide) (fun _ => ?_) (fun q => absurd q (by decide))
        refine g_iload_n 96 dX9_count_95 rfl rfl ?_
        refine g_iret rfl dX9_count_96 ?_
        exact kq _ _ (by unfold a_count; split <;> omega) (Sx.refl _ _)
      · refine g_tabZI (4) 97 dX9_count_17 rw c3 (by decide) (by decide) rfl rfl ?_
        refine g_iconst (v := iZ (0)) 98 dX9_count_97 rfl rfl ?_
        refine g_istore (L1 := [some (.ref 50), some (.int (iZ w)), some (.int (iZ 0)), some (.int (iZ 0)), some (.int (iZ 0))]) 100 dX9_count_98 (by decide) rfl rfl rfl ?_
        refine g_iload 102 dX9_count_100 rfl rfl ?_
        refine g_aload_n 103 dX9_count_102 rfl rfl ?_
        refine g_get 106 dX9_count_103 faX9_85_X9 F.1 rfl rfl ?_
        refine g_icZ_ge 124 109 dX9_count_106 rfl rfl (by decide) (by decide) (fun _ => ?_) (fun q => absurd q (by decide))
        refine g_iload_n 125 dX9_count_124 rfl rfl ?_
        refine g_iret rfl dX9_count_125 ?_
        exact kq _ _ (by unfold a_count; split <;> omega) (Sx.refl _ _)
  · refine g_aload_n 8 dX9_count_7 rfl rfl ?_
    refine g_callV (z := mX9_sealedOnes) (As := []) 11 dX9_count_8 mwX9_sealedOnes ⟨by decide, by decide⟩ rfl wlX9_232 wiX9_sealedOnes wsX9_sealedOnes F.1 rfl rfl rfl (nle rfl) (nle rfl) rfl ?_
    refine Go.to [some (.ref 50), none, none, none] [] rfl rfl ?_
    refine g_aload_n 1 dX9_sealedOnes_0 rfl rfl ?_
    refine g_callV (z := mX9_stale) (As := []) 4 dX9_sealedOnes_1 mwX9_stale ⟨by decide, by decide⟩ rfl wlX9_226 wiX9_stale wsX9_stale F.1 rfl rfl rfl (nle rfl) (nle rfl) rfl ?_
    refine Go.to [some (.ref 50), none, none, none] [] rfl rfl ?_
    refine g_iconst (v := iZ (0)) 1 dX9_stale_0 rfl rfl ?_
    refine g_istore_n (L1 := [some (.ref 50), some (.int (iZ 0)), none, none]) 2 dX9_stale_1 (by decide) rfl rfl rfl ?_
    refine g_iconst (v := iZ (0)) 3 dX9_stale_2 rfl rfl ?_
    refine g_istore_n (L1 := [some (.ref 50), some (.int (iZ 0)), some (.int (iZ 0)), none]) 4 dX9_stale_3 (by decide) rfl rfl rfl ?_
    refine g_iload_n 5 dX9_stale_4 rfl rfl ?_
    refine g_aload_n 6 dX9_stale_5 rfl rfl ?_
    refine g_get 9 dX9_stale_6 faX9_85_X9 F.1 rfl rfl ?_
    refine g_icZ_ge 71 12 dX9_stale_9 rfl rfl (by decide) (by decide) (fun _ => ?_) (fun q => absurd q (by decide))
    refine g_iload_n 72 dX9_stale_71 rfl rfl ?_
    refine g_iret rfl dX9_stale_72 ?_
    refine rI ?_
    refine g_istore_n (L1 := [some (.ref 50), some (.int (iZ 0)), none, none]) 5 dX9_sealedOnes_4 (by decide) rfl rfl rfl ?_
    refine g_iconst (v := iZ (0)) 6 dX9_sealedOnes_5 rfl rfl ?_
    refine g_istore_n (L1 := [some (.ref 50), some (.int (iZ 0)), some (.int (iZ 0)), none]) 7 dX9_sealedOnes_6 (by decide) rfl rfl rfl ?_
    refine g_iconst (v := iZ (0)) 8 dX9_sealedOnes_7 rfl rfl ?_
    refine g_istore_n (L1 := [some (.ref 50), some (.int (iZ 0)), some (.int (iZ 0)), some (.int (iZ 0))]) 9 dX9_sealedOnes_8 (by decide) rfl rfl rfl ?_
    refine g_iload_n 10 dX9_sealedOnes_9 rfl rfl ?_
    refine g_aload_n 11 dX9_sealedOnes_10 rfl rfl ?_
    refine g_get 14 dX9_sealedOnes_11 faX9_85_X9 F.1 rfl rfl ?_
    refine g_icZ_ge 55 17 dX9_sealedOnes_14 rfl rfl (by decide) (by decide) (fun _ => ?_) (fun q => absurd q (by decide))
    refine g_iload_n 56 dX9_sealedOnes_55 rfl rfl ?_
    refine g_iret rfl dX9_sealedOnes_56 ?_
    refine rI ?_
    refine g_goto 15 dX9_count_11 rfl ?_
    refine g_istore_n (L1 := [some (.ref 50), some (.int (iZ w)), some (.int (iZ 0)), some (.int (iZ 0)), none]) 16 dX9_count_15 (by decide) rfl rfl rfl ?_
    refine g_iload_n 17 dX9_count_16 rfl rfl ?_
    refine g_tabZI (4) 97 dX9_count_17 rw (by omega) (by decide) (by decide) rfl rfl ?_
    refine g_iconst (v := iZ (0)) 98 dX9_count_97 rfl rfl ?_
    refine g_istore (L1 := [some (.ref 50), some (.int (iZ w)), some (.int (iZ 0)), some (.int (iZ 0)), some (.int (iZ 0))]) 100 dX9_count_98 (by decide) rfl rfl rfl ?_
    refine g_iload 102 dX9_count_100 rfl rfl ?_
    refine g_aload_n 103 dX9_count_102 rfl rfl ?_
    refine g_get 106 dX9_count_103 faX9_85_X9 F.1 rfl rfl ?_
    refine g_icZ_ge 124 109 dX9_count_106 rfl rfl (by decide) (by decide) (fun _ => ?_) (fun q => absurd q (by decide))
    refine g_iload_n 125 dX9_count_124 rfl rfl ?_
    refine g_iret rfl dX9_count_125 ?_
    exact kq _ _ (by unfold a_count; split <;> omega) (Sx.refl _ _)
set_option maxRecDepth 100000 in
theorem q9_trace {l : Launch} {h : MH} (F : FM h)  {Q : Option Value → MH → Prop} (kq : ∀ h1, Sx 1000 h h1 → Q (some (.long 0)) h1) : Go l mX9_trace 0 [some (.ref 50)] [] h Q := by
  refine g_aload_n 1 dX9_trace_0 rfl rfl ?_
  refine g_get 4 dX9_trace_1 faX9_245_X9 F.1 rfl rfl ?_
  refine g_lret rfl dX9_trace_4 ?_
  exact kq _ (Sx.refl _ _)

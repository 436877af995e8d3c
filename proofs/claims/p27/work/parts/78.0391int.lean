theorem bey_y {f : Nat → Int} {j b : Int} (h0 : 0 ≤ j) (hb : b = bey f j.toNat) (h : 15 < f j.toNat) : b + 1 = bey f (j + 1).toNat := by
  have : (j + 1).toNat = j.toNat + 1 := by omega
  rw [this, bey, if_pos h, hb]
theorem bey_n {f : Nat → Int} {j b : Int} (h0 : 0 ≤ j) (hb : b = bey f j.toNat) (h : ¬ 15 < f j.toNat) : b = bey f (j + 1).toNat := by
  have : (j + 1).toNat = j.toNat + 1 := by omega
  rw [this, bey, if_neg h, hb, Int.add_zero]
set_option maxRecDepth 100000 in
theorem c_bey_l {l : Launch} {Q : Option Value → MH → Prop} {c M : Nat} {n : Int} {f g : Nat → Int} (of : oki (0) (255) f) (og : oki (0) (300) g) (rn : (0 ≤ n ∧ n ≤ 256)) (hM : M ≤ 256) (hnM : n ≤ M) : ∀ (m0 : Nat) (h : MH) (b j : Int), (n - j).toNat = m0 → h[c]? = some (.inr (0, [.int (iZ ((M : Int))), .ref (c + 1), .ref (c + 2), .int (iZ n)])) → h[c + 1]? = some (.inl (0, M, .inl (zA f))) → h[c + 2]? = some (.inl (0, M, .inl (zA g))) → 0 ≤ j ∧ j ≤ n → 0 ≤ b ∧ b ≤ j → b = bey f j.toNat → (∀ (r : Int), (r = bey f n.toNat ∧ 0 ≤ r ∧ r ≤ 256) → Q (some (.int (iZ r))) h) → Go l mX0_beyondOrders 4 [some (.ref c), some (.int (iZ b)), some (.int (iZ j))] [] h Q := by
  intro m0
  induction m0 using Nat.strongRecOn with
  | ind m0 ih =>
    intro h b j hmz F0 F1 F2 hj hb2 hb k
    refine g_iload_n 5 dX0_beyondOrders_4 rfl rfl ?_
    refine g_aload_n 6 dX0_beyondOrders_5 rfl rfl ?_
    refine g_get 9 dX0_beyondOrders_6 faX0_9_X0 F0 rfl rfl ?_
    refine g_icZ_ge 31 12 dX0_beyondOrders_9 rfl rfl (by omega) (by omega) (fun c1 => ?_) (fun c1 => ?_)
    · refine g_iload_n 32 dX0_beyondOrders_31 rfl rfl ?_
      refine g_iret rfl dX0_beyondOrders_32 ?_
      have e9 : j = n := by omega
      subst e9
      exact k b ⟨hb, by omega, by omega⟩
    · refine g_aload_n 13 dX0_beyondOrders_12 rfl rfl ?_
      refine g_iload_n 14 dX0_beyondOrders_13 rfl rfl ?_
      refine g_callV (z := mX0_at) (As := [.int (iZ j)]) 17 dX0_beyondOrders_14 mwX0_at ⟨by decide, by decide⟩ rfl wlX0_31 wiX0_at wsX0_at F0 rfl rfl rfl (nle rfl) (nle rfl) rfl ?_
      refine Go.to [some (.ref c), some (.int (iZ j))] [] rfl rfl ?_
      refine g_iload_n 1 dX0_at_0 rfl rfl ?_
      refine g_ifZ_lt 20 4 dX0_at_1 rfl rfl (by omega) (fun q => absurd q (by omega)) (fun _ => ?_)
      refine g_iload_n 5 dX0_at_4 rfl rfl ?_
      refine g_aload_n 6 dX0_at_5 rfl rfl ?_
      refine g_get 9 dX0_at_6 faX0_9_X0 F0 rfl rfl ?_
      refine g_icZ_ge 20 12 dX0_at_9 rfl rfl (by omega) (by omega) (fun q => absurd q (by omega)) (fun _ => ?_)
      refine g_iload_n 13 dX0_at_12 rfl rfl ?_
      refine g_aload_n 14 dX0_at_13 rfl rfl ?_
      refine g_get 17 dX0_at_14 faX0_21_X0 F0 rfl rfl ?_
      refine g_icZ_lt 24 20 dX0_at_17 rfl rfl (by omega) (by omega) (fun _ => ?_) (fun q => absurd q (by omega))
      refine g_aload_n 25 dX0_at_24 rfl rfl ?_
      refine g_get 28 dX0_at_25 faX0_24_X0 F0 rfl rfl ?_
      refine g_iload_n 29 dX0_at_28 rfl rfl ?_
      have b2 := of ((j).toNat)
      refine g_ialdZ (v := iZ (f j.toNat)) 30 dX0_at_29 F1 (by omega) (by omega) (by omega) rfl rfl ?_
      refine g_iret rfl dX0_at_30 ?_
      refine rI ?_
      refine g_bipush (v := iZ (15)) 19 dX0_beyondOrders_17 (by decide +kernel) rfl ?_
      refine g_icZ_le 25 22 dX0_beyondOrders_19 rfl rfl (by omega) (by decide) (fun c3 => ?_) (fun c3 => ?_)
      · refine g_iincZ [some (.ref c), some (.int (iZ b)), some (.int (iZ (j + 1)))] 28 dX0_beyondOrders_25 rfl (by omega) (by decide) rfl rfl rfl ?_
        refine g_goto 4 dX0_beyondOrders_28 rfl ?_
        exact ih _ (by omega) _ (b) (j + 1) rfl F0 F1 F2 (by omega) (by omega) (bey_n (by omega) hb (by omega)) k
      · refine g_iincZ [some (.ref c), some (.int (iZ (b + 1))), some (.int (iZ j))] 25 dX0_beyondOrders_22 rfl (by omega) (by decide) rfl rfl rfl ?_
        refine g_iincZ [some (.ref c), some (.int (iZ (b + 1))), some (.int (iZ (j + 1)))] 28 dX0_beyondOrders_25 rfl (by omega) (by decide) rfl rfl rfl ?_
        refine g_goto 4 dX0_beyondOrders_28 rfl ?_
        exact ih _ (by omega) _ (b + 1) (j + 1) rfl F0 F1 F2 (by omega) (by omega) (bey_y (by omega) hb (by omega)) k
set_option maxRecDepth 100000 in
theorem c_bey {l : Launch} {h : MH} {Q : Option Value → MH → Prop} {c M : Nat} {n : Int} {f g : Nat → Int} (F0 : h[c]? = some (.inr (0, [.int (iZ ((M : Int))), .ref (c + 1), .ref (c + 2), .int (iZ n)]))) (F1 : h[c + 1]? = some (.inl (0, M, .inl (zA f)))) (F2 : h[c + 2]? = some (.inl (0, M, .inl (zA g)))) (of : oki (0) (255) f) (og : oki (0) (300) g) (rn : (0 ≤ n ∧ n ≤ 256)) (hM : M ≤ 256) (hnM : n ≤ M) (k : ∀ (r : Int), (r = bey f n.toNat ∧ 0 ≤ r ∧ r ≤ 256) → Q (some (.int (iZ r))) h) : Go l mX0_beyondOrders 0 [some (.ref c), none, none] [] h Q := by
  refine g_iconst (v := iZ (0)) 1 dX0_beyondOrders_0 rfl rfl ?_
  refine g_istore_n (L1 := [some (.ref c), some (.int (iZ 0)), none]) 2 dX0_beyondOrders_1 (by decide) rfl rfl rfl ?_
  refine g_iconst (v := iZ (0)) 3 dX0_beyondOrders_2 rfl rfl ?_
  refine g_istore_n (L1 := [some (.ref c), some (.int (iZ 0)), some (.int (iZ 0))]) 4 dX0_beyondOrders_3 (by decide) rfl rfl rfl ?_
  exact c_bey_l of og rn hM hnM _ _ (0) (0) rfl F0 F1 F2 (by omega) (by omega) rfl k
set_option maxRecDepth 100000 in
theorem y_blt1 {l : Launch} {h : MH} {Q : Option Value → MH → Prop} {tc : Nat} {tr : Int64} {xn : Nat → Int} {xf V Bf Lf : Nat → Nat → Int} {b : Int} {j : Nat} (HC : CORE2 h tc tr xn xf V Bf Lf) (rb : rg b) (hj : j < tc) (k : ∀ r : Int, (r = 0 ∨ r = 1) → Q (some (.int (iZ r))) h) : Go l mX8_isBuiltByOneOf 0 [some (.int (iZ b)), some (.ref (71 + 4 * j))] [] h Q := by
  obtain ⟨F0, F3, F4, htc, HT, HL⟩ := id HC
  refine g_aload_n 1 dX8_isBuiltByOneOf_0 rfl rfl ?_
  obtain ⟨ta1_1, ta2_1, ta3_1, ta4_1, ta5_1, ta6_1, ta7_1, ta8_1, ta9_1, tb0_1, tb1_1, tb2_1, tb3_1⟩ := HL (j) (by omega)
  refine g_get 4 dX8_isBuiltByOneOf_1 faX8_112_X7 tb0_1 rfl rfl ?_
  refine g_iconst (v := iZ (2)) 5 dX8_isBuiltByOneOf_4 rfl rfl ?_
  refine g_icZ_ne 23 8 dX8_isBuiltByOneOf_5 rfl rfl (by omega) (by decide) (fun c2 => ?_) (fun c2 => ?_)
  · refine g_iconst (v := iZ (0)) 24 dX8_isBuiltByOneOf_23 rfl rfl ?_
    refine g_zret rfl z01_0 dX8_isBuiltByOneOf_24 ?_
    exact k (0) (Or.inl rfl)
  · refine g_iload_n 9 dX8_isBuiltByOneOf_8 rfl rfl ?_
    refine g_aload_n 10 dX8_isBuiltByOneOf_9 rfl rfl ?_
    refine g_get 13 dX8_isBuiltByOneOf_10 faX8_118_X7 tb0_1 rfl rfl ?_
    refine g_callS (z := mX8_hasBit) (As := [.int (iZ b), .int (iZ (V 3 j))]) 16 dX8_isBuiltByOneOf_13 mwX8_hasBit ⟨by decide, by decide⟩ rfl wlX8_180 wtX8_hasBit rfl (nle rfl) (nle rfl) rfl ?_
    refine w_hb rb (by omega) (fun z3 rz3 => ?_)
    refine rI ?_
    refine g_ifZ_eq 23 19 dX8_isBuiltByOneOf_16 rfl rfl (rg01 rz3) (fun c4 => ?_) (fun c4 => ?_)
    · refine g_iconst (v := iZ (0)) 24 dX8_isBuiltByOneOf_23 rfl rfl ?_
      refine g_zret rfl z01_0 dX8_isBuiltByOneOf_24 ?_
      exact k (0) (Or.inl rfl)
    · refine g_iconst (v := iZ (1)) 20 dX8_isBuiltByOneOf_19 rfl rfl ?_
      refine g_goto 24 dX8_isBuiltByOneOf_20 rfl ?_
      refine g_zret rfl z01_1 dX8_isBuiltByOneOf_24 ?_
      exact k (1) (Or.inr rfl)
set_option maxRecDepth 100000 in
theorem y_bagain {l : Launch} {h : MH} {Q : Option Value → MH → Prop} {tc : Nat} {tr : Int64} {xn : Nat → Int} {xf V Bf Lf : Nat → Nat → Int} {j i : Nat} (HC : CORE2 h tc tr xn xf V Bf Lf) (HS : SC2 h)  (hj : j < tc) (hi : i < 8) (k : ∀ (h1 : MH) (r : Int), (rg r) → SC2 h1 → Scr2 h h1 → Q (some (.int (iZ r))) h1) : Go l mX8_builtAgain 0 [some (.ref 0), some (.ref (71 + 4 * j)), some (.ref (34 + 2 * i)), none] [] h Q := by
  obtain ⟨F0, F3, F4, htc, HT, HL⟩ := id HC
  refine g_aload_n 1 dX8_builtAgain_0 rfl rfl ?_
  refine g_aload_n 2 dX8_builtAgain_1 rfl rfl ?_
  obtain ⟨ta1_1, ta2_1, ta3_1, ta4_1, ta5_1, ta6_1, ta7_1, ta8_1, ta9_1, tb0_1, tb1_1, tb2_1, tb3_1⟩ := HL (j) (by omega)
  refine g_get 5 dX8_builtAgain_2 faX8_118_X7 tb0_1 rfl rfl ?_
  refine g_callV (z := mX8_toolAt) (As := [.int (iZ (V 3 j))]) 8 dX8_builtAgain_5 mwX8_toolAt ⟨by decide, by decide⟩ rfl wlX8_90 wiX8_toolAt wsX8_toolAt F0 rfl rfl rfl (nle rfl) (nle rfl) rfl ?_
  refine Go.to [some (.ref 0), some (.int (iZ (V 3 j)))] [] rfl rfl ?_
  refine g_iload_n 1 dX8_toolAt_0 rfl rfl ?_
  refine g_ifZ_lt 18 4 dX8_toolAt_1 rfl rfl (by omega) (fun c2 => ?_) (fun c2 => ?_)
  · refine g_null 19 dX8_toolAt_18 rfl ?_
    refine g_goto 28 dX8_toolAt_19 rfl ?_
    refine g_aret rfl (Or.inl rfl) dX8_toolAt_28 ?_
    refine rN ?_
    refine g_astore_nN (L1 := [some (.ref 0), some (.ref (71 + 4 * j)), some (.ref (34 + 2 * i)), some (.null)]) 9 dX8_builtAgain_8 (by decide) rfl rfl rfl ?_
    refine g_aload_nN 10 dX8_builtAgain_9 rfl rfl ?_
    refine g_ifnonnullN 13 dX8_builtAgain_10 rfl ?_
    refine g_bipush (v := iZ (-20)) 15 dX8_builtAgain_13 (by decide +kernel) rfl ?_
    refine g_iret rfl dX8_builtAgain_15 ?_
    exact k _ (-20) (by decide) HS (Scr2.refl _)
  · refine g_iload_n 5 dX8_toolAt_4 rfl rfl ?_
    refine g_aload_n 6 dX8_toolAt_5 rfl rfl ?_
    refine g_get 9 dX8_toolAt_6 faX8_26_X8 F0 rfl rfl ?_
    refine g_icZ_ge 18 12 dX8_toolAt_9 rfl rfl (by omega) (by omega) (fun c3 => ?_) (fun c3 => ?_)
    · refine g_null 19 dX8_toolAt_18 rfl ?_
      refine g_goto 28 dX8_toolAt_19 rfl ?_
      refine g_aret rfl (Or.inl rfl) dX8_toolAt_28 ?_
      refine rN ?_
      refine g_astore_nN (L1 := [some (.ref 0), some (.ref (71 + 4 * j)), some (.ref (34 + 2 * i)), some (.null)]) 9 dX8_builtAgain_8 (by decide) rfl rfl rfl ?_
      refine g_aload_nN 10 dX8_builtAgain_9 rfl rfl ?_
      refine g_ifnonnullN 13 dX8_builtAgain_10 rfl ?_
      refine g_bipush (v := iZ (-20)) 15 dX8_builtAgain_13 (by decide +kernel) rfl ?_
      refine g_iret rfl dX8_builtAgain_15 ?_
      exact k _ (-20) (by decide) HS (Scr2.refl _)
    · refine g_iload_n 13 dX8_toolAt_12 rfl rfl ?_
      refine g_bipush (v := iZ (12)) 15 dX8_toolAt_13 (by decide +kernel) rfl ?_
      refine g_icZ_lt 22 18 dX8_toolAt_15 rfl rfl (by omega) (by decide) (fun _ => ?_) (fun q => absurd q (by omega))
      refine g_aload_n 23 dX8_toolAt_22 rfl rfl ?_
      refine g_get 26 dX8_toolAt_23 faX8_22_X8 F0 rfl rfl ?_
      refine g_iload_n 27 dX8_toolAt_26 rfl rfl ?_
      refine g_aaldZ 28 dX8_toolAt_27 F4 (by decide) (by omega) (by omega) (by decide) (tls_at (by omega) (by omega)) rfl ?_
      refine g_aret rfl (Or.inr ⟨_, rfl⟩) dX8_toolAt_28 ?_
      refine rR ?_
      refine g_astore_n (L1 := [some (.ref 0), some (.ref (71 + 4 * j)), some (.ref (34 + 2 * i)), some (.ref (71 + 4 * (V 3 j).toNat))]) 9 dX8_builtAgain_8 (by decide) rfl rfl rfl ?_
      refine g_aload_n 10 dX8_builtAgain_9 rfl rfl ?_
      refine g_ifnonnull 16 dX8_builtAgain_10 rfl ?_
      refine g_aload_n 17 dX8_builtAgain_16 rfl rfl ?_
      refine g_get 20 dX8_builtAgain_17 faX8_50_X8 F0 rfl rfl ?_
      refine g_aload_n 21 dX8_builtAgain_20 rfl rfl ?_
      obtain ⟨ta1_4, ta2_4, ta3_4, ta4_4, ta5_4, ta6_4, ta7_4, ta8_4, ta9_4, tb0_4, tb1_4, tb2_4, tb3_4⟩ := HL ((V 3 j).toNat) (by omega)
      refine g_get 24 dX8_builtAgain_21 faX8_94_X7 tb0_4 rfl rfl ?_
      refine g_aload_n 25 dX8_builtAgain_24 rfl rfl ?_
      obtain ⟨a_5, x_5, p_5, en_5, dn_5, tk_5, hm_5, on_5, mm_5, of_5, og_5, ma1_5, ma2_5, ma3_5, ma4_5, ma5_5, ma6_5, ma7_5, ma8_5, ma9_5, ma10_5, ma11_5, mb0_5, mb1_5, mb2_5, mb3_5, mb4_5⟩ := SC2.m (m := 20) (by decide) HS
      refine g_callV (z := mX2_goThrough) (As := [.ref (71 + 4 * (V 3 j).toNat + 1), .ref (34 + 2 * i)]) 28 dX8_builtAgain_25 mwX2_goThrough ⟨by decide, by decide⟩ rfl wlX8_129 wiX2_goThrough wsX2_goThrough mb0_5 rfl rfl rfl (nle rfl) (nle rfl) rfl ?_
      obtain ⟨t0_6, t1_6, t2_6, t3_6, t4_6⟩ := HT (i) (by omega)
      refine sc2_go (m := 20) (M := (V 0 (V 3 j).toNat).toNat) (by decide) HS tb1_4 tb2_4 tb3_4 ta8_4 ta9_4 (by omega) (by omega) (by omega) (by omega) t0_6 t1_6 t4_6 (by omega) (by omega) (fun h7 a8 x9 p10 e11 d12 t13 hm14 c15 mm16 of17 og18 R20 X21 H22 s23 => ?_)
      have S24 : Scr2 _ _ := s23.scr2 (by decide)
      obtain ⟨ma1_25, ma2_25, ma3_25, ma4_25, ma5_25, ma6_25, ma7_25, ma8_25, ma9_25, ma10_25, ma11_25, mb0_25, mb1_25, mb2_25, mb3_25, mb4_25⟩ := id X21
      refine rV ?_
      refine g_aload_n 29 dX8_builtAgain_28 rfl rfl ?_
      have f26 := (S24.get (by omega) F0)
      refine g_get 32 dX8_builtAgain_29 faX8_50_X8 f26 rfl rfl ?_
      refine g_get 35 dX8_builtAgain_32 faX8_133_X2 mb0_25 rfl rfl ?_
      refine g_ifZ_eq 49 38 dX8_builtAgain_35 rfl rfl (by omega) (fun c27 => ?_) (fun c27 => ?_)
      · refine g_aload_n 50 dX8_builtAgain_49 rfl rfl ?_
        refine g_get 53 dX8_builtAgain_50 faX8_50_X8 f26 rfl rfl ?_
        refine g_get 56 dX8_builtAgain_53 faX8_102_X2 mb0_25 rfl rfl ?_
        refine g_get 59 dX8_builtAgain_56 faX8_109_X0 mb2_25 rfl rfl ?_
        refine g_ifZ_ne 67 62 dX8_builtAgain_59 rfl rfl (by omega) (fun c28 => ?_) (fun c28 => ?_)
        · refine g_aload_n 68 dX8_builtAgain_67 rfl rfl ?_
          have f29 := (S24.get (by omega) tb0_1)
          refine g_get 71 dX8_builtAgain_68 faX8_94_X7 f29 rfl rfl ?_
          refine g_aload_n 72 dX8_builtAgain_71 rfl rfl ?_
          refine g_get 75 dX8_builtAgain_72 faX8_50_X8 f26 rfl rfl ?_
          refine g_get 78 dX8_builtAgain_75 faX8_102_X2 mb0_25 rfl rfl ?_
          have f30 := (S24.get (by omega) tb1_1)
          refine g_callV (z := mX0_unlike) (As := [.ref 22]) 81 dX8_builtAgain_78 mwX0_unlike ⟨by decide, by decide⟩ rfl wlX8_162 wiX0_unlike wsX0_unlike f30 rfl rfl rfl (nle rfl) (nle rfl) rfl ?_
          have f31 := (S24.get (by omega) tb2_1)
          have f32 := (S24.get (by omega) tb3_1)
          refine c_unl (M := (V 0 j).toNat) (N := 256) f30 f31 f32 mb2_25 mb3_25 mb4_25 ta8_1 ta9_1 ma10_25 ma11_25 (by omega) (by omega) (by omega) (by omega) (by omega) (by omega) (fun z33 rz33 => ?_)
          refine rI ?_
          refine g_iret rfl dX8_builtAgain_81 ?_
          exact k _ (z33) (by omega) H22 S24
        · refine g_bipush (v := iZ (-20)) 64 dX8_builtAgain_62 (by decide +kernel) rfl ?_
          refine g_goto 81 dX8_builtAgain_64 rfl ?_
          refine g_iret rfl dX8_builtAgain_81 ?_
          exact k _ (-20) (by decide) H22 S24
      · refine g_bipush (v := iZ (-10)) 40 dX8_builtAgain_38 (by decide +kernel) rfl ?_
        refine g_aload_n 41 dX8_builtAgain_40 rfl rfl ?_
        refine g_get 44 dX8_builtAgain_41 faX8_50_X8 f26 rfl rfl ?_
        refine g_get 47 dX8_builtAgain_44 faX8_133_X2 mb0_25 rfl rfl ?_
        refine g_isub 48 dX8_builtAgain_47 rfl ?_
        refine Go.genZ (fun z34 rz34 => ?_)
        refine g_iret rfl dX8_builtAgain_48 ?_
        exact k _ (z34) rz34 H22 S24
set_option maxRecDepth 100000 in
theorem y_again {l : Launch} {h : MH} {Q : Option Value → MH → Prop} {tc : Nat} {tr : Int64} {xn : Nat → Int} {xf V Bf Lf : Nat → Nat → Int} {j : Nat} (HC : CORE2 h tc tr xn xf V Bf Lf) (HS : SC2 h)  (hj : j < tc) (k : ∀ (h1 : MH) (r : Int), (rg r) → SC2 h1 → Scr2 h h1 → Q (some (.int (iZ r))) h1) : Go l mX8_madeAgain 0 [some (.ref 0), some (.ref (71 + 4 * j)), none, none] [] h Q := by
  obtain ⟨F0, F3, F4, htc, HT, HL⟩ := id HC
  refine g_aload_n 1 dX8_madeAgain_0 rfl rfl ?_
  refine g_aload_n 2 dX8_madeAgain_1 rfl rfl ?_
  obtain ⟨ta1_1, ta2_1, ta3_1, ta4_1, ta5_1, ta6_1, ta7_1, ta8_1, ta9_1, tb0_1, tb1_1, tb2_1, tb3_1⟩ := HL (j) (by omega)
  refine g_get 5 dX8_madeAgain_2 faX8_115_X7 tb0_1 rfl rfl ?_
  refine g_callV (z := mX8_textAt) (As := [.int (iZ (V 2 j))]) 8 dX8_madeAgain_5 mwX8_textAt ⟨by decide, by decide⟩ rfl wlX8_74 wiX8_textAt wsX8_textAt F0 rfl rfl rfl (nle rfl) (nle rfl) rfl ?_
  refine Go.to [some (.ref 0), some (.int (iZ (V 2 j)))] [] rfl rfl ?_
  refine g_iload_n 1 dX8_textAt_0 rfl rfl ?_
  refine g_ifZ_lt 10 4 dX8_textAt_1 rfl rfl (by omega) (fun q => absurd q (by omega)) (fun _ => ?_)
  refine g_iload_n 5 dX8_textAt_4 rfl rfl ?_
  refine g_bipush (v := iZ (8)) 7 dX8_textAt_5 (by decide +kernel) rfl ?_
  refine g_icZ_lt 14 10 dX8_textAt_7 rfl rfl (by omega) (by decide) (fun _ => ?_) (fun q => absurd q (by omega))
  refine g_aload_n 15 dX8_textAt_14 rfl rfl ?_
  refine g_get 18 dX8_textAt_15 faX8_16_X8 F0 rfl rfl ?_
  refine g_iload_n 19 dX8_textAt_18 rfl rfl ?_
  refine g_aaldZ 20 dX8_textAt_19 F3 (by decide) (by omega) (by omega) (by decide) (txs_at (by omega) (by omega)) rfl ?_
  refine g_aret rfl (Or.inr ⟨_, rfl⟩) dX8_textAt_20 ?_
  refine rR ?_
  refine g_astore_n (L1 := [some (.ref 0), some (.ref (71 + 4 * j)), some (.ref (34 + 2 * (V 2 j).toNat)), none]) 9 dX8_madeAgain_8 (by decide) rfl rfl rfl ?_
  refine g_aload_n 10 dX8_madeAgain_9 rfl rfl ?_
  refine g_ifnonnull 16 dX8_madeAgain_10 rfl ?_
  refine g_aload_n 17 dX8_madeAgain_16 rfl rfl ?_
  refine g_get 20 dX8_madeAgain_17 faX8_112_X7 tb0_1 rfl rfl ?_
  refine g_iconst (v := iZ (2)) 21 dX8_madeAgain_20 rfl rfl ?_
  refine g_icZ_ne 31 24 dX8_madeAgain_21 rfl rfl (by omega) (by decide) (fun c2 => ?_) (fun c2 => ?_)
  · refine g_aload_n 32 dX8_madeAgain_31 rfl rfl ?_
    refine g_aload_n 33 dX8_madeAgain_32 rfl rfl ?_
    refine g_get 36 dX8_madeAgain_33 faX8_112_X7 tb0_1 rfl rfl ?_
    refine g_callV (z := mX8_makerBy) (As := [.int (iZ (V 1 j))]) 39 dX8_madeAgain_36 mwX8_makerBy ⟨by decide, by decide⟩ rfl wlX8_228 wiX8_makerBy wsX8_makerBy F0 rfl rfl rfl (nle rfl) (nle rfl) rfl ?_
    refine Go.to [some (.ref 0), some (.int (iZ (V 1 j)))] [] rfl rfl ?_
    refine g_iload_n 1 dX8_makerBy_0 rfl rfl ?_
    refine g_ifZ_ne 11 4 dX8_makerBy_1 rfl rfl (by omega) (fun c3 => ?_) (fun c3 => ?_)
    · refine g_aload_n 12 dX8_makerBy_11 rfl rfl ?_
      refine g_get 15 dX8_makerBy_12 faX8_40_X8 F0 rfl rfl ?_
      refine g_aret rfl (Or.inr ⟨_, rfl⟩) dX8_makerBy_15 ?_
      refine rR ?_
      refine g_astore_n (L1 := [some (.ref 0), some (.ref (71 + 4 * j)), some (.ref (34 + 2 * (V 2 j).toNat)), some (.ref 9)]) 40 dX8_madeAgain_39 (by decide) rfl rfl rfl ?_
      refine g_aload_n 41 dX8_madeAgain_40 rfl rfl ?_
      refine g_aload_n 42 dX8_madeAgain_41 rfl rfl ?_
      obtain ⟨n_4, f_4, g_4, nk_4⟩ := HS.2.1
      obtain ⟨du_5, la_5, pl_5, lu_5, p1_5, p2_5, p3_5, p4_5, p5_5, p6_5, p7_5, q0_5, q1_5, q2_5, q3_5, q4_5, q5_5⟩ := id nk_4
      refine g_callA (z := mX4_faultIn) (As := [.ref (34 + 2 * (V 2 j).toNat)]) 45 dX8_madeAgain_42 mwX4_faultIn ⟨by decide, by decide⟩ rfl wlX8_232 wsmMk wiX4_faultIn wsaX4 wdMk (by decide) q0_5 rfl rfl (nle rfl) (nle rfl) rfl ?_
      obtain ⟨t0_6, t1_6, t2_6, t3_6, t4_6⟩ := HT ((V 2 j).toNat) (by omega)
      refine sc2_nf HS t0_6 t1_6 t4_6 (by omega) (by omega) (fun h7 z8 n9 f10 g11 rz8 e12 P13 H14 s15 => ?_)
      have S16 : Scr2 _ _ := s15.scr2 (by decide)
      obtain ⟨du_17, la_17, pl_17, lu_17, p1_17, p2_17, p3_17, p4_17, p5_17, p6_17, p7_17, q0_17, q1_17, q2_17, q3_17, q4_17, q5_17⟩ := id P13
      refine rI ?_
      refine g_bipush (v := iZ (-9)) 47 dX8_madeAgain_45 (by decide +kernel) rfl ?_
      refine g_icZ_ne 64 50 dX8_madeAgain_47 rfl rfl (by omega) (by decide) (fun c18 => ?_) (fun c18 => ?_)
      · refine g_bipush (v := iZ (-20)) 66 dX8_madeAgain_64 (by decide +kernel) rfl ?_
        refine g_iret rfl dX8_madeAgain_66 ?_
        exact k _ (-20) (by decide) H14 S16
      · refine g_aload_n 51 dX8_madeAgain_50 rfl rfl ?_
        have f19 := (S16.get (by omega) tb0_1)
        refine g_get 54 dX8_madeAgain_51 faX8_94_X7 f19 rfl rfl ?_
        refine g_aload_n 55 dX8_madeAgain_54 rfl rfl ?_
        refine g_get 58 dX8_madeAgain_55 faX8_238_X4 q0_17 rfl rfl ?_
        have f20 := (S16.get (by omega) tb1_1)
        refine g_callV (z := mX0_unlike) (As := [.ref 10]) 61 dX8_madeAgain_58 mwX0_unlike ⟨by decide, by decide⟩ rfl wlX8_162 wiX0_unlike wsX0_unlike f20 rfl rfl rfl (nle rfl) (nle rfl) rfl ?_
        have f21 := (S16.get (by omega) tb2_1)
        have f22 := (S16.get (by omega) tb3_1)
        refine c_unl (M := (V 0 j).toNat) (N := 256) f20 f21 f22 q1_17 q2_17 q3_17 ta8_1 ta9_1 p6_17 p7_17 (by omega) (by omega) (by omega) (by omega) (by omega) (by omega) (fun z23 rz23 => ?_)
        refine rI ?_
        refine g_goto 66 dX8_madeAgain_61 rfl ?_
        refine g_iret rfl dX8_madeAgain_66 ?_
        exact k _ (z23) (by omega) H14 S16
    · refine g_aload_n 5 dX8_makerBy_4 rfl rfl ?_
      refine g_get 8 dX8_makerBy_5 faX8_33_X8 F0 rfl rfl ?_
      refine g_goto 15 dX8_makerBy_8 rfl ?_
      refine g_aret rfl (Or.inr ⟨_, rfl⟩) dX8_makerBy_15 ?_
      refine rR ?_
      refine g_astore_n (L1 := [some (.ref 0), some (.ref (71 + 4 * j)), some (.ref (34 + 2 * (V 2 j).toNat)), some (.ref 5)]) 40 dX8_madeAgain_39 (by decide) rfl rfl rfl ?_
      refine g_aload_n 41 dX8_madeAgain_40 rfl rfl ?_
      refine g_aload_n 42 dX8_madeAgain_41 rfl rfl ?_
      obtain ⟨n_24, f_24, g_24, pk_24⟩ := HS.1
      obtain ⟨p1_25, p2_25, p3_25, q0_25, q1_25, q2_25, q3_25⟩ := id pk_24
      refine g_callA (z := mX5_faultIn) (As := [.ref (34 + 2 * (V 2 j).toNat)]) 45 dX8_madeAgain_42 mwX5_faultIn ⟨by decide, by decide⟩ rfl wlX8_232 wsmMk wiX5_faultIn wsaX5 wdMk (by decide) q0_25 rfl rfl (nle rfl) (nle rfl) rfl ?_
      obtain ⟨t0_26, t1_26, t2_26, t3_26, t4_26⟩ := HT ((V 2 j).toNat) (by omega)
      refine sc2_pf HS t0_26 t1_26 t4_26 (by omega) (by omega) (fun h27 z28 n29 f30 g31 rz28 e32 P33 H34 s35 => ?_)
      have S36 : Scr2 _ _ := s35.scr2 (by decide)
      obtain ⟨p1_37, p2_37, p3_37, q0_37, q1_37, q2_37, q3_37⟩ := id P33
      refine rI ?_
      refine g_bipush (v := iZ (-9)) 47 dX8_madeAgain_45 (by decide +kernel) rfl ?_
      refine g_icZ_ne 64 50 dX8_madeAgain_47 rfl rfl (by omega) (by decide) (fun c38 => ?_) (fun c38 => ?_)
      · refine g_bipush (v := iZ (-20)) 66 dX8_madeAgain_64 (by decide +kernel) rfl ?_
        refine g_iret rfl dX8_madeAgain_66 ?_
        exact k _ (-20) (by decide) H34 S36
      · refine g_aload_n 51 dX8_madeAgain_50 rfl rfl ?_
        have f39 := (S36.get (by omega) tb0_1)
        refine g_get 54 dX8_madeAgain_51 faX8_94_X7 f39 rfl rfl ?_
        refine g_aload_n 55 dX8_madeAgain_54 rfl rfl ?_
        refine g_get 58 dX8_madeAgain_55 faX8_238_X5 q0_37 rfl rfl ?_
        have f40 := (S36.get (by omega) tb1_1)
        refine g_callV (z := mX0_unlike) (As := [.ref 6]) 61 dX8_madeAgain_58 mwX0_unlike ⟨by decide, by decide⟩ rfl wlX8_162 wiX0_unlike wsX0_unlike f40 rfl rfl rfl (nle rfl) (nle rfl) rfl ?_
        have f41 := (S36.get (by omega) tb2_1)
        have f42 := (S36.get (by omega) tb3_1)
        refine c_unl (M := (V 0 j).toNat) (N := 256) f40 f41 f42 q1_37 q2_37 q3_37 ta8_1 ta9_1 p2_37 p3_37 (by omega) (by omega) (by omega) (by omega) (by omega) (by omega) (fun z43 rz43 => ?_)
        refine rI ?_
        refine g_goto 66 dX8_madeAgain_61 rfl ?_
        refine g_iret rfl dX8_madeAgain_66 ?_
        exact k _ (z43) (by omega) H34 S36
  · refine g_aload_n 25 dX8_madeAgain_24 rfl rfl ?_
    refine g_aload_n 26 dX8_madeAgain_25 rfl rfl ?_
    refine g_aload_n 27 dX8_madeAgain_26 rfl rfl ?_
    refine g_callV (z := mX8_builtAgain) (As := [.ref (71 + 4 * j), .ref (34 + 2 * (V 2 j).toNat)]) 30 dX8_madeAgain_27 mwX8_builtAgain ⟨by decide, by decide⟩ rfl wlX8_248 wiX8_builtAgain wsX8_builtAgain F0 rfl rfl rfl (nle rfl) (nle rfl) rfl ?_
    refine y_bagain HC HS  (by omega) (by omega) (fun h45 z44 rz44 H46 s47 => ?_)
    refine rI ?_
    refine g_iret rfl dX8_madeAgain_30 ?_
    exact k _ (z44) rz44 H46 s47
set_option maxRecDepth 100000 in
theorem y_stale_l {l : Launch} {Q : Option Value → MH → Prop} {tc : Nat} {tr : Int64} {xn : Nat → Int} {xf V Bf Lf : Nat → Nat → Int}    : ∀ (m0 : Nat) (h : MH) (b : Int) (j : Int), ((tc : Int) - j).toNat = m0 → CORE2 h tc tr xn xf V Bf Lf → SC2 h → (rg b) → (0 ≤ j ∧ j ≤ 13) → (∀ (h1 : MH) (r : Int), (rg r) → SC2 h1 → Scr2 h h1 → Q (some (.int (iZ r))) h1) → Go l mX8_staleBits 4 [some (.ref 0), some (.int (iZ b)), some (.int (iZ j)), none] [] h Q := by
  intro m0
  induction m0 using Nat.strongRecOn with
  | ind m0 ih =>
    intro h b j hmz HC HS rb hj k
    obtain ⟨F0, F3, F4, htc, HT, HL⟩ := id HC
    refine g_iload_n 5 dX8_staleBits_4 rfl rfl ?_
    refine g_aload_n 6 dX8_staleBits_5 rfl rfl ?_
    refine g_get 9 dX8_staleBits_6 faX8_26_X8 F0 rfl rfl ?_
    refine g_icZ_ge 50 12 dX8_staleBits_9 rfl rfl (by omega) (by omega) (fun c1 => ?_) (fun c1 => ?_)
    · refine g_iload_n 51 dX8_staleBits_50 rfl rfl ?_
      refine g_iret rfl dX8_staleBits_51 ?_
      exact k _ (b) (by omega) HS (Scr2.refl _)
    · refine g_aload_n 13 dX8_staleBits_12 rfl rfl ?_
      refine g_iload_n 14 dX8_staleBits_13 rfl rfl ?_
      refine g_callV (z := mX8_toolAt) (As := [.int (iZ j)]) 17 dX8_staleBits_14 mwX8_toolAt ⟨by decide, by decide⟩ rfl wlX8_90 wiX8_toolAt wsX8_toolAt F0 rfl rfl rfl (nle rfl) (nle rfl) rfl ?_
      refine Go.to [some (.ref 0), some (.int (iZ j))] [] rfl rfl ?_
      refine g_iload_n 1 dX8_toolAt_0 rfl rfl ?_
      refine g_ifZ_lt 18 4 dX8_toolAt_1 rfl rfl (by omega) (fun q => absurd q (by omega)) (fun _ => ?_)
      refine g_iload_n 5 dX8_toolAt_4 rfl rfl ?_
      refine g_aload_n 6 dX8_toolAt_5 rfl rfl ?_
      refine g_get 9 dX8_toolAt_6 faX8_26_X8 F0 rfl rfl ?_
      refine g_icZ_ge 18 12 dX8_toolAt_9 rfl rfl (by omega) (by omega) (fun q => absurd q (by omega)) (fun _ => ?_)
      refine g_iload_n 13 dX8_toolAt_12 rfl rfl ?_
      refine g_bipush (v := iZ (12)) 15 dX8_toolAt_13 (by decide +kernel) rfl ?_
      refine g_icZ_lt 22 18 dX8_toolAt_15 rfl rfl (by omega) (by decide) (fun c2 => ?_) (fun c2 => ?_)
      · refine g_aload_n 23 dX8_toolAt_22 rfl rfl ?_
        refine g_get 26 dX8_toolAt_23 faX8_22_X8 F0 rfl rfl ?_
        refine g_iload_n 27 dX8_toolAt_26 rfl rfl ?_
        refine g_aaldZ 28 dX8_toolAt_27 F4 (by decide) (by omega) (by omega) (by decide) (tls_at (by omega) (by omega)) rfl ?_
        refine g_aret rfl (Or.inr ⟨_, rfl⟩) dX8_toolAt_28 ?_
        refine rR ?_
        refine g_astore_n (L1 := [some (.ref 0), some (.int (iZ b)), some (.int (iZ j)), some (.ref (71 + 4 * j.toNat))]) 18 dX8_staleBits_17 (by decide) rfl rfl rfl ?_
        refine g_aload_n 19 dX8_staleBits_18 rfl rfl ?_
        refine g_ifnull 22 dX8_staleBits_19 rfl ?_
        refine g_iload_n 23 dX8_staleBits_22 rfl rfl ?_
        refine g_aload_n 24 dX8_staleBits_23 rfl rfl ?_
        refine g_callS (z := mX8_isBuiltByOneOf) (As := [.int (iZ b), .ref (71 + 4 * j.toNat)]) 27 dX8_staleBits_24 mwX8_isBuiltByOneOf ⟨by decide, by decide⟩ rfl wlX8_252 wtX8_isBuiltByOneOf rfl (nle rfl) (nle rfl) rfl ?_
        refine y_blt1 HC (by omega) (by omega) (fun z3 rz3 => ?_)
        refine rI ?_
        refine g_ifZ_ne 38 30 dX8_staleBits_27 rfl rfl (rg01 rz3) (fun c4 => ?_) (fun c4 => ?_)
        · refine g_iload_n 39 dX8_staleBits_38 rfl rfl ?_
          refine g_iconst (v := iZ (1)) 40 dX8_staleBits_39 rfl rfl ?_
          refine g_iload_n 41 dX8_staleBits_40 rfl rfl ?_
          refine g_ishl 42 dX8_staleBits_41 rfl ?_
          refine Go.genZ (fun z5 rz5 => ?_)
          refine g_ior 43 dX8_staleBits_42 rfl ?_
          refine Go.genZ (fun z6 rz6 => ?_)
          refine g_istore_n (L1 := [some (.ref 0), some (.int (iZ z6)), some (.int (iZ j)), some (.ref (71 + 4 * j.toNat))]) 44 dX8_staleBits_43 (by decide) rfl rfl rfl ?_
          refine g_iincZ [some (.ref 0), some (.int (iZ z6)), some (.int (iZ (j + 1))), some (.ref (71 + 4 * j.toNat))] 47 dX8_staleBits_44 rfl (by omega) (by decide) rfl rfl rfl ?_
          refine g_goto 4 dX8_staleBits_47 rfl ?_
          refine Go.fgt 3 ?_
          exact ih _ (by omega) _ (z6) (j + 1) rfl HC HS rz6 (by omega) k
        · refine g_aload_n 31 dX8_staleBits_30 rfl rfl ?_
          refine g_aload_n 32 dX8_staleBits_31 rfl rfl ?_
          refine g_callV (z := mX8_madeAgain) (As := [.ref (71 + 4 * j.toNat)]) 35 dX8_staleBits_32 mwX8_madeAgain ⟨by decide, by decide⟩ rfl wlX8_154 wiX8_madeAgain wsX8_madeAgain F0 rfl rfl rfl (nle rfl) (nle rfl) rfl ?_
          refine y_again HC HS  (by omega) (fun h8 z7 rz7 H9 s10 => ?_)
          refine rI ?_
          refine g_ifZ_eq 44 38 dX8_staleBits_35 rfl rfl rz7 (fun c11 => ?_) (fun c11 => ?_)
          · refine g_iincZ [some (.ref 0), some (.int (iZ b)), some (.int (iZ (j + 1))), some (.ref (71 + 4 * j.toNat))] 47 dX8_staleBits_44 rfl (by omega) (by decide) rfl rfl rfl ?_
            refine g_goto 4 dX8_staleBits_47 rfl ?_
            refine Go.fgt 3 ?_
            exact ih _ (by omega) _ (b) (j + 1) rfl (HC.scr s10) H9 (by omega) (by omega) (fun h9 r9 y9 a9 b9 => k h9 r9 y9 a9 (s10.tr b9))
          · refine g_iload_n 39 dX8_staleBits_38 rfl rfl ?_
            refine g_iconst (v := iZ (1)) 40 dX8_staleBits_39 rfl rfl ?_
            refine g_iload_n 41 dX8_staleBits_40 rfl rfl ?_
            refine g_ishl 42 dX8_staleBits_41 rfl ?_
            refine Go.genZ (fun z12 rz12 => ?_)
            refine g_ior 43 dX8_staleBits_42 rfl ?_
            refine Go.genZ (fun z13 rz13 => ?_)
            refine g_istore_n (L1 := [some (.ref 0), some (.int (iZ z13)), some (.int (iZ j)), some (.ref (71 + 4 * j.toNat))]) 44 dX8_staleBits_43 (by decide) rfl rfl rfl ?_
            refine g_iincZ [some (.ref 0), some (.int (iZ z13)), some (.int (iZ (j + 1))), some (.ref (71 + 4 * j.toNat))] 47 dX8_staleBits_44 rfl (by omega) (by decide) rfl rfl rfl ?_
            refine g_goto 4 dX8_staleBits_47 rfl ?_
            refine Go.fgt 3 ?_
            exact ih _ (by omega) _ (z13) (j + 1) rfl (HC.scr s10) H9 rz13 (by omega) (fun h9 r9 y9 a9 b9 => k h9 r9 y9 a9 (s10.tr b9))
      · refine g_null 19 dX8_toolAt_18 rfl ?_
        refine g_goto 28 dX8_toolAt_19 rfl ?_
        refine g_aret rfl (Or.inl rfl) dX8_toolAt_28 ?_
        refine rN ?_
        refine g_astore_nN (L1 := [some (.ref 0), some (.int (iZ b)), some (.int (iZ j)), some (.null)]) 18 dX8_staleBits_17 (by decide) rfl rfl rfl ?_
        refine g_aload_nN 19 dX8_staleBits_18 rfl rfl ?_
        refine g_ifnullN 44 dX8_staleBits_19 rfl ?_
        refine g_iincZ [some (.ref 0), some (.int (iZ b)), some (.int (iZ (j + 1))), some (.null)] 47 dX8_staleBits_44 rfl (by omega) (by decide) rfl rfl rfl ?_
        refine g_goto 4 dX8_staleBits_47 rfl ?_
        refine Go.fgt 3 ?_
        exact ih _ (by omega) _ (b) (j + 1) rfl HC HS (by omega) (by omega) k
set_option maxRecDepth 100000 in
theorem y_stale {l : Launch} {h : MH} {Q : Option Value → MH → Prop} {tc : Nat} {tr : Int64} {xn : Nat → Int} {xf V Bf Lf : Nat → Nat → Int}  (HC : CORE2 h tc tr xn xf V Bf Lf) (HS : SC2 h)   (k : ∀ (h1 : MH) (r : Int), (rg r) → SC2 h1 → Scr2 h h1 → Q (some (.int (iZ r))) h1) : Go l mX8_staleBits 0 [some (.ref 0), none, none, none] [] h Q := by
  obtain ⟨F0, F3, F4, htc, HT, HL⟩ := id HC
  refine g_iconst (v := iZ (0)) 1 dX8_staleBits_0 rfl rfl ?_
  refine g_istore_n (L1 := [some (.ref 0), some (.int (iZ 0)), none, none]) 2 dX8_staleBits_1 (by decide) rfl rfl rfl ?_
  refine g_iconst (v := iZ (0)) 3 dX8_staleBits_2 rfl rfl ?_
  refine g_istore_n (L1 := [some (.ref 0), some (.int (iZ 0)), some (.int (iZ 0)), none]) 4 dX8_staleBits_3 (by decide) rfl rfl rfl ?_
  exact y_stale_l   _ _ (0) (0) rfl HC HS (by decide) (by omega) k
set_option maxRecDepth 100000 in
theorem y_round {l : Launch} {h : MH} {Q : Option Value → MH → Prop} {tc : Nat} {tr : Int64} {xn : Nat → Int} {xf V Bf Lf : Nat → Nat → Int} {j k0 i : Nat} (HC : CORE2 h tc tr xn xf V Bf Lf) (HS : SC2 h)  (hj : j < tc) (hk0 : k0 < tc) (hi : i < 8) (k : ∀ (h1 : MH) (r : Int), (rg r) → SC2 h1 → Scr2 h h1 → Q (some (.int (iZ r))) h1) : Go l mX8_goneRound 0 [some (.ref 0), some (.ref (71 + 4 * j)), some (.ref (71 + 4 * k0)), some (.ref (34 + 2 * i)), none] [] h Q := by
  obtain ⟨F0, F3, F4, htc, HT, HL⟩ := id HC
  refine g_aload_n 1 dX8_goneRound_0 rfl rfl ?_
  refine g_get 4 dX8_goneRound_1 faX8_50_X8 F0 rfl rfl ?_
  refine g_aload_n 5 dX8_goneRound_4 rfl rfl ?_
  obtain ⟨ta1_1, ta2_1, ta3_1, ta4_1, ta5_1, ta6_1, ta7_1, ta8_1, ta9_1, tb0_1, tb1_1, tb2_1, tb3_1⟩ := HL (j) (by omega)
  refine g_get 8 dX8_goneRound_5 faX8_94_X7 tb0_1 rfl rfl ?_
  refine g_aload_n 9 dX8_goneRound_8 rfl rfl ?_
  obtain ⟨a_2, x_2, p_2, en_2, dn_2, tk_2, hm_2, on_2, mm_2, of_2, og_2, ma1_2, ma2_2, ma3_2, ma4_2, ma5_2, ma6_2, ma7_2, ma8_2, ma9_2, ma10_2, ma11_2, mb0_2, mb1_2, mb2_2, mb3_2, mb4_2⟩ := SC2.m (m := 20) (by decide) HS
  refine g_callV (z := mX2_builds) (As := [.ref (71 + 4 * j + 1), .ref (34 + 2 * i)]) 12 dX8_goneRound_9 mwX2_builds ⟨by decide, by decide⟩ rfl wlX8_98 wiX2_builds wsX2_builds mb0_2 rfl rfl rfl (nle rfl) (nle rfl) rfl ?_
  obtain ⟨t0_3, t1_3, t2_3, t3_3, t4_3⟩ := HT (i) (by omega)
  refine sc2_bl (m := 20) (M := (V 0 j).toNat) (by decide) HS tb1_1 tb2_1 tb3_1 ta8_1 ta9_1 (by omega) (by omega) (by omega) (by omega) t0_3 t1_3 t4_3 (by omega) (by omega) (fun h4 z5 a6 x7 p8 e9 d10 t11 hm12 c13 mm14 of15 og16 r17 R18 X19 H20 s21 => ?_)
  have S22 : Scr2 _ _ := s21.scr2 (by decide)
  obtain ⟨ma1_23, ma2_23, ma3_23, ma4_23, ma5_23, ma6_23, ma7_23, ma8_23, ma9_23, ma10_23, ma11_23, mb0_23, mb1_23, mb2_23, mb3_23, mb4_23⟩ := id X19
  refine rI ?_
  refine g_ifZ_eq 70 15 dX8_goneRound_12 rfl rfl (rg01 (by omega)) (fun c24 => ?_) (fun c24 => ?_)
  · refine g_iconst (v := iZ (0)) 71 dX8_goneRound_70 rfl rfl ?_
    refine g_istore (L1 := [some (.ref 0), some (.ref (71 + 4 * j)), some (.ref (71 + 4 * k0)), some (.ref (34 + 2 * i)), some (.int (iZ 0))]) 73 dX8_goneRound_71 (by decide) rfl rfl rfl ?_
    refine g_iload 75 dX8_goneRound_73 rfl rfl ?_
    refine g_ifZ_eq 98 78 dX8_goneRound_75 rfl rfl (by decide) (fun _ => ?_) (fun q => absurd q (by decide))
    refine g_bipush (v := iZ (-2)) 100 dX8_goneRound_98 (by decide +kernel) rfl ?_
    refine g_iret rfl dX8_goneRound_100 ?_
    exact k _ (-2) (by decide) H20 S22
  · refine g_aload_n 16 dX8_goneRound_15 rfl rfl ?_
    have f25 := (S22.get (by omega) F0)
    refine g_get 19 dX8_goneRound_16 faX8_50_X8 f25 rfl rfl ?_
    refine g_aload_n 20 dX8_goneRound_19 rfl rfl ?_
    refine g_get 23 dX8_goneRound_20 faX8_50_X8 f25 rfl rfl ?_
    refine g_get 26 dX8_goneRound_23 faX8_102_X2 mb0_23 rfl rfl ?_
    refine g_aload_n 27 dX8_goneRound_26 rfl rfl ?_
    refine g_callV (z := mX2_builds) (As := [.ref 22, .ref (34 + 2 * i)]) 30 dX8_goneRound_27 mwX2_builds ⟨by decide, by decide⟩ rfl wlX8_98 wiX2_builds wsX2_builds mb0_23 rfl rfl rfl (nle rfl) (nle rfl) rfl ?_
    have f26 := (S22.get (by omega) t0_3)
    have f27 := (S22.get (by omega) t1_3)
    refine sc2_bl (m := 20) (M := 256) (by decide) H20 mb2_23 mb3_23 mb4_23 ma10_23 ma11_23 (by omega) (by decide) (by omega) (by omega) f26 f27 t4_3 (by omega) (by omega) (fun h28 z29 a30 x31 p32 e33 d34 t35 hm36 c37 mm38 of39 og40 r41 R42 X43 H44 s45 => ?_)
    have S46 : Scr2 _ _ := s45.scr2 (by decide)
    obtain ⟨ma1_47, ma2_47, ma3_47, ma4_47, ma5_47, ma6_47, ma7_47, ma8_47, ma9_47, ma10_47, ma11_47, mb0_47, mb1_47, mb2_47, mb3_47, mb4_47⟩ := id X43
    refine rI ?_
    refine g_ifZ_eq 70 33 dX8_goneRound_30 rfl rfl (rg01 (by omega)) (fun c48 => ?_) (fun c48 => ?_)
    · refine g_iconst (v := iZ (0)) 71 dX8_goneRound_70 rfl rfl ?_
      refine g_istore (L1 := [some (.ref 0), some (.ref (71 + 4 * j)), some (.ref (71 + 4 * k0)), some (.ref (34 + 2 * i)), some (.int (iZ 0))]) 73 dX8_goneRound_71 (by decide) rfl rfl rfl ?_
      refine g_iload 75 dX8_goneRound_73 rfl rfl ?_
      refine g_ifZ_eq 98 78 dX8_goneRound_75 rfl rfl (by decide) (fun _ => ?_) (fun q => absurd q (by decide))
      refine g_bipush (v := iZ (-2)) 100 dX8_goneRound_98 (by decide +kernel) rfl ?_
      refine g_iret rfl dX8_goneRound_100 ?_
      exact k _ (-2) (by decide) H44 (S22.tr S46)
    · refine g_aload_n 34 dX8_goneRound_33 rfl rfl ?_
      have f49 := (S46.get (by omega) f25)
      refine g_get 37 dX8_goneRound_34 faX8_53_X8 f49 rfl rfl ?_
      refine g_aload_n 38 dX8_goneRound_37 rfl rfl ?_
      obtain ⟨ta1_50, ta2_50, ta3_50, ta4_50, ta5_50, ta6_50, ta7_50, ta8_50, ta9_50, tb0_50, tb1_50, tb2_50, tb3_50⟩ := HL (k0) (by omega)
      have f51 := (S46.get (by omega) (S22.get (by omega) tb0_50))
      refine g_get 41 dX8_goneRound_38 faX8_94_X7 f51 rfl rfl ?_
      refine g_aload_n 42 dX8_goneRound_41 rfl rfl ?_
      obtain ⟨a_52, x_52, p_52, en_52, dn_52, tk_52, hm_52, on_52, mm_52, of_52, og_52, ma1_52, ma2_52, ma3_52, ma4_52, ma5_52, ma6_52, ma7_52, ma8_52, ma9_52, ma10_52, ma11_52, mb0_52, mb1_52, mb2_52, mb3_52, mb4_52⟩ := SC2.m (m := 25) (by decide) H44
      refine g_callV (z := mX2_builds) (As := [.ref (71 + 4 * k0 + 1), .ref (34 + 2 * i)]) 45 dX8_goneRound_42 mwX2_builds ⟨by decide, by decide⟩ rfl wlX8_98 wiX2_builds wsX2_builds mb0_52 rfl rfl rfl (nle rfl) (nle rfl) rfl ?_
      have f53 := (S46.get (by omega) f26)
      have f54 := (S46.get (by omega) f27)
      have f55 := (S46.get (by omega) (S22.get (by omega) tb1_50))
      have f56 := (S46.get (by omega) (S22.get (by omega) tb2_50))
      have f57 := (S46.get (by omega) (S22.get (by omega) tb3_50))
      refine sc2_bl (m := 25) (M := (V 0 k0).toNat) (by decide) H44 f55 f56 f57 ta8_50 ta9_50 (by omega) (by omega) (by omega) (by omega) f53 f54 t4_3 (by omega) (by omega) (fun h58 z59 a60 x61 p62 e63 d64 t65 hm66 c67 mm68 of69 og70 r71 R72 X73 H74 s75 => ?_)
      have S76 : Scr2 _ _ := s75.scr2 (by decide)
      have f77 := s75.get (by decide) mb0_47
      have f78 := s75.get (by decide) mb1_47
      have f79 := s75.get (by decide) mb2_47
      have f80 := s75.get (by decide) mb3_47
      have f81 := s75.get (by decide) mb4_47
      obtain ⟨ma1_82, ma2_82, ma3_82, ma4_82, ma5_82, ma6_82, ma7_82, ma8_82, ma9_82, ma10_82, ma11_82, mb0_82, mb1_82, mb2_82, mb3_82, mb4_82⟩ := id X73
      refine rI ?_
      refine g_ifZ_eq 70 48 dX8_goneRound_45 rfl rfl (rg01 (by omega)) (fun c83 => ?_) (fun c83 => ?_)
      · refine g_iconst (v := iZ (0)) 71 dX8_goneRound_70 rfl rfl ?_
        refine g_istore (L1 := [some (.ref 0), some (.ref (71 + 4 * j)), some (.ref (71 + 4 * k0)), some (.ref (34 + 2 * i)), some (.int (iZ 0))]) 73 dX8_goneRound_71 (by decide) rfl rfl rfl ?_
        refine g_iload 75 dX8_goneRound_73 rfl rfl ?_
        refine g_ifZ_eq 98 78 dX8_goneRound_75 rfl rfl (by decide) (fun _ => ?_) (fun q => absurd q (by decide))
        refine g_bipush (v := iZ (-2)) 100 dX8_goneRound_98 (by decide +kernel) rfl ?_
        refine g_iret rfl dX8_goneRound_100 ?_
        exact k _ (-2) (by decide) H74 ((S22.tr S46).tr S76)
      · refine g_aload_n 49 dX8_goneRound_48 rfl rfl ?_
        have f84 := (S76.get (by omega) f49)
        refine g_get 52 dX8_goneRound_49 faX8_53_X8 f84 rfl rfl ?_
        refine g_aload_n 53 dX8_goneRound_52 rfl rfl ?_
        refine g_get 56 dX8_goneRound_53 faX8_53_X8 f84 rfl rfl ?_
        refine g_get 59 dX8_goneRound_56 faX8_102_X2 mb0_82 rfl rfl ?_
        refine g_aload_n 60 dX8_goneRound_59 rfl rfl ?_
        refine g_callV (z := mX2_builds) (As := [.ref 27, .ref (34 + 2 * i)]) 63 dX8_goneRound_60 mwX2_builds ⟨by decide, by decide⟩ rfl wlX8_98 wiX2_builds wsX2_builds mb0_82 rfl rfl rfl (nle rfl) (nle rfl) rfl ?_
        have f85 := (S76.get (by omega) f53)
        have f86 := (S76.get (by omega) f54)
        refine sc2_bl (m := 25) (M := 256) (by decide) H74 mb2_82 mb3_82 mb4_82 ma10_82 ma11_82 (by omega) (by decide) (by omega) (by omega) f85 f86 t4_3 (by omega) (by omega) (fun h87 z88 a89 x90 p91 e92 d93 t94 hm95 c96 mm97 of98 og99 r100 R101 X102 H103 s104 => ?_)
        have S105 : Scr2 _ _ := s104.scr2 (by decide)
        have f106 := s104.get (by decide) f77
        have f107 := s104.get (by decide) f78
        have f108 := s104.get (by decide) f79
        have f109 := s104.get (by decide) f80
        have f110 := s104.get (by decide) f81
        obtain ⟨ma1_111, ma2_111, ma3_111, ma4_111, ma5_111, ma6_111, ma7_111, ma8_111, ma9_111, ma10_111, ma11_111, mb0_111, mb1_111, mb2_111, mb3_111, mb4_111⟩ := id X102
        refine rI ?_
        refine g_ifZ_eq 70 66 dX8_goneRound_63 rfl rfl (rg01 (by omega)) (fun c112 => ?_) (fun c112 => ?_)
        · refine g_iconst (v := iZ (0)) 71 dX8_goneRound_70 rfl rfl ?_
          refine g_istore (L1 := [some (.ref 0), some (.ref (71 + 4 * j)), some (.ref (71 + 4 * k0)), some (.ref (34 + 2 * i)), some (.int (iZ 0))]) 73 dX8_goneRound_71 (by decide) rfl rfl rfl ?_
          refine g_iload 75 dX8_goneRound_73 rfl rfl ?_
          refine g_ifZ_eq 98 78 dX8_goneRound_75 rfl rfl (by decide) (fun _ => ?_) (fun q => absurd q (by decide))
          refine g_bipush (v := iZ (-2)) 100 dX8_goneRound_98 (by decide +kernel) rfl ?_
          refine g_iret rfl dX8_goneRound_100 ?_
          exact k _ (-2) (by decide) H103 (((S22.tr S46).tr S76).tr S105)
        · refine g_iconst (v := iZ (1)) 67 dX8_goneRound_66 rfl rfl ?_
          refine g_goto 71 dX8_goneRound_67 rfl ?_
          refine g_istore (L1 := [some (.ref 0), some (.ref (71 + 4 * j)), some (.ref (71 + 4 * k0)), some (.ref (34 + 2 * i)), some (.int (iZ 1))]) 73 dX8_goneRound_71 (by decide) rfl rfl rfl ?_
          refine g_iload 75 dX8_goneRound_73 rfl rfl ?_
          refine g_ifZ_eq 98 78 dX8_goneRound_75 rfl rfl (by decide) (fun q => absurd q (by decide)) (fun _ => ?_)
          refine g_aload_n 79 dX8_goneRound_78 rfl rfl ?_
          have f113 := (S105.get (by omega) f84)
          refine g_get 82 dX8_goneRound_79 faX8_50_X8 f113 rfl rfl ?_
          refine g_get 85 dX8_goneRound_82 faX8_102_X2 f106 rfl rfl ?_
          refine g_aload_n 86 dX8_goneRound_85 rfl rfl ?_
          refine g_get 89 dX8_goneRound_86 faX8_53_X8 f113 rfl rfl ?_
          refine g_get 92 dX8_goneRound_89 faX8_102_X2 mb0_111 rfl rfl ?_
          refine g_callV (z := mX0_unlike) (As := [.ref 27]) 95 dX8_goneRound_92 mwX0_unlike ⟨by decide, by decide⟩ rfl wlX8_162 wiX0_unlike wsX0_unlike f108 rfl rfl rfl (nle rfl) (nle rfl) rfl ?_
          refine c_unl (M := 256) (N := 256) f108 f109 f110 mb2_111 mb3_111 mb4_111 ma10_47 ma11_47 ma10_111 ma11_111 (by omega) (by omega) (by omega) (by omega) (by omega) (by omega) (fun z114 rz114 => ?_)
          refine rI ?_
          refine g_goto 100 dX8_goneRound_95 rfl ?_
          refine g_iret rfl dX8_goneRound_100 ?_
          exact k _ (z114) (by omega) H103 (((S22.tr S46).tr S76).tr S105)
theorem chl_s {g : Nat → Int} {i n : Int} {j : Nat} (hn : 0 ≤ n) (hI : ∀ m : Nat, (m : Int) < n → 0 ≤ itB g i m) (hC : itB g i n.toNat = (j : Int)) : (∀ m : Nat, (m : Int) < n + 1 → 0 ≤ itB g i m) ∧ itB g i (n + 1).toNat = g j := by
  refine ⟨fun m hm => ?_, itB_n hn hC⟩
  by_cases e : (m : Int) = n
  · have : m = n.toNat := by omega
    rw [this, hC]
    omega
  · exact hI m (by omega)
set_option maxRecDepth 100000 in
theorem y_chl_l {l : Launch} {Q : Option Value → MH → Prop} {tc : Nat} {tr : Int64} {xn : Nat → Int} {xf V Bf Lf : Nat → Nat → Int} {i : Int} (ri : rg i)  : ∀ (m0 : Nat) (h : MH) (n : Int) (v : Value), (12 - n).toNat = m0 → CORE2 h tc tr xn xf V Bf Lf → (0 ≤ n ∧ n ≤ 12) → (∀ m : Nat, (m : Int) < n → 0 ≤ itB (V 3) i m) → ((v = .null ∧ (0 ≤ i ∧ i < tc → itB (V 3) i n.toNat = -9 ∧ 1 ≤ n)) ∨ ∃ j, j < tc ∧ v = .ref (71 + 4 * j) ∧ itB (V 3) i n.toNat = (j : Int) ∧ (j : Int) + n ≤ i ∧ i < tc) → (∀ r : Int, ((0 ≤ i ∧ i < tc → isLen (V 3) i r) ∧ 0 ≤ r ∧ r ≤ 12) → Q (some (.int (iZ r))) h) → Go l mX8_chainLength 8 [some (.ref 0), some (.int (iZ i)), some (.int (iZ n)), some (v)] [] h Q := by
  intro m0
  induction m0 using Nat.strongRecOn with
  | ind m0 ih =>
    intro h n v hmz HC hn hI hv k
    obtain ⟨F0, F3, F4, htc, HT, HL⟩ := id HC
    rcases hv with ⟨rfl, hz⟩ | ⟨j, hj, rfl, hC, hjn, hit⟩
    ·
      refine g_aload_nN 9 dX8_chainLength_8 rfl rfl ?_
      refine g_ifnullN 33 dX8_chainLength_9 rfl ?_
      refine g_iload_n 34 dX8_chainLength_33 rfl rfl ?_
      refine g_iret rfl dX8_chainLength_34 ?_
      exact k (n) ⟨fun q => ⟨(hz q).2, hI, (hz q).1⟩, by omega, by omega⟩
    ·
      refine g_aload_n 9 dX8_chainLength_8 rfl rfl ?_
      refine g_ifnull 12 dX8_chainLength_9 rfl ?_
      refine g_iload_n 13 dX8_chainLength_12 rfl rfl ?_
      refine g_bipush (v := iZ (12)) 15 dX8_chainLength_13 (by decide +kernel) rfl ?_
      refine g_icZ_ge 33 18 dX8_chainLength_15 rfl rfl (by omega) (by decide) (fun c1 => ?_) (fun c1 => ?_)
      · refine g_iload_n 34 dX8_chainLength_33 rfl rfl ?_
        refine g_iret rfl dX8_chainLength_34 ?_
        exact k (n) (by exfalso; omega)
      · refine g_iincZ [some (.ref 0), some (.int (iZ i)), some (.int (iZ (n + 1))), some (.ref (71 + 4 * j))] 21 dX8_chainLength_18 rfl (by omega) (by decide) rfl rfl rfl ?_
        refine g_aload_n 22 dX8_chainLength_21 rfl rfl ?_
        refine g_aload_n 23 dX8_chainLength_22 rfl rfl ?_
        obtain ⟨ta1_2, ta2_2, ta3_2, ta4_2, ta5_2, ta6_2, ta7_2, ta8_2, ta9_2, tb0_2, tb1_2, tb2_2, tb3_2⟩ := HL (j) (by omega)
        refine g_get 26 dX8_chainLength_23 faX8_118_X7 tb0_2 rfl rfl ?_
        refine g_callV (z := mX8_toolAt) (As := [.int (iZ (V 3 j))]) 29 dX8_chainLength_26 mwX8_toolAt ⟨by decide, by decide⟩ rfl wlX8_90 wiX8_toolAt wsX8_toolAt F0 rfl rfl rfl (nle rfl) (nle rfl) rfl ?_
        refine Go.to [some (.ref 0), some (.int (iZ (V 3 j)))] [] rfl rfl ?_
        refine g_iload_n 1 dX8_toolAt_0 rfl rfl ?_
        refine g_ifZ_lt 18 4 dX8_toolAt_1 rfl rfl (by omega) (fun c3 => ?_) (fun c3 => ?_)
        · refine g_null 19 dX8_toolAt_18 rfl ?_
          refine g_goto 28 dX8_toolAt_19 rfl ?_
          refine g_aret rfl (Or.inl rfl) dX8_toolAt_28 ?_
          refine rN ?_
          refine g_astore_nN (L1 := [some (.ref 0), some (.int (iZ i)), some (.int (iZ (n + 1))), some (.null)]) 30 dX8_chainLength_29 (by decide) rfl rfl rfl ?_
          refine g_goto 8 dX8_chainLength_30 rfl ?_
          exact ih _ (by omega) _ (n + 1) (.null) rfl HC (by omega) (chl_s (by omega) hI hC).1 (Or.inl ⟨rfl, fun q => ⟨by rw [(chl_s (by omega) hI hC).2]; omega, by omega⟩⟩) k
        · refine g_iload_n 5 dX8_toolAt_4 rfl rfl ?_
          refine g_aload_n 6 dX8_toolAt_5 rfl rfl ?_
          refine g_get 9 dX8_toolAt_6 faX8_26_X8 F0 rfl rfl ?_
          refine g_icZ_ge 18 12 dX8_toolAt_9 rfl rfl (by omega) (by omega) (fun c4 => ?_) (fun c4 => ?_)
          · refine g_null 19 dX8_toolAt_18 rfl ?_
            refine g_goto 28 dX8_toolAt_19 rfl ?_
            refine g_aret rfl (Or.inl rfl) dX8_toolAt_28 ?_
            refine rN ?_
            refine g_astore_nN (L1 := [some (.ref 0), some (.int (iZ i)), some (.int (iZ (n + 1))), some (.null)]) 30 dX8_chainLength_29 (by decide) rfl rfl rfl ?_
            refine g_goto 8 dX8_chainLength_30 rfl ?_
            exact ih _ (by omega) _ (n + 1) (.null) rfl HC (by omega) (chl_s (by omega) hI hC).1 (Or.inl ⟨rfl, fun q => ⟨by rw [(chl_s (by omega) hI hC).2]; omega, by omega⟩⟩) k
          · refine g_iload_n 13 dX8_toolAt_12 rfl rfl ?_
            refine g_bipush (v := iZ (12)) 15 dX8_toolAt_13 (by decide +kernel) rfl ?_
            refine g_icZ_lt 22 18 dX8_toolAt_15 rfl rfl (by omega) (by decide) (fun _ => ?_) (fun q => absurd q (by omega))
            refine g_aload_n 23 dX8_toolAt_22 rfl rfl ?_
            refine g_get 26 dX8_toolAt_23 faX8_22_X8 F0 rfl rfl ?_
            refine g_iload_n 27 dX8_toolAt_26 rfl rfl ?_
            refine g_aaldZ 28 dX8_toolAt_27 F4 (by decide) (by omega) (by omega) (by decide) (tls_at (by omega) (by omega)) rfl ?_
            refine g_aret rfl (Or.inr ⟨_, rfl⟩) dX8_toolAt_28 ?_
            refine rR ?_
            refine g_astore_n (L1 := [some (.ref 0), some (.int (iZ i)), some (.int (iZ (n + 1))), some (.ref (71 + 4 * (V 3 j).toNat))]) 30 dX8_chainLength_29 (by decide) rfl rfl rfl ?_
            refine g_goto 8 dX8_chainLength_30 rfl ?_
            exact ih _ (by omega) _ (n + 1) (.ref (71 + 4 * (V 3 j).toNat)) rfl HC (by omega) (chl_s (by omega) hI hC).1 (Or.inr ⟨_, by omega, rfl, by rw [(chl_s (by omega) hI hC).2]; omega, by omega, by omega⟩) k
set_option maxRecDepth 100000 in
theorem y_chl {l : Launch} {h : MH} {Q : Option Value → MH → Prop} {tc : Nat} {tr : Int64} {xn : Nat → Int} {xf V Bf Lf : Nat → Nat → Int} {i : Int} (HC : CORE2 h tc tr xn xf V Bf Lf) (ri : rg i)  (k : ∀ r : Int, ((0 ≤ i ∧ i < tc → isLen (V 3) i r) ∧ 0 ≤ r ∧ r ≤ 12) → Q (some (.int (iZ r))) h) : Go l mX8_chainLength 0 [some (.ref 0), some (.int (iZ i)), none, none] [] h Q := by
  obtain ⟨F0, F3, F4, htc, HT, HL⟩ := id HC
  refine g_iconst (v := iZ (0)) 1 dX8_chainLength_0 rfl rfl ?_
  refine g_istore_n (L1 := [some (.ref 0), some (.int (iZ i)), some (.int (iZ 0)), none]) 2 dX8_chainLength_1 (by decide) rfl rfl rfl ?_
  refine g_aload_n 3 dX8_chainLength_2 rfl rfl ?_
  refine g_iload_n 4 dX8_chainLength_3 rfl rfl ?_
  refine g_callV (z := mX8_toolAt) (As := [.int (iZ i)]) 7 dX8_chainLength_4 mwX8_toolAt ⟨by decide, by decide⟩ rfl wlX8_90 wiX8_toolAt wsX8_toolAt F0 rfl rfl rfl (nle rfl) (nle rfl) rfl ?_
  refine Go.to [some (.ref 0), some (.int (iZ i))] [] rfl rfl ?_
  refine g_iload_n 1 dX8_toolAt_0 rfl rfl ?_
  refine g_ifZ_lt 18 4 dX8_toolAt_1 rfl rfl ri (fun c1 => ?_) (fun c1 => ?_)
  · refine g_null 19 dX8_toolAt_18 rfl ?_
    refine g_goto 28 dX8_toolAt_19 rfl ?_
    refine g_aret rfl (Or.inl rfl) dX8_toolAt_28 ?_
    refine rN ?_
    refine g_astore_nN (L1 := [some (.ref 0), some (.int (iZ i)), some (.int (iZ 0)), some (.null)]) 8 dX8_chainLength_7 (by decide) rfl rfl rfl ?_
    exact y_chl_l ri  _ _ (0) (.null) rfl HC (by omega) (fun m hm => by omega) (Or.inl ⟨rfl, fun q => by omega⟩) k
  · refine g_iload_n 5 dX8_toolAt_4 rfl rfl ?_
    refine g_aload_n 6 dX8_toolAt_5 rfl rfl ?_
    refine g_get 9 dX8_toolAt_6 faX8_26_X8 F0 rfl rfl ?_
    refine g_icZ_ge 18 12 dX8_toolAt_9 rfl rfl ri (by omega) (fun c2 => ?_) (fun c2 => ?_)
    · refine g_null 19 dX8_toolAt_18 rfl ?_
      refine g_goto 28 dX8_toolAt_19 rfl ?_
      refine g_aret rfl (Or.inl rfl) dX8_toolAt_28 ?_
      refine rN ?_
      refine g_astore_nN (L1 := [some (.ref 0), some (.int (iZ i)), some (.int (iZ 0)), some (.null)]) 8 dX8_chainLength_7 (by decide) rfl rfl rfl ?_
      exact y_chl_l ri  _ _ (0) (.null) rfl HC (by omega) (fun m hm => by omega) (Or.inl ⟨rfl, fun q => by omega⟩) k
    · refine g_iload_n 13 dX8_toolAt_12 rfl rfl ?_
      refine g_bipush (v := iZ (12)) 15 dX8_toolAt_13 (by decide +kernel) rfl ?_
      refine g_icZ_lt 22 18 dX8_toolAt_15 rfl rfl ri (by decide) (fun c3 => ?_) (fun c3 => ?_)
      · refine g_aload_n 23 dX8_toolAt_22 rfl rfl ?_
        refine g_get 26 dX8_toolAt_23 faX8_22_X8 F0 rfl rfl ?_
        refine g_iload_n 27 dX8_toolAt_26 rfl rfl ?_
        refine g_aaldZ 28 dX8_toolAt_27 F4 (by decide) (by omega) (by omega) (by decide) (tls_at (by omega) (by omega)) rfl ?_
        refine g_aret rfl (Or.inr ⟨_, rfl⟩) dX8_toolAt_28 ?_
        refine rR ?_
        refine g_astore_n (L1 := [some (.ref 0), some (.int (iZ i)), some (.int (iZ 0)), some (.ref (71 + 4 * i.toNat))]) 8 dX8_chainLength_7 (by decide) rfl rfl rfl ?_
        exact y_chl_l ri  _ _ (0) (.ref (71 + 4 * i.toNat)) rfl HC (by omega) (fun m hm => by omega) (Or.inr ⟨_, by omega, rfl, (by show i = _; omega), by omega, by omega⟩) k
      · refine g_null 19 dX8_toolAt_18 rfl ?_
        refine g_goto 28 dX8_toolAt_19 rfl ?_
        refine g_aret rfl (Or.inl rfl) dX8_toolAt_28 ?_
        refine rN ?_
        refine g_astore_nN (L1 := [some (.ref 0), some (.int (iZ i)), some (.int (iZ 0)), some (.null)]) 8 dX8_chainLength_7 (by decide) rfl rfl rfl ?_
        exact y_chl_l ri  _ _ (0) (.null) rfl HC (by omega) (fun m hm => by omega) (Or.inl ⟨rfl, fun q => by omega⟩) k
set_option maxRecDepth 100000 in
theorem y_cha_l {l : Launch} {Q : Option Value → MH → Prop} {tc : Nat} {tr : Int64} {xn : Nat → Int} {xf V Bf Lf : Nat → Nat → Int} {i k0 : Int} (ri : rg i) (rk0 : rg k0)  : ∀ (m0 : Nat) (h : MH) (a : Int) (n : Int), (12 - n).toNat = m0 → CORE2 h tc tr xn xf V Bf Lf → (rg a) → (0 ≤ n ∧ n ≤ 12) → (∀ r : Int, (rg r) → Q (some (.int (iZ r))) h) → Go l mX8_chainAt 5 [some (.ref 0), none, some (.int (iZ k0)), some (.int (iZ a)), some (.int (iZ n)), none] [] h Q := by
  intro m0
  induction m0 using Nat.strongRecOn with
  | ind m0 ih =>
    intro h a n hmz HC ra hn k
    obtain ⟨F0, F3, F4, htc, HT, HL⟩ := id HC
    refine g_iload 7 dX8_chainAt_5 rfl rfl ?_
    refine g_iload_n 8 dX8_chainAt_7 rfl rfl ?_
    refine g_icZ_ge 47 11 dX8_chainAt_8 rfl rfl (by omega) rk0 (fun c1 => ?_) (fun c1 => ?_)
    · refine g_iload_n 48 dX8_chainAt_47 rfl rfl ?_
      refine g_iret rfl dX8_chainAt_48 ?_
      exact k (a) ra
    · refine g_iload 13 dX8_chainAt_11 rfl rfl ?_
      refine g_bipush (v := iZ (12)) 15 dX8_chainAt_13 (by decide +kernel) rfl ?_
      refine g_icZ_ge 47 18 dX8_chainAt_15 rfl rfl (by omega) (by decide) (fun c2 => ?_) (fun c2 => ?_)
      · refine g_iload_n 48 dX8_chainAt_47 rfl rfl ?_
        refine g_iret rfl dX8_chainAt_48 ?_
        exact k (a) ra
      · refine g_aload_n 19 dX8_chainAt_18 rfl rfl ?_
        refine g_iload_n 20 dX8_chainAt_19 rfl rfl ?_
        refine g_callV (z := mX8_toolAt) (As := [.int (iZ a)]) 23 dX8_chainAt_20 mwX8_toolAt ⟨by decide, by decide⟩ rfl wlX8_90 wiX8_toolAt wsX8_toolAt F0 rfl rfl rfl (nle rfl) (nle rfl) rfl ?_
        refine Go.to [some (.ref 0), some (.int (iZ a))] [] rfl rfl ?_
        refine g_iload_n 1 dX8_toolAt_0 rfl rfl ?_
        refine g_ifZ_lt 18 4 dX8_toolAt_1 rfl rfl ra (fun c3 => ?_) (fun c3 => ?_)
        · refine g_null 19 dX8_toolAt_18 rfl ?_
          refine g_goto 28 dX8_toolAt_19 rfl ?_
          refine g_aret rfl (Or.inl rfl) dX8_toolAt_28 ?_
          refine rN ?_
          refine g_astoreN (L1 := [some (.ref 0), none, some (.int (iZ k0)), some (.int (iZ a)), some (.int (iZ n)), some (.null)]) 25 dX8_chainAt_23 (by decide) rfl rfl rfl ?_
          refine g_aloadN 27 dX8_chainAt_25 rfl rfl ?_
          refine g_ifnonnullN 30 dX8_chainAt_27 rfl ?_
          refine g_bipush (v := iZ (-9)) 32 dX8_chainAt_30 (by decide +kernel) rfl ?_
          refine g_goto 40 dX8_chainAt_32 rfl ?_
          refine g_istore_n (L1 := [some (.ref 0), none, some (.int (iZ k0)), some (.int (iZ (-9))), some (.int (iZ n)), some (.null)]) 41 dX8_chainAt_40 (by decide) rfl rfl rfl ?_
          refine g_iincZ [some (.ref 0), none, some (.int (iZ k0)), some (.int (iZ (-9))), some (.int (iZ (n + 1))), some (.null)] 44 dX8_chainAt_41 rfl (by omega) (by decide) rfl rfl rfl ?_
          refine g_goto 5 dX8_chainAt_44 rfl ?_
          refine Go.fgt 5 ?_
          exact ih _ (by omega) _ (-9) (n + 1) rfl HC (by decide) (by omega) k
        · refine g_iload_n 5 dX8_toolAt_4 rfl rfl ?_
          refine g_aload_n 6 dX8_toolAt_5 rfl rfl ?_
          refine g_get 9 dX8_toolAt_6 faX8_26_X8 F0 rfl rfl ?_
          refine g_icZ_ge 18 12 dX8_toolAt_9 rfl rfl ra (by omega) (fun c4 => ?_) (fun c4 => ?_)
          · refine g_null 19 dX8_toolAt_18 rfl ?_
            refine g_goto 28 dX8_toolAt_19 rfl ?_
            refine g_aret rfl (Or.inl rfl) dX8_toolAt_28 ?_
            refine rN ?_
            refine g_astoreN (L1 := [some (.ref 0), none, some (.int (iZ k0)), some (.int (iZ a)), some (.int (iZ n)), some (.null)]) 25 dX8_chainAt_23 (by decide) rfl rfl rfl ?_
            refine g_aloadN 27 dX8_chainAt_25 rfl rfl ?_
            refine g_ifnonnullN 30 dX8_chainAt_27 rfl ?_
            refine g_bipush (v := iZ (-9)) 32 dX8_chainAt_30 (by decide +kernel) rfl ?_
            refine g_goto 40 dX8_chainAt_32 rfl ?_
            refine g_istore_n (L1 := [some (.ref 0), none, some (.int (iZ k0)), some (.int (iZ (-9))), some (.int (iZ n)), some (.null)]) 41 dX8_chainAt_40 (by decide) rfl rfl rfl ?_
            refine g_iincZ [some (.ref 0), none, some (.int (iZ k0)), some (.int (iZ (-9))), some (.int (iZ (n + 1))), some (.null)] 44 dX8_chainAt_41 rfl (by omega) (by decide) rfl rfl rfl ?_
            refine g_goto 5 dX8_chainAt_44 rfl ?_
            refine Go.fgt 5 ?_
            exact ih _ (by omega) _ (-9) (n + 1) rfl HC (by decide) (by omega) k
          · refine g_iload_n 13 dX8_toolAt_12 rfl rfl ?_
            refine g_bipush (v := iZ (12)) 15 dX8_toolAt_13 (by decide +kernel) rfl ?_
            refine g_icZ_lt 22 18 dX8_toolAt_15 rfl rfl ra (by decide) (fun c5 => ?_) (fun c5 => ?_)
            · refine g_aload_n 23 dX8_toolAt_22 rfl rfl ?_
              refine g_get 26 dX8_toolAt_23 faX8_22_X8 F0 rfl rfl ?_
              refine g_iload_n 27 dX8_toolAt_26 rfl rfl ?_
              refine g_aaldZ 28 dX8_toolAt_27 F4 (by decide) (by omega) (by omega) (by decide) (tls_at (by omega) (by omega)) rfl ?_
              refine g_aret rfl (Or.inr ⟨_, rfl⟩) dX8_toolAt_28 ?_
              refine rR ?_
              refine g_astore (L1 := [some (.ref 0), none, some (.int (iZ k0)), some (.int (iZ a)), some (.int (iZ n)), some (.ref (71 + 4 * a.toNat))]) 25 dX8_chainAt_23 (by decide) rfl rfl rfl ?_
              refine g_aload 27 dX8_chainAt_25 rfl rfl ?_
              refine g_ifnonnull 35 dX8_chainAt_27 rfl ?_
              refine g_aload 37 dX8_chainAt_35 rfl rfl ?_
              obtain ⟨ta1_6, ta2_6, ta3_6, ta4_6, ta5_6, ta6_6, ta7_6, ta8_6, ta9_6, tb0_6, tb1_6, tb2_6, tb3_6⟩ := HL (a.toNat) (by omega)
              refine g_get 40 dX8_chainAt_37 faX8_118_X7 tb0_6 rfl rfl ?_
              refine g_istore_n (L1 := [some (.ref 0), none, some (.int (iZ k0)), some (.int (iZ (V 3 a.toNat))), some (.int (iZ n)), some (.ref (71 + 4 * a.toNat))]) 41 dX8_chainAt_40 (by decide) rfl rfl rfl ?_
              refine g_iincZ [some (.ref 0), none, some (.int (iZ k0)), some (.int (iZ (V 3 a.toNat))), some (.int (iZ (n + 1))), some (.ref (71 + 4 * a.toNat))] 44 dX8_chainAt_41 rfl (by omega) (by decide) rfl rfl rfl ?_
              refine g_goto 5 dX8_chainAt_44 rfl ?_
              refine Go.fgt 5 ?_
              exact ih _ (by omega) _ (V 3 a.toNat) (n + 1) rfl HC (by omega) (by omega) k
            · refine g_null 19 dX8_toolAt_18 rfl ?_
              refine g_goto 28 dX8_toolAt_19 rfl ?_
              refine g_aret rfl (Or.inl rfl) dX8_toolAt_28 ?_
              refine rN ?_
              refine g_astoreN (L1 := [some (.ref 0), none, some (.int (iZ k0)), some (.int (iZ a)), some (.int (iZ n)), some (.null)]) 25 dX8_chainAt_23 (by decide) rfl rfl rfl ?_
              refine g_aloadN 27 dX8_chainAt_25 rfl rfl ?_
              refine g_ifnonnullN 30 dX8_chainAt_27 rfl ?_
              refine g_bipush (v := iZ (-9)) 32 dX8_chainAt_30 (by decide +kernel) rfl ?_
              refine g_goto 40 dX8_chainAt_32 rfl ?_
              refine g_istore_n (L1 := [some (.ref 0), none, some (.int (iZ k0)), some (.int (iZ (-9))), some (.int (iZ n)), some (.null)]) 41 dX8_chainAt_40 (by decide) rfl rfl rfl ?_
              refine g_iincZ [some (.ref 0), none, some (.int (iZ k0)), some (.int (iZ (-9))), some (.int (iZ (n + 1))), some (.null)] 44 dX8_chainAt_41 rfl (by omega) (by decide) rfl rfl rfl ?_
              refine g_goto 5 dX8_chainAt_44 rfl ?_
              refine Go.fgt 5 ?_
              exact ih _ (by omega) _ (-9) (n + 1) rfl HC (by decide) (by omega) k
set_option maxRecDepth 100000 in
theorem y_cha {l : Launch} {h : MH} {Q : Option Value → MH → Prop} {tc : Nat} {tr : Int64} {xn : Nat → Int} {xf V Bf Lf : Nat → Nat → Int} {i k0 : Int} (HC : CORE2 h tc tr xn xf V Bf Lf) (ri : rg i) (rk0 : rg k0)  (k : ∀ r : Int, (rg r) → Q (some (.int (iZ r))) h) : Go l mX8_chainAt 0 [some (.ref 0), some (.int (iZ i)), some (.int (iZ k0)), none, none, none] [] h Q := by
  obtain ⟨F0, F3, F4, htc, HT, HL⟩ := id HC
  refine g_iload_n 1 dX8_chainAt_0 rfl rfl ?_
  refine g_istore_n (L1 := [some (.ref 0), some (.int (iZ i)), some (.int (iZ k0)), some (.int (iZ i)), none, none]) 2 dX8_chainAt_1 (by decide) rfl rfl rfl ?_
  refine g_iconst (v := iZ (0)) 3 dX8_chainAt_2 rfl rfl ?_
  refine g_istore (L1 := [some (.ref 0), some (.int (iZ i)), some (.int (iZ k0)), some (.int (iZ i)), some (.int (iZ 0)), none]) 5 dX8_chainAt_3 (by decide) rfl rfl rfl ?_
  refine Go.fgt 1 ?_
  exact y_cha_l ri rk0  _ _ (i) (0) rfl HC ri (by omega) k
set_option maxRecDepth 100000 in
theorem y_che {l : Launch} {h : MH} {Q : Option Value → MH → Prop} {tc : Nat} {tr : Int64} {xn : Nat → Int} {xf V Bf Lf : Nat → Nat → Int} {i : Int} (HC : CORE2 h tc tr xn xf V Bf Lf) (ri : rg i)  (k : ∀ r : Int, (rg r) → Q (some (.int (iZ r))) h) : Go l mX8_chainEnd 0 [some (.ref 0), some (.int (iZ i))] [] h Q := by
  obtain ⟨F0, F3, F4, htc, HT, HL⟩ := id HC
  refine g_aload_n 1 dX8_chainEnd_0 rfl rfl ?_
  refine g_iload_n 2 dX8_chainEnd_1 rfl rfl ?_
  refine g_aload_n 3 dX8_chainEnd_2 rfl rfl ?_
  refine g_iload_n 4 dX8_chainEnd_3 rfl rfl ?_
  refine g_callV (z := mX8_chainLength) (As := [.int (iZ i)]) 7 dX8_chainEnd_4 mwX8_chainLength ⟨by decide, by decide⟩ rfl wlX8_170 wiX8_chainLength wsX8_chainLength F0 rfl rfl rfl (nle rfl) (nle rfl) rfl ?_
  refine y_chl HC ri  (fun z1 rz1 => ?_)
  refine rI ?_
  refine g_iconst (v := iZ (1)) 8 dX8_chainEnd_7 rfl rfl ?_
  refine g_isub 9 dX8_chainEnd_8 rfl ?_
  refine Go.genZ (fun z2 rz2 => ?_)
  refine g_callV (z := mX8_chainAt) (As := [.int (iZ i), .int (iZ z2)]) 12 dX8_chainEnd_9 mwX8_chainAt ⟨by decide, by decide⟩ rfl wlX8_173 wiX8_chainAt wsX8_chainAt F0 rfl rfl rfl (nle rfl) (nle rfl) rfl ?_
  refine y_cha HC ri rz2  (fun z3 rz3 => ?_)
  refine rI ?_
  refine g_iret rfl dX8_chainEnd_12 ?_
  exact k (z3) rz3
set_option maxRecDepth 100000 in
theorem y_seal {l : Launch} {h : MH} {Q : Option Value → MH → Prop} {tc : Nat} {tr : Int64} {xn : Nat → Int} {xf V Bf Lf : Nat → Nat → Int} {i b : Int} (HC : CORE2 h tc tr xn xf V Bf Lf) (ri : rg i) (rb : rg b)  (k : ∀ r : Int, (r = 0 ∨ r = 1) → Q (some (.int (iZ r))) h) : Go l mX8_isSealed 0 [some (.ref 0), some (.int (iZ i)), some (.int (iZ b)), none] [] h Q := by
  obtain ⟨F0, F3, F4, htc, HT, HL⟩ := id HC
  refine g_aload_n 1 dX8_isSealed_0 rfl rfl ?_
  refine g_aload_n 2 dX8_isSealed_1 rfl rfl ?_
  refine g_iload_n 3 dX8_isSealed_2 rfl rfl ?_
  refine g_callV (z := mX8_chainEnd) (As := [.int (iZ i)]) 6 dX8_isSealed_3 mwX8_chainEnd ⟨by decide, by decide⟩ rfl wlX8_183 wiX8_chainEnd wsX8_chainEnd F0 rfl rfl rfl (nle rfl) (nle rfl) rfl ?_
  refine y_che HC ri  (fun z1 rz1 => ?_)
  refine rI ?_
  refine g_callV (z := mX8_toolAt) (As := [.int (iZ z1)]) 9 dX8_isSealed_6 mwX8_toolAt ⟨by decide, by decide⟩ rfl wlX8_90 wiX8_toolAt wsX8_toolAt F0 rfl rfl rfl (nle rfl) (nle rfl) rfl ?_
  refine Go.to [some (.ref 0), some (.int (iZ z1))] [] rfl rfl ?_
  refine g_iload_n 1 dX8_toolAt_0 rfl rfl ?_
  refine g_ifZ_lt 18 4 dX8_toolAt_1 rfl rfl rz1 (fun c2 => ?_) (fun c2 => ?_)
  · refine g_null 19 dX8_toolAt_18 rfl ?_
    refine g_goto 28 dX8_toolAt_19 rfl ?_
    refine g_aret rfl (Or.inl rfl) dX8_toolAt_28 ?_
    refine rN ?_
    refine g_astore_nN (L1 := [some (.ref 0), some (.int (iZ i)), some (.int (iZ b)), some (.null)]) 10 dX8_isSealed_9 (by decide) rfl rfl rfl ?_
    refine g_aload_nN 11 dX8_isSealed_10 rfl rfl ?_
    refine g_ifnullN 33 dX8_isSealed_11 rfl ?_
    refine g_iconst (v := iZ (0)) 34 dX8_isSealed_33 rfl rfl ?_
    refine g_zret rfl z01_0 dX8_isSealed_34 ?_
    exact k (0) (Or.inl rfl)
  · refine g_iload_n 5 dX8_toolAt_4 rfl rfl ?_
    refine g_aload_n 6 dX8_toolAt_5 rfl rfl ?_
    refine g_get 9 dX8_toolAt_6 faX8_26_X8 F0 rfl rfl ?_
    refine g_icZ_ge 18 12 dX8_toolAt_9 rfl rfl rz1 (by omega) (fun c3 => ?_) (fun c3 => ?_)
    · refine g_null 19 dX8_toolAt_18 rfl ?_
      refine g_goto 28 dX8_toolAt_19 rfl ?_
      refine g_aret rfl (Or.inl rfl) dX8_toolAt_28 ?_
      refine rN ?_
      refine g_astore_nN (L1 := [some (.ref 0), some (.int (iZ i)), some (.int (iZ b)), some (.null)]) 10 dX8_isSealed_9 (by decide) rfl rfl rfl ?_
      refine g_aload_nN 11 dX8_isSealed_10 rfl rfl ?_
      refine g_ifnullN 33 dX8_isSealed_11 rfl ?_
      refine g_iconst (v := iZ (0)) 34 dX8_isSealed_33 rfl rfl ?_
      refine g_zret rfl z01_0 dX8_isSealed_34 ?_
      exact k (0) (Or.inl rfl)
    · refine g_iload_n 13 dX8_toolAt_12 rfl rfl ?_
      refine g_bipush (v := iZ (12)) 15 dX8_toolAt_13 (by decide +kernel) rfl ?_
      refine g_icZ_lt 22 18 dX8_toolAt_15 rfl rfl rz1 (by decide) (fun c4 => ?_) (fun c4 => ?_)
      · refine g_aload_n 23 dX8_toolAt_22 rfl rfl ?_
        refine g_get 26 dX8_toolAt_23 faX8_22_X8 F0 rfl rfl ?_
        refine g_iload_n 27 dX8_toolAt_26 rfl rfl ?_
        refine g_aaldZ 28 dX8_toolAt_27 F4 (by decide) (by omega) (by omega) (by decide) (tls_at (by omega) (by omega)) rfl ?_
        refine g_aret rfl (Or.inr ⟨_, rfl⟩) dX8_toolAt_28 ?_
        refine rR ?_
        refine g_astore_n (L1 := [some (.ref 0), some (.int (iZ i)), some (.int (iZ b)), some (.ref (71 + 4 * z1.toNat))]) 10 dX8_isSealed_9 (by decide) rfl rfl rfl ?_
        refine g_aload_n 11 dX8_isSealed_10 rfl rfl ?_
        refine g_ifnull 14 dX8_isSealed_11 rfl ?_
        refine g_aload_n 15 dX8_isSealed_14 rfl rfl ?_
        obtain ⟨ta1_5, ta2_5, ta3_5, ta4_5, ta5_5, ta6_5, ta7_5, ta8_5, ta9_5, tb0_5, tb1_5, tb2_5, tb3_5⟩ := HL (z1.toNat) (by omega)
        refine g_get 18 dX8_isSealed_15 faX8_121_X7 tb0_5 rfl rfl ?_
        refine g_ifZ_eq 33 21 dX8_isSealed_18 rfl rfl (rg01 ta7_5) (fun c6 => ?_) (fun c6 => ?_)
        · refine g_iconst (v := iZ (0)) 34 dX8_isSealed_33 rfl rfl ?_
          refine g_zret rfl z01_0 dX8_isSealed_34 ?_
          exact k (0) (Or.inl rfl)
        · refine g_iload_n 22 dX8_isSealed_21 rfl rfl ?_
          refine g_iload_n 23 dX8_isSealed_22 rfl rfl ?_
          refine g_callS (z := mX8_hasBit) (As := [.int (iZ b), .int (iZ i)]) 26 dX8_isSealed_23 mwX8_hasBit ⟨by decide, by decide⟩ rfl wlX8_180 wtX8_hasBit rfl (nle rfl) (nle rfl) rfl ?_
          refine w_hb rb ri (fun z7 rz7 => ?_)
          refine rI ?_
          refine g_ifZ_ne 33 29 dX8_isSealed_26 rfl rfl (rg01 rz7) (fun c8 => ?_) (fun c8 => ?_)
          · refine g_iconst (v := iZ (0)) 34 dX8_isSealed_33 rfl rfl ?_
            refine g_zret rfl z01_0 dX8_isSealed_34 ?_
            exact k (0) (Or.inl rfl)
          · refine g_iconst (v := iZ (1)) 30 dX8_isSealed_29 rfl rfl ?_
            refine g_goto 34 dX8_isSealed_30 rfl ?_
            refine g_zret rfl z01_1 dX8_isSealed_34 ?_
            exact k (1) (Or.inr rfl)
      · refine g_null 19 dX8_toolAt_18 rfl ?_
        refine g_goto 28 dX8_toolAt_19 rfl ?_
        refine g_aret rfl (Or.inl rfl) dX8_toolAt_28 ?_
        refine rN ?_
        refine g_astore_nN (L1 := [some (.ref 0), some (.int (iZ i)), some (.int (iZ b)), some (.null)]) 10 dX8_isSealed_9 (by decide) rfl rfl rfl ?_
        refine g_aload_nN 11 dX8_isSealed_10 rfl rfl ?_
        refine g_ifnullN 33 dX8_isSealed_11 rfl ?_
        refine g_iconst (v := iZ (0)) 34 dX8_isSealed_33 rfl rfl ?_
        refine g_zret rfl z01_0 dX8_isSealed_34 ?_
        exact k (0) (Or.inl rfl)
set_option maxRecDepth 100000 in
theorem y_chk_l {l : Launch} {Q : Option Value → MH → Prop} {tc : Nat} {tr : Int64} {xn : Nat → Int} {xf V Bf Lf : Nat → Nat → Int}    : ∀ (m0 : Nat) (h : MH) (b : Int) (j : Int), ((tc : Int) - j).toNat = m0 → CORE2 h tc tr xn xf V Bf Lf → (0 ≤ b ∧ b ≤ j) → (j ≤ 13) → (∀ r : Int, (rg r) → Q (some (.int (iZ r))) h) → Go l mX8_checkedTools 4 [some (.ref 0), some (.int (iZ b)), some (.int (iZ j)), none] [] h Q := by
  intro m0
  induction m0 using Nat.strongRecOn with
  | ind m0 ih =>
    intro h b j hmz HC hb hj k
    obtain ⟨F0, F3, F4, htc, HT, HL⟩ := id HC
    refine g_iload_n 5 dX8_checkedTools_4 rfl rfl ?_
    refine g_aload_n 6 dX8_checkedTools_5 rfl rfl ?_
    refine g_get 9 dX8_checkedTools_6 faX8_26_X8 F0 rfl rfl ?_
    refine g_icZ_ge 38 12 dX8_checkedTools_9 rfl rfl (by omega) (by omega) (fun c1 => ?_) (fun c1 => ?_)
    · refine g_iload_n 39 dX8_checkedTools_38 rfl rfl ?_
      refine g_iret rfl dX8_checkedTools_39 ?_
      exact k (b) (by omega)
    · refine g_aload_n 13 dX8_checkedTools_12 rfl rfl ?_
      refine g_iload_n 14 dX8_checkedTools_13 rfl rfl ?_
      refine g_callV (z := mX8_toolAt) (As := [.int (iZ j)]) 17 dX8_checkedTools_14 mwX8_toolAt ⟨by decide, by decide⟩ rfl wlX8_90 wiX8_toolAt wsX8_toolAt F0 rfl rfl rfl (nle rfl) (nle rfl) rfl ?_
      refine Go.to [some (.ref 0), some (.int (iZ j))] [] rfl rfl ?_
      refine g_iload_n 1 dX8_toolAt_0 rfl rfl ?_
      refine g_ifZ_lt 18 4 dX8_toolAt_1 rfl rfl (by omega) (fun c2 => ?_) (fun c2 => ?_)
      · refine g_null 19 dX8_toolAt_18 rfl ?_
        refine g_goto 28 dX8_toolAt_19 rfl ?_
        refine g_aret rfl (Or.inl rfl) dX8_toolAt_28 ?_
        refine rN ?_
        refine g_astore_nN (L1 := [some (.ref 0), some (.int (iZ b)), some (.int (iZ j)), some (.null)]) 18 dX8_checkedTools_17 (by decide) rfl rfl rfl ?_
        refine g_aload_nN 19 dX8_checkedTools_18 rfl rfl ?_
        refine g_ifnullN 32 dX8_checkedTools_19 rfl ?_
        refine g_iincZ [some (.ref 0), some (.int (iZ b)), some (.int (iZ (j + 1))), some (.null)] 35 dX8_checkedTools_32 rfl (by omega) (by decide) rfl rfl rfl ?_
        refine g_goto 4 dX8_checkedTools_35 rfl ?_
        refine Go.fgt 3 ?_
        exact ih _ (by omega) _ (b) (j + 1) rfl HC (by omega) (by omega) k
      · refine g_iload_n 5 dX8_toolAt_4 rfl rfl ?_
        refine g_aload_n 6 dX8_toolAt_5 rfl rfl ?_
        refine g_get 9 dX8_toolAt_6 faX8_26_X8 F0 rfl rfl ?_
        refine g_icZ_ge 18 12 dX8_toolAt_9 rfl rfl (by omega) (by omega) (fun q => absurd q (by omega)) (fun _ => ?_)
        refine g_iload_n 13 dX8_toolAt_12 rfl rfl ?_
        refine g_bipush (v := iZ (12)) 15 dX8_toolAt_13 (by decide +kernel) rfl ?_
        refine g_icZ_lt 22 18 dX8_toolAt_15 rfl rfl (by omega) (by decide) (fun c3 => ?_) (fun c3 => ?_)
        · refine g_aload_n 23 dX8_toolAt_22 rfl rfl ?_
          refine g_get 26 dX8_toolAt_23 faX8_22_X8 F0 rfl rfl ?_
          refine g_iload_n 27 dX8_toolAt_26 rfl rfl ?_
          refine g_aaldZ 28 dX8_toolAt_27 F4 (by decide) (by omega) (by omega) (by decide) (tls_at (by omega) (by omega)) rfl ?_
          refine g_aret rfl (Or.inr ⟨_, rfl⟩) dX8_toolAt_28 ?_
          refine rR ?_
          refine g_astore_n (L1 := [some (.ref 0), some (.int (iZ b)), some (.int (iZ j)), some (.ref (71 + 4 * j.toNat))]) 18 dX8_checkedTools_17 (by decide) rfl rfl rfl ?_
          refine g_aload_n 19 dX8_checkedTools_18 rfl rfl ?_
          refine g_ifnull 22 dX8_checkedTools_19 rfl ?_
          refine g_aload_n 23 dX8_checkedTools_22 rfl rfl ?_
          obtain ⟨ta1_4, ta2_4, ta3_4, ta4_4, ta5_4, ta6_4, ta7_4, ta8_4, ta9_4, tb0_4, tb1_4, tb2_4, tb3_4⟩ := HL (j.toNat) (by omega)
          refine g_get 26 dX8_checkedTools_23 faX8_121_X7 tb0_4 rfl rfl ?_
          refine g_ifZ_eq 32 29 dX8_checkedTools_26 rfl rfl (rg01 ta7_4) (fun c5 => ?_) (fun c5 => ?_)
          · refine g_iincZ [some (.ref 0), some (.int (iZ b)), some (.int (iZ (j + 1))), some (.ref (71 + 4 * j.toNat))] 35 dX8_checkedTools_32 rfl (by omega) (by decide) rfl rfl rfl ?_
            refine g_goto 4 dX8_checkedTools_35 rfl ?_
            refine Go.fgt 3 ?_
            exact ih _ (by omega) _ (b) (j + 1) rfl HC (by omega) (by omega) k
          · refine g_iincZ [some (.ref 0), some (.int (iZ (b + 1))), some (.int (iZ j)), some (.ref (71 + 4 * j.toNat))] 32 dX8_checkedTools_29 rfl (by omega) (by decide) rfl rfl rfl ?_
            refine g_iincZ [some (.ref 0), some (.int (iZ (b + 1))), some (.int (iZ (j + 1))), some (.ref (71 + 4 * j.toNat))] 35 dX8_checkedTools_32 rfl (by omega) (by decide) rfl rfl rfl ?_
            refine g_goto 4 dX8_checkedTools_35 rfl ?_
            refine Go.fgt 3 ?_
            exact ih _ (by omega) _ (b + 1) (j + 1) rfl HC (by omega) (by omega) k
        · refine g_null 19 dX8_toolAt_18 rfl ?_
          refine g_goto 28 dX8_toolAt_19 rfl ?_
          refine g_aret rfl (Or.inl rfl) dX8_toolAt_28 ?_
          refine rN ?_
          refine g_astore_nN (L1 := [some (.ref 0), some (.int (iZ b)), some (.int (iZ j)), some (.null)]) 18 dX8_checkedTools_17 (by decide) rfl rfl rfl ?_
          refine g_aload_nN 19 dX8_checkedTools_18 rfl rfl ?_
          refine g_ifnullN 32 dX8_checkedTools_19 rfl ?_
          refine g_iincZ [some (.ref 0), some (.int (iZ b)), some (.int (iZ (j + 1))), some (.null)] 35 dX8_checkedTools_32 rfl (by omega) (by decide) rfl rfl rfl ?_
          refine g_goto 4 dX8_checkedTools_35 rfl ?_
          refine Go.fgt 3 ?_
          exact ih _ (by omega) _ (b) (j + 1) rfl HC (by omega) (by omega) k
set_option maxRecDepth 100000 in
theorem y_chk {l : Launch} {h : MH} {Q : Option Value → MH → Prop} {tc : Nat} {tr : Int64} {xn : Nat → Int} {xf V Bf Lf : Nat → Nat → Int}  (HC : CORE2 h tc tr xn xf V Bf Lf)   (k : ∀ r : Int, (rg r) → Q (some (.int (iZ r))) h) : Go l mX8_checkedTools 0 [some (.ref 0), none, none, none] [] h Q := by
  obtain ⟨F0, F3, F4, htc, HT, HL⟩ := id HC
  refine g_iconst (v := iZ (0)) 1 dX8_checkedTools_0 rfl rfl ?_
  refine g_istore_n (L1 := [some (.ref 0), some (.int (iZ 0)), none, none]) 2 dX8_checkedTools_1 (by decide) rfl rfl rfl ?_
  refine g_iconst (v := iZ (0)) 3 dX8_checkedTools_2 rfl rfl ?_
  refine g_istore_n (L1 := [some (.ref 0), some (.int (iZ 0)), some (.int (iZ 0)), none]) 4 dX8_checkedTools_3 (by decide) rfl rfl rfl ?_
  exact y_chk_l   _ _ (0) (0) rfl HC (by omega) (by omega) k
set_option maxRecDepth 100000 in
theorem y_sls_l {l : Launch} {Q : Option Value → MH → Prop} {tc : Nat} {tr : Int64} {xn : Nat → Int} {xf V Bf Lf : Nat → Nat → Int} {s0 : Int} (rs0 : rg s0)  : ∀ (m0 : Nat) (h : MH) (b : Int) (j : Int), ((tc : Int) - j).toNat = m0 → CORE2 h tc tr xn xf V Bf Lf → (0 ≤ b ∧ b ≤ j) → (j ≤ 13) → (∀ r : Int, (rg r) → Q (some (.int (iZ r))) h) → Go l mX8_sealedTools 4 [some (.ref 0), some (.int (iZ s0)), some (.int (iZ b)), some (.int (iZ j))] [] h Q := by
  intro m0
  induction m0 using Nat.strongRecOn with
  | ind m0 ih =>
    intro h b j hmz HC hb hj k
    obtain ⟨F0, F3, F4, htc, HT, HL⟩ := id HC
    refine g_iload_n 5 dX8_sealedTools_4 rfl rfl ?_
    refine g_aload_n 6 dX8_sealedTools_5 rfl rfl ?_
    refine g_get 9 dX8_sealedTools_6 faX8_26_X8 F0 rfl rfl ?_
    refine g_icZ_ge 30 12 dX8_sealedTools_9 rfl rfl (by omega) (by omega) (fun c1 => ?_) (fun c1 => ?_)
    · refine g_iload_n 31 dX8_sealedTools_30 rfl rfl ?_
      refine g_iret rfl dX8_sealedTools_31 ?_
      exact k (b) (by omega)
    · refine g_aload_n 13 dX8_sealedTools_12 rfl rfl ?_
      refine g_iload_n 14 dX8_sealedTools_13 rfl rfl ?_
      refine g_iload_n 15 dX8_sealedTools_14 rfl rfl ?_
      refine g_callV (z := mX8_isSealed) (As := [.int (iZ j), .int (iZ s0)]) 18 dX8_sealedTools_15 mwX8_isSealed ⟨by decide, by decide⟩ rfl wlX8_176 wiX8_isSealed wsX8_isSealed F0 rfl rfl rfl (nle rfl) (nle rfl) rfl ?_
      refine y_seal HC (by omega) rs0  (fun z2 rz2 => ?_)
      refine rI ?_
      refine g_ifZ_eq 24 21 dX8_sealedTools_18 rfl rfl (rg01 rz2) (fun c3 => ?_) (fun c3 => ?_)
      · refine g_iincZ [some (.ref 0), some (.int (iZ s0)), some (.int (iZ b)), some (.int (iZ (j + 1)))] 27 dX8_sealedTools_24 rfl (by omega) (by decide) rfl rfl rfl ?_
        refine g_goto 4 dX8_sealedTools_27 rfl ?_
        exact ih _ (by omega) _ (b) (j + 1) rfl HC (by omega) (by omega) k
      · refine g_iincZ [some (.ref 0), some (.int (iZ s0)), some (.int (iZ (b + 1))), some (.int (iZ j))] 24 dX8_sealedTools_21 rfl (by omega) (by decide) rfl rfl rfl ?_
        refine g_iincZ [some (.ref 0), some (.int (iZ s0)), some (.int (iZ (b + 1))), some (.int (iZ (j + 1)))] 27 dX8_sealedTools_24 rfl (by omega) (by decide) rfl rfl rfl ?_
        refine g_goto 4 dX8_sealedTools_27 rfl ?_
        exact ih _ (by omega) _ (b + 1) (j + 1) rfl HC (by omega) (by omega) k
set_option maxRecDepth 100000 in
theorem y_sls {l : Launch} {h : MH} {Q : Option Value → MH → Prop} {tc : Nat} {tr : Int64} {xn : Nat → Int} {xf V Bf Lf : Nat → Nat → Int} {s0 : Int} (HC : CORE2 h tc tr xn xf V Bf Lf) (rs0 : rg s0)  (k : ∀ r : Int, (rg r) → Q (some (.int (iZ r))) h) : Go l mX8_sealedTools 0 [some (.ref 0), some (.int (iZ s0)), none, none] [] h Q := by
  obtain ⟨F0, F3, F4, htc, HT, HL⟩ := id HC
  refine g_iconst (v := iZ (0)) 1 dX8_sealedTools_0 rfl rfl ?_
  refine g_istore_n (L1 := [some (.ref 0), some (.int (iZ s0)), some (.int (iZ 0)), none]) 2 dX8_sealedTools_1 (by decide) rfl rfl rfl ?_
  refine g_iconst (v := iZ (0)) 3 dX8_sealedTools_2 rfl rfl ?_
  refine g_istore_n (L1 := [some (.ref 0), some (.int (iZ s0)), some (.int (iZ 0)), some (.int (iZ 0))]) 4 dX8_sealedTools_3 (by decide) rfl rfl rfl ?_
  exact y_sls_l rs0  _ _ (0) (0) rfl HC (by omega) (by omega) k

theorem b8_needed {l : Launch} {h : MH} {Q : Option Value → MH → Prop} {tn : Int} {tf : Nat → Int} {xn : Nat → Int} {xf : Nat → Nat → Int} {en : Int} {tc : Nat} {tr : Int64} {V Bf Lf : Nat → Nat → Int} {q lm lo : Nat → Int} {a b w : Int} (H : IX2 h tn tf xn xf en tc tr V Bf Lf q lm lo) (ra : rg a) (rb : rg b) (rw : rg w) (k : ∀ (h1 : MH) (r : Int), rg r → IX2 h1 tn tf xn xf en tc tr V Bf Lf q lm lo → Mo h h1 → Q (some (.int (iZ r))) h1) : Go l mX8_needed 0 [some (.ref 0), some (.int (iZ a)), some (.int (iZ b)), some (.int (iZ w)), none, none, none, none] [] h Q := by
  obtain ⟨HC, HS, HLm, HY, HE, hlen, hmz⟩ := id H
  obtain ⟨F0, F3, F4, htc, HT, HL⟩ := id HC
  obtain ⟨eu, ek, el, oeu, oek, oel, e1, e2, E0, E1, E2, E3⟩ := id HE
  refine w_need F0 E0 E1 E2 E3 oeu oek oel ⟨by omega, by omega⟩ ra rb rw htc (fun h1 ek1 el1 r o1 o2 rr s f2 f3 => ?_)
  have zz := H.ed (en1 := en) s (by decide) ⟨eu, ek1, el1, oeu, o1, o2, e1, e2, s.get (by decide) E0, s.get (by decide) E1, f2, f3⟩
  exact k _ r rr zz.1 zz.2
set_option maxRecDepth 100000 in
theorem b8_type {l : Launch} {h : MH} {Q : Option Value → MH → Prop} {tn : Int} {tf : Nat → Int} {xn : Nat → Int} {xf : Nat → Nat → Int} {en : Int} {tc : Nat} {tr : Int64} {V Bf Lf : Nat → Nat → Int} {q lm lo : Nat → Int} {n : Int} {v : Int64} (H : IX2 h tn tf xn xf en tc tr V Bf Lf q lm lo) (rn : rg n) (k : ∀ (h1 : MH) (r tn1 : Int) (tf1 : Nat → Int), (1 ≤ n ∧ n ≤ 8 ∧ tn + n ≤ 200 → r = tn + n ∧ tn1 = tn + n ∧ tf1 = tyb v n tn tf) → (1 ≤ n ∧ n ≤ 8 ∧ 200 < tn + n → r = -3 ∧ tn1 = tn ∧ tf1 = tf) → (¬ (1 ≤ n ∧ n ≤ 8) → r = -1 ∧ tn1 = tn ∧ tf1 = tf) → IX2 h1 tn1 tf1 xn xf en tc tr V Bf Lf q lm lo → Mo h h1 → Q (some (.int (iZ r))) h1) : Go l mX8_type 0 [some (.ref 0), some (.long (v)), none, some (.int (iZ n)), none] [] h Q := by
  obtain ⟨HC, HS, HLm, HY, HE, hlen, hmz⟩ := id H
  obtain ⟨F0, F3, F4, htc, HT, HL⟩ := id HC
  refine g_iload_n 1 dX8_type_0 rfl rfl ?_
  refine g_iconst (v := iZ (1)) 2 dX8_type_1 rfl rfl ?_
  refine g_icZ_lt 11 5 dX8_type_2 rfl rfl rn (by decide) (fun c1 => ?_) (fun c1 => ?_)
  · refine g_iconst (v := iZ (-1)) 12 dX8_type_11 rfl rfl ?_
    refine g_iret rfl dX8_type_12 ?_
    exact k _ (-1) tn tf (fun q => by omega) (fun q => ⟨by omega, rfl, rfl⟩) (fun q => ⟨by omega, rfl, rfl⟩) H (fun _ _ _ => rfl)
  · refine g_iload_n 6 dX8_type_5 rfl rfl ?_
    refine g_bipush (v := iZ (8)) 8 dX8_type_6 (by decide +kernel) rfl ?_
    refine g_icZ_le 13 11 dX8_type_8 rfl rfl rn (by decide) (fun c2 => ?_) (fun c2 => ?_)
    · refine g_aload_n 14 dX8_type_13 rfl rfl ?_
      refine g_get 17 dX8_type_14 faX8_10_X8 F0 rfl rfl ?_
      obtain ⟨y0, y1, y2, y3, y4⟩ := id HY
      refine g_get 20 dX8_type_17 faX8_67_X6 y0 rfl rfl ?_
      refine g_iload_n 21 dX8_type_20 rfl rfl ?_
      refine g_iaddZ (tn + n) 22 dX8_type_21 (by omega) rfl ?_
      refine g_sipush (v := iZ (200)) 25 dX8_type_22 (by decide +kernel) rfl ?_
      refine g_icZ_le 31 28 dX8_type_25 rfl rfl (by omega) (by decide) (fun c3 => ?_) (fun c3 => ?_)
      · refine g_iload_n 32 dX8_type_31 rfl rfl ?_
        refine g_iconst (v := iZ (1)) 33 dX8_type_32 rfl rfl ?_
        refine g_isubZ (n - 1) 34 dX8_type_33 (by omega) rfl ?_
        refine g_istore (L1 := [some (.ref 0), some (.long (v)), none, some (.int (iZ n)), some (.int (iZ (n - 1)))]) 36 dX8_type_34 (by decide) rfl rfl rfl ?_
        obtain ⟨j, hj⟩ : ∃ j : Nat, (j : Int) = n := ⟨n.toNat, by omega⟩
        refine lp8_ty v n j _ tf tn _ (by omega) (by omega) (by omega) (by omega) y4 F0 y0 y1 (fun h1 g1 r e1 e2 o1 s1 u1 u2 => ?_)
        have zz := H.ty s1 (by decide) ⟨u1, u2, by omega, by omega, o1⟩
        exact k _ r r g1 (fun q => ⟨by omega, by omega, by rw [e2, hj]⟩) (fun q => by omega) (fun q => by omega) zz.1 zz.2
      · refine g_bipush (v := iZ (-3)) 30 dX8_type_28 (by decide +kernel) rfl ?_
        refine g_iret rfl dX8_type_30 ?_
        exact k _ (-3) tn tf (fun q => by omega) (fun q => ⟨by omega, rfl, rfl⟩) (fun q => ⟨by omega, rfl, rfl⟩) H (fun _ _ _ => rfl)
    · refine g_iconst (v := iZ (-1)) 12 dX8_type_11 rfl rfl ?_
      refine g_iret rfl dX8_type_12 ?_
      exact k _ (-1) tn tf (fun q => by omega) (fun q => ⟨by omega, rfl, rfl⟩) (fun q => ⟨by omega, rfl, rfl⟩) H (fun _ _ _ => rfl)
set_option maxRecDepth 100000 in
theorem b8_text {l : Launch} {h : MH} {Q : Option Value → MH → Prop} {tn : Int} {tf : Nat → Int} {xn : Nat → Int} {xf : Nat → Nat → Int} {en : Int} {tc : Nat} {tr : Int64} {V Bf Lf : Nat → Nat → Int} {q lm lo : Nat → Int} {i : Int} (H : IX2 h tn tf xn xf en tc tr V Bf Lf q lm lo) (ri : rg i) (k : ∀ (h1 : MH) (r tn1 : Int) (xn1 : Nat → Int) (xf1 : Nat → Nat → Int), (0 ≤ i ∧ i < 8 → r = tn ∧ tn1 = 0 ∧ xn1 = va_up xn i.toNat tn ∧ ∃ f1 : Nat → Int, (∀ j : Nat, (j : Int) < tn → f1 j = tf j) ∧ xf1 = va_up xf i.toNat f1) → (¬ (0 ≤ i ∧ i < 8) → r = -1 ∧ tn1 = tn ∧ xn1 = xn ∧ xf1 = xf) → IX2 h1 tn1 tf xn1 xf1 en tc tr V Bf Lf q lm lo → Mo h h1 → Q (some (.int (iZ r))) h1) : Go l mX8_text 0 [some (.ref 0), some (.int (iZ i)), none] [] h Q := by
  obtain ⟨HC, HS, HLm, HY, HE, hlen, hmz⟩ := id H
  obtain ⟨F0, F3, F4, htc, HT, HL⟩ := id HC
  refine g_aload_n 1 dX8_text_0 rfl rfl ?_
  refine g_iload_n 2 dX8_text_1 rfl rfl ?_
  refine g_callV (z := mX8_textAt) (As := [.int (iZ i)]) 5 dX8_text_2 mwX8_textAt ⟨by decide, by decide⟩ rfl wlX8_74 wiX8_textAt wsX8_textAt F0 rfl rfl rfl (nle rfl) (nle rfl) rfl ?_
  refine Go.to [some (.ref 0), some (.int (iZ i))] [] rfl rfl ?_
  refine g_iload_n 1 dX8_textAt_0 rfl rfl ?_
  refine g_ifZ_lt 10 4 dX8_textAt_1 rfl rfl ri (fun c1 => ?_) (fun c1 => ?_)
  · refine g_null 11 dX8_textAt_10 rfl ?_
    refine g_goto 20 dX8_textAt_11 rfl ?_
    refine g_aret rfl (Or.inl rfl) dX8_textAt_20 ?_
    refine rN ?_
    refine g_astore_nN (L1 := [some (.ref 0), some (.int (iZ i)), some (.null)]) 6 dX8_text_5 (by decide) rfl rfl rfl ?_
    refine g_aload_nN 7 dX8_text_6 rfl rfl ?_
    refine g_ifnonnullN 10 dX8_text_7 rfl ?_
    refine g_iconst (v := iZ (-1)) 11 dX8_text_10 rfl rfl ?_
    refine g_iret rfl dX8_text_11 ?_
    exact k _ (-1) tn xn xf (fun q => by omega) (fun q => ⟨rfl, rfl, rfl, rfl⟩) H (fun _ _ _ => rfl)
  · refine g_iload_n 5 dX8_textAt_4 rfl rfl ?_
    refine g_bipush (v := iZ (8)) 7 dX8_textAt_5 (by decide +kernel) rfl ?_
    refine g_icZ_lt 14 10 dX8_textAt_7 rfl rfl ri (by decide) (fun c2 => ?_) (fun c2 => ?_)
    · refine g_aload_n 15 dX8_textAt_14 rfl rfl ?_
      refine g_get 18 dX8_textAt_15 faX8_16_X8 F0 rfl rfl ?_
      refine g_iload_n 19 dX8_textAt_18 rfl rfl ?_
      refine g_aaldZ 20 dX8_textAt_19 F3 (by decide) (by omega) (by omega) (by decide) (txs_at (by omega) (by omega)) rfl ?_
      refine g_aret rfl (Or.inr ⟨_, rfl⟩) dX8_textAt_20 ?_
      refine rR ?_
      refine g_astore_n (L1 := [some (.ref 0), some (.int (iZ i)), some (.ref (34 + 2 * i.toNat))]) 6 dX8_text_5 (by decide) rfl rfl rfl ?_
      refine g_aload_n 7 dX8_text_6 rfl rfl ?_
      refine g_ifnonnull 12 dX8_text_7 rfl ?_
      refine g_aload_n 13 dX8_text_12 rfl rfl ?_
      refine g_aload_n 14 dX8_text_13 rfl rfl ?_
      refine g_get 17 dX8_text_14 faX8_10_X8 F0 rfl rfl ?_
      obtain ⟨t0_3, t1_3, t2_3, t3_3, t4_3⟩ := HT (i.toNat) (by omega)
      refine g_callV (z := mX6_become) (As := [.ref 1]) 20 dX8_text_17 mwX6_become ⟨by decide, by decide⟩ rfl wlX8_78 wiX6_become wsX6_become t0_3 rfl rfl rfl (nle rfl) (nle rfl) rfl ?_
      refine Go.to [some (.ref (34 + 2 * i.toNat)), some (.ref 1), none] [] rfl rfl ?_
      refine g_aload_n 1 dX6_become_0 rfl rfl ?_
      refine g_iconst (v := iZ (0)) 2 dX6_become_1 rfl rfl ?_
      refine g_putC (fs1 := [.ref (34 + 2 * i.toNat + 1), .int (iZ 0)]) 5 dX6_become_2 fpX6_15_X6 t0_3 (nle rfl) (vI _) rfl rfl (fun h4 s5 f6 => ?_)
      refine g_iconst (v := iZ (0)) 6 dX6_become_5 rfl rfl ?_
      refine g_istore_n (L1 := [some (.ref (34 + 2 * i.toNat)), some (.ref 1), some (.int (iZ 0))]) 7 dX6_become_6 (by decide) rfl rfl rfl ?_
      obtain ⟨y0, y1, y2, y3, y4⟩ := id HY
      have f7 := (s5.get (by simp <;> omega) t1_3)
      have f8 := (s5.get (by simp <;> omega) y0)
      have f9 := (s5.get (by simp <;> omega) y1)
      refine k_bec (by omega) (by omega) y4 _ _ 0 _ rfl (by omega) (by omega) (HT _ (by omega)).2.2.2.2 (fun j hj => by omega) f6 f7 f8 f9 (fun hB gF oF eF sB fB0 fB1 => ?_)
      refine rV ?_
      refine g_aload_n 21 dX8_text_20 rfl rfl ?_
      have f10 := (sB.get (by simp <;> omega) (s5.get (by simp <;> omega) F0))
      refine g_get 24 dX8_text_21 faX8_10_X8 f10 rfl rfl ?_
      refine g_iconst (v := iZ (0)) 25 dX8_text_24 rfl rfl ?_
      have f11 := (sB.get (by simp <;> omega) f8)
      refine g_putC (fs1 := [.ref 2, .int (iZ 0)]) 28 dX8_text_25 fpX8_67_X6 f11 (nle rfl) (vI _) rfl rfl (fun h12 s13 f14 => ?_)
      refine g_aload_n 29 dX8_text_28 rfl rfl ?_
      have f15 := (s13.get (by simp <;> omega) fB0)
      refine g_get 32 dX8_text_29 faX8_67_X6 f15 rfl rfl ?_
      refine g_iret rfl dX8_text_32 ?_
      have f16 := (s13.get (by decide) (sB.get (by simp <;> omega) f9))
      have f17 := (s13.get (by simp <;> omega) fB1)
      have zz := H.text (i := i.toNat) (tn1 := 0) (tf1 := tf) (by omega) ((((Sm.refl [1, 34 + 2 * i.toNat, 34 + 2 * i.toNat + 1] _).tr s5 (fun _ q => q) (by simp)).tr sB (fun _ q => q) (by simp)).tr s13 (fun _ q => q) (by simp)) (by simp <;> omega) ⟨f14, f16, by decide, by decide, y4⟩ ⟨f15, f17, by omega, by omega, oF⟩
      exact k _ (tn) 0 _ _ (fun q => ⟨rfl, rfl, rfl, _, eF, rfl⟩) (fun q => by omega) zz.1 zz.2
    · refine g_null 11 dX8_textAt_10 rfl ?_
      refine g_goto 20 dX8_textAt_11 rfl ?_
      refine g_aret rfl (Or.inl rfl) dX8_textAt_20 ?_
      refine rN ?_
      refine g_astore_nN (L1 := [some (.ref 0), some (.int (iZ i)), some (.null)]) 6 dX8_text_5 (by decide) rfl rfl rfl ?_
      refine g_aload_nN 7 dX8_text_6 rfl rfl ?_
      refine g_ifnonnullN 10 dX8_text_7 rfl ?_
      refine g_iconst (v := iZ (-1)) 11 dX8_text_10 rfl rfl ?_
      refine g_iret rfl dX8_text_11 ?_
      exact k _ (-1) tn xn xf (fun q => by omega) (fun q => ⟨rfl, rfl, rfl, rfl⟩) H (fun _ _ _ => rfl)
set_option maxRecDepth 100000 in
theorem b8_read {l : Launch} {h : MH} {Q : Option Value → MH → Prop} {tn : Int} {tf : Nat → Int} {xn : Nat → Int} {xf : Nat → Nat → Int} {en : Int} {tc : Nat} {tr : Int64} {V Bf Lf : Nat → Nat → Int} {q lm lo : Nat → Int} {i a : Int} (H : IX2 h tn tf xn xf en tc tr V Bf Lf q lm lo) (ri : rg i) (ra : rg a) (k : ∀ r : Int, (0 ≤ i ∧ i < 8 ∧ 0 ≤ a ∧ a < xn i.toNat → r = xf i.toNat a.toNat) → (¬ (0 ≤ i ∧ i < 8 ∧ 0 ≤ a ∧ a < xn i.toNat) → r = -1) → Q (some (.int (iZ r))) h) : Go l mX8_read 0 [some (.ref 0), some (.int (iZ i)), some (.int (iZ a)), none] [] h Q := by
  obtain ⟨HC, HS, HLm, HY, HE, hlen, hmz⟩ := id H
  obtain ⟨F0, F3, F4, htc, HT, HL⟩ := id HC
  refine g_aload_n 1 dX8_read_0 rfl rfl ?_
  refine g_iload_n 2 dX8_read_1 rfl rfl ?_
  refine g_callV (z := mX8_textAt) (As := [.int (iZ i)]) 5 dX8_read_2 mwX8_textAt ⟨by decide, by decide⟩ rfl wlX8_74 wiX8_textAt wsX8_textAt F0 rfl rfl rfl (nle rfl) (nle rfl) rfl ?_
  refine Go.to [some (.ref 0), some (.int (iZ i))] [] rfl rfl ?_
  refine g_iload_n 1 dX8_textAt_0 rfl rfl ?_
  refine g_ifZ_lt 10 4 dX8_textAt_1 rfl rfl ri (fun c1 => ?_) (fun c1 => ?_)
  · refine g_null 11 dX8_textAt_10 rfl ?_
    refine g_goto 20 dX8_textAt_11 rfl ?_
    refine g_aret rfl (Or.inl rfl) dX8_textAt_20 ?_
    refine rN ?_
    refine g_astore_nN (L1 := [some (.ref 0), some (.int (iZ i)), some (.int (iZ a)), some (.null)]) 6 dX8_read_5 (by decide) rfl rfl rfl ?_
    refine g_aload_nN 7 dX8_read_6 rfl rfl ?_
    refine g_ifnonnullN 10 dX8_read_7 rfl ?_
    refine g_iconst (v := iZ (-1)) 11 dX8_read_10 rfl rfl ?_
    refine g_goto 19 dX8_read_11 rfl ?_
    refine g_iret rfl dX8_read_19 ?_
    exact k (-1) (fun q => by first | rfl | omega) (fun q => by omega)
  · refine g_iload_n 5 dX8_textAt_4 rfl rfl ?_
    refine g_bipush (v := iZ (8)) 7 dX8_textAt_5 (by decide +kernel) rfl ?_
    refine g_icZ_lt 14 10 dX8_textAt_7 rfl rfl ri (by decide) (fun c2 => ?_) (fun c2 => ?_)
    · refine g_aload_n 15 dX8_textAt_14 rfl rfl ?_
      refine g_get 18 dX8_textAt_15 faX8_16_X8 F0 rfl rfl ?_
      refine g_iload_n 19 dX8_textAt_18 rfl rfl ?_
      refine g_aaldZ 20 dX8_textAt_19 F3 (by decide) (by omega) (by omega) (by decide) (txs_at (by omega) (by omega)) rfl ?_
      refine g_aret rfl (Or.inr ⟨_, rfl⟩) dX8_textAt_20 ?_
      refine rR ?_
      refine g_astore_n (L1 := [some (.ref 0), some (.int (iZ i)), some (.int (iZ a)), some (.ref (34 + 2 * i.toNat))]) 6 dX8_read_5 (by decide) rfl rfl rfl ?_
      refine g_aload_n 7 dX8_read_6 rfl rfl ?_
      refine g_ifnonnull 14 dX8_read_7 rfl ?_
      refine g_aload_n 15 dX8_read_14 rfl rfl ?_
      refine g_iload_n 16 dX8_read_15 rfl rfl ?_
      obtain ⟨t0_3, t1_3, t2_3, t3_3, t4_3⟩ := HT (i.toNat) (by omega)
      refine g_callV (z := mX6_at) (As := [.int (iZ a)]) 19 dX8_read_16 mwX6_at ⟨by decide, by decide⟩ rfl wlX8_82 wiX6_at wsX6_at t0_3 rfl rfl rfl (nle rfl) (nle rfl) rfl ?_
      refine Go.to [some (.ref (34 + 2 * i.toNat)), some (.int (iZ a))] [] rfl rfl ?_
      refine g_iload_n 1 dX6_at_0 rfl rfl ?_
      refine g_ifZ_lt 19 4 dX6_at_1 rfl rfl ra (fun c4 => ?_) (fun c4 => ?_)
      · refine g_iconst (v := iZ (-1)) 20 dX6_at_19 rfl rfl ?_
        refine g_goto 29 dX6_at_20 rfl ?_
        refine g_iret rfl dX6_at_29 ?_
        refine rI ?_
        refine g_iret rfl dX8_read_19 ?_
        exact k (-1) (fun q => by first | rfl | omega) (fun q => by omega)
      · refine g_iload_n 5 dX6_at_4 rfl rfl ?_
        refine g_aload_n 6 dX6_at_5 rfl rfl ?_
        refine g_get 9 dX6_at_6 faX6_15_X6 t0_3 rfl rfl ?_
        refine g_icZ_ge 19 12 dX6_at_9 rfl rfl ra (by omega) (fun c5 => ?_) (fun c5 => ?_)
        · refine g_iconst (v := iZ (-1)) 20 dX6_at_19 rfl rfl ?_
          refine g_goto 29 dX6_at_20 rfl ?_
          refine g_iret rfl dX6_at_29 ?_
          refine rI ?_
          refine g_iret rfl dX8_read_19 ?_
          exact k (-1) (fun q => by first | rfl | omega) (fun q => by omega)
        · refine g_iload_n 13 dX6_at_12 rfl rfl ?_
          refine g_sipush (v := iZ (200)) 16 dX6_at_13 (by decide +kernel) rfl ?_
          refine g_icZ_lt 23 19 dX6_at_16 rfl rfl ra (by decide) (fun c6 => ?_) (fun c6 => ?_)
          · refine g_aload_n 24 dX6_at_23 rfl rfl ?_
            refine g_get 27 dX6_at_24 faX6_9_X6 t0_3 rfl rfl ?_
            refine g_iload_n 28 dX6_at_27 rfl rfl ?_
            refine g_ialdZ (v := iZ (((xf i.toNat)) a.toNat)) 29 dX6_at_28 t1_3 (by omega) (by omega) (by decide) rfl rfl ?_
            refine g_iret rfl dX6_at_29 ?_
            refine rI ?_
            refine g_iret rfl dX8_read_19 ?_
            exact k (((xf i.toNat)) a.toNat) (fun q => by first | rfl | omega) (fun q => by omega)
          · refine g_iconst (v := iZ (-1)) 20 dX6_at_19 rfl rfl ?_
            refine g_goto 29 dX6_at_20 rfl ?_
            refine g_iret rfl dX6_at_29 ?_
            refine rI ?_
            refine g_iret rfl dX8_read_19 ?_
            exact k (-1) (fun q => by first | rfl | omega) (fun q => by omega)
    · refine g_null 11 dX8_textAt_10 rfl ?_
      refine g_goto 20 dX8_textAt_11 rfl ?_
      refine g_aret rfl (Or.inl rfl) dX8_textAt_20 ?_
      refine rN ?_
      refine g_astore_nN (L1 := [some (.ref 0), some (.int (iZ i)), some (.int (iZ a)), some (.null)]) 6 dX8_read_5 (by decide) rfl rfl rfl ?_
      refine g_aload_nN 7 dX8_read_6 rfl rfl ?_
      refine g_ifnonnullN 10 dX8_read_7 rfl ?_
      refine g_iconst (v := iZ (-1)) 11 dX8_read_10 rfl rfl ?_
      refine g_goto 19 dX8_read_11 rfl ?_
      refine g_iret rfl dX8_read_19 ?_
      exact k (-1) (fun q => by first | rfl | omega) (fun q => by omega)

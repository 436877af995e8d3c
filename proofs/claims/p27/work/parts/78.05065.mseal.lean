set_option maxRecDepth 100000 in
theorem b_chain_l {l : Launch} {h : MH} {Q : Option Value → MH → Prop} {tr : Int64} {ty tx : Nat → Int32} {w : Nat → Int} {B : Nat → Nat → Int} {t k0 : Int} (H : R9B h tr ty tx w B) (rt : rg t) (rk0 : rg k0)  (k : ∀ r : Int, (rg r) → Q (some (.int (iZ r))) h) : ∀ (m0 : Nat) (c : Int) (n : Int), (k0 - n).toNat = m0 → (0 ≤ n ∧ (n ≤ k0 ∨ n = 0) ∧ k0 ≤ 12) → (0 ≤ t ∧ t < w 5) → (∀ m : Nat, (m : Int) ≤ k0 → 0 ≤ itB (B 59) t m ∧ itB (B 59) t m ≤ t) → (itB (B 59) t n.toNat = c) → (rg c) → Go l mX9_chain 30 [some (.ref 50), some (.int (iZ t)), some (.int (iZ k0)), some (.int (iZ c)), some (.int (iZ n))] [] h Q := by
  intro m0
  induction m0 using Nat.strongRecOn with
  | ind m0 ih =>
    intro c n hmz hn ht hI hC rc
    have n0 := H.2.2.1.2.1
    refine g_iload 32 dX9_chain_30 rfl rfl ?_
    refine g_iload_n 33 dX9_chain_32 rfl rfl ?_
    refine g_icZ_ge 49 36 dX9_chain_33 rfl rfl (by omega) rk0 (fun c1 => ?_) (fun c1 => ?_)
    · refine g_iload_n 50 dX9_chain_49 rfl rfl ?_
      refine g_ifZ_ge 61 53 dX9_chain_50 rfl rfl rk0 (fun c2 => ?_) (fun c2 => ?_)
      · refine g_iload_n 62 dX9_chain_61 rfl rfl ?_
        refine g_iret rfl dX9_chain_62 ?_
        exact k (c) (by omega) 
      · refine g_aload_n 54 dX9_chain_53 rfl rfl ?_
        refine g_iload_n 55 dX9_chain_54 rfl rfl ?_
        obtain ⟨F50_3, ⟨F51_3, F52_3, F53_3, F54_3, F55_3, F56_3, F57_3, F58_3, F59_3, F60_3, F61_3, F62_3, F63_3, F64_3, F65_3, F66_3, F67_3, F68_3, F69_3, F70_3, kty_3, ktx_3⟩, ⟨r2_3, r5_3, r13_3, r14_3, r15_3, r16_3, r17_3, r18_3, r19_3, r20_3, r25_3, r26_3, r27_3, r28_3, r29_3, r30_3, r31_3, r35_3⟩, ⟨o53_3, o54_3, o55_3, o56_3, o57_3, o58_3, o59_3, o60_3, o61_3, o62_3, o63_3, o64_3, o65_3, o66_3, o67_3, o68_3, o69_3, o70_3⟩, hT_3⟩ := id H
        refine g_callV (z := mX9_lengthOf) (As := [.int (iZ t)]) 58 dX9_chain_55 mwX9_lengthOf ⟨by decide, by decide⟩ rfl wlX9_223 wiX9_lengthOf wsX9_lengthOf F50_3 rfl rfl rfl (nle rfl) (nle rfl) rfl ?_
        refine b_len H (by omega) (by omega) (fun z4 rz4  => ?_)
        refine rI ?_
        refine g_goto 62 dX9_chain_58 rfl ?_
        refine g_iret rfl dX9_chain_62 ?_
        exact k (z4) (by omega) 
    · have q1 := hI n.toNat (by omega)
      rw [hC] at q1
      refine g_aload_n 37 dX9_chain_36 rfl rfl ?_
      obtain ⟨F50_5, ⟨F51_5, F52_5, F53_5, F54_5, F55_5, F56_5, F57_5, F58_5, F59_5, F60_5, F61_5, F62_5, F63_5, F64_5, F65_5, F66_5, F67_5, F68_5, F69_5, F70_5, kty_5, ktx_5⟩, ⟨r2_5, r5_5, r13_5, r14_5, r15_5, r16_5, r17_5, r18_5, r19_5, r20_5, r25_5, r26_5, r27_5, r28_5, r29_5, r30_5, r31_5, r35_5⟩, ⟨o53_5, o54_5, o55_5, o56_5, o57_5, o58_5, o59_5, o60_5, o61_5, o62_5, o63_5, o64_5, o65_5, o66_5, o67_5, o68_5, o69_5, o70_5⟩, hT_5⟩ := id H
      refine g_get 40 dX9_chain_37 faX9_35_X9 F50_5 rfl rfl ?_
      refine g_iload_n 41 dX9_chain_40 rfl rfl ?_
      have b6 := o59_5 ((c).toNat)
      refine g_ialdZ (v := iZ ((B 59) c.toNat)) 42 dX9_chain_41 F59_5 (by omega) (by omega) (by decide) rfl rfl ?_
      refine g_istore_n (L1 := [some (.ref 50), some (.int (iZ t)), some (.int (iZ k0)), some (.int (iZ ((B 59) c.toNat))), some (.int (iZ n))]) 43 dX9_chain_42 (by decide) rfl rfl rfl ?_
      refine g_iincZ [some (.ref 50), some (.int (iZ t)), some (.int (iZ k0)), some (.int (iZ ((B 59) c.toNat))), some (.int (iZ (n + 1)))] 46 dX9_chain_43 rfl (by omega) (by decide) rfl rfl rfl ?_
      refine g_goto 30 dX9_chain_46 rfl ?_
      exact ih _ (by omega) ((B 59) c.toNat) (n + 1) rfl (by omega) (by omega) hI (itB_n (by omega) hC) (by omega)
set_option maxRecDepth 100000 in
theorem b_chain {l : Launch} {h : MH} {Q : Option Value → MH → Prop} {tr : Int64} {ty tx : Nat → Int32} {w : Nat → Int} {B : Nat → Nat → Int} {t k0 : Int} (H : R9B h tr ty tx w B) (rt : rg t) (rk0 : rg k0)  (k : ∀ r : Int, (rg r) → Q (some (.int (iZ r))) h) : Go l mX9_chain 0 [some (.ref 50), some (.int (iZ t)), some (.int (iZ k0)), none, none] [] h Q := by
  have n0 := H.2.2.1.2.1
  refine g_aload_n 1 dX9_chain_0 rfl rfl ?_
  refine g_iload_n 2 dX9_chain_1 rfl rfl ?_
  obtain ⟨F50_1, ⟨F51_1, F52_1, F53_1, F54_1, F55_1, F56_1, F57_1, F58_1, F59_1, F60_1, F61_1, F62_1, F63_1, F64_1, F65_1, F66_1, F67_1, F68_1, F69_1, F70_1, kty_1, ktx_1⟩, ⟨r2_1, r5_1, r13_1, r14_1, r15_1, r16_1, r17_1, r18_1, r19_1, r20_1, r25_1, r26_1, r27_1, r28_1, r29_1, r30_1, r31_1, r35_1⟩, ⟨o53_1, o54_1, o55_1, o56_1, o57_1, o58_1, o59_1, o60_1, o61_1, o62_1, o63_1, o64_1, o65_1, o66_1, o67_1, o68_1, o69_1, o70_1⟩, hT_1⟩ := id H
  refine g_callV (z := mX9_isTool) (As := [.int (iZ t)]) 5 dX9_chain_2 mwX9_isTool ⟨by decide, by decide⟩ rfl wlX9_178 wiX9_isTool wsX9_isTool F50_1 rfl rfl rfl (nle rfl) (nle rfl) rfl ?_
  refine b_isTool H rt (fun z2 rz2 => ?_)
  refine rI ?_
  refine g_ifZ_eq 23 8 dX9_chain_5 rfl rfl (rg01 (by omega)) (fun c3 => ?_) (fun c3 => ?_)
  · refine g_iconst (v := iZ (-1)) 24 dX9_chain_23 rfl rfl ?_
    refine g_iret rfl dX9_chain_24 ?_
    exact k (-1) (by decide) 
  · refine g_iload_n 9 dX9_chain_8 rfl rfl ?_
    refine g_iconst (v := iZ (-1)) 10 dX9_chain_9 rfl rfl ?_
    refine g_aload_n 11 dX9_chain_10 rfl rfl ?_
    refine g_iload_n 12 dX9_chain_11 rfl rfl ?_
    refine g_callV (z := mX9_lengthOf) (As := [.int (iZ t)]) 15 dX9_chain_12 mwX9_lengthOf ⟨by decide, by decide⟩ rfl wlX9_223 wiX9_lengthOf wsX9_lengthOf F50_1 rfl rfl rfl (nle rfl) (nle rfl) rfl ?_
    refine b_len H (by omega) (by omega) (fun z4 rz4  => ?_)
    refine rI ?_
    refine g_iconst (v := iZ (1)) 16 dX9_chain_15 rfl rfl ?_
    refine g_isubZ (z4 - 1) 17 dX9_chain_16 (by omega) rfl ?_
    refine g_callS (z := mX9_in) (As := [.int (iZ k0), .int (iZ (-1)), .int (iZ (z4 - 1))]) 20 dX9_chain_17 mwX9_in ⟨by decide, by decide⟩ rfl wlX9_75 wtX9_in rfl (nle rfl) (nle rfl) rfl ?_
    refine n_in  rk0 (by decide) (by omega) (fun z5 rz5 => ?_)
    refine rI ?_
    refine g_ifZ_ne 25 23 dX9_chain_20 rfl rfl (rg01 (by omega)) (fun c6 => ?_) (fun c6 => ?_)
    · refine g_iload_n 26 dX9_chain_25 rfl rfl ?_
      refine g_istore_n (L1 := [some (.ref 50), some (.int (iZ t)), some (.int (iZ k0)), some (.int (iZ t)), none]) 27 dX9_chain_26 (by decide) rfl rfl rfl ?_
      refine g_iconst (v := iZ (0)) 28 dX9_chain_27 rfl rfl ?_
      refine g_istore (L1 := [some (.ref 50), some (.int (iZ t)), some (.int (iZ k0)), some (.int (iZ t)), some (.int (iZ 0))]) 30 dX9_chain_28 (by decide) rfl rfl rfl ?_
      exact b_chain_l H rt rk0  k _ (t) (0) rfl (by omega) (by omega) (fun m hm => rz4.1 m (by omega)) rfl (by omega)
    · refine g_iconst (v := iZ (-1)) 24 dX9_chain_23 rfl rfl ?_
      refine g_iret rfl dX9_chain_24 ?_
      exact k (-1) (by decide) 
set_option maxRecDepth 100000 in
theorem b_sealO_l {l : Launch} {Q : Option Value → MH → Prop} {tr : Int64} {ty tx : Nat → Int32}   : ∀ (m0 : Nat) (h : MH) (w : Nat → Int) (B : Nat → Nat → Int) (sb : Int) (bi : Int) (t : Int), (12 - t).toNat = m0 → R9B h tr ty tx w B → (rg sb) → (rg bi) → (0 ≤ t ∧ t ≤ w 5) → (∀ (h1 : MH) (w1 : Nat → Int) (B1 : Nat → Nat → Int) (r : Int), (rg r) → R9B h1 tr ty tx w1 B1 → AgB w B w1 B1 → Sm [50, 54, 55, 56, 61, 62, 63, 64] h h1 → Q (some (.int (iZ r))) h1) → Go l mX9_sealedOnes 9 [some (.ref 50), some (.int (iZ sb)), some (.int (iZ bi)), some (.int (iZ t))] [] h Q := by
  intro m0
  induction m0 using Nat.strongRecOn with
  | ind m0 ih =>
    intro h w B sb bi t hmz H rsb rbi ht k
    have n0 := H.2.2.1.2.1
    refine g_iload_n 10 dX9_sealedOnes_9 rfl rfl ?_
    refine g_aload_n 11 dX9_sealedOnes_10 rfl rfl ?_
    obtain ⟨F50_1, ⟨F51_1, F52_1, F53_1, F54_1, F55_1, F56_1, F57_1, F58_1, F59_1, F60_1, F61_1, F62_1, F63_1, F64_1, F65_1, F66_1, F67_1, F68_1, F69_1, F70_1, kty_1, ktx_1⟩, ⟨r2_1, r5_1, r13_1, r14_1, r15_1, r16_1, r17_1, r18_1, r19_1, r20_1, r25_1, r26_1, r27_1, r28_1, r29_1, r30_1, r31_1, r35_1⟩, ⟨o53_1, o54_1, o55_1, o56_1, o57_1, o58_1, o59_1, o60_1, o61_1, o62_1, o63_1, o64_1, o65_1, o66_1, o67_1, o68_1, o69_1, o70_1⟩, hT_1⟩ := id H
    refine g_get 14 dX9_sealedOnes_11 faX9_85_X9 F50_1 rfl rfl ?_
    refine g_icZ_ge 55 17 dX9_sealedOnes_14 rfl rfl (by omega) (by omega) (fun c2 => ?_) (fun c2 => ?_)
    · refine g_iload_n 56 dX9_sealedOnes_55 rfl rfl ?_
      refine g_iret rfl dX9_sealedOnes_56 ?_
      exact k _ _ _ (bi) rbi  H (AgB.refl _ _) (Sm.refl [50, 54, 55, 56, 61, 62, 63, 64] _)
    · refine g_iload_n 18 dX9_sealedOnes_17 rfl rfl ?_
      refine g_iload_n 19 dX9_sealedOnes_18 rfl rfl ?_
      refine g_iload_n 20 dX9_sealedOnes_19 rfl rfl ?_
      refine g_ishr 21 dX9_sealedOnes_20 rfl ?_
      refine Go.genZ (fun z3 rz3 => ?_)
      refine g_iconst (v := iZ (1)) 22 dX9_sealedOnes_21 rfl rfl ?_
      refine g_iand 23 dX9_sealedOnes_22 rfl ?_
      refine Go.genZ (fun z4 rz4 => ?_)
      refine g_ifZ_ne 46 26 dX9_sealedOnes_23 rfl rfl rz4 (fun c5 => ?_) (fun c5 => ?_)
      · refine g_iconst (v := iZ (0)) 47 dX9_sealedOnes_46 rfl rfl ?_
        refine g_ior 48 dX9_sealedOnes_47 rfl ?_
        refine Go.genZ (fun z6 rz6 => ?_)
        refine g_istore_n (L1 := [some (.ref 50), some (.int (iZ sb)), some (.int (iZ z6)), some (.int (iZ t))]) 49 dX9_sealedOnes_48 (by decide) rfl rfl rfl ?_
        refine g_iincZ [some (.ref 50), some (.int (iZ sb)), some (.int (iZ z6)), some (.int (iZ (t + 1)))] 52 dX9_sealedOnes_49 rfl (by omega) (by decide) rfl rfl rfl ?_
        refine g_goto 9 dX9_sealedOnes_52 rfl ?_
        exact ih _ (by omega) _ _ _ (sb) (z6) (t + 1) rfl H rsb rz6 (by omega) k
      · refine g_aload_n 27 dX9_sealedOnes_26 rfl rfl ?_
        refine g_get 30 dX9_sealedOnes_27 faX9_38_X9 F50_1 rfl rfl ?_
        refine g_aload_n 31 dX9_sealedOnes_30 rfl rfl ?_
        refine g_iload_n 32 dX9_sealedOnes_31 rfl rfl ?_
        refine g_callV (z := mX9_last) (As := [.int (iZ t)]) 35 dX9_sealedOnes_32 mwX9_last ⟨by decide, by decide⟩ rfl wlX9_229 wiX9_last wsX9_last F50_1 rfl rfl rfl (nle rfl) (nle rfl) rfl ?_
        refine b_last H (by omega) (by omega) (fun z7 rz7  => ?_)
        refine rI ?_
        refine g_ialdZ (v := iZ ((B 60) z7.toNat)) 36 dX9_sealedOnes_35 F60_1 (by omega) (by omega) (by decide) rfl rfl ?_
        refine g_iconst (v := iZ (1)) 37 dX9_sealedOnes_36 rfl rfl ?_
        refine g_icZ_ne 46 40 dX9_sealedOnes_37 rfl rfl (o60_1 _) (by decide) (fun c8 => ?_) (fun c8 => ?_)
        · refine g_iconst (v := iZ (0)) 47 dX9_sealedOnes_46 rfl rfl ?_
          refine g_ior 48 dX9_sealedOnes_47 rfl ?_
          refine Go.genZ (fun z9 rz9 => ?_)
          refine g_istore_n (L1 := [some (.ref 50), some (.int (iZ sb)), some (.int (iZ z9)), some (.int (iZ t))]) 49 dX9_sealedOnes_48 (by decide) rfl rfl rfl ?_
          refine g_iincZ [some (.ref 50), some (.int (iZ sb)), some (.int (iZ z9)), some (.int (iZ (t + 1)))] 52 dX9_sealedOnes_49 rfl (by omega) (by decide) rfl rfl rfl ?_
          refine g_goto 9 dX9_sealedOnes_52 rfl ?_
          exact ih _ (by omega) _ _ _ (sb) (z9) (t + 1) rfl H rsb rz9 (by omega) k
        · refine g_iconst (v := iZ (1)) 41 dX9_sealedOnes_40 rfl rfl ?_
          refine g_iload_n 42 dX9_sealedOnes_41 rfl rfl ?_
          refine g_ishl 43 dX9_sealedOnes_42 rfl ?_
          refine Go.genZ (fun z10 rz10 => ?_)
          refine g_goto 47 dX9_sealedOnes_43 rfl ?_
          refine g_ior 48 dX9_sealedOnes_47 rfl ?_
          refine Go.genZ (fun z11 rz11 => ?_)
          refine g_istore_n (L1 := [some (.ref 50), some (.int (iZ sb)), some (.int (iZ z11)), some (.int (iZ t))]) 49 dX9_sealedOnes_48 (by decide) rfl rfl rfl ?_
          refine g_iincZ [some (.ref 50), some (.int (iZ sb)), some (.int (iZ z11)), some (.int (iZ (t + 1)))] 52 dX9_sealedOnes_49 rfl (by omega) (by decide) rfl rfl rfl ?_
          refine g_goto 9 dX9_sealedOnes_52 rfl ?_
          exact ih _ (by omega) _ _ _ (sb) (z11) (t + 1) rfl H rsb rz11 (by omega) k
set_option maxRecDepth 100000 in
theorem b_sealO {l : Launch} {h : MH} {Q : Option Value → MH → Prop} {tr : Int64} {ty tx : Nat → Int32} {w : Nat → Int} {B : Nat → Nat → Int}  (H : R9B h tr ty tx w B)   (k : ∀ (h1 : MH) (w1 : Nat → Int) (B1 : Nat → Nat → Int) (r : Int), (rg r) → R9B h1 tr ty tx w1 B1 → AgB w B w1 B1 → Sm [50, 54, 55, 56, 61, 62, 63, 64] h h1 → Q (some (.int (iZ r))) h1) : Go l mX9_sealedOnes 0 [some (.ref 50), none, none, none] [] h Q := by
  have n0 := H.2.2.1.2.1
  refine g_aload_n 1 dX9_sealedOnes_0 rfl rfl ?_
  obtain ⟨F50_1, ⟨F51_1, F52_1, F53_1, F54_1, F55_1, F56_1, F57_1, F58_1, F59_1, F60_1, F61_1, F62_1, F63_1, F64_1, F65_1, F66_1, F67_1, F68_1, F69_1, F70_1, kty_1, ktx_1⟩, ⟨r2_1, r5_1, r13_1, r14_1, r15_1, r16_1, r17_1, r18_1, r19_1, r20_1, r25_1, r26_1, r27_1, r28_1, r29_1, r30_1, r31_1, r35_1⟩, ⟨o53_1, o54_1, o55_1, o56_1, o57_1, o58_1, o59_1, o60_1, o61_1, o62_1, o63_1, o64_1, o65_1, o66_1, o67_1, o68_1, o69_1, o70_1⟩, hT_1⟩ := id H
  refine g_callV (z := mX9_stale) (As := []) 4 dX9_sealedOnes_1 mwX9_stale ⟨by decide, by decide⟩ rfl wlX9_226 wiX9_stale wsX9_stale F50_1 rfl rfl rfl (nle rfl) (nle rfl) rfl ?_
  refine b_stale H  (fun h3 w4 B5 z2 rz2  H6 a7 s8 => ?_)
  have e9 := a7.1
  have n10 := H6.2.2.1.2.1
  refine rI ?_
  refine g_istore_n (L1 := [some (.ref 50), some (.int (iZ z2)), none, none]) 5 dX9_sealedOnes_4 (by decide) rfl rfl rfl ?_
  refine g_iconst (v := iZ (0)) 6 dX9_sealedOnes_5 rfl rfl ?_
  refine g_istore_n (L1 := [some (.ref 50), some (.int (iZ z2)), some (.int (iZ 0)), none]) 7 dX9_sealedOnes_6 (by decide) rfl rfl rfl ?_
  refine g_iconst (v := iZ (0)) 8 dX9_sealedOnes_7 rfl rfl ?_
  refine g_istore_n (L1 := [some (.ref 50), some (.int (iZ z2)), some (.int (iZ 0)), some (.int (iZ 0))]) 9 dX9_sealedOnes_8 (by decide) rfl rfl rfl ?_
  exact b_sealO_l  _ _ _ _ (z2) (0) (0) rfl H6 rz2 (by decide) (by omega) (fun hQ wQ BQ rQ eQ  RQ aQ sQ => k hQ wQ BQ rQ eQ  RQ (a7.tr aQ) (((Sm.refl [50, 54, 55, 56, 61, 62, 63, 64] _).tr s8 (fun _ q => q) (by simp)).tr sQ (fun _ q => q) (fun _ q => q)))
set_option maxRecDepth 100000 in
theorem b_sealed {l : Launch} {h : MH} {Q : Option Value → MH → Prop} {tr : Int64} {ty tx : Nat → Int32} {w : Nat → Int} {B : Nat → Nat → Int} {t : Int} (H : R9B h tr ty tx w B) (rt : rg t)  (k : ∀ (h1 : MH) (w1 : Nat → Int) (B1 : Nat → Nat → Int) (r : Int), (rg r) → R9B h1 tr ty tx w1 B1 → AgB w B w1 B1 → Sm [50, 54, 55, 56, 61, 62, 63, 64] h h1 → Q (some (.int (iZ r))) h1) : Go l mX9_sealed 0 [some (.ref 50), some (.int (iZ t))] [] h Q := by
  have n0 := H.2.2.1.2.1
  refine g_aload_n 1 dX9_sealed_0 rfl rfl ?_
  refine g_iload_n 2 dX9_sealed_1 rfl rfl ?_
  obtain ⟨F50_1, ⟨F51_1, F52_1, F53_1, F54_1, F55_1, F56_1, F57_1, F58_1, F59_1, F60_1, F61_1, F62_1, F63_1, F64_1, F65_1, F66_1, F67_1, F68_1, F69_1, F70_1, kty_1, ktx_1⟩, ⟨r2_1, r5_1, r13_1, r14_1, r15_1, r16_1, r17_1, r18_1, r19_1, r20_1, r25_1, r26_1, r27_1, r28_1, r29_1, r30_1, r31_1, r35_1⟩, ⟨o53_1, o54_1, o55_1, o56_1, o57_1, o58_1, o59_1, o60_1, o61_1, o62_1, o63_1, o64_1, o65_1, o66_1, o67_1, o68_1, o69_1, o70_1⟩, hT_1⟩ := id H
  refine g_callV (z := mX9_isTool) (As := [.int (iZ t)]) 5 dX9_sealed_2 mwX9_isTool ⟨by decide, by decide⟩ rfl wlX9_178 wiX9_isTool wsX9_isTool F50_1 rfl rfl rfl (nle rfl) (nle rfl) rfl ?_
  refine b_isTool H rt (fun z2 rz2 => ?_)
  refine rI ?_
  refine g_ifZ_eq 19 8 dX9_sealed_5 rfl rfl (rg01 (by omega)) (fun c3 => ?_) (fun c3 => ?_)
  · refine g_iconst (v := iZ (-1)) 20 dX9_sealed_19 rfl rfl ?_
    refine g_iret rfl dX9_sealed_20 ?_
    exact k _ _ _ (-1) (by decide)  H (AgB.refl _ _) (Sm.refl [50, 54, 55, 56, 61, 62, 63, 64] _)
  · refine g_aload_n 9 dX9_sealed_8 rfl rfl ?_
    refine g_callV (z := mX9_sealedOnes) (As := []) 12 dX9_sealed_9 mwX9_sealedOnes ⟨by decide, by decide⟩ rfl wlX9_232 wiX9_sealedOnes wsX9_sealedOnes F50_1 rfl rfl rfl (nle rfl) (nle rfl) rfl ?_
    refine b_sealO H  (fun h5 w6 B7 z4 rz4  H8 a9 s10 => ?_)
    have e11 := a9.1
    have n12 := H8.2.2.1.2.1
    refine rI ?_
    refine g_iload_n 13 dX9_sealed_12 rfl rfl ?_
    refine g_ishr 14 dX9_sealed_13 rfl ?_
    refine Go.genZ (fun z13 rz13 => ?_)
    refine g_iconst (v := iZ (1)) 15 dX9_sealed_14 rfl rfl ?_
    refine g_iand 16 dX9_sealed_15 rfl ?_
    refine Go.genZ (fun z14 rz14 => ?_)
    refine g_goto 20 dX9_sealed_16 rfl ?_
    refine g_iret rfl dX9_sealed_20 ?_
    exact k _ _ _ (z14) rz14  H8 a9 ((Sm.refl [50, 54, 55, 56, 61, 62, 63, 64] _).tr s10 (fun _ q => q) (by simp))
set_option maxRecDepth 100000 in
theorem b_least_l {l : Launch} {Q : Option Value → MH → Prop} {tr : Int64} {ty tx : Nat → Int32} {e : Int} (re : rg e) : ∀ (m0 : Nat) (h : MH) (w : Nat → Int) (B : Nat → Nat → Int) (sb : Int) (bi : Int) (t : Int), (12 - t).toNat = m0 → R9B h tr ty tx w B → (rg sb) → (rg bi) → (0 ≤ t ∧ t ≤ w 5) → (∀ (h1 : MH) (w1 : Nat → Int) (B1 : Nat → Nat → Int) (r : Int), (rg r) → R9B h1 tr ty tx w1 B1 → AgB w B w1 B1 → Sm [50, 54, 55, 56, 61, 62, 63, 64] h h1 → Q (some (.int (iZ r))) h1) → Go l mX9_least 28 [some (.ref 50), some (.int (iZ e)), some (.int (iZ sb)), some (.int (iZ bi)), some (.int (iZ t)), none] [] h Q := by
  intro m0
  induction m0 using Nat.strongRecOn with
  | ind m0 ih =>
    intro h w B sb bi t hmz H rsb rbi ht k
    have n0 := H.2.2.1.2.1
    refine g_iload 30 dX9_least_28 rfl rfl ?_
    refine g_aload_n 31 dX9_least_30 rfl rfl ?_
    obtain ⟨F50_1, ⟨F51_1, F52_1, F53_1, F54_1, F55_1, F56_1, F57_1, F58_1, F59_1, F60_1, F61_1, F62_1, F63_1, F64_1, F65_1, F66_1, F67_1, F68_1, F69_1, F70_1, kty_1, ktx_1⟩, ⟨r2_1, r5_1, r13_1, r14_1, r15_1, r16_1, r17_1, r18_1, r19_1, r20_1, r25_1, r26_1, r27_1, r28_1, r29_1, r30_1, r31_1, r35_1⟩, ⟨o53_1, o54_1, o55_1, o56_1, o57_1, o58_1, o59_1, o60_1, o61_1, o62_1, o63_1, o64_1, o65_1, o66_1, o67_1, o68_1, o69_1, o70_1⟩, hT_1⟩ := id H
    refine g_get 34 dX9_least_31 faX9_85_X9 F50_1 rfl rfl ?_
    refine g_icZ_ge 112 37 dX9_least_34 rfl rfl (by omega) (by omega) (fun c2 => ?_) (fun c2 => ?_)
    · refine g_iload_n 113 dX9_least_112 rfl rfl ?_
      refine g_iret rfl dX9_least_113 ?_
      exact k _ _ _ (bi) rbi  H (AgB.refl _ _) (Sm.refl [50, 54, 55, 56, 61, 62, 63, 64] _)
    · refine g_iload_n 38 dX9_least_37 rfl rfl ?_
      refine g_iload_n 39 dX9_least_38 rfl rfl ?_
      refine g_iconst (v := iZ (-1)) 40 dX9_least_39 rfl rfl ?_
      refine g_ixor 41 dX9_least_40 rfl ?_
      refine Go.genZ (fun z3 rz3 => ?_)
      refine g_iand 42 dX9_least_41 rfl ?_
      refine Go.genZ (fun z4 rz4 => ?_)
      refine g_iload 44 dX9_least_42 rfl rfl ?_
      refine g_ishr 45 dX9_least_44 rfl ?_
      refine Go.genZ (fun z5 rz5 => ?_)
      refine g_iconst (v := iZ (1)) 46 dX9_least_45 rfl rfl ?_
      refine g_iand 47 dX9_least_46 rfl ?_
      refine Go.genZ (fun z6 rz6 => ?_)
      refine g_iconst (v := iZ (1)) 48 dX9_least_47 rfl rfl ?_
      refine g_icZ_ne 55 51 dX9_least_48 rfl rfl rz6 (by decide) (fun c7 => ?_) (fun c7 => ?_)
      · refine g_iconst (v := iZ (0)) 56 dX9_least_55 rfl rfl ?_
        refine g_istore (L1 := [some (.ref 50), some (.int (iZ e)), some (.int (iZ sb)), some (.int (iZ bi)), some (.int (iZ t)), some (.int (iZ 0))]) 58 dX9_least_56 (by decide) rfl rfl rfl ?_
        refine g_iload_n 59 dX9_least_58 rfl rfl ?_
        refine g_iload 61 dX9_least_59 rfl rfl ?_
        refine g_ifZ_eq 103 64 dX9_least_61 rfl rfl (by decide) (fun _ => ?_) (fun q => absurd q (by decide))
        refine g_iconst (v := iZ (0)) 104 dX9_least_103 rfl rfl ?_
        refine g_ior 105 dX9_least_104 rfl ?_
        refine Go.genZ (fun z8 rz8 => ?_)
        refine g_istore_n (L1 := [some (.ref 50), some (.int (iZ e)), some (.int (iZ sb)), some (.int (iZ z8)), some (.int (iZ t)), some (.int (iZ 0))]) 106 dX9_least_105 (by decide) rfl rfl rfl ?_
        refine g_iincZ [some (.ref 50), some (.int (iZ e)), some (.int (iZ sb)), some (.int (iZ z8)), some (.int (iZ (t + 1))), some (.int (iZ 0))] 109 dX9_least_106 rfl (by omega) (by decide) rfl rfl rfl ?_
        refine g_goto 28 dX9_least_109 rfl ?_
        refine Go.fgt 5 ?_
        exact ih _ (by omega) _ _ _ (sb) (z8) (t + 1) rfl H rsb rz8 (by omega) k
      · refine g_iconst (v := iZ (1)) 52 dX9_least_51 rfl rfl ?_
        refine g_goto 56 dX9_least_52 rfl ?_
        refine g_istore (L1 := [some (.ref 50), some (.int (iZ e)), some (.int (iZ sb)), some (.int (iZ bi)), some (.int (iZ t)), some (.int (iZ 1))]) 58 dX9_least_56 (by decide) rfl rfl rfl ?_
        refine g_iload_n 59 dX9_least_58 rfl rfl ?_
        refine g_iload 61 dX9_least_59 rfl rfl ?_
        refine g_ifZ_eq 103 64 dX9_least_61 rfl rfl (by decide) (fun q => absurd q (by decide)) (fun _ => ?_)
        refine g_aload_n 65 dX9_least_64 rfl rfl ?_
        refine g_get 68 dX9_least_65 faX9_29_X9 F50_1 rfl rfl ?_
        refine g_aload_n 69 dX9_least_68 rfl rfl ?_
        refine g_iload 71 dX9_least_69 rfl rfl ?_
        refine g_callV (z := mX9_last) (As := [.int (iZ t)]) 74 dX9_least_71 mwX9_last ⟨by decide, by decide⟩ rfl wlX9_229 wiX9_last wsX9_last F50_1 rfl rfl rfl (nle rfl) (nle rfl) rfl ?_
        refine b_last H (by omega) (by omega) (fun z9 rz9  => ?_)
        refine rI ?_
        refine g_ialdZ (v := iZ ((B 57) z9.toNat)) 75 dX9_least_74 F57_1 (by omega) (by omega) (by decide) rfl rfl ?_
        refine g_ifZ_ne 103 78 dX9_least_75 rfl rfl (o57_1 _) (fun c10 => ?_) (fun c10 => ?_)
        · refine g_iconst (v := iZ (0)) 104 dX9_least_103 rfl rfl ?_
          refine g_ior 105 dX9_least_104 rfl ?_
          refine Go.genZ (fun z11 rz11 => ?_)
          refine g_istore_n (L1 := [some (.ref 50), some (.int (iZ e)), some (.int (iZ sb)), some (.int (iZ z11)), some (.int (iZ t)), some (.int (iZ 1))]) 106 dX9_least_105 (by decide) rfl rfl rfl ?_
          refine g_iincZ [some (.ref 50), some (.int (iZ e)), some (.int (iZ sb)), some (.int (iZ z11)), some (.int (iZ (t + 1))), some (.int (iZ 1))] 109 dX9_least_106 rfl (by omega) (by decide) rfl rfl rfl ?_
          refine g_goto 28 dX9_least_109 rfl ?_
          refine Go.fgt 5 ?_
          exact ih _ (by omega) _ _ _ (sb) (z11) (t + 1) rfl H rsb rz11 (by omega) k
        · refine g_aload_n 79 dX9_least_78 rfl rfl ?_
          refine g_get 82 dX9_least_79 faX9_38_X9 F50_1 rfl rfl ?_
          refine g_aload_n 83 dX9_least_82 rfl rfl ?_
          refine g_iload 85 dX9_least_83 rfl rfl ?_
          refine g_callV (z := mX9_last) (As := [.int (iZ t)]) 88 dX9_least_85 mwX9_last ⟨by decide, by decide⟩ rfl wlX9_229 wiX9_last wsX9_last F50_1 rfl rfl rfl (nle rfl) (nle rfl) rfl ?_
          refine b_last H (by omega) (by omega) (fun z12 rz12  => ?_)
          refine rI ?_
          refine g_ialdZ (v := iZ ((B 60) z12.toNat)) 89 dX9_least_88 F60_1 (by omega) (by omega) (by decide) rfl rfl ?_
          refine g_ifZ_ne 103 92 dX9_least_89 rfl rfl (o60_1 _) (fun c13 => ?_) (fun c13 => ?_)
          · refine g_iconst (v := iZ (0)) 104 dX9_least_103 rfl rfl ?_
            refine g_ior 105 dX9_least_104 rfl ?_
            refine Go.genZ (fun z14 rz14 => ?_)
            refine g_istore_n (L1 := [some (.ref 50), some (.int (iZ e)), some (.int (iZ sb)), some (.int (iZ z14)), some (.int (iZ t)), some (.int (iZ 1))]) 106 dX9_least_105 (by decide) rfl rfl rfl ?_
            refine g_iincZ [some (.ref 50), some (.int (iZ e)), some (.int (iZ sb)), some (.int (iZ z14)), some (.int (iZ (t + 1))), some (.int (iZ 1))] 109 dX9_least_106 rfl (by omega) (by decide) rfl rfl rfl ?_
            refine g_goto 28 dX9_least_109 rfl ?_
            refine Go.fgt 5 ?_
            exact ih _ (by omega) _ _ _ (sb) (z14) (t + 1) rfl H rsb rz14 (by omega) k
          · refine g_iconst (v := iZ (1)) 93 dX9_least_92 rfl rfl ?_
            refine g_aload_n 94 dX9_least_93 rfl rfl ?_
            refine g_iload 96 dX9_least_94 rfl rfl ?_
            refine g_callV (z := mX9_last) (As := [.int (iZ t)]) 99 dX9_least_96 mwX9_last ⟨by decide, by decide⟩ rfl wlX9_229 wiX9_last wsX9_last F50_1 rfl rfl rfl (nle rfl) (nle rfl) rfl ?_
            refine b_last H (by omega) (by omega) (fun z15 rz15  => ?_)
            refine rI ?_
            refine g_ishl 100 dX9_least_99 rfl ?_
            refine Go.genZ (fun z16 rz16 => ?_)
            refine g_goto 104 dX9_least_100 rfl ?_
            refine g_ior 105 dX9_least_104 rfl ?_
            refine Go.genZ (fun z17 rz17 => ?_)
            refine g_istore_n (L1 := [some (.ref 50), some (.int (iZ e)), some (.int (iZ sb)), some (.int (iZ z17)), some (.int (iZ t)), some (.int (iZ 1))]) 106 dX9_least_105 (by decide) rfl rfl rfl ?_
            refine g_iincZ [some (.ref 50), some (.int (iZ e)), some (.int (iZ sb)), some (.int (iZ z17)), some (.int (iZ (t + 1))), some (.int (iZ 1))] 109 dX9_least_106 rfl (by omega) (by decide) rfl rfl rfl ?_
            refine g_goto 28 dX9_least_109 rfl ?_
            refine Go.fgt 5 ?_
            exact ih _ (by omega) _ _ _ (sb) (z17) (t + 1) rfl H rsb rz17 (by omega) k
set_option maxRecDepth 100000 in
theorem b_least {l : Launch} {h : MH} {Q : Option Value → MH → Prop} {tr : Int64} {ty tx : Nat → Int32} {w : Nat → Int} {B : Nat → Nat → Int} {e : Int} (H : R9B h tr ty tx w B) (re : rg e)  (k : ∀ (h1 : MH) (w1 : Nat → Int) (B1 : Nat → Nat → Int) (r : Int), (rg r) → R9B h1 tr ty tx w1 B1 → AgB w B w1 B1 → Sm [50, 54, 55, 56, 61, 62, 63, 64] h h1 → Q (some (.int (iZ r))) h1) : Go l mX9_least 0 [some (.ref 50), some (.int (iZ e)), none, none, none, none] [] h Q := by
  have n0 := H.2.2.1.2.1
  refine g_iload_n 1 dX9_least_0 rfl rfl ?_
  refine g_iconst (v := iZ (0)) 2 dX9_least_1 rfl rfl ?_
  refine g_iconst (v := iZ (1)) 3 dX9_least_2 rfl rfl ?_
  refine g_aload_n 4 dX9_least_3 rfl rfl ?_
  obtain ⟨F50_1, ⟨F51_1, F52_1, F53_1, F54_1, F55_1, F56_1, F57_1, F58_1, F59_1, F60_1, F61_1, F62_1, F63_1, F64_1, F65_1, F66_1, F67_1, F68_1, F69_1, F70_1, kty_1, ktx_1⟩, ⟨r2_1, r5_1, r13_1, r14_1, r15_1, r16_1, r17_1, r18_1, r19_1, r20_1, r25_1, r26_1, r27_1, r28_1, r29_1, r30_1, r31_1, r35_1⟩, ⟨o53_1, o54_1, o55_1, o56_1, o57_1, o58_1, o59_1, o60_1, o61_1, o62_1, o63_1, o64_1, o65_1, o66_1, o67_1, o68_1, o69_1, o70_1⟩, hT_1⟩ := id H
  refine g_get 7 dX9_least_4 faX9_85_X9 F50_1 rfl rfl ?_
  refine g_ishl 8 dX9_least_7 rfl ?_
  refine Go.genZ (fun z2 rz2 => ?_)
  refine g_iconst (v := iZ (1)) 9 dX9_least_8 rfl rfl ?_
  refine g_isub 10 dX9_least_9 rfl ?_
  refine Go.genZ (fun z3 rz3 => ?_)
  refine g_callS (z := mX9_in) (As := [.int (iZ e), .int (iZ 0), .int (iZ z3)]) 13 dX9_least_10 mwX9_in ⟨by decide, by decide⟩ rfl wlX9_75 wtX9_in rfl (nle rfl) (nle rfl) rfl ?_
  refine n_in  re (by decide) rz3 (fun z4 rz4 => ?_)
  refine rI ?_
  refine g_ifZ_ne 18 16 dX9_least_13 rfl rfl (rg01 (by omega)) (fun c5 => ?_) (fun c5 => ?_)
  · refine g_aload_n 19 dX9_least_18 rfl rfl ?_
    refine g_callV (z := mX9_stale) (As := []) 22 dX9_least_19 mwX9_stale ⟨by decide, by decide⟩ rfl wlX9_226 wiX9_stale wsX9_stale F50_1 rfl rfl rfl (nle rfl) (nle rfl) rfl ?_
    refine b_stale H  (fun h7 w8 B9 z6 rz6  H10 a11 s12 => ?_)
    have e13 := a11.1
    have n14 := H10.2.2.1.2.1
    refine rI ?_
    refine g_istore_n (L1 := [some (.ref 50), some (.int (iZ e)), some (.int (iZ z6)), none, none, none]) 23 dX9_least_22 (by decide) rfl rfl rfl ?_
    refine g_iconst (v := iZ (0)) 24 dX9_least_23 rfl rfl ?_
    refine g_istore_n (L1 := [some (.ref 50), some (.int (iZ e)), some (.int (iZ z6)), some (.int (iZ 0)), none, none]) 25 dX9_least_24 (by decide) rfl rfl rfl ?_
    refine g_iconst (v := iZ (0)) 26 dX9_least_25 rfl rfl ?_
    refine g_istore (L1 := [some (.ref 50), some (.int (iZ e)), some (.int (iZ z6)), some (.int (iZ 0)), some (.int (iZ 0)), none]) 28 dX9_least_26 (by decide) rfl rfl rfl ?_
    exact b_least_l re _ _ _ _ (z6) (0) (0) rfl H10 rz6 (by decide) (by omega) (fun hQ wQ BQ rQ eQ  RQ aQ sQ => k hQ wQ BQ rQ eQ  RQ (a11.tr aQ) (((Sm.refl [50, 54, 55, 56, 61, 62, 63, 64] _).tr s12 (fun _ q => q) (by simp)).tr sQ (fun _ q => q) (fun _ q => q)))
  · refine g_iconst (v := iZ (-1)) 17 dX9_least_16 rfl rfl ?_
    refine g_iret rfl dX9_least_17 ?_
    exact k _ _ _ (-1) (by decide)  H (AgB.refl _ _) (Sm.refl [50, 54, 55, 56, 61, 62, 63, 64] _)
set_option maxRecDepth 100000 in
theorem b_count_l0 {l : Launch} {Q : Option Value → MH → Prop} {tr : Int64} {ty tx : Nat → Int32} {x : Int} (rx : rg x) : ∀ (m0 : Nat) (h : MH) (w : Nat → Int) (B : Nat → Nat → Int) (n : Int) (t : Int), (12 - t).toNat = m0 → R9B h tr ty tx w B → (rg n) → (0 ≤ t ∧ t ≤ w 5) → (∀ (h1 : MH) (w1 : Nat → Int) (B1 : Nat → Nat → Int) (r : Int), (rg r) → R9B h1 tr ty tx w1 B1 → AgB w B w1 B1 → Sm [50, 54, 55, 56, 61, 62, 63, 64] h h1 → Q (some (.int (iZ r))) h1) → Go l mX9_count 70 [some (.ref 50), none, some (.int (iZ n)), none, some (.int (iZ t))] [] h Q := by
  intro m0
  induction m0 using Nat.strongRecOn with
  | ind m0 ih =>
    intro h w B n t hmz H rn ht k
    have n0 := H.2.2.1.2.1
    refine g_iload 72 dX9_count_70 rfl rfl ?_
    refine g_aload_n 73 dX9_count_72 rfl rfl ?_
    obtain ⟨F50_1, ⟨F51_1, F52_1, F53_1, F54_1, F55_1, F56_1, F57_1, F58_1, F59_1, F60_1, F61_1, F62_1, F63_1, F64_1, F65_1, F66_1, F67_1, F68_1, F69_1, F70_1, kty_1, ktx_1⟩, ⟨r2_1, r5_1, r13_1, r14_1, r15_1, r16_1, r17_1, r18_1, r19_1, r20_1, r25_1, r26_1, r27_1, r28_1, r29_1, r30_1, r31_1, r35_1⟩, ⟨o53_1, o54_1, o55_1, o56_1, o57_1, o58_1, o59_1, o60_1, o61_1, o62_1, o63_1, o64_1, o65_1, o66_1, o67_1, o68_1, o69_1, o70_1⟩, hT_1⟩ := id H
    refine g_get 76 dX9_count_73 faX9_85_X9 F50_1 rfl rfl ?_
    refine g_icZ_ge 95 79 dX9_count_76 rfl rfl (by omega) (by omega) (fun c2 => ?_) (fun c2 => ?_)
    · refine g_iload_n 96 dX9_count_95 rfl rfl ?_
      refine g_iret rfl dX9_count_96 ?_
      exact k _ _ _ (n) rn  H (AgB.refl _ _) (Sm.refl [50, 54, 55, 56, 61, 62, 63, 64] _)
    · refine g_iload_n 80 dX9_count_79 rfl rfl ?_
      refine g_aload_n 81 dX9_count_80 rfl rfl ?_
      refine g_get 84 dX9_count_81 faX9_38_X9 F50_1 rfl rfl ?_
      refine g_iload 86 dX9_count_84 rfl rfl ?_
      refine g_ialdZ (v := iZ ((B 60) t.toNat)) 87 dX9_count_86 F60_1 (by omega) (by omega) (by decide) rfl rfl ?_
      refine g_iadd 88 dX9_count_87 rfl ?_
      refine Go.genZ (fun z3 rz3 => ?_)
      refine g_istore_n (L1 := [some (.ref 50), none, some (.int (iZ z3)), none, some (.int (iZ t))]) 89 dX9_count_88 (by decide) rfl rfl rfl ?_
      refine g_iincZ [some (.ref 50), none, some (.int (iZ z3)), none, some (.int (iZ (t + 1)))] 92 dX9_count_89 rfl (by omega) (by decide) rfl rfl rfl ?_
      refine g_goto 70 dX9_count_92 rfl ?_
      exact ih _ (by omega) _ _ _ (z3) (t + 1) rfl H rz3 (by omega) k
set_option maxRecDepth 100000 in
theorem b_count_l1 {l : Launch} {Q : Option Value → MH → Prop} {tr : Int64} {ty tx : Nat → Int32} {x : Int} (rx : rg x) : ∀ (m0 : Nat) (h : MH) (w : Nat → Int) (B : Nat → Nat → Int) (n : Int) (sd : Int) (t : Int), (12 - t).toNat = m0 → R9B h tr ty tx w B → (rg n) → (rg sd) → (0 ≤ t ∧ t ≤ w 5) → (∀ (h1 : MH) (w1 : Nat → Int) (B1 : Nat → Nat → Int) (r : Int), (rg r) → R9B h1 tr ty tx w1 B1 → AgB w B w1 B1 → Sm [50, 54, 55, 56, 61, 62, 63, 64] h h1 → Q (some (.int (iZ r))) h1) → Go l mX9_count 100 [some (.ref 50), none, some (.int (iZ n)), some (.int (iZ sd)), some (.int (iZ t))] [] h Q := by
  intro m0
  induction m0 using Nat.strongRecOn with
  | ind m0 ih =>
    intro h w B n sd t hmz H rn rsd ht k
    have n0 := H.2.2.1.2.1
    refine g_iload 102 dX9_count_100 rfl rfl ?_
    refine g_aload_n 103 dX9_count_102 rfl rfl ?_
    obtain ⟨F50_1, ⟨F51_1, F52_1, F53_1, F54_1, F55_1, F56_1, F57_1, F58_1, F59_1, F60_1, F61_1, F62_1, F63_1, F64_1, F65_1, F66_1, F67_1, F68_1, F69_1, F70_1, kty_1, ktx_1⟩, ⟨r2_1, r5_1, r13_1, r14_1, r15_1, r16_1, r17_1, r18_1, r19_1, r20_1, r25_1, r26_1, r27_1, r28_1, r29_1, r30_1, r31_1, r35_1⟩, ⟨o53_1, o54_1, o55_1, o56_1, o57_1, o58_1, o59_1, o60_1, o61_1, o62_1, o63_1, o64_1, o65_1, o66_1, o67_1, o68_1, o69_1, o70_1⟩, hT_1⟩ := id H
    refine g_get 106 dX9_count_103 faX9_85_X9 F50_1 rfl rfl ?_
    refine g_icZ_ge 124 109 dX9_count_106 rfl rfl (by omega) (by omega) (fun c2 => ?_) (fun c2 => ?_)
    · refine g_iload_n 125 dX9_count_124 rfl rfl ?_
      refine g_iret rfl dX9_count_125 ?_
      exact k _ _ _ (n) rn  H (AgB.refl _ _) (Sm.refl [50, 54, 55, 56, 61, 62, 63, 64] _)
    · refine g_iload_n 110 dX9_count_109 rfl rfl ?_
      refine g_iload_n 111 dX9_count_110 rfl rfl ?_
      refine g_iload 113 dX9_count_111 rfl rfl ?_
      refine g_ishr 114 dX9_count_113 rfl ?_
      refine Go.genZ (fun z3 rz3 => ?_)
      refine g_iconst (v := iZ (1)) 115 dX9_count_114 rfl rfl ?_
      refine g_iand 116 dX9_count_115 rfl ?_
      refine Go.genZ (fun z4 rz4 => ?_)
      refine g_iadd 117 dX9_count_116 rfl ?_
      refine Go.genZ (fun z5 rz5 => ?_)
      refine g_istore_n (L1 := [some (.ref 50), none, some (.int (iZ z5)), some (.int (iZ sd)), some (.int (iZ t))]) 118 dX9_count_117 (by decide) rfl rfl rfl ?_
      refine g_iincZ [some (.ref 50), none, some (.int (iZ z5)), some (.int (iZ sd)), some (.int (iZ (t + 1)))] 121 dX9_count_118 rfl (by omega) (by decide) rfl rfl rfl ?_
      refine g_goto 100 dX9_count_121 rfl ?_
      exact ih _ (by omega) _ _ _ (z5) (sd) (t + 1) rfl H rz5 rsd (by omega) k
set_option maxRecDepth 100000 in
theorem b_count {l : Launch} {h : MH} {Q : Option Value → MH → Prop} {tr : Int64} {ty tx : Nat → Int32} {w : Nat → Int} {B : Nat → Nat → Int} {x : Int} (H : R9B h tr ty tx w B) (rx : rg x)  (k : ∀ (h1 : MH) (w1 : Nat → Int) (B1 : Nat → Nat → Int) (r : Int), (rg r) → R9B h1 tr ty tx w1 B1 → AgB w B w1 B1 → Sm [50, 54, 55, 56, 61, 62, 63, 64] h h1 → Q (some (.int (iZ r))) h1) : Go l mX9_count 0 [some (.ref 50), some (.int (iZ x)), none, none, none] [] h Q := by
  have n0 := H.2.2.1.2.1
  refine g_iconst (v := iZ (0)) 1 dX9_count_0 rfl rfl ?_
  refine g_istore_n (L1 := [some (.ref 50), some (.int (iZ x)), some (.int (iZ 0)), none, none]) 2 dX9_count_1 (by decide) rfl rfl rfl ?_
  refine g_iload_n 3 dX9_count_2 rfl rfl ?_
  refine g_iconst (v := iZ (4)) 4 dX9_count_3 rfl rfl ?_
  refine g_icZ_ne 14 7 dX9_count_4 rfl rfl rx (by decide) (fun c1 => ?_) (fun c1 => ?_)
  · refine g_iconst (v := iZ (0)) 15 dX9_count_14 rfl rfl ?_
    refine g_istore_n (L1 := [some (.ref 50), some (.int (iZ x)), some (.int (iZ 0)), some (.int (iZ 0)), none]) 16 dX9_count_15 (by decide) rfl rfl rfl ?_
    refine g_iload_n 17 dX9_count_16 rfl rfl ?_
    by_cases c2 : x < 0 ∨ 4 < x
    · refine g_tabZO 126 dX9_count_17 rx c2 rfl ?_
      refine g_iconst (v := iZ (-1)) 127 dX9_count_126 rfl rfl ?_
      refine g_iret rfl dX9_count_127 ?_
      exact k _ _ _ (-1) (by decide)  H (AgB.refl _ _) (Sm.refl [50, 54, 55, 56, 61, 62, 63, 64] _)
    · have c3 : x = 0 ∨ x = 1 ∨ x = 2 ∨ x = 3 ∨ x = 4 := by omega
      rcases c3 with c3 | c3 | c3 | c3 | c3
      · refine g_tabZI (0) 52 dX9_count_17 rx c3 (by decide) (by decide) rfl rfl ?_
        refine g_aload_n 53 dX9_count_52 rfl rfl ?_
        obtain ⟨F50_4, ⟨F51_4, F52_4, F53_4, F54_4, F55_4, F56_4, F57_4, F58_4, F59_4, F60_4, F61_4, F62_4, F63_4, F64_4, F65_4, F66_4, F67_4, F68_4, F69_4, F70_4, kty_4, ktx_4⟩, ⟨r2_4, r5_4, r13_4, r14_4, r15_4, r16_4, r17_4, r18_4, r19_4, r20_4, r25_4, r26_4, r27_4, r28_4, r29_4, r30_4, r31_4, r35_4⟩, ⟨o53_4, o54_4, o55_4, o56_4, o57_4, o58_4, o59_4, o60_4, o61_4, o62_4, o63_4, o64_4, o65_4, o66_4, o67_4, o68_4, o69_4, o70_4⟩, hT_4⟩ := id H
        refine g_get 56 dX9_count_53 faX9_85_X9 F50_4 rfl rfl ?_
        refine g_iret rfl dX9_count_56 ?_
        exact k _ _ _ (w 5) (by omega)  H (AgB.refl _ _) (Sm.refl [50, 54, 55, 56, 61, 62, 63, 64] _)
      · refine g_tabZI (1) 57 dX9_count_17 rx c3 (by decide) (by decide) rfl rfl ?_
        refine g_aload_n 58 dX9_count_57 rfl rfl ?_
        obtain ⟨F50_5, ⟨F51_5, F52_5, F53_5, F54_5, F55_5, F56_5, F57_5, F58_5, F59_5, F60_5, F61_5, F62_5, F63_5, F64_5, F65_5, F66_5, F67_5, F68_5, F69_5, F70_5, kty_5, ktx_5⟩, ⟨r2_5, r5_5, r13_5, r14_5, r15_5, r16_5, r17_5, r18_5, r19_5, r20_5, r25_5, r26_5, r27_5, r28_5, r29_5, r30_5, r31_5, r35_5⟩, ⟨o53_5, o54_5, o55_5, o56_5, o57_5, o58_5, o59_5, o60_5, o61_5, o62_5, o63_5, o64_5, o65_5, o66_5, o67_5, o68_5, o69_5, o70_5⟩, hT_5⟩ := id H
        refine g_get 61 dX9_count_58 faX9_236_X9 F50_5 rfl rfl ?_
        refine g_iret rfl dX9_count_61 ?_
        exact k _ _ _ (w 35) (by omega)  H (AgB.refl _ _) (Sm.refl [50, 54, 55, 56, 61, 62, 63, 64] _)
      · refine g_tabZI (2) 62 dX9_count_17 rx c3 (by decide) (by decide) rfl rfl ?_
        refine g_aload_n 63 dX9_count_62 rfl rfl ?_
        obtain ⟨F50_6, ⟨F51_6, F52_6, F53_6, F54_6, F55_6, F56_6, F57_6, F58_6, F59_6, F60_6, F61_6, F62_6, F63_6, F64_6, F65_6, F66_6, F67_6, F68_6, F69_6, F70_6, kty_6, ktx_6⟩, ⟨r2_6, r5_6, r13_6, r14_6, r15_6, r16_6, r17_6, r18_6, r19_6, r20_6, r25_6, r26_6, r27_6, r28_6, r29_6, r30_6, r31_6, r35_6⟩, ⟨o53_6, o54_6, o55_6, o56_6, o57_6, o58_6, o59_6, o60_6, o61_6, o62_6, o63_6, o64_6, o65_6, o66_6, o67_6, o68_6, o69_6, o70_6⟩, hT_6⟩ := id H
        refine g_get 66 dX9_count_63 faX9_71_X9 F50_6 rfl rfl ?_
        refine g_iret rfl dX9_count_66 ?_
        exact k _ _ _ (w 2) (by omega)  H (AgB.refl _ _) (Sm.refl [50, 54, 55, 56, 61, 62, 63, 64] _)
      · refine g_tabZI (3) 67 dX9_count_17 rx c3 (by decide) (by decide) rfl rfl ?_
        refine g_iconst (v := iZ (0)) 68 dX9_count_67 rfl rfl ?_
        refine g_istore (L1 := [some (.ref 50), some (.int (iZ x)), some (.int (iZ 0)), some (.int (iZ 0)), some (.int (iZ 0))]) 70 dX9_count_68 (by decide) rfl rfl rfl ?_
        refine Go.fgt 1 ?_
        refine Go.fgt 3 ?_
        exact b_count_l0 rx _ _ _ _ (0) (0) rfl H (by decide) (by omega) k
      · refine g_tabZI (4) 97 dX9_count_17 rx c3 (by decide) (by decide) rfl rfl ?_
        refine g_iconst (v := iZ (0)) 98 dX9_count_97 rfl rfl ?_
        refine g_istore (L1 := [some (.ref 50), some (.int (iZ x)), some (.int (iZ 0)), some (.int (iZ 0)), some (.int (iZ 0))]) 100 dX9_count_98 (by decide) rfl rfl rfl ?_
        refine Go.fgt 1 ?_
        exact b_count_l1 rx _ _ _ _ (0) (0) (0) rfl H (by decide) (by decide) (by omega) k
  · refine g_aload_n 8 dX9_count_7 rfl rfl ?_
    obtain ⟨F50_7, ⟨F51_7, F52_7, F53_7, F54_7, F55_7, F56_7, F57_7, F58_7, F59_7, F60_7, F61_7, F62_7, F63_7, F64_7, F65_7, F66_7, F67_7, F68_7, F69_7, F70_7, kty_7, ktx_7⟩, ⟨r2_7, r5_7, r13_7, r14_7, r15_7, r16_7, r17_7, r18_7, r19_7, r20_7, r25_7, r26_7, r27_7, r28_7, r29_7, r30_7, r31_7, r35_7⟩, ⟨o53_7, o54_7, o55_7, o56_7, o57_7, o58_7, o59_7, o60_7, o61_7, o62_7, o63_7, o64_7, o65_7, o66_7, o67_7, o68_7, o69_7, o70_7⟩, hT_7⟩ := id H
    refine g_callV (z := mX9_sealedOnes) (As := []) 11 dX9_count_8 mwX9_sealedOnes ⟨by decide, by decide⟩ rfl wlX9_232 wiX9_sealedOnes wsX9_sealedOnes F50_7 rfl rfl rfl (nle rfl) (nle rfl) rfl ?_
    refine b_sealO H  (fun h9 w10 B11 z8 rz8  H12 a13 s14 => ?_)
    have e15 := a13.1
    have n16 := H12.2.2.1.2.1
    refine rI ?_
    refine g_goto 15 dX9_count_11 rfl ?_
    refine g_istore_n (L1 := [some (.ref 50), some (.int (iZ x)), some (.int (iZ 0)), some (.int (iZ z8)), none]) 16 dX9_count_15 (by decide) rfl rfl rfl ?_
    refine g_iload_n 17 dX9_count_16 rfl rfl ?_
    refine g_tabZI (4) 97 dX9_count_17 rx (by omega) (by decide) (by decide) rfl rfl ?_
    refine g_iconst (v := iZ (0)) 98 dX9_count_97 rfl rfl ?_
    refine g_istore (L1 := [some (.ref 50), some (.int (iZ x)), some (.int (iZ 0)), some (.int (iZ z8)), some (.int (iZ 0))]) 100 dX9_count_98 (by decide) rfl rfl rfl ?_
    refine Go.fgt 1 ?_
    exact b_count_l1 rx _ _ _ _ (0) (z8) (0) rfl H12 (by decide) rz8 (by omega) (fun hQ wQ BQ rQ eQ  RQ aQ sQ => k hQ wQ BQ rQ eQ  RQ (a13.tr aQ) (((Sm.refl [50, 54, 55, 56, 61, 62, 63, 64] _).tr s14 (fun _ q => q) (by simp)).tr sQ (fun _ q => q) (fun _ q => q)))

set_option maxRecDepth 100000 in
theorem c_sealO_l {l : Launch} {Q : Option Value → MH → Prop} {tr : Int64} {ty tx : Nat → Int32} {tc : Nat} {V Bf Lf : Nat → Nat → Int} {xn : Nat → Int} {xf : Nat → Nat → Int}   : ∀ (m0 : Nat) (h : MH) (w : Nat → Int) (B : Nat → Nat → Int) (sb : Int) (bi : Int) (t : Int), (12 - t).toNat = m0 → R9B h tr ty tx w B → (DQ tc V Bf Lf xn xf tx w B) → (sb = ((stT xn (XF xf) V Bf tc) : Int)) → (0 ≤ t ∧ t ≤ w 5) → (0 ≤ bi ∧ bi < 4096) → (bi = ((bset (slQ V (stT xn (XF xf) V Bf tc)) t.toNat : Nat) : Int)) → (∀ (h1 : MH) (w1 : Nat → Int) (B1 : Nat → Nat → Int) (r : Int), (r = ((bset (slQ V (stT xn (XF xf) V Bf tc)) tc : Nat) : Int)) → R9B h1 tr ty tx w1 B1 → AgB w B w1 B1 → Sm [50, 54, 55, 56, 61, 62, 63, 64] h h1 → Q (some (.int (iZ r))) h1) → Go l mX9_sealedOnes 9 [some (.ref 50), some (.int (iZ sb)), some (.int (iZ bi)), some (.int (iZ t))] [] h Q := by
  intro m0
  induction m0 using Nat.strongRecOn with
  | ind m0 ih =>
    intro h w B sb bi t hmz H hD hsb ht hb4 hb k
    have n0 := H.2.2.1.2.1
    refine g_iload_n 10 dX9_sealedOnes_9 rfl rfl ?_
    refine g_aload_n 11 dX9_sealedOnes_10 rfl rfl ?_
    obtain ⟨F50_1, ⟨F51_1, F52_1, F53_1, F54_1, F55_1, F56_1, F57_1, F58_1, F59_1, F60_1, F61_1, F62_1, F63_1, F64_1, F65_1, F66_1, F67_1, F68_1, F69_1, F70_1, kty_1, ktx_1⟩, ⟨r2_1, r5_1, r13_1, r14_1, r15_1, r16_1, r17_1, r18_1, r19_1, r20_1, r25_1, r26_1, r27_1, r28_1, r29_1, r30_1, r31_1, r35_1⟩, ⟨o53_1, o54_1, o55_1, o56_1, o57_1, o58_1, o59_1, o60_1, o61_1, o62_1, o63_1, o64_1, o65_1, o66_1, o67_1, o68_1, o69_1, o70_1⟩, hT_1⟩ := id H
    refine g_get 14 dX9_sealedOnes_11 faX9_85_X9 F50_1 rfl rfl ?_
    refine g_icZ_ge 55 17 dX9_sealedOnes_14 rfl rfl (by omega) (by omega) (fun c2 => ?_) (fun c2 => ?_)
    · refine g_iload_n 56 dX9_sealedOnes_55 rfl rfl ?_
      refine g_iret rfl dX9_sealedOnes_56 ?_
      have e9 : t.toNat = tc := by have q := hD.1.1; omega
      rw [e9] at hb
      exact k _ _ _ (bi) hb  H (AgB.refl _ _) (Sm.refl [50, 54, 55, 56, 61, 62, 63, 64] _)
    · have u4 := stT_4 (xn := xn) (X := XF xf) (V := V) (C := Bf) (n := tc) (by have q := hD.1.1; omega)
      have hbt := bit01 (i := t) u4 (by omega)
      rw [← hsb] at hbt
      refine g_iload_n 18 dX9_sealedOnes_17 rfl rfl ?_
      refine g_iload_n 19 dX9_sealedOnes_18 rfl rfl ?_
      refine g_iload_n 20 dX9_sealedOnes_19 rfl rfl ?_
      refine g_ishr 21 dX9_sealedOnes_20 rfl ?_
      refine g_iconst (v := iZ (1)) 22 dX9_sealedOnes_21 rfl rfl ?_
      refine g_iand 23 dX9_sealedOnes_22 rfl ?_
      refine Go.zof ?_
      refine g_ifZ_ne 46 26 dX9_sealedOnes_23 rfl rfl (rg_toInt _) (fun c3 => ?_) (fun c3 => ?_)
      · refine g_iconst (v := iZ (0)) 47 dX9_sealedOnes_46 rfl rfl ?_
        refine g_iorZ (bi) 48 dX9_sealedOnes_47 (or0 bi) rfl ?_
        refine g_istore_n (L1 := [some (.ref 50), some (.int (iZ sb)), some (.int (iZ bi)), some (.int (iZ t))]) 49 dX9_sealedOnes_48 (by decide) rfl rfl rfl ?_
        refine g_iincZ [some (.ref 50), some (.int (iZ sb)), some (.int (iZ bi)), some (.int (iZ (t + 1)))] 52 dX9_sealedOnes_49 rfl (by omega) (by decide) rfl rfl rfl ?_
        refine g_goto 9 dX9_sealedOnes_52 rfl ?_
        exact ih _ (by omega) _ _ _ (sb) (bi) (t + 1) rfl H hD hsb (by omega) (bs_4 (P := (slQ V (stT xn (XF xf) V Bf tc))) (j := t + 1) (by omega) (bs_n (P := (slQ V (stT xn (XF xf) V Bf tc))) (by omega) hb (fun y => by unfold slQ at y; rw [Int.toNat_of_nonneg (show 0 ≤ t by omega)] at y; refine y.2 ?_; unfold hbR; rw [← hsb]; have z := c3; have u := hbt; omega))) (bs_n (P := (slQ V (stT xn (XF xf) V Bf tc))) (by omega) hb (fun y => by unfold slQ at y; rw [Int.toNat_of_nonneg (show 0 ≤ t by omega)] at y; refine y.2 ?_; unfold hbR; rw [← hsb]; have z := c3; have u := hbt; omega)) k
      · refine g_aload_n 27 dX9_sealedOnes_26 rfl rfl ?_
        refine g_get 30 dX9_sealedOnes_27 faX9_38_X9 F50_1 rfl rfl ?_
        refine g_aload_n 31 dX9_sealedOnes_30 rfl rfl ?_
        refine g_iload_n 32 dX9_sealedOnes_31 rfl rfl ?_
        refine g_callV (z := mX9_last) (As := [.int (iZ t)]) 35 dX9_sealedOnes_32 mwX9_last ⟨by decide, by decide⟩ rfl wlX9_229 wiX9_last wsX9_last F50_1 rfl rfl rfl (nle rfl) (nle rfl) rfl ?_
        refine c_last H (by omega) hD (by omega) (fun z4 rz4  => ?_)
        refine rI ?_
        refine g_ialdZ (v := iZ ((B 60) z4.toNat)) 36 dX9_sealedOnes_35 F60_1 (by omega) (by omega) (by decide) rfl rfl ?_
        refine g_iconst (v := iZ (1)) 37 dX9_sealedOnes_36 rfl rfl ?_
        refine g_icZ_ne 46 40 dX9_sealedOnes_37 rfl rfl (o60_1 _) (by decide) (fun c5 => ?_) (fun c5 => ?_)
        · refine g_iconst (v := iZ (0)) 47 dX9_sealedOnes_46 rfl rfl ?_
          refine g_iorZ (bi) 48 dX9_sealedOnes_47 (or0 bi) rfl ?_
          refine g_istore_n (L1 := [some (.ref 50), some (.int (iZ sb)), some (.int (iZ bi)), some (.int (iZ t))]) 49 dX9_sealedOnes_48 (by decide) rfl rfl rfl ?_
          refine g_iincZ [some (.ref 50), some (.int (iZ sb)), some (.int (iZ bi)), some (.int (iZ (t + 1)))] 52 dX9_sealedOnes_49 rfl (by omega) (by decide) rfl rfl rfl ?_
          refine g_goto 9 dX9_sealedOnes_52 rfl ?_
          exact ih _ (by omega) _ _ _ (sb) (bi) (t + 1) rfl H hD hsb (by omega) (bs_4 (P := (slQ V (stT xn (XF xf) V Bf tc))) (j := t + 1) (by omega) (bs_n (P := (slQ V (stT xn (XF xf) V Bf tc))) (by omega) hb (fun y => by unfold slQ at y; rw [Int.toNat_of_nonneg (show 0 ≤ t by omega), ← rz4.1, ← (hD.v (t := z4) (by omega) (by omega)).2.2.2.2] at y; have z := y.1; omega))) (bs_n (P := (slQ V (stT xn (XF xf) V Bf tc))) (by omega) hb (fun y => by unfold slQ at y; rw [Int.toNat_of_nonneg (show 0 ≤ t by omega), ← rz4.1, ← (hD.v (t := z4) (by omega) (by omega)).2.2.2.2] at y; have z := y.1; omega)) k
        · refine g_iconst (v := iZ (1)) 41 dX9_sealedOnes_40 rfl rfl ?_
          refine g_iload_n 42 dX9_sealedOnes_41 rfl rfl ?_
          refine g_ishlZ (2 ^ t.toNat) 43 dX9_sealedOnes_42 (by have q := shl16 t.toNat (by omega); rwa [Int.toNat_of_nonneg (by omega)] at q) rfl ?_
          refine g_goto 47 dX9_sealedOnes_43 rfl ?_
          refine g_iorZ (bi + 2 ^ t.toNat) 48 dX9_sealedOnes_47 (orI hb (by omega) (bset_lt _)) rfl ?_
          refine g_istore_n (L1 := [some (.ref 50), some (.int (iZ sb)), some (.int (iZ (bi + 2 ^ t.toNat))), some (.int (iZ t))]) 49 dX9_sealedOnes_48 (by decide) rfl rfl rfl ?_
          refine g_iincZ [some (.ref 50), some (.int (iZ sb)), some (.int (iZ (bi + 2 ^ t.toNat))), some (.int (iZ (t + 1)))] 52 dX9_sealedOnes_49 rfl (by omega) (by decide) rfl rfl rfl ?_
          refine g_goto 9 dX9_sealedOnes_52 rfl ?_
          exact ih _ (by omega) _ _ _ (sb) (bi + 2 ^ t.toNat) (t + 1) rfl H hD hsb (by omega) (bs_4 (P := (slQ V (stT xn (XF xf) V Bf tc))) (j := t + 1) (by omega) (bs_y (P := (slQ V (stT xn (XF xf) V Bf tc))) (by omega) hb (by unfold slQ; rw [Int.toNat_of_nonneg (show 0 ≤ t by omega), ← rz4.1]; exact ⟨by rw [← (hD.v (t := z4) (by omega) (by omega)).2.2.2.2]; omega, fun y => by have z := c3; unfold hbR at y; rw [← hsb] at y; omega⟩))) (bs_y (P := (slQ V (stT xn (XF xf) V Bf tc))) (by omega) hb (by unfold slQ; rw [Int.toNat_of_nonneg (show 0 ≤ t by omega), ← rz4.1]; exact ⟨by rw [← (hD.v (t := z4) (by omega) (by omega)).2.2.2.2]; omega, fun y => by have z := c3; unfold hbR at y; rw [← hsb] at y; omega⟩)) k
set_option maxRecDepth 100000 in
theorem c_sealO {l : Launch} {h : MH} {Q : Option Value → MH → Prop} {tr : Int64} {ty tx : Nat → Int32} {w : Nat → Int} {B : Nat → Nat → Int} {tc : Nat} {V Bf Lf : Nat → Nat → Int} {xn : Nat → Int} {xf : Nat → Nat → Int}  (H : R9B h tr ty tx w B)  (hD : DQ tc V Bf Lf xn xf tx w B) (k : ∀ (h1 : MH) (w1 : Nat → Int) (B1 : Nat → Nat → Int) (r : Int), (r = ((bset (slQ V (stT xn (XF xf) V Bf tc)) tc : Nat) : Int)) → R9B h1 tr ty tx w1 B1 → AgB w B w1 B1 → Sm [50, 54, 55, 56, 61, 62, 63, 64] h h1 → Q (some (.int (iZ r))) h1) : Go l mX9_sealedOnes 0 [some (.ref 50), none, none, none] [] h Q := by
  have n0 := H.2.2.1.2.1
  refine g_aload_n 1 dX9_sealedOnes_0 rfl rfl ?_
  obtain ⟨F50_1, ⟨F51_1, F52_1, F53_1, F54_1, F55_1, F56_1, F57_1, F58_1, F59_1, F60_1, F61_1, F62_1, F63_1, F64_1, F65_1, F66_1, F67_1, F68_1, F69_1, F70_1, kty_1, ktx_1⟩, ⟨r2_1, r5_1, r13_1, r14_1, r15_1, r16_1, r17_1, r18_1, r19_1, r20_1, r25_1, r26_1, r27_1, r28_1, r29_1, r30_1, r31_1, r35_1⟩, ⟨o53_1, o54_1, o55_1, o56_1, o57_1, o58_1, o59_1, o60_1, o61_1, o62_1, o63_1, o64_1, o65_1, o66_1, o67_1, o68_1, o69_1, o70_1⟩, hT_1⟩ := id H
  refine g_callV (z := mX9_stale) (As := []) 4 dX9_sealedOnes_1 mwX9_stale ⟨by decide, by decide⟩ rfl wlX9_226 wiX9_stale wsX9_stale F50_1 rfl rfl rfl (nle rfl) (nle rfl) rfl ?_
  refine c_stale H hD (fun h3 w4 B5 z2 rz2  H6 a7 s8 => ?_)
  have e9 := a7.1
  have n10 := H6.2.2.1.2.1
  have D11 := hD.ag a7 H
  refine rI ?_
  refine g_istore_n (L1 := [some (.ref 50), some (.int (iZ z2)), none, none]) 5 dX9_sealedOnes_4 (by decide) rfl rfl rfl ?_
  refine g_iconst (v := iZ (0)) 6 dX9_sealedOnes_5 rfl rfl ?_
  refine g_istore_n (L1 := [some (.ref 50), some (.int (iZ z2)), some (.int (iZ 0)), none]) 7 dX9_sealedOnes_6 (by decide) rfl rfl rfl ?_
  refine g_iconst (v := iZ (0)) 8 dX9_sealedOnes_7 rfl rfl ?_
  refine g_istore_n (L1 := [some (.ref 50), some (.int (iZ z2)), some (.int (iZ 0)), some (.int (iZ 0))]) 9 dX9_sealedOnes_8 (by decide) rfl rfl rfl ?_
  exact c_sealO_l  _ _ _ _ (z2) (0) (0) rfl H6 D11 rz2 (by omega) (by omega) rfl (fun hQ wQ BQ rQ eQ  RQ aQ sQ => k hQ wQ BQ rQ eQ  RQ (a7.tr aQ) (((Sm.refl [50, 54, 55, 56, 61, 62, 63, 64] _).tr s8 (fun _ q => q) (by simp)).tr sQ (fun _ q => q) (fun _ q => q)))
set_option maxRecDepth 100000 in
theorem c_sealed {l : Launch} {h : MH} {Q : Option Value → MH → Prop} {tr : Int64} {ty tx : Nat → Int32} {w : Nat → Int} {B : Nat → Nat → Int} {tc : Nat} {V Bf Lf : Nat → Nat → Int} {xn : Nat → Int} {xf : Nat → Nat → Int} {t : Int} (H : R9B h tr ty tx w B) (rt : rg t) (hD : DQ tc V Bf Lf xn xf tx w B) (k : ∀ (h1 : MH) (w1 : Nat → Int) (B1 : Nat → Nat → Int) (r : Int), (sdP tc V (stT xn (XF xf) V Bf tc) t r) → R9B h1 tr ty tx w1 B1 → AgB w B w1 B1 → Sm [50, 54, 55, 56, 61, 62, 63, 64] h h1 → Q (some (.int (iZ r))) h1) : Go l mX9_sealed 0 [some (.ref 50), some (.int (iZ t))] [] h Q := by
  have n0 := H.2.2.1.2.1
  refine g_aload_n 1 dX9_sealed_0 rfl rfl ?_
  refine g_iload_n 2 dX9_sealed_1 rfl rfl ?_
  obtain ⟨F50_1, ⟨F51_1, F52_1, F53_1, F54_1, F55_1, F56_1, F57_1, F58_1, F59_1, F60_1, F61_1, F62_1, F63_1, F64_1, F65_1, F66_1, F67_1, F68_1, F69_1, F70_1, kty_1, ktx_1⟩, ⟨r2_1, r5_1, r13_1, r14_1, r15_1, r16_1, r17_1, r18_1, r19_1, r20_1, r25_1, r26_1, r27_1, r28_1, r29_1, r30_1, r31_1, r35_1⟩, ⟨o53_1, o54_1, o55_1, o56_1, o57_1, o58_1, o59_1, o60_1, o61_1, o62_1, o63_1, o64_1, o65_1, o66_1, o67_1, o68_1, o69_1, o70_1⟩, hT_1⟩ := id H
  refine g_callV (z := mX9_isTool) (As := [.int (iZ t)]) 5 dX9_sealed_2 mwX9_isTool ⟨by decide, by decide⟩ rfl wlX9_178 wiX9_isTool wsX9_isTool F50_1 rfl rfl rfl (nle rfl) (nle rfl) rfl ?_
  refine b_isTool H rt (fun z2 rz2 => ?_)
  refine rI ?_
  refine g_ifZ_eq 19 8 dX9_sealed_5 rfl rfl (rg01 (by omega)) (fun c3 => ?_) (fun c3 => ?_)
  · refine g_iconst (v := iZ (-1)) 20 dX9_sealed_19 rfl rfl ?_
    refine g_iret rfl dX9_sealed_20 ?_
    exact k _ _ _ (-1) ⟨fun q => absurd q (by have y := hD.1.1; omega), fun _ => rfl⟩  H (AgB.refl _ _) (Sm.refl [50, 54, 55, 56, 61, 62, 63, 64] _)
  · refine g_aload_n 9 dX9_sealed_8 rfl rfl ?_
    refine g_callV (z := mX9_sealedOnes) (As := []) 12 dX9_sealed_9 mwX9_sealedOnes ⟨by decide, by decide⟩ rfl wlX9_232 wiX9_sealedOnes wsX9_sealedOnes F50_1 rfl rfl rfl (nle rfl) (nle rfl) rfl ?_
    refine c_sealO H hD (fun h5 w6 B7 z4 rz4  H8 a9 s10 => ?_)
    have e11 := a9.1
    have n12 := H8.2.2.1.2.1
    have D13 := hD.ag a9 H
    refine rI ?_
    refine g_iload_n 13 dX9_sealed_12 rfl rfl ?_
    refine g_ishr 14 dX9_sealed_13 rfl ?_
    refine g_iconst (v := iZ (1)) 15 dX9_sealed_14 rfl rfl ?_
    refine g_iand 16 dX9_sealed_15 rfl ?_
    have hbx := bs_b (P := (slQ V (stT xn (XF xf) V Bf tc))) (n := tc) (i := t) (b := z4) (by have q := hD.1.1; omega) (by have q := hD.1.1; omega) rz4
    obtain ⟨y9, hy9⟩ : ∃ y : Int, ((slQ V (stT xn (XF xf) V Bf tc) t.toNat ∧ y = 1) ∨ (¬ slQ V (stT xn (XF xf) V Bf tc) t.toNat ∧ y = 0)) ∧ (iZ (z4) >>> (iZ (t) &&& 31)) &&& iZ (1) = iZ y := hbx.elim (fun q => ⟨1, Or.inl ⟨q.1, rfl⟩, q.2⟩) (fun q => ⟨0, Or.inr ⟨q.1, rfl⟩, q.2⟩)
    refine Go.eqI (iZ y9) hy9.2 ?_
    refine g_goto 20 dX9_sealed_16 rfl ?_
    refine g_iret rfl dX9_sealed_20 ?_
    exact k _ _ _ (y9) ⟨fun _ => hy9.1, fun q => absurd (⟨by omega, by have y := hD.1.1; omega⟩ : 0 ≤ t ∧ t < (tc : Int)) q⟩  H8 a9 ((Sm.refl [50, 54, 55, 56, 61, 62, 63, 64] _).tr s10 (fun _ q => q) (by simp))

set_option maxRecDepth 100000 in
theorem c_count_l0 {l : Launch} {Q : Option Value → MH → Prop} {tr : Int64} {ty tx : Nat → Int32} {tc : Nat} {V Bf Lf : Nat → Nat → Int} {xn : Nat → Int} {xf : Nat → Nat → Int} {x : Int} {tn en : Int} (rx : rg x) : ∀ (m0 : Nat) (h : MH) (w : Nat → Int) (B : Nat → Nat → Int) (n : Int) (t : Int), (12 - t).toNat = m0 → R9B h tr ty tx w B → (DQ tc V Bf Lf xn xf tx w B) → (w 2 = tn ∧ w 35 = en) → (x = 3) → (0 ≤ t ∧ t ≤ w 5) → (n = sm4 V t.toNat) → (∀ (h1 : MH) (w1 : Nat → Int) (B1 : Nat → Nat → Int) (r : Int), (coP tc tn en V (stT xn (XF xf) V Bf tc) tc x r) → R9B h1 tr ty tx w1 B1 → AgB w B w1 B1 → Sm [50, 54, 55, 56, 61, 62, 63, 64] h h1 → Q (some (.int (iZ r))) h1) → Go l mX9_count 70 [some (.ref 50), none, some (.int (iZ n)), none, some (.int (iZ t))] [] h Q := by
  intro m0
  induction m0 using Nat.strongRecOn with
  | ind m0 ih =>
    intro h w B n t hmz H hD hte hx ht hb k
    have n0 := H.2.2.1.2.1
    refine g_iload 72 dX9_count_70 rfl rfl ?_
    refine g_aload_n 73 dX9_count_72 rfl rfl ?_
    obtain ⟨F50_1, ⟨F51_1, F52_1, F53_1, F54_1, F55_1, F56_1, F57_1, F58_1, F59_1, F60_1, F61_1, F62_1, F63_1, F64_1, F65_1, F66_1, F67_1, F68_1, F69_1, F70_1, kty_1, ktx_1⟩, ⟨r2_1, r5_1, r13_1, r14_1, r15_1, r16_1, r17_1, r18_1, r19_1, r20_1, r25_1, r26_1, r27_1, r28_1, r29_1, r30_1, r31_1, r35_1⟩, ⟨o53_1, o54_1, o55_1, o56_1, o57_1, o58_1, o59_1, o60_1, o61_1, o62_1, o63_1, o64_1, o65_1, o66_1, o67_1, o68_1, o69_1, o70_1⟩, hT_1⟩ := id H
    refine g_get 76 dX9_count_73 faX9_85_X9 F50_1 rfl rfl ?_
    refine g_icZ_ge 95 79 dX9_count_76 rfl rfl (by omega) (by omega) (fun c2 => ?_) (fun c2 => ?_)
    · refine g_iload_n 96 dX9_count_95 rfl rfl ?_
      refine g_iret rfl dX9_count_96 ?_
      have e9 : t.toNat = tc := by have q := hD.1.1; omega
      rw [e9] at hb
      exact k _ _ _ (n) ⟨fun q => by omega, fun q => by omega, fun q => by omega, fun _ => hb, fun q => by omega, fun q => by omega⟩  H (AgB.refl _ _) (Sm.refl [50, 54, 55, 56, 61, 62, 63, 64] _)
    · obtain ⟨e0, e1, e2, e3, e4⟩ := hD.v (t := t) (by omega) (by omega)
      refine g_iload_n 80 dX9_count_79 rfl rfl ?_
      refine g_aload_n 81 dX9_count_80 rfl rfl ?_
      refine g_get 84 dX9_count_81 faX9_38_X9 F50_1 rfl rfl ?_
      refine g_iload 86 dX9_count_84 rfl rfl ?_
      refine g_ialdZ (v := iZ ((B 60) t.toNat)) 87 dX9_count_86 F60_1 (by omega) (by omega) (by decide) rfl rfl ?_
      refine g_iaddZ (n + ((B 60) t.toNat)) 88 dX9_count_87 (by omega) rfl ?_
      refine g_istore_n (L1 := [some (.ref 50), none, some (.int (iZ (n + ((B 60) t.toNat)))), none, some (.int (iZ t))]) 89 dX9_count_88 (by decide) rfl rfl rfl ?_
      refine g_iincZ [some (.ref 50), none, some (.int (iZ (n + ((B 60) t.toNat)))), none, some (.int (iZ (t + 1)))] 92 dX9_count_89 rfl (by omega) (by decide) rfl rfl rfl ?_
      refine g_goto 70 dX9_count_92 rfl ?_
      exact ih _ (by omega) _ _ _ (n + ((B 60) t.toNat)) (t + 1) rfl H hD hte hx (by omega) (sm4_s (by omega) hb e4) k
set_option maxRecDepth 100000 in
theorem c_count_l1 {l : Launch} {Q : Option Value → MH → Prop} {tr : Int64} {ty tx : Nat → Int32} {tc : Nat} {V Bf Lf : Nat → Nat → Int} {xn : Nat → Int} {xf : Nat → Nat → Int} {x : Int} {tn en : Int} (rx : rg x) : ∀ (m0 : Nat) (h : MH) (w : Nat → Int) (B : Nat → Nat → Int) (n : Int) (sd : Int) (t : Int), (12 - t).toNat = m0 → R9B h tr ty tx w B → (DQ tc V Bf Lf xn xf tx w B) → (w 2 = tn ∧ w 35 = en) → (x = 4) → (sd = ((bset (slQ V (stT xn (XF xf) V Bf tc)) tc : Nat) : Int)) → (0 ≤ t ∧ t ≤ w 5) → (n = cntP (slQ V (stT xn (XF xf) V Bf tc)) t.toNat) → (∀ (h1 : MH) (w1 : Nat → Int) (B1 : Nat → Nat → Int) (r : Int), (coP tc tn en V (stT xn (XF xf) V Bf tc) tc x r) → R9B h1 tr ty tx w1 B1 → AgB w B w1 B1 → Sm [50, 54, 55, 56, 61, 62, 63, 64] h h1 → Q (some (.int (iZ r))) h1) → Go l mX9_count 100 [some (.ref 50), none, some (.int (iZ n)), some (.int (iZ sd)), some (.int (iZ t))] [] h Q := by
  intro m0
  induction m0 using Nat.strongRecOn with
  | ind m0 ih =>
    intro h w B n sd t hmz H hD hte hx hsd ht hb k
    have n0 := H.2.2.1.2.1
    refine g_iload 102 dX9_count_100 rfl rfl ?_
    refine g_aload_n 103 dX9_count_102 rfl rfl ?_
    obtain ⟨F50_1, ⟨F51_1, F52_1, F53_1, F54_1, F55_1, F56_1, F57_1, F58_1, F59_1, F60_1, F61_1, F62_1, F63_1, F64_1, F65_1, F66_1, F67_1, F68_1, F69_1, F70_1, kty_1, ktx_1⟩, ⟨r2_1, r5_1, r13_1, r14_1, r15_1, r16_1, r17_1, r18_1, r19_1, r20_1, r25_1, r26_1, r27_1, r28_1, r29_1, r30_1, r31_1, r35_1⟩, ⟨o53_1, o54_1, o55_1, o56_1, o57_1, o58_1, o59_1, o60_1, o61_1, o62_1, o63_1, o64_1, o65_1, o66_1, o67_1, o68_1, o69_1, o70_1⟩, hT_1⟩ := id H
    refine g_get 106 dX9_count_103 faX9_85_X9 F50_1 rfl rfl ?_
    refine g_icZ_ge 124 109 dX9_count_106 rfl rfl (by omega) (by omega) (fun c2 => ?_) (fun c2 => ?_)
    · refine g_iload_n 125 dX9_count_124 rfl rfl ?_
      refine g_iret rfl dX9_count_125 ?_
      have e9 : t.toNat = tc := by have q := hD.1.1; omega
      rw [e9] at hb
      exact k _ _ _ (n) ⟨fun q => by omega, fun q => by omega, fun q => by omega, fun q => by omega, fun _ => hb, fun q => by omega⟩  H (AgB.refl _ _) (Sm.refl [50, 54, 55, 56, 61, 62, 63, 64] _)
    · refine g_iload_n 110 dX9_count_109 rfl rfl ?_
      refine g_iload_n 111 dX9_count_110 rfl rfl ?_
      refine g_iload 113 dX9_count_111 rfl rfl ?_
      refine g_ishr 114 dX9_count_113 rfl ?_
      refine g_iconst (v := iZ (1)) 115 dX9_count_114 rfl rfl ?_
      refine g_iand 116 dX9_count_115 rfl ?_
      have hbx := bs_b (P := (slQ V (stT xn (XF xf) V Bf tc))) (n := tc) (i := t) (b := sd) (by have q := hD.1.1; omega) (by have q := hD.1.1; omega) hsd
      obtain ⟨y3, hy3⟩ : ∃ y : Int, (((slQ V (stT xn (XF xf) V Bf tc)) t.toNat ∧ y = 1) ∨ (¬ (slQ V (stT xn (XF xf) V Bf tc)) t.toNat ∧ y = 0)) ∧ (iZ (sd) >>> (iZ (t) &&& 31)) &&& iZ (1) = iZ y := hbx.elim (fun q => ⟨1, Or.inl ⟨q.1, rfl⟩, q.2⟩) (fun q => ⟨0, Or.inr ⟨q.1, rfl⟩, q.2⟩)
      refine Go.eqI (iZ y3) hy3.2 ?_
      refine g_iaddZ (n + y3) 117 dX9_count_116 (by omega) rfl ?_
      refine g_istore_n (L1 := [some (.ref 50), none, some (.int (iZ (n + y3))), some (.int (iZ sd)), some (.int (iZ t))]) 118 dX9_count_117 (by decide) rfl rfl rfl ?_
      refine g_iincZ [some (.ref 50), none, some (.int (iZ (n + y3))), some (.int (iZ sd)), some (.int (iZ (t + 1)))] 121 dX9_count_118 rfl (by omega) (by decide) rfl rfl rfl ?_
      refine g_goto 100 dX9_count_121 rfl ?_
      exact ih _ (by omega) _ _ _ (n + y3) (sd) (t + 1) rfl H hD hte hx hsd (by omega) (cnt_b (P := (slQ V (stT xn (XF xf) V Bf tc))) (by omega) hb hy3.1) k
set_option maxRecDepth 100000 in
theorem c_count {l : Launch} {h : MH} {Q : Option Value → MH → Prop} {tr : Int64} {ty tx : Nat → Int32} {w : Nat → Int} {B : Nat → Nat → Int} {tc : Nat} {V Bf Lf : Nat → Nat → Int} {xn : Nat → Int} {xf : Nat → Nat → Int} {x : Int} {tn en : Int} (H : R9B h tr ty tx w B) (rx : rg x) (hD : DQ tc V Bf Lf xn xf tx w B) (hte : w 2 = tn ∧ w 35 = en) (k : ∀ (h1 : MH) (w1 : Nat → Int) (B1 : Nat → Nat → Int) (r : Int), (coP tc tn en V (stT xn (XF xf) V Bf tc) tc x r) → R9B h1 tr ty tx w1 B1 → AgB w B w1 B1 → Sm [50, 54, 55, 56, 61, 62, 63, 64] h h1 → Q (some (.int (iZ r))) h1) : Go l mX9_count 0 [some (.ref 50), some (.int (iZ x)), none, none, none] [] h Q := by
  have n0 := H.2.2.1.2.1
  refine g_iconst (v := iZ (0)) 1 dX9_count_0 rfl rfl ?_
  refine g_istore_n (L1 := [some (.ref 50), some (.int (iZ x)), some (.int (iZ 0)), none, none]) 2 dX9_count_1 (by decide) rfl rfl rfl ?_
  refine g_iload_n 3 dX9_count_2 rfl rfl ?_
  refine g_iconst (v := iZ (4)) 4 dX9_count_3 rfl rfl ?_
  refine g_icZ_ne 14 7 dX9_count_4 rfl rfl rx (by decide) (fun c1 => ?_) (fun c1 => ?_)
  · refine g_iconst (v := iZ (0)) 15 dX9_count_14 rfl rfl ?_
    refine g_istore_n (L1 := [some (.ref 50), some (.int (iZ x)), some (.int (iZ 0)), some (.int (iZ 0)), none]) 16 dX9_count_15 (by decide) rfl rfl rfl ?_
    refine g_iload_n 17 dX9_count_16 rfl rfl ?_
    by_cases c2 : x < 0 ∨ 4 < x
    · refine g_tabZO 126 dX9_count_17 rx c2 rfl ?_
      refine g_iconst (v := iZ (-1)) 127 dX9_count_126 rfl rfl ?_
      refine g_iret rfl dX9_count_127 ?_
      exact k _ _ _ (-1) ⟨fun q => by omega, fun q => by omega, fun q => by omega, fun q => by omega, fun q => by omega, fun _ => rfl⟩  H (AgB.refl _ _) (Sm.refl [50, 54, 55, 56, 61, 62, 63, 64] _)
    · have c3 : x = 0 ∨ x = 1 ∨ x = 2 ∨ x = 3 ∨ x = 4 := by omega
      rcases c3 with c3 | c3 | c3 | c3 | c3
      · refine g_tabZI (0) 52 dX9_count_17 rx c3 (by decide) (by decide) rfl rfl ?_
        refine g_aload_n 53 dX9_count_52 rfl rfl ?_
        obtain ⟨F50_4, ⟨F51_4, F52_4, F53_4, F54_4, F55_4, F56_4, F57_4, F58_4, F59_4, F60_4, F61_4, F62_4, F63_4, F64_4, F65_4, F66_4, F67_4, F68_4, F69_4, F70_4, kty_4, ktx_4⟩, ⟨r2_4, r5_4, r13_4, r14_4, r15_4, r16_4, r17_4, r18_4, r19_4, r20_4, r25_4, r26_4, r27_4, r28_4, r29_4, r30_4, r31_4, r35_4⟩, ⟨o53_4, o54_4, o55_4, o56_4, o57_4, o58_4, o59_4, o60_4, o61_4, o62_4, o63_4, o64_4, o65_4, o66_4, o67_4, o68_4, o69_4, o70_4⟩, hT_4⟩ := id H
        refine g_get 56 dX9_count_53 faX9_85_X9 F50_4 rfl rfl ?_
        refine g_iret rfl dX9_count_56 ?_
        exact k _ _ _ (w 5) ⟨fun _ => hD.1.1, fun q => by omega, fun q => by omega, fun q => by omega, fun q => by omega, fun q => by omega⟩  H (AgB.refl _ _) (Sm.refl [50, 54, 55, 56, 61, 62, 63, 64] _)
      · refine g_tabZI (1) 57 dX9_count_17 rx c3 (by decide) (by decide) rfl rfl ?_
        refine g_aload_n 58 dX9_count_57 rfl rfl ?_
        obtain ⟨F50_5, ⟨F51_5, F52_5, F53_5, F54_5, F55_5, F56_5, F57_5, F58_5, F59_5, F60_5, F61_5, F62_5, F63_5, F64_5, F65_5, F66_5, F67_5, F68_5, F69_5, F70_5, kty_5, ktx_5⟩, ⟨r2_5, r5_5, r13_5, r14_5, r15_5, r16_5, r17_5, r18_5, r19_5, r20_5, r25_5, r26_5, r27_5, r28_5, r29_5, r30_5, r31_5, r35_5⟩, ⟨o53_5, o54_5, o55_5, o56_5, o57_5, o58_5, o59_5, o60_5, o61_5, o62_5, o63_5, o64_5, o65_5, o66_5, o67_5, o68_5, o69_5, o70_5⟩, hT_5⟩ := id H
        refine g_get 61 dX9_count_58 faX9_236_X9 F50_5 rfl rfl ?_
        refine g_iret rfl dX9_count_61 ?_
        exact k _ _ _ (w 35) ⟨fun q => by omega, fun _ => hte.2, fun q => by omega, fun q => by omega, fun q => by omega, fun q => by omega⟩  H (AgB.refl _ _) (Sm.refl [50, 54, 55, 56, 61, 62, 63, 64] _)
      · refine g_tabZI (2) 62 dX9_count_17 rx c3 (by decide) (by decide) rfl rfl ?_
        refine g_aload_n 63 dX9_count_62 rfl rfl ?_
        obtain ⟨F50_6, ⟨F51_6, F52_6, F53_6, F54_6, F55_6, F56_6, F57_6, F58_6, F59_6, F60_6, F61_6, F62_6, F63_6, F64_6, F65_6, F66_6, F67_6, F68_6, F69_6, F70_6, kty_6, ktx_6⟩, ⟨r2_6, r5_6, r13_6, r14_6, r15_6, r16_6, r17_6, r18_6, r19_6, r20_6, r25_6, r26_6, r27_6, r28_6, r29_6, r30_6, r31_6, r35_6⟩, ⟨o53_6, o54_6, o55_6, o56_6, o57_6, o58_6, o59_6, o60_6, o61_6, o62_6, o63_6, o64_6, o65_6, o66_6, o67_6, o68_6, o69_6, o70_6⟩, hT_6⟩ := id H
        refine g_get 66 dX9_count_63 faX9_71_X9 F50_6 rfl rfl ?_
        refine g_iret rfl dX9_count_66 ?_
        exact k _ _ _ (w 2) ⟨fun q => by omega, fun q => by omega, fun _ => hte.1, fun q => by omega, fun q => by omega, fun q => by omega⟩  H (AgB.refl _ _) (Sm.refl [50, 54, 55, 56, 61, 62, 63, 64] _)
      · refine g_tabZI (3) 67 dX9_count_17 rx c3 (by decide) (by decide) rfl rfl ?_
        refine g_iconst (v := iZ (0)) 68 dX9_count_67 rfl rfl ?_
        refine g_istore (L1 := [some (.ref 50), some (.int (iZ x)), some (.int (iZ 0)), some (.int (iZ 0)), some (.int (iZ 0))]) 70 dX9_count_68 (by decide) rfl rfl rfl ?_
        refine Go.fgt 1 ?_
        refine Go.fgt 3 ?_
        exact c_count_l0 rx _ _ _ _ (0) (0) rfl H hD hte (by omega) (by omega) rfl k
      · refine g_tabZI (4) 97 dX9_count_17 rx c3 (by decide) (by decide) rfl rfl ?_
        refine g_iconst (v := iZ (0)) 98 dX9_count_97 rfl rfl ?_
        refine g_istore (L1 := [some (.ref 50), some (.int (iZ x)), some (.int (iZ 0)), some (.int (iZ 0)), some (.int (iZ 0))]) 100 dX9_count_98 (by decide) rfl rfl rfl ?_
        refine Go.fgt 1 ?_
        exact c_count_l1 rx _ _ _ _ (0) (0) (0) rfl H hD hte (by omega) (by exfalso; omega) (by omega) rfl k
  · refine g_aload_n 8 dX9_count_7 rfl rfl ?_
    obtain ⟨F50_7, ⟨F51_7, F52_7, F53_7, F54_7, F55_7, F56_7, F57_7, F58_7, F59_7, F60_7, F61_7, F62_7, F63_7, F64_7, F65_7, F66_7, F67_7, F68_7, F69_7, F70_7, kty_7, ktx_7⟩, ⟨r2_7, r5_7, r13_7, r14_7, r15_7, r16_7, r17_7, r18_7, r19_7, r20_7, r25_7, r26_7, r27_7, r28_7, r29_7, r30_7, r31_7, r35_7⟩, ⟨o53_7, o54_7, o55_7, o56_7, o57_7, o58_7, o59_7, o60_7, o61_7, o62_7, o63_7, o64_7, o65_7, o66_7, o67_7, o68_7, o69_7, o70_7⟩, hT_7⟩ := id H
    refine g_callV (z := mX9_sealedOnes) (As := []) 11 dX9_count_8 mwX9_sealedOnes ⟨by decide, by decide⟩ rfl wlX9_232 wiX9_sealedOnes wsX9_sealedOnes F50_7 rfl rfl rfl (nle rfl) (nle rfl) rfl ?_
    refine c_sealO H hD (fun h9 w10 B11 z8 rz8  H12 a13 s14 => ?_)
    have e15 := a13.1
    have n16 := H12.2.2.1.2.1
    have D17 := hD.ag a13 H
    refine rI ?_
    refine g_goto 15 dX9_count_11 rfl ?_
    refine g_istore_n (L1 := [some (.ref 50), some (.int (iZ x)), some (.int (iZ 0)), some (.int (iZ z8)), none]) 16 dX9_count_15 (by decide) rfl rfl rfl ?_
    refine g_iload_n 17 dX9_count_16 rfl rfl ?_
    refine g_tabZI (4) 97 dX9_count_17 rx (by omega) (by decide) (by decide) rfl rfl ?_
    refine g_iconst (v := iZ (0)) 98 dX9_count_97 rfl rfl ?_
    refine g_istore (L1 := [some (.ref 50), some (.int (iZ x)), some (.int (iZ 0)), some (.int (iZ z8)), some (.int (iZ 0))]) 100 dX9_count_98 (by decide) rfl rfl rfl ?_
    refine Go.fgt 1 ?_
    exact c_count_l1 rx _ _ _ _ (0) (z8) (0) rfl H12 D17 ⟨a13.1.1.trans hte.1, a13.1.2.2.trans hte.2⟩ (by omega) rz8 (by omega) rfl (fun hQ wQ BQ rQ eQ  RQ aQ sQ => k hQ wQ BQ rQ eQ  RQ (a13.tr aQ) (((Sm.refl [50, 54, 55, 56, 61, 62, 63, 64] _).tr s14 (fun _ q => q) (by simp)).tr sQ (fun _ q => q) (fun _ q => q)))

set_option maxRecDepth 100000 in
theorem m_run_l {l : Launch} {Q : Option Value → MH → Prop} {ty tx : Nat → Int32} {t i : Int} (rt : rg t) (ri : rg i) : ∀ (m0 : Nat) (h : MH) (tr : Int64) (w : Nat → Int) (B : Nat → Nat → Int) (hm : Int) (j : Int), (256 - j).toNat = m0 → R9 h tr ty tx w B → (0 ≤ hm ∧ hm ≤ 3) → (0 ≤ j ∧ j ≤ 256) → (∀ (h1 : MH) (tr1 : Int64) (w1 : Nat → Int) (B1 : Nat → Nat → Int) (r : Int), (rg r) → R9 h1 tr1 ty tx w1 B1 → AgA w B w1 B1 → Sm [50, 51, 52, 53, 54, 55, 56, 57, 58, 59, 60, 61, 62, 63, 64, 65, 66, 67, 68, 69, 70] h h1 → Q (some (.int (iZ r))) h1) → Go l mX9_run 87 [some (.ref 50), none, none, some (.int (iZ hm)), some (.int (iZ j))] [] h Q := by
  intro m0
  induction m0 using Nat.strongRecOn with
  | ind m0 ih =>
    intro h tr w B hm j hmz H hh hj k
    have n0 := H.2.2.1.2.1
    refine g_iload 89 dX9_run_87 rfl rfl ?_
    refine g_sipush (v := iZ (256)) 92 dX9_run_89 (by decide +kernel) rfl ?_
    refine g_icZ_ge 142 95 dX9_run_92 rfl rfl (by omega) (by decide) (fun c1 => ?_) (fun c1 => ?_)
    · refine g_iload_n 143 dX9_run_142 rfl rfl ?_
      refine g_ifZ_ne 153 146 dX9_run_143 rfl rfl (by omega) (fun c2 => ?_) (fun c2 => ?_)
      · refine g_bipush (v := iZ (-10)) 155 dX9_run_153 (by decide +kernel) rfl ?_
        refine g_iload_n 156 dX9_run_155 rfl rfl ?_
        refine g_isubZ ((-10) - hm) 157 dX9_run_156 (by omega) rfl ?_
        refine g_iret rfl dX9_run_157 ?_
        exact k _ _ _ _ ((-10) - hm) (by omega) H (AgA.refl _ _) (Sm.refl [50, 51, 52, 53, 54, 55, 56, 57, 58, 59, 60, 61, 62, 63, 64, 65, 66, 67, 68, 69, 70] _)
      · refine g_aload_n 147 dX9_run_146 rfl rfl ?_
        obtain ⟨F50_3, ⟨F51_3, F52_3, F53_3, F54_3, F55_3, F56_3, F57_3, F58_3, F59_3, F60_3, F61_3, F62_3, F63_3, F64_3, F65_3, F66_3, F67_3, F68_3, F69_3, F70_3⟩, ⟨r2_3, r5_3, r13_3, r14_3, r15_3, r16_3, r17_3, r18_3, r19_3, r20_3, r25_3, r26_3, r27_3, r28_3, r29_3, r30_3, r31_3, r35_3⟩, ⟨o53_3, o54_3, o55_3, o56_3, o57_3, o58_3, o59_3, o60_3, o61_3, o62_3, o63_3, o64_3, o65_3, o66_3, o67_3, o68_3, o69_3, o70_3⟩, hT_3⟩ := id H
        refine g_get 150 dX9_run_147 faX9_184_X9 F50_3 rfl rfl ?_
        refine g_goto 157 dX9_run_150 rfl ?_
        refine g_iret rfl dX9_run_157 ?_
        exact k _ _ _ _ (w 25) (by omega) H (AgA.refl _ _) (Sm.refl [50, 51, 52, 53, 54, 55, 56, 57, 58, 59, 60, 61, 62, 63, 64, 65, 66, 67, 68, 69, 70] _)
    · refine g_aload_n 96 dX9_run_95 rfl rfl ?_
      obtain ⟨F50_4, ⟨F51_4, F52_4, F53_4, F54_4, F55_4, F56_4, F57_4, F58_4, F59_4, F60_4, F61_4, F62_4, F63_4, F64_4, F65_4, F66_4, F67_4, F68_4, F69_4, F70_4⟩, ⟨r2_4, r5_4, r13_4, r14_4, r15_4, r16_4, r17_4, r18_4, r19_4, r20_4, r25_4, r26_4, r27_4, r28_4, r29_4, r30_4, r31_4, r35_4⟩, ⟨o53_4, o54_4, o55_4, o56_4, o57_4, o58_4, o59_4, o60_4, o61_4, o62_4, o63_4, o64_4, o65_4, o66_4, o67_4, o68_4, o69_4, o70_4⟩, hT_4⟩ := id H
      refine g_get 99 dX9_run_96 faX9_56_X9 F50_4 rfl rfl ?_
      refine g_iload 101 dX9_run_99 rfl rfl ?_
      refine g_iload 103 dX9_run_101 rfl rfl ?_
      refine g_aload_n 104 dX9_run_103 rfl rfl ?_
      refine g_get 107 dX9_run_104 faX9_184_X9 F50_4 rfl rfl ?_
      refine g_icZ_ge 120 110 dX9_run_107 rfl rfl (by omega) (by omega) (fun c5 => ?_) (fun c5 => ?_)
      · refine g_iconst (v := iZ (0)) 121 dX9_run_120 rfl rfl ?_
        refine g_iastFj (j.toNat) 122 dX9_run_121 F66_4 (by omega) (by omega) (by decide) rfl rfl (fun h6 s7 f8 => ?_)
        refine g_aload_n 123 dX9_run_122 rfl rfl ?_
        have f9 := (s7.get (by decide) F50_4)
        refine g_get 126 dX9_run_123 faX9_59_X9 f9 rfl rfl ?_
        refine g_iload 128 dX9_run_126 rfl rfl ?_
        refine g_aload_n 129 dX9_run_128 rfl rfl ?_
        refine g_get 132 dX9_run_129 faX9_44_X9 f9 rfl rfl ?_
        refine g_iload 134 dX9_run_132 rfl rfl ?_
        have f10 := (s7.get (by decide) F62_4)
        have b11 := o62_4 ((j).toNat)
        refine g_ialdZ (v := iZ ((B 62) j.toNat)) 135 dX9_run_134 f10 (by omega) (by omega) (by decide) rfl rfl ?_
        have f12 := (s7.get (by decide) F67_4)
        refine g_iastFj (j.toNat) 136 dX9_run_135 f12 (by omega) (by omega) (by decide) rfl rfl (fun h13 s14 f15 => ?_)
        refine g_iincZ [some (.ref 50), none, none, some (.int (iZ hm)), some (.int (iZ (j + 1)))] 139 dX9_run_136 rfl (by omega) (by decide) rfl rfl rfl ?_
        refine g_goto 87 dX9_run_139 rfl ?_
        have f16 := (s14.get (by decide) f9)
        have f17 := (s14.get (by decide) (s7.get (by decide) F51_4))
        have f18 := (s14.get (by decide) (s7.get (by decide) F52_4))
        have f19 := (s14.get (by decide) (s7.get (by decide) F53_4))
        have f20 := (s14.get (by decide) (s7.get (by decide) F54_4))
        have f21 := (s14.get (by decide) (s7.get (by decide) F55_4))
        have f22 := (s14.get (by decide) (s7.get (by decide) F56_4))
        have f23 := (s14.get (by decide) (s7.get (by decide) F57_4))
        have f24 := (s14.get (by decide) (s7.get (by decide) F58_4))
        have f25 := (s14.get (by decide) (s7.get (by decide) F59_4))
        have f26 := (s14.get (by decide) (s7.get (by decide) F60_4))
        have f27 := (s14.get (by decide) (s7.get (by decide) F61_4))
        have f28 := (s14.get (by decide) f10)
        have f29 := (s14.get (by decide) (s7.get (by decide) F63_4))
        have f30 := (s14.get (by decide) (s7.get (by decide) F64_4))
        have f31 := (s14.get (by decide) (s7.get (by decide) F65_4))
        have f32 := (s14.get (by decide) f8)
        have f33 := (s14.get (by decide) (s7.get (by decide) F68_4))
        have f34 := (s14.get (by decide) (s7.get (by decide) F69_4))
        have f35 := (s14.get (by decide) (s7.get (by decide) F70_4))
        have H36 : R9 _ (tr) ty tx w (va_up (va_up B 66 (va_up (B 66) j.toNat 0)) 67 (va_up (B 67) j.toNat ((B 62) j.toNat))) := ⟨f16, ⟨f17, f18, f19, f20, f21, f22, f23, f24, f25, f26, f27, f28, f29, f30, f31, f32, f15, f33, f34, f35⟩, ⟨r2_4, r5_4, r13_4, r14_4, r15_4, r16_4, r17_4, r18_4, r19_4, r20_4, r25_4, r26_4, r27_4, r28_4, r29_4, r30_4, r31_4, r35_4⟩, ⟨o53_4, o54_4, o55_4, o56_4, o57_4, o58_4, o59_4, o60_4, o61_4, o62_4, o63_4, o64_4, o65_4, (okr_up o66_4 _ (by decide)), (okr_up o67_4 _ (by omega)), o68_4, o69_4, o70_4⟩, H.2.2.2.2⟩
        have a37 : AgA w B w (va_up (va_up B 66 (va_up (B 66) j.toNat 0)) 67 (va_up (B 67) j.toNat ((B 62) j.toNat))) := ⟨rfl, rfl, rfl, rfl, rfl⟩
        exact ih _ (by omega) _ _ _ _ (hm) (j + 1) rfl H36 (by omega) (by omega) (fun hQ tQ wQ BQ rQ eQ RQ aQ sQ => k hQ tQ wQ BQ rQ eQ RQ (a37.tr aQ) ((((Sm.refl [50, 51, 52, 53, 54, 55, 56, 57, 58, 59, 60, 61, 62, 63, 64, 65, 66, 67, 68, 69, 70] _).tr s7 (fun _ q => q) (by simp)).tr s14 (fun _ q => q) (by simp)).tr sQ (fun _ q => q) (fun _ q => q)))
      · refine g_aload_n 111 dX9_run_110 rfl rfl ?_
        refine g_get 114 dX9_run_111 faX9_47_X9 F50_4 rfl rfl ?_
        refine g_iload 116 dX9_run_114 rfl rfl ?_
        have b38 := o63_4 ((j).toNat)
        refine g_ialdZ (v := iZ ((B 63) j.toNat)) 117 dX9_run_116 F63_4 (by omega) (by omega) (by decide) rfl rfl ?_
        refine g_goto 121 dX9_run_117 rfl ?_
        refine g_iastFj (j.toNat) 122 dX9_run_121 F66_4 (by omega) (by omega) (by decide) rfl rfl (fun h39 s40 f41 => ?_)
        refine g_aload_n 123 dX9_run_122 rfl rfl ?_
        have f42 := (s40.get (by decide) F50_4)
        refine g_get 126 dX9_run_123 faX9_59_X9 f42 rfl rfl ?_
        refine g_iload 128 dX9_run_126 rfl rfl ?_
        refine g_aload_n 129 dX9_run_128 rfl rfl ?_
        refine g_get 132 dX9_run_129 faX9_44_X9 f42 rfl rfl ?_
        refine g_iload 134 dX9_run_132 rfl rfl ?_
        have f43 := (s40.get (by decide) F62_4)
        have b44 := o62_4 ((j).toNat)
        refine g_ialdZ (v := iZ ((B 62) j.toNat)) 135 dX9_run_134 f43 (by omega) (by omega) (by decide) rfl rfl ?_
        have f45 := (s40.get (by decide) F67_4)
        refine g_iastFj (j.toNat) 136 dX9_run_135 f45 (by omega) (by omega) (by decide) rfl rfl (fun h46 s47 f48 => ?_)
        refine g_iincZ [some (.ref 50), none, none, some (.int (iZ hm)), some (.int (iZ (j + 1)))] 139 dX9_run_136 rfl (by omega) (by decide) rfl rfl rfl ?_
        refine g_goto 87 dX9_run_139 rfl ?_
        have f49 := (s47.get (by decide) f42)
        have f50 := (s47.get (by decide) (s40.get (by decide) F51_4))
        have f51 := (s47.get (by decide) (s40.get (by decide) F52_4))
        have f52 := (s47.get (by decide) (s40.get (by decide) F53_4))
        have f53 := (s47.get (by decide) (s40.get (by decide) F54_4))
        have f54 := (s47.get (by decide) (s40.get (by decide) F55_4))
        have f55 := (s47.get (by decide) (s40.get (by decide) F56_4))
        have f56 := (s47.get (by decide) (s40.get (by decide) F57_4))
        have f57 := (s47.get (by decide) (s40.get (by decide) F58_4))
        have f58 := (s47.get (by decide) (s40.get (by decide) F59_4))
        have f59 := (s47.get (by decide) (s40.get (by decide) F60_4))
        have f60 := (s47.get (by decide) (s40.get (by decide) F61_4))
        have f61 := (s47.get (by decide) f43)
        have f62 := (s47.get (by decide) (s40.get (by decide) F63_4))
        have f63 := (s47.get (by decide) (s40.get (by decide) F64_4))
        have f64 := (s47.get (by decide) (s40.get (by decide) F65_4))
        have f65 := (s47.get (by decide) f41)
        have f66 := (s47.get (by decide) (s40.get (by decide) F68_4))
        have f67 := (s47.get (by decide) (s40.get (by decide) F69_4))
        have f68 := (s47.get (by decide) (s40.get (by decide) F70_4))
        have H69 : R9 _ (tr) ty tx w (va_up (va_up B 66 (va_up (B 66) j.toNat ((B 63) j.toNat))) 67 (va_up (B 67) j.toNat ((B 62) j.toNat))) := ⟨f49, ⟨f50, f51, f52, f53, f54, f55, f56, f57, f58, f59, f60, f61, f62, f63, f64, f65, f48, f66, f67, f68⟩, ⟨r2_4, r5_4, r13_4, r14_4, r15_4, r16_4, r17_4, r18_4, r19_4, r20_4, r25_4, r26_4, r27_4, r28_4, r29_4, r30_4, r31_4, r35_4⟩, ⟨o53_4, o54_4, o55_4, o56_4, o57_4, o58_4, o59_4, o60_4, o61_4, o62_4, o63_4, o64_4, o65_4, (okr_up o66_4 _ (by omega)), (okr_up o67_4 _ (by omega)), o68_4, o69_4, o70_4⟩, H.2.2.2.2⟩
        have a70 : AgA w B w (va_up (va_up B 66 (va_up (B 66) j.toNat ((B 63) j.toNat))) 67 (va_up (B 67) j.toNat ((B 62) j.toNat))) := ⟨rfl, rfl, rfl, rfl, rfl⟩
        exact ih _ (by omega) _ _ _ _ (hm) (j + 1) rfl H69 (by omega) (by omega) (fun hQ tQ wQ BQ rQ eQ RQ aQ sQ => k hQ tQ wQ BQ rQ eQ RQ (a70.tr aQ) ((((Sm.refl [50, 51, 52, 53, 54, 55, 56, 57, 58, 59, 60, 61, 62, 63, 64, 65, 66, 67, 68, 69, 70] _).tr s40 (fun _ q => q) (by simp)).tr s47 (fun _ q => q) (by simp)).tr sQ (fun _ q => q) (fun _ q => q)))
set_option maxRecDepth 100000 in
theorem m_run {l : Launch} {h : MH} {Q : Option Value → MH → Prop} {tr : Int64} {ty tx : Nat → Int32} {w : Nat → Int} {B : Nat → Nat → Int} {t i : Int} (H : R9 h tr ty tx w B) (rt : rg t) (ri : rg i)  (k : ∀ (h1 : MH) (tr1 : Int64) (w1 : Nat → Int) (B1 : Nat → Nat → Int) (r : Int), (rg r) → R9 h1 tr1 ty tx w1 B1 → AgA w B w1 B1 → Sm [50, 51, 52, 53, 54, 55, 56, 57, 58, 59, 60, 61, 62, 63, 64, 65, 66, 67, 68, 69, 70] h h1 → Q (some (.int (iZ r))) h1) : Go l mX9_run 0 [some (.ref 50), some (.int (iZ t)), some (.int (iZ i)), none, none] [] h Q := by
  have n0 := H.2.2.1.2.1
  refine g_aload_n 1 dX9_run_0 rfl rfl ?_
  refine g_iload_n 2 dX9_run_1 rfl rfl ?_
  obtain ⟨F50_1, ⟨F51_1, F52_1, F53_1, F54_1, F55_1, F56_1, F57_1, F58_1, F59_1, F60_1, F61_1, F62_1, F63_1, F64_1, F65_1, F66_1, F67_1, F68_1, F69_1, F70_1⟩, ⟨r2_1, r5_1, r13_1, r14_1, r15_1, r16_1, r17_1, r18_1, r19_1, r20_1, r25_1, r26_1, r27_1, r28_1, r29_1, r30_1, r31_1, r35_1⟩, ⟨o53_1, o54_1, o55_1, o56_1, o57_1, o58_1, o59_1, o60_1, o61_1, o62_1, o63_1, o64_1, o65_1, o66_1, o67_1, o68_1, o69_1, o70_1⟩, hT_1⟩ := id H
  refine g_callV (z := mX9_isTool) (As := [.int (iZ t)]) 5 dX9_run_2 mwX9_isTool ⟨by decide, by decide⟩ rfl wlX9_178 wiX9_isTool wsX9_isTool F50_1 rfl rfl rfl (nle rfl) (nle rfl) rfl ?_
  refine m_isTool H rt (fun z2 rz2 => ?_)
  refine rI ?_
  refine g_ifZ_eq 15 8 dX9_run_5 rfl rfl (rg01 (by omega)) (fun c3 => ?_) (fun c3 => ?_)
  · refine g_iconst (v := iZ (-1)) 16 dX9_run_15 rfl rfl ?_
    refine g_iret rfl dX9_run_16 ?_
    exact k _ _ _ _ (-1) (by decide) H (AgA.refl _ _) (Sm.refl [50, 51, 52, 53, 54, 55, 56, 57, 58, 59, 60, 61, 62, 63, 64, 65, 66, 67, 68, 69, 70] _)
  · refine g_iload_n 9 dX9_run_8 rfl rfl ?_
    refine g_callS (z := mX9_isText) (As := [.int (iZ i)]) 12 dX9_run_9 mwX9_isText ⟨by decide, by decide⟩ rfl wlX9_81 wtX9_isText rfl (nle rfl) (nle rfl) rfl ?_
    refine n_isText  ri (fun z4 rz4 => ?_)
    refine rI ?_
    refine g_ifZ_ne 17 15 dX9_run_12 rfl rfl (rg01 (by omega)) (fun c5 => ?_) (fun c5 => ?_)
    · refine g_aload_n 18 dX9_run_17 rfl rfl ?_
      refine g_iload_n 19 dX9_run_18 rfl rfl ?_
      refine g_iload_n 20 dX9_run_19 rfl rfl ?_
      refine g_callV (z := mX9_go) (As := [.int (iZ t), .int (iZ i)]) 23 dX9_run_20 mwX9_go ⟨by decide, by decide⟩ rfl wlX9_205 wiX9_go wsX9_go F50_1 rfl rfl rfl (nle rfl) (nle rfl) rfl ?_
      refine m_go H (by omega) (by omega) ((H.2.2.2.2.2 _ (by omega) (by omega)).1) (fun h7 w8 B9 z6 rz6  H10 a11 s12 => ?_)
      have e13 := a11.1
      have n14 := H10.2.2.1.2.1
      refine rI ?_
      refine g_istore_n (L1 := [some (.ref 50), some (.int (iZ t)), some (.int (iZ i)), some (.int (iZ z6)), none]) 24 dX9_run_23 (by decide) rfl rfl rfl ?_
      refine g_aload_n 25 dX9_run_24 rfl rfl ?_
      obtain ⟨F50_15, ⟨F51_15, F52_15, F53_15, F54_15, F55_15, F56_15, F57_15, F58_15, F59_15, F60_15, F61_15, F62_15, F63_15, F64_15, F65_15, F66_15, F67_15, F68_15, F69_15, F70_15⟩, ⟨r2_15, r5_15, r13_15, r14_15, r15_15, r16_15, r17_15, r18_15, r19_15, r20_15, r25_15, r26_15, r27_15, r28_15, r29_15, r30_15, r31_15, r35_15⟩, ⟨o53_15, o54_15, o55_15, o56_15, o57_15, o58_15, o59_15, o60_15, o61_15, o62_15, o63_15, o64_15, o65_15, o66_15, o67_15, o68_15, o69_15, o70_15⟩, hT_15⟩ := id H10
      refine g_get 28 dX9_run_25 faX9_53_X9 F50_15 rfl rfl ?_
      refine g_iconst (v := iZ (0)) 29 dX9_run_28 rfl rfl ?_
      refine g_aload_n 30 dX9_run_29 rfl rfl ?_
      refine g_get 33 dX9_run_30 faX9_187_X9 F50_15 rfl rfl ?_
      refine g_iastFj (0) 34 dX9_run_33 F65_15 (by decide) (by decide) (by decide) rfl rfl (fun h16 s17 f18 => ?_)
      refine g_aload_n 35 dX9_run_34 rfl rfl ?_
      have f19 := (s17.get (by decide) F50_15)
      refine g_get 38 dX9_run_35 faX9_53_X9 f19 rfl rfl ?_
      refine g_iconst (v := iZ (1)) 39 dX9_run_38 rfl rfl ?_
      refine g_aload_n 40 dX9_run_39 rfl rfl ?_
      refine g_get 43 dX9_run_40 faX9_190_X9 f19 rfl rfl ?_
      refine g_iastFj (1) 44 dX9_run_43 f18 (by decide) (by decide) (by decide) rfl rfl (fun h20 s21 f22 => ?_)
      refine g_aload_n 45 dX9_run_44 rfl rfl ?_
      have f23 := (s21.get (by decide) f19)
      refine g_get 48 dX9_run_45 faX9_53_X9 f23 rfl rfl ?_
      refine g_iconst (v := iZ (2)) 49 dX9_run_48 rfl rfl ?_
      refine g_aload_n 50 dX9_run_49 rfl rfl ?_
      refine g_get 53 dX9_run_50 faX9_193_X9 f23 rfl rfl ?_
      refine g_iastFj (2) 54 dX9_run_53 f22 (by decide) (by decide) (by decide) rfl rfl (fun h24 s25 f26 => ?_)
      refine g_aload_n 55 dX9_run_54 rfl rfl ?_
      have f27 := (s25.get (by decide) f23)
      refine g_get 58 dX9_run_55 faX9_53_X9 f27 rfl rfl ?_
      refine g_iconst (v := iZ (3)) 59 dX9_run_58 rfl rfl ?_
      refine g_aload_n 60 dX9_run_59 rfl rfl ?_
      refine g_get 63 dX9_run_60 faX9_199_X9 f27 rfl rfl ?_
      refine g_iastFj (3) 64 dX9_run_63 f26 (by decide) (by decide) (by decide) rfl rfl (fun h28 s29 f30 => ?_)
      refine g_aload_n 65 dX9_run_64 rfl rfl ?_
      have f31 := (s29.get (by decide) f27)
      refine g_get 68 dX9_run_65 faX9_53_X9 f31 rfl rfl ?_
      refine g_iconst (v := iZ (4)) 69 dX9_run_68 rfl rfl ?_
      refine g_aload_n 70 dX9_run_69 rfl rfl ?_
      refine g_get 73 dX9_run_70 faX9_181_X9 f31 rfl rfl ?_
      refine g_iastFj (4) 74 dX9_run_73 f30 (by decide) (by decide) (by decide) rfl rfl (fun h32 s33 f34 => ?_)
      refine g_aload_n 75 dX9_run_74 rfl rfl ?_
      have f35 := (s33.get (by decide) f31)
      refine g_get 78 dX9_run_75 faX9_53_X9 f35 rfl rfl ?_
      refine g_iconst (v := iZ (5)) 79 dX9_run_78 rfl rfl ?_
      refine g_aload_n 80 dX9_run_79 rfl rfl ?_
      refine g_get 83 dX9_run_80 faX9_184_X9 f35 rfl rfl ?_
      refine g_iastFj (5) 84 dX9_run_83 f34 (by decide) (by decide) (by decide) rfl rfl (fun h36 s37 f38 => ?_)
      refine g_iconst (v := iZ (0)) 85 dX9_run_84 rfl rfl ?_
      refine g_istore (L1 := [some (.ref 50), some (.int (iZ t)), some (.int (iZ i)), some (.int (iZ z6)), some (.int (iZ 0))]) 87 dX9_run_85 (by decide) rfl rfl rfl ?_
      have f39 := (s37.get (by decide) f35)
      have f40 := (s37.get (by decide) (s33.get (by decide) (s29.get (by decide) (s25.get (by decide) (s21.get (by decide) (s17.get (by decide) F51_15))))))
      have f41 := (s37.get (by decide) (s33.get (by decide) (s29.get (by decide) (s25.get (by decide) (s21.get (by decide) (s17.get (by decide) F52_15))))))
      have f42 := (s37.get (by decide) (s33.get (by decide) (s29.get (by decide) (s25.get (by decide) (s21.get (by decide) (s17.get (by decide) F53_15))))))
      have f43 := (s37.get (by decide) (s33.get (by decide) (s29.get (by decide) (s25.get (by decide) (s21.get (by decide) (s17.get (by decide) F54_15))))))
      have f44 := (s37.get (by decide) (s33.get (by decide) (s29.get (by decide) (s25.get (by decide) (s21.get (by decide) (s17.get (by decide) F55_15))))))
      have f45 := (s37.get (by decide) (s33.get (by decide) (s29.get (by decide) (s25.get (by decide) (s21.get (by decide) (s17.get (by decide) F56_15))))))
      have f46 := (s37.get (by decide) (s33.get (by decide) (s29.get (by decide) (s25.get (by decide) (s21.get (by decide) (s17.get (by decide) F57_15))))))
      have f47 := (s37.get (by decide) (s33.get (by decide) (s29.get (by decide) (s25.get (by decide) (s21.get (by decide) (s17.get (by decide) F58_15))))))
      have f48 := (s37.get (by decide) (s33.get (by decide) (s29.get (by decide) (s25.get (by decide) (s21.get (by decide) (s17.get (by decide) F59_15))))))
      have f49 := (s37.get (by decide) (s33.get (by decide) (s29.get (by decide) (s25.get (by decide) (s21.get (by decide) (s17.get (by decide) F60_15))))))
      have f50 := (s37.get (by decide) (s33.get (by decide) (s29.get (by decide) (s25.get (by decide) (s21.get (by decide) (s17.get (by decide) F61_15))))))
      have f51 := (s37.get (by decide) (s33.get (by decide) (s29.get (by decide) (s25.get (by decide) (s21.get (by decide) (s17.get (by decide) F62_15))))))
      have f52 := (s37.get (by decide) (s33.get (by decide) (s29.get (by decide) (s25.get (by decide) (s21.get (by decide) (s17.get (by decide) F63_15))))))
      have f53 := (s37.get (by decide) (s33.get (by decide) (s29.get (by decide) (s25.get (by decide) (s21.get (by decide) (s17.get (by decide) F64_15))))))
      have f54 := (s37.get (by decide) (s33.get (by decide) (s29.get (by decide) (s25.get (by decide) (s21.get (by decide) (s17.get (by decide) F66_15))))))
      have f55 := (s37.get (by decide) (s33.get (by decide) (s29.get (by decide) (s25.get (by decide) (s21.get (by decide) (s17.get (by decide) F67_15))))))
      have f56 := (s37.get (by decide) (s33.get (by decide) (s29.get (by decide) (s25.get (by decide) (s21.get (by decide) (s17.get (by decide) F68_15))))))
      have f57 := (s37.get (by decide) (s33.get (by decide) (s29.get (by decide) (s25.get (by decide) (s21.get (by decide) (s17.get (by decide) F69_15))))))
      have f58 := (s37.get (by decide) (s33.get (by decide) (s29.get (by decide) (s25.get (by decide) (s21.get (by decide) (s17.get (by decide) F70_15))))))
      have H59 : R9 _ (tr) ty tx w8 (va_up B9 65 (va_up (va_up (va_up (va_up (va_up (va_up (B9 65) 0 (w8 29)) 1 (w8 30)) 2 (w8 26)) 3 (w8 27)) 4 (w8 28)) 5 (w8 25))) := ⟨f39, ⟨f40, f41, f42, f43, f44, f45, f46, f47, f48, f49, f50, f51, f52, f53, f38, f54, f55, f56, f57, f58⟩, ⟨r2_15, r5_15, r13_15, r14_15, r15_15, r16_15, r17_15, r18_15, r19_15, r20_15, r25_15, r26_15, r27_15, r28_15, r29_15, r30_15, r31_15, r35_15⟩, ⟨o53_15, o54_15, o55_15, o56_15, o57_15, o58_15, o59_15, o60_15, o61_15, o62_15, o63_15, o64_15, (okr_up (okr_up (okr_up (okr_up (okr_up (okr_up o65_15 _ (by omega)) _ (by omega)) _ (by omega)) _ (by omega)) _ (by omega)) _ (by omega)), o66_15, o67_15, o68_15, o69_15, o70_15⟩, ⟨(by show 0 ≤ w8 25 ∧ w8 25 ≤ 256; omega), H10.2.2.2.2.2⟩⟩
      have a60 : AgA w8 B9 w8 (va_up B9 65 (va_up (va_up (va_up (va_up (va_up (va_up (B9 65) 0 (w8 29)) 1 (w8 30)) 2 (w8 26)) 3 (w8 27)) 4 (w8 28)) 5 (w8 25))) := ⟨rfl, rfl, rfl, rfl, rfl⟩
      refine Go.fgt 1 ?_
      refine Go.fgt 2 ?_
      exact m_run_l rt ri _ _ _ _ _ (z6) (0) rfl H59 (by omega) (by omega) (fun hQ tQ wQ BQ rQ eQ RQ aQ sQ => k hQ tQ wQ BQ rQ eQ RQ ((a11.A.tr a60).tr aQ) (((((((((Sm.refl [50, 51, 52, 53, 54, 55, 56, 57, 58, 59, 60, 61, 62, 63, 64, 65, 66, 67, 68, 69, 70] _).tr s12 (fun _ q => q) (by simp)).tr s17 (fun _ q => q) (by simp)).tr s21 (fun _ q => q) (by simp)).tr s25 (fun _ q => q) (by simp)).tr s29 (fun _ q => q) (by simp)).tr s33 (fun _ q => q) (by simp)).tr s37 (fun _ q => q) (by simp)).tr sQ (fun _ q => q) (fun _ q => q)))
    · refine g_iconst (v := iZ (-1)) 16 dX9_run_15 rfl rfl ?_
      refine g_iret rfl dX9_run_16 ?_
      exact k _ _ _ _ (-1) (by decide) H (AgA.refl _ _) (Sm.refl [50, 51, 52, 53, 54, 55, 56, 57, 58, 59, 60, 61, 62, 63, 64, 65, 66, 67, 68, 69, 70] _)

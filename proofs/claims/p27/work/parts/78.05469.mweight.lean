theorem wtR0 {x : Int} (tr : Int64) (h : x = 0) : tr + 1 = tr + wtT x := by
  subst h
  rfl
theorem wtR1 {x : Int} (tr : Int64) (h : x = 1) : tr + 11 = tr + wtT x := by
  subst h
  rfl
theorem wtR2 {x : Int} (tr : Int64) (h : x = 2) : tr + 101 = tr + wtT x := by
  subst h
  rfl
theorem wtR3 {x : Int} (tr : Int64) (h : x = 3) : tr + 1101 = tr + wtT x := by
  subst h
  rfl
theorem wtR4 {x : Int} (tr : Int64) (h : x = 4) : tr + 11101 = tr + wtT x := by
  subst h
  rfl
theorem wtR5 {x : Int} (tr : Int64) (h : x = 5) : tr + 100001 = tr + wtT x := by
  subst h
  rfl
set_option maxRecDepth 100000 in
theorem b_weight_l {l : Launch} {Q : Option Value → MH → Prop} {ty tx : Nat → Int32} {x t : Int} (rx : rg x) (rt : rg t) : ∀ (m0 : Nat) (h : MH) (tr : Int64) (w : Nat → Int) (B : Nat → Nat → Int) (od : Int) (j : Int), (256 - j).toNat = m0 → R9B h tr ty tx w B → (0 ≤ t ∧ t < w 5) → (0 ≤ x ∧ x ≤ 5) → (0 ≤ j ∧ j ≤ B 56 t.toNat) → (0 ≤ od ∧ od ≤ j) → (od = bey (refB B t.toNat) j.toNat) → (∀ (h1 : MH) (tr1 : Int64) (w1 : Nat → Int) (B1 : Nat → Nat → Int) (r : Int), (wgP (w 5) (refV B) (refB B) x t r ∧ wtP (w 5) tr x t tr1 ∧ w1 5 = w 5 ∧ TR (w 5).toNat (refV B) (refB B) (refL B) (refV B1) (refB B1) (refL B1)) → R9B h1 tr1 ty tx w1 B1 → AgC w B w1 B1 → Sm [50, 51, 52, 53, 54, 55, 56, 57, 58, 59, 60, 61, 62, 63, 64, 65, 66, 67, 68, 69, 70] h h1 → Q (some (.int (iZ r))) h1) → Go l mX9_weight 24 [some (.ref 50), some (.int (iZ x)), some (.int (iZ t)), some (.int (iZ od)), some (.int (iZ j)), none] [] h Q := by
  intro m0
  induction m0 using Nat.strongRecOn with
  | ind m0 ih =>
    intro h tr w B od j hmz H ht hx hj ho2 hod k
    have n0 := H.2.2.1.2.1
    refine g_iload 26 dX9_weight_24 rfl rfl ?_
    refine g_aload_n 27 dX9_weight_26 rfl rfl ?_
    obtain ⟨F50_1, ⟨F51_1, F52_1, F53_1, F54_1, F55_1, F56_1, F57_1, F58_1, F59_1, F60_1, F61_1, F62_1, F63_1, F64_1, F65_1, F66_1, F67_1, F68_1, F69_1, F70_1, kty_1, ktx_1⟩, ⟨r2_1, r5_1, r13_1, r14_1, r15_1, r16_1, r17_1, r18_1, r19_1, r20_1, r25_1, r26_1, r27_1, r28_1, r29_1, r30_1, r31_1, r35_1⟩, ⟨o53_1, o54_1, o55_1, o56_1, o57_1, o58_1, o59_1, o60_1, o61_1, o62_1, o63_1, o64_1, o65_1, o66_1, o67_1, o68_1, o69_1, o70_1⟩, hT_1⟩ := id H
    refine g_get 30 dX9_weight_27 faX9_26_X9 F50_1 rfl rfl ?_
    refine g_iload_n 31 dX9_weight_30 rfl rfl ?_
    have b2 := o56_1 ((t).toNat)
    refine g_ialdZ (v := iZ ((B 56) t.toNat)) 32 dX9_weight_31 F56_1 (by omega) (by omega) (by decide) rfl rfl ?_
    refine g_icZ_ge 67 35 dX9_weight_32 rfl rfl (by omega) (by omega) (fun c3 => ?_) (fun c3 => ?_)
    · refine g_aload_n 68 dX9_weight_67 rfl rfl ?_
      refine g_get 71 dX9_weight_68 faX9_26_X9 F50_1 rfl rfl ?_
      refine g_iload_n 72 dX9_weight_71 rfl rfl ?_
      have b4 := o56_1 ((t).toNat)
      refine g_ialdZ (v := iZ ((B 56) t.toNat)) 73 dX9_weight_72 F56_1 (by omega) (by omega) (by decide) rfl rfl ?_
      refine g_iconst (v := iZ (2)) 74 dX9_weight_73 rfl rfl ?_
      refine g_iload_n 75 dX9_weight_74 rfl rfl ?_
      refine g_imulZ (2 * od) 76 dX9_weight_75 (by omega) rfl ?_
      refine g_iaddZ (((B 56) t.toNat) + (2 * od)) 77 dX9_weight_76 (by omega) rfl ?_
      refine g_istore (L1 := [some (.ref 50), some (.int (iZ x)), some (.int (iZ t)), some (.int (iZ od)), some (.int (iZ (((B 56) t.toNat) + (2 * od)))), none]) 79 dX9_weight_77 (by decide) rfl rfl rfl ?_
      refine g_iload 81 dX9_weight_79 rfl rfl ?_
      refine g_aload_n 82 dX9_weight_81 rfl rfl ?_
      refine g_iload_n 83 dX9_weight_82 rfl rfl ?_
      refine g_callV (z := mX9_lengthOf) (As := [.int (iZ t)]) 86 dX9_weight_83 mwX9_lengthOf ⟨by decide, by decide⟩ rfl wlX9_223 wiX9_lengthOf wsX9_lengthOf F50_1 rfl rfl rfl (nle rfl) (nle rfl) rfl ?_
      refine b_len H (by omega) (by omega) (fun z5 rz5  => ?_)
      refine rI ?_
      refine g_iaddZ ((((B 56) t.toNat) + (2 * od)) + z5) 87 dX9_weight_86 (by omega) rfl ?_
      refine g_istore (L1 := [some (.ref 50), some (.int (iZ x)), some (.int (iZ t)), some (.int (iZ od)), some (.int (iZ (((B 56) t.toNat) + (2 * od)))), some (.int (iZ ((((B 56) t.toNat) + (2 * od)) + z5)))]) 89 dX9_weight_87 (by decide) rfl rfl rfl ?_
      refine g_aload_n 90 dX9_weight_89 rfl rfl ?_
      refine g_dup 91 dX9_weight_90 rfl rfl ?_
      refine g_get 94 dX9_weight_91 faX9_245_X9 F50_1 rfl rfl ?_
      refine g_iload_n 95 dX9_weight_94 rfl rfl ?_
      refine g_ifZ_ne 102 98 dX9_weight_95 rfl rfl rx (fun c6 => ?_) (fun c6 => ?_)
      · refine g_iload_n 103 dX9_weight_102 rfl rfl ?_
        refine g_iconst (v := iZ (1)) 104 dX9_weight_103 rfl rfl ?_
        refine g_icZ_ne 113 107 dX9_weight_104 rfl rfl rx (by decide) (fun c7 => ?_) (fun c7 => ?_)
        · refine g_iload_n 114 dX9_weight_113 rfl rfl ?_
          refine g_iconst (v := iZ (2)) 115 dX9_weight_114 rfl rfl ?_
          refine g_icZ_ne 124 118 dX9_weight_115 rfl rfl rx (by decide) (fun c8 => ?_) (fun c8 => ?_)
          · refine g_iload_n 125 dX9_weight_124 rfl rfl ?_
            refine g_iconst (v := iZ (3)) 126 dX9_weight_125 rfl rfl ?_
            refine g_icZ_ne 135 129 dX9_weight_126 rfl rfl rx (by decide) (fun c9 => ?_) (fun c9 => ?_)
            · refine g_iload_n 136 dX9_weight_135 rfl rfl ?_
              refine g_iconst (v := iZ (4)) 137 dX9_weight_136 rfl rfl ?_
              refine g_icZ_ne 146 140 dX9_weight_137 rfl rfl rx (by decide) (fun c10 => ?_) (fun c10 => ?_)
              · refine g_ldc2 149 dX9_weight_146 wnX9_257 rfl ?_
                refine g_ladd 150 dX9_weight_149 rfl ?_
                refine g_putC (fs1 := [.long ((tr) + (100001)), .ref 51, .int (iZ (w 2)), .ref 52, .ref 53, .int (iZ (w 5)), .ref 54, .ref 55, .ref 56, .ref 57, .ref 58, .ref 59, .ref 60, .int (iZ (w 13)), .int (iZ (w 14)), .int (iZ (w 15)), .int (iZ (w 16)), .int (iZ (w 17)), .int (iZ (w 18)), .int (iZ (w 19)), .int (iZ (w 20)), .ref 61, .ref 62, .ref 63, .ref 64, .int (iZ (w 25)), .int (iZ (w 26)), .int (iZ (w 27)), .int (iZ (w 28)), .int (iZ (w 29)), .int (iZ (w 30)), .int (iZ (w 31)), .ref 65, .ref 66, .ref 67, .int (iZ (w 35)), .ref 68, .ref 69, .ref 70]) 153 dX9_weight_150 fpX9_245_X9 F50_1 (nle rfl) (vL _) rfl rfl (fun h11 s12 f13 => ?_)
                refine g_iload_n 154 dX9_weight_153 rfl rfl ?_
                refine g_ifZ_ne 166 157 dX9_weight_154 rfl rfl rx (fun _ => ?_) (fun q => absurd q (by omega))
                refine g_iload_n 167 dX9_weight_166 rfl rfl ?_
                refine g_iconst (v := iZ (1)) 168 dX9_weight_167 rfl rfl ?_
                refine g_icZ_ne 190 171 dX9_weight_168 rfl rfl rx (by decide) (fun _ => ?_) (fun q => absurd q (by omega))
                refine g_iload_n 191 dX9_weight_190 rfl rfl ?_
                refine g_iconst (v := iZ (2)) 192 dX9_weight_191 rfl rfl ?_
                refine g_icZ_ne 200 195 dX9_weight_192 rfl rfl rx (by decide) (fun _ => ?_) (fun q => absurd q (by omega))
                refine g_iload_n 201 dX9_weight_200 rfl rfl ?_
                refine g_iconst (v := iZ (3)) 202 dX9_weight_201 rfl rfl ?_
                refine g_icZ_ne 210 205 dX9_weight_202 rfl rfl rx (by decide) (fun _ => ?_) (fun q => absurd q (by omega))
                refine g_iload_n 211 dX9_weight_210 rfl rfl ?_
                refine g_iconst (v := iZ (4)) 212 dX9_weight_211 rfl rfl ?_
                refine g_icZ_ne 226 215 dX9_weight_212 rfl rfl rx (by decide) (fun _ => ?_) (fun q => absurd q (by omega))
                refine g_aload_n 227 dX9_weight_226 rfl rfl ?_
                refine g_get 230 dX9_weight_227 faX9_26_X9 f13 rfl rfl ?_
                refine g_iload_n 231 dX9_weight_230 rfl rfl ?_
                have f14 := (s12.get (by decide) F56_1)
                have b15 := o56_1 ((t).toNat)
                refine g_ialdZ (v := iZ ((B 56) t.toNat)) 232 dX9_weight_231 f14 (by omega) (by omega) (by decide) rfl rfl ?_
                refine g_iconst (v := iZ (3)) 233 dX9_weight_232 rfl rfl ?_
                refine g_idiv 234 dX9_weight_233 (by decide +kernel) rfl ?_
                refine Go.eqI (iZ (((B 56) t.toNat) / 3)) (idiv_Z (by omega) (by omega)) ?_
                refine g_iret rfl dX9_weight_234 ?_
                have f16 := (s12.get (by decide) F51_1)
                have f17 := (s12.get (by decide) F52_1)
                have f18 := (s12.get (by decide) F53_1)
                have f19 := (s12.get (by decide) F54_1)
                have f20 := (s12.get (by decide) F55_1)
                have f21 := (s12.get (by decide) F57_1)
                have f22 := (s12.get (by decide) F58_1)
                have f23 := (s12.get (by decide) F59_1)
                have f24 := (s12.get (by decide) F60_1)
                have f25 := (s12.get (by decide) F61_1)
                have f26 := (s12.get (by decide) F62_1)
                have f27 := (s12.get (by decide) F63_1)
                have f28 := (s12.get (by decide) F64_1)
                have f29 := (s12.get (by decide) F65_1)
                have f30 := (s12.get (by decide) F66_1)
                have f31 := (s12.get (by decide) F67_1)
                have f32 := (s12.get (by decide) F68_1)
                have f33 := (s12.get (by decide) F69_1)
                have f34 := (s12.get (by decide) F70_1)
                have H35 : R9B _ ((tr) + (100001)) ty tx w B := ⟨f13, ⟨f16, f17, f18, f19, f20, f14, f21, f22, f23, f24, f25, f26, f27, f28, f29, f30, f31, f32, f33, f34, kty_1, ktx_1⟩, ⟨r2_1, r5_1, r13_1, r14_1, r15_1, r16_1, r17_1, r18_1, r19_1, r20_1, r25_1, r26_1, r27_1, r28_1, r29_1, r30_1, r31_1, r35_1⟩, ⟨o53_1, o54_1, o55_1, o56_1, o57_1, o58_1, o59_1, o60_1, o61_1, o62_1, o63_1, o64_1, o65_1, o66_1, o67_1, o68_1, o69_1, o70_1⟩, H.2.2.2.2⟩
                have a36 : AgC w B w B := ⟨rfl, rfl, rfl, rfl, rfl, rfl⟩
                have e0 : refV B 0 t.toNat = B 56 t.toNat := rfl
                have e4 : refV B 4 t.toNat = B 60 t.toNat := rfl
                have hod2 : bey (refB B t.toNat) (refV B 0 t.toNat).toNat = od := by rw [hod, e0]; congr 1; omega
                exact k _ ((tr) + (100001)) w B (((B 56) t.toNat) / 3) ⟨⟨fun q => ⟨fun z => by omega, fun z => by omega, fun z => by omega, fun z => by omega, fun z => by omega, fun z => by omega⟩, fun q => by omega⟩, ⟨fun _ => (wtR5 tr (by omega)), fun q => by omega⟩, rfl, TR.refl _ _ _ _⟩ H35 a36 ((Sm.refl [50, 51, 52, 53, 54, 55, 56, 57, 58, 59, 60, 61, 62, 63, 64, 65, 66, 67, 68, 69, 70] _).tr s12 (fun _ q => q) (by simp))
              · refine g_ldc2 143 dX9_weight_140 wnX9_255 rfl ?_
                refine g_goto 149 dX9_weight_143 rfl ?_
                refine g_ladd 150 dX9_weight_149 rfl ?_
                refine g_putC (fs1 := [.long ((tr) + (11101)), .ref 51, .int (iZ (w 2)), .ref 52, .ref 53, .int (iZ (w 5)), .ref 54, .ref 55, .ref 56, .ref 57, .ref 58, .ref 59, .ref 60, .int (iZ (w 13)), .int (iZ (w 14)), .int (iZ (w 15)), .int (iZ (w 16)), .int (iZ (w 17)), .int (iZ (w 18)), .int (iZ (w 19)), .int (iZ (w 20)), .ref 61, .ref 62, .ref 63, .ref 64, .int (iZ (w 25)), .int (iZ (w 26)), .int (iZ (w 27)), .int (iZ (w 28)), .int (iZ (w 29)), .int (iZ (w 30)), .int (iZ (w 31)), .ref 65, .ref 66, .ref 67, .int (iZ (w 35)), .ref 68, .ref 69, .ref 70]) 153 dX9_weight_150 fpX9_245_X9 F50_1 (nle rfl) (vL _) rfl rfl (fun h37 s38 f39 => ?_)
                refine g_iload_n 154 dX9_weight_153 rfl rfl ?_
                refine g_ifZ_ne 166 157 dX9_weight_154 rfl rfl rx (fun _ => ?_) (fun q => absurd q (by omega))
                refine g_iload_n 167 dX9_weight_166 rfl rfl ?_
                refine g_iconst (v := iZ (1)) 168 dX9_weight_167 rfl rfl ?_
                refine g_icZ_ne 190 171 dX9_weight_168 rfl rfl rx (by decide) (fun _ => ?_) (fun q => absurd q (by omega))
                refine g_iload_n 191 dX9_weight_190 rfl rfl ?_
                refine g_iconst (v := iZ (2)) 192 dX9_weight_191 rfl rfl ?_
                refine g_icZ_ne 200 195 dX9_weight_192 rfl rfl rx (by decide) (fun _ => ?_) (fun q => absurd q (by omega))
                refine g_iload_n 201 dX9_weight_200 rfl rfl ?_
                refine g_iconst (v := iZ (3)) 202 dX9_weight_201 rfl rfl ?_
                refine g_icZ_ne 210 205 dX9_weight_202 rfl rfl rx (by decide) (fun _ => ?_) (fun q => absurd q (by omega))
                refine g_iload_n 211 dX9_weight_210 rfl rfl ?_
                refine g_iconst (v := iZ (4)) 212 dX9_weight_211 rfl rfl ?_
                refine g_icZ_ne 226 215 dX9_weight_212 rfl rfl rx (by decide) (fun q => absurd q (by omega)) (fun _ => ?_)
                refine g_iconst (v := iZ (3)) 216 dX9_weight_215 rfl rfl ?_
                refine g_iload 218 dX9_weight_216 rfl rfl ?_
                refine g_imulZ (3 * ((((B 56) t.toNat) + (2 * od)) + z5)) 219 dX9_weight_218 (by omega) rfl ?_
                refine g_sipush (v := iZ (251)) 222 dX9_weight_219 (by decide +kernel) rfl ?_
                refine g_irem 223 dX9_weight_222 (by decide +kernel) rfl ?_
                refine Go.eqI (iZ ((3 * ((((B 56) t.toNat) + (2 * od)) + z5)) % 251)) (irem_Z (by omega) (by omega)) ?_
                refine g_goto 234 dX9_weight_223 rfl ?_
                refine g_iret rfl dX9_weight_234 ?_
                have f40 := (s38.get (by decide) F51_1)
                have f41 := (s38.get (by decide) F52_1)
                have f42 := (s38.get (by decide) F53_1)
                have f43 := (s38.get (by decide) F54_1)
                have f44 := (s38.get (by decide) F55_1)
                have f45 := (s38.get (by decide) F56_1)
                have f46 := (s38.get (by decide) F57_1)
                have f47 := (s38.get (by decide) F58_1)
                have f48 := (s38.get (by decide) F59_1)
                have f49 := (s38.get (by decide) F60_1)
                have f50 := (s38.get (by decide) F61_1)
                have f51 := (s38.get (by decide) F62_1)
                have f52 := (s38.get (by decide) F63_1)
                have f53 := (s38.get (by decide) F64_1)
                have f54 := (s38.get (by decide) F65_1)
                have f55 := (s38.get (by decide) F66_1)
                have f56 := (s38.get (by decide) F67_1)
                have f57 := (s38.get (by decide) F68_1)
                have f58 := (s38.get (by decide) F69_1)
                have f59 := (s38.get (by decide) F70_1)
                have H60 : R9B _ ((tr) + (11101)) ty tx w B := ⟨f39, ⟨f40, f41, f42, f43, f44, f45, f46, f47, f48, f49, f50, f51, f52, f53, f54, f55, f56, f57, f58, f59, kty_1, ktx_1⟩, ⟨r2_1, r5_1, r13_1, r14_1, r15_1, r16_1, r17_1, r18_1, r19_1, r20_1, r25_1, r26_1, r27_1, r28_1, r29_1, r30_1, r31_1, r35_1⟩, ⟨o53_1, o54_1, o55_1, o56_1, o57_1, o58_1, o59_1, o60_1, o61_1, o62_1, o63_1, o64_1, o65_1, o66_1, o67_1, o68_1, o69_1, o70_1⟩, H.2.2.2.2⟩
                have a61 : AgC w B w B := ⟨rfl, rfl, rfl, rfl, rfl, rfl⟩
                have e0 : refV B 0 t.toNat = B 56 t.toNat := rfl
                have e4 : refV B 4 t.toNat = B 60 t.toNat := rfl
                have e9 : isLen (refV B 3) t z5 := ⟨by omega, fun m hm => (rz5.1 m hm).1, rz5.2.2.2⟩
                have hod2 : bey (refB B t.toNat) (refV B 0 t.toNat).toNat = od := by rw [hod, e0]; congr 1; omega
                exact k _ ((tr) + (11101)) w B ((3 * ((((B 56) t.toNat) + (2 * od)) + z5)) % 251) ⟨⟨fun q => ⟨fun z => by omega, fun z => by omega, fun z => by omega, fun z => by omega, fun z => ⟨z5, e9, by omega⟩, fun z => by omega⟩, fun q => by omega⟩, ⟨fun _ => (wtR4 tr (by omega)), fun q => by omega⟩, rfl, TR.refl _ _ _ _⟩ H60 a61 ((Sm.refl [50, 51, 52, 53, 54, 55, 56, 57, 58, 59, 60, 61, 62, 63, 64, 65, 66, 67, 68, 69, 70] _).tr s38 (fun _ q => q) (by simp))
            · refine g_ldc2 132 dX9_weight_129 wnX9_253 rfl ?_
              refine g_goto 149 dX9_weight_132 rfl ?_
              refine g_ladd 150 dX9_weight_149 rfl ?_
              refine g_putC (fs1 := [.long ((tr) + (1101)), .ref 51, .int (iZ (w 2)), .ref 52, .ref 53, .int (iZ (w 5)), .ref 54, .ref 55, .ref 56, .ref 57, .ref 58, .ref 59, .ref 60, .int (iZ (w 13)), .int (iZ (w 14)), .int (iZ (w 15)), .int (iZ (w 16)), .int (iZ (w 17)), .int (iZ (w 18)), .int (iZ (w 19)), .int (iZ (w 20)), .ref 61, .ref 62, .ref 63, .ref 64, .int (iZ (w 25)), .int (iZ (w 26)), .int (iZ (w 27)), .int (iZ (w 28)), .int (iZ (w 29)), .int (iZ (w 30)), .int (iZ (w 31)), .ref 65, .ref 66, .ref 67, .int (iZ (w 35)), .ref 68, .ref 69, .ref 70]) 153 dX9_weight_150 fpX9_245_X9 F50_1 (nle rfl) (vL _) rfl rfl (fun h62 s63 f64 => ?_)
              refine g_iload_n 154 dX9_weight_153 rfl rfl ?_
              refine g_ifZ_ne 166 157 dX9_weight_154 rfl rfl rx (fun _ => ?_) (fun q => absurd q (by omega))
              refine g_iload_n 167 dX9_weight_166 rfl rfl ?_
              refine g_iconst (v := iZ (1)) 168 dX9_weight_167 rfl rfl ?_
              refine g_icZ_ne 190 171 dX9_weight_168 rfl rfl rx (by decide) (fun _ => ?_) (fun q => absurd q (by omega))
              refine g_iload_n 191 dX9_weight_190 rfl rfl ?_
              refine g_iconst (v := iZ (2)) 192 dX9_weight_191 rfl rfl ?_
              refine g_icZ_ne 200 195 dX9_weight_192 rfl rfl rx (by decide) (fun _ => ?_) (fun q => absurd q (by omega))
              refine g_iload_n 201 dX9_weight_200 rfl rfl ?_
              refine g_iconst (v := iZ (3)) 202 dX9_weight_201 rfl rfl ?_
              refine g_icZ_ne 210 205 dX9_weight_202 rfl rfl rx (by decide) (fun q => absurd q (by omega)) (fun _ => ?_)
              refine g_iload 207 dX9_weight_205 rfl rfl ?_
              refine g_goto 234 dX9_weight_207 rfl ?_
              refine g_iret rfl dX9_weight_234 ?_
              have f65 := (s63.get (by decide) F51_1)
              have f66 := (s63.get (by decide) F52_1)
              have f67 := (s63.get (by decide) F53_1)
              have f68 := (s63.get (by decide) F54_1)
              have f69 := (s63.get (by decide) F55_1)
              have f70 := (s63.get (by decide) F56_1)
              have f71 := (s63.get (by decide) F57_1)
              have f72 := (s63.get (by decide) F58_1)
              have f73 := (s63.get (by decide) F59_1)
              have f74 := (s63.get (by decide) F60_1)
              have f75 := (s63.get (by decide) F61_1)
              have f76 := (s63.get (by decide) F62_1)
              have f77 := (s63.get (by decide) F63_1)
              have f78 := (s63.get (by decide) F64_1)
              have f79 := (s63.get (by decide) F65_1)
              have f80 := (s63.get (by decide) F66_1)
              have f81 := (s63.get (by decide) F67_1)
              have f82 := (s63.get (by decide) F68_1)
              have f83 := (s63.get (by decide) F69_1)
              have f84 := (s63.get (by decide) F70_1)
              have H85 : R9B _ ((tr) + (1101)) ty tx w B := ⟨f64, ⟨f65, f66, f67, f68, f69, f70, f71, f72, f73, f74, f75, f76, f77, f78, f79, f80, f81, f82, f83, f84, kty_1, ktx_1⟩, ⟨r2_1, r5_1, r13_1, r14_1, r15_1, r16_1, r17_1, r18_1, r19_1, r20_1, r25_1, r26_1, r27_1, r28_1, r29_1, r30_1, r31_1, r35_1⟩, ⟨o53_1, o54_1, o55_1, o56_1, o57_1, o58_1, o59_1, o60_1, o61_1, o62_1, o63_1, o64_1, o65_1, o66_1, o67_1, o68_1, o69_1, o70_1⟩, H.2.2.2.2⟩
              have a86 : AgC w B w B := ⟨rfl, rfl, rfl, rfl, rfl, rfl⟩
              have e0 : refV B 0 t.toNat = B 56 t.toNat := rfl
              have e4 : refV B 4 t.toNat = B 60 t.toNat := rfl
              have e9 : isLen (refV B 3) t z5 := ⟨by omega, fun m hm => (rz5.1 m hm).1, rz5.2.2.2⟩
              have hod2 : bey (refB B t.toNat) (refV B 0 t.toNat).toNat = od := by rw [hod, e0]; congr 1; omega
              exact k _ ((tr) + (1101)) w B ((((B 56) t.toNat) + (2 * od)) + z5) ⟨⟨fun q => ⟨fun z => by omega, fun z => by omega, fun z => by omega, fun z => ⟨z5, e9, by omega⟩, fun z => by omega, fun z => by omega⟩, fun q => by omega⟩, ⟨fun _ => (wtR3 tr (by omega)), fun q => by omega⟩, rfl, TR.refl _ _ _ _⟩ H85 a86 ((Sm.refl [50, 51, 52, 53, 54, 55, 56, 57, 58, 59, 60, 61, 62, 63, 64, 65, 66, 67, 68, 69, 70] _).tr s63 (fun _ q => q) (by simp))
          · refine g_ldc2 121 dX9_weight_118 wnX9_251 rfl ?_
            refine g_goto 149 dX9_weight_121 rfl ?_
            refine g_ladd 150 dX9_weight_149 rfl ?_
            refine g_putC (fs1 := [.long ((tr) + (101)), .ref 51, .int (iZ (w 2)), .ref 52, .ref 53, .int (iZ (w 5)), .ref 54, .ref 55, .ref 56, .ref 57, .ref 58, .ref 59, .ref 60, .int (iZ (w 13)), .int (iZ (w 14)), .int (iZ (w 15)), .int (iZ (w 16)), .int (iZ (w 17)), .int (iZ (w 18)), .int (iZ (w 19)), .int (iZ (w 20)), .ref 61, .ref 62, .ref 63, .ref 64, .int (iZ (w 25)), .int (iZ (w 26)), .int (iZ (w 27)), .int (iZ (w 28)), .int (iZ (w 29)), .int (iZ (w 30)), .int (iZ (w 31)), .ref 65, .ref 66, .ref 67, .int (iZ (w 35)), .ref 68, .ref 69, .ref 70]) 153 dX9_weight_150 fpX9_245_X9 F50_1 (nle rfl) (vL _) rfl rfl (fun h87 s88 f89 => ?_)
            refine g_iload_n 154 dX9_weight_153 rfl rfl ?_
            refine g_ifZ_ne 166 157 dX9_weight_154 rfl rfl rx (fun _ => ?_) (fun q => absurd q (by omega))
            refine g_iload_n 167 dX9_weight_166 rfl rfl ?_
            refine g_iconst (v := iZ (1)) 168 dX9_weight_167 rfl rfl ?_
            refine g_icZ_ne 190 171 dX9_weight_168 rfl rfl rx (by decide) (fun _ => ?_) (fun q => absurd q (by omega))
            refine g_iload_n 191 dX9_weight_190 rfl rfl ?_
            refine g_iconst (v := iZ (2)) 192 dX9_weight_191 rfl rfl ?_
            refine g_icZ_ne 200 195 dX9_weight_192 rfl rfl rx (by decide) (fun q => absurd q (by omega)) (fun _ => ?_)
            refine g_iload 197 dX9_weight_195 rfl rfl ?_
            refine g_goto 234 dX9_weight_197 rfl ?_
            refine g_iret rfl dX9_weight_234 ?_
            have f90 := (s88.get (by decide) F51_1)
            have f91 := (s88.get (by decide) F52_1)
            have f92 := (s88.get (by decide) F53_1)
            have f93 := (s88.get (by decide) F54_1)
            have f94 := (s88.get (by decide) F55_1)
            have f95 := (s88.get (by decide) F56_1)
            have f96 := (s88.get (by decide) F57_1)
            have f97 := (s88.get (by decide) F58_1)
            have f98 := (s88.get (by decide) F59_1)
            have f99 := (s88.get (by decide) F60_1)
            have f100 := (s88.get (by decide) F61_1)
            have f101 := (s88.get (by decide) F62_1)
            have f102 := (s88.get (by decide) F63_1)
            have f103 := (s88.get (by decide) F64_1)
            have f104 := (s88.get (by decide) F65_1)
            have f105 := (s88.get (by decide) F66_1)
            have f106 := (s88.get (by decide) F67_1)
            have f107 := (s88.get (by decide) F68_1)
            have f108 := (s88.get (by decide) F69_1)
            have f109 := (s88.get (by decide) F70_1)
            have H110 : R9B _ ((tr) + (101)) ty tx w B := ⟨f89, ⟨f90, f91, f92, f93, f94, f95, f96, f97, f98, f99, f100, f101, f102, f103, f104, f105, f106, f107, f108, f109, kty_1, ktx_1⟩, ⟨r2_1, r5_1, r13_1, r14_1, r15_1, r16_1, r17_1, r18_1, r19_1, r20_1, r25_1, r26_1, r27_1, r28_1, r29_1, r30_1, r31_1, r35_1⟩, ⟨o53_1, o54_1, o55_1, o56_1, o57_1, o58_1, o59_1, o60_1, o61_1, o62_1, o63_1, o64_1, o65_1, o66_1, o67_1, o68_1, o69_1, o70_1⟩, H.2.2.2.2⟩
            have a111 : AgC w B w B := ⟨rfl, rfl, rfl, rfl, rfl, rfl⟩
            have e0 : refV B 0 t.toNat = B 56 t.toNat := rfl
            have e4 : refV B 4 t.toNat = B 60 t.toNat := rfl
            have hod2 : bey (refB B t.toNat) (refV B 0 t.toNat).toNat = od := by rw [hod, e0]; congr 1; omega
            exact k _ ((tr) + (101)) w B (((B 56) t.toNat) + (2 * od)) ⟨⟨fun q => ⟨fun z => by omega, fun z => by omega, fun z => by omega, fun z => by omega, fun z => by omega, fun z => by omega⟩, fun q => by omega⟩, ⟨fun _ => (wtR2 tr (by omega)), fun q => by omega⟩, rfl, TR.refl _ _ _ _⟩ H110 a111 ((Sm.refl [50, 51, 52, 53, 54, 55, 56, 57, 58, 59, 60, 61, 62, 63, 64, 65, 66, 67, 68, 69, 70] _).tr s88 (fun _ q => q) (by simp))
        · refine g_ldc2 110 dX9_weight_107 wnX9_249 rfl ?_
          refine g_goto 149 dX9_weight_110 rfl ?_
          refine g_ladd 150 dX9_weight_149 rfl ?_
          refine g_putC (fs1 := [.long ((tr) + (11)), .ref 51, .int (iZ (w 2)), .ref 52, .ref 53, .int (iZ (w 5)), .ref 54, .ref 55, .ref 56, .ref 57, .ref 58, .ref 59, .ref 60, .int (iZ (w 13)), .int (iZ (w 14)), .int (iZ (w 15)), .int (iZ (w 16)), .int (iZ (w 17)), .int (iZ (w 18)), .int (iZ (w 19)), .int (iZ (w 20)), .ref 61, .ref 62, .ref 63, .ref 64, .int (iZ (w 25)), .int (iZ (w 26)), .int (iZ (w 27)), .int (iZ (w 28)), .int (iZ (w 29)), .int (iZ (w 30)), .int (iZ (w 31)), .ref 65, .ref 66, .ref 67, .int (iZ (w 35)), .ref 68, .ref 69, .ref 70]) 153 dX9_weight_150 fpX9_245_X9 F50_1 (nle rfl) (vL _) rfl rfl (fun h112 s113 f114 => ?_)
          refine g_iload_n 154 dX9_weight_153 rfl rfl ?_
          refine g_ifZ_ne 166 157 dX9_weight_154 rfl rfl rx (fun _ => ?_) (fun q => absurd q (by omega))
          refine g_iload_n 167 dX9_weight_166 rfl rfl ?_
          refine g_iconst (v := iZ (1)) 168 dX9_weight_167 rfl rfl ?_
          refine g_icZ_ne 190 171 dX9_weight_168 rfl rfl rx (by decide) (fun q => absurd q (by omega)) (fun _ => ?_)
          refine g_aload_n 172 dX9_weight_171 rfl rfl ?_
          refine g_get 175 dX9_weight_172 faX9_26_X9 f114 rfl rfl ?_
          refine g_iload_n 176 dX9_weight_175 rfl rfl ?_
          have f115 := (s113.get (by decide) F56_1)
          have b116 := o56_1 ((t).toNat)
          refine g_ialdZ (v := iZ ((B 56) t.toNat)) 177 dX9_weight_176 f115 (by omega) (by omega) (by decide) rfl rfl ?_
          refine g_bipush (v := iZ (9)) 179 dX9_weight_177 (by decide +kernel) rfl ?_
          refine g_aload_n 180 dX9_weight_179 rfl rfl ?_
          refine g_get 183 dX9_weight_180 faX9_38_X9 f114 rfl rfl ?_
          refine g_iload_n 184 dX9_weight_183 rfl rfl ?_
          have f117 := (s113.get (by decide) F60_1)
          refine g_ialdZ (v := iZ ((B 60) t.toNat)) 185 dX9_weight_184 f117 (by omega) (by omega) (by decide) rfl rfl ?_
          refine g_imulZ (9 * ((B 60) t.toNat)) 186 dX9_weight_185 (by omega) rfl ?_
          refine g_iaddZ (((B 56) t.toNat) + (9 * ((B 60) t.toNat))) 187 dX9_weight_186 (by omega) rfl ?_
          refine g_goto 234 dX9_weight_187 rfl ?_
          refine g_iret rfl dX9_weight_234 ?_
          have f118 := (s113.get (by decide) F51_1)
          have f119 := (s113.get (by decide) F52_1)
          have f120 := (s113.get (by decide) F53_1)
          have f121 := (s113.get (by decide) F54_1)
          have f122 := (s113.get (by decide) F55_1)
          have f123 := (s113.get (by decide) F57_1)
          have f124 := (s113.get (by decide) F58_1)
          have f125 := (s113.get (by decide) F59_1)
          have f126 := (s113.get (by decide) F61_1)
          have f127 := (s113.get (by decide) F62_1)
          have f128 := (s113.get (by decide) F63_1)
          have f129 := (s113.get (by decide) F64_1)
          have f130 := (s113.get (by decide) F65_1)
          have f131 := (s113.get (by decide) F66_1)
          have f132 := (s113.get (by decide) F67_1)
          have f133 := (s113.get (by decide) F68_1)
          have f134 := (s113.get (by decide) F69_1)
          have f135 := (s113.get (by decide) F70_1)
          have H136 : R9B _ ((tr) + (11)) ty tx w B := ⟨f114, ⟨f118, f119, f120, f121, f122, f115, f123, f124, f125, f117, f126, f127, f128, f129, f130, f131, f132, f133, f134, f135, kty_1, ktx_1⟩, ⟨r2_1, r5_1, r13_1, r14_1, r15_1, r16_1, r17_1, r18_1, r19_1, r20_1, r25_1, r26_1, r27_1, r28_1, r29_1, r30_1, r31_1, r35_1⟩, ⟨o53_1, o54_1, o55_1, o56_1, o57_1, o58_1, o59_1, o60_1, o61_1, o62_1, o63_1, o64_1, o65_1, o66_1, o67_1, o68_1, o69_1, o70_1⟩, H.2.2.2.2⟩
          have a137 : AgC w B w B := ⟨rfl, rfl, rfl, rfl, rfl, rfl⟩
          have e0 : refV B 0 t.toNat = B 56 t.toNat := rfl
          have e4 : refV B 4 t.toNat = B 60 t.toNat := rfl
          have hod2 : bey (refB B t.toNat) (refV B 0 t.toNat).toNat = od := by rw [hod, e0]; congr 1; omega
          exact k _ ((tr) + (11)) w B (((B 56) t.toNat) + (9 * ((B 60) t.toNat))) ⟨⟨fun q => ⟨fun z => by omega, fun z => by omega, fun z => by omega, fun z => by omega, fun z => by omega, fun z => by omega⟩, fun q => by omega⟩, ⟨fun _ => (wtR1 tr (by omega)), fun q => by omega⟩, rfl, TR.refl _ _ _ _⟩ H136 a137 ((Sm.refl [50, 51, 52, 53, 54, 55, 56, 57, 58, 59, 60, 61, 62, 63, 64, 65, 66, 67, 68, 69, 70] _).tr s113 (fun _ q => q) (by simp))
      · refine g_lconst (v := 1) 99 dX9_weight_98 rfl rfl ?_
        refine g_goto 149 dX9_weight_99 rfl ?_
        refine g_ladd 150 dX9_weight_149 rfl ?_
        refine g_putC (fs1 := [.long ((tr) + (1)), .ref 51, .int (iZ (w 2)), .ref 52, .ref 53, .int (iZ (w 5)), .ref 54, .ref 55, .ref 56, .ref 57, .ref 58, .ref 59, .ref 60, .int (iZ (w 13)), .int (iZ (w 14)), .int (iZ (w 15)), .int (iZ (w 16)), .int (iZ (w 17)), .int (iZ (w 18)), .int (iZ (w 19)), .int (iZ (w 20)), .ref 61, .ref 62, .ref 63, .ref 64, .int (iZ (w 25)), .int (iZ (w 26)), .int (iZ (w 27)), .int (iZ (w 28)), .int (iZ (w 29)), .int (iZ (w 30)), .int (iZ (w 31)), .ref 65, .ref 66, .ref 67, .int (iZ (w 35)), .ref 68, .ref 69, .ref 70]) 153 dX9_weight_150 fpX9_245_X9 F50_1 (nle rfl) (vL _) rfl rfl (fun h138 s139 f140 => ?_)
        refine g_iload_n 154 dX9_weight_153 rfl rfl ?_
        refine g_ifZ_ne 166 157 dX9_weight_154 rfl rfl rx (fun q => absurd q (by omega)) (fun _ => ?_)
        refine g_aload_n 158 dX9_weight_157 rfl rfl ?_
        refine g_get 161 dX9_weight_158 faX9_26_X9 f140 rfl rfl ?_
        refine g_iload_n 162 dX9_weight_161 rfl rfl ?_
        have f141 := (s139.get (by decide) F56_1)
        have b142 := o56_1 ((t).toNat)
        refine g_ialdZ (v := iZ ((B 56) t.toNat)) 163 dX9_weight_162 f141 (by omega) (by omega) (by decide) rfl rfl ?_
        refine g_goto 234 dX9_weight_163 rfl ?_
        refine g_iret rfl dX9_weight_234 ?_
        have f143 := (s139.get (by decide) F51_1)
        have f144 := (s139.get (by decide) F52_1)
        have f145 := (s139.get (by decide) F53_1)
        have f146 := (s139.get (by decide) F54_1)
        have f147 := (s139.get (by decide) F55_1)
        have f148 := (s139.get (by decide) F57_1)
        have f149 := (s139.get (by decide) F58_1)
        have f150 := (s139.get (by decide) F59_1)
        have f151 := (s139.get (by decide) F60_1)
        have f152 := (s139.get (by decide) F61_1)
        have f153 := (s139.get (by decide) F62_1)
        have f154 := (s139.get (by decide) F63_1)
        have f155 := (s139.get (by decide) F64_1)
        have f156 := (s139.get (by decide) F65_1)
        have f157 := (s139.get (by decide) F66_1)
        have f158 := (s139.get (by decide) F67_1)
        have f159 := (s139.get (by decide) F68_1)
        have f160 := (s139.get (by decide) F69_1)
        have f161 := (s139.get (by decide) F70_1)
        have H162 : R9B _ ((tr) + (1)) ty tx w B := ⟨f140, ⟨f143, f144, f145, f146, f147, f141, f148, f149, f150, f151, f152, f153, f154, f155, f156, f157, f158, f159, f160, f161, kty_1, ktx_1⟩, ⟨r2_1, r5_1, r13_1, r14_1, r15_1, r16_1, r17_1, r18_1, r19_1, r20_1, r25_1, r26_1, r27_1, r28_1, r29_1, r30_1, r31_1, r35_1⟩, ⟨o53_1, o54_1, o55_1, o56_1, o57_1, o58_1, o59_1, o60_1, o61_1, o62_1, o63_1, o64_1, o65_1, o66_1, o67_1, o68_1, o69_1, o70_1⟩, H.2.2.2.2⟩
        have a163 : AgC w B w B := ⟨rfl, rfl, rfl, rfl, rfl, rfl⟩
        have e0 : refV B 0 t.toNat = B 56 t.toNat := rfl
        have e4 : refV B 4 t.toNat = B 60 t.toNat := rfl
        have hod2 : bey (refB B t.toNat) (refV B 0 t.toNat).toNat = od := by rw [hod, e0]; congr 1; omega
        exact k _ ((tr) + (1)) w B ((B 56) t.toNat) ⟨⟨fun q => ⟨fun z => by omega, fun z => by omega, fun z => by omega, fun z => by omega, fun z => by omega, fun z => by omega⟩, fun q => by omega⟩, ⟨fun _ => (wtR0 tr (by omega)), fun q => by omega⟩, rfl, TR.refl _ _ _ _⟩ H162 a163 ((Sm.refl [50, 51, 52, 53, 54, 55, 56, 57, 58, 59, 60, 61, 62, 63, 64, 65, 66, 67, 68, 69, 70] _).tr s139 (fun _ q => q) (by simp))
    · refine g_iload_n 36 dX9_weight_35 rfl rfl ?_
      refine g_aload_n 37 dX9_weight_36 rfl rfl ?_
      refine g_get 40 dX9_weight_37 faX9_20_X9 F50_1 rfl rfl ?_
      refine g_sipush (v := iZ (256)) 43 dX9_weight_40 (by decide +kernel) rfl ?_
      refine g_iload_n 44 dX9_weight_43 rfl rfl ?_
      refine g_imulZ (256 * t) 45 dX9_weight_44 (by omega) rfl ?_
      refine g_iload 47 dX9_weight_45 rfl rfl ?_
      refine g_iaddZ ((256 * t) + j) 48 dX9_weight_47 (by omega) rfl ?_
      refine g_ialdZ (v := iZ ((B 54) ((256 * t) + j).toNat)) 49 dX9_weight_48 F54_1 (by omega) (by omega) (by decide) rfl rfl ?_
      refine g_bipush (v := iZ (15)) 51 dX9_weight_49 (by decide +kernel) rfl ?_
      refine g_icZ_le 58 54 dX9_weight_51 rfl rfl (o54_1 _) (by decide) (fun c164 => ?_) (fun c164 => ?_)
      · refine g_iconst (v := iZ (0)) 59 dX9_weight_58 rfl rfl ?_
        refine g_iaddZ (od + 0) 60 dX9_weight_59 (by omega) rfl ?_
        refine g_istore_n (L1 := [some (.ref 50), some (.int (iZ x)), some (.int (iZ t)), some (.int (iZ (od + 0))), some (.int (iZ j)), none]) 61 dX9_weight_60 (by decide) rfl rfl rfl ?_
        refine g_iincZ [some (.ref 50), some (.int (iZ x)), some (.int (iZ t)), some (.int (iZ (od + 0))), some (.int (iZ (j + 1))), none] 64 dX9_weight_61 rfl (by omega) (by decide) rfl rfl rfl ?_
        refine g_goto 24 dX9_weight_64 rfl ?_
        exact ih _ (by omega) _ _ _ _ (od + 0) (j + 1) rfl H (by omega) (by omega) (by omega) (by omega) ((Int.add_zero od).trans (bey_n (f := refB B t.toNat) (by omega) hod (by have q : refB B t.toNat j.toNat = B 54 (256 * t + j).toNat := congrArg (B 54) (by omega); omega))) k
      · refine g_iconst (v := iZ (1)) 55 dX9_weight_54 rfl rfl ?_
        refine g_goto 59 dX9_weight_55 rfl ?_
        refine g_iaddZ (od + 1) 60 dX9_weight_59 (by omega) rfl ?_
        refine g_istore_n (L1 := [some (.ref 50), some (.int (iZ x)), some (.int (iZ t)), some (.int (iZ (od + 1))), some (.int (iZ j)), none]) 61 dX9_weight_60 (by decide) rfl rfl rfl ?_
        refine g_iincZ [some (.ref 50), some (.int (iZ x)), some (.int (iZ t)), some (.int (iZ (od + 1))), some (.int (iZ (j + 1))), none] 64 dX9_weight_61 rfl (by omega) (by decide) rfl rfl rfl ?_
        refine g_goto 24 dX9_weight_64 rfl ?_
        exact ih _ (by omega) _ _ _ _ (od + 1) (j + 1) rfl H (by omega) (by omega) (by omega) (by omega) (bey_y (by omega) hod (by have q : refB B t.toNat j.toNat = B 54 (256 * t + j).toNat := congrArg (B 54) (by omega); omega)) k
set_option maxRecDepth 100000 in
theorem b_weight {l : Launch} {h : MH} {Q : Option Value → MH → Prop} {tr : Int64} {ty tx : Nat → Int32} {w : Nat → Int} {B : Nat → Nat → Int} {x t : Int} (H : R9B h tr ty tx w B) (rx : rg x) (rt : rg t)  (k : ∀ (h1 : MH) (tr1 : Int64) (w1 : Nat → Int) (B1 : Nat → Nat → Int) (r : Int), (wgP (w 5) (refV B) (refB B) x t r ∧ wtP (w 5) tr x t tr1 ∧ w1 5 = w 5 ∧ TR (w 5).toNat (refV B) (refB B) (refL B) (refV B1) (refB B1) (refL B1)) → R9B h1 tr1 ty tx w1 B1 → AgC w B w1 B1 → Sm [50, 51, 52, 53, 54, 55, 56, 57, 58, 59, 60, 61, 62, 63, 64, 65, 66, 67, 68, 69, 70] h h1 → Q (some (.int (iZ r))) h1) : Go l mX9_weight 0 [some (.ref 50), some (.int (iZ x)), some (.int (iZ t)), none, none, none] [] h Q := by
  have n0 := H.2.2.1.2.1
  refine g_iload_n 1 dX9_weight_0 rfl rfl ?_
  refine g_iconst (v := iZ (0)) 2 dX9_weight_1 rfl rfl ?_
  refine g_iconst (v := iZ (5)) 3 dX9_weight_2 rfl rfl ?_
  refine g_callS (z := mX9_in) (As := [.int (iZ x), .int (iZ 0), .int (iZ 5)]) 6 dX9_weight_3 mwX9_in ⟨by decide, by decide⟩ rfl wlX9_75 wtX9_in rfl (nle rfl) (nle rfl) rfl ?_
  refine n_in  rx (by decide) (by decide) (fun z1 rz1 => ?_)
  refine rI ?_
  refine g_ifZ_eq 17 9 dX9_weight_6 rfl rfl (rg01 (by omega)) (fun c2 => ?_) (fun c2 => ?_)
  · refine g_iconst (v := iZ (-1)) 18 dX9_weight_17 rfl rfl ?_
    refine g_iret rfl dX9_weight_18 ?_
    exact k _ tr w B (-1) ⟨⟨fun q => ⟨fun z => by omega, fun z => by omega, fun z => by omega, fun z => by omega, fun z => by omega, fun z => by omega⟩, fun _ => rfl⟩, ⟨fun q => by omega, fun _ => rfl⟩, rfl, TR.refl _ _ _ _⟩ H (AgC.refl _ _) (Sm.refl [50, 51, 52, 53, 54, 55, 56, 57, 58, 59, 60, 61, 62, 63, 64, 65, 66, 67, 68, 69, 70] _)
  · refine g_aload_n 10 dX9_weight_9 rfl rfl ?_
    refine g_iload_n 11 dX9_weight_10 rfl rfl ?_
    obtain ⟨F50_3, ⟨F51_3, F52_3, F53_3, F54_3, F55_3, F56_3, F57_3, F58_3, F59_3, F60_3, F61_3, F62_3, F63_3, F64_3, F65_3, F66_3, F67_3, F68_3, F69_3, F70_3, kty_3, ktx_3⟩, ⟨r2_3, r5_3, r13_3, r14_3, r15_3, r16_3, r17_3, r18_3, r19_3, r20_3, r25_3, r26_3, r27_3, r28_3, r29_3, r30_3, r31_3, r35_3⟩, ⟨o53_3, o54_3, o55_3, o56_3, o57_3, o58_3, o59_3, o60_3, o61_3, o62_3, o63_3, o64_3, o65_3, o66_3, o67_3, o68_3, o69_3, o70_3⟩, hT_3⟩ := id H
    refine g_callV (z := mX9_isTool) (As := [.int (iZ t)]) 14 dX9_weight_11 mwX9_isTool ⟨by decide, by decide⟩ rfl wlX9_178 wiX9_isTool wsX9_isTool F50_3 rfl rfl rfl (nle rfl) (nle rfl) rfl ?_
    refine b_isTool H rt (fun z4 rz4 => ?_)
    refine rI ?_
    refine g_ifZ_ne 19 17 dX9_weight_14 rfl rfl (rg01 (by omega)) (fun c5 => ?_) (fun c5 => ?_)
    · refine g_iconst (v := iZ (0)) 20 dX9_weight_19 rfl rfl ?_
      refine g_istore_n (L1 := [some (.ref 50), some (.int (iZ x)), some (.int (iZ t)), some (.int (iZ 0)), none, none]) 21 dX9_weight_20 (by decide) rfl rfl rfl ?_
      refine g_iconst (v := iZ (0)) 22 dX9_weight_21 rfl rfl ?_
      refine g_istore (L1 := [some (.ref 50), some (.int (iZ x)), some (.int (iZ t)), some (.int (iZ 0)), some (.int (iZ 0)), none]) 24 dX9_weight_22 (by decide) rfl rfl rfl ?_
      exact b_weight_l rx rt _ _ _ _ _ (0) (0) rfl H (by omega) (by omega) ⟨by decide, (H.2.2.2.1.2.2.2.1 _).1⟩ (by omega) rfl k
    · refine g_iconst (v := iZ (-1)) 18 dX9_weight_17 rfl rfl ?_
      refine g_iret rfl dX9_weight_18 ?_
      exact k _ tr w B (-1) ⟨⟨fun q => ⟨fun z => by omega, fun z => by omega, fun z => by omega, fun z => by omega, fun z => by omega, fun z => by omega⟩, fun _ => rfl⟩, ⟨fun q => by omega, fun _ => rfl⟩, rfl, TR.refl _ _ _ _⟩ H (AgC.refl _ _) (Sm.refl [50, 51, 52, 53, 54, 55, 56, 57, 58, 59, 60, 61, 62, 63, 64, 65, 66, 67, 68, 69, 70] _)

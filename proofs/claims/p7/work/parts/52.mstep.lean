set_option maxRecDepth 100000 in
theorem n_step {l : Launch} {h : MH} {Q : Option Value → MH → Prop} {tr : Int64} {mn kt bs ee pa fu st so va ed cm a x p dn tk ie en i : Int} {lg mm ou ol : Nat → Int} {tx : Nat → Int32} (F0 : h[50]? = some (.inr (8, [.long (tr), .ref 51, .int (iZ mn), .ref 52, .ref 53, .int (iZ kt), .ref 54, .ref 55, .ref 56, .ref 57, .ref 58, .ref 59, .ref 60, .int (iZ bs), .int (iZ ee), .int (iZ pa), .int (iZ fu), .int (iZ st), .int (iZ so), .int (iZ va), .int (iZ ed), .ref 61, .ref 62, .ref 63, .ref 64, .int (iZ cm), .int (iZ a), .int (iZ x), .int (iZ p), .int (iZ dn), .int (iZ tk), .int (iZ ie), .ref 65, .ref 66, .ref 67, .int (iZ en), .ref 68, .ref 69, .ref 70]))) (F1 : h[52]? = some (.inl (1, 1600, .inl tx))) (F2 : h[53]? = some (.inl (0, 8, .inl (zA lg)))) (F3 : h[62]? = some (.inl (0, 256, .inl (zA mm)))) (F4 : h[63]? = some (.inl (0, 256, .inl (zA ou)))) (F5 : h[64]? = some (.inl (0, 256, .inl (zA ol)))) (olg : oki (0) (200) lg) (omm : oki (0) (255) mm) (oou : oki (0) (255) ou) (ool : oki (0) (300) ol) (rmn : (0 ≤ mn ∧ mn ≤ 200)) (rkt : (0 ≤ kt ∧ kt ≤ 12)) (rbs : (0 ≤ bs ∧ bs ≤ 1400)) (ree : (0 ≤ ee ∧ ee ≤ 200)) (rpa : (0 ≤ pa ∧ pa ≤ 200)) (rfu : (-9 ≤ fu ∧ fu ≤ 200)) (rst : (0 ≤ st ∧ st ≤ 200)) (rso : (0 ≤ so ∧ so ≤ 5)) (rva : (-100 ≤ va ∧ va ≤ 3000)) (red : (0 ≤ ed ∧ ed ≤ 200)) (rcm : (0 ≤ cm ∧ cm ≤ 256)) (ra : (0 ≤ a ∧ a ≤ 255)) (rx : (0 ≤ x ∧ x ≤ 255)) (rp : (0 ≤ p ∧ p ≤ 255)) (rdn : (0 ≤ dn ∧ dn ≤ 5000)) (rtk : (0 ≤ tk ∧ tk ≤ 200)) (rie : (0 ≤ ie ∧ ie ≤ 1)) (ren : (0 ≤ en ∧ en ≤ 12)) (ri : (0 ≤ i ∧ i ≤ 7)) (hdn : dn < 5000) (k : ∀ (h1 : MH) (cm_1 a_1 x_1 p_1 dn_1 tk_1 ie_1 : Int) (mm_1 : Nat → Int) (ou_1 : Nat → Int) (ol_1 : Nat → Int) (r : Int), (0 ≤ cm_1 ∧ cm_1 ≤ 256) → (0 ≤ a_1 ∧ a_1 ≤ 255) → (0 ≤ x_1 ∧ x_1 ≤ 255) → (0 ≤ p_1 ∧ p_1 ≤ 255) → (0 ≤ dn_1 ∧ dn_1 ≤ 5000) → (0 ≤ tk_1 ∧ tk_1 ≤ 200) → (0 ≤ ie_1 ∧ ie_1 ≤ 1) → oki (0) (255) mm_1 → oki (0) (255) ou_1 → oki (0) (300) ol_1 → (r = -1 ∨ (0 ≤ r ∧ r ≤ 2)) → (r = 0 → dn_1 = dn + 1) → Sm [50, 62, 63, 64] h h1 → h1[50]? = some (.inr (8, [.long (tr), .ref 51, .int (iZ mn), .ref 52, .ref 53, .int (iZ kt), .ref 54, .ref 55, .ref 56, .ref 57, .ref 58, .ref 59, .ref 60, .int (iZ bs), .int (iZ ee), .int (iZ pa), .int (iZ fu), .int (iZ st), .int (iZ so), .int (iZ va), .int (iZ ed), .ref 61, .ref 62, .ref 63, .ref 64, .int (iZ cm_1), .int (iZ a_1), .int (iZ x_1), .int (iZ p_1), .int (iZ dn_1), .int (iZ tk_1), .int (iZ ie_1), .ref 65, .ref 66, .ref 67, .int (iZ en), .ref 68, .ref 69, .ref 70])) → h1[62]? = some (.inl (0, 256, .inl (zA mm_1))) → h1[63]? = some (.inl (0, 256, .inl (zA ou_1))) → h1[64]? = some (.inl (0, 256, .inl (zA ol_1))) → Q (some (.int (iZ r))) h1) : Go l mX9_step 0 [some (.ref 50), some (.int (iZ i)), none, none, none] [] h Q := by
  refine g_aload_n 1 dX9_step_0 rfl rfl ?_
  refine g_get 4 dX9_step_1 faX9_44_X9 F0 rfl rfl ?_
  refine g_aload_n 5 dX9_step_4 rfl rfl ?_
  refine g_get 8 dX9_step_5 faX9_181_X9 F0 rfl rfl ?_
  refine g_ialdR 9 dX9_step_8 F3 omm (by omega) (by omega) (by decide) rfl (fun v1 rv1 => ?_)
  refine g_istore_n (L1 := [some (.ref 50), some (.int (iZ i)), some (.int (iZ v1)), none, none]) 10 dX9_step_9 (by decide) rfl rfl rfl ?_
  refine g_iload_n 11 dX9_step_10 rfl rfl ?_
  refine g_bipush (v := iZ (15)) 13 dX9_step_11 (by decide +kernel) rfl ?_
  refine g_icZ_le 18 16 dX9_step_13 rfl rfl (by omega) (by decide) (fun c2 => ?_) (fun c2 => ?_)
  · refine g_iload_n 19 dX9_step_18 rfl rfl ?_
    refine g_iconst (v := iZ (2)) 20 dX9_step_19 rfl rfl ?_
    refine g_icZ_ne 35 23 dX9_step_20 rfl rfl (by omega) (by decide) (fun c3 => ?_) (fun c3 => ?_)
    · refine g_aload_n 36 dX9_step_35 rfl rfl ?_
      refine g_get 39 dX9_step_36 faX9_44_X9 F0 rfl rfl ?_
      refine g_aload_n 40 dX9_step_39 rfl rfl ?_
      refine g_get 43 dX9_step_40 faX9_181_X9 F0 rfl rfl ?_
      refine g_iconst (v := iZ (1)) 44 dX9_step_43 rfl rfl ?_
      refine g_iaddZ (p + 1) 45 dX9_step_44 (by omega) rfl ?_
      refine g_sipush (v := iZ (255)) 48 dX9_step_45 (by decide +kernel) rfl ?_
      refine g_and255Z ((p + 1) % 256) 49 dX9_step_48 rfl rfl ?_
      refine g_ialdR 50 dX9_step_49 F3 omm (by omega) (by omega) (by decide) rfl (fun v4 rv4 => ?_)
      refine g_istore_n (L1 := [some (.ref 50), some (.int (iZ i)), some (.int (iZ v1)), some (.int (iZ v4)), none]) 51 dX9_step_50 (by decide) rfl rfl rfl ?_
      refine g_aload_n 52 dX9_step_51 rfl rfl ?_
      refine g_aload_n 53 dX9_step_52 rfl rfl ?_
      refine g_get 56 dX9_step_53 faX9_181_X9 F0 rfl rfl ?_
      refine g_iload_n 57 dX9_step_56 rfl rfl ?_
      refine g_callS (z := mX9_hasNumber) (As := [.int (iZ v1)]) 60 dX9_step_57 mwX9_hasNumber ⟨by decide, by decide⟩ rfl wlX9_154 wtX9_hasNumber rfl (nle rfl) (nle rfl) rfl ?_
      refine n_hasn  (by omega) (fun z5 rz5 => ?_)
      refine rI ?_
      refine g_ifZ_eq 67 63 dX9_step_60 rfl rfl (rg01 rz5) (fun c6 => ?_) (fun c6 => ?_)
      · refine g_iconst (v := iZ (1)) 68 dX9_step_67 rfl rfl ?_
        refine g_iaddZ (p + 1) 69 dX9_step_68 (by omega) rfl ?_
        refine g_sipush (v := iZ (255)) 72 dX9_step_69 (by decide +kernel) rfl ?_
        refine g_and255Z ((p + 1) % 256) 73 dX9_step_72 rfl rfl ?_
        refine g_putC (fs1 := [.long (tr), .ref 51, .int (iZ mn), .ref 52, .ref 53, .int (iZ kt), .ref 54, .ref 55, .ref 56, .ref 57, .ref 58, .ref 59, .ref 60, .int (iZ bs), .int (iZ ee), .int (iZ pa), .int (iZ fu), .int (iZ st), .int (iZ so), .int (iZ va), .int (iZ ed), .ref 61, .ref 62, .ref 63, .ref 64, .int (iZ cm), .int (iZ a), .int (iZ x), .int (iZ ((p + 1) % 256)), .int (iZ dn), .int (iZ tk), .int (iZ ie), .ref 65, .ref 66, .ref 67, .int (iZ en), .ref 68, .ref 69, .ref 70]) 76 dX9_step_73 fpX9_181_X9 F0 (nle rfl) (vI _) rfl rfl (fun h7 s8 f9 => ?_)
        refine g_aload_n 77 dX9_step_76 rfl rfl ?_
        refine g_dup 78 dX9_step_77 rfl rfl ?_
        refine g_get 81 dX9_step_78 faX9_187_X9 f9 rfl rfl ?_
        refine g_iconst (v := iZ (1)) 82 dX9_step_81 rfl rfl ?_
        refine g_iaddZ (dn + 1) 83 dX9_step_82 (by omega) rfl ?_
        refine g_putC (fs1 := [.long (tr), .ref 51, .int (iZ mn), .ref 52, .ref 53, .int (iZ kt), .ref 54, .ref 55, .ref 56, .ref 57, .ref 58, .ref 59, .ref 60, .int (iZ bs), .int (iZ ee), .int (iZ pa), .int (iZ fu), .int (iZ st), .int (iZ so), .int (iZ va), .int (iZ ed), .ref 61, .ref 62, .ref 63, .ref 64, .int (iZ cm), .int (iZ a), .int (iZ x), .int (iZ ((p + 1) % 256)), .int (iZ (dn + 1)), .int (iZ tk), .int (iZ ie), .ref 65, .ref 66, .ref 67, .int (iZ en), .ref 68, .ref 69, .ref 70]) 86 dX9_step_83 fpX9_187_X9 f9 (nle rfl) (vI _) rfl rfl (fun h10 s11 f12 => ?_)
        refine g_iload_n 87 dX9_step_86 rfl rfl ?_
        by_cases c13 : v1 < 0 ∨ 14 < v1
        · refine g_tabZO 496 dX9_step_87 (by omega) c13 rfl ?_
          refine g_aload_n 497 dX9_step_496 rfl rfl ?_
          refine g_aload_n 498 dX9_step_497 rfl rfl ?_
          refine g_get 501 dX9_step_498 faX9_193_X9 f12 rfl rfl ?_
          refine g_sipush (v := iZ (128)) 504 dX9_step_501 (by decide +kernel) rfl ?_
          refine g_icZ_lt 511 507 dX9_step_504 rfl rfl (by omega) (by decide) (fun c14 => ?_) (fun c14 => ?_)
          · refine g_aload_n 512 dX9_step_511 rfl rfl ?_
            refine g_get 515 dX9_step_512 faX9_181_X9 f12 rfl rfl ?_
            refine g_putC (fs1 := [.long (tr), .ref 51, .int (iZ mn), .ref 52, .ref 53, .int (iZ kt), .ref 54, .ref 55, .ref 56, .ref 57, .ref 58, .ref 59, .ref 60, .int (iZ bs), .int (iZ ee), .int (iZ pa), .int (iZ fu), .int (iZ st), .int (iZ so), .int (iZ va), .int (iZ ed), .ref 61, .ref 62, .ref 63, .ref 64, .int (iZ cm), .int (iZ a), .int (iZ x), .int (iZ ((p + 1) % 256)), .int (iZ (dn + 1)), .int (iZ tk), .int (iZ ie), .ref 65, .ref 66, .ref 67, .int (iZ en), .ref 68, .ref 69, .ref 70]) 518 dX9_step_515 fpX9_181_X9 f12 (nle rfl) (vI _) rfl rfl (fun h15 s16 f17 => ?_)
            refine g_iconst (v := iZ (0)) 519 dX9_step_518 rfl rfl ?_
            refine g_iret rfl dX9_step_519 ?_
            have f18 := (s16.get (by decide) (s11.get (by decide) (s8.get (by decide) F3)))
            have f19 := (s16.get (by decide) (s11.get (by decide) (s8.get (by decide) F4)))
            have f20 := (s16.get (by decide) (s11.get (by decide) (s8.get (by decide) F5)))
            exact k _ (cm) (a) (x) ((p + 1) % 256) (dn + 1) (tk) (ie) (mm) (ou) (ol) (0) (by omega) (by omega) (by omega) (by omega) (by omega) (by omega) (by omega) omm oou ool (by omega) (by omega) ((((Sm.refl [50, 62, 63, 64] _).tr s8 (fun _ q => q) (by simp)).tr s11 (fun _ q => q) (by simp)).tr s16 (fun _ q => q) (by simp)) f17 f18 f19 f20
          · refine g_iload_n 508 dX9_step_507 rfl rfl ?_
            refine g_goto 515 dX9_step_508 rfl ?_
            refine g_putC (fs1 := [.long (tr), .ref 51, .int (iZ mn), .ref 52, .ref 53, .int (iZ kt), .ref 54, .ref 55, .ref 56, .ref 57, .ref 58, .ref 59, .ref 60, .int (iZ bs), .int (iZ ee), .int (iZ pa), .int (iZ fu), .int (iZ st), .int (iZ so), .int (iZ va), .int (iZ ed), .ref 61, .ref 62, .ref 63, .ref 64, .int (iZ cm), .int (iZ a), .int (iZ x), .int (iZ v4), .int (iZ (dn + 1)), .int (iZ tk), .int (iZ ie), .ref 65, .ref 66, .ref 67, .int (iZ en), .ref 68, .ref 69, .ref 70]) 518 dX9_step_515 fpX9_181_X9 f12 (nle rfl) (vI _) rfl rfl (fun h21 s22 f23 => ?_)
            refine g_iconst (v := iZ (0)) 519 dX9_step_518 rfl rfl ?_
            refine g_iret rfl dX9_step_519 ?_
            have f24 := (s22.get (by decide) (s11.get (by decide) (s8.get (by decide) F3)))
            have f25 := (s22.get (by decide) (s11.get (by decide) (s8.get (by decide) F4)))
            have f26 := (s22.get (by decide) (s11.get (by decide) (s8.get (by decide) F5)))
            exact k _ (cm) (a) (x) (v4) (dn + 1) (tk) (ie) (mm) (ou) (ol) (0) (by omega) (by omega) (by omega) (by omega) (by omega) (by omega) (by omega) omm oou ool (by omega) (by omega) ((((Sm.refl [50, 62, 63, 64] _).tr s8 (fun _ q => q) (by simp)).tr s11 (fun _ q => q) (by simp)).tr s22 (fun _ q => q) (by simp)) f23 f24 f25 f26
        · have c27 : v1 = 0 ∨ v1 = 1 ∨ v1 = 2 ∨ v1 = 3 ∨ v1 = 4 ∨ v1 = 5 ∨ v1 = 6 ∨ v1 = 7 ∨ v1 = 8 ∨ v1 = 9 ∨ v1 = 10 ∨ v1 = 11 ∨ v1 = 12 ∨ v1 = 13 ∨ v1 = 14 := by omega
          rcases c27 with c27 | c27 | c27 | c27 | c27 | c27 | c27 | c27 | c27 | c27 | c27 | c27 | c27 | c27 | c27
          · refine g_tabZI (0) 160 dX9_step_87 (by omega) c27 (by decide) (by decide) rfl rfl ?_
            refine g_iconst (v := iZ (-1)) 161 dX9_step_160 rfl rfl ?_
            refine g_iret rfl dX9_step_161 ?_
            have f28 := (s11.get (by decide) (s8.get (by decide) F3))
            have f29 := (s11.get (by decide) (s8.get (by decide) F4))
            have f30 := (s11.get (by decide) (s8.get (by decide) F5))
            exact k _ (cm) (a) (x) ((p + 1) % 256) (dn + 1) (tk) (ie) (mm) (ou) (ol) (-1) (by omega) (by omega) (by omega) (by omega) (by omega) (by omega) (by omega) omm oou ool (by omega) (by omega) (((Sm.refl [50, 62, 63, 64] _).tr s8 (fun _ q => q) (by simp)).tr s11 (fun _ q => q) (by simp)) f12 f28 f29 f30
          · refine g_tabZI (1) 162 dX9_step_87 (by omega) c27 (by decide) (by decide) rfl rfl ?_
            refine g_aload_n 163 dX9_step_162 rfl rfl ?_
            refine g_get 166 dX9_step_163 faX9_190_X9 f12 rfl rfl ?_
            refine g_aload_n 167 dX9_step_166 rfl rfl ?_
            refine g_get 170 dX9_step_167 faX9_16_X9 f12 rfl rfl ?_
            refine g_iload_n 171 dX9_step_170 rfl rfl ?_
            have f31 := (s11.get (by decide) (s8.get (by decide) F2))
            refine g_ialdR 172 dX9_step_171 f31 olg (by omega) (by omega) (by decide) rfl (fun v32 rv32 => ?_)
            refine g_icZ_ge 179 175 dX9_step_172 rfl rfl (by omega) (by omega) (fun c33 => ?_) (fun c33 => ?_)
            · refine g_iconst (v := iZ (0)) 180 dX9_step_179 rfl rfl ?_
              refine g_istore (L1 := [some (.ref 50), some (.int (iZ i)), some (.int (iZ v1)), some (.int (iZ v4)), some (.int (iZ 0))]) 182 dX9_step_180 (by decide) rfl rfl rfl ?_
              refine g_aload_n 183 dX9_step_182 rfl rfl ?_
              refine g_iload 185 dX9_step_183 rfl rfl ?_
              refine g_ifZ_eq 210 188 dX9_step_185 rfl rfl (by decide) (fun _ => ?_) (fun q => absurd q (by decide))
              refine g_iconst (v := iZ (0)) 211 dX9_step_210 rfl rfl ?_
              refine g_putC (fs1 := [.long (tr), .ref 51, .int (iZ mn), .ref 52, .ref 53, .int (iZ kt), .ref 54, .ref 55, .ref 56, .ref 57, .ref 58, .ref 59, .ref 60, .int (iZ bs), .int (iZ ee), .int (iZ pa), .int (iZ fu), .int (iZ st), .int (iZ so), .int (iZ va), .int (iZ ed), .ref 61, .ref 62, .ref 63, .ref 64, .int (iZ cm), .int (iZ 0), .int (iZ x), .int (iZ ((p + 1) % 256)), .int (iZ (dn + 1)), .int (iZ tk), .int (iZ ie), .ref 65, .ref 66, .ref 67, .int (iZ en), .ref 68, .ref 69, .ref 70]) 214 dX9_step_211 fpX9_193_X9 f12 (nle rfl) (vI _) rfl rfl (fun h34 s35 f36 => ?_)
              refine g_aload_n 215 dX9_step_214 rfl rfl ?_
              refine g_dup 216 dX9_step_215 rfl rfl ?_
              refine g_get 219 dX9_step_216 faX9_190_X9 f36 rfl rfl ?_
              refine g_iload 221 dX9_step_219 rfl rfl ?_
              refine g_ifZ_eq 228 224 dX9_step_221 rfl rfl (by decide) (fun _ => ?_) (fun q => absurd q (by decide))
              refine g_iconst (v := iZ (0)) 229 dX9_step_228 rfl rfl ?_
              refine g_iaddZ (tk + 0) 230 dX9_step_229 (by omega) rfl ?_
              refine g_putC (fs1 := [.long (tr), .ref 51, .int (iZ mn), .ref 52, .ref 53, .int (iZ kt), .ref 54, .ref 55, .ref 56, .ref 57, .ref 58, .ref 59, .ref 60, .int (iZ bs), .int (iZ ee), .int (iZ pa), .int (iZ fu), .int (iZ st), .int (iZ so), .int (iZ va), .int (iZ ed), .ref 61, .ref 62, .ref 63, .ref 64, .int (iZ cm), .int (iZ 0), .int (iZ x), .int (iZ ((p + 1) % 256)), .int (iZ (dn + 1)), .int (iZ (tk + 0)), .int (iZ ie), .ref 65, .ref 66, .ref 67, .int (iZ en), .ref 68, .ref 69, .ref 70]) 233 dX9_step_230 fpX9_190_X9 f36 (nle rfl) (vI _) rfl rfl (fun h37 s38 f39 => ?_)
              refine g_aload_n 234 dX9_step_233 rfl rfl ?_
              refine g_iload 236 dX9_step_234 rfl rfl ?_
              refine g_ifZ_eq 246 239 dX9_step_236 rfl rfl (by decide) (fun _ => ?_) (fun q => absurd q (by decide))
              refine g_iconst (v := iZ (1)) 247 dX9_step_246 rfl rfl ?_
              refine g_putC (fs1 := [.long (tr), .ref 51, .int (iZ mn), .ref 52, .ref 53, .int (iZ kt), .ref 54, .ref 55, .ref 56, .ref 57, .ref 58, .ref 59, .ref 60, .int (iZ bs), .int (iZ ee), .int (iZ pa), .int (iZ fu), .int (iZ st), .int (iZ so), .int (iZ va), .int (iZ ed), .ref 61, .ref 62, .ref 63, .ref 64, .int (iZ cm), .int (iZ 0), .int (iZ x), .int (iZ ((p + 1) % 256)), .int (iZ (dn + 1)), .int (iZ (tk + 0)), .int (iZ 1), .ref 65, .ref 66, .ref 67, .int (iZ en), .ref 68, .ref 69, .ref 70]) 250 dX9_step_247 fpX9_196_X9 f39 (nle rfl) (vI _) rfl rfl (fun h40 s41 f42 => ?_)
              refine g_goto 518 dX9_step_250 rfl ?_
              refine g_iconst (v := iZ (0)) 519 dX9_step_518 rfl rfl ?_
              refine g_iret rfl dX9_step_519 ?_
              have f43 := (s41.get (by decide) (s38.get (by decide) (s35.get (by decide) (s11.get (by decide) (s8.get (by decide) F3)))))
              have f44 := (s41.get (by decide) (s38.get (by decide) (s35.get (by decide) (s11.get (by decide) (s8.get (by decide) F4)))))
              have f45 := (s41.get (by decide) (s38.get (by decide) (s35.get (by decide) (s11.get (by decide) (s8.get (by decide) F5)))))
              exact k _ (cm) (0) (x) ((p + 1) % 256) (dn + 1) (tk + 0) (1) (mm) (ou) (ol) (0) (by omega) (by omega) (by omega) (by omega) (by omega) (by omega) (by omega) omm oou ool (by omega) (by omega) ((((((Sm.refl [50, 62, 63, 64] _).tr s8 (fun _ q => q) (by simp)).tr s11 (fun _ q => q) (by simp)).tr s35 (fun _ q => q) (by simp)).tr s38 (fun _ q => q) (by simp)).tr s41 (fun _ q => q) (by simp)) f42 f43 f44 f45
            · refine g_iconst (v := iZ (1)) 176 dX9_step_175 rfl rfl ?_
              refine g_goto 180 dX9_step_176 rfl ?_
              refine g_istore (L1 := [some (.ref 50), some (.int (iZ i)), some (.int (iZ v1)), some (.int (iZ v4)), some (.int (iZ 1))]) 182 dX9_step_180 (by decide) rfl rfl rfl ?_
              refine g_aload_n 183 dX9_step_182 rfl rfl ?_
              refine g_iload 185 dX9_step_183 rfl rfl ?_
              refine g_ifZ_eq 210 188 dX9_step_185 rfl rfl (by decide) (fun q => absurd q (by decide)) (fun _ => ?_)
              refine g_aload_n 189 dX9_step_188 rfl rfl ?_
              refine g_get 192 dX9_step_189 faX9_13_X9 f12 rfl rfl ?_
              refine g_sipush (v := iZ (200)) 195 dX9_step_192 (by decide +kernel) rfl ?_
              refine g_iload_n 196 dX9_step_195 rfl rfl ?_
              refine g_imulZ (200 * i) 197 dX9_step_196 (by omega) rfl ?_
              refine g_aload_n 198 dX9_step_197 rfl rfl ?_
              refine g_get 201 dX9_step_198 faX9_190_X9 f12 rfl rfl ?_
              refine g_iaddZ ((200 * i) + tk) 202 dX9_step_201 (by omega) rfl ?_
              have f46 := (s11.get (by decide) (s8.get (by decide) F1))
              refine g_baldZ 203 dX9_step_202 f46 (by omega) (by omega) (by decide) rfl rfl ?_
              refine Go.genZ (fun z47 rz47 => ?_)
              refine g_sipush (v := iZ (255)) 206 dX9_step_203 (by decide +kernel) rfl ?_
              refine g_and255Z (z47 % 256) 207 dX9_step_206 rfl rfl ?_
              refine g_goto 211 dX9_step_207 rfl ?_
              refine g_putC (fs1 := [.long (tr), .ref 51, .int (iZ mn), .ref 52, .ref 53, .int (iZ kt), .ref 54, .ref 55, .ref 56, .ref 57, .ref 58, .ref 59, .ref 60, .int (iZ bs), .int (iZ ee), .int (iZ pa), .int (iZ fu), .int (iZ st), .int (iZ so), .int (iZ va), .int (iZ ed), .ref 61, .ref 62, .ref 63, .ref 64, .int (iZ cm), .int (iZ (z47 % 256)), .int (iZ x), .int (iZ ((p + 1) % 256)), .int (iZ (dn + 1)), .int (iZ tk), .int (iZ ie), .ref 65, .ref 66, .ref 67, .int (iZ en), .ref 68, .ref 69, .ref 70]) 214 dX9_step_211 fpX9_193_X9 f12 (nle rfl) (vI _) rfl rfl (fun h48 s49 f50 => ?_)
              refine g_aload_n 215 dX9_step_214 rfl rfl ?_
              refine g_dup 216 dX9_step_215 rfl rfl ?_
              refine g_get 219 dX9_step_216 faX9_190_X9 f50 rfl rfl ?_
              refine g_iload 221 dX9_step_219 rfl rfl ?_
              refine g_ifZ_eq 228 224 dX9_step_221 rfl rfl (by decide) (fun q => absurd q (by decide)) (fun _ => ?_)
              refine g_iconst (v := iZ (1)) 225 dX9_step_224 rfl rfl ?_
              refine g_goto 229 dX9_step_225 rfl ?_
              refine g_iaddZ (tk + 1) 230 dX9_step_229 (by omega) rfl ?_
              refine g_putC (fs1 := [.long (tr), .ref 51, .int (iZ mn), .ref 52, .ref 53, .int (iZ kt), .ref 54, .ref 55, .ref 56, .ref 57, .ref 58, .ref 59, .ref 60, .int (iZ bs), .int (iZ ee), .int (iZ pa), .int (iZ fu), .int (iZ st), .int (iZ so), .int (iZ va), .int (iZ ed), .ref 61, .ref 62, .ref 63, .ref 64, .int (iZ cm), .int (iZ (z47 % 256)), .int (iZ x), .int (iZ ((p + 1) % 256)), .int (iZ (dn + 1)), .int (iZ (tk + 1)), .int (iZ ie), .ref 65, .ref 66, .ref 67, .int (iZ en), .ref 68, .ref 69, .ref 70]) 233 dX9_step_230 fpX9_190_X9 f50 (nle rfl) (vI _) rfl rfl (fun h51 s52 f53 => ?_)
              refine g_aload_n 234 dX9_step_233 rfl rfl ?_
              refine g_iload 236 dX9_step_234 rfl rfl ?_
              refine g_ifZ_eq 246 239 dX9_step_236 rfl rfl (by decide) (fun q => absurd q (by decide)) (fun _ => ?_)
              refine g_aload_n 240 dX9_step_239 rfl rfl ?_
              refine g_get 243 dX9_step_240 faX9_196_X9 f53 rfl rfl ?_
              refine g_goto 247 dX9_step_243 rfl ?_
              refine g_putC (fs1 := [.long (tr), .ref 51, .int (iZ mn), .ref 52, .ref 53, .int (iZ kt), .ref 54, .ref 55, .ref 56, .ref 57, .ref 58, .ref 59, .ref 60, .int (iZ bs), .int (iZ ee), .int (iZ pa), .int (iZ fu), .int (iZ st), .int (iZ so), .int (iZ va), .int (iZ ed), .ref 61, .ref 62, .ref 63, .ref 64, .int (iZ cm), .int (iZ (z47 % 256)), .int (iZ x), .int (iZ ((p + 1) % 256)), .int (iZ (dn + 1)), .int (iZ (tk + 1)), .int (iZ ie), .ref 65, .ref 66, .ref 67, .int (iZ en), .ref 68, .ref 69, .ref 70]) 250 dX9_step_247 fpX9_196_X9 f53 (nle rfl) (vI _) rfl rfl (fun h54 s55 f56 => ?_)
              refine g_goto 518 dX9_step_250 rfl ?_
              refine g_iconst (v := iZ (0)) 519 dX9_step_518 rfl rfl ?_
              refine g_iret rfl dX9_step_519 ?_
              have f57 := (s55.get (by decide) (s52.get (by decide) (s49.get (by decide) (s11.get (by decide) (s8.get (by decide) F3)))))
              have f58 := (s55.get (by decide) (s52.get (by decide) (s49.get (by decide) (s11.get (by decide) (s8.get (by decide) F4)))))
              have f59 := (s55.get (by decide) (s52.get (by decide) (s49.get (by decide) (s11.get (by decide) (s8.get (by decide) F5)))))
              exact k _ (cm) (z47 % 256) (x) ((p + 1) % 256) (dn + 1) (tk + 1) (ie) (mm) (ou) (ol) (0) (by omega) (by omega) (by omega) (by omega) (by omega) (by omega) (by omega) omm oou ool (by omega) (by omega) ((((((Sm.refl [50, 62, 63, 64] _).tr s8 (fun _ q => q) (by simp)).tr s11 (fun _ q => q) (by simp)).tr s49 (fun _ q => q) (by simp)).tr s52 (fun _ q => q) (by simp)).tr s55 (fun _ q => q) (by simp)) f56 f57 f58 f59
          · refine g_tabZI (2) 253 dX9_step_87 (by omega) c27 (by decide) (by decide) rfl rfl ?_
            refine g_aload_n 254 dX9_step_253 rfl rfl ?_
            refine g_get 257 dX9_step_254 faX9_47_X9 f12 rfl rfl ?_
            refine g_aload_n 258 dX9_step_257 rfl rfl ?_
            refine g_get 261 dX9_step_258 faX9_184_X9 f12 rfl rfl ?_
            refine g_aload_n 262 dX9_step_261 rfl rfl ?_
            refine g_get 265 dX9_step_262 faX9_193_X9 f12 rfl rfl ?_
            have f60 := (s11.get (by decide) (s8.get (by decide) F4))
            refine g_iastR 266 dX9_step_265 f60 oou (by omega) (by omega) (by omega) (by decide) rfl (fun h62 g61 og61 s63 f64 => ?_)
            refine g_aload_n 267 dX9_step_266 rfl rfl ?_
            have f65 := (s63.get (by decide) f12)
            refine g_get 270 dX9_step_267 faX9_50_X9 f65 rfl rfl ?_
            refine g_aload_n 271 dX9_step_270 rfl rfl ?_
            refine g_get 274 dX9_step_271 faX9_184_X9 f65 rfl rfl ?_
            refine g_aload_n 275 dX9_step_274 rfl rfl ?_
            refine g_get 278 dX9_step_275 faX9_190_X9 f65 rfl rfl ?_
            refine g_ifZ_ne 285 281 dX9_step_278 rfl rfl (by omega) (fun c66 => ?_) (fun c66 => ?_)
            · refine g_aload_n 286 dX9_step_285 rfl rfl ?_
              refine g_get 289 dX9_step_286 faX9_190_X9 f65 rfl rfl ?_
              refine g_iconst (v := iZ (1)) 290 dX9_step_289 rfl rfl ?_
              refine g_isubZ (tk - 1) 291 dX9_step_290 (by omega) rfl ?_
              have f67 := (s63.get (by decide) (s11.get (by decide) (s8.get (by decide) F5)))
              refine g_iastR 292 dX9_step_291 f67 ool (by omega) (by omega) (by omega) (by decide) rfl (fun h69 g68 og68 s70 f71 => ?_)
              refine g_aload_n 293 dX9_step_292 rfl rfl ?_
              refine g_dup 294 dX9_step_293 rfl rfl ?_
              have f72 := (s70.get (by decide) f65)
              refine g_get 297 dX9_step_294 faX9_184_X9 f72 rfl rfl ?_
              refine g_iconst (v := iZ (1)) 298 dX9_step_297 rfl rfl ?_
              refine g_iaddZ (cm + 1) 299 dX9_step_298 (by omega) rfl ?_
              refine g_putC (fs1 := [.long (tr), .ref 51, .int (iZ mn), .ref 52, .ref 53, .int (iZ kt), .ref 54, .ref 55, .ref 56, .ref 57, .ref 58, .ref 59, .ref 60, .int (iZ bs), .int (iZ ee), .int (iZ pa), .int (iZ fu), .int (iZ st), .int (iZ so), .int (iZ va), .int (iZ ed), .ref 61, .ref 62, .ref 63, .ref 64, .int (iZ (cm + 1)), .int (iZ a), .int (iZ x), .int (iZ ((p + 1) % 256)), .int (iZ (dn + 1)), .int (iZ tk), .int (iZ ie), .ref 65, .ref 66, .ref 67, .int (iZ en), .ref 68, .ref 69, .ref 70]) 302 dX9_step_299 fpX9_184_X9 f72 (nle rfl) (vI _) rfl rfl (fun h73 s74 f75 => ?_)
              refine g_goto 518 dX9_step_302 rfl ?_
              refine g_iconst (v := iZ (0)) 519 dX9_step_518 rfl rfl ?_
              refine g_iret rfl dX9_step_519 ?_
              have f76 := (s74.get (by decide) (s70.get (by decide) (s63.get (by decide) (s11.get (by decide) (s8.get (by decide) F3)))))
              have f77 := (s74.get (by decide) (s70.get (by decide) f64))
              have f78 := (s74.get (by decide) f71)
              exact k _ (cm + 1) (a) (x) ((p + 1) % 256) (dn + 1) (tk) (ie) (mm) (g61) (g68) (0) (by omega) (by omega) (by omega) (by omega) (by omega) (by omega) (by omega) omm og61 og68 (by omega) (by omega) ((((((Sm.refl [50, 62, 63, 64] _).tr s8 (fun _ q => q) (by simp)).tr s11 (fun _ q => q) (by simp)).tr s63 (fun _ q => q) (by simp)).tr s70 (fun _ q => q) (by simp)).tr s74 (fun _ q => q) (by simp)) f75 f76 f77 f78
            · refine g_iconst (v := iZ (0)) 282 dX9_step_281 rfl rfl ?_
              refine g_goto 291 dX9_step_282 rfl ?_
              have f79 := (s63.get (by decide) (s11.get (by decide) (s8.get (by decide) F5)))
              refine g_iastR 292 dX9_step_291 f79 ool (by omega) (by omega) (by omega) (by decide) rfl (fun h81 g80 og80 s82 f83 => ?_)
              refine g_aload_n 293 dX9_step_292 rfl rfl ?_
              refine g_dup 294 dX9_step_293 rfl rfl ?_
              have f84 := (s82.get (by decide) f65)
              refine g_get 297 dX9_step_294 faX9_184_X9 f84 rfl rfl ?_
              refine g_iconst (v := iZ (1)) 298 dX9_step_297 rfl rfl ?_
              refine g_iaddZ (cm + 1) 299 dX9_step_298 (by omega) rfl ?_
              refine g_putC (fs1 := [.long (tr), .ref 51, .int (iZ mn), .ref 52, .ref 53, .int (iZ kt), .ref 54, .ref 55, .ref 56, .ref 57, .ref 58, .ref 59, .ref 60, .int (iZ bs), .int (iZ ee), .int (iZ pa), .int (iZ fu), .int (iZ st), .int (iZ so), .int (iZ va), .int (iZ ed), .ref 61, .ref 62, .ref 63, .ref 64, .int (iZ (cm + 1)), .int (iZ a), .int (iZ x), .int (iZ ((p + 1) % 256)), .int (iZ (dn + 1)), .int (iZ tk), .int (iZ ie), .ref 65, .ref 66, .ref 67, .int (iZ en), .ref 68, .ref 69, .ref 70]) 302 dX9_step_299 fpX9_184_X9 f84 (nle rfl) (vI _) rfl rfl (fun h85 s86 f87 => ?_)
              refine g_goto 518 dX9_step_302 rfl ?_
              refine g_iconst (v := iZ (0)) 519 dX9_step_518 rfl rfl ?_
              refine g_iret rfl dX9_step_519 ?_
              have f88 := (s86.get (by decide) (s82.get (by decide) (s63.get (by decide) (s11.get (by decide) (s8.get (by decide) F3)))))
              have f89 := (s86.get (by decide) (s82.get (by decide) f64))
              have f90 := (s86.get (by decide) f83)
              exact k _ (cm + 1) (a) (x) ((p + 1) % 256) (dn + 1) (tk) (ie) (mm) (g61) (g80) (0) (by omega) (by omega) (by omega) (by omega) (by omega) (by omega) (by omega) omm og61 og80 (by omega) (by omega) ((((((Sm.refl [50, 62, 63, 64] _).tr s8 (fun _ q => q) (by simp)).tr s11 (fun _ q => q) (by simp)).tr s63 (fun _ q => q) (by simp)).tr s82 (fun _ q => q) (by simp)).tr s86 (fun _ q => q) (by simp)) f87 f88 f89 f90
          · refine g_tabZI (3) 305 dX9_step_87 (by omega) c27 (by decide) (by decide) rfl rfl ?_
            refine g_aload_n 306 dX9_step_305 rfl rfl ?_
            refine g_iload_n 307 dX9_step_306 rfl rfl ?_
            refine g_putC (fs1 := [.long (tr), .ref 51, .int (iZ mn), .ref 52, .ref 53, .int (iZ kt), .ref 54, .ref 55, .ref 56, .ref 57, .ref 58, .ref 59, .ref 60, .int (iZ bs), .int (iZ ee), .int (iZ pa), .int (iZ fu), .int (iZ st), .int (iZ so), .int (iZ va), .int (iZ ed), .ref 61, .ref 62, .ref 63, .ref 64, .int (iZ cm), .int (iZ v4), .int (iZ x), .int (iZ ((p + 1) % 256)), .int (iZ (dn + 1)), .int (iZ tk), .int (iZ ie), .ref 65, .ref 66, .ref 67, .int (iZ en), .ref 68, .ref 69, .ref 70]) 310 dX9_step_307 fpX9_193_X9 f12 (nle rfl) (vI _) rfl rfl (fun h91 s92 f93 => ?_)
            refine g_goto 518 dX9_step_310 rfl ?_
            refine g_iconst (v := iZ (0)) 519 dX9_step_518 rfl rfl ?_
            refine g_iret rfl dX9_step_519 ?_
            have f94 := (s92.get (by decide) (s11.get (by decide) (s8.get (by decide) F3)))
            have f95 := (s92.get (by decide) (s11.get (by decide) (s8.get (by decide) F4)))
            have f96 := (s92.get (by decide) (s11.get (by decide) (s8.get (by decide) F5)))
            exact k _ (cm) (v4) (x) ((p + 1) % 256) (dn + 1) (tk) (ie) (mm) (ou) (ol) (0) (by omega) (by omega) (by omega) (by omega) (by omega) (by omega) (by omega) omm oou ool (by omega) (by omega) ((((Sm.refl [50, 62, 63, 64] _).tr s8 (fun _ q => q) (by simp)).tr s11 (fun _ q => q) (by simp)).tr s92 (fun _ q => q) (by simp)) f93 f94 f95 f96
          · refine g_tabZI (4) 313 dX9_step_87 (by omega) c27 (by decide) (by decide) rfl rfl ?_
            refine g_aload_n 314 dX9_step_313 rfl rfl ?_
            refine g_aload_n 315 dX9_step_314 rfl rfl ?_
            refine g_get 318 dX9_step_315 faX9_44_X9 f12 rfl rfl ?_
            refine g_iload_n 319 dX9_step_318 rfl rfl ?_
            have f97 := (s11.get (by decide) (s8.get (by decide) F3))
            refine g_ialdR 320 dX9_step_319 f97 omm (by omega) (by omega) (by decide) rfl (fun v98 rv98 => ?_)
            refine g_putC (fs1 := [.long (tr), .ref 51, .int (iZ mn), .ref 52, .ref 53, .int (iZ kt), .ref 54, .ref 55, .ref 56, .ref 57, .ref 58, .ref 59, .ref 60, .int (iZ bs), .int (iZ ee), .int (iZ pa), .int (iZ fu), .int (iZ st), .int (iZ so), .int (iZ va), .int (iZ ed), .ref 61, .ref 62, .ref 63, .ref 64, .int (iZ cm), .int (iZ v98), .int (iZ x), .int (iZ ((p + 1) % 256)), .int (iZ (dn + 1)), .int (iZ tk), .int (iZ ie), .ref 65, .ref 66, .ref 67, .int (iZ en), .ref 68, .ref 69, .ref 70]) 323 dX9_step_320 fpX9_193_X9 f12 (nle rfl) (vI _) rfl rfl (fun h99 s100 f101 => ?_)
            refine g_goto 518 dX9_step_323 rfl ?_
            refine g_iconst (v := iZ (0)) 519 dX9_step_518 rfl rfl ?_
            refine g_iret rfl dX9_step_519 ?_
            have f102 := (s100.get (by decide) f97)
            have f103 := (s100.get (by decide) (s11.get (by decide) (s8.get (by decide) F4)))
            have f104 := (s100.get (by decide) (s11.get (by decide) (s8.get (by decide) F5)))
            exact k _ (cm) (v98) (x) ((p + 1) % 256) (dn + 1) (tk) (ie) (mm) (ou) (ol) (0) (by omega) (by omega) (by omega) (by omega) (by omega) (by omega) (by omega) omm oou ool (by omega) (by omega) ((((Sm.refl [50, 62, 63, 64] _).tr s8 (fun _ q => q) (by simp)).tr s11 (fun _ q => q) (by simp)).tr s100 (fun _ q => q) (by simp)) f101 f102 f103 f104
          · refine g_tabZI (5) 326 dX9_step_87 (by omega) c27 (by decide) (by decide) rfl rfl ?_
            refine g_aload_n 327 dX9_step_326 rfl rfl ?_
            refine g_get 330 dX9_step_327 faX9_44_X9 f12 rfl rfl ?_
            refine g_iload_n 331 dX9_step_330 rfl rfl ?_
            refine g_aload_n 332 dX9_step_331 rfl rfl ?_
            refine g_get 335 dX9_step_332 faX9_193_X9 f12 rfl rfl ?_
            have f105 := (s11.get (by decide) (s8.get (by decide) F3))
            refine g_iastR 336 dX9_step_335 f105 omm (by omega) (by omega) (by omega) (by decide) rfl (fun h107 g106 og106 s108 f109 => ?_)
            refine g_goto 518 dX9_step_336 rfl ?_
            refine g_iconst (v := iZ (0)) 519 dX9_step_518 rfl rfl ?_
            refine g_iret rfl dX9_step_519 ?_
            have f110 := (s108.get (by decide) f12)
            have f111 := (s108.get (by decide) (s11.get (by decide) (s8.get (by decide) F4)))
            have f112 := (s108.get (by decide) (s11.get (by decide) (s8.get (by decide) F5)))
            exact k _ (cm) (a) (x) ((p + 1) % 256) (dn + 1) (tk) (ie) (g106) (ou) (ol) (0) (by omega) (by omega) (by omega) (by omega) (by omega) (by omega) (by omega) og106 oou ool (by omega) (by omega) ((((Sm.refl [50, 62, 63, 64] _).tr s8 (fun _ q => q) (by simp)).tr s11 (fun _ q => q) (by simp)).tr s108 (fun _ q => q) (by simp)) f110 f109 f111 f112
          · refine g_tabZI (6) 339 dX9_step_87 (by omega) c27 (by decide) (by decide) rfl rfl ?_
            refine g_aload_n 340 dX9_step_339 rfl rfl ?_
            refine g_aload_n 341 dX9_step_340 rfl rfl ?_
            refine g_get 344 dX9_step_341 faX9_193_X9 f12 rfl rfl ?_
            refine g_aload_n 345 dX9_step_344 rfl rfl ?_
            refine g_get 348 dX9_step_345 faX9_44_X9 f12 rfl rfl ?_
            refine g_iload_n 349 dX9_step_348 rfl rfl ?_
            have f113 := (s11.get (by decide) (s8.get (by decide) F3))
            refine g_ialdR 350 dX9_step_349 f113 omm (by omega) (by omega) (by decide) rfl (fun v114 rv114 => ?_)
            refine g_iaddZ (a + v114) 351 dX9_step_350 (by omega) rfl ?_
            refine g_sipush (v := iZ (255)) 354 dX9_step_351 (by decide +kernel) rfl ?_
            refine g_and255Z ((a + v114) % 256) 355 dX9_step_354 rfl rfl ?_
            refine g_putC (fs1 := [.long (tr), .ref 51, .int (iZ mn), .ref 52, .ref 53, .int (iZ kt), .ref 54, .ref 55, .ref 56, .ref 57, .ref 58, .ref 59, .ref 60, .int (iZ bs), .int (iZ ee), .int (iZ pa), .int (iZ fu), .int (iZ st), .int (iZ so), .int (iZ va), .int (iZ ed), .ref 61, .ref 62, .ref 63, .ref 64, .int (iZ cm), .int (iZ ((a + v114) % 256)), .int (iZ x), .int (iZ ((p + 1) % 256)), .int (iZ (dn + 1)), .int (iZ tk), .int (iZ ie), .ref 65, .ref 66, .ref 67, .int (iZ en), .ref 68, .ref 69, .ref 70]) 358 dX9_step_355 fpX9_193_X9 f12 (nle rfl) (vI _) rfl rfl (fun h115 s116 f117 => ?_)
            refine g_goto 518 dX9_step_358 rfl ?_
            refine g_iconst (v := iZ (0)) 519 dX9_step_518 rfl rfl ?_
            refine g_iret rfl dX9_step_519 ?_
            have f118 := (s116.get (by decide) f113)
            have f119 := (s116.get (by decide) (s11.get (by decide) (s8.get (by decide) F4)))
            have f120 := (s116.get (by decide) (s11.get (by decide) (s8.get (by decide) F5)))
            exact k _ (cm) ((a + v114) % 256) (x) ((p + 1) % 256) (dn + 1) (tk) (ie) (mm) (ou) (ol) (0) (by omega) (by omega) (by omega) (by omega) (by omega) (by omega) (by omega) omm oou ool (by omega) (by omega) ((((Sm.refl [50, 62, 63, 64] _).tr s8 (fun _ q => q) (by simp)).tr s11 (fun _ q => q) (by simp)).tr s116 (fun _ q => q) (by simp)) f117 f118 f119 f120
          · refine g_tabZI (7) 361 dX9_step_87 (by omega) c27 (by decide) (by decide) rfl rfl ?_
            refine g_aload_n 362 dX9_step_361 rfl rfl ?_
            refine g_aload_n 363 dX9_step_362 rfl rfl ?_
            refine g_get 366 dX9_step_363 faX9_193_X9 f12 rfl rfl ?_
            refine g_aload_n 367 dX9_step_366 rfl rfl ?_
            refine g_get 370 dX9_step_367 faX9_44_X9 f12 rfl rfl ?_
            refine g_iload_n 371 dX9_step_370 rfl rfl ?_
            have f121 := (s11.get (by decide) (s8.get (by decide) F3))
            refine g_ialdR 372 dX9_step_371 f121 omm (by omega) (by omega) (by decide) rfl (fun v122 rv122 => ?_)
            refine g_isubZ (a - v122) 373 dX9_step_372 (by omega) rfl ?_
            refine g_sipush (v := iZ (255)) 376 dX9_step_373 (by decide +kernel) rfl ?_
            refine g_and255Z ((a - v122) % 256) 377 dX9_step_376 rfl rfl ?_
            refine g_putC (fs1 := [.long (tr), .ref 51, .int (iZ mn), .ref 52, .ref 53, .int (iZ kt), .ref 54, .ref 55, .ref 56, .ref 57, .ref 58, .ref 59, .ref 60, .int (iZ bs), .int (iZ ee), .int (iZ pa), .int (iZ fu), .int (iZ st), .int (iZ so), .int (iZ va), .int (iZ ed), .ref 61, .ref 62, .ref 63, .ref 64, .int (iZ cm), .int (iZ ((a - v122) % 256)), .int (iZ x), .int (iZ ((p + 1) % 256)), .int (iZ (dn + 1)), .int (iZ tk), .int (iZ ie), .ref 65, .ref 66, .ref 67, .int (iZ en), .ref 68, .ref 69, .ref 70]) 380 dX9_step_377 fpX9_193_X9 f12 (nle rfl) (vI _) rfl rfl (fun h123 s124 f125 => ?_)
            refine g_goto 518 dX9_step_380 rfl ?_
            refine g_iconst (v := iZ (0)) 519 dX9_step_518 rfl rfl ?_
            refine g_iret rfl dX9_step_519 ?_
            have f126 := (s124.get (by decide) f121)
            have f127 := (s124.get (by decide) (s11.get (by decide) (s8.get (by decide) F4)))
            have f128 := (s124.get (by decide) (s11.get (by decide) (s8.get (by decide) F5)))
            exact k _ (cm) ((a - v122) % 256) (x) ((p + 1) % 256) (dn + 1) (tk) (ie) (mm) (ou) (ol) (0) (by omega) (by omega) (by omega) (by omega) (by omega) (by omega) (by omega) omm oou ool (by omega) (by omega) ((((Sm.refl [50, 62, 63, 64] _).tr s8 (fun _ q => q) (by simp)).tr s11 (fun _ q => q) (by simp)).tr s124 (fun _ q => q) (by simp)) f125 f126 f127 f128
          · refine g_tabZI (8) 383 dX9_step_87 (by omega) c27 (by decide) (by decide) rfl rfl ?_
            refine g_aload_n 384 dX9_step_383 rfl rfl ?_
            refine g_aload_n 385 dX9_step_384 rfl rfl ?_
            refine g_get 388 dX9_step_385 faX9_44_X9 f12 rfl rfl ?_
            refine g_aload_n 389 dX9_step_388 rfl rfl ?_
            refine g_get 392 dX9_step_389 faX9_199_X9 f12 rfl rfl ?_
            have f129 := (s11.get (by decide) (s8.get (by decide) F3))
            refine g_ialdR 393 dX9_step_392 f129 omm (by omega) (by omega) (by decide) rfl (fun v130 rv130 => ?_)
            refine g_putC (fs1 := [.long (tr), .ref 51, .int (iZ mn), .ref 52, .ref 53, .int (iZ kt), .ref 54, .ref 55, .ref 56, .ref 57, .ref 58, .ref 59, .ref 60, .int (iZ bs), .int (iZ ee), .int (iZ pa), .int (iZ fu), .int (iZ st), .int (iZ so), .int (iZ va), .int (iZ ed), .ref 61, .ref 62, .ref 63, .ref 64, .int (iZ cm), .int (iZ v130), .int (iZ x), .int (iZ ((p + 1) % 256)), .int (iZ (dn + 1)), .int (iZ tk), .int (iZ ie), .ref 65, .ref 66, .ref 67, .int (iZ en), .ref 68, .ref 69, .ref 70]) 396 dX9_step_393 fpX9_193_X9 f12 (nle rfl) (vI _) rfl rfl (fun h131 s132 f133 => ?_)
            refine g_goto 518 dX9_step_396 rfl ?_
            refine g_iconst (v := iZ (0)) 519 dX9_step_518 rfl rfl ?_
            refine g_iret rfl dX9_step_519 ?_
            have f134 := (s132.get (by decide) f129)
            have f135 := (s132.get (by decide) (s11.get (by decide) (s8.get (by decide) F4)))
            have f136 := (s132.get (by decide) (s11.get (by decide) (s8.get (by decide) F5)))
            exact k _ (cm) (v130) (x) ((p + 1) % 256) (dn + 1) (tk) (ie) (mm) (ou) (ol) (0) (by omega) (by omega) (by omega) (by omega) (by omega) (by omega) (by omega) omm oou ool (by omega) (by omega) ((((Sm.refl [50, 62, 63, 64] _).tr s8 (fun _ q => q) (by simp)).tr s11 (fun _ q => q) (by simp)).tr s132 (fun _ q => q) (by simp)) f133 f134 f135 f136
          · refine g_tabZI (9) 399 dX9_step_87 (by omega) c27 (by decide) (by decide) rfl rfl ?_
            refine g_aload_n 400 dX9_step_399 rfl rfl ?_
            refine g_get 403 dX9_step_400 faX9_44_X9 f12 rfl rfl ?_
            refine g_aload_n 404 dX9_step_403 rfl rfl ?_
            refine g_get 407 dX9_step_404 faX9_199_X9 f12 rfl rfl ?_
            refine g_aload_n 408 dX9_step_407 rfl rfl ?_
            refine g_get 411 dX9_step_408 faX9_193_X9 f12 rfl rfl ?_
            have f137 := (s11.get (by decide) (s8.get (by decide) F3))
            refine g_iastR 412 dX9_step_411 f137 omm (by omega) (by omega) (by omega) (by decide) rfl (fun h139 g138 og138 s140 f141 => ?_)
            refine g_goto 518 dX9_step_412 rfl ?_
            refine g_iconst (v := iZ (0)) 519 dX9_step_518 rfl rfl ?_
            refine g_iret rfl dX9_step_519 ?_
            have f142 := (s140.get (by decide) f12)
            have f143 := (s140.get (by decide) (s11.get (by decide) (s8.get (by decide) F4)))
            have f144 := (s140.get (by decide) (s11.get (by decide) (s8.get (by decide) F5)))
            exact k _ (cm) (a) (x) ((p + 1) % 256) (dn + 1) (tk) (ie) (g138) (ou) (ol) (0) (by omega) (by omega) (by omega) (by omega) (by omega) (by omega) (by omega) og138 oou ool (by omega) (by omega) ((((Sm.refl [50, 62, 63, 64] _).tr s8 (fun _ q => q) (by simp)).tr s11 (fun _ q => q) (by simp)).tr s140 (fun _ q => q) (by simp)) f142 f141 f143 f144
          · refine g_tabZI (10) 415 dX9_step_87 (by omega) c27 (by decide) (by decide) rfl rfl ?_
            refine g_aload_n 416 dX9_step_415 rfl rfl ?_
            refine g_aload_n 417 dX9_step_416 rfl rfl ?_
            refine g_get 420 dX9_step_417 faX9_193_X9 f12 rfl rfl ?_
            refine g_putC (fs1 := [.long (tr), .ref 51, .int (iZ mn), .ref 52, .ref 53, .int (iZ kt), .ref 54, .ref 55, .ref 56, .ref 57, .ref 58, .ref 59, .ref 60, .int (iZ bs), .int (iZ ee), .int (iZ pa), .int (iZ fu), .int (iZ st), .int (iZ so), .int (iZ va), .int (iZ ed), .ref 61, .ref 62, .ref 63, .ref 64, .int (iZ cm), .int (iZ a), .int (iZ a), .int (iZ ((p + 1) % 256)), .int (iZ (dn + 1)), .int (iZ tk), .int (iZ ie), .ref 65, .ref 66, .ref 67, .int (iZ en), .ref 68, .ref 69, .ref 70]) 423 dX9_step_420 fpX9_199_X9 f12 (nle rfl) (vI _) rfl rfl (fun h145 s146 f147 => ?_)
            refine g_goto 518 dX9_step_423 rfl ?_
            refine g_iconst (v := iZ (0)) 519 dX9_step_518 rfl rfl ?_
            refine g_iret rfl dX9_step_519 ?_
            have f148 := (s146.get (by decide) (s11.get (by decide) (s8.get (by decide) F3)))
            have f149 := (s146.get (by decide) (s11.get (by decide) (s8.get (by decide) F4)))
            have f150 := (s146.get (by decide) (s11.get (by decide) (s8.get (by decide) F5)))
            exact k _ (cm) (a) (a) ((p + 1) % 256) (dn + 1) (tk) (ie) (mm) (ou) (ol) (0) (by omega) (by omega) (by omega) (by omega) (by omega) (by omega) (by omega) omm oou ool (by omega) (by omega) ((((Sm.refl [50, 62, 63, 64] _).tr s8 (fun _ q => q) (by simp)).tr s11 (fun _ q => q) (by simp)).tr s146 (fun _ q => q) (by simp)) f147 f148 f149 f150
          · refine g_tabZI (11) 426 dX9_step_87 (by omega) c27 (by decide) (by decide) rfl rfl ?_
            refine g_aload_n 427 dX9_step_426 rfl rfl ?_
            refine g_iload_n 428 dX9_step_427 rfl rfl ?_
            refine g_putC (fs1 := [.long (tr), .ref 51, .int (iZ mn), .ref 52, .ref 53, .int (iZ kt), .ref 54, .ref 55, .ref 56, .ref 57, .ref 58, .ref 59, .ref 60, .int (iZ bs), .int (iZ ee), .int (iZ pa), .int (iZ fu), .int (iZ st), .int (iZ so), .int (iZ va), .int (iZ ed), .ref 61, .ref 62, .ref 63, .ref 64, .int (iZ cm), .int (iZ a), .int (iZ x), .int (iZ v4), .int (iZ (dn + 1)), .int (iZ tk), .int (iZ ie), .ref 65, .ref 66, .ref 67, .int (iZ en), .ref 68, .ref 69, .ref 70]) 431 dX9_step_428 fpX9_181_X9 f12 (nle rfl) (vI _) rfl rfl (fun h151 s152 f153 => ?_)
            refine g_goto 518 dX9_step_431 rfl ?_
            refine g_iconst (v := iZ (0)) 519 dX9_step_518 rfl rfl ?_
            refine g_iret rfl dX9_step_519 ?_
            have f154 := (s152.get (by decide) (s11.get (by decide) (s8.get (by decide) F3)))
            have f155 := (s152.get (by decide) (s11.get (by decide) (s8.get (by decide) F4)))
            have f156 := (s152.get (by decide) (s11.get (by decide) (s8.get (by decide) F5)))
            exact k _ (cm) (a) (x) (v4) (dn + 1) (tk) (ie) (mm) (ou) (ol) (0) (by omega) (by omega) (by omega) (by omega) (by omega) (by omega) (by omega) omm oou ool (by omega) (by omega) ((((Sm.refl [50, 62, 63, 64] _).tr s8 (fun _ q => q) (by simp)).tr s11 (fun _ q => q) (by simp)).tr s152 (fun _ q => q) (by simp)) f153 f154 f155 f156
          · refine g_tabZI (12) 434 dX9_step_87 (by omega) c27 (by decide) (by decide) rfl rfl ?_
            refine g_aload_n 435 dX9_step_434 rfl rfl ?_
            refine g_aload_n 436 dX9_step_435 rfl rfl ?_
            refine g_get 439 dX9_step_436 faX9_193_X9 f12 rfl rfl ?_
            refine g_ifZ_ne 446 442 dX9_step_439 rfl rfl (by omega) (fun c157 => ?_) (fun c157 => ?_)
            · refine g_aload_n 447 dX9_step_446 rfl rfl ?_
              refine g_get 450 dX9_step_447 faX9_181_X9 f12 rfl rfl ?_
              refine g_putC (fs1 := [.long (tr), .ref 51, .int (iZ mn), .ref 52, .ref 53, .int (iZ kt), .ref 54, .ref 55, .ref 56, .ref 57, .ref 58, .ref 59, .ref 60, .int (iZ bs), .int (iZ ee), .int (iZ pa), .int (iZ fu), .int (iZ st), .int (iZ so), .int (iZ va), .int (iZ ed), .ref 61, .ref 62, .ref 63, .ref 64, .int (iZ cm), .int (iZ a), .int (iZ x), .int (iZ ((p + 1) % 256)), .int (iZ (dn + 1)), .int (iZ tk), .int (iZ ie), .ref 65, .ref 66, .ref 67, .int (iZ en), .ref 68, .ref 69, .ref 70]) 453 dX9_step_450 fpX9_181_X9 f12 (nle rfl) (vI _) rfl rfl (fun h158 s159 f160 => ?_)
              refine g_goto 518 dX9_step_453 rfl ?_
              refine g_iconst (v := iZ (0)) 519 dX9_step_518 rfl rfl ?_
              refine g_iret rfl dX9_step_519 ?_
              have f161 := (s159.get (by decide) (s11.get (by decide) (s8.get (by decide) F3)))
              have f162 := (s159.get (by decide) (s11.get (by decide) (s8.get (by decide) F4)))
              have f163 := (s159.get (by decide) (s11.get (by decide) (s8.get (by decide) F5)))
              exact k _ (cm) (a) (x) ((p + 1) % 256) (dn + 1) (tk) (ie) (mm) (ou) (ol) (0) (by omega) (by omega) (by omega) (by omega) (by omega) (by omega) (by omega) omm oou ool (by omega) (by omega) ((((Sm.refl [50, 62, 63, 64] _).tr s8 (fun _ q => q) (by simp)).tr s11 (fun _ q => q) (by simp)).tr s159 (fun _ q => q) (by simp)) f160 f161 f162 f163
            · refine g_iload_n 443 dX9_step_442 rfl rfl ?_
              refine g_goto 450 dX9_step_443 rfl ?_
              refine g_putC (fs1 := [.long (tr), .ref 51, .int (iZ mn), .ref 52, .ref 53, .int (iZ kt), .ref 54, .ref 55, .ref 56, .ref 57, .ref 58, .ref 59, .ref 60, .int (iZ bs), .int (iZ ee), .int (iZ pa), .int (iZ fu), .int (iZ st), .int (iZ so), .int (iZ va), .int (iZ ed), .ref 61, .ref 62, .ref 63, .ref 64, .int (iZ cm), .int (iZ a), .int (iZ x), .int (iZ v4), .int (iZ (dn + 1)), .int (iZ tk), .int (iZ ie), .ref 65, .ref 66, .ref 67, .int (iZ en), .ref 68, .ref 69, .ref 70]) 453 dX9_step_450 fpX9_181_X9 f12 (nle rfl) (vI _) rfl rfl (fun h164 s165 f166 => ?_)
              refine g_goto 518 dX9_step_453 rfl ?_
              refine g_iconst (v := iZ (0)) 519 dX9_step_518 rfl rfl ?_
              refine g_iret rfl dX9_step_519 ?_
              have f167 := (s165.get (by decide) (s11.get (by decide) (s8.get (by decide) F3)))
              have f168 := (s165.get (by decide) (s11.get (by decide) (s8.get (by decide) F4)))
              have f169 := (s165.get (by decide) (s11.get (by decide) (s8.get (by decide) F5)))
              exact k _ (cm) (a) (x) (v4) (dn + 1) (tk) (ie) (mm) (ou) (ol) (0) (by omega) (by omega) (by omega) (by omega) (by omega) (by omega) (by omega) omm oou ool (by omega) (by omega) ((((Sm.refl [50, 62, 63, 64] _).tr s8 (fun _ q => q) (by simp)).tr s11 (fun _ q => q) (by simp)).tr s165 (fun _ q => q) (by simp)) f166 f167 f168 f169
          · refine g_tabZI (13) 456 dX9_step_87 (by omega) c27 (by decide) (by decide) rfl rfl ?_
            refine g_aload_n 457 dX9_step_456 rfl rfl ?_
            refine g_aload_n 458 dX9_step_457 rfl rfl ?_
            refine g_get 461 dX9_step_458 faX9_196_X9 f12 rfl rfl ?_
            refine g_iconst (v := iZ (1)) 462 dX9_step_461 rfl rfl ?_
            refine g_icZ_ne 469 465 dX9_step_462 rfl rfl (by omega) (by decide) (fun c170 => ?_) (fun c170 => ?_)
            · refine g_aload_n 470 dX9_step_469 rfl rfl ?_
              refine g_get 473 dX9_step_470 faX9_181_X9 f12 rfl rfl ?_
              refine g_putC (fs1 := [.long (tr), .ref 51, .int (iZ mn), .ref 52, .ref 53, .int (iZ kt), .ref 54, .ref 55, .ref 56, .ref 57, .ref 58, .ref 59, .ref 60, .int (iZ bs), .int (iZ ee), .int (iZ pa), .int (iZ fu), .int (iZ st), .int (iZ so), .int (iZ va), .int (iZ ed), .ref 61, .ref 62, .ref 63, .ref 64, .int (iZ cm), .int (iZ a), .int (iZ x), .int (iZ ((p + 1) % 256)), .int (iZ (dn + 1)), .int (iZ tk), .int (iZ ie), .ref 65, .ref 66, .ref 67, .int (iZ en), .ref 68, .ref 69, .ref 70]) 476 dX9_step_473 fpX9_181_X9 f12 (nle rfl) (vI _) rfl rfl (fun h171 s172 f173 => ?_)
              refine g_goto 518 dX9_step_476 rfl ?_
              refine g_iconst (v := iZ (0)) 519 dX9_step_518 rfl rfl ?_
              refine g_iret rfl dX9_step_519 ?_
              have f174 := (s172.get (by decide) (s11.get (by decide) (s8.get (by decide) F3)))
              have f175 := (s172.get (by decide) (s11.get (by decide) (s8.get (by decide) F4)))
              have f176 := (s172.get (by decide) (s11.get (by decide) (s8.get (by decide) F5)))
              exact k _ (cm) (a) (x) ((p + 1) % 256) (dn + 1) (tk) (ie) (mm) (ou) (ol) (0) (by omega) (by omega) (by omega) (by omega) (by omega) (by omega) (by omega) omm oou ool (by omega) (by omega) ((((Sm.refl [50, 62, 63, 64] _).tr s8 (fun _ q => q) (by simp)).tr s11 (fun _ q => q) (by simp)).tr s172 (fun _ q => q) (by simp)) f173 f174 f175 f176
            · refine g_iload_n 466 dX9_step_465 rfl rfl ?_
              refine g_goto 473 dX9_step_466 rfl ?_
              refine g_putC (fs1 := [.long (tr), .ref 51, .int (iZ mn), .ref 52, .ref 53, .int (iZ kt), .ref 54, .ref 55, .ref 56, .ref 57, .ref 58, .ref 59, .ref 60, .int (iZ bs), .int (iZ ee), .int (iZ pa), .int (iZ fu), .int (iZ st), .int (iZ so), .int (iZ va), .int (iZ ed), .ref 61, .ref 62, .ref 63, .ref 64, .int (iZ cm), .int (iZ a), .int (iZ x), .int (iZ v4), .int (iZ (dn + 1)), .int (iZ tk), .int (iZ ie), .ref 65, .ref 66, .ref 67, .int (iZ en), .ref 68, .ref 69, .ref 70]) 476 dX9_step_473 fpX9_181_X9 f12 (nle rfl) (vI _) rfl rfl (fun h177 s178 f179 => ?_)
              refine g_goto 518 dX9_step_476 rfl ?_
              refine g_iconst (v := iZ (0)) 519 dX9_step_518 rfl rfl ?_
              refine g_iret rfl dX9_step_519 ?_
              have f180 := (s178.get (by decide) (s11.get (by decide) (s8.get (by decide) F3)))
              have f181 := (s178.get (by decide) (s11.get (by decide) (s8.get (by decide) F4)))
              have f182 := (s178.get (by decide) (s11.get (by decide) (s8.get (by decide) F5)))
              exact k _ (cm) (a) (x) (v4) (dn + 1) (tk) (ie) (mm) (ou) (ol) (0) (by omega) (by omega) (by omega) (by omega) (by omega) (by omega) (by omega) omm oou ool (by omega) (by omega) ((((Sm.refl [50, 62, 63, 64] _).tr s8 (fun _ q => q) (by simp)).tr s11 (fun _ q => q) (by simp)).tr s178 (fun _ q => q) (by simp)) f179 f180 f181 f182
          · refine g_tabZI (14) 479 dX9_step_87 (by omega) c27 (by decide) (by decide) rfl rfl ?_
            refine g_aload_n 480 dX9_step_479 rfl rfl ?_
            refine g_aload_n 481 dX9_step_480 rfl rfl ?_
            refine g_get 484 dX9_step_481 faX9_193_X9 f12 rfl rfl ?_
            refine g_iload_n 485 dX9_step_484 rfl rfl ?_
            refine g_iaddZ (a + v4) 486 dX9_step_485 (by omega) rfl ?_
            refine g_sipush (v := iZ (255)) 489 dX9_step_486 (by decide +kernel) rfl ?_
            refine g_and255Z ((a + v4) % 256) 490 dX9_step_489 rfl rfl ?_
            refine g_putC (fs1 := [.long (tr), .ref 51, .int (iZ mn), .ref 52, .ref 53, .int (iZ kt), .ref 54, .ref 55, .ref 56, .ref 57, .ref 58, .ref 59, .ref 60, .int (iZ bs), .int (iZ ee), .int (iZ pa), .int (iZ fu), .int (iZ st), .int (iZ so), .int (iZ va), .int (iZ ed), .ref 61, .ref 62, .ref 63, .ref 64, .int (iZ cm), .int (iZ ((a + v4) % 256)), .int (iZ x), .int (iZ ((p + 1) % 256)), .int (iZ (dn + 1)), .int (iZ tk), .int (iZ ie), .ref 65, .ref 66, .ref 67, .int (iZ en), .ref 68, .ref 69, .ref 70]) 493 dX9_step_490 fpX9_193_X9 f12 (nle rfl) (vI _) rfl rfl (fun h183 s184 f185 => ?_)
            refine g_goto 518 dX9_step_493 rfl ?_
            refine g_iconst (v := iZ (0)) 519 dX9_step_518 rfl rfl ?_
            refine g_iret rfl dX9_step_519 ?_
            have f186 := (s184.get (by decide) (s11.get (by decide) (s8.get (by decide) F3)))
            have f187 := (s184.get (by decide) (s11.get (by decide) (s8.get (by decide) F4)))
            have f188 := (s184.get (by decide) (s11.get (by decide) (s8.get (by decide) F5)))
            exact k _ (cm) ((a + v4) % 256) (x) ((p + 1) % 256) (dn + 1) (tk) (ie) (mm) (ou) (ol) (0) (by omega) (by omega) (by omega) (by omega) (by omega) (by omega) (by omega) omm oou ool (by omega) (by omega) ((((Sm.refl [50, 62, 63, 64] _).tr s8 (fun _ q => q) (by simp)).tr s11 (fun _ q => q) (by simp)).tr s184 (fun _ q => q) (by simp)) f185 f186 f187 f188
      · refine g_iconst (v := iZ (2)) 64 dX9_step_63 rfl rfl ?_
        refine g_goto 68 dX9_step_64 rfl ?_
        refine g_iaddZ (p + 2) 69 dX9_step_68 (by omega) rfl ?_
        refine g_sipush (v := iZ (255)) 72 dX9_step_69 (by decide +kernel) rfl ?_
        refine g_and255Z ((p + 2) % 256) 73 dX9_step_72 rfl rfl ?_
        refine g_putC (fs1 := [.long (tr), .ref 51, .int (iZ mn), .ref 52, .ref 53, .int (iZ kt), .ref 54, .ref 55, .ref 56, .ref 57, .ref 58, .ref 59, .ref 60, .int (iZ bs), .int (iZ ee), .int (iZ pa), .int (iZ fu), .int (iZ st), .int (iZ so), .int (iZ va), .int (iZ ed), .ref 61, .ref 62, .ref 63, .ref 64, .int (iZ cm), .int (iZ a), .int (iZ x), .int (iZ ((p + 2) % 256)), .int (iZ dn), .int (iZ tk), .int (iZ ie), .ref 65, .ref 66, .ref 67, .int (iZ en), .ref 68, .ref 69, .ref 70]) 76 dX9_step_73 fpX9_181_X9 F0 (nle rfl) (vI _) rfl rfl (fun h189 s190 f191 => ?_)
        refine g_aload_n 77 dX9_step_76 rfl rfl ?_
        refine g_dup 78 dX9_step_77 rfl rfl ?_
        refine g_get 81 dX9_step_78 faX9_187_X9 f191 rfl rfl ?_
        refine g_iconst (v := iZ (1)) 82 dX9_step_81 rfl rfl ?_
        refine g_iaddZ (dn + 1) 83 dX9_step_82 (by omega) rfl ?_
        refine g_putC (fs1 := [.long (tr), .ref 51, .int (iZ mn), .ref 52, .ref 53, .int (iZ kt), .ref 54, .ref 55, .ref 56, .ref 57, .ref 58, .ref 59, .ref 60, .int (iZ bs), .int (iZ ee), .int (iZ pa), .int (iZ fu), .int (iZ st), .int (iZ so), .int (iZ va), .int (iZ ed), .ref 61, .ref 62, .ref 63, .ref 64, .int (iZ cm), .int (iZ a), .int (iZ x), .int (iZ ((p + 2) % 256)), .int (iZ (dn + 1)), .int (iZ tk), .int (iZ ie), .ref 65, .ref 66, .ref 67, .int (iZ en), .ref 68, .ref 69, .ref 70]) 86 dX9_step_83 fpX9_187_X9 f191 (nle rfl) (vI _) rfl rfl (fun h192 s193 f194 => ?_)
        refine g_iload_n 87 dX9_step_86 rfl rfl ?_
        by_cases c195 : v1 < 0 ∨ 14 < v1
        · refine g_tabZO 496 dX9_step_87 (by omega) c195 rfl ?_
          refine g_aload_n 497 dX9_step_496 rfl rfl ?_
          refine g_aload_n 498 dX9_step_497 rfl rfl ?_
          refine g_get 501 dX9_step_498 faX9_193_X9 f194 rfl rfl ?_
          refine g_sipush (v := iZ (128)) 504 dX9_step_501 (by decide +kernel) rfl ?_
          refine g_icZ_lt 511 507 dX9_step_504 rfl rfl (by omega) (by decide) (fun c196 => ?_) (fun c196 => ?_)
          · refine g_aload_n 512 dX9_step_511 rfl rfl ?_
            refine g_get 515 dX9_step_512 faX9_181_X9 f194 rfl rfl ?_
            refine g_putC (fs1 := [.long (tr), .ref 51, .int (iZ mn), .ref 52, .ref 53, .int (iZ kt), .ref 54, .ref 55, .ref 56, .ref 57, .ref 58, .ref 59, .ref 60, .int (iZ bs), .int (iZ ee), .int (iZ pa), .int (iZ fu), .int (iZ st), .int (iZ so), .int (iZ va), .int (iZ ed), .ref 61, .ref 62, .ref 63, .ref 64, .int (iZ cm), .int (iZ a), .int (iZ x), .int (iZ ((p + 2) % 256)), .int (iZ (dn + 1)), .int (iZ tk), .int (iZ ie), .ref 65, .ref 66, .ref 67, .int (iZ en), .ref 68, .ref 69, .ref 70]) 518 dX9_step_515 fpX9_181_X9 f194 (nle rfl) (vI _) rfl rfl (fun h197 s198 f199 => ?_)
            refine g_iconst (v := iZ (0)) 519 dX9_step_518 rfl rfl ?_
            refine g_iret rfl dX9_step_519 ?_
            have f200 := (s198.get (by decide) (s193.get (by decide) (s190.get (by decide) F3)))
            have f201 := (s198.get (by decide) (s193.get (by decide) (s190.get (by decide) F4)))
            have f202 := (s198.get (by decide) (s193.get (by decide) (s190.get (by decide) F5)))
            exact k _ (cm) (a) (x) ((p + 2) % 256) (dn + 1) (tk) (ie) (mm) (ou) (ol) (0) (by omega) (by omega) (by omega) (by omega) (by omega) (by omega) (by omega) omm oou ool (by omega) (by omega) ((((Sm.refl [50, 62, 63, 64] _).tr s190 (fun _ q => q) (by simp)).tr s193 (fun _ q => q) (by simp)).tr s198 (fun _ q => q) (by simp)) f199 f200 f201 f202
          · refine g_iload_n 508 dX9_step_507 rfl rfl ?_
            refine g_goto 515 dX9_step_508 rfl ?_
            refine g_putC (fs1 := [.long (tr), .ref 51, .int (iZ mn), .ref 52, .ref 53, .int (iZ kt), .ref 54, .ref 55, .ref 56, .ref 57, .ref 58, .ref 59, .ref 60, .int (iZ bs), .int (iZ ee), .int (iZ pa), .int (iZ fu), .int (iZ st), .int (iZ so), .int (iZ va), .int (iZ ed), .ref 61, .ref 62, .ref 63, .ref 64, .int (iZ cm), .int (iZ a), .int (iZ x), .int (iZ v4), .int (iZ (dn + 1)), .int (iZ tk), .int (iZ ie), .ref 65, .ref 66, .ref 67, .int (iZ en), .ref 68, .ref 69, .ref 70]) 518 dX9_step_515 fpX9_181_X9 f194 (nle rfl) (vI _) rfl rfl (fun h203 s204 f205 => ?_)
            refine g_iconst (v := iZ (0)) 519 dX9_step_518 rfl rfl ?_
            refine g_iret rfl dX9_step_519 ?_
            have f206 := (s204.get (by decide) (s193.get (by decide) (s190.get (by decide) F3)))
            have f207 := (s204.get (by decide) (s193.get (by decide) (s190.get (by decide) F4)))
            have f208 := (s204.get (by decide) (s193.get (by decide) (s190.get (by decide) F5)))
            exact k _ (cm) (a) (x) (v4) (dn + 1) (tk) (ie) (mm) (ou) (ol) (0) (by omega) (by omega) (by omega) (by omega) (by omega) (by omega) (by omega) omm oou ool (by omega) (by omega) ((((Sm.refl [50, 62, 63, 64] _).tr s190 (fun _ q => q) (by simp)).tr s193 (fun _ q => q) (by simp)).tr s204 (fun _ q => q) (by simp)) f205 f206 f207 f208
        · have c209 : v1 = 0 ∨ v1 = 1 ∨ v1 = 2 ∨ v1 = 3 ∨ v1 = 4 ∨ v1 = 5 ∨ v1 = 6 ∨ v1 = 7 ∨ v1 = 8 ∨ v1 = 9 ∨ v1 = 10 ∨ v1 = 11 ∨ v1 = 12 ∨ v1 = 13 ∨ v1 = 14 := by omega
          rcases c209 with c209 | c209 | c209 | c209 | c209 | c209 | c209 | c209 | c209 | c209 | c209 | c209 | c209 | c209 | c209
          · refine g_tabZI (0) 160 dX9_step_87 (by omega) c209 (by decide) (by decide) rfl rfl ?_
            refine g_iconst (v := iZ (-1)) 161 dX9_step_160 rfl rfl ?_
            refine g_iret rfl dX9_step_161 ?_
            have f210 := (s193.get (by decide) (s190.get (by decide) F3))
            have f211 := (s193.get (by decide) (s190.get (by decide) F4))
            have f212 := (s193.get (by decide) (s190.get (by decide) F5))
            exact k _ (cm) (a) (x) ((p + 2) % 256) (dn + 1) (tk) (ie) (mm) (ou) (ol) (-1) (by omega) (by omega) (by omega) (by omega) (by omega) (by omega) (by omega) omm oou ool (by omega) (by omega) (((Sm.refl [50, 62, 63, 64] _).tr s190 (fun _ q => q) (by simp)).tr s193 (fun _ q => q) (by simp)) f194 f210 f211 f212
          · refine g_tabZI (1) 162 dX9_step_87 (by omega) c209 (by decide) (by decide) rfl rfl ?_
            refine g_aload_n 163 dX9_step_162 rfl rfl ?_
            refine g_get 166 dX9_step_163 faX9_190_X9 f194 rfl rfl ?_
            refine g_aload_n 167 dX9_step_166 rfl rfl ?_
            refine g_get 170 dX9_step_167 faX9_16_X9 f194 rfl rfl ?_
            refine g_iload_n 171 dX9_step_170 rfl rfl ?_
            have f213 := (s193.get (by decide) (s190.get (by decide) F2))
            refine g_ialdR 172 dX9_step_171 f213 olg (by omega) (by omega) (by decide) rfl (fun v214 rv214 => ?_)
            refine g_icZ_ge 179 175 dX9_step_172 rfl rfl (by omega) (by omega) (fun c215 => ?_) (fun c215 => ?_)
            · refine g_iconst (v := iZ (0)) 180 dX9_step_179 rfl rfl ?_
              refine g_istore (L1 := [some (.ref 50), some (.int (iZ i)), some (.int (iZ v1)), some (.int (iZ v4)), some (.int (iZ 0))]) 182 dX9_step_180 (by decide) rfl rfl rfl ?_
              refine g_aload_n 183 dX9_step_182 rfl rfl ?_
              refine g_iload 185 dX9_step_183 rfl rfl ?_
              refine g_ifZ_eq 210 188 dX9_step_185 rfl rfl (by decide) (fun _ => ?_) (fun q => absurd q (by decide))
              refine g_iconst (v := iZ (0)) 211 dX9_step_210 rfl rfl ?_
              refine g_putC (fs1 := [.long (tr), .ref 51, .int (iZ mn), .ref 52, .ref 53, .int (iZ kt), .ref 54, .ref 55, .ref 56, .ref 57, .ref 58, .ref 59, .ref 60, .int (iZ bs), .int (iZ ee), .int (iZ pa), .int (iZ fu), .int (iZ st), .int (iZ so), .int (iZ va), .int (iZ ed), .ref 61, .ref 62, .ref 63, .ref 64, .int (iZ cm), .int (iZ 0), .int (iZ x), .int (iZ ((p + 2) % 256)), .int (iZ (dn + 1)), .int (iZ tk), .int (iZ ie), .ref 65, .ref 66, .ref 67, .int (iZ en), .ref 68, .ref 69, .ref 70]) 214 dX9_step_211 fpX9_193_X9 f194 (nle rfl) (vI _) rfl rfl (fun h216 s217 f218 => ?_)
              refine g_aload_n 215 dX9_step_214 rfl rfl ?_
              refine g_dup 216 dX9_step_215 rfl rfl ?_
              refine g_get 219 dX9_step_216 faX9_190_X9 f218 rfl rfl ?_
              refine g_iload 221 dX9_step_219 rfl rfl ?_
              refine g_ifZ_eq 228 224 dX9_step_221 rfl rfl (by decide) (fun _ => ?_) (fun q => absurd q (by decide))
              refine g_iconst (v := iZ (0)) 229 dX9_step_228 rfl rfl ?_
              refine g_iaddZ (tk + 0) 230 dX9_step_229 (by omega) rfl ?_
              refine g_putC (fs1 := [.long (tr), .ref 51, .int (iZ mn), .ref 52, .ref 53, .int (iZ kt), .ref 54, .ref 55, .ref 56, .ref 57, .ref 58, .ref 59, .ref 60, .int (iZ bs), .int (iZ ee), .int (iZ pa), .int (iZ fu), .int (iZ st), .int (iZ so), .int (iZ va), .int (iZ ed), .ref 61, .ref 62, .ref 63, .ref 64, .int (iZ cm), .int (iZ 0), .int (iZ x), .int (iZ ((p + 2) % 256)), .int (iZ (dn + 1)), .int (iZ (tk + 0)), .int (iZ ie), .ref 65, .ref 66, .ref 67, .int (iZ en), .ref 68, .ref 69, .ref 70]) 233 dX9_step_230 fpX9_190_X9 f218 (nle rfl) (vI _) rfl rfl (fun h219 s220 f221 => ?_)
              refine g_aload_n 234 dX9_step_233 rfl rfl ?_
              refine g_iload 236 dX9_step_234 rfl rfl ?_
              refine g_ifZ_eq 246 239 dX9_step_236 rfl rfl (by decide) (fun _ => ?_) (fun q => absurd q (by decide))
              refine g_iconst (v := iZ (1)) 247 dX9_step_246 rfl rfl ?_
              refine g_putC (fs1 := [.long (tr), .ref 51, .int (iZ mn), .ref 52, .ref 53, .int (iZ kt), .ref 54, .ref 55, .ref 56, .ref 57, .ref 58, .ref 59, .ref 60, .int (iZ bs), .int (iZ ee), .int (iZ pa), .int (iZ fu), .int (iZ st), .int (iZ so), .int (iZ va), .int (iZ ed), .ref 61, .ref 62, .ref 63, .ref 64, .int (iZ cm), .int (iZ 0), .int (iZ x), .int (iZ ((p + 2) % 256)), .int (iZ (dn + 1)), .int (iZ (tk + 0)), .int (iZ 1), .ref 65, .ref 66, .ref 67, .int (iZ en), .ref 68, .ref 69, .ref 70]) 250 dX9_step_247 fpX9_196_X9 f221 (nle rfl) (vI _) rfl rfl (fun h222 s223 f224 => ?_)
              refine g_goto 518 dX9_step_250 rfl ?_
              refine g_iconst (v := iZ (0)) 519 dX9_step_518 rfl rfl ?_
              refine g_iret rfl dX9_step_519 ?_
              have f225 := (s223.get (by decide) (s220.get (by decide) (s217.get (by decide) (s193.get (by decide) (s190.get (by decide) F3)))))
              have f226 := (s223.get (by decide) (s220.get (by decide) (s217.get (by decide) (s193.get (by decide) (s190.get (by decide) F4)))))
              have f227 := (s223.get (by decide) (s220.get (by decide) (s217.get (by decide) (s193.get (by decide) (s190.get (by decide) F5)))))
              exact k _ (cm) (0) (x) ((p + 2) % 256) (dn + 1) (tk + 0) (1) (mm) (ou) (ol) (0) (by omega) (by omega) (by omega) (by omega) (by omega) (by omega) (by omega) omm oou ool (by omega) (by omega) ((((((Sm.refl [50, 62, 63, 64] _).tr s190 (fun _ q => q) (by simp)).tr s193 (fun _ q => q) (by simp)).tr s217 (fun _ q => q) (by simp)).tr s220 (fun _ q => q) (by simp)).tr s223 (fun _ q => q) (by simp)) f224 f225 f226 f227
            · refine g_iconst (v := iZ (1)) 176 dX9_step_175 rfl rfl ?_
              refine g_goto 180 dX9_step_176 rfl ?_
              refine g_istore (L1 := [some (.ref 50), some (.int (iZ i)), some (.int (iZ v1)), some (.int (iZ v4)), some (.int (iZ 1))]) 182 dX9_step_180 (by decide) rfl rfl rfl ?_
              refine g_aload_n 183 dX9_step_182 rfl rfl ?_
              refine g_iload 185 dX9_step_183 rfl rfl ?_
              refine g_ifZ_eq 210 188 dX9_step_185 rfl rfl (by decide) (fun q => absurd q (by decide)) (fun _ => ?_)
              refine g_aload_n 189 dX9_step_188 rfl rfl ?_
              refine g_get 192 dX9_step_189 faX9_13_X9 f194 rfl rfl ?_
              refine g_sipush (v := iZ (200)) 195 dX9_step_192 (by decide +kernel) rfl ?_
              refine g_iload_n 196 dX9_step_195 rfl rfl ?_
              refine g_imulZ (200 * i) 197 dX9_step_196 (by omega) rfl ?_
              refine g_aload_n 198 dX9_step_197 rfl rfl ?_
              refine g_get 201 dX9_step_198 faX9_190_X9 f194 rfl rfl ?_
              refine g_iaddZ ((200 * i) + tk) 202 dX9_step_201 (by omega) rfl ?_
              have f228 := (s193.get (by decide) (s190.get (by decide) F1))
              refine g_baldZ 203 dX9_step_202 f228 (by omega) (by omega) (by decide) rfl rfl ?_
              refine Go.genZ (fun z229 rz229 => ?_)
              refine g_sipush (v := iZ (255)) 206 dX9_step_203 (by decide +kernel) rfl ?_
              refine g_and255Z (z229 % 256) 207 dX9_step_206 rfl rfl ?_
              refine g_goto 211 dX9_step_207 rfl ?_
              refine g_putC (fs1 := [.long (tr), .ref 51, .int (iZ mn), .ref 52, .ref 53, .int (iZ kt), .ref 54, .ref 55, .ref 56, .ref 57, .ref 58, .ref 59, .ref 60, .int (iZ bs), .int (iZ ee), .int (iZ pa), .int (iZ fu), .int (iZ st), .int (iZ so), .int (iZ va), .int (iZ ed), .ref 61, .ref 62, .ref 63, .ref 64, .int (iZ cm), .int (iZ (z229 % 256)), .int (iZ x), .int (iZ ((p + 2) % 256)), .int (iZ (dn + 1)), .int (iZ tk), .int (iZ ie), .ref 65, .ref 66, .ref 67, .int (iZ en), .ref 68, .ref 69, .ref 70]) 214 dX9_step_211 fpX9_193_X9 f194 (nle rfl) (vI _) rfl rfl (fun h230 s231 f232 => ?_)
              refine g_aload_n 215 dX9_step_214 rfl rfl ?_
              refine g_dup 216 dX9_step_215 rfl rfl ?_
              refine g_get 219 dX9_step_216 faX9_190_X9 f232 rfl rfl ?_
              refine g_iload 221 dX9_step_219 rfl rfl ?_
              refine g_ifZ_eq 228 224 dX9_step_221 rfl rfl (by decide) (fun q => absurd q (by decide)) (fun _ => ?_)
              refine g_iconst (v := iZ (1)) 225 dX9_step_224 rfl rfl ?_
              refine g_goto 229 dX9_step_225 rfl ?_
              refine g_iaddZ (tk + 1) 230 dX9_step_229 (by omega) rfl ?_
              refine g_putC (fs1 := [.long (tr), .ref 51, .int (iZ mn), .ref 52, .ref 53, .int (iZ kt), .ref 54, .ref 55, .ref 56, .ref 57, .ref 58, .ref 59, .ref 60, .int (iZ bs), .int (iZ ee), .int (iZ pa), .int (iZ fu), .int (iZ st), .int (iZ so), .int (iZ va), .int (iZ ed), .ref 61, .ref 62, .ref 63, .ref 64, .int (iZ cm), .int (iZ (z229 % 256)), .int (iZ x), .int (iZ ((p + 2) % 256)), .int (iZ (dn + 1)), .int (iZ (tk + 1)), .int (iZ ie), .ref 65, .ref 66, .ref 67, .int (iZ en), .ref 68, .ref 69, .ref 70]) 233 dX9_step_230 fpX9_190_X9 f232 (nle rfl) (vI _) rfl rfl (fun h233 s234 f235 => ?_)
              refine g_aload_n 234 dX9_step_233 rfl rfl ?_
              refine g_iload 236 dX9_step_234 rfl rfl ?_
              refine g_ifZ_eq 246 239 dX9_step_236 rfl rfl (by decide) (fun q => absurd q (by decide)) (fun _ => ?_)
              refine g_aload_n 240 dX9_step_239 rfl rfl ?_
              refine g_get 243 dX9_step_240 faX9_196_X9 f235 rfl rfl ?_
              refine g_goto 247 dX9_step_243 rfl ?_
              refine g_putC (fs1 := [.long (tr), .ref 51, .int (iZ mn), .ref 52, .ref 53, .int (iZ kt), .ref 54, .ref 55, .ref 56, .ref 57, .ref 58, .ref 59, .ref 60, .int (iZ bs), .int (iZ ee), .int (iZ pa), .int (iZ fu), .int (iZ st), .int (iZ so), .int (iZ va), .int (iZ ed), .ref 61, .ref 62, .ref 63, .ref 64, .int (iZ cm), .int (iZ (z229 % 256)), .int (iZ x), .int (iZ ((p + 2) % 256)), .int (iZ (dn + 1)), .int (iZ (tk + 1)), .int (iZ ie), .ref 65, .ref 66, .ref 67, .int (iZ en), .ref 68, .ref 69, .ref 70]) 250 dX9_step_247 fpX9_196_X9 f235 (nle rfl) (vI _) rfl rfl (fun h236 s237 f238 => ?_)
              refine g_goto 518 dX9_step_250 rfl ?_
              refine g_iconst (v := iZ (0)) 519 dX9_step_518 rfl rfl ?_
              refine g_iret rfl dX9_step_519 ?_
              have f239 := (s237.get (by decide) (s234.get (by decide) (s231.get (by decide) (s193.get (by decide) (s190.get (by decide) F3)))))
              have f240 := (s237.get (by decide) (s234.get (by decide) (s231.get (by decide) (s193.get (by decide) (s190.get (by decide) F4)))))
              have f241 := (s237.get (by decide) (s234.get (by decide) (s231.get (by decide) (s193.get (by decide) (s190.get (by decide) F5)))))
              exact k _ (cm) (z229 % 256) (x) ((p + 2) % 256) (dn + 1) (tk + 1) (ie) (mm) (ou) (ol) (0) (by omega) (by omega) (by omega) (by omega) (by omega) (by omega) (by omega) omm oou ool (by omega) (by omega) ((((((Sm.refl [50, 62, 63, 64] _).tr s190 (fun _ q => q) (by simp)).tr s193 (fun _ q => q) (by simp)).tr s231 (fun _ q => q) (by simp)).tr s234 (fun _ q => q) (by simp)).tr s237 (fun _ q => q) (by simp)) f238 f239 f240 f241
          · refine g_tabZI (2) 253 dX9_step_87 (by omega) c209 (by decide) (by decide) rfl rfl ?_
            refine g_aload_n 254 dX9_step_253 rfl rfl ?_
            refine g_get 257 dX9_step_254 faX9_47_X9 f194 rfl rfl ?_
            refine g_aload_n 258 dX9_step_257 rfl rfl ?_
            refine g_get 261 dX9_step_258 faX9_184_X9 f194 rfl rfl ?_
            refine g_aload_n 262 dX9_step_261 rfl rfl ?_
            refine g_get 265 dX9_step_262 faX9_193_X9 f194 rfl rfl ?_
            have f242 := (s193.get (by decide) (s190.get (by decide) F4))
            refine g_iastR 266 dX9_step_265 f242 oou (by omega) (by omega) (by omega) (by decide) rfl (fun h244 g243 og243 s245 f246 => ?_)
            refine g_aload_n 267 dX9_step_266 rfl rfl ?_
            have f247 := (s245.get (by decide) f194)
            refine g_get 270 dX9_step_267 faX9_50_X9 f247 rfl rfl ?_
            refine g_aload_n 271 dX9_step_270 rfl rfl ?_
            refine g_get 274 dX9_step_271 faX9_184_X9 f247 rfl rfl ?_
            refine g_aload_n 275 dX9_step_274 rfl rfl ?_
            refine g_get 278 dX9_step_275 faX9_190_X9 f247 rfl rfl ?_
            refine g_ifZ_ne 285 281 dX9_step_278 rfl rfl (by omega) (fun c248 => ?_) (fun c248 => ?_)
            · refine g_aload_n 286 dX9_step_285 rfl rfl ?_
              refine g_get 289 dX9_step_286 faX9_190_X9 f247 rfl rfl ?_
              refine g_iconst (v := iZ (1)) 290 dX9_step_289 rfl rfl ?_
              refine g_isubZ (tk - 1) 291 dX9_step_290 (by omega) rfl ?_
              have f249 := (s245.get (by decide) (s193.get (by decide) (s190.get (by decide) F5)))
              refine g_iastR 292 dX9_step_291 f249 ool (by omega) (by omega) (by omega) (by decide) rfl (fun h251 g250 og250 s252 f253 => ?_)
              refine g_aload_n 293 dX9_step_292 rfl rfl ?_
              refine g_dup 294 dX9_step_293 rfl rfl ?_
              have f254 := (s252.get (by decide) f247)
              refine g_get 297 dX9_step_294 faX9_184_X9 f254 rfl rfl ?_
              refine g_iconst (v := iZ (1)) 298 dX9_step_297 rfl rfl ?_
              refine g_iaddZ (cm + 1) 299 dX9_step_298 (by omega) rfl ?_
              refine g_putC (fs1 := [.long (tr), .ref 51, .int (iZ mn), .ref 52, .ref 53, .int (iZ kt), .ref 54, .ref 55, .ref 56, .ref 57, .ref 58, .ref 59, .ref 60, .int (iZ bs), .int (iZ ee), .int (iZ pa), .int (iZ fu), .int (iZ st), .int (iZ so), .int (iZ va), .int (iZ ed), .ref 61, .ref 62, .ref 63, .ref 64, .int (iZ (cm + 1)), .int (iZ a), .int (iZ x), .int (iZ ((p + 2) % 256)), .int (iZ (dn + 1)), .int (iZ tk), .int (iZ ie), .ref 65, .ref 66, .ref 67, .int (iZ en), .ref 68, .ref 69, .ref 70]) 302 dX9_step_299 fpX9_184_X9 f254 (nle rfl) (vI _) rfl rfl (fun h255 s256 f257 => ?_)
              refine g_goto 518 dX9_step_302 rfl ?_
              refine g_iconst (v := iZ (0)) 519 dX9_step_518 rfl rfl ?_
              refine g_iret rfl dX9_step_519 ?_
              have f258 := (s256.get (by decide) (s252.get (by decide) (s245.get (by decide) (s193.get (by decide) (s190.get (by decide) F3)))))
              have f259 := (s256.get (by decide) (s252.get (by decide) f246))
              have f260 := (s256.get (by decide) f253)
              exact k _ (cm + 1) (a) (x) ((p + 2) % 256) (dn + 1) (tk) (ie) (mm) (g243) (g250) (0) (by omega) (by omega) (by omega) (by omega) (by omega) (by omega) (by omega) omm og243 og250 (by omega) (by omega) ((((((Sm.refl [50, 62, 63, 64] _).tr s190 (fun _ q => q) (by simp)).tr s193 (fun _ q => q) (by simp)).tr s245 (fun _ q => q) (by simp)).tr s252 (fun _ q => q) (by simp)).tr s256 (fun _ q => q) (by simp)) f257 f258 f259 f260
            · refine g_iconst (v := iZ (0)) 282 dX9_step_281 rfl rfl ?_
              refine g_goto 291 dX9_step_282 rfl ?_
              have f261 := (s245.get (by decide) (s193.get (by decide) (s190.get (by decide) F5)))
              refine g_iastR 292 dX9_step_291 f261 ool (by omega) (by omega) (by omega) (by decide) rfl (fun h263 g262 og262 s264 f265 => ?_)
              refine g_aload_n 293 dX9_step_292 rfl rfl ?_
              refine g_dup 294 dX9_step_293 rfl rfl ?_
              have f266 := (s264.get (by decide) f247)
              refine g_get 297 dX9_step_294 faX9_184_X9 f266 rfl rfl ?_
              refine g_iconst (v := iZ (1)) 298 dX9_step_297 rfl rfl ?_
              refine g_iaddZ (cm + 1) 299 dX9_step_298 (by omega) rfl ?_
              refine g_putC (fs1 := [.long (tr), .ref 51, .int (iZ mn), .ref 52, .ref 53, .int (iZ kt), .ref 54, .ref 55, .ref 56, .ref 57, .ref 58, .ref 59, .ref 60, .int (iZ bs), .int (iZ ee), .int (iZ pa), .int (iZ fu), .int (iZ st), .int (iZ so), .int (iZ va), .int (iZ ed), .ref 61, .ref 62, .ref 63, .ref 64, .int (iZ (cm + 1)), .int (iZ a), .int (iZ x), .int (iZ ((p + 2) % 256)), .int (iZ (dn + 1)), .int (iZ tk), .int (iZ ie), .ref 65, .ref 66, .ref 67, .int (iZ en), .ref 68, .ref 69, .ref 70]) 302 dX9_step_299 fpX9_184_X9 f266 (nle rfl) (vI _) rfl rfl (fun h267 s268 f269 => ?_)
              refine g_goto 518 dX9_step_302 rfl ?_
              refine g_iconst (v := iZ (0)) 519 dX9_step_518 rfl rfl ?_
              refine g_iret rfl dX9_step_519 ?_
              have f270 := (s268.get (by decide) (s264.get (by decide) (s245.get (by decide) (s193.get (by decide) (s190.get (by decide) F3)))))
              have f271 := (s268.get (by decide) (s264.get (by decide) f246))
              have f272 := (s268.get (by decide) f265)
              exact k _ (cm + 1) (a) (x) ((p + 2) % 256) (dn + 1) (tk) (ie) (mm) (g243) (g262) (0) (by omega) (by omega) (by omega) (by omega) (by omega) (by omega) (by omega) omm og243 og262 (by omega) (by omega) ((((((Sm.refl [50, 62, 63, 64] _).tr s190 (fun _ q => q) (by simp)).tr s193 (fun _ q => q) (by simp)).tr s245 (fun _ q => q) (by simp)).tr s264 (fun _ q => q) (by simp)).tr s268 (fun _ q => q) (by simp)) f269 f270 f271 f272
          · refine g_tabZI (3) 305 dX9_step_87 (by omega) c209 (by decide) (by decide) rfl rfl ?_
            refine g_aload_n 306 dX9_step_305 rfl rfl ?_
            refine g_iload_n 307 dX9_step_306 rfl rfl ?_
            refine g_putC (fs1 := [.long (tr), .ref 51, .int (iZ mn), .ref 52, .ref 53, .int (iZ kt), .ref 54, .ref 55, .ref 56, .ref 57, .ref 58, .ref 59, .ref 60, .int (iZ bs), .int (iZ ee), .int (iZ pa), .int (iZ fu), .int (iZ st), .int (iZ so), .int (iZ va), .int (iZ ed), .ref 61, .ref 62, .ref 63, .ref 64, .int (iZ cm), .int (iZ v4), .int (iZ x), .int (iZ ((p + 2) % 256)), .int (iZ (dn + 1)), .int (iZ tk), .int (iZ ie), .ref 65, .ref 66, .ref 67, .int (iZ en), .ref 68, .ref 69, .ref 70]) 310 dX9_step_307 fpX9_193_X9 f194 (nle rfl) (vI _) rfl rfl (fun h273 s274 f275 => ?_)
            refine g_goto 518 dX9_step_310 rfl ?_
            refine g_iconst (v := iZ (0)) 519 dX9_step_518 rfl rfl ?_
            refine g_iret rfl dX9_step_519 ?_
            have f276 := (s274.get (by decide) (s193.get (by decide) (s190.get (by decide) F3)))
            have f277 := (s274.get (by decide) (s193.get (by decide) (s190.get (by decide) F4)))
            have f278 := (s274.get (by decide) (s193.get (by decide) (s190.get (by decide) F5)))
            exact k _ (cm) (v4) (x) ((p + 2) % 256) (dn + 1) (tk) (ie) (mm) (ou) (ol) (0) (by omega) (by omega) (by omega) (by omega) (by omega) (by omega) (by omega) omm oou ool (by omega) (by omega) ((((Sm.refl [50, 62, 63, 64] _).tr s190 (fun _ q => q) (by simp)).tr s193 (fun _ q => q) (by simp)).tr s274 (fun _ q => q) (by simp)) f275 f276 f277 f278
          · refine g_tabZI (4) 313 dX9_step_87 (by omega) c209 (by decide) (by decide) rfl rfl ?_
            refine g_aload_n 314 dX9_step_313 rfl rfl ?_
            refine g_aload_n 315 dX9_step_314 rfl rfl ?_
            refine g_get 318 dX9_step_315 faX9_44_X9 f194 rfl rfl ?_
            refine g_iload_n 319 dX9_step_318 rfl rfl ?_
            have f279 := (s193.get (by decide) (s190.get (by decide) F3))
            refine g_ialdR 320 dX9_step_319 f279 omm (by omega) (by omega) (by decide) rfl (fun v280 rv280 => ?_)
            refine g_putC (fs1 := [.long (tr), .ref 51, .int (iZ mn), .ref 52, .ref 53, .int (iZ kt), .ref 54, .ref 55, .ref 56, .ref 57, .ref 58, .ref 59, .ref 60, .int (iZ bs), .int (iZ ee), .int (iZ pa), .int (iZ fu), .int (iZ st), .int (iZ so), .int (iZ va), .int (iZ ed), .ref 61, .ref 62, .ref 63, .ref 64, .int (iZ cm), .int (iZ v280), .int (iZ x), .int (iZ ((p + 2) % 256)), .int (iZ (dn + 1)), .int (iZ tk), .int (iZ ie), .ref 65, .ref 66, .ref 67, .int (iZ en), .ref 68, .ref 69, .ref 70]) 323 dX9_step_320 fpX9_193_X9 f194 (nle rfl) (vI _) rfl rfl (fun h281 s282 f283 => ?_)
            refine g_goto 518 dX9_step_323 rfl ?_
            refine g_iconst (v := iZ (0)) 519 dX9_step_518 rfl rfl ?_
            refine g_iret rfl dX9_step_519 ?_
            have f284 := (s282.get (by decide) f279)
            have f285 := (s282.get (by decide) (s193.get (by decide) (s190.get (by decide) F4)))
            have f286 := (s282.get (by decide) (s193.get (by decide) (s190.get (by decide) F5)))
            exact k _ (cm) (v280) (x) ((p + 2) % 256) (dn + 1) (tk) (ie) (mm) (ou) (ol) (0) (by omega) (by omega) (by omega) (by omega) (by omega) (by omega) (by omega) omm oou ool (by omega) (by omega) ((((Sm.refl [50, 62, 63, 64] _).tr s190 (fun _ q => q) (by simp)).tr s193 (fun _ q => q) (by simp)).tr s282 (fun _ q => q) (by simp)) f283 f284 f285 f286
          · refine g_tabZI (5) 326 dX9_step_87 (by omega) c209 (by decide) (by decide) rfl rfl ?_
            refine g_aload_n 327 dX9_step_326 rfl rfl ?_
            refine g_get 330 dX9_step_327 faX9_44_X9 f194 rfl rfl ?_
            refine g_iload_n 331 dX9_step_330 rfl rfl ?_
            refine g_aload_n 332 dX9_step_331 rfl rfl ?_
            refine g_get 335 dX9_step_332 faX9_193_X9 f194 rfl rfl ?_
            have f287 := (s193.get (by decide) (s190.get (by decide) F3))
            refine g_iastR 336 dX9_step_335 f287 omm (by omega) (by omega) (by omega) (by decide) rfl (fun h289 g288 og288 s290 f291 => ?_)
            refine g_goto 518 dX9_step_336 rfl ?_
            refine g_iconst (v := iZ (0)) 519 dX9_step_518 rfl rfl ?_
            refine g_iret rfl dX9_step_519 ?_
            have f292 := (s290.get (by decide) f194)
            have f293 := (s290.get (by decide) (s193.get (by decide) (s190.get (by decide) F4)))
            have f294 := (s290.get (by decide) (s193.get (by decide) (s190.get (by decide) F5)))
            exact k _ (cm) (a) (x) ((p + 2) % 256) (dn + 1) (tk) (ie) (g288) (ou) (ol) (0) (by omega) (by omega) (by omega) (by omega) (by omega) (by omega) (by omega) og288 oou ool (by omega) (by omega) ((((Sm.refl [50, 62, 63, 64] _).tr s190 (fun _ q => q) (by simp)).tr s193 (fun _ q => q) (by simp)).tr s290 (fun _ q => q) (by simp)) f292 f291 f293 f294
          · refine g_tabZI (6) 339 dX9_step_87 (by omega) c209 (by decide) (by decide) rfl rfl ?_
            refine g_aload_n 340 dX9_step_339 rfl rfl ?_
            refine g_aload_n 341 dX9_step_340 rfl rfl ?_
            refine g_get 344 dX9_step_341 faX9_193_X9 f194 rfl rfl ?_
            refine g_aload_n 345 dX9_step_344 rfl rfl ?_
            refine g_get 348 dX9_step_345 faX9_44_X9 f194 rfl rfl ?_
            refine g_iload_n 349 dX9_step_348 rfl rfl ?_
            have f295 := (s193.get (by decide) (s190.get (by decide) F3))
            refine g_ialdR 350 dX9_step_349 f295 omm (by omega) (by omega) (by decide) rfl (fun v296 rv296 => ?_)
            refine g_iaddZ (a + v296) 351 dX9_step_350 (by omega) rfl ?_
            refine g_sipush (v := iZ (255)) 354 dX9_step_351 (by decide +kernel) rfl ?_
            refine g_and255Z ((a + v296) % 256) 355 dX9_step_354 rfl rfl ?_
            refine g_putC (fs1 := [.long (tr), .ref 51, .int (iZ mn), .ref 52, .ref 53, .int (iZ kt), .ref 54, .ref 55, .ref 56, .ref 57, .ref 58, .ref 59, .ref 60, .int (iZ bs), .int (iZ ee), .int (iZ pa), .int (iZ fu), .int (iZ st), .int (iZ so), .int (iZ va), .int (iZ ed), .ref 61, .ref 62, .ref 63, .ref 64, .int (iZ cm), .int (iZ ((a + v296) % 256)), .int (iZ x), .int (iZ ((p + 2) % 256)), .int (iZ (dn + 1)), .int (iZ tk), .int (iZ ie), .ref 65, .ref 66, .ref 67, .int (iZ en), .ref 68, .ref 69, .ref 70]) 358 dX9_step_355 fpX9_193_X9 f194 (nle rfl) (vI _) rfl rfl (fun h297 s298 f299 => ?_)
            refine g_goto 518 dX9_step_358 rfl ?_
            refine g_iconst (v := iZ (0)) 519 dX9_step_518 rfl rfl ?_
            refine g_iret rfl dX9_step_519 ?_
            have f300 := (s298.get (by decide) f295)
            have f301 := (s298.get (by decide) (s193.get (by decide) (s190.get (by decide) F4)))
            have f302 := (s298.get (by decide) (s193.get (by decide) (s190.get (by decide) F5)))
            exact k _ (cm) ((a + v296) % 256) (x) ((p + 2) % 256) (dn + 1) (tk) (ie) (mm) (ou) (ol) (0) (by omega) (by omega) (by omega) (by omega) (by omega) (by omega) (by omega) omm oou ool (by omega) (by omega) ((((Sm.refl [50, 62, 63, 64] _).tr s190 (fun _ q => q) (by simp)).tr s193 (fun _ q => q) (by simp)).tr s298 (fun _ q => q) (by simp)) f299 f300 f301 f302
          · refine g_tabZI (7) 361 dX9_step_87 (by omega) c209 (by decide) (by decide) rfl rfl ?_
            refine g_aload_n 362 dX9_step_361 rfl rfl ?_
            refine g_aload_n 363 dX9_step_362 rfl rfl ?_
            refine g_get 366 dX9_step_363 faX9_193_X9 f194 rfl rfl ?_
            refine g_aload_n 367 dX9_step_366 rfl rfl ?_
            refine g_get 370 dX9_step_367 faX9_44_X9 f194 rfl rfl ?_
            refine g_iload_n 371 dX9_step_370 rfl rfl ?_
            have f303 := (s193.get (by decide) (s190.get (by decide) F3))
            refine g_ialdR 372 dX9_step_371 f303 omm (by omega) (by omega) (by decide) rfl (fun v304 rv304 => ?_)
            refine g_isubZ (a - v304) 373 dX9_step_372 (by omega) rfl ?_
            refine g_sipush (v := iZ (255)) 376 dX9_step_373 (by decide +kernel) rfl ?_
            refine g_and255Z ((a - v304) % 256) 377 dX9_step_376 rfl rfl ?_
            refine g_putC (fs1 := [.long (tr), .ref 51, .int (iZ mn), .ref 52, .ref 53, .int (iZ kt), .ref 54, .ref 55, .ref 56, .ref 57, .ref 58, .ref 59, .ref 60, .int (iZ bs), .int (iZ ee), .int (iZ pa), .int (iZ fu), .int (iZ st), .int (iZ so), .int (iZ va), .int (iZ ed), .ref 61, .ref 62, .ref 63, .ref 64, .int (iZ cm), .int (iZ ((a - v304) % 256)), .int (iZ x), .int (iZ ((p + 2) % 256)), .int (iZ (dn + 1)), .int (iZ tk), .int (iZ ie), .ref 65, .ref 66, .ref 67, .int (iZ en), .ref 68, .ref 69, .ref 70]) 380 dX9_step_377 fpX9_193_X9 f194 (nle rfl) (vI _) rfl rfl (fun h305 s306 f307 => ?_)
            refine g_goto 518 dX9_step_380 rfl ?_
            refine g_iconst (v := iZ (0)) 519 dX9_step_518 rfl rfl ?_
            refine g_iret rfl dX9_step_519 ?_
            have f308 := (s306.get (by decide) f303)
            have f309 := (s306.get (by decide) (s193.get (by decide) (s190.get (by decide) F4)))
            have f310 := (s306.get (by decide) (s193.get (by decide) (s190.get (by decide) F5)))
            exact k _ (cm) ((a - v304) % 256) (x) ((p + 2) % 256) (dn + 1) (tk) (ie) (mm) (ou) (ol) (0) (by omega) (by omega) (by omega) (by omega) (by omega) (by omega) (by omega) omm oou ool (by omega) (by omega) ((((Sm.refl [50, 62, 63, 64] _).tr s190 (fun _ q => q) (by simp)).tr s193 (fun _ q => q) (by simp)).tr s306 (fun _ q => q) (by simp)) f307 f308 f309 f310
          · refine g_tabZI (8) 383 dX9_step_87 (by omega) c209 (by decide) (by decide) rfl rfl ?_
            refine g_aload_n 384 dX9_step_383 rfl rfl ?_
            refine g_aload_n 385 dX9_step_384 rfl rfl ?_
            refine g_get 388 dX9_step_385 faX9_44_X9 f194 rfl rfl ?_
            refine g_aload_n 389 dX9_step_388 rfl rfl ?_
            refine g_get 392 dX9_step_389 faX9_199_X9 f194 rfl rfl ?_
            have f311 := (s193.get (by decide) (s190.get (by decide) F3))
            refine g_ialdR 393 dX9_step_392 f311 omm (by omega) (by omega) (by decide) rfl (fun v312 rv312 => ?_)
            refine g_putC (fs1 := [.long (tr), .ref 51, .int (iZ mn), .ref 52, .ref 53, .int (iZ kt), .ref 54, .ref 55, .ref 56, .ref 57, .ref 58, .ref 59, .ref 60, .int (iZ bs), .int (iZ ee), .int (iZ pa), .int (iZ fu), .int (iZ st), .int (iZ so), .int (iZ va), .int (iZ ed), .ref 61, .ref 62, .ref 63, .ref 64, .int (iZ cm), .int (iZ v312), .int (iZ x), .int (iZ ((p + 2) % 256)), .int (iZ (dn + 1)), .int (iZ tk), .int (iZ ie), .ref 65, .ref 66, .ref 67, .int (iZ en), .ref 68, .ref 69, .ref 70]) 396 dX9_step_393 fpX9_193_X9 f194 (nle rfl) (vI _) rfl rfl (fun h313 s314 f315 => ?_)
            refine g_goto 518 dX9_step_396 rfl ?_
            refine g_iconst (v := iZ (0)) 519 dX9_step_518 rfl rfl ?_
            refine g_iret rfl dX9_step_519 ?_
            have f316 := (s314.get (by decide) f311)
            have f317 := (s314.get (by decide) (s193.get (by decide) (s190.get (by decide) F4)))
            have f318 := (s314.get (by decide) (s193.get (by decide) (s190.get (by decide) F5)))
            exact k _ (cm) (v312) (x) ((p + 2) % 256) (dn + 1) (tk) (ie) (mm) (ou) (ol) (0) (by omega) (by omega) (by omega) (by omega) (by omega) (by omega) (by omega) omm oou ool (by omega) (by omega) ((((Sm.refl [50, 62, 63, 64] _).tr s190 (fun _ q => q) (by simp)).tr s193 (fun _ q => q) (by simp)).tr s314 (fun _ q => q) (by simp)) f315 f316 f317 f318
          · refine g_tabZI (9) 399 dX9_step_87 (by omega) c209 (by decide) (by decide) rfl rfl ?_
            refine g_aload_n 400 dX9_step_399 rfl rfl ?_
            refine g_get 403 dX9_step_400 faX9_44_X9 f194 rfl rfl ?_
            refine g_aload_n 404 dX9_step_403 rfl rfl ?_
            refine g_get 407 dX9_step_404 faX9_199_X9 f194 rfl rfl ?_
            refine g_aload_n 408 dX9_step_407 rfl rfl ?_
            refine g_get 411 dX9_step_408 faX9_193_X9 f194 rfl rfl ?_
            have f319 := (s193.get (by decide) (s190.get (by decide) F3))
            refine g_iastR 412 dX9_step_411 f319 omm (by omega) (by omega) (by omega) (by decide) rfl (fun h321 g320 og320 s322 f323 => ?_)
            refine g_goto 518 dX9_step_412 rfl ?_
            refine g_iconst (v := iZ (0)) 519 dX9_step_518 rfl rfl ?_
            refine g_iret rfl dX9_step_519 ?_
            have f324 := (s322.get (by decide) f194)
            have f325 := (s322.get (by decide) (s193.get (by decide) (s190.get (by decide) F4)))
            have f326 := (s322.get (by decide) (s193.get (by decide) (s190.get (by decide) F5)))
            exact k _ (cm) (a) (x) ((p + 2) % 256) (dn + 1) (tk) (ie) (g320) (ou) (ol) (0) (by omega) (by omega) (by omega) (by omega) (by omega) (by omega) (by omega) og320 oou ool (by omega) (by omega) ((((Sm.refl [50, 62, 63, 64] _).tr s190 (fun _ q => q) (by simp)).tr s193 (fun _ q => q) (by simp)).tr s322 (fun _ q => q) (by simp)) f324 f323 f325 f326
          · refine g_tabZI (10) 415 dX9_step_87 (by omega) c209 (by decide) (by decide) rfl rfl ?_
            refine g_aload_n 416 dX9_step_415 rfl rfl ?_
            refine g_aload_n 417 dX9_step_416 rfl rfl ?_
            refine g_get 420 dX9_step_417 faX9_193_X9 f194 rfl rfl ?_
            refine g_putC (fs1 := [.long (tr), .ref 51, .int (iZ mn), .ref 52, .ref 53, .int (iZ kt), .ref 54, .ref 55, .ref 56, .ref 57, .ref 58, .ref 59, .ref 60, .int (iZ bs), .int (iZ ee), .int (iZ pa), .int (iZ fu), .int (iZ st), .int (iZ so), .int (iZ va), .int (iZ ed), .ref 61, .ref 62, .ref 63, .ref 64, .int (iZ cm), .int (iZ a), .int (iZ a), .int (iZ ((p + 2) % 256)), .int (iZ (dn + 1)), .int (iZ tk), .int (iZ ie), .ref 65, .ref 66, .ref 67, .int (iZ en), .ref 68, .ref 69, .ref 70]) 423 dX9_step_420 fpX9_199_X9 f194 (nle rfl) (vI _) rfl rfl (fun h327 s328 f329 => ?_)
            refine g_goto 518 dX9_step_423 rfl ?_
            refine g_iconst (v := iZ (0)) 519 dX9_step_518 rfl rfl ?_
            refine g_iret rfl dX9_step_519 ?_
            have f330 := (s328.get (by decide) (s193.get (by decide) (s190.get (by decide) F3)))
            have f331 := (s328.get (by decide) (s193.get (by decide) (s190.get (by decide) F4)))
            have f332 := (s328.get (by decide) (s193.get (by decide) (s190.get (by decide) F5)))
            exact k _ (cm) (a) (a) ((p + 2) % 256) (dn + 1) (tk) (ie) (mm) (ou) (ol) (0) (by omega) (by omega) (by omega) (by omega) (by omega) (by omega) (by omega) omm oou ool (by omega) (by omega) ((((Sm.refl [50, 62, 63, 64] _).tr s190 (fun _ q => q) (by simp)).tr s193 (fun _ q => q) (by simp)).tr s328 (fun _ q => q) (by simp)) f329 f330 f331 f332
          · refine g_tabZI (11) 426 dX9_step_87 (by omega) c209 (by decide) (by decide) rfl rfl ?_
            refine g_aload_n 427 dX9_step_426 rfl rfl ?_
            refine g_iload_n 428 dX9_step_427 rfl rfl ?_
            refine g_putC (fs1 := [.long (tr), .ref 51, .int (iZ mn), .ref 52, .ref 53, .int (iZ kt), .ref 54, .ref 55, .ref 56, .ref 57, .ref 58, .ref 59, .ref 60, .int (iZ bs), .int (iZ ee), .int (iZ pa), .int (iZ fu), .int (iZ st), .int (iZ so), .int (iZ va), .int (iZ ed), .ref 61, .ref 62, .ref 63, .ref 64, .int (iZ cm), .int (iZ a), .int (iZ x), .int (iZ v4), .int (iZ (dn + 1)), .int (iZ tk), .int (iZ ie), .ref 65, .ref 66, .ref 67, .int (iZ en), .ref 68, .ref 69, .ref 70]) 431 dX9_step_428 fpX9_181_X9 f194 (nle rfl) (vI _) rfl rfl (fun h333 s334 f335 => ?_)
            refine g_goto 518 dX9_step_431 rfl ?_
            refine g_iconst (v := iZ (0)) 519 dX9_step_518 rfl rfl ?_
            refine g_iret rfl dX9_step_519 ?_
            have f336 := (s334.get (by decide) (s193.get (by decide) (s190.get (by decide) F3)))
            have f337 := (s334.get (by decide) (s193.get (by decide) (s190.get (by decide) F4)))
            have f338 := (s334.get (by decide) (s193.get (by decide) (s190.get (by decide) F5)))
            exact k _ (cm) (a) (x) (v4) (dn + 1) (tk) (ie) (mm) (ou) (ol) (0) (by omega) (by omega) (by omega) (by omega) (by omega) (by omega) (by omega) omm oou ool (by omega) (by omega) ((((Sm.refl [50, 62, 63, 64] _).tr s190 (fun _ q => q) (by simp)).tr s193 (fun _ q => q) (by simp)).tr s334 (fun _ q => q) (by simp)) f335 f336 f337 f338
          · refine g_tabZI (12) 434 dX9_step_87 (by omega) c209 (by decide) (by decide) rfl rfl ?_
            refine g_aload_n 435 dX9_step_434 rfl rfl ?_
            refine g_aload_n 436 dX9_step_435 rfl rfl ?_
            refine g_get 439 dX9_step_436 faX9_193_X9 f194 rfl rfl ?_
            refine g_ifZ_ne 446 442 dX9_step_439 rfl rfl (by omega) (fun c339 => ?_) (fun c339 => ?_)
            · refine g_aload_n 447 dX9_step_446 rfl rfl ?_
              refine g_get 450 dX9_step_447 faX9_181_X9 f194 rfl rfl ?_
              refine g_putC (fs1 := [.long (tr), .ref 51, .int (iZ mn), .ref 52, .ref 53, .int (iZ kt), .ref 54, .ref 55, .ref 56, .ref 57, .ref 58, .ref 59, .ref 60, .int (iZ bs), .int (iZ ee), .int (iZ pa), .int (iZ fu), .int (iZ st), .int (iZ so), .int (iZ va), .int (iZ ed), .ref 61, .ref 62, .ref 63, .ref 64, .int (iZ cm), .int (iZ a), .int (iZ x), .int (iZ ((p + 2) % 256)), .int (iZ (dn + 1)), .int (iZ tk), .int (iZ ie), .ref 65, .ref 66, .ref 67, .int (iZ en), .ref 68, .ref 69, .ref 70]) 453 dX9_step_450 fpX9_181_X9 f194 (nle rfl) (vI _) rfl rfl (fun h340 s341 f342 => ?_)
              refine g_goto 518 dX9_step_453 rfl ?_
              refine g_iconst (v := iZ (0)) 519 dX9_step_518 rfl rfl ?_
              refine g_iret rfl dX9_step_519 ?_
              have f343 := (s341.get (by decide) (s193.get (by decide) (s190.get (by decide) F3)))
              have f344 := (s341.get (by decide) (s193.get (by decide) (s190.get (by decide) F4)))
              have f345 := (s341.get (by decide) (s193.get (by decide) (s190.get (by decide) F5)))
              exact k _ (cm) (a) (x) ((p + 2) % 256) (dn + 1) (tk) (ie) (mm) (ou) (ol) (0) (by omega) (by omega) (by omega) (by omega) (by omega) (by omega) (by omega) omm oou ool (by omega) (by omega) ((((Sm.refl [50, 62, 63, 64] _).tr s190 (fun _ q => q) (by simp)).tr s193 (fun _ q => q) (by simp)).tr s341 (fun _ q => q) (by simp)) f342 f343 f344 f345
            · refine g_iload_n 443 dX9_step_442 rfl rfl ?_
              refine g_goto 450 dX9_step_443 rfl ?_
              refine g_putC (fs1 := [.long (tr), .ref 51, .int (iZ mn), .ref 52, .ref 53, .int (iZ kt), .ref 54, .ref 55, .ref 56, .ref 57, .ref 58, .ref 59, .ref 60, .int (iZ bs), .int (iZ ee), .int (iZ pa), .int (iZ fu), .int (iZ st), .int (iZ so), .int (iZ va), .int (iZ ed), .ref 61, .ref 62, .ref 63, .ref 64, .int (iZ cm), .int (iZ a), .int (iZ x), .int (iZ v4), .int (iZ (dn + 1)), .int (iZ tk), .int (iZ ie), .ref 65, .ref 66, .ref 67, .int (iZ en), .ref 68, .ref 69, .ref 70]) 453 dX9_step_450 fpX9_181_X9 f194 (nle rfl) (vI _) rfl rfl (fun h346 s347 f348 => ?_)
              refine g_goto 518 dX9_step_453 rfl ?_
              refine g_iconst (v := iZ (0)) 519 dX9_step_518 rfl rfl ?_
              refine g_iret rfl dX9_step_519 ?_
              have f349 := (s347.get (by decide) (s193.get (by decide) (s190.get (by decide) F3)))
              have f350 := (s347.get (by decide) (s193.get (by decide) (s190.get (by decide) F4)))
              have f351 := (s347.get (by decide) (s193.get (by decide) (s190.get (by decide) F5)))
              exact k _ (cm) (a) (x) (v4) (dn + 1) (tk) (ie) (mm) (ou) (ol) (0) (by omega) (by omega) (by omega) (by omega) (by omega) (by omega) (by omega) omm oou ool (by omega) (by omega) ((((Sm.refl [50, 62, 63, 64] _).tr s190 (fun _ q => q) (by simp)).tr s193 (fun _ q => q) (by simp)).tr s347 (fun _ q => q) (by simp)) f348 f349 f350 f351
          · refine g_tabZI (13) 456 dX9_step_87 (by omega) c209 (by decide) (by decide) rfl rfl ?_
            refine g_aload_n 457 dX9_step_456 rfl rfl ?_
            refine g_aload_n 458 dX9_step_457 rfl rfl ?_
            refine g_get 461 dX9_step_458 faX9_196_X9 f194 rfl rfl ?_
            refine g_iconst (v := iZ (1)) 462 dX9_step_461 rfl rfl ?_
            refine g_icZ_ne 469 465 dX9_step_462 rfl rfl (by omega) (by decide) (fun c352 => ?_) (fun c352 => ?_)
            · refine g_aload_n 470 dX9_step_469 rfl rfl ?_
              refine g_get 473 dX9_step_470 faX9_181_X9 f194 rfl rfl ?_
              refine g_putC (fs1 := [.long (tr), .ref 51, .int (iZ mn), .ref 52, .ref 53, .int (iZ kt), .ref 54, .ref 55, .ref 56, .ref 57, .ref 58, .ref 59, .ref 60, .int (iZ bs), .int (iZ ee), .int (iZ pa), .int (iZ fu), .int (iZ st), .int (iZ so), .int (iZ va), .int (iZ ed), .ref 61, .ref 62, .ref 63, .ref 64, .int (iZ cm), .int (iZ a), .int (iZ x), .int (iZ ((p + 2) % 256)), .int (iZ (dn + 1)), .int (iZ tk), .int (iZ ie), .ref 65, .ref 66, .ref 67, .int (iZ en), .ref 68, .ref 69, .ref 70]) 476 dX9_step_473 fpX9_181_X9 f194 (nle rfl) (vI _) rfl rfl (fun h353 s354 f355 => ?_)
              refine g_goto 518 dX9_step_476 rfl ?_
              refine g_iconst (v := iZ (0)) 519 dX9_step_518 rfl rfl ?_
              refine g_iret rfl dX9_step_519 ?_
              have f356 := (s354.get (by decide) (s193.get (by decide) (s190.get (by decide) F3)))
              have f357 := (s354.get (by decide) (s193.get (by decide) (s190.get (by decide) F4)))
              have f358 := (s354.get (by decide) (s193.get (by decide) (s190.get (by decide) F5)))
              exact k _ (cm) (a) (x) ((p + 2) % 256) (dn + 1) (tk) (ie) (mm) (ou) (ol) (0) (by omega) (by omega) (by omega) (by omega) (by omega) (by omega) (by omega) omm oou ool (by omega) (by omega) ((((Sm.refl [50, 62, 63, 64] _).tr s190 (fun _ q => q) (by simp)).tr s193 (fun _ q => q) (by simp)).tr s354 (fun _ q => q) (by simp)) f355 f356 f357 f358
            · refine g_iload_n 466 dX9_step_465 rfl rfl ?_
              refine g_goto 473 dX9_step_466 rfl ?_
              refine g_putC (fs1 := [.long (tr), .ref 51, .int (iZ mn), .ref 52, .ref 53, .int (iZ kt), .ref 54, .ref 55, .ref 56, .ref 57, .ref 58, .ref 59, .ref 60, .int (iZ bs), .int (iZ ee), .int (iZ pa), .int (iZ fu), .int (iZ st), .int (iZ so), .int (iZ va), .int (iZ ed), .ref 61, .ref 62, .ref 63, .ref 64, .int (iZ cm), .int (iZ a), .int (iZ x), .int (iZ v4), .int (iZ (dn + 1)), .int (iZ tk), .int (iZ ie), .ref 65, .ref 66, .ref 67, .int (iZ en), .ref 68, .ref 69, .ref 70]) 476 dX9_step_473 fpX9_181_X9 f194 (nle rfl) (vI _) rfl rfl (fun h359 s360 f361 => ?_)
              refine g_goto 518 dX9_step_476 rfl ?_
              refine g_iconst (v := iZ (0)) 519 dX9_step_518 rfl rfl ?_
              refine g_iret rfl dX9_step_519 ?_
              have f362 := (s360.get (by decide) (s193.get (by decide) (s190.get (by decide) F3)))
              have f363 := (s360.get (by decide) (s193.get (by decide) (s190.get (by decide) F4)))
              have f364 := (s360.get (by decide) (s193.get (by decide) (s190.get (by decide) F5)))
              exact k _ (cm) (a) (x) (v4) (dn + 1) (tk) (ie) (mm) (ou) (ol) (0) (by omega) (by omega) (by omega) (by omega) (by omega) (by omega) (by omega) omm oou ool (by omega) (by omega) ((((Sm.refl [50, 62, 63, 64] _).tr s190 (fun _ q => q) (by simp)).tr s193 (fun _ q => q) (by simp)).tr s360 (fun _ q => q) (by simp)) f361 f362 f363 f364
          · refine g_tabZI (14) 479 dX9_step_87 (by omega) c209 (by decide) (by decide) rfl rfl ?_
            refine g_aload_n 480 dX9_step_479 rfl rfl ?_
            refine g_aload_n 481 dX9_step_480 rfl rfl ?_
            refine g_get 484 dX9_step_481 faX9_193_X9 f194 rfl rfl ?_
            refine g_iload_n 485 dX9_step_484 rfl rfl ?_
            refine g_iaddZ (a + v4) 486 dX9_step_485 (by omega) rfl ?_
            refine g_sipush (v := iZ (255)) 489 dX9_step_486 (by decide +kernel) rfl ?_
            refine g_and255Z ((a + v4) % 256) 490 dX9_step_489 rfl rfl ?_
            refine g_putC (fs1 := [.long (tr), .ref 51, .int (iZ mn), .ref 52, .ref 53, .int (iZ kt), .ref 54, .ref 55, .ref 56, .ref 57, .ref 58, .ref 59, .ref 60, .int (iZ bs), .int (iZ ee), .int (iZ pa), .int (iZ fu), .int (iZ st), .int (iZ so), .int (iZ va), .int (iZ ed), .ref 61, .ref 62, .ref 63, .ref 64, .int (iZ cm), .int (iZ ((a + v4) % 256)), .int (iZ x), .int (iZ ((p + 2) % 256)), .int (iZ (dn + 1)), .int (iZ tk), .int (iZ ie), .ref 65, .ref 66, .ref 67, .int (iZ en), .ref 68, .ref 69, .ref 70]) 493 dX9_step_490 fpX9_193_X9 f194 (nle rfl) (vI _) rfl rfl (fun h365 s366 f367 => ?_)
            refine g_goto 518 dX9_step_493 rfl ?_
            refine g_iconst (v := iZ (0)) 519 dX9_step_518 rfl rfl ?_
            refine g_iret rfl dX9_step_519 ?_
            have f368 := (s366.get (by decide) (s193.get (by decide) (s190.get (by decide) F3)))
            have f369 := (s366.get (by decide) (s193.get (by decide) (s190.get (by decide) F4)))
            have f370 := (s366.get (by decide) (s193.get (by decide) (s190.get (by decide) F5)))
            exact k _ (cm) ((a + v4) % 256) (x) ((p + 2) % 256) (dn + 1) (tk) (ie) (mm) (ou) (ol) (0) (by omega) (by omega) (by omega) (by omega) (by omega) (by omega) (by omega) omm oou ool (by omega) (by omega) ((((Sm.refl [50, 62, 63, 64] _).tr s190 (fun _ q => q) (by simp)).tr s193 (fun _ q => q) (by simp)).tr s366 (fun _ q => q) (by simp)) f367 f368 f369 f370
    · refine g_aload_n 24 dX9_step_23 rfl rfl ?_
      refine g_get 27 dX9_step_24 faX9_184_X9 F0 rfl rfl ?_
      refine g_sipush (v := iZ (256)) 30 dX9_step_27 (by decide +kernel) rfl ?_
      refine g_icZ_ne 35 33 dX9_step_30 rfl rfl (by omega) (by decide) (fun c371 => ?_) (fun c371 => ?_)
      · refine g_aload_n 36 dX9_step_35 rfl rfl ?_
        refine g_get 39 dX9_step_36 faX9_44_X9 F0 rfl rfl ?_
        refine g_aload_n 40 dX9_step_39 rfl rfl ?_
        refine g_get 43 dX9_step_40 faX9_181_X9 F0 rfl rfl ?_
        refine g_iconst (v := iZ (1)) 44 dX9_step_43 rfl rfl ?_
        refine g_iaddZ (p + 1) 45 dX9_step_44 (by omega) rfl ?_
        refine g_sipush (v := iZ (255)) 48 dX9_step_45 (by decide +kernel) rfl ?_
        refine g_and255Z ((p + 1) % 256) 49 dX9_step_48 rfl rfl ?_
        refine g_ialdR 50 dX9_step_49 F3 omm (by omega) (by omega) (by decide) rfl (fun v372 rv372 => ?_)
        refine g_istore_n (L1 := [some (.ref 50), some (.int (iZ i)), some (.int (iZ v1)), some (.int (iZ v372)), none]) 51 dX9_step_50 (by decide) rfl rfl rfl ?_
        refine g_aload_n 52 dX9_step_51 rfl rfl ?_
        refine g_aload_n 53 dX9_step_52 rfl rfl ?_
        refine g_get 56 dX9_step_53 faX9_181_X9 F0 rfl rfl ?_
        refine g_iload_n 57 dX9_step_56 rfl rfl ?_
        refine g_callS (z := mX9_hasNumber) (As := [.int (iZ v1)]) 60 dX9_step_57 mwX9_hasNumber ⟨by decide, by decide⟩ rfl wlX9_154 wtX9_hasNumber rfl (nle rfl) (nle rfl) rfl ?_
        refine n_hasn  (by omega) (fun z373 rz373 => ?_)
        refine rI ?_
        refine g_ifZ_eq 67 63 dX9_step_60 rfl rfl (rg01 rz373) (fun c374 => ?_) (fun c374 => ?_)
        · refine g_iconst (v := iZ (1)) 68 dX9_step_67 rfl rfl ?_
          refine g_iaddZ (p + 1) 69 dX9_step_68 (by omega) rfl ?_
          refine g_sipush (v := iZ (255)) 72 dX9_step_69 (by decide +kernel) rfl ?_
          refine g_and255Z ((p + 1) % 256) 73 dX9_step_72 rfl rfl ?_
          refine g_putC (fs1 := [.long (tr), .ref 51, .int (iZ mn), .ref 52, .ref 53, .int (iZ kt), .ref 54, .ref 55, .ref 56, .ref 57, .ref 58, .ref 59, .ref 60, .int (iZ bs), .int (iZ ee), .int (iZ pa), .int (iZ fu), .int (iZ st), .int (iZ so), .int (iZ va), .int (iZ ed), .ref 61, .ref 62, .ref 63, .ref 64, .int (iZ cm), .int (iZ a), .int (iZ x), .int (iZ ((p + 1) % 256)), .int (iZ dn), .int (iZ tk), .int (iZ ie), .ref 65, .ref 66, .ref 67, .int (iZ en), .ref 68, .ref 69, .ref 70]) 76 dX9_step_73 fpX9_181_X9 F0 (nle rfl) (vI _) rfl rfl (fun h375 s376 f377 => ?_)
          refine g_aload_n 77 dX9_step_76 rfl rfl ?_
          refine g_dup 78 dX9_step_77 rfl rfl ?_
          refine g_get 81 dX9_step_78 faX9_187_X9 f377 rfl rfl ?_
          refine g_iconst (v := iZ (1)) 82 dX9_step_81 rfl rfl ?_
          refine g_iaddZ (dn + 1) 83 dX9_step_82 (by omega) rfl ?_
          refine g_putC (fs1 := [.long (tr), .ref 51, .int (iZ mn), .ref 52, .ref 53, .int (iZ kt), .ref 54, .ref 55, .ref 56, .ref 57, .ref 58, .ref 59, .ref 60, .int (iZ bs), .int (iZ ee), .int (iZ pa), .int (iZ fu), .int (iZ st), .int (iZ so), .int (iZ va), .int (iZ ed), .ref 61, .ref 62, .ref 63, .ref 64, .int (iZ cm), .int (iZ a), .int (iZ x), .int (iZ ((p + 1) % 256)), .int (iZ (dn + 1)), .int (iZ tk), .int (iZ ie), .ref 65, .ref 66, .ref 67, .int (iZ en), .ref 68, .ref 69, .ref 70]) 86 dX9_step_83 fpX9_187_X9 f377 (nle rfl) (vI _) rfl rfl (fun h378 s379 f380 => ?_)
          refine g_iload_n 87 dX9_step_86 rfl rfl ?_
          refine g_tabZI (2) 253 dX9_step_87 (by omega) (by omega) (by decide) (by decide) rfl rfl ?_
          refine g_aload_n 254 dX9_step_253 rfl rfl ?_
          refine g_get 257 dX9_step_254 faX9_47_X9 f380 rfl rfl ?_
          refine g_aload_n 258 dX9_step_257 rfl rfl ?_
          refine g_get 261 dX9_step_258 faX9_184_X9 f380 rfl rfl ?_
          refine g_aload_n 262 dX9_step_261 rfl rfl ?_
          refine g_get 265 dX9_step_262 faX9_193_X9 f380 rfl rfl ?_
          have f381 := (s379.get (by decide) (s376.get (by decide) F4))
          refine g_iastR 266 dX9_step_265 f381 oou (by omega) (by omega) (by omega) (by decide) rfl (fun h383 g382 og382 s384 f385 => ?_)
          refine g_aload_n 267 dX9_step_266 rfl rfl ?_
          have f386 := (s384.get (by decide) f380)
          refine g_get 270 dX9_step_267 faX9_50_X9 f386 rfl rfl ?_
          refine g_aload_n 271 dX9_step_270 rfl rfl ?_
          refine g_get 274 dX9_step_271 faX9_184_X9 f386 rfl rfl ?_
          refine g_aload_n 275 dX9_step_274 rfl rfl ?_
          refine g_get 278 dX9_step_275 faX9_190_X9 f386 rfl rfl ?_
          refine g_ifZ_ne 285 281 dX9_step_278 rfl rfl (by omega) (fun c387 => ?_) (fun c387 => ?_)
          · refine g_aload_n 286 dX9_step_285 rfl rfl ?_
            refine g_get 289 dX9_step_286 faX9_190_X9 f386 rfl rfl ?_
            refine g_iconst (v := iZ (1)) 290 dX9_step_289 rfl rfl ?_
            refine g_isubZ (tk - 1) 291 dX9_step_290 (by omega) rfl ?_
            have f388 := (s384.get (by decide) (s379.get (by decide) (s376.get (by decide) F5)))
            refine g_iastR 292 dX9_step_291 f388 ool (by omega) (by omega) (by omega) (by decide) rfl (fun h390 g389 og389 s391 f392 => ?_)
            refine g_aload_n 293 dX9_step_292 rfl rfl ?_
            refine g_dup 294 dX9_step_293 rfl rfl ?_
            have f393 := (s391.get (by decide) f386)
            refine g_get 297 dX9_step_294 faX9_184_X9 f393 rfl rfl ?_
            refine g_iconst (v := iZ (1)) 298 dX9_step_297 rfl rfl ?_
            refine g_iaddZ (cm + 1) 299 dX9_step_298 (by omega) rfl ?_
            refine g_putC (fs1 := [.long (tr), .ref 51, .int (iZ mn), .ref 52, .ref 53, .int (iZ kt), .ref 54, .ref 55, .ref 56, .ref 57, .ref 58, .ref 59, .ref 60, .int (iZ bs), .int (iZ ee), .int (iZ pa), .int (iZ fu), .int (iZ st), .int (iZ so), .int (iZ va), .int (iZ ed), .ref 61, .ref 62, .ref 63, .ref 64, .int (iZ (cm + 1)), .int (iZ a), .int (iZ x), .int (iZ ((p + 1) % 256)), .int (iZ (dn + 1)), .int (iZ tk), .int (iZ ie), .ref 65, .ref 66, .ref 67, .int (iZ en), .ref 68, .ref 69, .ref 70]) 302 dX9_step_299 fpX9_184_X9 f393 (nle rfl) (vI _) rfl rfl (fun h394 s395 f396 => ?_)
            refine g_goto 518 dX9_step_302 rfl ?_
            refine g_iconst (v := iZ (0)) 519 dX9_step_518 rfl rfl ?_
            refine g_iret rfl dX9_step_519 ?_
            have f397 := (s395.get (by decide) (s391.get (by decide) (s384.get (by decide) (s379.get (by decide) (s376.get (by decide) F3)))))
            have f398 := (s395.get (by decide) (s391.get (by decide) f385))
            have f399 := (s395.get (by decide) f392)
            exact k _ (cm + 1) (a) (x) ((p + 1) % 256) (dn + 1) (tk) (ie) (mm) (g382) (g389) (0) (by omega) (by omega) (by omega) (by omega) (by omega) (by omega) (by omega) omm og382 og389 (by omega) (by omega) ((((((Sm.refl [50, 62, 63, 64] _).tr s376 (fun _ q => q) (by simp)).tr s379 (fun _ q => q) (by simp)).tr s384 (fun _ q => q) (by simp)).tr s391 (fun _ q => q) (by simp)).tr s395 (fun _ q => q) (by simp)) f396 f397 f398 f399
          · refine g_iconst (v := iZ (0)) 282 dX9_step_281 rfl rfl ?_
            refine g_goto 291 dX9_step_282 rfl ?_
            have f400 := (s384.get (by decide) (s379.get (by decide) (s376.get (by decide) F5)))
            refine g_iastR 292 dX9_step_291 f400 ool (by omega) (by omega) (by omega) (by decide) rfl (fun h402 g401 og401 s403 f404 => ?_)
            refine g_aload_n 293 dX9_step_292 rfl rfl ?_
            refine g_dup 294 dX9_step_293 rfl rfl ?_
            have f405 := (s403.get (by decide) f386)
            refine g_get 297 dX9_step_294 faX9_184_X9 f405 rfl rfl ?_
            refine g_iconst (v := iZ (1)) 298 dX9_step_297 rfl rfl ?_
            refine g_iaddZ (cm + 1) 299 dX9_step_298 (by omega) rfl ?_
            refine g_putC (fs1 := [.long (tr), .ref 51, .int (iZ mn), .ref 52, .ref 53, .int (iZ kt), .ref 54, .ref 55, .ref 56, .ref 57, .ref 58, .ref 59, .ref 60, .int (iZ bs), .int (iZ ee), .int (iZ pa), .int (iZ fu), .int (iZ st), .int (iZ so), .int (iZ va), .int (iZ ed), .ref 61, .ref 62, .ref 63, .ref 64, .int (iZ (cm + 1)), .int (iZ a), .int (iZ x), .int (iZ ((p + 1) % 256)), .int (iZ (dn + 1)), .int (iZ tk), .int (iZ ie), .ref 65, .ref 66, .ref 67, .int (iZ en), .ref 68, .ref 69, .ref 70]) 302 dX9_step_299 fpX9_184_X9 f405 (nle rfl) (vI _) rfl rfl (fun h406 s407 f408 => ?_)
            refine g_goto 518 dX9_step_302 rfl ?_
            refine g_iconst (v := iZ (0)) 519 dX9_step_518 rfl rfl ?_
            refine g_iret rfl dX9_step_519 ?_
            have f409 := (s407.get (by decide) (s403.get (by decide) (s384.get (by decide) (s379.get (by decide) (s376.get (by decide) F3)))))
            have f410 := (s407.get (by decide) (s403.get (by decide) f385))
            have f411 := (s407.get (by decide) f404)
            exact k _ (cm + 1) (a) (x) ((p + 1) % 256) (dn + 1) (tk) (ie) (mm) (g382) (g401) (0) (by omega) (by omega) (by omega) (by omega) (by omega) (by omega) (by omega) omm og382 og401 (by omega) (by omega) ((((((Sm.refl [50, 62, 63, 64] _).tr s376 (fun _ q => q) (by simp)).tr s379 (fun _ q => q) (by simp)).tr s384 (fun _ q => q) (by simp)).tr s403 (fun _ q => q) (by simp)).tr s407 (fun _ q => q) (by simp)) f408 f409 f410 f411
        · refine g_iconst (v := iZ (2)) 64 dX9_step_63 rfl rfl ?_
          refine g_goto 68 dX9_step_64 rfl ?_
          refine g_iaddZ (p + 2) 69 dX9_step_68 (by omega) rfl ?_
          refine g_sipush (v := iZ (255)) 72 dX9_step_69 (by decide +kernel) rfl ?_
          refine g_and255Z ((p + 2) % 256) 73 dX9_step_72 rfl rfl ?_
          refine g_putC (fs1 := [.long (tr), .ref 51, .int (iZ mn), .ref 52, .ref 53, .int (iZ kt), .ref 54, .ref 55, .ref 56, .ref 57, .ref 58, .ref 59, .ref 60, .int (iZ bs), .int (iZ ee), .int (iZ pa), .int (iZ fu), .int (iZ st), .int (iZ so), .int (iZ va), .int (iZ ed), .ref 61, .ref 62, .ref 63, .ref 64, .int (iZ cm), .int (iZ a), .int (iZ x), .int (iZ ((p + 2) % 256)), .int (iZ dn), .int (iZ tk), .int (iZ ie), .ref 65, .ref 66, .ref 67, .int (iZ en), .ref 68, .ref 69, .ref 70]) 76 dX9_step_73 fpX9_181_X9 F0 (nle rfl) (vI _) rfl rfl (fun h412 s413 f414 => ?_)
          refine g_aload_n 77 dX9_step_76 rfl rfl ?_
          refine g_dup 78 dX9_step_77 rfl rfl ?_
          refine g_get 81 dX9_step_78 faX9_187_X9 f414 rfl rfl ?_
          refine g_iconst (v := iZ (1)) 82 dX9_step_81 rfl rfl ?_
          refine g_iaddZ (dn + 1) 83 dX9_step_82 (by omega) rfl ?_
          refine g_putC (fs1 := [.long (tr), .ref 51, .int (iZ mn), .ref 52, .ref 53, .int (iZ kt), .ref 54, .ref 55, .ref 56, .ref 57, .ref 58, .ref 59, .ref 60, .int (iZ bs), .int (iZ ee), .int (iZ pa), .int (iZ fu), .int (iZ st), .int (iZ so), .int (iZ va), .int (iZ ed), .ref 61, .ref 62, .ref 63, .ref 64, .int (iZ cm), .int (iZ a), .int (iZ x), .int (iZ ((p + 2) % 256)), .int (iZ (dn + 1)), .int (iZ tk), .int (iZ ie), .ref 65, .ref 66, .ref 67, .int (iZ en), .ref 68, .ref 69, .ref 70]) 86 dX9_step_83 fpX9_187_X9 f414 (nle rfl) (vI _) rfl rfl (fun h415 s416 f417 => ?_)
          refine g_iload_n 87 dX9_step_86 rfl rfl ?_
          refine g_tabZI (2) 253 dX9_step_87 (by omega) (by omega) (by decide) (by decide) rfl rfl ?_
          refine g_aload_n 254 dX9_step_253 rfl rfl ?_
          refine g_get 257 dX9_step_254 faX9_47_X9 f417 rfl rfl ?_
          refine g_aload_n 258 dX9_step_257 rfl rfl ?_
          refine g_get 261 dX9_step_258 faX9_184_X9 f417 rfl rfl ?_
          refine g_aload_n 262 dX9_step_261 rfl rfl ?_
          refine g_get 265 dX9_step_262 faX9_193_X9 f417 rfl rfl ?_
          have f418 := (s416.get (by decide) (s413.get (by decide) F4))
          refine g_iastR 266 dX9_step_265 f418 oou (by omega) (by omega) (by omega) (by decide) rfl (fun h420 g419 og419 s421 f422 => ?_)
          refine g_aload_n 267 dX9_step_266 rfl rfl ?_
          have f423 := (s421.get (by decide) f417)
          refine g_get 270 dX9_step_267 faX9_50_X9 f423 rfl rfl ?_
          refine g_aload_n 271 dX9_step_270 rfl rfl ?_
          refine g_get 274 dX9_step_271 faX9_184_X9 f423 rfl rfl ?_
          refine g_aload_n 275 dX9_step_274 rfl rfl ?_
          refine g_get 278 dX9_step_275 faX9_190_X9 f423 rfl rfl ?_
          refine g_ifZ_ne 285 281 dX9_step_278 rfl rfl (by omega) (fun c424 => ?_) (fun c424 => ?_)
          · refine g_aload_n 286 dX9_step_285 rfl rfl ?_
            refine g_get 289 dX9_step_286 faX9_190_X9 f423 rfl rfl ?_
            refine g_iconst (v := iZ (1)) 290 dX9_step_289 rfl rfl ?_
            refine g_isubZ (tk - 1) 291 dX9_step_290 (by omega) rfl ?_
            have f425 := (s421.get (by decide) (s416.get (by decide) (s413.get (by decide) F5)))
            refine g_iastR 292 dX9_step_291 f425 ool (by omega) (by omega) (by omega) (by decide) rfl (fun h427 g426 og426 s428 f429 => ?_)
            refine g_aload_n 293 dX9_step_292 rfl rfl ?_
            refine g_dup 294 dX9_step_293 rfl rfl ?_
            have f430 := (s428.get (by decide) f423)
            refine g_get 297 dX9_step_294 faX9_184_X9 f430 rfl rfl ?_
            refine g_iconst (v := iZ (1)) 298 dX9_step_297 rfl rfl ?_
            refine g_iaddZ (cm + 1) 299 dX9_step_298 (by omega) rfl ?_
            refine g_putC (fs1 := [.long (tr), .ref 51, .int (iZ mn), .ref 52, .ref 53, .int (iZ kt), .ref 54, .ref 55, .ref 56, .ref 57, .ref 58, .ref 59, .ref 60, .int (iZ bs), .int (iZ ee), .int (iZ pa), .int (iZ fu), .int (iZ st), .int (iZ so), .int (iZ va), .int (iZ ed), .ref 61, .ref 62, .ref 63, .ref 64, .int (iZ (cm + 1)), .int (iZ a), .int (iZ x), .int (iZ ((p + 2) % 256)), .int (iZ (dn + 1)), .int (iZ tk), .int (iZ ie), .ref 65, .ref 66, .ref 67, .int (iZ en), .ref 68, .ref 69, .ref 70]) 302 dX9_step_299 fpX9_184_X9 f430 (nle rfl) (vI _) rfl rfl (fun h431 s432 f433 => ?_)
            refine g_goto 518 dX9_step_302 rfl ?_
            refine g_iconst (v := iZ (0)) 519 dX9_step_518 rfl rfl ?_
            refine g_iret rfl dX9_step_519 ?_
            have f434 := (s432.get (by decide) (s428.get (by decide) (s421.get (by decide) (s416.get (by decide) (s413.get (by decide) F3)))))
            have f435 := (s432.get (by decide) (s428.get (by decide) f422))
            have f436 := (s432.get (by decide) f429)
            exact k _ (cm + 1) (a) (x) ((p + 2) % 256) (dn + 1) (tk) (ie) (mm) (g419) (g426) (0) (by omega) (by omega) (by omega) (by omega) (by omega) (by omega) (by omega) omm og419 og426 (by omega) (by omega) ((((((Sm.refl [50, 62, 63, 64] _).tr s413 (fun _ q => q) (by simp)).tr s416 (fun _ q => q) (by simp)).tr s421 (fun _ q => q) (by simp)).tr s428 (fun _ q => q) (by simp)).tr s432 (fun _ q => q) (by simp)) f433 f434 f435 f436
          · refine g_iconst (v := iZ (0)) 282 dX9_step_281 rfl rfl ?_
            refine g_goto 291 dX9_step_282 rfl ?_
            have f437 := (s421.get (by decide) (s416.get (by decide) (s413.get (by decide) F5)))
            refine g_iastR 292 dX9_step_291 f437 ool (by omega) (by omega) (by omega) (by decide) rfl (fun h439 g438 og438 s440 f441 => ?_)
            refine g_aload_n 293 dX9_step_292 rfl rfl ?_
            refine g_dup 294 dX9_step_293 rfl rfl ?_
            have f442 := (s440.get (by decide) f423)
            refine g_get 297 dX9_step_294 faX9_184_X9 f442 rfl rfl ?_
            refine g_iconst (v := iZ (1)) 298 dX9_step_297 rfl rfl ?_
            refine g_iaddZ (cm + 1) 299 dX9_step_298 (by omega) rfl ?_
            refine g_putC (fs1 := [.long (tr), .ref 51, .int (iZ mn), .ref 52, .ref 53, .int (iZ kt), .ref 54, .ref 55, .ref 56, .ref 57, .ref 58, .ref 59, .ref 60, .int (iZ bs), .int (iZ ee), .int (iZ pa), .int (iZ fu), .int (iZ st), .int (iZ so), .int (iZ va), .int (iZ ed), .ref 61, .ref 62, .ref 63, .ref 64, .int (iZ (cm + 1)), .int (iZ a), .int (iZ x), .int (iZ ((p + 2) % 256)), .int (iZ (dn + 1)), .int (iZ tk), .int (iZ ie), .ref 65, .ref 66, .ref 67, .int (iZ en), .ref 68, .ref 69, .ref 70]) 302 dX9_step_299 fpX9_184_X9 f442 (nle rfl) (vI _) rfl rfl (fun h443 s444 f445 => ?_)
            refine g_goto 518 dX9_step_302 rfl ?_
            refine g_iconst (v := iZ (0)) 519 dX9_step_518 rfl rfl ?_
            refine g_iret rfl dX9_step_519 ?_
            have f446 := (s444.get (by decide) (s440.get (by decide) (s421.get (by decide) (s416.get (by decide) (s413.get (by decide) F3)))))
            have f447 := (s444.get (by decide) (s440.get (by decide) f422))
            have f448 := (s444.get (by decide) f441)
            exact k _ (cm + 1) (a) (x) ((p + 2) % 256) (dn + 1) (tk) (ie) (mm) (g419) (g438) (0) (by omega) (by omega) (by omega) (by omega) (by omega) (by omega) (by omega) omm og419 og438 (by omega) (by omega) ((((((Sm.refl [50, 62, 63, 64] _).tr s413 (fun _ q => q) (by simp)).tr s416 (fun _ q => q) (by simp)).tr s421 (fun _ q => q) (by simp)).tr s440 (fun _ q => q) (by simp)).tr s444 (fun _ q => q) (by simp)) f445 f446 f447 f448
      · refine g_iconst (v := iZ (2)) 34 dX9_step_33 rfl rfl ?_
        refine g_iret rfl dX9_step_34 ?_
        exact k _ (cm) (a) (x) (p) (dn) (tk) (ie) (mm) (ou) (ol) (2) (by omega) (by omega) (by omega) (by omega) (by omega) (by omega) (by omega) omm oou ool (by omega) (by omega) (Sm.refl [50, 62, 63, 64] _) F0 F3 F4 F5
  · refine g_iconst (v := iZ (1)) 17 dX9_step_16 rfl rfl ?_
    refine g_iret rfl dX9_step_17 ?_
    exact k _ (cm) (a) (x) (p) (dn) (tk) (ie) (mm) (ou) (ol) (1) (by omega) (by omega) (by omega) (by omega) (by omega) (by omega) (by omega) omm oou ool (by omega) (by omega) (Sm.refl [50, 62, 63, 64] _) F0 F3 F4 F5

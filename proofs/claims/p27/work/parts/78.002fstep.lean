set_option maxRecDepth 100000 in
theorem f_hasn {l : Launch} {h : MH} {Q : Option Value → MH → Prop} {v : Int} (rv : rg v) (k : ∀ (r : Int), ((r = 1 ∧ ((3 ≤ v ∧ v ≤ 7) ∨ (11 ≤ v ∧ v ≤ 15))) ∨ (r = 0 ∧ ¬ ((3 ≤ v ∧ v ≤ 7) ∨ (11 ≤ v ∧ v ≤ 15)))) → Q (some (.int (iZ r))) h) : Go l mX9_hasNumber 0 [some (.int (iZ v))] [] h Q := by
  refine g_iload_n 1 dX9_hasNumber_0 rfl rfl ?_
  refine g_iconst (v := iZ (3)) 2 dX9_hasNumber_1 rfl rfl ?_
  refine g_bipush (v := iZ (7)) 4 dX9_hasNumber_2 (by decide +kernel) rfl ?_
  refine g_callS (z := mX9_in) (As := [.int (iZ v), .int (iZ 3), .int (iZ 7)]) 7 dX9_hasNumber_4 mwX9_in ⟨by decide, by decide⟩ rfl wlX9_75 wtX9_in rfl (nle rfl) (nle rfl) rfl ?_
  refine n_in  rv (by decide) (by decide) (fun z1 rz1 => ?_)
  refine rI ?_
  refine g_ifZ_ne 21 10 dX9_hasNumber_7 rfl rfl (rg01 (by omega)) (fun c2 => ?_) (fun c2 => ?_)
  · refine g_iconst (v := iZ (1)) 22 dX9_hasNumber_21 rfl rfl ?_
    refine g_goto 26 dX9_hasNumber_22 rfl ?_
    refine g_zret rfl z01_1 dX9_hasNumber_26 ?_
    exact k (1) (by omega)
  · refine g_iload_n 11 dX9_hasNumber_10 rfl rfl ?_
    refine g_bipush (v := iZ (11)) 13 dX9_hasNumber_11 (by decide +kernel) rfl ?_
    refine g_bipush (v := iZ (15)) 15 dX9_hasNumber_13 (by decide +kernel) rfl ?_
    refine g_callS (z := mX9_in) (As := [.int (iZ v), .int (iZ 11), .int (iZ 15)]) 18 dX9_hasNumber_15 mwX9_in ⟨by decide, by decide⟩ rfl wlX9_75 wtX9_in rfl (nle rfl) (nle rfl) rfl ?_
    refine n_in  rv (by decide) (by decide) (fun z3 rz3 => ?_)
    refine rI ?_
    refine g_ifZ_eq 25 21 dX9_hasNumber_18 rfl rfl (rg01 (by omega)) (fun c4 => ?_) (fun c4 => ?_)
    · refine g_iconst (v := iZ (0)) 26 dX9_hasNumber_25 rfl rfl ?_
      refine g_zret rfl z01_0 dX9_hasNumber_26 ?_
      exact k (0) (by omega)
    · refine g_iconst (v := iZ (1)) 22 dX9_hasNumber_21 rfl rfl ?_
      refine g_goto 26 dX9_hasNumber_22 rfl ?_
      refine g_zret rfl z01_1 dX9_hasNumber_26 ?_
      exact k (1) (by omega)
set_option maxRecDepth 100000 in
theorem f_step {l : Launch} {h : MH} {Q : Option Value → MH → Prop} {tr : Int64} {mn kt bs ee pa fu st so va ed cm a x p dn tk ie en i : Int} {lg mm ou ol : Nat → Int} {tx : Nat → Int32} (F0 : h[50]? = some (.inr (8, [.long (tr), .ref 51, .int (iZ mn), .ref 52, .ref 53, .int (iZ kt), .ref 54, .ref 55, .ref 56, .ref 57, .ref 58, .ref 59, .ref 60, .int (iZ bs), .int (iZ ee), .int (iZ pa), .int (iZ fu), .int (iZ st), .int (iZ so), .int (iZ va), .int (iZ ed), .ref 61, .ref 62, .ref 63, .ref 64, .int (iZ cm), .int (iZ a), .int (iZ x), .int (iZ p), .int (iZ dn), .int (iZ tk), .int (iZ ie), .ref 65, .ref 66, .ref 67, .int (iZ en), .ref 68, .ref 69, .ref 70]))) (F1 : h[52]? = some (.inl (1, 1600, .inl tx))) (F2 : h[53]? = some (.inl (0, 8, .inl (zA lg)))) (F3 : h[62]? = some (.inl (0, 256, .inl (zA mm)))) (F4 : h[63]? = some (.inl (0, 256, .inl (zA ou)))) (F5 : h[64]? = some (.inl (0, 256, .inl (zA ol)))) (olg : oki (0) (200) lg) (omm : oki (0) (255) mm) (oou : oki (0) (255) ou) (ool : oki (0) (300) ol) (rmn : (0 ≤ mn ∧ mn ≤ 200)) (rkt : (0 ≤ kt ∧ kt ≤ 12)) (rbs : (0 ≤ bs ∧ bs ≤ 1400)) (ree : (0 ≤ ee ∧ ee ≤ 200)) (rpa : (0 ≤ pa ∧ pa ≤ 200)) (rfu : (-9 ≤ fu ∧ fu ≤ 200)) (rst : (0 ≤ st ∧ st ≤ 200)) (rso : (0 ≤ so ∧ so ≤ 5)) (rva : (-100 ≤ va ∧ va ≤ 3000)) (red : (0 ≤ ed ∧ ed ≤ 200)) (rcm : (0 ≤ cm ∧ cm ≤ 256)) (ra : (0 ≤ a ∧ a ≤ 255)) (rx : (0 ≤ x ∧ x ≤ 255)) (rp : (0 ≤ p ∧ p ≤ 255)) (rdn : (0 ≤ dn ∧ dn ≤ 5000)) (rtk : (0 ≤ tk ∧ tk ≤ 200)) (rie : (0 ≤ ie ∧ ie ≤ 1)) (ren : (0 ≤ en ∧ en ≤ 12)) (ri : (0 ≤ i ∧ i ≤ 7)) (hdn : dn < 5000) (k : ∀ (h1 : MH) (cm_1 a_1 x_1 p_1 dn_1 tk_1 ie_1 : Int) (mm_1 : Nat → Int) (ou_1 : Nat → Int) (ol_1 : Nat → Int) (r : Int), (0 ≤ cm_1 ∧ cm_1 ≤ 256) → (0 ≤ a_1 ∧ a_1 ≤ 255) → (0 ≤ x_1 ∧ x_1 ≤ 255) → (0 ≤ p_1 ∧ p_1 ≤ 255) → (0 ≤ dn_1 ∧ dn_1 ≤ 5000) → (0 ≤ tk_1 ∧ tk_1 ≤ 200) → (0 ≤ ie_1 ∧ ie_1 ≤ 1) → oki (0) (255) mm_1 → oki (0) (255) ou_1 → oki (0) (300) ol_1 → (r = -1 ∨ (0 ≤ r ∧ r ≤ 2)) → (stpR (lg i.toNat) (fun j => hb tx (200 * i + j)) r a x p ie dn tk cm mm ou ol a_1 x_1 p_1 ie_1 dn_1 tk_1 cm_1 mm_1 ou_1 ol_1) → Sm [50, 62, 63, 64] h h1 → h1[50]? = some (.inr (8, [.long (tr), .ref 51, .int (iZ mn), .ref 52, .ref 53, .int (iZ kt), .ref 54, .ref 55, .ref 56, .ref 57, .ref 58, .ref 59, .ref 60, .int (iZ bs), .int (iZ ee), .int (iZ pa), .int (iZ fu), .int (iZ st), .int (iZ so), .int (iZ va), .int (iZ ed), .ref 61, .ref 62, .ref 63, .ref 64, .int (iZ cm_1), .int (iZ a_1), .int (iZ x_1), .int (iZ p_1), .int (iZ dn_1), .int (iZ tk_1), .int (iZ ie_1), .ref 65, .ref 66, .ref 67, .int (iZ en), .ref 68, .ref 69, .ref 70])) → h1[62]? = some (.inl (0, 256, .inl (zA mm_1))) → h1[63]? = some (.inl (0, 256, .inl (zA ou_1))) → h1[64]? = some (.inl (0, 256, .inl (zA ol_1))) → Q (some (.int (iZ r))) h1) : Go l mX9_step 0 [some (.ref 50), some (.int (iZ i)), none, none, none] [] h Q := by
  refine g_aload_n 1 dX9_step_0 rfl rfl ?_
  refine g_get 4 dX9_step_1 faX9_44_X9 F0 rfl rfl ?_
  refine g_aload_n 5 dX9_step_4 rfl rfl ?_
  refine g_get 8 dX9_step_5 faX9_181_X9 F0 rfl rfl ?_
  have b1 := omm ((p).toNat)
  refine g_ialdZ (v := iZ (mm p.toNat)) 9 dX9_step_8 F3 (by omega) (by omega) (by decide) rfl rfl ?_
  refine g_istore_n (L1 := [some (.ref 50), some (.int (iZ i)), some (.int (iZ (mm p.toNat))), none, none]) 10 dX9_step_9 (by decide) rfl rfl rfl ?_
  refine g_iload_n 11 dX9_step_10 rfl rfl ?_
  refine g_bipush (v := iZ (15)) 13 dX9_step_11 (by decide +kernel) rfl ?_
  refine g_icZ_le 18 16 dX9_step_13 rfl rfl (by omega) (by decide) (fun c2 => ?_) (fun c2 => ?_)
  · have e3 : mm p.toNat = 0 ∨ mm p.toNat = 1 ∨ mm p.toNat = 2 ∨ mm p.toNat = 3 ∨ mm p.toNat = 4 ∨ mm p.toNat = 5 ∨ mm p.toNat = 6 ∨ mm p.toNat = 7 ∨ mm p.toNat = 8 ∨ mm p.toNat = 9 ∨ mm p.toNat = 10 ∨ mm p.toNat = 11 ∨ mm p.toNat = 12 ∨ mm p.toNat = 13 ∨ mm p.toNat = 14 ∨ mm p.toNat = 15 := by omega
    rcases e3 with e3 | e3 | e3 | e3 | e3 | e3 | e3 | e3 | e3 | e3 | e3 | e3 | e3 | e3 | e3 | e3
    · have ke3 : (mm p.toNat).toNat = 0 := by omega
      refine g_iload_n 19 dX9_step_18 rfl rfl ?_
      refine g_iconst (v := iZ (2)) 20 dX9_step_19 rfl rfl ?_
      refine g_icZ_ne 35 23 dX9_step_20 rfl rfl (by omega) (by decide) (fun _ => ?_) (fun q => absurd q (by omega))
      refine g_aload_n 36 dX9_step_35 rfl rfl ?_
      refine g_get 39 dX9_step_36 faX9_44_X9 F0 rfl rfl ?_
      refine g_aload_n 40 dX9_step_39 rfl rfl ?_
      refine g_get 43 dX9_step_40 faX9_181_X9 F0 rfl rfl ?_
      refine g_iconst (v := iZ (1)) 44 dX9_step_43 rfl rfl ?_
      refine g_iaddZ (p + 1) 45 dX9_step_44 (by omega) rfl ?_
      refine g_sipush (v := iZ (255)) 48 dX9_step_45 (by decide +kernel) rfl ?_
      refine g_and255Z ((p + 1) % 256) 49 dX9_step_48 rfl rfl ?_
      have b4 := omm (((p + 1) % 256).toNat)
      refine g_ialdZ (v := iZ (mm ((p + 1) % 256).toNat)) 50 dX9_step_49 F3 (by omega) (by omega) (by decide) rfl rfl ?_
      refine g_istore_n (L1 := [some (.ref 50), some (.int (iZ i)), some (.int (iZ (mm p.toNat))), some (.int (iZ (mm ((p + 1) % 256).toNat))), none]) 51 dX9_step_50 (by decide) rfl rfl rfl ?_
      refine g_aload_n 52 dX9_step_51 rfl rfl ?_
      refine g_aload_n 53 dX9_step_52 rfl rfl ?_
      refine g_get 56 dX9_step_53 faX9_181_X9 F0 rfl rfl ?_
      refine g_iload_n 57 dX9_step_56 rfl rfl ?_
      refine g_callS (z := mX9_hasNumber) (As := [.int (iZ (mm p.toNat))]) 60 dX9_step_57 mwX9_hasNumber ⟨by decide, by decide⟩ rfl wlX9_154 wtX9_hasNumber rfl (nle rfl) (nle rfl) rfl ?_
      refine f_hasn (by omega) (fun z5 rz5 => ?_)
      obtain rfl : z5 = 0 := by omega
      refine rI ?_
      refine g_ifZ_eq 67 63 dX9_step_60 rfl rfl (by decide) (fun _ => ?_) (fun q => absurd q (by decide))
      refine g_iconst (v := iZ (1)) 68 dX9_step_67 rfl rfl ?_
      refine g_iaddZ (p + 1) 69 dX9_step_68 (by omega) rfl ?_
      refine g_sipush (v := iZ (255)) 72 dX9_step_69 (by decide +kernel) rfl ?_
      refine g_and255Z ((p + 1) % 256) 73 dX9_step_72 rfl rfl ?_
      refine g_putC (fs1 := [.long (tr), .ref 51, .int (iZ mn), .ref 52, .ref 53, .int (iZ kt), .ref 54, .ref 55, .ref 56, .ref 57, .ref 58, .ref 59, .ref 60, .int (iZ bs), .int (iZ ee), .int (iZ pa), .int (iZ fu), .int (iZ st), .int (iZ so), .int (iZ va), .int (iZ ed), .ref 61, .ref 62, .ref 63, .ref 64, .int (iZ cm), .int (iZ a), .int (iZ x), .int (iZ ((p + 1) % 256)), .int (iZ dn), .int (iZ tk), .int (iZ ie), .ref 65, .ref 66, .ref 67, .int (iZ en), .ref 68, .ref 69, .ref 70]) 76 dX9_step_73 fpX9_181_X9 F0 (nle rfl) (vI _) rfl rfl (fun h6 s7 f8 => ?_)
      refine g_aload_n 77 dX9_step_76 rfl rfl ?_
      refine g_dup 78 dX9_step_77 rfl rfl ?_
      refine g_get 81 dX9_step_78 faX9_187_X9 f8 rfl rfl ?_
      refine g_iconst (v := iZ (1)) 82 dX9_step_81 rfl rfl ?_
      refine g_iaddZ (dn + 1) 83 dX9_step_82 (by omega) rfl ?_
      refine g_putC (fs1 := [.long (tr), .ref 51, .int (iZ mn), .ref 52, .ref 53, .int (iZ kt), .ref 54, .ref 55, .ref 56, .ref 57, .ref 58, .ref 59, .ref 60, .int (iZ bs), .int (iZ ee), .int (iZ pa), .int (iZ fu), .int (iZ st), .int (iZ so), .int (iZ va), .int (iZ ed), .ref 61, .ref 62, .ref 63, .ref 64, .int (iZ cm), .int (iZ a), .int (iZ x), .int (iZ ((p + 1) % 256)), .int (iZ (dn + 1)), .int (iZ tk), .int (iZ ie), .ref 65, .ref 66, .ref 67, .int (iZ en), .ref 68, .ref 69, .ref 70]) 86 dX9_step_83 fpX9_187_X9 f8 (nle rfl) (vI _) rfl rfl (fun h9 s10 f11 => ?_)
      refine g_iload_n 87 dX9_step_86 rfl rfl ?_
      refine g_tabZI (0) 160 dX9_step_87 (by omega) (by omega) (by decide) (by decide) rfl rfl ?_
      refine g_iconst (v := iZ (-1)) 161 dX9_step_160 rfl rfl ?_
      refine g_iret rfl dX9_step_161 ?_
      have f12 := (s10.get (by decide) (s7.get (by decide) F3))
      have f13 := (s10.get (by decide) (s7.get (by decide) F4))
      have f14 := (s10.get (by decide) (s7.get (by decide) F5))
      exact k _ (cm) (a) (x) ((p + 1) % 256) (dn + 1) (tk) (ie) (mm) (ou) (ol) (-1) (by omega) (by omega) (by omega) (by omega) (by omega) (by omega) (by omega) omm oou ool (by omega) (Or.inr (Or.inl ⟨rfl, (fun q => by unfold hcM at q; omega), by omega, (ms_0 ke3)⟩)) (((Sm.refl [50, 62, 63, 64] _).tr s7 (fun _ q => q) (by simp)).tr s10 (fun _ q => q) (by simp)) f11 f12 f13 f14
    · have ke3 : (mm p.toNat).toNat = 1 := by omega
      refine g_iload_n 19 dX9_step_18 rfl rfl ?_
      refine g_iconst (v := iZ (2)) 20 dX9_step_19 rfl rfl ?_
      refine g_icZ_ne 35 23 dX9_step_20 rfl rfl (by omega) (by decide) (fun _ => ?_) (fun q => absurd q (by omega))
      refine g_aload_n 36 dX9_step_35 rfl rfl ?_
      refine g_get 39 dX9_step_36 faX9_44_X9 F0 rfl rfl ?_
      refine g_aload_n 40 dX9_step_39 rfl rfl ?_
      refine g_get 43 dX9_step_40 faX9_181_X9 F0 rfl rfl ?_
      refine g_iconst (v := iZ (1)) 44 dX9_step_43 rfl rfl ?_
      refine g_iaddZ (p + 1) 45 dX9_step_44 (by omega) rfl ?_
      refine g_sipush (v := iZ (255)) 48 dX9_step_45 (by decide +kernel) rfl ?_
      refine g_and255Z ((p + 1) % 256) 49 dX9_step_48 rfl rfl ?_
      have b15 := omm (((p + 1) % 256).toNat)
      refine g_ialdZ (v := iZ (mm ((p + 1) % 256).toNat)) 50 dX9_step_49 F3 (by omega) (by omega) (by decide) rfl rfl ?_
      refine g_istore_n (L1 := [some (.ref 50), some (.int (iZ i)), some (.int (iZ (mm p.toNat))), some (.int (iZ (mm ((p + 1) % 256).toNat))), none]) 51 dX9_step_50 (by decide) rfl rfl rfl ?_
      refine g_aload_n 52 dX9_step_51 rfl rfl ?_
      refine g_aload_n 53 dX9_step_52 rfl rfl ?_
      refine g_get 56 dX9_step_53 faX9_181_X9 F0 rfl rfl ?_
      refine g_iload_n 57 dX9_step_56 rfl rfl ?_
      refine g_callS (z := mX9_hasNumber) (As := [.int (iZ (mm p.toNat))]) 60 dX9_step_57 mwX9_hasNumber ⟨by decide, by decide⟩ rfl wlX9_154 wtX9_hasNumber rfl (nle rfl) (nle rfl) rfl ?_
      refine f_hasn (by omega) (fun z16 rz16 => ?_)
      obtain rfl : z16 = 0 := by omega
      refine rI ?_
      refine g_ifZ_eq 67 63 dX9_step_60 rfl rfl (by decide) (fun _ => ?_) (fun q => absurd q (by decide))
      refine g_iconst (v := iZ (1)) 68 dX9_step_67 rfl rfl ?_
      refine g_iaddZ (p + 1) 69 dX9_step_68 (by omega) rfl ?_
      refine g_sipush (v := iZ (255)) 72 dX9_step_69 (by decide +kernel) rfl ?_
      refine g_and255Z ((p + 1) % 256) 73 dX9_step_72 rfl rfl ?_
      refine g_putC (fs1 := [.long (tr), .ref 51, .int (iZ mn), .ref 52, .ref 53, .int (iZ kt), .ref 54, .ref 55, .ref 56, .ref 57, .ref 58, .ref 59, .ref 60, .int (iZ bs), .int (iZ ee), .int (iZ pa), .int (iZ fu), .int (iZ st), .int (iZ so), .int (iZ va), .int (iZ ed), .ref 61, .ref 62, .ref 63, .ref 64, .int (iZ cm), .int (iZ a), .int (iZ x), .int (iZ ((p + 1) % 256)), .int (iZ dn), .int (iZ tk), .int (iZ ie), .ref 65, .ref 66, .ref 67, .int (iZ en), .ref 68, .ref 69, .ref 70]) 76 dX9_step_73 fpX9_181_X9 F0 (nle rfl) (vI _) rfl rfl (fun h17 s18 f19 => ?_)
      refine g_aload_n 77 dX9_step_76 rfl rfl ?_
      refine g_dup 78 dX9_step_77 rfl rfl ?_
      refine g_get 81 dX9_step_78 faX9_187_X9 f19 rfl rfl ?_
      refine g_iconst (v := iZ (1)) 82 dX9_step_81 rfl rfl ?_
      refine g_iaddZ (dn + 1) 83 dX9_step_82 (by omega) rfl ?_
      refine g_putC (fs1 := [.long (tr), .ref 51, .int (iZ mn), .ref 52, .ref 53, .int (iZ kt), .ref 54, .ref 55, .ref 56, .ref 57, .ref 58, .ref 59, .ref 60, .int (iZ bs), .int (iZ ee), .int (iZ pa), .int (iZ fu), .int (iZ st), .int (iZ so), .int (iZ va), .int (iZ ed), .ref 61, .ref 62, .ref 63, .ref 64, .int (iZ cm), .int (iZ a), .int (iZ x), .int (iZ ((p + 1) % 256)), .int (iZ (dn + 1)), .int (iZ tk), .int (iZ ie), .ref 65, .ref 66, .ref 67, .int (iZ en), .ref 68, .ref 69, .ref 70]) 86 dX9_step_83 fpX9_187_X9 f19 (nle rfl) (vI _) rfl rfl (fun h20 s21 f22 => ?_)
      refine g_iload_n 87 dX9_step_86 rfl rfl ?_
      refine g_tabZI (1) 162 dX9_step_87 (by omega) (by omega) (by decide) (by decide) rfl rfl ?_
      refine g_aload_n 163 dX9_step_162 rfl rfl ?_
      refine g_get 166 dX9_step_163 faX9_190_X9 f22 rfl rfl ?_
      refine g_aload_n 167 dX9_step_166 rfl rfl ?_
      refine g_get 170 dX9_step_167 faX9_16_X9 f22 rfl rfl ?_
      refine g_iload_n 171 dX9_step_170 rfl rfl ?_
      have f23 := (s21.get (by decide) (s18.get (by decide) F2))
      have b24 := olg ((i).toNat)
      refine g_ialdZ (v := iZ (lg i.toNat)) 172 dX9_step_171 f23 (by omega) (by omega) (by decide) rfl rfl ?_
      refine g_icZ_ge 179 175 dX9_step_172 rfl rfl (by omega) (by omega) (fun c25 => ?_) (fun c25 => ?_)
      · refine g_iconst (v := iZ (0)) 180 dX9_step_179 rfl rfl ?_
        refine g_istore (L1 := [some (.ref 50), some (.int (iZ i)), some (.int (iZ (mm p.toNat))), some (.int (iZ (mm ((p + 1) % 256).toNat))), some (.int (iZ 0))]) 182 dX9_step_180 (by decide) rfl rfl rfl ?_
        refine g_aload_n 183 dX9_step_182 rfl rfl ?_
        refine g_iload 185 dX9_step_183 rfl rfl ?_
        refine g_ifZ_eq 210 188 dX9_step_185 rfl rfl (by decide) (fun _ => ?_) (fun q => absurd q (by decide))
        refine g_iconst (v := iZ (0)) 211 dX9_step_210 rfl rfl ?_
        refine g_putC (fs1 := [.long (tr), .ref 51, .int (iZ mn), .ref 52, .ref 53, .int (iZ kt), .ref 54, .ref 55, .ref 56, .ref 57, .ref 58, .ref 59, .ref 60, .int (iZ bs), .int (iZ ee), .int (iZ pa), .int (iZ fu), .int (iZ st), .int (iZ so), .int (iZ va), .int (iZ ed), .ref 61, .ref 62, .ref 63, .ref 64, .int (iZ cm), .int (iZ 0), .int (iZ x), .int (iZ ((p + 1) % 256)), .int (iZ (dn + 1)), .int (iZ tk), .int (iZ ie), .ref 65, .ref 66, .ref 67, .int (iZ en), .ref 68, .ref 69, .ref 70]) 214 dX9_step_211 fpX9_193_X9 f22 (nle rfl) (vI _) rfl rfl (fun h26 s27 f28 => ?_)
        refine g_aload_n 215 dX9_step_214 rfl rfl ?_
        refine g_dup 216 dX9_step_215 rfl rfl ?_
        refine g_get 219 dX9_step_216 faX9_190_X9 f28 rfl rfl ?_
        refine g_iload 221 dX9_step_219 rfl rfl ?_
        refine g_ifZ_eq 228 224 dX9_step_221 rfl rfl (by decide) (fun _ => ?_) (fun q => absurd q (by decide))
        refine g_iconst (v := iZ (0)) 229 dX9_step_228 rfl rfl ?_
        refine g_iaddZ (tk + 0) 230 dX9_step_229 (by omega) rfl ?_
        refine g_putC (fs1 := [.long (tr), .ref 51, .int (iZ mn), .ref 52, .ref 53, .int (iZ kt), .ref 54, .ref 55, .ref 56, .ref 57, .ref 58, .ref 59, .ref 60, .int (iZ bs), .int (iZ ee), .int (iZ pa), .int (iZ fu), .int (iZ st), .int (iZ so), .int (iZ va), .int (iZ ed), .ref 61, .ref 62, .ref 63, .ref 64, .int (iZ cm), .int (iZ 0), .int (iZ x), .int (iZ ((p + 1) % 256)), .int (iZ (dn + 1)), .int (iZ (tk + 0)), .int (iZ ie), .ref 65, .ref 66, .ref 67, .int (iZ en), .ref 68, .ref 69, .ref 70]) 233 dX9_step_230 fpX9_190_X9 f28 (nle rfl) (vI _) rfl rfl (fun h29 s30 f31 => ?_)
        refine g_aload_n 234 dX9_step_233 rfl rfl ?_
        refine g_iload 236 dX9_step_234 rfl rfl ?_
        refine g_ifZ_eq 246 239 dX9_step_236 rfl rfl (by decide) (fun _ => ?_) (fun q => absurd q (by decide))
        refine g_iconst (v := iZ (1)) 247 dX9_step_246 rfl rfl ?_
        refine g_putC (fs1 := [.long (tr), .ref 51, .int (iZ mn), .ref 52, .ref 53, .int (iZ kt), .ref 54, .ref 55, .ref 56, .ref 57, .ref 58, .ref 59, .ref 60, .int (iZ bs), .int (iZ ee), .int (iZ pa), .int (iZ fu), .int (iZ st), .int (iZ so), .int (iZ va), .int (iZ ed), .ref 61, .ref 62, .ref 63, .ref 64, .int (iZ cm), .int (iZ 0), .int (iZ x), .int (iZ ((p + 1) % 256)), .int (iZ (dn + 1)), .int (iZ (tk + 0)), .int (iZ 1), .ref 65, .ref 66, .ref 67, .int (iZ en), .ref 68, .ref 69, .ref 70]) 250 dX9_step_247 fpX9_196_X9 f31 (nle rfl) (vI _) rfl rfl (fun h32 s33 f34 => ?_)
        refine g_goto 518 dX9_step_250 rfl ?_
        refine g_iconst (v := iZ (0)) 519 dX9_step_518 rfl rfl ?_
        refine g_iret rfl dX9_step_519 ?_
        have f35 := (s33.get (by decide) (s30.get (by decide) (s27.get (by decide) (s21.get (by decide) (s18.get (by decide) F3)))))
        have f36 := (s33.get (by decide) (s30.get (by decide) (s27.get (by decide) (s21.get (by decide) (s18.get (by decide) F4)))))
        have f37 := (s33.get (by decide) (s30.get (by decide) (s27.get (by decide) (s21.get (by decide) (s18.get (by decide) F5)))))
        exact k _ (cm) (0) (x) ((p + 1) % 256) (dn + 1) (tk + 0) (1) (mm) (ou) (ol) (0) (by omega) (by omega) (by omega) (by omega) (by omega) (by omega) (by omega) omm oou ool (by omega) (Or.inr (Or.inr ⟨rfl, (fun q => by unfold hcM at q; omega), by omega, (by rw [Int.add_zero]; exact ms_1b ke3 (by omega))⟩)) ((((((Sm.refl [50, 62, 63, 64] _).tr s18 (fun _ q => q) (by simp)).tr s21 (fun _ q => q) (by simp)).tr s27 (fun _ q => q) (by simp)).tr s30 (fun _ q => q) (by simp)).tr s33 (fun _ q => q) (by simp)) f34 f35 f36 f37
      · refine g_iconst (v := iZ (1)) 176 dX9_step_175 rfl rfl ?_
        refine g_goto 180 dX9_step_176 rfl ?_
        refine g_istore (L1 := [some (.ref 50), some (.int (iZ i)), some (.int (iZ (mm p.toNat))), some (.int (iZ (mm ((p + 1) % 256).toNat))), some (.int (iZ 1))]) 182 dX9_step_180 (by decide) rfl rfl rfl ?_
        refine g_aload_n 183 dX9_step_182 rfl rfl ?_
        refine g_iload 185 dX9_step_183 rfl rfl ?_
        refine g_ifZ_eq 210 188 dX9_step_185 rfl rfl (by decide) (fun q => absurd q (by decide)) (fun _ => ?_)
        refine g_aload_n 189 dX9_step_188 rfl rfl ?_
        refine g_get 192 dX9_step_189 faX9_13_X9 f22 rfl rfl ?_
        refine g_sipush (v := iZ (200)) 195 dX9_step_192 (by decide +kernel) rfl ?_
        refine g_iload_n 196 dX9_step_195 rfl rfl ?_
        refine g_imulZ (200 * i) 197 dX9_step_196 (by omega) rfl ?_
        refine g_aload_n 198 dX9_step_197 rfl rfl ?_
        refine g_get 201 dX9_step_198 faX9_190_X9 f22 rfl rfl ?_
        refine g_iaddZ ((200 * i) + tk) 202 dX9_step_201 (by omega) rfl ?_
        have f38 := (s21.get (by decide) (s18.get (by decide) F1))
        refine g_baldZ 203 dX9_step_202 f38 (by omega) (by omega) (by decide) rfl rfl ?_
        refine Go.zof ?_
        refine g_sipush (v := iZ (255)) 206 dX9_step_203 (by decide +kernel) rfl ?_
        refine g_and255Z (hb tx (200 * i + tk)) 207 dX9_step_206 rfl rfl ?_
        have hhb : 0 ≤ hb tx (200 * i + tk) ∧ hb tx (200 * i + tk) ≤ 255 := by unfold hb; omega
        refine g_goto 211 dX9_step_207 rfl ?_
        refine g_putC (fs1 := [.long (tr), .ref 51, .int (iZ mn), .ref 52, .ref 53, .int (iZ kt), .ref 54, .ref 55, .ref 56, .ref 57, .ref 58, .ref 59, .ref 60, .int (iZ bs), .int (iZ ee), .int (iZ pa), .int (iZ fu), .int (iZ st), .int (iZ so), .int (iZ va), .int (iZ ed), .ref 61, .ref 62, .ref 63, .ref 64, .int (iZ cm), .int (iZ (hb tx (200 * i + tk))), .int (iZ x), .int (iZ ((p + 1) % 256)), .int (iZ (dn + 1)), .int (iZ tk), .int (iZ ie), .ref 65, .ref 66, .ref 67, .int (iZ en), .ref 68, .ref 69, .ref 70]) 214 dX9_step_211 fpX9_193_X9 f22 (nle rfl) (vI _) rfl rfl (fun h39 s40 f41 => ?_)
        refine g_aload_n 215 dX9_step_214 rfl rfl ?_
        refine g_dup 216 dX9_step_215 rfl rfl ?_
        refine g_get 219 dX9_step_216 faX9_190_X9 f41 rfl rfl ?_
        refine g_iload 221 dX9_step_219 rfl rfl ?_
        refine g_ifZ_eq 228 224 dX9_step_221 rfl rfl (by decide) (fun q => absurd q (by decide)) (fun _ => ?_)
        refine g_iconst (v := iZ (1)) 225 dX9_step_224 rfl rfl ?_
        refine g_goto 229 dX9_step_225 rfl ?_
        refine g_iaddZ (tk + 1) 230 dX9_step_229 (by omega) rfl ?_
        refine g_putC (fs1 := [.long (tr), .ref 51, .int (iZ mn), .ref 52, .ref 53, .int (iZ kt), .ref 54, .ref 55, .ref 56, .ref 57, .ref 58, .ref 59, .ref 60, .int (iZ bs), .int (iZ ee), .int (iZ pa), .int (iZ fu), .int (iZ st), .int (iZ so), .int (iZ va), .int (iZ ed), .ref 61, .ref 62, .ref 63, .ref 64, .int (iZ cm), .int (iZ (hb tx (200 * i + tk))), .int (iZ x), .int (iZ ((p + 1) % 256)), .int (iZ (dn + 1)), .int (iZ (tk + 1)), .int (iZ ie), .ref 65, .ref 66, .ref 67, .int (iZ en), .ref 68, .ref 69, .ref 70]) 233 dX9_step_230 fpX9_190_X9 f41 (nle rfl) (vI _) rfl rfl (fun h42 s43 f44 => ?_)
        refine g_aload_n 234 dX9_step_233 rfl rfl ?_
        refine g_iload 236 dX9_step_234 rfl rfl ?_
        refine g_ifZ_eq 246 239 dX9_step_236 rfl rfl (by decide) (fun q => absurd q (by decide)) (fun _ => ?_)
        refine g_aload_n 240 dX9_step_239 rfl rfl ?_
        refine g_get 243 dX9_step_240 faX9_196_X9 f44 rfl rfl ?_
        refine g_goto 247 dX9_step_243 rfl ?_
        refine g_putC (fs1 := [.long (tr), .ref 51, .int (iZ mn), .ref 52, .ref 53, .int (iZ kt), .ref 54, .ref 55, .ref 56, .ref 57, .ref 58, .ref 59, .ref 60, .int (iZ bs), .int (iZ ee), .int (iZ pa), .int (iZ fu), .int (iZ st), .int (iZ so), .int (iZ va), .int (iZ ed), .ref 61, .ref 62, .ref 63, .ref 64, .int (iZ cm), .int (iZ (hb tx (200 * i + tk))), .int (iZ x), .int (iZ ((p + 1) % 256)), .int (iZ (dn + 1)), .int (iZ (tk + 1)), .int (iZ ie), .ref 65, .ref 66, .ref 67, .int (iZ en), .ref 68, .ref 69, .ref 70]) 250 dX9_step_247 fpX9_196_X9 f44 (nle rfl) (vI _) rfl rfl (fun h45 s46 f47 => ?_)
        refine g_goto 518 dX9_step_250 rfl ?_
        refine g_iconst (v := iZ (0)) 519 dX9_step_518 rfl rfl ?_
        refine g_iret rfl dX9_step_519 ?_
        have f48 := (s46.get (by decide) (s43.get (by decide) (s40.get (by decide) (s21.get (by decide) (s18.get (by decide) F3)))))
        have f49 := (s46.get (by decide) (s43.get (by decide) (s40.get (by decide) (s21.get (by decide) (s18.get (by decide) F4)))))
        have f50 := (s46.get (by decide) (s43.get (by decide) (s40.get (by decide) (s21.get (by decide) (s18.get (by decide) F5)))))
        exact k _ (cm) (hb tx (200 * i + tk)) (x) ((p + 1) % 256) (dn + 1) (tk + 1) (ie) (mm) (ou) (ol) (0) (by omega) (by omega) (by omega) (by omega) (by omega) (by omega) (by omega) omm oou ool (by omega) (Or.inr (Or.inr ⟨rfl, (fun q => by unfold hcM at q; omega), by omega, (ms_1a ke3 (by omega))⟩)) ((((((Sm.refl [50, 62, 63, 64] _).tr s18 (fun _ q => q) (by simp)).tr s21 (fun _ q => q) (by simp)).tr s40 (fun _ q => q) (by simp)).tr s43 (fun _ q => q) (by simp)).tr s46 (fun _ q => q) (by simp)) f47 f48 f49 f50
    · have ke3 : (mm p.toNat).toNat = 2 := by omega
      refine g_iload_n 19 dX9_step_18 rfl rfl ?_
      refine g_iconst (v := iZ (2)) 20 dX9_step_19 rfl rfl ?_
      refine g_icZ_ne 35 23 dX9_step_20 rfl rfl (by omega) (by decide) (fun q => absurd q (by omega)) (fun _ => ?_)
      refine g_aload_n 24 dX9_step_23 rfl rfl ?_
      refine g_get 27 dX9_step_24 faX9_184_X9 F0 rfl rfl ?_
      refine g_sipush (v := iZ (256)) 30 dX9_step_27 (by decide +kernel) rfl ?_
      refine g_icZ_ne 35 33 dX9_step_30 rfl rfl (by omega) (by decide) (fun c51 => ?_) (fun c51 => ?_)
      · refine g_aload_n 36 dX9_step_35 rfl rfl ?_
        refine g_get 39 dX9_step_36 faX9_44_X9 F0 rfl rfl ?_
        refine g_aload_n 40 dX9_step_39 rfl rfl ?_
        refine g_get 43 dX9_step_40 faX9_181_X9 F0 rfl rfl ?_
        refine g_iconst (v := iZ (1)) 44 dX9_step_43 rfl rfl ?_
        refine g_iaddZ (p + 1) 45 dX9_step_44 (by omega) rfl ?_
        refine g_sipush (v := iZ (255)) 48 dX9_step_45 (by decide +kernel) rfl ?_
        refine g_and255Z ((p + 1) % 256) 49 dX9_step_48 rfl rfl ?_
        have b52 := omm (((p + 1) % 256).toNat)
        refine g_ialdZ (v := iZ (mm ((p + 1) % 256).toNat)) 50 dX9_step_49 F3 (by omega) (by omega) (by decide) rfl rfl ?_
        refine g_istore_n (L1 := [some (.ref 50), some (.int (iZ i)), some (.int (iZ (mm p.toNat))), some (.int (iZ (mm ((p + 1) % 256).toNat))), none]) 51 dX9_step_50 (by decide) rfl rfl rfl ?_
        refine g_aload_n 52 dX9_step_51 rfl rfl ?_
        refine g_aload_n 53 dX9_step_52 rfl rfl ?_
        refine g_get 56 dX9_step_53 faX9_181_X9 F0 rfl rfl ?_
        refine g_iload_n 57 dX9_step_56 rfl rfl ?_
        refine g_callS (z := mX9_hasNumber) (As := [.int (iZ (mm p.toNat))]) 60 dX9_step_57 mwX9_hasNumber ⟨by decide, by decide⟩ rfl wlX9_154 wtX9_hasNumber rfl (nle rfl) (nle rfl) rfl ?_
        refine f_hasn (by omega) (fun z53 rz53 => ?_)
        obtain rfl : z53 = 0 := by omega
        refine rI ?_
        refine g_ifZ_eq 67 63 dX9_step_60 rfl rfl (by decide) (fun _ => ?_) (fun q => absurd q (by decide))
        refine g_iconst (v := iZ (1)) 68 dX9_step_67 rfl rfl ?_
        refine g_iaddZ (p + 1) 69 dX9_step_68 (by omega) rfl ?_
        refine g_sipush (v := iZ (255)) 72 dX9_step_69 (by decide +kernel) rfl ?_
        refine g_and255Z ((p + 1) % 256) 73 dX9_step_72 rfl rfl ?_
        refine g_putC (fs1 := [.long (tr), .ref 51, .int (iZ mn), .ref 52, .ref 53, .int (iZ kt), .ref 54, .ref 55, .ref 56, .ref 57, .ref 58, .ref 59, .ref 60, .int (iZ bs), .int (iZ ee), .int (iZ pa), .int (iZ fu), .int (iZ st), .int (iZ so), .int (iZ va), .int (iZ ed), .ref 61, .ref 62, .ref 63, .ref 64, .int (iZ cm), .int (iZ a), .int (iZ x), .int (iZ ((p + 1) % 256)), .int (iZ dn), .int (iZ tk), .int (iZ ie), .ref 65, .ref 66, .ref 67, .int (iZ en), .ref 68, .ref 69, .ref 70]) 76 dX9_step_73 fpX9_181_X9 F0 (nle rfl) (vI _) rfl rfl (fun h54 s55 f56 => ?_)
        refine g_aload_n 77 dX9_step_76 rfl rfl ?_
        refine g_dup 78 dX9_step_77 rfl rfl ?_
        refine g_get 81 dX9_step_78 faX9_187_X9 f56 rfl rfl ?_
        refine g_iconst (v := iZ (1)) 82 dX9_step_81 rfl rfl ?_
        refine g_iaddZ (dn + 1) 83 dX9_step_82 (by omega) rfl ?_
        refine g_putC (fs1 := [.long (tr), .ref 51, .int (iZ mn), .ref 52, .ref 53, .int (iZ kt), .ref 54, .ref 55, .ref 56, .ref 57, .ref 58, .ref 59, .ref 60, .int (iZ bs), .int (iZ ee), .int (iZ pa), .int (iZ fu), .int (iZ st), .int (iZ so), .int (iZ va), .int (iZ ed), .ref 61, .ref 62, .ref 63, .ref 64, .int (iZ cm), .int (iZ a), .int (iZ x), .int (iZ ((p + 1) % 256)), .int (iZ (dn + 1)), .int (iZ tk), .int (iZ ie), .ref 65, .ref 66, .ref 67, .int (iZ en), .ref 68, .ref 69, .ref 70]) 86 dX9_step_83 fpX9_187_X9 f56 (nle rfl) (vI _) rfl rfl (fun h57 s58 f59 => ?_)
        refine g_iload_n 87 dX9_step_86 rfl rfl ?_
        refine g_tabZI (2) 253 dX9_step_87 (by omega) (by omega) (by decide) (by decide) rfl rfl ?_
        refine g_aload_n 254 dX9_step_253 rfl rfl ?_
        refine g_get 257 dX9_step_254 faX9_47_X9 f59 rfl rfl ?_
        refine g_aload_n 258 dX9_step_257 rfl rfl ?_
        refine g_get 261 dX9_step_258 faX9_184_X9 f59 rfl rfl ?_
        refine g_aload_n 262 dX9_step_261 rfl rfl ?_
        refine g_get 265 dX9_step_262 faX9_193_X9 f59 rfl rfl ?_
        have f60 := (s58.get (by decide) (s55.get (by decide) F4))
        refine g_iastFj (cm.toNat) 266 dX9_step_265 f60 (by omega) (by omega) (by decide) rfl rfl (fun h61 s62 f63 => ?_)
        refine g_aload_n 267 dX9_step_266 rfl rfl ?_
        have f64 := (s62.get (by decide) f59)
        refine g_get 270 dX9_step_267 faX9_50_X9 f64 rfl rfl ?_
        refine g_aload_n 271 dX9_step_270 rfl rfl ?_
        refine g_get 274 dX9_step_271 faX9_184_X9 f64 rfl rfl ?_
        refine g_aload_n 275 dX9_step_274 rfl rfl ?_
        refine g_get 278 dX9_step_275 faX9_190_X9 f64 rfl rfl ?_
        refine g_ifZ_ne 285 281 dX9_step_278 rfl rfl (by omega) (fun c65 => ?_) (fun c65 => ?_)
        · refine g_aload_n 286 dX9_step_285 rfl rfl ?_
          refine g_get 289 dX9_step_286 faX9_190_X9 f64 rfl rfl ?_
          refine g_iconst (v := iZ (1)) 290 dX9_step_289 rfl rfl ?_
          refine g_isubZ (tk - 1) 291 dX9_step_290 (by omega) rfl ?_
          have f66 := (s62.get (by decide) (s58.get (by decide) (s55.get (by decide) F5)))
          refine g_iastFj (cm.toNat) 292 dX9_step_291 f66 (by omega) (by omega) (by decide) rfl rfl (fun h67 s68 f69 => ?_)
          refine g_aload_n 293 dX9_step_292 rfl rfl ?_
          refine g_dup 294 dX9_step_293 rfl rfl ?_
          have f70 := (s68.get (by decide) f64)
          refine g_get 297 dX9_step_294 faX9_184_X9 f70 rfl rfl ?_
          refine g_iconst (v := iZ (1)) 298 dX9_step_297 rfl rfl ?_
          refine g_iaddZ (cm + 1) 299 dX9_step_298 (by omega) rfl ?_
          refine g_putC (fs1 := [.long (tr), .ref 51, .int (iZ mn), .ref 52, .ref 53, .int (iZ kt), .ref 54, .ref 55, .ref 56, .ref 57, .ref 58, .ref 59, .ref 60, .int (iZ bs), .int (iZ ee), .int (iZ pa), .int (iZ fu), .int (iZ st), .int (iZ so), .int (iZ va), .int (iZ ed), .ref 61, .ref 62, .ref 63, .ref 64, .int (iZ (cm + 1)), .int (iZ a), .int (iZ x), .int (iZ ((p + 1) % 256)), .int (iZ (dn + 1)), .int (iZ tk), .int (iZ ie), .ref 65, .ref 66, .ref 67, .int (iZ en), .ref 68, .ref 69, .ref 70]) 302 dX9_step_299 fpX9_184_X9 f70 (nle rfl) (vI _) rfl rfl (fun h71 s72 f73 => ?_)
          refine g_goto 518 dX9_step_302 rfl ?_
          refine g_iconst (v := iZ (0)) 519 dX9_step_518 rfl rfl ?_
          refine g_iret rfl dX9_step_519 ?_
          have f74 := (s72.get (by decide) (s68.get (by decide) (s62.get (by decide) (s58.get (by decide) (s55.get (by decide) F3)))))
          have f75 := (s72.get (by decide) (s68.get (by decide) f63))
          have f76 := (s72.get (by decide) f69)
          exact k _ (cm + 1) (a) (x) ((p + 1) % 256) (dn + 1) (tk) (ie) (mm) (va_up ou cm.toNat a) (va_up ol cm.toNat (tk - 1)) (0) (by omega) (by omega) (by omega) (by omega) (by omega) (by omega) (by omega) omm (oki_up oou _ (by omega)) (oki_up ool _ (by omega)) (by omega) (Or.inr (Or.inr ⟨rfl, (fun q => by unfold hcM at q; omega), by omega, (by rw [ms_2 ke3]; first | rw [if_pos (by omega)] | rw [if_neg (by omega)])⟩)) ((((((Sm.refl [50, 62, 63, 64] _).tr s55 (fun _ q => q) (by simp)).tr s58 (fun _ q => q) (by simp)).tr s62 (fun _ q => q) (by simp)).tr s68 (fun _ q => q) (by simp)).tr s72 (fun _ q => q) (by simp)) f73 f74 f75 f76
        · refine g_iconst (v := iZ (0)) 282 dX9_step_281 rfl rfl ?_
          refine g_goto 291 dX9_step_282 rfl ?_
          have f77 := (s62.get (by decide) (s58.get (by decide) (s55.get (by decide) F5)))
          refine g_iastFj (cm.toNat) 292 dX9_step_291 f77 (by omega) (by omega) (by decide) rfl rfl (fun h78 s79 f80 => ?_)
          refine g_aload_n 293 dX9_step_292 rfl rfl ?_
          refine g_dup 294 dX9_step_293 rfl rfl ?_
          have f81 := (s79.get (by decide) f64)
          refine g_get 297 dX9_step_294 faX9_184_X9 f81 rfl rfl ?_
          refine g_iconst (v := iZ (1)) 298 dX9_step_297 rfl rfl ?_
          refine g_iaddZ (cm + 1) 299 dX9_step_298 (by omega) rfl ?_
          refine g_putC (fs1 := [.long (tr), .ref 51, .int (iZ mn), .ref 52, .ref 53, .int (iZ kt), .ref 54, .ref 55, .ref 56, .ref 57, .ref 58, .ref 59, .ref 60, .int (iZ bs), .int (iZ ee), .int (iZ pa), .int (iZ fu), .int (iZ st), .int (iZ so), .int (iZ va), .int (iZ ed), .ref 61, .ref 62, .ref 63, .ref 64, .int (iZ (cm + 1)), .int (iZ a), .int (iZ x), .int (iZ ((p + 1) % 256)), .int (iZ (dn + 1)), .int (iZ tk), .int (iZ ie), .ref 65, .ref 66, .ref 67, .int (iZ en), .ref 68, .ref 69, .ref 70]) 302 dX9_step_299 fpX9_184_X9 f81 (nle rfl) (vI _) rfl rfl (fun h82 s83 f84 => ?_)
          refine g_goto 518 dX9_step_302 rfl ?_
          refine g_iconst (v := iZ (0)) 519 dX9_step_518 rfl rfl ?_
          refine g_iret rfl dX9_step_519 ?_
          have f85 := (s83.get (by decide) (s79.get (by decide) (s62.get (by decide) (s58.get (by decide) (s55.get (by decide) F3)))))
          have f86 := (s83.get (by decide) (s79.get (by decide) f63))
          have f87 := (s83.get (by decide) f80)
          exact k _ (cm + 1) (a) (x) ((p + 1) % 256) (dn + 1) (tk) (ie) (mm) (va_up ou cm.toNat a) (va_up ol cm.toNat 0) (0) (by omega) (by omega) (by omega) (by omega) (by omega) (by omega) (by omega) omm (oki_up oou _ (by omega)) (oki_up ool _ (by omega)) (by omega) (Or.inr (Or.inr ⟨rfl, (fun q => by unfold hcM at q; omega), by omega, (by rw [ms_2 ke3]; first | rw [if_pos (by omega)] | rw [if_neg (by omega)])⟩)) ((((((Sm.refl [50, 62, 63, 64] _).tr s55 (fun _ q => q) (by simp)).tr s58 (fun _ q => q) (by simp)).tr s62 (fun _ q => q) (by simp)).tr s79 (fun _ q => q) (by simp)).tr s83 (fun _ q => q) (by simp)) f84 f85 f86 f87
      · refine g_iconst (v := iZ (2)) 34 dX9_step_33 rfl rfl ?_
        refine g_iret rfl dX9_step_34 ?_
        exact k _ (cm) (a) (x) (p) (dn) (tk) (ie) (mm) (ou) (ol) (2) (by omega) (by omega) (by omega) (by omega) (by omega) (by omega) (by omega) omm oou ool (by omega) (Or.inl ⟨Or.inr rfl, Or.inr ⟨by omega, by omega⟩, rfl⟩) (Sm.refl [50, 62, 63, 64] _) F0 F3 F4 F5
    · have ke3 : (mm p.toNat).toNat = 3 := by omega
      refine g_iload_n 19 dX9_step_18 rfl rfl ?_
      refine g_iconst (v := iZ (2)) 20 dX9_step_19 rfl rfl ?_
      refine g_icZ_ne 35 23 dX9_step_20 rfl rfl (by omega) (by decide) (fun _ => ?_) (fun q => absurd q (by omega))
      refine g_aload_n 36 dX9_step_35 rfl rfl ?_
      refine g_get 39 dX9_step_36 faX9_44_X9 F0 rfl rfl ?_
      refine g_aload_n 40 dX9_step_39 rfl rfl ?_
      refine g_get 43 dX9_step_40 faX9_181_X9 F0 rfl rfl ?_
      refine g_iconst (v := iZ (1)) 44 dX9_step_43 rfl rfl ?_
      refine g_iaddZ (p + 1) 45 dX9_step_44 (by omega) rfl ?_
      refine g_sipush (v := iZ (255)) 48 dX9_step_45 (by decide +kernel) rfl ?_
      refine g_and255Z ((p + 1) % 256) 49 dX9_step_48 rfl rfl ?_
      have b88 := omm (((p + 1) % 256).toNat)
      refine g_ialdZ (v := iZ (mm ((p + 1) % 256).toNat)) 50 dX9_step_49 F3 (by omega) (by omega) (by decide) rfl rfl ?_
      refine g_istore_n (L1 := [some (.ref 50), some (.int (iZ i)), some (.int (iZ (mm p.toNat))), some (.int (iZ (mm ((p + 1) % 256).toNat))), none]) 51 dX9_step_50 (by decide) rfl rfl rfl ?_
      refine g_aload_n 52 dX9_step_51 rfl rfl ?_
      refine g_aload_n 53 dX9_step_52 rfl rfl ?_
      refine g_get 56 dX9_step_53 faX9_181_X9 F0 rfl rfl ?_
      refine g_iload_n 57 dX9_step_56 rfl rfl ?_
      refine g_callS (z := mX9_hasNumber) (As := [.int (iZ (mm p.toNat))]) 60 dX9_step_57 mwX9_hasNumber ⟨by decide, by decide⟩ rfl wlX9_154 wtX9_hasNumber rfl (nle rfl) (nle rfl) rfl ?_
      refine f_hasn (by omega) (fun z89 rz89 => ?_)
      obtain rfl : z89 = 1 := by omega
      refine rI ?_
      refine g_ifZ_eq 67 63 dX9_step_60 rfl rfl (by decide) (fun q => absurd q (by decide)) (fun _ => ?_)
      refine g_iconst (v := iZ (2)) 64 dX9_step_63 rfl rfl ?_
      refine g_goto 68 dX9_step_64 rfl ?_
      refine g_iaddZ (p + 2) 69 dX9_step_68 (by omega) rfl ?_
      refine g_sipush (v := iZ (255)) 72 dX9_step_69 (by decide +kernel) rfl ?_
      refine g_and255Z ((p + 2) % 256) 73 dX9_step_72 rfl rfl ?_
      refine g_putC (fs1 := [.long (tr), .ref 51, .int (iZ mn), .ref 52, .ref 53, .int (iZ kt), .ref 54, .ref 55, .ref 56, .ref 57, .ref 58, .ref 59, .ref 60, .int (iZ bs), .int (iZ ee), .int (iZ pa), .int (iZ fu), .int (iZ st), .int (iZ so), .int (iZ va), .int (iZ ed), .ref 61, .ref 62, .ref 63, .ref 64, .int (iZ cm), .int (iZ a), .int (iZ x), .int (iZ ((p + 2) % 256)), .int (iZ dn), .int (iZ tk), .int (iZ ie), .ref 65, .ref 66, .ref 67, .int (iZ en), .ref 68, .ref 69, .ref 70]) 76 dX9_step_73 fpX9_181_X9 F0 (nle rfl) (vI _) rfl rfl (fun h90 s91 f92 => ?_)
      refine g_aload_n 77 dX9_step_76 rfl rfl ?_
      refine g_dup 78 dX9_step_77 rfl rfl ?_
      refine g_get 81 dX9_step_78 faX9_187_X9 f92 rfl rfl ?_
      refine g_iconst (v := iZ (1)) 82 dX9_step_81 rfl rfl ?_
      refine g_iaddZ (dn + 1) 83 dX9_step_82 (by omega) rfl ?_
      refine g_putC (fs1 := [.long (tr), .ref 51, .int (iZ mn), .ref 52, .ref 53, .int (iZ kt), .ref 54, .ref 55, .ref 56, .ref 57, .ref 58, .ref 59, .ref 60, .int (iZ bs), .int (iZ ee), .int (iZ pa), .int (iZ fu), .int (iZ st), .int (iZ so), .int (iZ va), .int (iZ ed), .ref 61, .ref 62, .ref 63, .ref 64, .int (iZ cm), .int (iZ a), .int (iZ x), .int (iZ ((p + 2) % 256)), .int (iZ (dn + 1)), .int (iZ tk), .int (iZ ie), .ref 65, .ref 66, .ref 67, .int (iZ en), .ref 68, .ref 69, .ref 70]) 86 dX9_step_83 fpX9_187_X9 f92 (nle rfl) (vI _) rfl rfl (fun h93 s94 f95 => ?_)
      refine g_iload_n 87 dX9_step_86 rfl rfl ?_
      refine g_tabZI (3) 305 dX9_step_87 (by omega) (by omega) (by decide) (by decide) rfl rfl ?_
      refine g_aload_n 306 dX9_step_305 rfl rfl ?_
      refine g_iload_n 307 dX9_step_306 rfl rfl ?_
      refine g_putC (fs1 := [.long (tr), .ref 51, .int (iZ mn), .ref 52, .ref 53, .int (iZ kt), .ref 54, .ref 55, .ref 56, .ref 57, .ref 58, .ref 59, .ref 60, .int (iZ bs), .int (iZ ee), .int (iZ pa), .int (iZ fu), .int (iZ st), .int (iZ so), .int (iZ va), .int (iZ ed), .ref 61, .ref 62, .ref 63, .ref 64, .int (iZ cm), .int (iZ (mm ((p + 1) % 256).toNat)), .int (iZ x), .int (iZ ((p + 2) % 256)), .int (iZ (dn + 1)), .int (iZ tk), .int (iZ ie), .ref 65, .ref 66, .ref 67, .int (iZ en), .ref 68, .ref 69, .ref 70]) 310 dX9_step_307 fpX9_193_X9 f95 (nle rfl) (vI _) rfl rfl (fun h96 s97 f98 => ?_)
      refine g_goto 518 dX9_step_310 rfl ?_
      refine g_iconst (v := iZ (0)) 519 dX9_step_518 rfl rfl ?_
      refine g_iret rfl dX9_step_519 ?_
      have f99 := (s97.get (by decide) (s94.get (by decide) (s91.get (by decide) F3)))
      have f100 := (s97.get (by decide) (s94.get (by decide) (s91.get (by decide) F4)))
      have f101 := (s97.get (by decide) (s94.get (by decide) (s91.get (by decide) F5)))
      exact k _ (cm) (mm ((p + 1) % 256).toNat) (x) ((p + 2) % 256) (dn + 1) (tk) (ie) (mm) (ou) (ol) (0) (by omega) (by omega) (by omega) (by omega) (by omega) (by omega) (by omega) omm oou ool (by omega) (Or.inr (Or.inr ⟨rfl, (fun q => by unfold hcM at q; omega), by omega, (ms_3 ke3)⟩)) ((((Sm.refl [50, 62, 63, 64] _).tr s91 (fun _ q => q) (by simp)).tr s94 (fun _ q => q) (by simp)).tr s97 (fun _ q => q) (by simp)) f98 f99 f100 f101
    · have ke3 : (mm p.toNat).toNat = 4 := by omega
      refine g_iload_n 19 dX9_step_18 rfl rfl ?_
      refine g_iconst (v := iZ (2)) 20 dX9_step_19 rfl rfl ?_
      refine g_icZ_ne 35 23 dX9_step_20 rfl rfl (by omega) (by decide) (fun _ => ?_) (fun q => absurd q (by omega))
      refine g_aload_n 36 dX9_step_35 rfl rfl ?_
      refine g_get 39 dX9_step_36 faX9_44_X9 F0 rfl rfl ?_
      refine g_aload_n 40 dX9_step_39 rfl rfl ?_
      refine g_get 43 dX9_step_40 faX9_181_X9 F0 rfl rfl ?_
      refine g_iconst (v := iZ (1)) 44 dX9_step_43 rfl rfl ?_
      refine g_iaddZ (p + 1) 45 dX9_step_44 (by omega) rfl ?_
      refine g_sipush (v := iZ (255)) 48 dX9_step_45 (by decide +kernel) rfl ?_
      refine g_and255Z ((p + 1) % 256) 49 dX9_step_48 rfl rfl ?_
      have b102 := omm (((p + 1) % 256).toNat)
      refine g_ialdZ (v := iZ (mm ((p + 1) % 256).toNat)) 50 dX9_step_49 F3 (by omega) (by omega) (by decide) rfl rfl ?_
      refine g_istore_n (L1 := [some (.ref 50), some (.int (iZ i)), some (.int (iZ (mm p.toNat))), some (.int (iZ (mm ((p + 1) % 256).toNat))), none]) 51 dX9_step_50 (by decide) rfl rfl rfl ?_
      refine g_aload_n 52 dX9_step_51 rfl rfl ?_
      refine g_aload_n 53 dX9_step_52 rfl rfl ?_
      refine g_get 56 dX9_step_53 faX9_181_X9 F0 rfl rfl ?_
      refine g_iload_n 57 dX9_step_56 rfl rfl ?_
      refine g_callS (z := mX9_hasNumber) (As := [.int (iZ (mm p.toNat))]) 60 dX9_step_57 mwX9_hasNumber ⟨by decide, by decide⟩ rfl wlX9_154 wtX9_hasNumber rfl (nle rfl) (nle rfl) rfl ?_
      refine f_hasn (by omega) (fun z103 rz103 => ?_)
      obtain rfl : z103 = 1 := by omega
      refine rI ?_
      refine g_ifZ_eq 67 63 dX9_step_60 rfl rfl (by decide) (fun q => absurd q (by decide)) (fun _ => ?_)
      refine g_iconst (v := iZ (2)) 64 dX9_step_63 rfl rfl ?_
      refine g_goto 68 dX9_step_64 rfl ?_
      refine g_iaddZ (p + 2) 69 dX9_step_68 (by omega) rfl ?_
      refine g_sipush (v := iZ (255)) 72 dX9_step_69 (by decide +kernel) rfl ?_
      refine g_and255Z ((p + 2) % 256) 73 dX9_step_72 rfl rfl ?_
      refine g_putC (fs1 := [.long (tr), .ref 51, .int (iZ mn), .ref 52, .ref 53, .int (iZ kt), .ref 54, .ref 55, .ref 56, .ref 57, .ref 58, .ref 59, .ref 60, .int (iZ bs), .int (iZ ee), .int (iZ pa), .int (iZ fu), .int (iZ st), .int (iZ so), .int (iZ va), .int (iZ ed), .ref 61, .ref 62, .ref 63, .ref 64, .int (iZ cm), .int (iZ a), .int (iZ x), .int (iZ ((p + 2) % 256)), .int (iZ dn), .int (iZ tk), .int (iZ ie), .ref 65, .ref 66, .ref 67, .int (iZ en), .ref 68, .ref 69, .ref 70]) 76 dX9_step_73 fpX9_181_X9 F0 (nle rfl) (vI _) rfl rfl (fun h104 s105 f106 => ?_)
      refine g_aload_n 77 dX9_step_76 rfl rfl ?_
      refine g_dup 78 dX9_step_77 rfl rfl ?_
      refine g_get 81 dX9_step_78 faX9_187_X9 f106 rfl rfl ?_
      refine g_iconst (v := iZ (1)) 82 dX9_step_81 rfl rfl ?_
      refine g_iaddZ (dn + 1) 83 dX9_step_82 (by omega) rfl ?_
      refine g_putC (fs1 := [.long (tr), .ref 51, .int (iZ mn), .ref 52, .ref 53, .int (iZ kt), .ref 54, .ref 55, .ref 56, .ref 57, .ref 58, .ref 59, .ref 60, .int (iZ bs), .int (iZ ee), .int (iZ pa), .int (iZ fu), .int (iZ st), .int (iZ so), .int (iZ va), .int (iZ ed), .ref 61, .ref 62, .ref 63, .ref 64, .int (iZ cm), .int (iZ a), .int (iZ x), .int (iZ ((p + 2) % 256)), .int (iZ (dn + 1)), .int (iZ tk), .int (iZ ie), .ref 65, .ref 66, .ref 67, .int (iZ en), .ref 68, .ref 69, .ref 70]) 86 dX9_step_83 fpX9_187_X9 f106 (nle rfl) (vI _) rfl rfl (fun h107 s108 f109 => ?_)
      refine g_iload_n 87 dX9_step_86 rfl rfl ?_
      refine g_tabZI (4) 313 dX9_step_87 (by omega) (by omega) (by decide) (by decide) rfl rfl ?_
      refine g_aload_n 314 dX9_step_313 rfl rfl ?_
      refine g_aload_n 315 dX9_step_314 rfl rfl ?_
      refine g_get 318 dX9_step_315 faX9_44_X9 f109 rfl rfl ?_
      refine g_iload_n 319 dX9_step_318 rfl rfl ?_
      have f110 := (s108.get (by decide) (s105.get (by decide) F3))
      have b111 := omm ((mm ((p + 1) % 256).toNat).toNat)
      refine g_ialdZ (v := iZ (mm (mm ((p + 1) % 256).toNat).toNat)) 320 dX9_step_319 f110 (by omega) (by omega) (by decide) rfl rfl ?_
      refine g_putC (fs1 := [.long (tr), .ref 51, .int (iZ mn), .ref 52, .ref 53, .int (iZ kt), .ref 54, .ref 55, .ref 56, .ref 57, .ref 58, .ref 59, .ref 60, .int (iZ bs), .int (iZ ee), .int (iZ pa), .int (iZ fu), .int (iZ st), .int (iZ so), .int (iZ va), .int (iZ ed), .ref 61, .ref 62, .ref 63, .ref 64, .int (iZ cm), .int (iZ (mm (mm ((p + 1) % 256).toNat).toNat)), .int (iZ x), .int (iZ ((p + 2) % 256)), .int (iZ (dn + 1)), .int (iZ tk), .int (iZ ie), .ref 65, .ref 66, .ref 67, .int (iZ en), .ref 68, .ref 69, .ref 70]) 323 dX9_step_320 fpX9_193_X9 f109 (nle rfl) (vI _) rfl rfl (fun h112 s113 f114 => ?_)
      refine g_goto 518 dX9_step_323 rfl ?_
      refine g_iconst (v := iZ (0)) 519 dX9_step_518 rfl rfl ?_
      refine g_iret rfl dX9_step_519 ?_
      have f115 := (s113.get (by decide) f110)
      have f116 := (s113.get (by decide) (s108.get (by decide) (s105.get (by decide) F4)))
      have f117 := (s113.get (by decide) (s108.get (by decide) (s105.get (by decide) F5)))
      exact k _ (cm) (mm (mm ((p + 1) % 256).toNat).toNat) (x) ((p + 2) % 256) (dn + 1) (tk) (ie) (mm) (ou) (ol) (0) (by omega) (by omega) (by omega) (by omega) (by omega) (by omega) (by omega) omm oou ool (by omega) (Or.inr (Or.inr ⟨rfl, (fun q => by unfold hcM at q; omega), by omega, (ms_4 ke3)⟩)) ((((Sm.refl [50, 62, 63, 64] _).tr s105 (fun _ q => q) (by simp)).tr s108 (fun _ q => q) (by simp)).tr s113 (fun _ q => q) (by simp)) f114 f115 f116 f117
    · have ke3 : (mm p.toNat).toNat = 5 := by omega
      refine g_iload_n 19 dX9_step_18 rfl rfl ?_
      refine g_iconst (v := iZ (2)) 20 dX9_step_19 rfl rfl ?_
      refine g_icZ_ne 35 23 dX9_step_20 rfl rfl (by omega) (by decide) (fun _ => ?_) (fun q => absurd q (by omega))
      refine g_aload_n 36 dX9_step_35 rfl rfl ?_
      refine g_get 39 dX9_step_36 faX9_44_X9 F0 rfl rfl ?_
      refine g_aload_n 40 dX9_step_39 rfl rfl ?_
      refine g_get 43 dX9_step_40 faX9_181_X9 F0 rfl rfl ?_
      refine g_iconst (v := iZ (1)) 44 dX9_step_43 rfl rfl ?_
      refine g_iaddZ (p + 1) 45 dX9_step_44 (by omega) rfl ?_
      refine g_sipush (v := iZ (255)) 48 dX9_step_45 (by decide +kernel) rfl ?_
      refine g_and255Z ((p + 1) % 256) 49 dX9_step_48 rfl rfl ?_
      have b118 := omm (((p + 1) % 256).toNat)
      refine g_ialdZ (v := iZ (mm ((p + 1) % 256).toNat)) 50 dX9_step_49 F3 (by omega) (by omega) (by decide) rfl rfl ?_
      refine g_istore_n (L1 := [some (.ref 50), some (.int (iZ i)), some (.int (iZ (mm p.toNat))), some (.int (iZ (mm ((p + 1) % 256).toNat))), none]) 51 dX9_step_50 (by decide) rfl rfl rfl ?_
      refine g_aload_n 52 dX9_step_51 rfl rfl ?_
      refine g_aload_n 53 dX9_step_52 rfl rfl ?_
      refine g_get 56 dX9_step_53 faX9_181_X9 F0 rfl rfl ?_
      refine g_iload_n 57 dX9_step_56 rfl rfl ?_
      refine g_callS (z := mX9_hasNumber) (As := [.int (iZ (mm p.toNat))]) 60 dX9_step_57 mwX9_hasNumber ⟨by decide, by decide⟩ rfl wlX9_154 wtX9_hasNumber rfl (nle rfl) (nle rfl) rfl ?_
      refine f_hasn (by omega) (fun z119 rz119 => ?_)
      obtain rfl : z119 = 1 := by omega
      refine rI ?_
      refine g_ifZ_eq 67 63 dX9_step_60 rfl rfl (by decide) (fun q => absurd q (by decide)) (fun _ => ?_)
      refine g_iconst (v := iZ (2)) 64 dX9_step_63 rfl rfl ?_
      refine g_goto 68 dX9_step_64 rfl ?_
      refine g_iaddZ (p + 2) 69 dX9_step_68 (by omega) rfl ?_
      refine g_sipush (v := iZ (255)) 72 dX9_step_69 (by decide +kernel) rfl ?_
      refine g_and255Z ((p + 2) % 256) 73 dX9_step_72 rfl rfl ?_
      refine g_putC (fs1 := [.long (tr), .ref 51, .int (iZ mn), .ref 52, .ref 53, .int (iZ kt), .ref 54, .ref 55, .ref 56, .ref 57, .ref 58, .ref 59, .ref 60, .int (iZ bs), .int (iZ ee), .int (iZ pa), .int (iZ fu), .int (iZ st), .int (iZ so), .int (iZ va), .int (iZ ed), .ref 61, .ref 62, .ref 63, .ref 64, .int (iZ cm), .int (iZ a), .int (iZ x), .int (iZ ((p + 2) % 256)), .int (iZ dn), .int (iZ tk), .int (iZ ie), .ref 65, .ref 66, .ref 67, .int (iZ en), .ref 68, .ref 69, .ref 70]) 76 dX9_step_73 fpX9_181_X9 F0 (nle rfl) (vI _) rfl rfl (fun h120 s121 f122 => ?_)
      refine g_aload_n 77 dX9_step_76 rfl rfl ?_
      refine g_dup 78 dX9_step_77 rfl rfl ?_
      refine g_get 81 dX9_step_78 faX9_187_X9 f122 rfl rfl ?_
      refine g_iconst (v := iZ (1)) 82 dX9_step_81 rfl rfl ?_
      refine g_iaddZ (dn + 1) 83 dX9_step_82 (by omega) rfl ?_
      refine g_putC (fs1 := [.long (tr), .ref 51, .int (iZ mn), .ref 52, .ref 53, .int (iZ kt), .ref 54, .ref 55, .ref 56, .ref 57, .ref 58, .ref 59, .ref 60, .int (iZ bs), .int (iZ ee), .int (iZ pa), .int (iZ fu), .int (iZ st), .int (iZ so), .int (iZ va), .int (iZ ed), .ref 61, .ref 62, .ref 63, .ref 64, .int (iZ cm), .int (iZ a), .int (iZ x), .int (iZ ((p + 2) % 256)), .int (iZ (dn + 1)), .int (iZ tk), .int (iZ ie), .ref 65, .ref 66, .ref 67, .int (iZ en), .ref 68, .ref 69, .ref 70]) 86 dX9_step_83 fpX9_187_X9 f122 (nle rfl) (vI _) rfl rfl (fun h123 s124 f125 => ?_)
      refine g_iload_n 87 dX9_step_86 rfl rfl ?_
      refine g_tabZI (5) 326 dX9_step_87 (by omega) (by omega) (by decide) (by decide) rfl rfl ?_
      refine g_aload_n 327 dX9_step_326 rfl rfl ?_
      refine g_get 330 dX9_step_327 faX9_44_X9 f125 rfl rfl ?_
      refine g_iload_n 331 dX9_step_330 rfl rfl ?_
      refine g_aload_n 332 dX9_step_331 rfl rfl ?_
      refine g_get 335 dX9_step_332 faX9_193_X9 f125 rfl rfl ?_
      have f126 := (s124.get (by decide) (s121.get (by decide) F3))
      refine g_iastFj ((mm ((p + 1) % 256).toNat).toNat) 336 dX9_step_335 f126 (by omega) (by omega) (by decide) rfl rfl (fun h127 s128 f129 => ?_)
      refine g_goto 518 dX9_step_336 rfl ?_
      refine g_iconst (v := iZ (0)) 519 dX9_step_518 rfl rfl ?_
      refine g_iret rfl dX9_step_519 ?_
      have f130 := (s128.get (by decide) f125)
      have f131 := (s128.get (by decide) (s124.get (by decide) (s121.get (by decide) F4)))
      have f132 := (s128.get (by decide) (s124.get (by decide) (s121.get (by decide) F5)))
      exact k _ (cm) (a) (x) ((p + 2) % 256) (dn + 1) (tk) (ie) (va_up mm (mm ((p + 1) % 256).toNat).toNat a) (ou) (ol) (0) (by omega) (by omega) (by omega) (by omega) (by omega) (by omega) (by omega) (oki_up omm _ (by omega)) oou ool (by omega) (Or.inr (Or.inr ⟨rfl, (fun q => by unfold hcM at q; omega), by omega, (ms_5 ke3)⟩)) ((((Sm.refl [50, 62, 63, 64] _).tr s121 (fun _ q => q) (by simp)).tr s124 (fun _ q => q) (by simp)).tr s128 (fun _ q => q) (by simp)) f130 f129 f131 f132
    · have ke3 : (mm p.toNat).toNat = 6 := by omega
      refine g_iload_n 19 dX9_step_18 rfl rfl ?_
      refine g_iconst (v := iZ (2)) 20 dX9_step_19 rfl rfl ?_
      refine g_icZ_ne 35 23 dX9_step_20 rfl rfl (by omega) (by decide) (fun _ => ?_) (fun q => absurd q (by omega))
      refine g_aload_n 36 dX9_step_35 rfl rfl ?_
      refine g_get 39 dX9_step_36 faX9_44_X9 F0 rfl rfl ?_
      refine g_aload_n 40 dX9_step_39 rfl rfl ?_
      refine g_get 43 dX9_step_40 faX9_181_X9 F0 rfl rfl ?_
      refine g_iconst (v := iZ (1)) 44 dX9_step_43 rfl rfl ?_
      refine g_iaddZ (p + 1) 45 dX9_step_44 (by omega) rfl ?_
      refine g_sipush (v := iZ (255)) 48 dX9_step_45 (by decide +kernel) rfl ?_
      refine g_and255Z ((p + 1) % 256) 49 dX9_step_48 rfl rfl ?_
      have b133 := omm (((p + 1) % 256).toNat)
      refine g_ialdZ (v := iZ (mm ((p + 1) % 256).toNat)) 50 dX9_step_49 F3 (by omega) (by omega) (by decide) rfl rfl ?_
      refine g_istore_n (L1 := [some (.ref 50), some (.int (iZ i)), some (.int (iZ (mm p.toNat))), some (.int (iZ (mm ((p + 1) % 256).toNat))), none]) 51 dX9_step_50 (by decide) rfl rfl rfl ?_
      refine g_aload_n 52 dX9_step_51 rfl rfl ?_
      refine g_aload_n 53 dX9_step_52 rfl rfl ?_
      refine g_get 56 dX9_step_53 faX9_181_X9 F0 rfl rfl ?_
      refine g_iload_n 57 dX9_step_56 rfl rfl ?_
      refine g_callS (z := mX9_hasNumber) (As := [.int (iZ (mm p.toNat))]) 60 dX9_step_57 mwX9_hasNumber ⟨by decide, by decide⟩ rfl wlX9_154 wtX9_hasNumber rfl (nle rfl) (nle rfl) rfl ?_
      refine f_hasn (by omega) (fun z134 rz134 => ?_)
      obtain rfl : z134 = 1 := by omega
      refine rI ?_
      refine g_ifZ_eq 67 63 dX9_step_60 rfl rfl (by decide) (fun q => absurd q (by decide)) (fun _ => ?_)
      refine g_iconst (v := iZ (2)) 64 dX9_step_63 rfl rfl ?_
      refine g_goto 68 dX9_step_64 rfl ?_
      refine g_iaddZ (p + 2) 69 dX9_step_68 (by omega) rfl ?_
      refine g_sipush (v := iZ (255)) 72 dX9_step_69 (by decide +kernel) rfl ?_
      refine g_and255Z ((p + 2) % 256) 73 dX9_step_72 rfl rfl ?_
      refine g_putC (fs1 := [.long (tr), .ref 51, .int (iZ mn), .ref 52, .ref 53, .int (iZ kt), .ref 54, .ref 55, .ref 56, .ref 57, .ref 58, .ref 59, .ref 60, .int (iZ bs), .int (iZ ee), .int (iZ pa), .int (iZ fu), .int (iZ st), .int (iZ so), .int (iZ va), .int (iZ ed), .ref 61, .ref 62, .ref 63, .ref 64, .int (iZ cm), .int (iZ a), .int (iZ x), .int (iZ ((p + 2) % 256)), .int (iZ dn), .int (iZ tk), .int (iZ ie), .ref 65, .ref 66, .ref 67, .int (iZ en), .ref 68, .ref 69, .ref 70]) 76 dX9_step_73 fpX9_181_X9 F0 (nle rfl) (vI _) rfl rfl (fun h135 s136 f137 => ?_)
      refine g_aload_n 77 dX9_step_76 rfl rfl ?_
      refine g_dup 78 dX9_step_77 rfl rfl ?_
      refine g_get 81 dX9_step_78 faX9_187_X9 f137 rfl rfl ?_
      refine g_iconst (v := iZ (1)) 82 dX9_step_81 rfl rfl ?_
      refine g_iaddZ (dn + 1) 83 dX9_step_82 (by omega) rfl ?_
      refine g_putC (fs1 := [.long (tr), .ref 51, .int (iZ mn), .ref 52, .ref 53, .int (iZ kt), .ref 54, .ref 55, .ref 56, .ref 57, .ref 58, .ref 59, .ref 60, .int (iZ bs), .int (iZ ee), .int (iZ pa), .int (iZ fu), .int (iZ st), .int (iZ so), .int (iZ va), .int (iZ ed), .ref 61, .ref 62, .ref 63, .ref 64, .int (iZ cm), .int (iZ a), .int (iZ x), .int (iZ ((p + 2) % 256)), .int (iZ (dn + 1)), .int (iZ tk), .int (iZ ie), .ref 65, .ref 66, .ref 67, .int (iZ en), .ref 68, .ref 69, .ref 70]) 86 dX9_step_83 fpX9_187_X9 f137 (nle rfl) (vI _) rfl rfl (fun h138 s139 f140 => ?_)
      refine g_iload_n 87 dX9_step_86 rfl rfl ?_
      refine g_tabZI (6) 339 dX9_step_87 (by omega) (by omega) (by decide) (by decide) rfl rfl ?_
      refine g_aload_n 340 dX9_step_339 rfl rfl ?_
      refine g_aload_n 341 dX9_step_340 rfl rfl ?_
      refine g_get 344 dX9_step_341 faX9_193_X9 f140 rfl rfl ?_
      refine g_aload_n 345 dX9_step_344 rfl rfl ?_
      refine g_get 348 dX9_step_345 faX9_44_X9 f140 rfl rfl ?_
      refine g_iload_n 349 dX9_step_348 rfl rfl ?_
      have f141 := (s139.get (by decide) (s136.get (by decide) F3))
      have b142 := omm ((mm ((p + 1) % 256).toNat).toNat)
      refine g_ialdZ (v := iZ (mm (mm ((p + 1) % 256).toNat).toNat)) 350 dX9_step_349 f141 (by omega) (by omega) (by decide) rfl rfl ?_
      refine g_iaddZ (a + (mm (mm ((p + 1) % 256).toNat).toNat)) 351 dX9_step_350 (by omega) rfl ?_
      refine g_sipush (v := iZ (255)) 354 dX9_step_351 (by decide +kernel) rfl ?_
      refine g_and255Z ((a + (mm (mm ((p + 1) % 256).toNat).toNat)) % 256) 355 dX9_step_354 rfl rfl ?_
      refine g_putC (fs1 := [.long (tr), .ref 51, .int (iZ mn), .ref 52, .ref 53, .int (iZ kt), .ref 54, .ref 55, .ref 56, .ref 57, .ref 58, .ref 59, .ref 60, .int (iZ bs), .int (iZ ee), .int (iZ pa), .int (iZ fu), .int (iZ st), .int (iZ so), .int (iZ va), .int (iZ ed), .ref 61, .ref 62, .ref 63, .ref 64, .int (iZ cm), .int (iZ ((a + (mm (mm ((p + 1) % 256).toNat).toNat)) % 256)), .int (iZ x), .int (iZ ((p + 2) % 256)), .int (iZ (dn + 1)), .int (iZ tk), .int (iZ ie), .ref 65, .ref 66, .ref 67, .int (iZ en), .ref 68, .ref 69, .ref 70]) 358 dX9_step_355 fpX9_193_X9 f140 (nle rfl) (vI _) rfl rfl (fun h143 s144 f145 => ?_)
      refine g_goto 518 dX9_step_358 rfl ?_
      refine g_iconst (v := iZ (0)) 519 dX9_step_518 rfl rfl ?_
      refine g_iret rfl dX9_step_519 ?_
      have f146 := (s144.get (by decide) f141)
      have f147 := (s144.get (by decide) (s139.get (by decide) (s136.get (by decide) F4)))
      have f148 := (s144.get (by decide) (s139.get (by decide) (s136.get (by decide) F5)))
      exact k _ (cm) ((a + (mm (mm ((p + 1) % 256).toNat).toNat)) % 256) (x) ((p + 2) % 256) (dn + 1) (tk) (ie) (mm) (ou) (ol) (0) (by omega) (by omega) (by omega) (by omega) (by omega) (by omega) (by omega) omm oou ool (by omega) (Or.inr (Or.inr ⟨rfl, (fun q => by unfold hcM at q; omega), by omega, (ms_6 ke3)⟩)) ((((Sm.refl [50, 62, 63, 64] _).tr s136 (fun _ q => q) (by simp)).tr s139 (fun _ q => q) (by simp)).tr s144 (fun _ q => q) (by simp)) f145 f146 f147 f148
    · have ke3 : (mm p.toNat).toNat = 7 := by omega
      refine g_iload_n 19 dX9_step_18 rfl rfl ?_
      refine g_iconst (v := iZ (2)) 20 dX9_step_19 rfl rfl ?_
      refine g_icZ_ne 35 23 dX9_step_20 rfl rfl (by omega) (by decide) (fun _ => ?_) (fun q => absurd q (by omega))
      refine g_aload_n 36 dX9_step_35 rfl rfl ?_
      refine g_get 39 dX9_step_36 faX9_44_X9 F0 rfl rfl ?_
      refine g_aload_n 40 dX9_step_39 rfl rfl ?_
      refine g_get 43 dX9_step_40 faX9_181_X9 F0 rfl rfl ?_
      refine g_iconst (v := iZ (1)) 44 dX9_step_43 rfl rfl ?_
      refine g_iaddZ (p + 1) 45 dX9_step_44 (by omega) rfl ?_
      refine g_sipush (v := iZ (255)) 48 dX9_step_45 (by decide +kernel) rfl ?_
      refine g_and255Z ((p + 1) % 256) 49 dX9_step_48 rfl rfl ?_
      have b149 := omm (((p + 1) % 256).toNat)
      refine g_ialdZ (v := iZ (mm ((p + 1) % 256).toNat)) 50 dX9_step_49 F3 (by omega) (by omega) (by decide) rfl rfl ?_
      refine g_istore_n (L1 := [some (.ref 50), some (.int (iZ i)), some (.int (iZ (mm p.toNat))), some (.int (iZ (mm ((p + 1) % 256).toNat))), none]) 51 dX9_step_50 (by decide) rfl rfl rfl ?_
      refine g_aload_n 52 dX9_step_51 rfl rfl ?_
      refine g_aload_n 53 dX9_step_52 rfl rfl ?_
      refine g_get 56 dX9_step_53 faX9_181_X9 F0 rfl rfl ?_
      refine g_iload_n 57 dX9_step_56 rfl rfl ?_
      refine g_callS (z := mX9_hasNumber) (As := [.int (iZ (mm p.toNat))]) 60 dX9_step_57 mwX9_hasNumber ⟨by decide, by decide⟩ rfl wlX9_154 wtX9_hasNumber rfl (nle rfl) (nle rfl) rfl ?_
      refine f_hasn (by omega) (fun z150 rz150 => ?_)
      obtain rfl : z150 = 1 := by omega
      refine rI ?_
      refine g_ifZ_eq 67 63 dX9_step_60 rfl rfl (by decide) (fun q => absurd q (by decide)) (fun _ => ?_)
      refine g_iconst (v := iZ (2)) 64 dX9_step_63 rfl rfl ?_
      refine g_goto 68 dX9_step_64 rfl ?_
      refine g_iaddZ (p + 2) 69 dX9_step_68 (by omega) rfl ?_
      refine g_sipush (v := iZ (255)) 72 dX9_step_69 (by decide +kernel) rfl ?_
      refine g_and255Z ((p + 2) % 256) 73 dX9_step_72 rfl rfl ?_
      refine g_putC (fs1 := [.long (tr), .ref 51, .int (iZ mn), .ref 52, .ref 53, .int (iZ kt), .ref 54, .ref 55, .ref 56, .ref 57, .ref 58, .ref 59, .ref 60, .int (iZ bs), .int (iZ ee), .int (iZ pa), .int (iZ fu), .int (iZ st), .int (iZ so), .int (iZ va), .int (iZ ed), .ref 61, .ref 62, .ref 63, .ref 64, .int (iZ cm), .int (iZ a), .int (iZ x), .int (iZ ((p + 2) % 256)), .int (iZ dn), .int (iZ tk), .int (iZ ie), .ref 65, .ref 66, .ref 67, .int (iZ en), .ref 68, .ref 69, .ref 70]) 76 dX9_step_73 fpX9_181_X9 F0 (nle rfl) (vI _) rfl rfl (fun h151 s152 f153 => ?_)
      refine g_aload_n 77 dX9_step_76 rfl rfl ?_
      refine g_dup 78 dX9_step_77 rfl rfl ?_
      refine g_get 81 dX9_step_78 faX9_187_X9 f153 rfl rfl ?_
      refine g_iconst (v := iZ (1)) 82 dX9_step_81 rfl rfl ?_
      refine g_iaddZ (dn + 1) 83 dX9_step_82 (by omega) rfl ?_
      refine g_putC (fs1 := [.long (tr), .ref 51, .int (iZ mn), .ref 52, .ref 53, .int (iZ kt), .ref 54, .ref 55, .ref 56, .ref 57, .ref 58, .ref 59, .ref 60, .int (iZ bs), .int (iZ ee), .int (iZ pa), .int (iZ fu), .int (iZ st), .int (iZ so), .int (iZ va), .int (iZ ed), .ref 61, .ref 62, .ref 63, .ref 64, .int (iZ cm), .int (iZ a), .int (iZ x), .int (iZ ((p + 2) % 256)), .int (iZ (dn + 1)), .int (iZ tk), .int (iZ ie), .ref 65, .ref 66, .ref 67, .int (iZ en), .ref 68, .ref 69, .ref 70]) 86 dX9_step_83 fpX9_187_X9 f153 (nle rfl) (vI _) rfl rfl (fun h154 s155 f156 => ?_)
      refine g_iload_n 87 dX9_step_86 rfl rfl ?_
      refine g_tabZI (7) 361 dX9_step_87 (by omega) (by omega) (by decide) (by decide) rfl rfl ?_
      refine g_aload_n 362 dX9_step_361 rfl rfl ?_
      refine g_aload_n 363 dX9_step_362 rfl rfl ?_
      refine g_get 366 dX9_step_363 faX9_193_X9 f156 rfl rfl ?_
      refine g_aload_n 367 dX9_step_366 rfl rfl ?_
      refine g_get 370 dX9_step_367 faX9_44_X9 f156 rfl rfl ?_
      refine g_iload_n 371 dX9_step_370 rfl rfl ?_
      have f157 := (s155.get (by decide) (s152.get (by decide) F3))
      have b158 := omm ((mm ((p + 1) % 256).toNat).toNat)
      refine g_ialdZ (v := iZ (mm (mm ((p + 1) % 256).toNat).toNat)) 372 dX9_step_371 f157 (by omega) (by omega) (by decide) rfl rfl ?_
      refine g_isubZ (a - (mm (mm ((p + 1) % 256).toNat).toNat)) 373 dX9_step_372 (by omega) rfl ?_
      refine g_sipush (v := iZ (255)) 376 dX9_step_373 (by decide +kernel) rfl ?_
      refine g_and255Z ((a - (mm (mm ((p + 1) % 256).toNat).toNat)) % 256) 377 dX9_step_376 rfl rfl ?_
      refine g_putC (fs1 := [.long (tr), .ref 51, .int (iZ mn), .ref 52, .ref 53, .int (iZ kt), .ref 54, .ref 55, .ref 56, .ref 57, .ref 58, .ref 59, .ref 60, .int (iZ bs), .int (iZ ee), .int (iZ pa), .int (iZ fu), .int (iZ st), .int (iZ so), .int (iZ va), .int (iZ ed), .ref 61, .ref 62, .ref 63, .ref 64, .int (iZ cm), .int (iZ ((a - (mm (mm ((p + 1) % 256).toNat).toNat)) % 256)), .int (iZ x), .int (iZ ((p + 2) % 256)), .int (iZ (dn + 1)), .int (iZ tk), .int (iZ ie), .ref 65, .ref 66, .ref 67, .int (iZ en), .ref 68, .ref 69, .ref 70]) 380 dX9_step_377 fpX9_193_X9 f156 (nle rfl) (vI _) rfl rfl (fun h159 s160 f161 => ?_)
      refine g_goto 518 dX9_step_380 rfl ?_
      refine g_iconst (v := iZ (0)) 519 dX9_step_518 rfl rfl ?_
      refine g_iret rfl dX9_step_519 ?_
      have f162 := (s160.get (by decide) f157)
      have f163 := (s160.get (by decide) (s155.get (by decide) (s152.get (by decide) F4)))
      have f164 := (s160.get (by decide) (s155.get (by decide) (s152.get (by decide) F5)))
      exact k _ (cm) ((a - (mm (mm ((p + 1) % 256).toNat).toNat)) % 256) (x) ((p + 2) % 256) (dn + 1) (tk) (ie) (mm) (ou) (ol) (0) (by omega) (by omega) (by omega) (by omega) (by omega) (by omega) (by omega) omm oou ool (by omega) (Or.inr (Or.inr ⟨rfl, (fun q => by unfold hcM at q; omega), by omega, (ms_7 ke3)⟩)) ((((Sm.refl [50, 62, 63, 64] _).tr s152 (fun _ q => q) (by simp)).tr s155 (fun _ q => q) (by simp)).tr s160 (fun _ q => q) (by simp)) f161 f162 f163 f164
    · have ke3 : (mm p.toNat).toNat = 8 := by omega
      refine g_iload_n 19 dX9_step_18 rfl rfl ?_
      refine g_iconst (v := iZ (2)) 20 dX9_step_19 rfl rfl ?_
      refine g_icZ_ne 35 23 dX9_step_20 rfl rfl (by omega) (by decide) (fun _ => ?_) (fun q => absurd q (by omega))
      refine g_aload_n 36 dX9_step_35 rfl rfl ?_
      refine g_get 39 dX9_step_36 faX9_44_X9 F0 rfl rfl ?_
      refine g_aload_n 40 dX9_step_39 rfl rfl ?_
      refine g_get 43 dX9_step_40 faX9_181_X9 F0 rfl rfl ?_
      refine g_iconst (v := iZ (1)) 44 dX9_step_43 rfl rfl ?_
      refine g_iaddZ (p + 1) 45 dX9_step_44 (by omega) rfl ?_
      refine g_sipush (v := iZ (255)) 48 dX9_step_45 (by decide +kernel) rfl ?_
      refine g_and255Z ((p + 1) % 256) 49 dX9_step_48 rfl rfl ?_
      have b165 := omm (((p + 1) % 256).toNat)
      refine g_ialdZ (v := iZ (mm ((p + 1) % 256).toNat)) 50 dX9_step_49 F3 (by omega) (by omega) (by decide) rfl rfl ?_
      refine g_istore_n (L1 := [some (.ref 50), some (.int (iZ i)), some (.int (iZ (mm p.toNat))), some (.int (iZ (mm ((p + 1) % 256).toNat))), none]) 51 dX9_step_50 (by decide) rfl rfl rfl ?_
      refine g_aload_n 52 dX9_step_51 rfl rfl ?_
      refine g_aload_n 53 dX9_step_52 rfl rfl ?_
      refine g_get 56 dX9_step_53 faX9_181_X9 F0 rfl rfl ?_
      refine g_iload_n 57 dX9_step_56 rfl rfl ?_
      refine g_callS (z := mX9_hasNumber) (As := [.int (iZ (mm p.toNat))]) 60 dX9_step_57 mwX9_hasNumber ⟨by decide, by decide⟩ rfl wlX9_154 wtX9_hasNumber rfl (nle rfl) (nle rfl) rfl ?_
      refine f_hasn (by omega) (fun z166 rz166 => ?_)
      obtain rfl : z166 = 0 := by omega
      refine rI ?_
      refine g_ifZ_eq 67 63 dX9_step_60 rfl rfl (by decide) (fun _ => ?_) (fun q => absurd q (by decide))
      refine g_iconst (v := iZ (1)) 68 dX9_step_67 rfl rfl ?_
      refine g_iaddZ (p + 1) 69 dX9_step_68 (by omega) rfl ?_
      refine g_sipush (v := iZ (255)) 72 dX9_step_69 (by decide +kernel) rfl ?_
      refine g_and255Z ((p + 1) % 256) 73 dX9_step_72 rfl rfl ?_
      refine g_putC (fs1 := [.long (tr), .ref 51, .int (iZ mn), .ref 52, .ref 53, .int (iZ kt), .ref 54, .ref 55, .ref 56, .ref 57, .ref 58, .ref 59, .ref 60, .int (iZ bs), .int (iZ ee), .int (iZ pa), .int (iZ fu), .int (iZ st), .int (iZ so), .int (iZ va), .int (iZ ed), .ref 61, .ref 62, .ref 63, .ref 64, .int (iZ cm), .int (iZ a), .int (iZ x), .int (iZ ((p + 1) % 256)), .int (iZ dn), .int (iZ tk), .int (iZ ie), .ref 65, .ref 66, .ref 67, .int (iZ en), .ref 68, .ref 69, .ref 70]) 76 dX9_step_73 fpX9_181_X9 F0 (nle rfl) (vI _) rfl rfl (fun h167 s168 f169 => ?_)
      refine g_aload_n 77 dX9_step_76 rfl rfl ?_
      refine g_dup 78 dX9_step_77 rfl rfl ?_
      refine g_get 81 dX9_step_78 faX9_187_X9 f169 rfl rfl ?_
      refine g_iconst (v := iZ (1)) 82 dX9_step_81 rfl rfl ?_
      refine g_iaddZ (dn + 1) 83 dX9_step_82 (by omega) rfl ?_
      refine g_putC (fs1 := [.long (tr), .ref 51, .int (iZ mn), .ref 52, .ref 53, .int (iZ kt), .ref 54, .ref 55, .ref 56, .ref 57, .ref 58, .ref 59, .ref 60, .int (iZ bs), .int (iZ ee), .int (iZ pa), .int (iZ fu), .int (iZ st), .int (iZ so), .int (iZ va), .int (iZ ed), .ref 61, .ref 62, .ref 63, .ref 64, .int (iZ cm), .int (iZ a), .int (iZ x), .int (iZ ((p + 1) % 256)), .int (iZ (dn + 1)), .int (iZ tk), .int (iZ ie), .ref 65, .ref 66, .ref 67, .int (iZ en), .ref 68, .ref 69, .ref 70]) 86 dX9_step_83 fpX9_187_X9 f169 (nle rfl) (vI _) rfl rfl (fun h170 s171 f172 => ?_)
      refine g_iload_n 87 dX9_step_86 rfl rfl ?_
      refine g_tabZI (8) 383 dX9_step_87 (by omega) (by omega) (by decide) (by decide) rfl rfl ?_
      refine g_aload_n 384 dX9_step_383 rfl rfl ?_
      refine g_aload_n 385 dX9_step_384 rfl rfl ?_
      refine g_get 388 dX9_step_385 faX9_44_X9 f172 rfl rfl ?_
      refine g_aload_n 389 dX9_step_388 rfl rfl ?_
      refine g_get 392 dX9_step_389 faX9_199_X9 f172 rfl rfl ?_
      have f173 := (s171.get (by decide) (s168.get (by decide) F3))
      have b174 := omm ((x).toNat)
      refine g_ialdZ (v := iZ (mm x.toNat)) 393 dX9_step_392 f173 (by omega) (by omega) (by decide) rfl rfl ?_
      refine g_putC (fs1 := [.long (tr), .ref 51, .int (iZ mn), .ref 52, .ref 53, .int (iZ kt), .ref 54, .ref 55, .ref 56, .ref 57, .ref 58, .ref 59, .ref 60, .int (iZ bs), .int (iZ ee), .int (iZ pa), .int (iZ fu), .int (iZ st), .int (iZ so), .int (iZ va), .int (iZ ed), .ref 61, .ref 62, .ref 63, .ref 64, .int (iZ cm), .int (iZ (mm x.toNat)), .int (iZ x), .int (iZ ((p + 1) % 256)), .int (iZ (dn + 1)), .int (iZ tk), .int (iZ ie), .ref 65, .ref 66, .ref 67, .int (iZ en), .ref 68, .ref 69, .ref 70]) 396 dX9_step_393 fpX9_193_X9 f172 (nle rfl) (vI _) rfl rfl (fun h175 s176 f177 => ?_)
      refine g_goto 518 dX9_step_396 rfl ?_
      refine g_iconst (v := iZ (0)) 519 dX9_step_518 rfl rfl ?_
      refine g_iret rfl dX9_step_519 ?_
      have f178 := (s176.get (by decide) f173)
      have f179 := (s176.get (by decide) (s171.get (by decide) (s168.get (by decide) F4)))
      have f180 := (s176.get (by decide) (s171.get (by decide) (s168.get (by decide) F5)))
      exact k _ (cm) (mm x.toNat) (x) ((p + 1) % 256) (dn + 1) (tk) (ie) (mm) (ou) (ol) (0) (by omega) (by omega) (by omega) (by omega) (by omega) (by omega) (by omega) omm oou ool (by omega) (Or.inr (Or.inr ⟨rfl, (fun q => by unfold hcM at q; omega), by omega, (ms_8 ke3)⟩)) ((((Sm.refl [50, 62, 63, 64] _).tr s168 (fun _ q => q) (by simp)).tr s171 (fun _ q => q) (by simp)).tr s176 (fun _ q => q) (by simp)) f177 f178 f179 f180
    · have ke3 : (mm p.toNat).toNat = 9 := by omega
      refine g_iload_n 19 dX9_step_18 rfl rfl ?_
      refine g_iconst (v := iZ (2)) 20 dX9_step_19 rfl rfl ?_
      refine g_icZ_ne 35 23 dX9_step_20 rfl rfl (by omega) (by decide) (fun _ => ?_) (fun q => absurd q (by omega))
      refine g_aload_n 36 dX9_step_35 rfl rfl ?_
      refine g_get 39 dX9_step_36 faX9_44_X9 F0 rfl rfl ?_
      refine g_aload_n 40 dX9_step_39 rfl rfl ?_
      refine g_get 43 dX9_step_40 faX9_181_X9 F0 rfl rfl ?_
      refine g_iconst (v := iZ (1)) 44 dX9_step_43 rfl rfl ?_
      refine g_iaddZ (p + 1) 45 dX9_step_44 (by omega) rfl ?_
      refine g_sipush (v := iZ (255)) 48 dX9_step_45 (by decide +kernel) rfl ?_
      refine g_and255Z ((p + 1) % 256) 49 dX9_step_48 rfl rfl ?_
      have b181 := omm (((p + 1) % 256).toNat)
      refine g_ialdZ (v := iZ (mm ((p + 1) % 256).toNat)) 50 dX9_step_49 F3 (by omega) (by omega) (by decide) rfl rfl ?_
      refine g_istore_n (L1 := [some (.ref 50), some (.int (iZ i)), some (.int (iZ (mm p.toNat))), some (.int (iZ (mm ((p + 1) % 256).toNat))), none]) 51 dX9_step_50 (by decide) rfl rfl rfl ?_
      refine g_aload_n 52 dX9_step_51 rfl rfl ?_
      refine g_aload_n 53 dX9_step_52 rfl rfl ?_
      refine g_get 56 dX9_step_53 faX9_181_X9 F0 rfl rfl ?_
      refine g_iload_n 57 dX9_step_56 rfl rfl ?_
      refine g_callS (z := mX9_hasNumber) (As := [.int (iZ (mm p.toNat))]) 60 dX9_step_57 mwX9_hasNumber ⟨by decide, by decide⟩ rfl wlX9_154 wtX9_hasNumber rfl (nle rfl) (nle rfl) rfl ?_
      refine f_hasn (by omega) (fun z182 rz182 => ?_)
      obtain rfl : z182 = 0 := by omega
      refine rI ?_
      refine g_ifZ_eq 67 63 dX9_step_60 rfl rfl (by decide) (fun _ => ?_) (fun q => absurd q (by decide))
      refine g_iconst (v := iZ (1)) 68 dX9_step_67 rfl rfl ?_
      refine g_iaddZ (p + 1) 69 dX9_step_68 (by omega) rfl ?_
      refine g_sipush (v := iZ (255)) 72 dX9_step_69 (by decide +kernel) rfl ?_
      refine g_and255Z ((p + 1) % 256) 73 dX9_step_72 rfl rfl ?_
      refine g_putC (fs1 := [.long (tr), .ref 51, .int (iZ mn), .ref 52, .ref 53, .int (iZ kt), .ref 54, .ref 55, .ref 56, .ref 57, .ref 58, .ref 59, .ref 60, .int (iZ bs), .int (iZ ee), .int (iZ pa), .int (iZ fu), .int (iZ st), .int (iZ so), .int (iZ va), .int (iZ ed), .ref 61, .ref 62, .ref 63, .ref 64, .int (iZ cm), .int (iZ a), .int (iZ x), .int (iZ ((p + 1) % 256)), .int (iZ dn), .int (iZ tk), .int (iZ ie), .ref 65, .ref 66, .ref 67, .int (iZ en), .ref 68, .ref 69, .ref 70]) 76 dX9_step_73 fpX9_181_X9 F0 (nle rfl) (vI _) rfl rfl (fun h183 s184 f185 => ?_)
      refine g_aload_n 77 dX9_step_76 rfl rfl ?_
      refine g_dup 78 dX9_step_77 rfl rfl ?_
      refine g_get 81 dX9_step_78 faX9_187_X9 f185 rfl rfl ?_
      refine g_iconst (v := iZ (1)) 82 dX9_step_81 rfl rfl ?_
      refine g_iaddZ (dn + 1) 83 dX9_step_82 (by omega) rfl ?_
      refine g_putC (fs1 := [.long (tr), .ref 51, .int (iZ mn), .ref 52, .ref 53, .int (iZ kt), .ref 54, .ref 55, .ref 56, .ref 57, .ref 58, .ref 59, .ref 60, .int (iZ bs), .int (iZ ee), .int (iZ pa), .int (iZ fu), .int (iZ st), .int (iZ so), .int (iZ va), .int (iZ ed), .ref 61, .ref 62, .ref 63, .ref 64, .int (iZ cm), .int (iZ a), .int (iZ x), .int (iZ ((p + 1) % 256)), .int (iZ (dn + 1)), .int (iZ tk), .int (iZ ie), .ref 65, .ref 66, .ref 67, .int (iZ en), .ref 68, .ref 69, .ref 70]) 86 dX9_step_83 fpX9_187_X9 f185 (nle rfl) (vI _) rfl rfl (fun h186 s187 f188 => ?_)
      refine g_iload_n 87 dX9_step_86 rfl rfl ?_
      refine g_tabZI (9) 399 dX9_step_87 (by omega) (by omega) (by decide) (by decide) rfl rfl ?_
      refine g_aload_n 400 dX9_step_399 rfl rfl ?_
      refine g_get 403 dX9_step_400 faX9_44_X9 f188 rfl rfl ?_
      refine g_aload_n 404 dX9_step_403 rfl rfl ?_
      refine g_get 407 dX9_step_404 faX9_199_X9 f188 rfl rfl ?_
      refine g_aload_n 408 dX9_step_407 rfl rfl ?_
      refine g_get 411 dX9_step_408 faX9_193_X9 f188 rfl rfl ?_
      have f189 := (s187.get (by decide) (s184.get (by decide) F3))
      refine g_iastFj (x.toNat) 412 dX9_step_411 f189 (by omega) (by omega) (by decide) rfl rfl (fun h190 s191 f192 => ?_)
      refine g_goto 518 dX9_step_412 rfl ?_
      refine g_iconst (v := iZ (0)) 519 dX9_step_518 rfl rfl ?_
      refine g_iret rfl dX9_step_519 ?_
      have f193 := (s191.get (by decide) f188)
      have f194 := (s191.get (by decide) (s187.get (by decide) (s184.get (by decide) F4)))
      have f195 := (s191.get (by decide) (s187.get (by decide) (s184.get (by decide) F5)))
      exact k _ (cm) (a) (x) ((p + 1) % 256) (dn + 1) (tk) (ie) (va_up mm x.toNat a) (ou) (ol) (0) (by omega) (by omega) (by omega) (by omega) (by omega) (by omega) (by omega) (oki_up omm _ (by omega)) oou ool (by omega) (Or.inr (Or.inr ⟨rfl, (fun q => by unfold hcM at q; omega), by omega, (ms_9 ke3)⟩)) ((((Sm.refl [50, 62, 63, 64] _).tr s184 (fun _ q => q) (by simp)).tr s187 (fun _ q => q) (by simp)).tr s191 (fun _ q => q) (by simp)) f193 f192 f194 f195
    · have ke3 : (mm p.toNat).toNat = 10 := by omega
      refine g_iload_n 19 dX9_step_18 rfl rfl ?_
      refine g_iconst (v := iZ (2)) 20 dX9_step_19 rfl rfl ?_
      refine g_icZ_ne 35 23 dX9_step_20 rfl rfl (by omega) (by decide) (fun _ => ?_) (fun q => absurd q (by omega))
      refine g_aload_n 36 dX9_step_35 rfl rfl ?_
      refine g_get 39 dX9_step_36 faX9_44_X9 F0 rfl rfl ?_
      refine g_aload_n 40 dX9_step_39 rfl rfl ?_
      refine g_get 43 dX9_step_40 faX9_181_X9 F0 rfl rfl ?_
      refine g_iconst (v := iZ (1)) 44 dX9_step_43 rfl rfl ?_
      refine g_iaddZ (p + 1) 45 dX9_step_44 (by omega) rfl ?_
      refine g_sipush (v := iZ (255)) 48 dX9_step_45 (by decide +kernel) rfl ?_
      refine g_and255Z ((p + 1) % 256) 49 dX9_step_48 rfl rfl ?_
      have b196 := omm (((p + 1) % 256).toNat)
      refine g_ialdZ (v := iZ (mm ((p + 1) % 256).toNat)) 50 dX9_step_49 F3 (by omega) (by omega) (by decide) rfl rfl ?_
      refine g_istore_n (L1 := [some (.ref 50), some (.int (iZ i)), some (.int (iZ (mm p.toNat))), some (.int (iZ (mm ((p + 1) % 256).toNat))), none]) 51 dX9_step_50 (by decide) rfl rfl rfl ?_
      refine g_aload_n 52 dX9_step_51 rfl rfl ?_
      refine g_aload_n 53 dX9_step_52 rfl rfl ?_
      refine g_get 56 dX9_step_53 faX9_181_X9 F0 rfl rfl ?_
      refine g_iload_n 57 dX9_step_56 rfl rfl ?_
      refine g_callS (z := mX9_hasNumber) (As := [.int (iZ (mm p.toNat))]) 60 dX9_step_57 mwX9_hasNumber ⟨by decide, by decide⟩ rfl wlX9_154 wtX9_hasNumber rfl (nle rfl) (nle rfl) rfl ?_
      refine f_hasn (by omega) (fun z197 rz197 => ?_)
      obtain rfl : z197 = 0 := by omega
      refine rI ?_
      refine g_ifZ_eq 67 63 dX9_step_60 rfl rfl (by decide) (fun _ => ?_) (fun q => absurd q (by decide))
      refine g_iconst (v := iZ (1)) 68 dX9_step_67 rfl rfl ?_
      refine g_iaddZ (p + 1) 69 dX9_step_68 (by omega) rfl ?_
      refine g_sipush (v := iZ (255)) 72 dX9_step_69 (by decide +kernel) rfl ?_
      refine g_and255Z ((p + 1) % 256) 73 dX9_step_72 rfl rfl ?_
      refine g_putC (fs1 := [.long (tr), .ref 51, .int (iZ mn), .ref 52, .ref 53, .int (iZ kt), .ref 54, .ref 55, .ref 56, .ref 57, .ref 58, .ref 59, .ref 60, .int (iZ bs), .int (iZ ee), .int (iZ pa), .int (iZ fu), .int (iZ st), .int (iZ so), .int (iZ va), .int (iZ ed), .ref 61, .ref 62, .ref 63, .ref 64, .int (iZ cm), .int (iZ a), .int (iZ x), .int (iZ ((p + 1) % 256)), .int (iZ dn), .int (iZ tk), .int (iZ ie), .ref 65, .ref 66, .ref 67, .int (iZ en), .ref 68, .ref 69, .ref 70]) 76 dX9_step_73 fpX9_181_X9 F0 (nle rfl) (vI _) rfl rfl (fun h198 s199 f200 => ?_)
      refine g_aload_n 77 dX9_step_76 rfl rfl ?_
      refine g_dup 78 dX9_step_77 rfl rfl ?_
      refine g_get 81 dX9_step_78 faX9_187_X9 f200 rfl rfl ?_
      refine g_iconst (v := iZ (1)) 82 dX9_step_81 rfl rfl ?_
      refine g_iaddZ (dn + 1) 83 dX9_step_82 (by omega) rfl ?_
      refine g_putC (fs1 := [.long (tr), .ref 51, .int (iZ mn), .ref 52, .ref 53, .int (iZ kt), .ref 54, .ref 55, .ref 56, .ref 57, .ref 58, .ref 59, .ref 60, .int (iZ bs), .int (iZ ee), .int (iZ pa), .int (iZ fu), .int (iZ st), .int (iZ so), .int (iZ va), .int (iZ ed), .ref 61, .ref 62, .ref 63, .ref 64, .int (iZ cm), .int (iZ a), .int (iZ x), .int (iZ ((p + 1) % 256)), .int (iZ (dn + 1)), .int (iZ tk), .int (iZ ie), .ref 65, .ref 66, .ref 67, .int (iZ en), .ref 68, .ref 69, .ref 70]) 86 dX9_step_83 fpX9_187_X9 f200 (nle rfl) (vI _) rfl rfl (fun h201 s202 f203 => ?_)
      refine g_iload_n 87 dX9_step_86 rfl rfl ?_
      refine g_tabZI (10) 415 dX9_step_87 (by omega) (by omega) (by decide) (by decide) rfl rfl ?_
      refine g_aload_n 416 dX9_step_415 rfl rfl ?_
      refine g_aload_n 417 dX9_step_416 rfl rfl ?_
      refine g_get 420 dX9_step_417 faX9_193_X9 f203 rfl rfl ?_
      refine g_putC (fs1 := [.long (tr), .ref 51, .int (iZ mn), .ref 52, .ref 53, .int (iZ kt), .ref 54, .ref 55, .ref 56, .ref 57, .ref 58, .ref 59, .ref 60, .int (iZ bs), .int (iZ ee), .int (iZ pa), .int (iZ fu), .int (iZ st), .int (iZ so), .int (iZ va), .int (iZ ed), .ref 61, .ref 62, .ref 63, .ref 64, .int (iZ cm), .int (iZ a), .int (iZ a), .int (iZ ((p + 1) % 256)), .int (iZ (dn + 1)), .int (iZ tk), .int (iZ ie), .ref 65, .ref 66, .ref 67, .int (iZ en), .ref 68, .ref 69, .ref 70]) 423 dX9_step_420 fpX9_199_X9 f203 (nle rfl) (vI _) rfl rfl (fun h204 s205 f206 => ?_)
      refine g_goto 518 dX9_step_423 rfl ?_
      refine g_iconst (v := iZ (0)) 519 dX9_step_518 rfl rfl ?_
      refine g_iret rfl dX9_step_519 ?_
      have f207 := (s205.get (by decide) (s202.get (by decide) (s199.get (by decide) F3)))
      have f208 := (s205.get (by decide) (s202.get (by decide) (s199.get (by decide) F4)))
      have f209 := (s205.get (by decide) (s202.get (by decide) (s199.get (by decide) F5)))
      exact k _ (cm) (a) (a) ((p + 1) % 256) (dn + 1) (tk) (ie) (mm) (ou) (ol) (0) (by omega) (by omega) (by omega) (by omega) (by omega) (by omega) (by omega) omm oou ool (by omega) (Or.inr (Or.inr ⟨rfl, (fun q => by unfold hcM at q; omega), by omega, (ms_10 ke3)⟩)) ((((Sm.refl [50, 62, 63, 64] _).tr s199 (fun _ q => q) (by simp)).tr s202 (fun _ q => q) (by simp)).tr s205 (fun _ q => q) (by simp)) f206 f207 f208 f209
    · have ke3 : (mm p.toNat).toNat = 11 := by omega
      refine g_iload_n 19 dX9_step_18 rfl rfl ?_
      refine g_iconst (v := iZ (2)) 20 dX9_step_19 rfl rfl ?_
      refine g_icZ_ne 35 23 dX9_step_20 rfl rfl (by omega) (by decide) (fun _ => ?_) (fun q => absurd q (by omega))
      refine g_aload_n 36 dX9_step_35 rfl rfl ?_
      refine g_get 39 dX9_step_36 faX9_44_X9 F0 rfl rfl ?_
      refine g_aload_n 40 dX9_step_39 rfl rfl ?_
      refine g_get 43 dX9_step_40 faX9_181_X9 F0 rfl rfl ?_
      refine g_iconst (v := iZ (1)) 44 dX9_step_43 rfl rfl ?_
      refine g_iaddZ (p + 1) 45 dX9_step_44 (by omega) rfl ?_
      refine g_sipush (v := iZ (255)) 48 dX9_step_45 (by decide +kernel) rfl ?_
      refine g_and255Z ((p + 1) % 256) 49 dX9_step_48 rfl rfl ?_
      have b210 := omm (((p + 1) % 256).toNat)
      refine g_ialdZ (v := iZ (mm ((p + 1) % 256).toNat)) 50 dX9_step_49 F3 (by omega) (by omega) (by decide) rfl rfl ?_
      refine g_istore_n (L1 := [some (.ref 50), some (.int (iZ i)), some (.int (iZ (mm p.toNat))), some (.int (iZ (mm ((p + 1) % 256).toNat))), none]) 51 dX9_step_50 (by decide) rfl rfl rfl ?_
      refine g_aload_n 52 dX9_step_51 rfl rfl ?_
      refine g_aload_n 53 dX9_step_52 rfl rfl ?_
      refine g_get 56 dX9_step_53 faX9_181_X9 F0 rfl rfl ?_
      refine g_iload_n 57 dX9_step_56 rfl rfl ?_
      refine g_callS (z := mX9_hasNumber) (As := [.int (iZ (mm p.toNat))]) 60 dX9_step_57 mwX9_hasNumber ⟨by decide, by decide⟩ rfl wlX9_154 wtX9_hasNumber rfl (nle rfl) (nle rfl) rfl ?_
      refine f_hasn (by omega) (fun z211 rz211 => ?_)
      obtain rfl : z211 = 1 := by omega
      refine rI ?_
      refine g_ifZ_eq 67 63 dX9_step_60 rfl rfl (by decide) (fun q => absurd q (by decide)) (fun _ => ?_)
      refine g_iconst (v := iZ (2)) 64 dX9_step_63 rfl rfl ?_
      refine g_goto 68 dX9_step_64 rfl ?_
      refine g_iaddZ (p + 2) 69 dX9_step_68 (by omega) rfl ?_
      refine g_sipush (v := iZ (255)) 72 dX9_step_69 (by decide +kernel) rfl ?_
      refine g_and255Z ((p + 2) % 256) 73 dX9_step_72 rfl rfl ?_
      refine g_putC (fs1 := [.long (tr), .ref 51, .int (iZ mn), .ref 52, .ref 53, .int (iZ kt), .ref 54, .ref 55, .ref 56, .ref 57, .ref 58, .ref 59, .ref 60, .int (iZ bs), .int (iZ ee), .int (iZ pa), .int (iZ fu), .int (iZ st), .int (iZ so), .int (iZ va), .int (iZ ed), .ref 61, .ref 62, .ref 63, .ref 64, .int (iZ cm), .int (iZ a), .int (iZ x), .int (iZ ((p + 2) % 256)), .int (iZ dn), .int (iZ tk), .int (iZ ie), .ref 65, .ref 66, .ref 67, .int (iZ en), .ref 68, .ref 69, .ref 70]) 76 dX9_step_73 fpX9_181_X9 F0 (nle rfl) (vI _) rfl rfl (fun h212 s213 f214 => ?_)
      refine g_aload_n 77 dX9_step_76 rfl rfl ?_
      refine g_dup 78 dX9_step_77 rfl rfl ?_
      refine g_get 81 dX9_step_78 faX9_187_X9 f214 rfl rfl ?_
      refine g_iconst (v := iZ (1)) 82 dX9_step_81 rfl rfl ?_
      refine g_iaddZ (dn + 1) 83 dX9_step_82 (by omega) rfl ?_
      refine g_putC (fs1 := [.long (tr), .ref 51, .int (iZ mn), .ref 52, .ref 53, .int (iZ kt), .ref 54, .ref 55, .ref 56, .ref 57, .ref 58, .ref 59, .ref 60, .int (iZ bs), .int (iZ ee), .int (iZ pa), .int (iZ fu), .int (iZ st), .int (iZ so), .int (iZ va), .int (iZ ed), .ref 61, .ref 62, .ref 63, .ref 64, .int (iZ cm), .int (iZ a), .int (iZ x), .int (iZ ((p + 2) % 256)), .int (iZ (dn + 1)), .int (iZ tk), .int (iZ ie), .ref 65, .ref 66, .ref 67, .int (iZ en), .ref 68, .ref 69, .ref 70]) 86 dX9_step_83 fpX9_187_X9 f214 (nle rfl) (vI _) rfl rfl (fun h215 s216 f217 => ?_)
      refine g_iload_n 87 dX9_step_86 rfl rfl ?_
      refine g_tabZI (11) 426 dX9_step_87 (by omega) (by omega) (by decide) (by decide) rfl rfl ?_
      refine g_aload_n 427 dX9_step_426 rfl rfl ?_
      refine g_iload_n 428 dX9_step_427 rfl rfl ?_
      refine g_putC (fs1 := [.long (tr), .ref 51, .int (iZ mn), .ref 52, .ref 53, .int (iZ kt), .ref 54, .ref 55, .ref 56, .ref 57, .ref 58, .ref 59, .ref 60, .int (iZ bs), .int (iZ ee), .int (iZ pa), .int (iZ fu), .int (iZ st), .int (iZ so), .int (iZ va), .int (iZ ed), .ref 61, .ref 62, .ref 63, .ref 64, .int (iZ cm), .int (iZ a), .int (iZ x), .int (iZ (mm ((p + 1) % 256).toNat)), .int (iZ (dn + 1)), .int (iZ tk), .int (iZ ie), .ref 65, .ref 66, .ref 67, .int (iZ en), .ref 68, .ref 69, .ref 70]) 431 dX9_step_428 fpX9_181_X9 f217 (nle rfl) (vI _) rfl rfl (fun h218 s219 f220 => ?_)
      refine g_goto 518 dX9_step_431 rfl ?_
      refine g_iconst (v := iZ (0)) 519 dX9_step_518 rfl rfl ?_
      refine g_iret rfl dX9_step_519 ?_
      have f221 := (s219.get (by decide) (s216.get (by decide) (s213.get (by decide) F3)))
      have f222 := (s219.get (by decide) (s216.get (by decide) (s213.get (by decide) F4)))
      have f223 := (s219.get (by decide) (s216.get (by decide) (s213.get (by decide) F5)))
      exact k _ (cm) (a) (x) (mm ((p + 1) % 256).toNat) (dn + 1) (tk) (ie) (mm) (ou) (ol) (0) (by omega) (by omega) (by omega) (by omega) (by omega) (by omega) (by omega) omm oou ool (by omega) (Or.inr (Or.inr ⟨rfl, (fun q => by unfold hcM at q; omega), by omega, (ms_11 ke3)⟩)) ((((Sm.refl [50, 62, 63, 64] _).tr s213 (fun _ q => q) (by simp)).tr s216 (fun _ q => q) (by simp)).tr s219 (fun _ q => q) (by simp)) f220 f221 f222 f223
    · have ke3 : (mm p.toNat).toNat = 12 := by omega
      refine g_iload_n 19 dX9_step_18 rfl rfl ?_
      refine g_iconst (v := iZ (2)) 20 dX9_step_19 rfl rfl ?_
      refine g_icZ_ne 35 23 dX9_step_20 rfl rfl (by omega) (by decide) (fun _ => ?_) (fun q => absurd q (by omega))
      refine g_aload_n 36 dX9_step_35 rfl rfl ?_
      refine g_get 39 dX9_step_36 faX9_44_X9 F0 rfl rfl ?_
      refine g_aload_n 40 dX9_step_39 rfl rfl ?_
      refine g_get 43 dX9_step_40 faX9_181_X9 F0 rfl rfl ?_
      refine g_iconst (v := iZ (1)) 44 dX9_step_43 rfl rfl ?_
      refine g_iaddZ (p + 1) 45 dX9_step_44 (by omega) rfl ?_
      refine g_sipush (v := iZ (255)) 48 dX9_step_45 (by decide +kernel) rfl ?_
      refine g_and255Z ((p + 1) % 256) 49 dX9_step_48 rfl rfl ?_
      have b224 := omm (((p + 1) % 256).toNat)
      refine g_ialdZ (v := iZ (mm ((p + 1) % 256).toNat)) 50 dX9_step_49 F3 (by omega) (by omega) (by decide) rfl rfl ?_
      refine g_istore_n (L1 := [some (.ref 50), some (.int (iZ i)), some (.int (iZ (mm p.toNat))), some (.int (iZ (mm ((p + 1) % 256).toNat))), none]) 51 dX9_step_50 (by decide) rfl rfl rfl ?_
      refine g_aload_n 52 dX9_step_51 rfl rfl ?_
      refine g_aload_n 53 dX9_step_52 rfl rfl ?_
      refine g_get 56 dX9_step_53 faX9_181_X9 F0 rfl rfl ?_
      refine g_iload_n 57 dX9_step_56 rfl rfl ?_
      refine g_callS (z := mX9_hasNumber) (As := [.int (iZ (mm p.toNat))]) 60 dX9_step_57 mwX9_hasNumber ⟨by decide, by decide⟩ rfl wlX9_154 wtX9_hasNumber rfl (nle rfl) (nle rfl) rfl ?_
      refine f_hasn (by omega) (fun z225 rz225 => ?_)
      obtain rfl : z225 = 1 := by omega
      refine rI ?_
      refine g_ifZ_eq 67 63 dX9_step_60 rfl rfl (by decide) (fun q => absurd q (by decide)) (fun _ => ?_)
      refine g_iconst (v := iZ (2)) 64 dX9_step_63 rfl rfl ?_
      refine g_goto 68 dX9_step_64 rfl ?_
      refine g_iaddZ (p + 2) 69 dX9_step_68 (by omega) rfl ?_
      refine g_sipush (v := iZ (255)) 72 dX9_step_69 (by decide +kernel) rfl ?_
      refine g_and255Z ((p + 2) % 256) 73 dX9_step_72 rfl rfl ?_
      refine g_putC (fs1 := [.long (tr), .ref 51, .int (iZ mn), .ref 52, .ref 53, .int (iZ kt), .ref 54, .ref 55, .ref 56, .ref 57, .ref 58, .ref 59, .ref 60, .int (iZ bs), .int (iZ ee), .int (iZ pa), .int (iZ fu), .int (iZ st), .int (iZ so), .int (iZ va), .int (iZ ed), .ref 61, .ref 62, .ref 63, .ref 64, .int (iZ cm), .int (iZ a), .int (iZ x), .int (iZ ((p + 2) % 256)), .int (iZ dn), .int (iZ tk), .int (iZ ie), .ref 65, .ref 66, .ref 67, .int (iZ en), .ref 68, .ref 69, .ref 70]) 76 dX9_step_73 fpX9_181_X9 F0 (nle rfl) (vI _) rfl rfl (fun h226 s227 f228 => ?_)
      refine g_aload_n 77 dX9_step_76 rfl rfl ?_
      refine g_dup 78 dX9_step_77 rfl rfl ?_
      refine g_get 81 dX9_step_78 faX9_187_X9 f228 rfl rfl ?_
      refine g_iconst (v := iZ (1)) 82 dX9_step_81 rfl rfl ?_
      refine g_iaddZ (dn + 1) 83 dX9_step_82 (by omega) rfl ?_
      refine g_putC (fs1 := [.long (tr), .ref 51, .int (iZ mn), .ref 52, .ref 53, .int (iZ kt), .ref 54, .ref 55, .ref 56, .ref 57, .ref 58, .ref 59, .ref 60, .int (iZ bs), .int (iZ ee), .int (iZ pa), .int (iZ fu), .int (iZ st), .int (iZ so), .int (iZ va), .int (iZ ed), .ref 61, .ref 62, .ref 63, .ref 64, .int (iZ cm), .int (iZ a), .int (iZ x), .int (iZ ((p + 2) % 256)), .int (iZ (dn + 1)), .int (iZ tk), .int (iZ ie), .ref 65, .ref 66, .ref 67, .int (iZ en), .ref 68, .ref 69, .ref 70]) 86 dX9_step_83 fpX9_187_X9 f228 (nle rfl) (vI _) rfl rfl (fun h229 s230 f231 => ?_)
      refine g_iload_n 87 dX9_step_86 rfl rfl ?_
      refine g_tabZI (12) 434 dX9_step_87 (by omega) (by omega) (by decide) (by decide) rfl rfl ?_
      refine g_aload_n 435 dX9_step_434 rfl rfl ?_
      refine g_aload_n 436 dX9_step_435 rfl rfl ?_
      refine g_get 439 dX9_step_436 faX9_193_X9 f231 rfl rfl ?_
      refine g_ifZ_ne 446 442 dX9_step_439 rfl rfl (by omega) (fun c232 => ?_) (fun c232 => ?_)
      · refine g_aload_n 447 dX9_step_446 rfl rfl ?_
        refine g_get 450 dX9_step_447 faX9_181_X9 f231 rfl rfl ?_
        refine g_putC (fs1 := [.long (tr), .ref 51, .int (iZ mn), .ref 52, .ref 53, .int (iZ kt), .ref 54, .ref 55, .ref 56, .ref 57, .ref 58, .ref 59, .ref 60, .int (iZ bs), .int (iZ ee), .int (iZ pa), .int (iZ fu), .int (iZ st), .int (iZ so), .int (iZ va), .int (iZ ed), .ref 61, .ref 62, .ref 63, .ref 64, .int (iZ cm), .int (iZ a), .int (iZ x), .int (iZ ((p + 2) % 256)), .int (iZ (dn + 1)), .int (iZ tk), .int (iZ ie), .ref 65, .ref 66, .ref 67, .int (iZ en), .ref 68, .ref 69, .ref 70]) 453 dX9_step_450 fpX9_181_X9 f231 (nle rfl) (vI _) rfl rfl (fun h233 s234 f235 => ?_)
        refine g_goto 518 dX9_step_453 rfl ?_
        refine g_iconst (v := iZ (0)) 519 dX9_step_518 rfl rfl ?_
        refine g_iret rfl dX9_step_519 ?_
        have f236 := (s234.get (by decide) (s230.get (by decide) (s227.get (by decide) F3)))
        have f237 := (s234.get (by decide) (s230.get (by decide) (s227.get (by decide) F4)))
        have f238 := (s234.get (by decide) (s230.get (by decide) (s227.get (by decide) F5)))
        exact k _ (cm) (a) (x) ((p + 2) % 256) (dn + 1) (tk) (ie) (mm) (ou) (ol) (0) (by omega) (by omega) (by omega) (by omega) (by omega) (by omega) (by omega) omm oou ool (by omega) (Or.inr (Or.inr ⟨rfl, (fun q => by unfold hcM at q; omega), by omega, (by first | exact ms_12a ke3 (by omega) | exact ms_12b ke3 (by omega))⟩)) ((((Sm.refl [50, 62, 63, 64] _).tr s227 (fun _ q => q) (by simp)).tr s230 (fun _ q => q) (by simp)).tr s234 (fun _ q => q) (by simp)) f235 f236 f237 f238
      · refine g_iload_n 443 dX9_step_442 rfl rfl ?_
        refine g_goto 450 dX9_step_443 rfl ?_
        refine g_putC (fs1 := [.long (tr), .ref 51, .int (iZ mn), .ref 52, .ref 53, .int (iZ kt), .ref 54, .ref 55, .ref 56, .ref 57, .ref 58, .ref 59, .ref 60, .int (iZ bs), .int (iZ ee), .int (iZ pa), .int (iZ fu), .int (iZ st), .int (iZ so), .int (iZ va), .int (iZ ed), .ref 61, .ref 62, .ref 63, .ref 64, .int (iZ cm), .int (iZ a), .int (iZ x), .int (iZ (mm ((p + 1) % 256).toNat)), .int (iZ (dn + 1)), .int (iZ tk), .int (iZ ie), .ref 65, .ref 66, .ref 67, .int (iZ en), .ref 68, .ref 69, .ref 70]) 453 dX9_step_450 fpX9_181_X9 f231 (nle rfl) (vI _) rfl rfl (fun h239 s240 f241 => ?_)
        refine g_goto 518 dX9_step_453 rfl ?_
        refine g_iconst (v := iZ (0)) 519 dX9_step_518 rfl rfl ?_
        refine g_iret rfl dX9_step_519 ?_
        have f242 := (s240.get (by decide) (s230.get (by decide) (s227.get (by decide) F3)))
        have f243 := (s240.get (by decide) (s230.get (by decide) (s227.get (by decide) F4)))
        have f244 := (s240.get (by decide) (s230.get (by decide) (s227.get (by decide) F5)))
        exact k _ (cm) (a) (x) (mm ((p + 1) % 256).toNat) (dn + 1) (tk) (ie) (mm) (ou) (ol) (0) (by omega) (by omega) (by omega) (by omega) (by omega) (by omega) (by omega) omm oou ool (by omega) (Or.inr (Or.inr ⟨rfl, (fun q => by unfold hcM at q; omega), by omega, (by first | exact ms_12a ke3 (by omega) | exact ms_12b ke3 (by omega))⟩)) ((((Sm.refl [50, 62, 63, 64] _).tr s227 (fun _ q => q) (by simp)).tr s230 (fun _ q => q) (by simp)).tr s240 (fun _ q => q) (by simp)) f241 f242 f243 f244
    · have ke3 : (mm p.toNat).toNat = 13 := by omega
      refine g_iload_n 19 dX9_step_18 rfl rfl ?_
      refine g_iconst (v := iZ (2)) 20 dX9_step_19 rfl rfl ?_
      refine g_icZ_ne 35 23 dX9_step_20 rfl rfl (by omega) (by decide) (fun _ => ?_) (fun q => absurd q (by omega))
      refine g_aload_n 36 dX9_step_35 rfl rfl ?_
      refine g_get 39 dX9_step_36 faX9_44_X9 F0 rfl rfl ?_
      refine g_aload_n 40 dX9_step_39 rfl rfl ?_
      refine g_get 43 dX9_step_40 faX9_181_X9 F0 rfl rfl ?_
      refine g_iconst (v := iZ (1)) 44 dX9_step_43 rfl rfl ?_
      refine g_iaddZ (p + 1) 45 dX9_step_44 (by omega) rfl ?_
      refine g_sipush (v := iZ (255)) 48 dX9_step_45 (by decide +kernel) rfl ?_
      refine g_and255Z ((p + 1) % 256) 49 dX9_step_48 rfl rfl ?_
      have b245 := omm (((p + 1) % 256).toNat)
      refine g_ialdZ (v := iZ (mm ((p + 1) % 256).toNat)) 50 dX9_step_49 F3 (by omega) (by omega) (by decide) rfl rfl ?_
      refine g_istore_n (L1 := [some (.ref 50), some (.int (iZ i)), some (.int (iZ (mm p.toNat))), some (.int (iZ (mm ((p + 1) % 256).toNat))), none]) 51 dX9_step_50 (by decide) rfl rfl rfl ?_
      refine g_aload_n 52 dX9_step_51 rfl rfl ?_
      refine g_aload_n 53 dX9_step_52 rfl rfl ?_
      refine g_get 56 dX9_step_53 faX9_181_X9 F0 rfl rfl ?_
      refine g_iload_n 57 dX9_step_56 rfl rfl ?_
      refine g_callS (z := mX9_hasNumber) (As := [.int (iZ (mm p.toNat))]) 60 dX9_step_57 mwX9_hasNumber ⟨by decide, by decide⟩ rfl wlX9_154 wtX9_hasNumber rfl (nle rfl) (nle rfl) rfl ?_
      refine f_hasn (by omega) (fun z246 rz246 => ?_)
      obtain rfl : z246 = 1 := by omega
      refine rI ?_
      refine g_ifZ_eq 67 63 dX9_step_60 rfl rfl (by decide) (fun q => absurd q (by decide)) (fun _ => ?_)
      refine g_iconst (v := iZ (2)) 64 dX9_step_63 rfl rfl ?_
      refine g_goto 68 dX9_step_64 rfl ?_
      refine g_iaddZ (p + 2) 69 dX9_step_68 (by omega) rfl ?_
      refine g_sipush (v := iZ (255)) 72 dX9_step_69 (by decide +kernel) rfl ?_
      refine g_and255Z ((p + 2) % 256) 73 dX9_step_72 rfl rfl ?_
      refine g_putC (fs1 := [.long (tr), .ref 51, .int (iZ mn), .ref 52, .ref 53, .int (iZ kt), .ref 54, .ref 55, .ref 56, .ref 57, .ref 58, .ref 59, .ref 60, .int (iZ bs), .int (iZ ee), .int (iZ pa), .int (iZ fu), .int (iZ st), .int (iZ so), .int (iZ va), .int (iZ ed), .ref 61, .ref 62, .ref 63, .ref 64, .int (iZ cm), .int (iZ a), .int (iZ x), .int (iZ ((p + 2) % 256)), .int (iZ dn), .int (iZ tk), .int (iZ ie), .ref 65, .ref 66, .ref 67, .int (iZ en), .ref 68, .ref 69, .ref 70]) 76 dX9_step_73 fpX9_181_X9 F0 (nle rfl) (vI _) rfl rfl (fun h247 s248 f249 => ?_)
      refine g_aload_n 77 dX9_step_76 rfl rfl ?_
      refine g_dup 78 dX9_step_77 rfl rfl ?_
      refine g_get 81 dX9_step_78 faX9_187_X9 f249 rfl rfl ?_
      refine g_iconst (v := iZ (1)) 82 dX9_step_81 rfl rfl ?_
      refine g_iaddZ (dn + 1) 83 dX9_step_82 (by omega) rfl ?_
      refine g_putC (fs1 := [.long (tr), .ref 51, .int (iZ mn), .ref 52, .ref 53, .int (iZ kt), .ref 54, .ref 55, .ref 56, .ref 57, .ref 58, .ref 59, .ref 60, .int (iZ bs), .int (iZ ee), .int (iZ pa), .int (iZ fu), .int (iZ st), .int (iZ so), .int (iZ va), .int (iZ ed), .ref 61, .ref 62, .ref 63, .ref 64, .int (iZ cm), .int (iZ a), .int (iZ x), .int (iZ ((p + 2) % 256)), .int (iZ (dn + 1)), .int (iZ tk), .int (iZ ie), .ref 65, .ref 66, .ref 67, .int (iZ en), .ref 68, .ref 69, .ref 70]) 86 dX9_step_83 fpX9_187_X9 f249 (nle rfl) (vI _) rfl rfl (fun h250 s251 f252 => ?_)
      refine g_iload_n 87 dX9_step_86 rfl rfl ?_
      refine g_tabZI (13) 456 dX9_step_87 (by omega) (by omega) (by decide) (by decide) rfl rfl ?_
      refine g_aload_n 457 dX9_step_456 rfl rfl ?_
      refine g_aload_n 458 dX9_step_457 rfl rfl ?_
      refine g_get 461 dX9_step_458 faX9_196_X9 f252 rfl rfl ?_
      refine g_iconst (v := iZ (1)) 462 dX9_step_461 rfl rfl ?_
      refine g_icZ_ne 469 465 dX9_step_462 rfl rfl (by omega) (by decide) (fun c253 => ?_) (fun c253 => ?_)
      · refine g_aload_n 470 dX9_step_469 rfl rfl ?_
        refine g_get 473 dX9_step_470 faX9_181_X9 f252 rfl rfl ?_
        refine g_putC (fs1 := [.long (tr), .ref 51, .int (iZ mn), .ref 52, .ref 53, .int (iZ kt), .ref 54, .ref 55, .ref 56, .ref 57, .ref 58, .ref 59, .ref 60, .int (iZ bs), .int (iZ ee), .int (iZ pa), .int (iZ fu), .int (iZ st), .int (iZ so), .int (iZ va), .int (iZ ed), .ref 61, .ref 62, .ref 63, .ref 64, .int (iZ cm), .int (iZ a), .int (iZ x), .int (iZ ((p + 2) % 256)), .int (iZ (dn + 1)), .int (iZ tk), .int (iZ ie), .ref 65, .ref 66, .ref 67, .int (iZ en), .ref 68, .ref 69, .ref 70]) 476 dX9_step_473 fpX9_181_X9 f252 (nle rfl) (vI _) rfl rfl (fun h254 s255 f256 => ?_)
        refine g_goto 518 dX9_step_476 rfl ?_
        refine g_iconst (v := iZ (0)) 519 dX9_step_518 rfl rfl ?_
        refine g_iret rfl dX9_step_519 ?_
        have f257 := (s255.get (by decide) (s251.get (by decide) (s248.get (by decide) F3)))
        have f258 := (s255.get (by decide) (s251.get (by decide) (s248.get (by decide) F4)))
        have f259 := (s255.get (by decide) (s251.get (by decide) (s248.get (by decide) F5)))
        exact k _ (cm) (a) (x) ((p + 2) % 256) (dn + 1) (tk) (ie) (mm) (ou) (ol) (0) (by omega) (by omega) (by omega) (by omega) (by omega) (by omega) (by omega) omm oou ool (by omega) (Or.inr (Or.inr ⟨rfl, (fun q => by unfold hcM at q; omega), by omega, (by first | exact ms_13a ke3 (by omega) | exact ms_13b ke3 (by omega))⟩)) ((((Sm.refl [50, 62, 63, 64] _).tr s248 (fun _ q => q) (by simp)).tr s251 (fun _ q => q) (by simp)).tr s255 (fun _ q => q) (by simp)) f256 f257 f258 f259
      · refine g_iload_n 466 dX9_step_465 rfl rfl ?_
        refine g_goto 473 dX9_step_466 rfl ?_
        refine g_putC (fs1 := [.long (tr), .ref 51, .int (iZ mn), .ref 52, .ref 53, .int (iZ kt), .ref 54, .ref 55, .ref 56, .ref 57, .ref 58, .ref 59, .ref 60, .int (iZ bs), .int (iZ ee), .int (iZ pa), .int (iZ fu), .int (iZ st), .int (iZ so), .int (iZ va), .int (iZ ed), .ref 61, .ref 62, .ref 63, .ref 64, .int (iZ cm), .int (iZ a), .int (iZ x), .int (iZ (mm ((p + 1) % 256).toNat)), .int (iZ (dn + 1)), .int (iZ tk), .int (iZ ie), .ref 65, .ref 66, .ref 67, .int (iZ en), .ref 68, .ref 69, .ref 70]) 476 dX9_step_473 fpX9_181_X9 f252 (nle rfl) (vI _) rfl rfl (fun h260 s261 f262 => ?_)
        refine g_goto 518 dX9_step_476 rfl ?_
        refine g_iconst (v := iZ (0)) 519 dX9_step_518 rfl rfl ?_
        refine g_iret rfl dX9_step_519 ?_
        have f263 := (s261.get (by decide) (s251.get (by decide) (s248.get (by decide) F3)))
        have f264 := (s261.get (by decide) (s251.get (by decide) (s248.get (by decide) F4)))
        have f265 := (s261.get (by decide) (s251.get (by decide) (s248.get (by decide) F5)))
        exact k _ (cm) (a) (x) (mm ((p + 1) % 256).toNat) (dn + 1) (tk) (ie) (mm) (ou) (ol) (0) (by omega) (by omega) (by omega) (by omega) (by omega) (by omega) (by omega) omm oou ool (by omega) (Or.inr (Or.inr ⟨rfl, (fun q => by unfold hcM at q; omega), by omega, (by first | exact ms_13a ke3 (by omega) | exact ms_13b ke3 (by omega))⟩)) ((((Sm.refl [50, 62, 63, 64] _).tr s248 (fun _ q => q) (by simp)).tr s251 (fun _ q => q) (by simp)).tr s261 (fun _ q => q) (by simp)) f262 f263 f264 f265
    · have ke3 : (mm p.toNat).toNat = 14 := by omega
      refine g_iload_n 19 dX9_step_18 rfl rfl ?_
      refine g_iconst (v := iZ (2)) 20 dX9_step_19 rfl rfl ?_
      refine g_icZ_ne 35 23 dX9_step_20 rfl rfl (by omega) (by decide) (fun _ => ?_) (fun q => absurd q (by omega))
      refine g_aload_n 36 dX9_step_35 rfl rfl ?_
      refine g_get 39 dX9_step_36 faX9_44_X9 F0 rfl rfl ?_
      refine g_aload_n 40 dX9_step_39 rfl rfl ?_
      refine g_get 43 dX9_step_40 faX9_181_X9 F0 rfl rfl ?_
      refine g_iconst (v := iZ (1)) 44 dX9_step_43 rfl rfl ?_
      refine g_iaddZ (p + 1) 45 dX9_step_44 (by omega) rfl ?_
      refine g_sipush (v := iZ (255)) 48 dX9_step_45 (by decide +kernel) rfl ?_
      refine g_and255Z ((p + 1) % 256) 49 dX9_step_48 rfl rfl ?_
      have b266 := omm (((p + 1) % 256).toNat)
      refine g_ialdZ (v := iZ (mm ((p + 1) % 256).toNat)) 50 dX9_step_49 F3 (by omega) (by omega) (by decide) rfl rfl ?_
      refine g_istore_n (L1 := [some (.ref 50), some (.int (iZ i)), some (.int (iZ (mm p.toNat))), some (.int (iZ (mm ((p + 1) % 256).toNat))), none]) 51 dX9_step_50 (by decide) rfl rfl rfl ?_
      refine g_aload_n 52 dX9_step_51 rfl rfl ?_
      refine g_aload_n 53 dX9_step_52 rfl rfl ?_
      refine g_get 56 dX9_step_53 faX9_181_X9 F0 rfl rfl ?_
      refine g_iload_n 57 dX9_step_56 rfl rfl ?_
      refine g_callS (z := mX9_hasNumber) (As := [.int (iZ (mm p.toNat))]) 60 dX9_step_57 mwX9_hasNumber ⟨by decide, by decide⟩ rfl wlX9_154 wtX9_hasNumber rfl (nle rfl) (nle rfl) rfl ?_
      refine f_hasn (by omega) (fun z267 rz267 => ?_)
      obtain rfl : z267 = 1 := by omega
      refine rI ?_
      refine g_ifZ_eq 67 63 dX9_step_60 rfl rfl (by decide) (fun q => absurd q (by decide)) (fun _ => ?_)
      refine g_iconst (v := iZ (2)) 64 dX9_step_63 rfl rfl ?_
      refine g_goto 68 dX9_step_64 rfl ?_
      refine g_iaddZ (p + 2) 69 dX9_step_68 (by omega) rfl ?_
      refine g_sipush (v := iZ (255)) 72 dX9_step_69 (by decide +kernel) rfl ?_
      refine g_and255Z ((p + 2) % 256) 73 dX9_step_72 rfl rfl ?_
      refine g_putC (fs1 := [.long (tr), .ref 51, .int (iZ mn), .ref 52, .ref 53, .int (iZ kt), .ref 54, .ref 55, .ref 56, .ref 57, .ref 58, .ref 59, .ref 60, .int (iZ bs), .int (iZ ee), .int (iZ pa), .int (iZ fu), .int (iZ st), .int (iZ so), .int (iZ va), .int (iZ ed), .ref 61, .ref 62, .ref 63, .ref 64, .int (iZ cm), .int (iZ a), .int (iZ x), .int (iZ ((p + 2) % 256)), .int (iZ dn), .int (iZ tk), .int (iZ ie), .ref 65, .ref 66, .ref 67, .int (iZ en), .ref 68, .ref 69, .ref 70]) 76 dX9_step_73 fpX9_181_X9 F0 (nle rfl) (vI _) rfl rfl (fun h268 s269 f270 => ?_)
      refine g_aload_n 77 dX9_step_76 rfl rfl ?_
      refine g_dup 78 dX9_step_77 rfl rfl ?_
      refine g_get 81 dX9_step_78 faX9_187_X9 f270 rfl rfl ?_
      refine g_iconst (v := iZ (1)) 82 dX9_step_81 rfl rfl ?_
      refine g_iaddZ (dn + 1) 83 dX9_step_82 (by omega) rfl ?_
      refine g_putC (fs1 := [.long (tr), .ref 51, .int (iZ mn), .ref 52, .ref 53, .int (iZ kt), .ref 54, .ref 55, .ref 56, .ref 57, .ref 58, .ref 59, .ref 60, .int (iZ bs), .int (iZ ee), .int (iZ pa), .int (iZ fu), .int (iZ st), .int (iZ so), .int (iZ va), .int (iZ ed), .ref 61, .ref 62, .ref 63, .ref 64, .int (iZ cm), .int (iZ a), .int (iZ x), .int (iZ ((p + 2) % 256)), .int (iZ (dn + 1)), .int (iZ tk), .int (iZ ie), .ref 65, .ref 66, .ref 67, .int (iZ en), .ref 68, .ref 69, .ref 70]) 86 dX9_step_83 fpX9_187_X9 f270 (nle rfl) (vI _) rfl rfl (fun h271 s272 f273 => ?_)
      refine g_iload_n 87 dX9_step_86 rfl rfl ?_
      refine g_tabZI (14) 479 dX9_step_87 (by omega) (by omega) (by decide) (by decide) rfl rfl ?_
      refine g_aload_n 480 dX9_step_479 rfl rfl ?_
      refine g_aload_n 481 dX9_step_480 rfl rfl ?_
      refine g_get 484 dX9_step_481 faX9_193_X9 f273 rfl rfl ?_
      refine g_iload_n 485 dX9_step_484 rfl rfl ?_
      refine g_iaddZ (a + (mm ((p + 1) % 256).toNat)) 486 dX9_step_485 (by omega) rfl ?_
      refine g_sipush (v := iZ (255)) 489 dX9_step_486 (by decide +kernel) rfl ?_
      refine g_and255Z ((a + (mm ((p + 1) % 256).toNat)) % 256) 490 dX9_step_489 rfl rfl ?_
      refine g_putC (fs1 := [.long (tr), .ref 51, .int (iZ mn), .ref 52, .ref 53, .int (iZ kt), .ref 54, .ref 55, .ref 56, .ref 57, .ref 58, .ref 59, .ref 60, .int (iZ bs), .int (iZ ee), .int (iZ pa), .int (iZ fu), .int (iZ st), .int (iZ so), .int (iZ va), .int (iZ ed), .ref 61, .ref 62, .ref 63, .ref 64, .int (iZ cm), .int (iZ ((a + (mm ((p + 1) % 256).toNat)) % 256)), .int (iZ x), .int (iZ ((p + 2) % 256)), .int (iZ (dn + 1)), .int (iZ tk), .int (iZ ie), .ref 65, .ref 66, .ref 67, .int (iZ en), .ref 68, .ref 69, .ref 70]) 493 dX9_step_490 fpX9_193_X9 f273 (nle rfl) (vI _) rfl rfl (fun h274 s275 f276 => ?_)
      refine g_goto 518 dX9_step_493 rfl ?_
      refine g_iconst (v := iZ (0)) 519 dX9_step_518 rfl rfl ?_
      refine g_iret rfl dX9_step_519 ?_
      have f277 := (s275.get (by decide) (s272.get (by decide) (s269.get (by decide) F3)))
      have f278 := (s275.get (by decide) (s272.get (by decide) (s269.get (by decide) F4)))
      have f279 := (s275.get (by decide) (s272.get (by decide) (s269.get (by decide) F5)))
      exact k _ (cm) ((a + (mm ((p + 1) % 256).toNat)) % 256) (x) ((p + 2) % 256) (dn + 1) (tk) (ie) (mm) (ou) (ol) (0) (by omega) (by omega) (by omega) (by omega) (by omega) (by omega) (by omega) omm oou ool (by omega) (Or.inr (Or.inr ⟨rfl, (fun q => by unfold hcM at q; omega), by omega, (ms_14 ke3)⟩)) ((((Sm.refl [50, 62, 63, 64] _).tr s269 (fun _ q => q) (by simp)).tr s272 (fun _ q => q) (by simp)).tr s275 (fun _ q => q) (by simp)) f276 f277 f278 f279
    · have ke3 : (mm p.toNat).toNat = 15 := by omega
      refine g_iload_n 19 dX9_step_18 rfl rfl ?_
      refine g_iconst (v := iZ (2)) 20 dX9_step_19 rfl rfl ?_
      refine g_icZ_ne 35 23 dX9_step_20 rfl rfl (by omega) (by decide) (fun _ => ?_) (fun q => absurd q (by omega))
      refine g_aload_n 36 dX9_step_35 rfl rfl ?_
      refine g_get 39 dX9_step_36 faX9_44_X9 F0 rfl rfl ?_
      refine g_aload_n 40 dX9_step_39 rfl rfl ?_
      refine g_get 43 dX9_step_40 faX9_181_X9 F0 rfl rfl ?_
      refine g_iconst (v := iZ (1)) 44 dX9_step_43 rfl rfl ?_
      refine g_iaddZ (p + 1) 45 dX9_step_44 (by omega) rfl ?_
      refine g_sipush (v := iZ (255)) 48 dX9_step_45 (by decide +kernel) rfl ?_
      refine g_and255Z ((p + 1) % 256) 49 dX9_step_48 rfl rfl ?_
      have b280 := omm (((p + 1) % 256).toNat)
      refine g_ialdZ (v := iZ (mm ((p + 1) % 256).toNat)) 50 dX9_step_49 F3 (by omega) (by omega) (by decide) rfl rfl ?_
      refine g_istore_n (L1 := [some (.ref 50), some (.int (iZ i)), some (.int (iZ (mm p.toNat))), some (.int (iZ (mm ((p + 1) % 256).toNat))), none]) 51 dX9_step_50 (by decide) rfl rfl rfl ?_
      refine g_aload_n 52 dX9_step_51 rfl rfl ?_
      refine g_aload_n 53 dX9_step_52 rfl rfl ?_
      refine g_get 56 dX9_step_53 faX9_181_X9 F0 rfl rfl ?_
      refine g_iload_n 57 dX9_step_56 rfl rfl ?_
      refine g_callS (z := mX9_hasNumber) (As := [.int (iZ (mm p.toNat))]) 60 dX9_step_57 mwX9_hasNumber ⟨by decide, by decide⟩ rfl wlX9_154 wtX9_hasNumber rfl (nle rfl) (nle rfl) rfl ?_
      refine f_hasn (by omega) (fun z281 rz281 => ?_)
      obtain rfl : z281 = 1 := by omega
      refine rI ?_
      refine g_ifZ_eq 67 63 dX9_step_60 rfl rfl (by decide) (fun q => absurd q (by decide)) (fun _ => ?_)
      refine g_iconst (v := iZ (2)) 64 dX9_step_63 rfl rfl ?_
      refine g_goto 68 dX9_step_64 rfl ?_
      refine g_iaddZ (p + 2) 69 dX9_step_68 (by omega) rfl ?_
      refine g_sipush (v := iZ (255)) 72 dX9_step_69 (by decide +kernel) rfl ?_
      refine g_and255Z ((p + 2) % 256) 73 dX9_step_72 rfl rfl ?_
      refine g_putC (fs1 := [.long (tr), .ref 51, .int (iZ mn), .ref 52, .ref 53, .int (iZ kt), .ref 54, .ref 55, .ref 56, .ref 57, .ref 58, .ref 59, .ref 60, .int (iZ bs), .int (iZ ee), .int (iZ pa), .int (iZ fu), .int (iZ st), .int (iZ so), .int (iZ va), .int (iZ ed), .ref 61, .ref 62, .ref 63, .ref 64, .int (iZ cm), .int (iZ a), .int (iZ x), .int (iZ ((p + 2) % 256)), .int (iZ dn), .int (iZ tk), .int (iZ ie), .ref 65, .ref 66, .ref 67, .int (iZ en), .ref 68, .ref 69, .ref 70]) 76 dX9_step_73 fpX9_181_X9 F0 (nle rfl) (vI _) rfl rfl (fun h282 s283 f284 => ?_)
      refine g_aload_n 77 dX9_step_76 rfl rfl ?_
      refine g_dup 78 dX9_step_77 rfl rfl ?_
      refine g_get 81 dX9_step_78 faX9_187_X9 f284 rfl rfl ?_
      refine g_iconst (v := iZ (1)) 82 dX9_step_81 rfl rfl ?_
      refine g_iaddZ (dn + 1) 83 dX9_step_82 (by omega) rfl ?_
      refine g_putC (fs1 := [.long (tr), .ref 51, .int (iZ mn), .ref 52, .ref 53, .int (iZ kt), .ref 54, .ref 55, .ref 56, .ref 57, .ref 58, .ref 59, .ref 60, .int (iZ bs), .int (iZ ee), .int (iZ pa), .int (iZ fu), .int (iZ st), .int (iZ so), .int (iZ va), .int (iZ ed), .ref 61, .ref 62, .ref 63, .ref 64, .int (iZ cm), .int (iZ a), .int (iZ x), .int (iZ ((p + 2) % 256)), .int (iZ (dn + 1)), .int (iZ tk), .int (iZ ie), .ref 65, .ref 66, .ref 67, .int (iZ en), .ref 68, .ref 69, .ref 70]) 86 dX9_step_83 fpX9_187_X9 f284 (nle rfl) (vI _) rfl rfl (fun h285 s286 f287 => ?_)
      refine g_iload_n 87 dX9_step_86 rfl rfl ?_
      refine g_tabZO 496 dX9_step_87 (by omega) (by omega) rfl ?_
      refine g_aload_n 497 dX9_step_496 rfl rfl ?_
      refine g_aload_n 498 dX9_step_497 rfl rfl ?_
      refine g_get 501 dX9_step_498 faX9_193_X9 f287 rfl rfl ?_
      refine g_sipush (v := iZ (128)) 504 dX9_step_501 (by decide +kernel) rfl ?_
      refine g_icZ_lt 511 507 dX9_step_504 rfl rfl (by omega) (by decide) (fun c288 => ?_) (fun c288 => ?_)
      · refine g_aload_n 512 dX9_step_511 rfl rfl ?_
        refine g_get 515 dX9_step_512 faX9_181_X9 f287 rfl rfl ?_
        refine g_putC (fs1 := [.long (tr), .ref 51, .int (iZ mn), .ref 52, .ref 53, .int (iZ kt), .ref 54, .ref 55, .ref 56, .ref 57, .ref 58, .ref 59, .ref 60, .int (iZ bs), .int (iZ ee), .int (iZ pa), .int (iZ fu), .int (iZ st), .int (iZ so), .int (iZ va), .int (iZ ed), .ref 61, .ref 62, .ref 63, .ref 64, .int (iZ cm), .int (iZ a), .int (iZ x), .int (iZ ((p + 2) % 256)), .int (iZ (dn + 1)), .int (iZ tk), .int (iZ ie), .ref 65, .ref 66, .ref 67, .int (iZ en), .ref 68, .ref 69, .ref 70]) 518 dX9_step_515 fpX9_181_X9 f287 (nle rfl) (vI _) rfl rfl (fun h289 s290 f291 => ?_)
        refine g_iconst (v := iZ (0)) 519 dX9_step_518 rfl rfl ?_
        refine g_iret rfl dX9_step_519 ?_
        have f292 := (s290.get (by decide) (s286.get (by decide) (s283.get (by decide) F3)))
        have f293 := (s290.get (by decide) (s286.get (by decide) (s283.get (by decide) F4)))
        have f294 := (s290.get (by decide) (s286.get (by decide) (s283.get (by decide) F5)))
        exact k _ (cm) (a) (x) ((p + 2) % 256) (dn + 1) (tk) (ie) (mm) (ou) (ol) (0) (by omega) (by omega) (by omega) (by omega) (by omega) (by omega) (by omega) omm oou ool (by omega) (Or.inr (Or.inr ⟨rfl, (fun q => by unfold hcM at q; omega), by omega, (by first | exact ms_15a ke3 (by omega) | exact ms_15b ke3 (by omega))⟩)) ((((Sm.refl [50, 62, 63, 64] _).tr s283 (fun _ q => q) (by simp)).tr s286 (fun _ q => q) (by simp)).tr s290 (fun _ q => q) (by simp)) f291 f292 f293 f294
      · refine g_iload_n 508 dX9_step_507 rfl rfl ?_
        refine g_goto 515 dX9_step_508 rfl ?_
        refine g_putC (fs1 := [.long (tr), .ref 51, .int (iZ mn), .ref 52, .ref 53, .int (iZ kt), .ref 54, .ref 55, .ref 56, .ref 57, .ref 58, .ref 59, .ref 60, .int (iZ bs), .int (iZ ee), .int (iZ pa), .int (iZ fu), .int (iZ st), .int (iZ so), .int (iZ va), .int (iZ ed), .ref 61, .ref 62, .ref 63, .ref 64, .int (iZ cm), .int (iZ a), .int (iZ x), .int (iZ (mm ((p + 1) % 256).toNat)), .int (iZ (dn + 1)), .int (iZ tk), .int (iZ ie), .ref 65, .ref 66, .ref 67, .int (iZ en), .ref 68, .ref 69, .ref 70]) 518 dX9_step_515 fpX9_181_X9 f287 (nle rfl) (vI _) rfl rfl (fun h295 s296 f297 => ?_)
        refine g_iconst (v := iZ (0)) 519 dX9_step_518 rfl rfl ?_
        refine g_iret rfl dX9_step_519 ?_
        have f298 := (s296.get (by decide) (s286.get (by decide) (s283.get (by decide) F3)))
        have f299 := (s296.get (by decide) (s286.get (by decide) (s283.get (by decide) F4)))
        have f300 := (s296.get (by decide) (s286.get (by decide) (s283.get (by decide) F5)))
        exact k _ (cm) (a) (x) (mm ((p + 1) % 256).toNat) (dn + 1) (tk) (ie) (mm) (ou) (ol) (0) (by omega) (by omega) (by omega) (by omega) (by omega) (by omega) (by omega) omm oou ool (by omega) (Or.inr (Or.inr ⟨rfl, (fun q => by unfold hcM at q; omega), by omega, (by first | exact ms_15a ke3 (by omega) | exact ms_15b ke3 (by omega))⟩)) ((((Sm.refl [50, 62, 63, 64] _).tr s283 (fun _ q => q) (by simp)).tr s286 (fun _ q => q) (by simp)).tr s296 (fun _ q => q) (by simp)) f297 f298 f299 f300
  · refine g_iconst (v := iZ (1)) 17 dX9_step_16 rfl rfl ?_
    refine g_iret rfl dX9_step_17 ?_
    exact k _ (cm) (a) (x) (p) (dn) (tk) (ie) (mm) (ou) (ol) (1) (by omega) (by omega) (by omega) (by omega) (by omega) (by omega) (by omega) omm oou ool (by omega) (Or.inl ⟨Or.inl rfl, Or.inl (by omega), rfl⟩) (Sm.refl [50, 62, 63, 64] _) F0 F3 F4 F5

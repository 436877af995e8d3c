set_option maxRecDepth 100000 in
theorem f_dig {l : Launch} {h : MH} {Q : Option Value → MH → Prop} {v : Int} (rv : (-1 ≤ v ∧ v ≤ 255)) (k : ∀ (r : Int), (r = dgt v ∧ (r = -9 ∨ (0 ≤ r ∧ r ≤ 15))) → Q (some (.int (iZ r))) h) : Go l mX9_digit 0 [some (.int (iZ v))] [] h Q := by
  refine g_iload_n 1 dX9_digit_0 rfl rfl ?_
  refine g_bipush (v := iZ (48)) 3 dX9_digit_1 (by decide +kernel) rfl ?_
  refine g_bipush (v := iZ (57)) 5 dX9_digit_3 (by decide +kernel) rfl ?_
  refine g_callS (z := mX9_in) (As := [.int (iZ v), .int (iZ 48), .int (iZ 57)]) 8 dX9_digit_5 mwX9_in ⟨by decide, by decide⟩ rfl wlX9_75 wtX9_in rfl (nle rfl) (nle rfl) rfl ?_
  refine n_in  (by omega) (by decide) (by decide) (fun z1 rz1 => ?_)
  refine rI ?_
  refine g_ifZ_eq 18 11 dX9_digit_8 rfl rfl (rg01 (by omega)) (fun c2 => ?_) (fun c2 => ?_)
  · refine g_iload_n 19 dX9_digit_18 rfl rfl ?_
    refine g_bipush (v := iZ (97)) 21 dX9_digit_19 (by decide +kernel) rfl ?_
    refine g_bipush (v := iZ (102)) 23 dX9_digit_21 (by decide +kernel) rfl ?_
    refine g_callS (z := mX9_in) (As := [.int (iZ v), .int (iZ 97), .int (iZ 102)]) 26 dX9_digit_23 mwX9_in ⟨by decide, by decide⟩ rfl wlX9_75 wtX9_in rfl (nle rfl) (nle rfl) rfl ?_
    refine n_in  (by omega) (by decide) (by decide) (fun z3 rz3 => ?_)
    refine rI ?_
    refine g_ifZ_eq 39 29 dX9_digit_26 rfl rfl (rg01 (by omega)) (fun c4 => ?_) (fun c4 => ?_)
    · refine g_bipush (v := iZ (-9)) 41 dX9_digit_39 (by decide +kernel) rfl ?_
      refine g_iret rfl dX9_digit_41 ?_
      exact k (-9) ⟨by unfold dgt; split <;> (try split) <;> omega, by omega⟩
    · refine g_iload_n 30 dX9_digit_29 rfl rfl ?_
      refine g_bipush (v := iZ (97)) 32 dX9_digit_30 (by decide +kernel) rfl ?_
      refine g_isubZ (v - 97) 33 dX9_digit_32 (by omega) rfl ?_
      refine g_bipush (v := iZ (10)) 35 dX9_digit_33 (by decide +kernel) rfl ?_
      refine g_iaddZ (v - 87) 36 dX9_digit_35 (by omega) rfl ?_
      refine g_goto 41 dX9_digit_36 rfl ?_
      refine g_iret rfl dX9_digit_41 ?_
      exact k (v - 87) ⟨by unfold dgt; split <;> (try split) <;> omega, by omega⟩
  · refine g_iload_n 12 dX9_digit_11 rfl rfl ?_
    refine g_bipush (v := iZ (48)) 14 dX9_digit_12 (by decide +kernel) rfl ?_
    refine g_isubZ (v - 48) 15 dX9_digit_14 (by omega) rfl ?_
    refine g_goto 41 dX9_digit_15 rfl ?_
    refine g_iret rfl dX9_digit_41 ?_
    exact k (v - 48) ⟨by unfold dgt; split <;> (try split) <;> omega, by omega⟩
set_option maxRecDepth 100000 in
theorem f_open {l : Launch} {h : MH} {Q : Option Value → MH → Prop} {tr : Int64} {mn kt bs ee pa fu st so va ed cm a x p dn tk ie en i : Int} {lg : Nat → Int} (F0 : h[50]? = some (.inr (8, [.long (tr), .ref 51, .int (iZ mn), .ref 52, .ref 53, .int (iZ kt), .ref 54, .ref 55, .ref 56, .ref 57, .ref 58, .ref 59, .ref 60, .int (iZ bs), .int (iZ ee), .int (iZ pa), .int (iZ fu), .int (iZ st), .int (iZ so), .int (iZ va), .int (iZ ed), .ref 61, .ref 62, .ref 63, .ref 64, .int (iZ cm), .int (iZ a), .int (iZ x), .int (iZ p), .int (iZ dn), .int (iZ tk), .int (iZ ie), .ref 65, .ref 66, .ref 67, .int (iZ en), .ref 68, .ref 69, .ref 70]))) (F1 : h[53]? = some (.inl (0, 8, .inl (zA lg)))) (olg : oki (0) (200) lg) (rmn : (0 ≤ mn ∧ mn ≤ 200)) (rkt : (0 ≤ kt ∧ kt ≤ 12)) (rbs : (0 ≤ bs ∧ bs ≤ 1400)) (ree : (0 ≤ ee ∧ ee ≤ 200)) (rpa : (0 ≤ pa ∧ pa ≤ 200)) (rfu : (-9 ≤ fu ∧ fu ≤ 200)) (rst : (0 ≤ st ∧ st ≤ 200)) (rso : (0 ≤ so ∧ so ≤ 5)) (rva : (-100 ≤ va ∧ va ≤ 3000)) (red : (0 ≤ ed ∧ ed ≤ 200)) (rcm : (0 ≤ cm ∧ cm ≤ 256)) (ra : (0 ≤ a ∧ a ≤ 255)) (rx : (0 ≤ x ∧ x ≤ 255)) (rp : (0 ≤ p ∧ p ≤ 255)) (rdn : (0 ≤ dn ∧ dn ≤ 5000)) (rtk : (0 ≤ tk ∧ tk ≤ 200)) (rie : (0 ≤ ie ∧ ie ≤ 1)) (ren : (0 ≤ en ∧ en ≤ 12)) (ri : (0 ≤ i ∧ i ≤ 7)) (k : ∀ (h1 : MH) (bs_1 ee_1 pa_1 fu_1 : Int), (0 ≤ bs_1 ∧ bs_1 ≤ 1400) → (0 ≤ ee_1 ∧ ee_1 ≤ 200) → (0 ≤ pa_1 ∧ pa_1 ≤ 200) → (-9 ≤ fu_1 ∧ fu_1 ≤ 200) → (bs_1 = 200 * i) → (ee_1 = lg i.toNat) → (pa_1 = 0) → (fu_1 = -9) → Sm [50] h h1 → h1[50]? = some (.inr (8, [.long (tr), .ref 51, .int (iZ mn), .ref 52, .ref 53, .int (iZ kt), .ref 54, .ref 55, .ref 56, .ref 57, .ref 58, .ref 59, .ref 60, .int (iZ bs_1), .int (iZ ee_1), .int (iZ pa_1), .int (iZ fu_1), .int (iZ st), .int (iZ so), .int (iZ va), .int (iZ ed), .ref 61, .ref 62, .ref 63, .ref 64, .int (iZ cm), .int (iZ a), .int (iZ x), .int (iZ p), .int (iZ dn), .int (iZ tk), .int (iZ ie), .ref 65, .ref 66, .ref 67, .int (iZ en), .ref 68, .ref 69, .ref 70])) → Q none h1) : Go l mX9_open 0 [some (.ref 50), some (.int (iZ i))] [] h Q := by
  refine g_aload_n 1 dX9_open_0 rfl rfl ?_
  refine g_sipush (v := iZ (200)) 4 dX9_open_1 (by decide +kernel) rfl ?_
  refine g_iload_n 5 dX9_open_4 rfl rfl ?_
  refine g_imulZ (200 * i) 6 dX9_open_5 (by omega) rfl ?_
  refine g_putC (fs1 := [.long (tr), .ref 51, .int (iZ mn), .ref 52, .ref 53, .int (iZ kt), .ref 54, .ref 55, .ref 56, .ref 57, .ref 58, .ref 59, .ref 60, .int (iZ (200 * i)), .int (iZ ee), .int (iZ pa), .int (iZ fu), .int (iZ st), .int (iZ so), .int (iZ va), .int (iZ ed), .ref 61, .ref 62, .ref 63, .ref 64, .int (iZ cm), .int (iZ a), .int (iZ x), .int (iZ p), .int (iZ dn), .int (iZ tk), .int (iZ ie), .ref 65, .ref 66, .ref 67, .int (iZ en), .ref 68, .ref 69, .ref 70]) 9 dX9_open_6 fpX9_94_X9 F0 (nle rfl) (vI _) rfl rfl (fun h1 s2 f3 => ?_)
  refine g_aload_n 10 dX9_open_9 rfl rfl ?_
  refine g_aload_n 11 dX9_open_10 rfl rfl ?_
  refine g_get 14 dX9_open_11 faX9_16_X9 f3 rfl rfl ?_
  refine g_iload_n 15 dX9_open_14 rfl rfl ?_
  have f4 := (s2.get (by decide) F1)
  have b5 := olg ((i).toNat)
  refine g_ialdZ (v := iZ (lg i.toNat)) 16 dX9_open_15 f4 (by omega) (by omega) (by decide) rfl rfl ?_
  refine g_putC (fs1 := [.long (tr), .ref 51, .int (iZ mn), .ref 52, .ref 53, .int (iZ kt), .ref 54, .ref 55, .ref 56, .ref 57, .ref 58, .ref 59, .ref 60, .int (iZ (200 * i)), .int (iZ (lg i.toNat)), .int (iZ pa), .int (iZ fu), .int (iZ st), .int (iZ so), .int (iZ va), .int (iZ ed), .ref 61, .ref 62, .ref 63, .ref 64, .int (iZ cm), .int (iZ a), .int (iZ x), .int (iZ p), .int (iZ dn), .int (iZ tk), .int (iZ ie), .ref 65, .ref 66, .ref 67, .int (iZ en), .ref 68, .ref 69, .ref 70]) 19 dX9_open_16 fpX9_91_X9 f3 (nle rfl) (vI _) rfl rfl (fun h6 s7 f8 => ?_)
  refine g_aload_n 20 dX9_open_19 rfl rfl ?_
  refine g_iconst (v := iZ (0)) 21 dX9_open_20 rfl rfl ?_
  refine g_putC (fs1 := [.long (tr), .ref 51, .int (iZ mn), .ref 52, .ref 53, .int (iZ kt), .ref 54, .ref 55, .ref 56, .ref 57, .ref 58, .ref 59, .ref 60, .int (iZ (200 * i)), .int (iZ (lg i.toNat)), .int (iZ 0), .int (iZ fu), .int (iZ st), .int (iZ so), .int (iZ va), .int (iZ ed), .ref 61, .ref 62, .ref 63, .ref 64, .int (iZ cm), .int (iZ a), .int (iZ x), .int (iZ p), .int (iZ dn), .int (iZ tk), .int (iZ ie), .ref 65, .ref 66, .ref 67, .int (iZ en), .ref 68, .ref 69, .ref 70]) 24 dX9_open_21 fpX9_88_X9 f8 (nle rfl) (vI _) rfl rfl (fun h9 s10 f11 => ?_)
  refine g_aload_n 25 dX9_open_24 rfl rfl ?_
  refine g_bipush (v := iZ (-9)) 27 dX9_open_25 (by decide +kernel) rfl ?_
  refine g_putC (fs1 := [.long (tr), .ref 51, .int (iZ mn), .ref 52, .ref 53, .int (iZ kt), .ref 54, .ref 55, .ref 56, .ref 57, .ref 58, .ref 59, .ref 60, .int (iZ (200 * i)), .int (iZ (lg i.toNat)), .int (iZ 0), .int (iZ (-9)), .int (iZ st), .int (iZ so), .int (iZ va), .int (iZ ed), .ref 61, .ref 62, .ref 63, .ref 64, .int (iZ cm), .int (iZ a), .int (iZ x), .int (iZ p), .int (iZ dn), .int (iZ tk), .int (iZ ie), .ref 65, .ref 66, .ref 67, .int (iZ en), .ref 68, .ref 69, .ref 70]) 30 dX9_open_27 fpX9_97_X9 f11 (nle rfl) (vI _) rfl rfl (fun h12 s13 f14 => ?_)
  refine g_vret rfl dX9_open_30 ?_
  exact k _ (200 * i) (lg i.toNat) (0) (-9) (by omega) (by omega) (by omega) (by omega) (by omega) (by omega) (by omega) (by omega) (((((Sm.refl [50] _).tr s2 (fun _ q => q) (by simp)).tr s7 (fun _ q => q) (by simp)).tr s10 (fun _ q => q) (by simp)).tr s13 (fun _ q => q) (by simp)) f14
set_option maxRecDepth 100000 in
theorem f_add {l : Launch} {h : MH} {Q : Option Value → MH → Prop} {tr : Int64} {mn kt bs ee pa fu st so va ed cm a x p dn tk ie en v w : Int} {bf lf sz : Nat → Int} (F0 : h[50]? = some (.inr (8, [.long (tr), .ref 51, .int (iZ mn), .ref 52, .ref 53, .int (iZ kt), .ref 54, .ref 55, .ref 56, .ref 57, .ref 58, .ref 59, .ref 60, .int (iZ bs), .int (iZ ee), .int (iZ pa), .int (iZ fu), .int (iZ st), .int (iZ so), .int (iZ va), .int (iZ ed), .ref 61, .ref 62, .ref 63, .ref 64, .int (iZ cm), .int (iZ a), .int (iZ x), .int (iZ p), .int (iZ dn), .int (iZ tk), .int (iZ ie), .ref 65, .ref 66, .ref 67, .int (iZ en), .ref 68, .ref 69, .ref 70]))) (F1 : h[54]? = some (.inl (0, 4096, .inl (zA bf)))) (F2 : h[55]? = some (.inl (0, 4096, .inl (zA lf)))) (F3 : h[56]? = some (.inl (0, 16, .inl (zA sz)))) (obf : okr bf) (olf : oki (0) (300) lf) (osz : oki (0) (256) sz) (rmn : (0 ≤ mn ∧ mn ≤ 200)) (rkt : (0 ≤ kt ∧ kt ≤ 12)) (rbs : (0 ≤ bs ∧ bs ≤ 1400)) (ree : (0 ≤ ee ∧ ee ≤ 200)) (rpa : (0 ≤ pa ∧ pa ≤ 200)) (rfu : (-9 ≤ fu ∧ fu ≤ 200)) (rst : (0 ≤ st ∧ st ≤ 200)) (rso : (0 ≤ so ∧ so ≤ 5)) (rva : (-100 ≤ va ∧ va ≤ 3000)) (red : (0 ≤ ed ∧ ed ≤ 200)) (rcm : (0 ≤ cm ∧ cm ≤ 256)) (ra : (0 ≤ a ∧ a ≤ 255)) (rx : (0 ≤ x ∧ x ≤ 255)) (rp : (0 ≤ p ∧ p ≤ 255)) (rdn : (0 ≤ dn ∧ dn ≤ 5000)) (rtk : (0 ≤ tk ∧ tk ≤ 200)) (rie : (0 ≤ ie ∧ ie ≤ 1)) (ren : (0 ≤ en ∧ en ≤ 12)) (rv : rg v) (rw : (0 ≤ w ∧ w ≤ 300)) (hs : sz 12 < 256) (k : ∀ (h1 : MH) (bf_1 : Nat → Int) (lf_1 : Nat → Int) (sz_1 : Nat → Int), okr bf_1 → oki (0) (300) lf_1 → oki (0) (256) sz_1 → (bf_1 = va_up bf (3072 + sz 12).toNat v) → (lf_1 = va_up lf (3072 + sz 12).toNat w) → (sz_1 = va_up sz 12 (sz 12 + 1)) → Sm [54, 55, 56] h h1 → h1[54]? = some (.inl (0, 4096, .inl (zA bf_1))) → h1[55]? = some (.inl (0, 4096, .inl (zA lf_1))) → h1[56]? = some (.inl (0, 16, .inl (zA sz_1))) → Q none h1) : Go l mX9_add 0 [some (.ref 50), some (.int (iZ 12)), some (.int (iZ v)), some (.int (iZ w))] [] h Q := by
  refine g_aload_n 1 dX9_add_0 rfl rfl ?_
  refine g_get 4 dX9_add_1 faX9_20_X9 F0 rfl rfl ?_
  refine g_sipush (v := iZ (256)) 7 dX9_add_4 (by decide +kernel) rfl ?_
  refine g_iload_n 8 dX9_add_7 rfl rfl ?_
  refine g_imulZ (3072) 9 dX9_add_8 (by decide) rfl ?_
  refine g_aload_n 10 dX9_add_9 rfl rfl ?_
  refine g_get 13 dX9_add_10 faX9_26_X9 F0 rfl rfl ?_
  refine g_iload_n 14 dX9_add_13 rfl rfl ?_
  have b1 := osz (12)
  refine g_ialdZ (v := iZ (sz 12)) 15 dX9_add_14 F3 (by decide) (by decide) (by decide) rfl rfl ?_
  refine g_iaddZ (3072 + (sz 12)) 16 dX9_add_15 (by omega) rfl ?_
  refine g_iload_n 17 dX9_add_16 rfl rfl ?_
  refine g_iastFj ((3072 + (sz 12)).toNat) 18 dX9_add_17 F1 (by omega) (by omega) (by decide) rfl rfl (fun h2 s3 f4 => ?_)
  refine g_aload_n 19 dX9_add_18 rfl rfl ?_
  have f5 := (s3.get (by decide) F0)
  refine g_get 22 dX9_add_19 faX9_23_X9 f5 rfl rfl ?_
  refine g_sipush (v := iZ (256)) 25 dX9_add_22 (by decide +kernel) rfl ?_
  refine g_iload_n 26 dX9_add_25 rfl rfl ?_
  refine g_imulZ (3072) 27 dX9_add_26 (by decide) rfl ?_
  refine g_aload_n 28 dX9_add_27 rfl rfl ?_
  refine g_get 31 dX9_add_28 faX9_26_X9 f5 rfl rfl ?_
  refine g_iload_n 32 dX9_add_31 rfl rfl ?_
  have f6 := (s3.get (by decide) F3)
  have b7 := osz (12)
  refine g_ialdZ (v := iZ (sz 12)) 33 dX9_add_32 f6 (by decide) (by decide) (by decide) rfl rfl ?_
  refine g_iaddZ (3072 + (sz 12)) 34 dX9_add_33 (by omega) rfl ?_
  refine g_iload_n 35 dX9_add_34 rfl rfl ?_
  have f8 := (s3.get (by decide) F2)
  refine g_iastFj ((3072 + (sz 12)).toNat) 36 dX9_add_35 f8 (by omega) (by omega) (by decide) rfl rfl (fun h9 s10 f11 => ?_)
  refine g_aload_n 37 dX9_add_36 rfl rfl ?_
  have f12 := (s10.get (by decide) f5)
  refine g_get 40 dX9_add_37 faX9_26_X9 f12 rfl rfl ?_
  refine g_iload_n 41 dX9_add_40 rfl rfl ?_
  refine g_dup2 42 dX9_add_41 rfl rfl rfl ?_
  have f13 := (s10.get (by decide) f6)
  have b14 := osz (12)
  refine g_ialdZ (v := iZ (sz 12)) 43 dX9_add_42 f13 (by decide) (by decide) (by decide) rfl rfl ?_
  refine g_iconst (v := iZ (1)) 44 dX9_add_43 rfl rfl ?_
  refine g_iaddZ ((sz 12) + 1) 45 dX9_add_44 (by omega) rfl ?_
  refine g_iastFj (12) 46 dX9_add_45 f13 (by decide) (by decide) (by decide) rfl rfl (fun h15 s16 f17 => ?_)
  refine g_vret rfl dX9_add_46 ?_
  have f18 := (s16.get (by decide) (s10.get (by decide) f4))
  have f19 := (s16.get (by decide) f11)
  exact k _ (va_up bf (3072 + (sz 12)).toNat v) (va_up lf (3072 + (sz 12)).toNat w) (va_up sz 12 ((sz 12) + 1)) (okr_up obf _ rv) (oki_up olf _ (by omega)) (oki_up osz _ (by omega)) rfl rfl rfl ((((Sm.refl [54, 55, 56] _).tr s3 (fun _ q => q) (by simp)).tr s10 (fun _ q => q) (by simp)).tr s16 (fun _ q => q) (by simp)) f18 f19 f17
set_option maxRecDepth 100000 in
theorem f_passL {l : Launch} {Q : Option Value → MH → Prop} {tr : Int64} {mn kt bs ee fu st so va ed cm a x p dn tk ie en : Int} {tx : Nat → Int32} {RES : Int} (c : Int) (rmn : (0 ≤ mn ∧ mn ≤ 200)) (rkt : (0 ≤ kt ∧ kt ≤ 12)) (rbs : (0 ≤ bs ∧ bs ≤ 1400)) (ree : (0 ≤ ee ∧ ee ≤ 200)) (rfu : (-9 ≤ fu ∧ fu ≤ 200)) (rst : (0 ≤ st ∧ st ≤ 200)) (rso : (0 ≤ so ∧ so ≤ 5)) (rva : (-100 ≤ va ∧ va ≤ 3000)) (red : (0 ≤ ed ∧ ed ≤ 200)) (rcm : (0 ≤ cm ∧ cm ≤ 256)) (ra : (0 ≤ a ∧ a ≤ 255)) (rx : (0 ≤ x ∧ x ≤ 255)) (rp : (0 ≤ p ∧ p ≤ 255)) (rdn : (0 ≤ dn ∧ dn ≤ 5000)) (rtk : (0 ≤ tk ∧ tk ≤ 200)) (rie : (0 ≤ ie ∧ ie ≤ 1)) (ren : (0 ≤ en ∧ en ≤ 12)) : ∀ (m0 : Nat) (h : MH) (pa : Int), (200 - pa).toNat = m0 → 0 ≤ pa ∧ pa ≤ ee → gapE ee (fun j => hb tx (bs + j)) 1 pa = RES → h[50]? = some (.inr (8, [.long (tr), .ref 51, .int (iZ mn), .ref 52, .ref 53, .int (iZ kt), .ref 54, .ref 55, .ref 56, .ref 57, .ref 58, .ref 59, .ref 60, .int (iZ bs), .int (iZ ee), .int (iZ pa), .int (iZ fu), .int (iZ st), .int (iZ so), .int (iZ va), .int (iZ ed), .ref 61, .ref 62, .ref 63, .ref 64, .int (iZ cm), .int (iZ a), .int (iZ x), .int (iZ p), .int (iZ dn), .int (iZ tk), .int (iZ ie), .ref 65, .ref 66, .ref 67, .int (iZ en), .ref 68, .ref 69, .ref 70])) → h[52]? = some (.inl (1, 1600, .inl tx)) → (∀ (h1 : MH) (pa1 : Int), pa ≤ pa1 ∧ pa1 ≤ ee → gapE ee (fun j => hb tx (bs + j)) 0 pa1 = RES → (pa < ee ∧ hb tx (bs + pa) ≠ 10 → pa < pa1) → Sm [50] h h1 → h1[50]? = some (.inr (8, [.long (tr), .ref 51, .int (iZ mn), .ref 52, .ref 53, .int (iZ kt), .ref 54, .ref 55, .ref 56, .ref 57, .ref 58, .ref 59, .ref 60, .int (iZ bs), .int (iZ ee), .int (iZ pa1), .int (iZ fu), .int (iZ st), .int (iZ so), .int (iZ va), .int (iZ ed), .ref 61, .ref 62, .ref 63, .ref 64, .int (iZ cm), .int (iZ a), .int (iZ x), .int (iZ p), .int (iZ dn), .int (iZ tk), .int (iZ ie), .ref 65, .ref 66, .ref 67, .int (iZ en), .ref 68, .ref 69, .ref 70])) → Go l mX9_pass 82 [some (.ref 50), some (.int (iZ 1)), some (.int (iZ c))] [] h1 Q) → Go l mX9_pass 17 [some (.ref 50), some (.int (iZ 1)), some (.int (iZ c))] [] h Q := by
  intro m0
  induction m0 using Nat.strongRecOn with
  | ind m0 ih =>
    intro h pa hmz hpa hG F0 F1 k
    refine g_aload_n 18 dX9_pass_17 rfl rfl ?_
    refine g_callV (z := mX9_here) (As := []) 21 dX9_pass_18 mwX9_here ⟨by decide, by decide⟩ rfl wlX9_100 wiX9_here wsX9_here F0 rfl rfl rfl (nle rfl) (nle rfl) rfl ?_
    refine n_here  F0 F1 (by omega) (by omega) (by omega) (by omega) (by omega) (by omega) (by omega) (by omega) (by omega) (by omega) (by omega) (by omega) (by omega) (by omega) (by omega) (by omega) (by omega) (by omega) (fun z1 rz1 => ?_)
    refine rI ?_
    refine g_ifZ_lt 82 24 dX9_pass_21 rfl rfl (by omega) (fun c2 => ?_) (fun c2 => ?_)
    · exact k h pa (by omega) ((gap_01 (by first | exact Or.inl (by omega) | exact Or.inr (by show hb tx (bs + pa) = 10; omega))).symm.trans hG) (by omega) (Sm.refl _ _) F0
    · refine g_aload_n 25 dX9_pass_24 rfl rfl ?_
      refine g_callV (z := mX9_here) (As := []) 28 dX9_pass_25 mwX9_here ⟨by decide, by decide⟩ rfl wlX9_100 wiX9_here wsX9_here F0 rfl rfl rfl (nle rfl) (nle rfl) rfl ?_
      refine n_here  F0 F1 (by omega) (by omega) (by omega) (by omega) (by omega) (by omega) (by omega) (by omega) (by omega) (by omega) (by omega) (by omega) (by omega) (by omega) (by omega) (by omega) (by omega) (by omega) (fun z3 rz3 => ?_)
      refine rI ?_
      refine g_bipush (v := iZ (10)) 30 dX9_pass_28 (by decide +kernel) rfl ?_
      refine g_icZ_eq 82 33 dX9_pass_30 rfl rfl (by omega) (by decide) (fun c4 => ?_) (fun c4 => ?_)
      · exact k h pa (by omega) ((gap_01 (by first | exact Or.inl (by omega) | exact Or.inr (by show hb tx (bs + pa) = 10; omega))).symm.trans hG) (by omega) (Sm.refl _ _) F0
      · refine g_aload_n 34 dX9_pass_33 rfl rfl ?_
        refine g_dup 35 dX9_pass_34 rfl rfl ?_
        refine g_get 38 dX9_pass_35 faX9_88_X9 F0 rfl rfl ?_
        refine g_iconst (v := iZ (1)) 39 dX9_pass_38 rfl rfl ?_
        refine g_iaddZ (pa + 1) 40 dX9_pass_39 (by omega) rfl ?_
        refine g_putC (fs1 := [.long (tr), .ref 51, .int (iZ mn), .ref 52, .ref 53, .int (iZ kt), .ref 54, .ref 55, .ref 56, .ref 57, .ref 58, .ref 59, .ref 60, .int (iZ bs), .int (iZ ee), .int (iZ (pa + 1)), .int (iZ fu), .int (iZ st), .int (iZ so), .int (iZ va), .int (iZ ed), .ref 61, .ref 62, .ref 63, .ref 64, .int (iZ cm), .int (iZ a), .int (iZ x), .int (iZ p), .int (iZ dn), .int (iZ tk), .int (iZ ie), .ref 65, .ref 66, .ref 67, .int (iZ en), .ref 68, .ref 69, .ref 70]) 43 dX9_pass_40 fpX9_88_X9 F0 (nle rfl) (vI _) rfl rfl (fun h5 s6 f7 => ?_)
        refine g_goto 17 dX9_pass_43 rfl ?_
        have f8 := (s6.get (by decide) F1)
        refine ih _ (by omega) _ (pa + 1) rfl (by omega) ((gap_r1 (by omega) (by show hb tx (bs + pa) ≠ 10; omega)).symm.trans hG) f7 f8 (fun h1 pa1 q1 q2 q3 s1 u0 => k h1 pa1 (by omega) q2 (by omega) (s6.tr s1 (fun _ q => q) (fun _ q => q)) u0)
set_option maxRecDepth 100000 in
theorem f_pass_l {l : Launch} {Q : Option Value → MH → Prop} {tr : Int64} {mn kt bs ee fu st so va ed cm a x p dn tk ie en : Int} {tx : Nat → Int32} {RES : Int} (rmn : (0 ≤ mn ∧ mn ≤ 200)) (rkt : (0 ≤ kt ∧ kt ≤ 12)) (rbs : (0 ≤ bs ∧ bs ≤ 1400)) (ree : (0 ≤ ee ∧ ee ≤ 200)) (rfu : (-9 ≤ fu ∧ fu ≤ 200)) (rst : (0 ≤ st ∧ st ≤ 200)) (rso : (0 ≤ so ∧ so ≤ 5)) (rva : (-100 ≤ va ∧ va ≤ 3000)) (red : (0 ≤ ed ∧ ed ≤ 200)) (rcm : (0 ≤ cm ∧ cm ≤ 256)) (ra : (0 ≤ a ∧ a ≤ 255)) (rx : (0 ≤ x ∧ x ≤ 255)) (rp : (0 ≤ p ∧ p ≤ 255)) (rdn : (0 ≤ dn ∧ dn ≤ 5000)) (rtk : (0 ≤ tk ∧ tk ≤ 200)) (rie : (0 ≤ ie ∧ ie ≤ 1)) (ren : (0 ≤ en ∧ en ≤ 12)) : ∀ (m0 : Nat) (h : MH) (pa : Int) (mo : Int), (2 * (200 - pa) + mo).toNat = m0 → (0 ≤ pa ∧ pa ≤ 200) → h[50]? = some (.inr (8, [.long (tr), .ref 51, .int (iZ mn), .ref 52, .ref 53, .int (iZ kt), .ref 54, .ref 55, .ref 56, .ref 57, .ref 58, .ref 59, .ref 60, .int (iZ bs), .int (iZ ee), .int (iZ pa), .int (iZ fu), .int (iZ st), .int (iZ so), .int (iZ va), .int (iZ ed), .ref 61, .ref 62, .ref 63, .ref 64, .int (iZ cm), .int (iZ a), .int (iZ x), .int (iZ p), .int (iZ dn), .int (iZ tk), .int (iZ ie), .ref 65, .ref 66, .ref 67, .int (iZ en), .ref 68, .ref 69, .ref 70])) → h[52]? = some (.inl (1, 1600, .inl tx)) → mo = 0 ∨ mo = 1 → pa ≤ ee → psI mo RES ee (fun j => hb tx (bs + j)) pa → (∀ (h1 : MH) (pa_1 : Int), (0 ≤ pa_1 ∧ pa_1 ≤ 200) → (pa_1 = RES) → Sm [50] h h1 → h1[50]? = some (.inr (8, [.long (tr), .ref 51, .int (iZ mn), .ref 52, .ref 53, .int (iZ kt), .ref 54, .ref 55, .ref 56, .ref 57, .ref 58, .ref 59, .ref 60, .int (iZ bs), .int (iZ ee), .int (iZ pa_1), .int (iZ fu), .int (iZ st), .int (iZ so), .int (iZ va), .int (iZ ed), .ref 61, .ref 62, .ref 63, .ref 64, .int (iZ cm), .int (iZ a), .int (iZ x), .int (iZ p), .int (iZ dn), .int (iZ tk), .int (iZ ie), .ref 65, .ref 66, .ref 67, .int (iZ en), .ref 68, .ref 69, .ref 70])) → Q none h1) → Go l mX9_pass 2 [some (.ref 50), some (.int (iZ mo)), none] [] h Q := by
  intro m0
  induction m0 using Nat.strongRecOn with
  | ind m0 ih =>
    intro h pa mo hmz rpa F0 F1 hmo hpe hM k
    refine g_iload_n 3 dX9_pass_2 rfl rfl ?_
    refine g_ifZ_eq 85 6 dX9_pass_3 rfl rfl (rg01 hmo) (fun c1 => ?_) (fun c1 => ?_)
    · refine g_vret rfl dX9_pass_85 ?_
      exact k _ (pa) (by omega) (psI_0 hM (by omega)) (Sm.refl [50] _) F0
    · refine g_aload_n 7 dX9_pass_6 rfl rfl ?_
      refine g_callV (z := mX9_here) (As := []) 10 dX9_pass_7 mwX9_here ⟨by decide, by decide⟩ rfl wlX9_100 wiX9_here wsX9_here F0 rfl rfl rfl (nle rfl) (nle rfl) rfl ?_
      refine n_here  F0 F1 (by omega) (by omega) (by omega) (by omega) (by omega) (by omega) (by omega) (by omega) (by omega) (by omega) (by omega) (by omega) (by omega) (by omega) (by omega) (by omega) (by omega) (by omega) (fun z2 rz2 => ?_)
      refine rI ?_
      refine g_istore_n (L1 := [some (.ref 50), some (.int (iZ mo)), some (.int (iZ z2))]) 11 dX9_pass_10 (by decide) rfl rfl rfl ?_
      refine g_iload_n 12 dX9_pass_11 rfl rfl ?_
      refine g_bipush (v := iZ (35)) 14 dX9_pass_12 (by decide +kernel) rfl ?_
      refine g_icZ_ne 46 17 dX9_pass_14 rfl rfl (by omega) (by decide) (fun c3 => ?_) (fun c3 => ?_)
      · refine g_iload_n 47 dX9_pass_46 rfl rfl ?_
        refine g_bipush (v := iZ (32)) 49 dX9_pass_47 (by decide +kernel) rfl ?_
        refine g_icZ_eq 58 52 dX9_pass_49 rfl rfl (by omega) (by decide) (fun c4 => ?_) (fun c4 => ?_)
        · refine g_iconst (v := iZ (1)) 59 dX9_pass_58 rfl rfl ?_
          refine g_goto 63 dX9_pass_59 rfl ?_
          refine g_istore_n (L1 := [some (.ref 50), some (.int (iZ 1)), some (.int (iZ z2))]) 64 dX9_pass_63 (by decide) rfl rfl rfl ?_
          refine g_aload_n 65 dX9_pass_64 rfl rfl ?_
          refine g_dup 66 dX9_pass_65 rfl rfl ?_
          refine g_get 69 dX9_pass_66 faX9_88_X9 F0 rfl rfl ?_
          refine g_iload_n 70 dX9_pass_69 rfl rfl ?_
          refine g_ifZ_eq 77 73 dX9_pass_70 rfl rfl (by decide) (fun q => absurd q (by decide)) (fun _ => ?_)
          refine g_iconst (v := iZ (1)) 74 dX9_pass_73 rfl rfl ?_
          refine g_goto 78 dX9_pass_74 rfl ?_
          refine g_iaddZ (pa + 1) 79 dX9_pass_78 (by omega) rfl ?_
          refine g_putC (fs1 := [.long (tr), .ref 51, .int (iZ mn), .ref 52, .ref 53, .int (iZ kt), .ref 54, .ref 55, .ref 56, .ref 57, .ref 58, .ref 59, .ref 60, .int (iZ bs), .int (iZ ee), .int (iZ (pa + 1)), .int (iZ fu), .int (iZ st), .int (iZ so), .int (iZ va), .int (iZ ed), .ref 61, .ref 62, .ref 63, .ref 64, .int (iZ cm), .int (iZ a), .int (iZ x), .int (iZ p), .int (iZ dn), .int (iZ tk), .int (iZ ie), .ref 65, .ref 66, .ref 67, .int (iZ en), .ref 68, .ref 69, .ref 70]) 82 dX9_pass_79 fpX9_88_X9 F0 (nle rfl) (vI _) rfl rfl (fun h5 s6 f7 => ?_)
          refine g_goto 2 dX9_pass_82 rfl ?_
          refine Go.fgt 2 ?_
          have f8 := (s6.get (by decide) F1)
          exact ih _ (by omega) _ (pa + 1) (1) rfl (by omega) f7 f8 (Or.inr rfl) (by omega) (Or.inl ⟨rfl, by first | exact (gap_10 (tn := ee) (tf := (fun j => hb tx (bs + j))) (r := 0) (i := pa) (by omega) (by show hb tx (bs + pa) = 10; omega)).symm.trans (psI_1 hM (by omega)) | exact (gap_on (tn := ee) (tf := (fun j => hb tx (bs + j))) (r := 0) (i := pa) (by omega) (by show hb tx (bs + pa) ≠ 10; omega) (by show hb tx (bs + pa) ≠ 35; omega) (fun z9 => by have z8 : hb tx (bs + pa) ≠ 32 := z9.2; omega)).symm.trans (psI_1 hM (by omega))⟩) (fun hQ xQ0 yQ0 pQ0 sQ uQ0 => k hQ xQ0 yQ0 pQ0 (((Sm.refl [50] _).tr s6 (fun _ q => q) (by simp)).tr sQ (fun _ q => q) (fun _ q => q)) uQ0)
        · refine g_iload_n 53 dX9_pass_52 rfl rfl ?_
          refine g_bipush (v := iZ (10)) 55 dX9_pass_53 (by decide +kernel) rfl ?_
          refine g_icZ_ne 62 58 dX9_pass_55 rfl rfl (by omega) (by decide) (fun c9 => ?_) (fun c9 => ?_)
          · refine g_iconst (v := iZ (0)) 63 dX9_pass_62 rfl rfl ?_
            refine g_istore_n (L1 := [some (.ref 50), some (.int (iZ 0)), some (.int (iZ z2))]) 64 dX9_pass_63 (by decide) rfl rfl rfl ?_
            refine g_aload_n 65 dX9_pass_64 rfl rfl ?_
            refine g_dup 66 dX9_pass_65 rfl rfl ?_
            refine g_get 69 dX9_pass_66 faX9_88_X9 F0 rfl rfl ?_
            refine g_iload_n 70 dX9_pass_69 rfl rfl ?_
            refine g_ifZ_eq 77 73 dX9_pass_70 rfl rfl (by decide) (fun _ => ?_) (fun q => absurd q (by decide))
            refine g_iconst (v := iZ (0)) 78 dX9_pass_77 rfl rfl ?_
            refine g_iaddZ (pa + 0) 79 dX9_pass_78 (by omega) rfl ?_
            refine g_putC (fs1 := [.long (tr), .ref 51, .int (iZ mn), .ref 52, .ref 53, .int (iZ kt), .ref 54, .ref 55, .ref 56, .ref 57, .ref 58, .ref 59, .ref 60, .int (iZ bs), .int (iZ ee), .int (iZ (pa + 0)), .int (iZ fu), .int (iZ st), .int (iZ so), .int (iZ va), .int (iZ ed), .ref 61, .ref 62, .ref 63, .ref 64, .int (iZ cm), .int (iZ a), .int (iZ x), .int (iZ p), .int (iZ dn), .int (iZ tk), .int (iZ ie), .ref 65, .ref 66, .ref 67, .int (iZ en), .ref 68, .ref 69, .ref 70]) 82 dX9_pass_79 fpX9_88_X9 F0 (nle rfl) (vI _) rfl rfl (fun h10 s11 f12 => ?_)
            refine g_goto 2 dX9_pass_82 rfl ?_
            refine Go.fgt 2 ?_
            have f13 := (s11.get (by decide) F1)
            exact ih _ (by omega) _ (pa + 0) (0) rfl (by omega) f12 f13 (Or.inl rfl) (by omega) (Or.inr ⟨rfl, (Int.lt_or_le pa ee).elim (fun q9 => (Int.add_zero pa).trans ((gap_st (tn := ee) (tf := (fun j => hb tx (bs + j))) (i := pa) q9 (by show hb tx (bs + pa) ≠ 10; omega) (by show hb tx (bs + pa) ≠ 35; omega) (by show hb tx (bs + pa) ≠ 32; omega)).symm.trans (psI_1 hM (by omega)))) (fun q9 => (show pa + 0 = ee by omega).trans ((gap_end (tn := ee) (tf := (fun j => hb tx (bs + j))) (r := 0) (i := pa) q9).symm.trans (psI_1 hM (by omega))))⟩) (fun hQ xQ0 yQ0 pQ0 sQ uQ0 => k hQ xQ0 yQ0 pQ0 (((Sm.refl [50] _).tr s11 (fun _ q => q) (by simp)).tr sQ (fun _ q => q) (fun _ q => q)) uQ0)
          · refine g_iconst (v := iZ (1)) 59 dX9_pass_58 rfl rfl ?_
            refine g_goto 63 dX9_pass_59 rfl ?_
            refine g_istore_n (L1 := [some (.ref 50), some (.int (iZ 1)), some (.int (iZ z2))]) 64 dX9_pass_63 (by decide) rfl rfl rfl ?_
            refine g_aload_n 65 dX9_pass_64 rfl rfl ?_
            refine g_dup 66 dX9_pass_65 rfl rfl ?_
            refine g_get 69 dX9_pass_66 faX9_88_X9 F0 rfl rfl ?_
            refine g_iload_n 70 dX9_pass_69 rfl rfl ?_
            refine g_ifZ_eq 77 73 dX9_pass_70 rfl rfl (by decide) (fun q => absurd q (by decide)) (fun _ => ?_)
            refine g_iconst (v := iZ (1)) 74 dX9_pass_73 rfl rfl ?_
            refine g_goto 78 dX9_pass_74 rfl ?_
            refine g_iaddZ (pa + 1) 79 dX9_pass_78 (by omega) rfl ?_
            refine g_putC (fs1 := [.long (tr), .ref 51, .int (iZ mn), .ref 52, .ref 53, .int (iZ kt), .ref 54, .ref 55, .ref 56, .ref 57, .ref 58, .ref 59, .ref 60, .int (iZ bs), .int (iZ ee), .int (iZ (pa + 1)), .int (iZ fu), .int (iZ st), .int (iZ so), .int (iZ va), .int (iZ ed), .ref 61, .ref 62, .ref 63, .ref 64, .int (iZ cm), .int (iZ a), .int (iZ x), .int (iZ p), .int (iZ dn), .int (iZ tk), .int (iZ ie), .ref 65, .ref 66, .ref 67, .int (iZ en), .ref 68, .ref 69, .ref 70]) 82 dX9_pass_79 fpX9_88_X9 F0 (nle rfl) (vI _) rfl rfl (fun h14 s15 f16 => ?_)
            refine g_goto 2 dX9_pass_82 rfl ?_
            refine Go.fgt 2 ?_
            have f17 := (s15.get (by decide) F1)
            exact ih _ (by omega) _ (pa + 1) (1) rfl (by omega) f16 f17 (Or.inr rfl) (by omega) (Or.inl ⟨rfl, by first | exact (gap_10 (tn := ee) (tf := (fun j => hb tx (bs + j))) (r := 0) (i := pa) (by omega) (by show hb tx (bs + pa) = 10; omega)).symm.trans (psI_1 hM (by omega)) | exact (gap_on (tn := ee) (tf := (fun j => hb tx (bs + j))) (r := 0) (i := pa) (by omega) (by show hb tx (bs + pa) ≠ 10; omega) (by show hb tx (bs + pa) ≠ 35; omega) (fun z9 => by have z8 : hb tx (bs + pa) ≠ 32 := z9.2; omega)).symm.trans (psI_1 hM (by omega))⟩) (fun hQ xQ0 yQ0 pQ0 sQ uQ0 => k hQ xQ0 yQ0 pQ0 (((Sm.refl [50] _).tr s15 (fun _ q => q) (by simp)).tr sQ (fun _ q => q) (fun _ q => q)) uQ0)
      · obtain rfl : mo = 1 := by omega
        have hg1 := psI_1 hM rfl
        have c35 : hb tx (bs + pa) = 35 := by omega
        refine f_passL (z2) (by omega) (by omega) (by omega) (by omega) (by omega) (by omega) (by omega) (by omega) (by omega) (by omega) (by omega) (by omega) (by omega) (by omega) (by omega) (by omega) (by omega) _ _ (pa) rfl (by omega) (((gap_35 (tn := ee) (tf := (fun j => hb tx (bs + j))) (r := 1) (i := pa) (by omega) c35).trans (gap_35 (tn := ee) (tf := (fun j => hb tx (bs + j))) (r := 0) (i := pa) (by omega) c35).symm).trans hg1) F0 F1 (fun h19 z18 p22 p23 p24 s20 f21 => ?_)
        refine g_goto 2 dX9_pass_82 rfl ?_
        refine Go.fgt 2 ?_
        have f25 := (s20.get (by decide) F1)
        exact ih _ (by omega) _ (z18) (1) rfl (by omega) f21 f25 (Or.inr rfl) (by omega) (Or.inl ⟨rfl, p23⟩) (fun hQ xQ0 yQ0 pQ0 sQ uQ0 => k hQ xQ0 yQ0 pQ0 (((Sm.refl [50] _).tr s20 (fun _ q => q) (by simp)).tr sQ (fun _ q => q) (fun _ q => q)) uQ0)
set_option maxRecDepth 100000 in
theorem f_pass {l : Launch} {h : MH} {Q : Option Value → MH → Prop} {tr : Int64} {mn kt bs ee pa fu st so va ed cm a x p dn tk ie en : Int} {tx : Nat → Int32} {RES : Int} (F0 : h[50]? = some (.inr (8, [.long (tr), .ref 51, .int (iZ mn), .ref 52, .ref 53, .int (iZ kt), .ref 54, .ref 55, .ref 56, .ref 57, .ref 58, .ref 59, .ref 60, .int (iZ bs), .int (iZ ee), .int (iZ pa), .int (iZ fu), .int (iZ st), .int (iZ so), .int (iZ va), .int (iZ ed), .ref 61, .ref 62, .ref 63, .ref 64, .int (iZ cm), .int (iZ a), .int (iZ x), .int (iZ p), .int (iZ dn), .int (iZ tk), .int (iZ ie), .ref 65, .ref 66, .ref 67, .int (iZ en), .ref 68, .ref 69, .ref 70]))) (F1 : h[52]? = some (.inl (1, 1600, .inl tx))) (rmn : (0 ≤ mn ∧ mn ≤ 200)) (rkt : (0 ≤ kt ∧ kt ≤ 12)) (rbs : (0 ≤ bs ∧ bs ≤ 1400)) (ree : (0 ≤ ee ∧ ee ≤ 200)) (rpa : (0 ≤ pa ∧ pa ≤ 200)) (rfu : (-9 ≤ fu ∧ fu ≤ 200)) (rst : (0 ≤ st ∧ st ≤ 200)) (rso : (0 ≤ so ∧ so ≤ 5)) (rva : (-100 ≤ va ∧ va ≤ 3000)) (red : (0 ≤ ed ∧ ed ≤ 200)) (rcm : (0 ≤ cm ∧ cm ≤ 256)) (ra : (0 ≤ a ∧ a ≤ 255)) (rx : (0 ≤ x ∧ x ≤ 255)) (rp : (0 ≤ p ∧ p ≤ 255)) (rdn : (0 ≤ dn ∧ dn ≤ 5000)) (rtk : (0 ≤ tk ∧ tk ≤ 200)) (rie : (0 ≤ ie ∧ ie ≤ 1)) (ren : (0 ≤ en ∧ en ≤ 12)) (hpe : pa ≤ ee) (hG : gapE ee (fun j => hb tx (bs + j)) 0 pa = RES) (k : ∀ (h1 : MH) (pa_1 : Int), (0 ≤ pa_1 ∧ pa_1 ≤ 200) → (pa_1 = RES) → Sm [50] h h1 → h1[50]? = some (.inr (8, [.long (tr), .ref 51, .int (iZ mn), .ref 52, .ref 53, .int (iZ kt), .ref 54, .ref 55, .ref 56, .ref 57, .ref 58, .ref 59, .ref 60, .int (iZ bs), .int (iZ ee), .int (iZ pa_1), .int (iZ fu), .int (iZ st), .int (iZ so), .int (iZ va), .int (iZ ed), .ref 61, .ref 62, .ref 63, .ref 64, .int (iZ cm), .int (iZ a), .int (iZ x), .int (iZ p), .int (iZ dn), .int (iZ tk), .int (iZ ie), .ref 65, .ref 66, .ref 67, .int (iZ en), .ref 68, .ref 69, .ref 70])) → Q none h1) : Go l mX9_pass 0 [some (.ref 50), none, none] [] h Q := by
  refine g_iconst (v := iZ (1)) 1 dX9_pass_0 rfl rfl ?_
  refine g_istore_n (L1 := [some (.ref 50), some (.int (iZ 1)), none]) 2 dX9_pass_1 (by decide) rfl rfl rfl ?_
  exact f_pass_l rmn rkt rbs ree rfu rst rso rva red rcm ra rx rp rdn rtk rie ren _ _ (pa) (1) rfl (by omega) F0 F1 (Or.inr rfl) hpe (Or.inl ⟨rfl, hG⟩) k

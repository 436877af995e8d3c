set_option maxRecDepth 100000 in
theorem w_take {l : Launch} {h : MH} {Q : Option Value → MH → Prop} {m : Nat} {a x p en dn tk hm i : Int} (F0 : h[m]? = some (.inr (2, [.ref (m + 1), .ref (m + 2), .int (iZ a), .int (iZ x), .int (iZ p), .int (iZ en), .int (iZ dn), .int (iZ tk), .int (iZ hm)]))) (ra : rg a) (rx : rg x) (rp : rg p) (ren : (en = 0 ∨ en = 1)) (rdn : rg dn) (rtk : rg tk) (rhm : rg hm) (ri : rg i) (k : ∀ (h1 : MH) (a_1 x_1 p_1 en_1 dn_1 tk_1 hm_1 : Int), rg a_1 → rg x_1 → rg p_1 → (en_1 = 0 ∨ en_1 = 1) → rg dn_1 → rg tk_1 → rg hm_1 → Sm [m] h h1 → h1[m]? = some (.inr (2, [.ref (m + 1), .ref (m + 2), .int (iZ a_1), .int (iZ x_1), .int (iZ p_1), .int (iZ en_1), .int (iZ dn_1), .int (iZ tk_1), .int (iZ hm_1)])) → Q none h1) : Go l mX2_take 0 [some (.ref m), some (.int (iZ i))] [] h Q := by
  refine g_iload_n 1 dX2_take_0 rfl rfl ?_
  refine g_iconst (v := iZ (-1)) 2 dX2_take_1 rfl rfl ?_
  refine g_icZ_ne 18 5 dX2_take_2 rfl rfl ri (by decide) (fun c1 => ?_) (fun c1 => ?_)
  · refine g_aload_n 19 dX2_take_18 rfl rfl ?_
    refine g_iload_n 20 dX2_take_19 rfl rfl ?_
    refine g_putC (fs1 := [.ref (m + 1), .ref (m + 2), .int (iZ i), .int (iZ x), .int (iZ p), .int (iZ en), .int (iZ dn), .int (iZ tk), .int (iZ hm)]) 23 dX2_take_20 fpX2_24_X2 F0 (nle rfl) (vI _) rfl rfl (fun h2 s3 f4 => ?_)
    refine g_aload_n 24 dX2_take_23 rfl rfl ?_
    refine g_dup 25 dX2_take_24 rfl rfl ?_
    refine g_get 28 dX2_take_25 faX2_41_X2 f4 rfl rfl ?_
    refine g_iconst (v := iZ (1)) 29 dX2_take_28 rfl rfl ?_
    refine g_iadd 30 dX2_take_29 rfl ?_
    refine Go.genZ (fun z5 rz5 => ?_)
    refine g_putC (fs1 := [.ref (m + 1), .ref (m + 2), .int (iZ i), .int (iZ x), .int (iZ p), .int (iZ en), .int (iZ dn), .int (iZ z5), .int (iZ hm)]) 33 dX2_take_30 fpX2_41_X2 f4 (nle rfl) (vI _) rfl rfl (fun h6 s7 f8 => ?_)
    refine g_vret rfl dX2_take_33 ?_
    exact k _ (i) (x) (p) (en) (dn) (z5) (hm) ri rx rp ren rdn rz5 rhm (((Sm.refl [m] _).tr s3 (fun _ q => q) (by simp)).tr s7 (fun _ q => q) (by simp)) f8
  · refine g_aload_n 6 dX2_take_5 rfl rfl ?_
    refine g_iconst (v := iZ (0)) 7 dX2_take_6 rfl rfl ?_
    refine g_putC (fs1 := [.ref (m + 1), .ref (m + 2), .int (iZ 0), .int (iZ x), .int (iZ p), .int (iZ en), .int (iZ dn), .int (iZ tk), .int (iZ hm)]) 10 dX2_take_7 fpX2_24_X2 F0 (nle rfl) (vI _) rfl rfl (fun h9 s10 f11 => ?_)
    refine g_aload_n 11 dX2_take_10 rfl rfl ?_
    refine g_iconst (v := iZ (1)) 12 dX2_take_11 rfl rfl ?_
    refine g_putC (fs1 := [.ref (m + 1), .ref (m + 2), .int (iZ 0), .int (iZ x), .int (iZ p), .int (iZ 1), .int (iZ dn), .int (iZ tk), .int (iZ hm)]) 15 dX2_take_12 fpX2_34_X2 f11 (nle rfl) vZ1 rfl rfl (fun h12 s13 f14 => ?_)
    refine g_goto 33 dX2_take_15 rfl ?_
    refine g_vret rfl dX2_take_33 ?_
    exact k _ (0) (x) (p) (1) (dn) (tk) (hm) (by decide) rx rp (Or.inr rfl) rdn rtk rhm (((Sm.refl [m] _).tr s10 (fun _ q => q) (by simp)).tr s13 (fun _ q => q) (by simp)) f14
set_option maxRecDepth 100000 in
theorem w_hasn {l : Launch} {h : MH} {Q : Option Value → MH → Prop} {i : Int} (ri : rg i) (k : ∀ (r : Int), (r = 0 ∨ r = 1) → Q (some (.int (iZ r))) h) : Go l mX2_hasNumber 0 [some (.int (iZ i))] [] h Q := by
  refine g_iload_n 1 dX2_hasNumber_0 rfl rfl ?_
  refine g_iconst (v := iZ (3)) 2 dX2_hasNumber_1 rfl rfl ?_
  refine g_icZ_lt 11 5 dX2_hasNumber_2 rfl rfl ri (by decide) (fun c1 => ?_) (fun c1 => ?_)
  · refine g_iload_n 12 dX2_hasNumber_11 rfl rfl ?_
    refine g_bipush (v := iZ (11)) 14 dX2_hasNumber_12 (by decide +kernel) rfl ?_
    refine g_icZ_lt 27 17 dX2_hasNumber_14 rfl rfl ri (by decide) (fun _ => ?_) (fun q => absurd q (by omega))
    refine g_iconst (v := iZ (0)) 28 dX2_hasNumber_27 rfl rfl ?_
    refine g_zret rfl z01_0 dX2_hasNumber_28 ?_
    exact k (0) (Or.inl rfl)
  · refine g_iload_n 6 dX2_hasNumber_5 rfl rfl ?_
    refine g_bipush (v := iZ (7)) 8 dX2_hasNumber_6 (by decide +kernel) rfl ?_
    refine g_icZ_le 23 11 dX2_hasNumber_8 rfl rfl ri (by decide) (fun c2 => ?_) (fun c2 => ?_)
    · refine g_iconst (v := iZ (1)) 24 dX2_hasNumber_23 rfl rfl ?_
      refine g_goto 28 dX2_hasNumber_24 rfl ?_
      refine g_zret rfl z01_1 dX2_hasNumber_28 ?_
      exact k (1) (Or.inr rfl)
    · refine g_iload_n 12 dX2_hasNumber_11 rfl rfl ?_
      refine g_bipush (v := iZ (11)) 14 dX2_hasNumber_12 (by decide +kernel) rfl ?_
      refine g_icZ_lt 27 17 dX2_hasNumber_14 rfl rfl ri (by decide) (fun c3 => ?_) (fun c3 => ?_)
      · refine g_iconst (v := iZ (0)) 28 dX2_hasNumber_27 rfl rfl ?_
        refine g_zret rfl z01_0 dX2_hasNumber_28 ?_
        exact k (0) (Or.inl rfl)
      · refine g_iload_n 18 dX2_hasNumber_17 rfl rfl ?_
        refine g_bipush (v := iZ (15)) 20 dX2_hasNumber_18 (by decide +kernel) rfl ?_
        refine g_icZ_gt 27 23 dX2_hasNumber_20 rfl rfl ri (by decide) (fun c4 => ?_) (fun c4 => ?_)
        · refine g_iconst (v := iZ (0)) 28 dX2_hasNumber_27 rfl rfl ?_
          refine g_zret rfl z01_0 dX2_hasNumber_28 ?_
          exact k (0) (Or.inl rfl)
        · refine g_iconst (v := iZ (1)) 24 dX2_hasNumber_23 rfl rfl ?_
          refine g_goto 28 dX2_hasNumber_24 rfl ?_
          refine g_zret rfl z01_1 dX2_hasNumber_28 ?_
          exact k (1) (Or.inr rfl)
set_option maxRecDepth 100000 in
theorem w_harm {l : Launch} {h : MH} {Q : Option Value → MH → Prop} {m : Nat} {a x p en dn tk hm on i : Int} (F0 : h[m]? = some (.inr (2, [.ref (m + 1), .ref (m + 2), .int (iZ a), .int (iZ x), .int (iZ p), .int (iZ en), .int (iZ dn), .int (iZ tk), .int (iZ hm)]))) (F1 : h[m + 2]? = some (.inr (0, [.int (iZ 256), .ref (m + 3), .ref (m + 4), .int (iZ on)]))) (ra : rg a) (rx : rg x) (rp : rg p) (ren : (en = 0 ∨ en = 1)) (rdn : rg dn) (rtk : rg tk) (rhm : rg hm) (ron : rg on) (ri : rg i) (k : ∀ (r : Int), rg r → Q (some (.int (iZ r))) h) : Go l mX2_harmOf 0 [some (.ref m), some (.int (iZ i))] [] h Q := by
  refine g_iload_n 1 dX2_harmOf_0 rfl rfl ?_
  refine g_bipush (v := iZ (15)) 3 dX2_harmOf_1 (by decide +kernel) rfl ?_
  refine g_icZ_le 8 6 dX2_harmOf_3 rfl rfl ri (by decide) (fun c1 => ?_) (fun c1 => ?_)
  · refine g_aload_n 9 dX2_harmOf_8 rfl rfl ?_
    refine g_get 12 dX2_harmOf_9 faX2_38_X2 F0 rfl rfl ?_
    refine g_sipush (v := iZ (5000)) 15 dX2_harmOf_12 (by decide +kernel) rfl ?_
    refine g_icZ_lt 20 18 dX2_harmOf_15 rfl rfl rdn (by decide) (fun c2 => ?_) (fun c2 => ?_)
    · refine g_iload_n 21 dX2_harmOf_20 rfl rfl ?_
      refine g_iconst (v := iZ (2)) 22 dX2_harmOf_21 rfl rfl ?_
      refine g_icZ_ne 42 25 dX2_harmOf_22 rfl rfl ri (by decide) (fun c3 => ?_) (fun c3 => ?_)
      · refine g_iconst (v := iZ (0)) 43 dX2_harmOf_42 rfl rfl ?_
        refine g_iret rfl dX2_harmOf_43 ?_
        exact k (0) (by decide)
      · refine g_aload_n 26 dX2_harmOf_25 rfl rfl ?_
        refine g_get 29 dX2_harmOf_26 faX2_20_X2 F0 rfl rfl ?_
        refine g_get 32 dX2_harmOf_29 faX2_51_X0 F1 rfl rfl ?_
        refine g_sipush (v := iZ (256)) 35 dX2_harmOf_32 (by decide +kernel) rfl ?_
        refine g_icZ_lt 42 38 dX2_harmOf_35 rfl rfl ron (by decide) (fun c4 => ?_) (fun c4 => ?_)
        · refine g_iconst (v := iZ (0)) 43 dX2_harmOf_42 rfl rfl ?_
          refine g_iret rfl dX2_harmOf_43 ?_
          exact k (0) (by decide)
        · refine g_iconst (v := iZ (2)) 39 dX2_harmOf_38 rfl rfl ?_
          refine g_goto 43 dX2_harmOf_39 rfl ?_
          refine g_iret rfl dX2_harmOf_43 ?_
          exact k (2) (by decide)
    · refine g_iconst (v := iZ (3)) 19 dX2_harmOf_18 rfl rfl ?_
      refine g_iret rfl dX2_harmOf_19 ?_
      exact k (3) (by decide)
  · refine g_iconst (v := iZ (1)) 7 dX2_harmOf_6 rfl rfl ?_
    refine g_iret rfl dX2_harmOf_7 ?_
    exact k (1) (by decide)
set_option maxRecDepth 100000 in
theorem w_obey {l : Launch} {h : MH} {Q : Option Value → MH → Prop} {m : Nat} {a x p en dn tk hm on tn i : Int} {t : Nat} {tf mm of og : Nat → Int} (F0 : h[m]? = some (.inr (2, [.ref (m + 1), .ref (m + 2), .int (iZ a), .int (iZ x), .int (iZ p), .int (iZ en), .int (iZ dn), .int (iZ tk), .int (iZ hm)]))) (F1 : h[m + 1]? = some (.inl (0, 256, .inl (zA mm)))) (F2 : h[m + 2]? = some (.inr (0, [.int (iZ 256), .ref (m + 3), .ref (m + 4), .int (iZ on)]))) (F3 : h[m + 3]? = some (.inl (0, 256, .inl (zA of)))) (F4 : h[m + 4]? = some (.inl (0, 256, .inl (zA og)))) (F5 : h[t]? = some (.inr (5, [.ref (t + 1), .int (iZ tn)]))) (F6 : h[t + 1]? = some (.inl (0, 200, .inl (zA tf)))) (omm : okr mm) (oof : okr of) (oog : okr og) (otf : okr tf) (ra : rg a) (rx : rg x) (rp : rg p) (ren : (en = 0 ∨ en = 1)) (rdn : rg dn) (rtk : rg tk) (rhm : rg hm) (ron : rg on) (rtn : rg tn) (ri : rg i) (ht : m + 4 < t) (k : ∀ (h1 : MH) (a_1 x_1 p_1 en_1 dn_1 tk_1 hm_1 on_1 : Int) (mm_1 of_1 og_1 : Nat → Int), rg a_1 → rg x_1 → rg p_1 → (en_1 = 0 ∨ en_1 = 1) → rg dn_1 → rg tk_1 → rg hm_1 → rg on_1 → okr mm_1 → okr of_1 → okr og_1 → Sm [m, m + 1, m + 2, m + 3, m + 4] h h1 → h1[m]? = some (.inr (2, [.ref (m + 1), .ref (m + 2), .int (iZ a_1), .int (iZ x_1), .int (iZ p_1), .int (iZ en_1), .int (iZ dn_1), .int (iZ tk_1), .int (iZ hm_1)])) → h1[m + 1]? = some (.inl (0, 256, .inl (zA mm_1))) → h1[m + 2]? = some (.inr (0, [.int (iZ 256), .ref (m + 3), .ref (m + 4), .int (iZ on_1)])) → h1[m + 3]? = some (.inl (0, 256, .inl (zA of_1))) → h1[m + 4]? = some (.inl (0, 256, .inl (zA og_1))) → Q none h1) : Go l mX2_obey 0 [some (.ref m), some (.int (iZ i)), some (.ref t), none, none] [] h Q := by
  refine g_aload_n 1 dX2_obey_0 rfl rfl ?_
  refine g_get 4 dX2_obey_1 faX2_9_X2 F0 rfl rfl ?_
  refine g_aload_n 5 dX2_obey_4 rfl rfl ?_
  refine g_get 8 dX2_obey_5 faX2_31_X2 F0 rfl rfl ?_
  refine g_iconst (v := iZ (1)) 9 dX2_obey_8 rfl rfl ?_
  refine g_iadd 10 dX2_obey_9 rfl ?_
  refine Go.genZ (fun z1 rz1 => ?_)
  refine g_sipush (v := iZ (255)) 13 dX2_obey_10 (by decide +kernel) rfl ?_
  refine g_and255Z (z1 % 256) 14 dX2_obey_13 rfl rfl ?_
  obtain ⟨z2, ez2, lz2, uz2⟩ : ∃ z : Int, z1 % 256 = z ∧ 0 ≤ z ∧ z < 256 := ⟨_, rfl, by omega, by omega⟩
  rw [ez2]
  refine g_ialdW 15 dX2_obey_14 F1 omm (by omega) (by omega) (by decide) rfl (fun v3 rv3 => ?_)
  refine g_sipush (v := iZ (255)) 18 dX2_obey_15 (by decide +kernel) rfl ?_
  refine g_and255Z (v3 % 256) 19 dX2_obey_18 rfl rfl ?_
  obtain ⟨z4, ez4, lz4, uz4⟩ : ∃ z : Int, v3 % 256 = z ∧ 0 ≤ z ∧ z < 256 := ⟨_, rfl, by omega, by omega⟩
  rw [ez4]
  refine g_istore_n (L1 := [some (.ref m), some (.int (iZ i)), some (.ref t), some (.int (iZ z4)), none]) 20 dX2_obey_19 (by decide) rfl rfl rfl ?_
  refine g_aload_n 21 dX2_obey_20 rfl rfl ?_
  refine g_get 24 dX2_obey_21 faX2_31_X2 F0 rfl rfl ?_
  refine g_iload_n 25 dX2_obey_24 rfl rfl ?_
  refine g_callS (z := mX2_hasNumber) (As := [.int (iZ i)]) 28 dX2_obey_25 mwX2_hasNumber ⟨by decide, by decide⟩ rfl wlX2_69 wtX2_hasNumber rfl (nle rfl) (nle rfl) rfl ?_
  refine w_hasn  ri (fun z5 rz5 => ?_)
  refine rI ?_
  refine g_ifZ_eq 35 31 dX2_obey_28 rfl rfl (rg01 rz5) (fun c6 => ?_) (fun c6 => ?_)
  · refine g_iconst (v := iZ (1)) 36 dX2_obey_35 rfl rfl ?_
    refine g_iadd 37 dX2_obey_36 rfl ?_
    refine Go.genZ (fun z7 rz7 => ?_)
    refine g_istore (L1 := [some (.ref m), some (.int (iZ i)), some (.ref t), some (.int (iZ z4)), some (.int (iZ z7))]) 39 dX2_obey_37 (by decide) rfl rfl rfl ?_
    refine g_iload_n 40 dX2_obey_39 rfl rfl ?_
    by_cases c8 : i < 1 ∨ 15 < i
    · refine g_tabZO 365 dX2_obey_40 ri c8 rfl ?_
      refine g_aload_n 366 dX2_obey_365 rfl rfl ?_
      refine g_iload 368 dX2_obey_366 rfl rfl ?_
      refine g_sipush (v := iZ (255)) 371 dX2_obey_368 (by decide +kernel) rfl ?_
      refine g_and255Z (z7 % 256) 372 dX2_obey_371 rfl rfl ?_
      obtain ⟨z9, ez9, lz9, uz9⟩ : ∃ z : Int, z7 % 256 = z ∧ 0 ≤ z ∧ z < 256 := ⟨_, rfl, by omega, by omega⟩
      rw [ez9]
      refine g_putC (fs1 := [.ref (m + 1), .ref (m + 2), .int (iZ a), .int (iZ x), .int (iZ z9), .int (iZ en), .int (iZ dn), .int (iZ tk), .int (iZ hm)]) 375 dX2_obey_372 fpX2_31_X2 F0 (nle rfl) (vI _) rfl rfl (fun h10 s11 f12 => ?_)
      refine g_vret rfl dX2_obey_375 ?_
      have f13 := (s11.get (by simp <;> omega) F1)
      have f14 := (s11.get (by simp <;> omega) F2)
      have f15 := (s11.get (by simp <;> omega) F3)
      have f16 := (s11.get (by simp <;> omega) F4)
      exact k _ (a) (x) (z9) (en) (dn) (tk) (hm) (on) (mm) (of) (og) ra rx (by omega) ren rdn rtk rhm ron omm oof oog ((Sm.refl [m, m + 1, m + 2, m + 3, m + 4] _).tr s11 (fun _ q => q) (by simp)) f12 f13 f14 f15 f16
    · have c17 : i = 1 ∨ i = 2 ∨ i = 3 ∨ i = 4 ∨ i = 5 ∨ i = 6 ∨ i = 7 ∨ i = 8 ∨ i = 9 ∨ i = 10 ∨ i = 11 ∨ i = 12 ∨ i = 13 ∨ i = 14 ∨ i = 15 := by omega
      rcases c17 with c17 | c17 | c17 | c17 | c17 | c17 | c17 | c17 | c17 | c17 | c17 | c17 | c17 | c17 | c17
      · refine g_tabZI (1) 116 dX2_obey_40 ri c17 (by decide) (by decide) rfl rfl ?_
        refine g_aload_n 117 dX2_obey_116 rfl rfl ?_
        refine g_aload_n 118 dX2_obey_117 rfl rfl ?_
        refine g_aload_n 119 dX2_obey_118 rfl rfl ?_
        refine g_get 122 dX2_obey_119 faX2_41_X2 F0 rfl rfl ?_
        refine g_callV (z := mX6_at) (As := [.int (iZ tk)]) 125 dX2_obey_122 mwX6_at ⟨by decide, by decide⟩ rfl wlX2_73 wiX6_at wsX6_at F5 rfl rfl rfl (nle rfl) (nle rfl) rfl ?_
        refine w_tat  F5 F6 otf rtn rtk (fun z18 rz18 => ?_)
        refine rI ?_
        refine g_callV (z := mX2_take) (As := [.int (iZ z18)]) 128 dX2_obey_125 mwX2_take ⟨by decide, by decide⟩ rfl wlX2_76 wiX2_take wsX2_take F0 rfl rfl rfl (nle rfl) (nle rfl) rfl ?_
        refine w_take  F0 ra rx rp ren rdn rtk rhm rz18 (fun h19 z21 z22 z23 z24 z25 z26 z27 rz21 rz22 rz23 rz24 rz25 rz26 rz27 s20 f28 => ?_)
        refine rV ?_
        refine g_goto 365 dX2_obey_128 rfl ?_
        refine g_aload_n 366 dX2_obey_365 rfl rfl ?_
        refine g_iload 368 dX2_obey_366 rfl rfl ?_
        refine g_sipush (v := iZ (255)) 371 dX2_obey_368 (by decide +kernel) rfl ?_
        refine g_and255Z (z7 % 256) 372 dX2_obey_371 rfl rfl ?_
        obtain ⟨z29, ez29, lz29, uz29⟩ : ∃ z : Int, z7 % 256 = z ∧ 0 ≤ z ∧ z < 256 := ⟨_, rfl, by omega, by omega⟩
        rw [ez29]
        refine g_putC (fs1 := [.ref (m + 1), .ref (m + 2), .int (iZ z21), .int (iZ z22), .int (iZ z29), .int (iZ z24), .int (iZ z25), .int (iZ z26), .int (iZ z27)]) 375 dX2_obey_372 fpX2_31_X2 f28 (nle rfl) (vI _) rfl rfl (fun h30 s31 f32 => ?_)
        refine g_vret rfl dX2_obey_375 ?_
        have f33 := (s31.get (by simp <;> omega) (s20.get (by simp <;> omega) F1))
        have f34 := (s31.get (by simp <;> omega) (s20.get (by simp <;> omega) F2))
        have f35 := (s31.get (by simp <;> omega) (s20.get (by simp <;> omega) F3))
        have f36 := (s31.get (by simp <;> omega) (s20.get (by simp <;> omega) F4))
        exact k _ (z21) (z22) (z29) (z24) (z25) (z26) (z27) (on) (mm) (of) (og) rz21 rz22 (by omega) rz24 rz25 rz26 rz27 ron omm oof oog (((Sm.refl [m, m + 1, m + 2, m + 3, m + 4] _).tr s20 (fun _ q => q) (by simp)).tr s31 (fun _ q => q) (by simp)) f32 f33 f34 f35 f36
      · refine g_tabZI (2) 131 dX2_obey_40 ri c17 (by decide) (by decide) rfl rfl ?_
        refine g_aload_n 132 dX2_obey_131 rfl rfl ?_
        refine g_get 135 dX2_obey_132 faX2_20_X2 F0 rfl rfl ?_
        refine g_aload_n 136 dX2_obey_135 rfl rfl ?_
        refine g_get 139 dX2_obey_136 faX2_24_X2 F0 rfl rfl ?_
        refine g_iconst (v := iZ (0)) 140 dX2_obey_139 rfl rfl ?_
        refine g_aload_n 141 dX2_obey_140 rfl rfl ?_
        refine g_get 144 dX2_obey_141 faX2_41_X2 F0 rfl rfl ?_
        refine g_iconst (v := iZ (1)) 145 dX2_obey_144 rfl rfl ?_
        refine g_isub 146 dX2_obey_145 rfl ?_
        refine Go.genZ (fun z37 rz37 => ?_)
        refine g_maxT 149 dX2_obey_146 wlX2_79 wmax1 wMath wmax2 (by decide) (nle rfl) (by decide) rz37 rfl ?_
        refine Go.genZ (fun z38 rz38 => ?_)
        refine g_callV (z := mX0_add) (As := [.int (iZ a), .int (iZ z38)]) 152 dX2_obey_149 mwX0_add ⟨by decide, by decide⟩ rfl wlX2_85 wiX0_add wsX0_add F2 rfl rfl rfl (nle rfl) (nle rfl) rfl ?_
        refine w_cadd (M := 256) F2 F3 F4 oof oog ron ra rz38 (by decide) (fun h39 z41 g42 g43 z44 rz41 og42 og43 rz44 s40 f45 f46 f47 => ?_)
        refine rI ?_
        refine g_pop 153 dX2_obey_152 rfl rfl ?_
        refine g_goto 365 dX2_obey_153 rfl ?_
        refine g_aload_n 366 dX2_obey_365 rfl rfl ?_
        refine g_iload 368 dX2_obey_366 rfl rfl ?_
        refine g_sipush (v := iZ (255)) 371 dX2_obey_368 (by decide +kernel) rfl ?_
        refine g_and255Z (z7 % 256) 372 dX2_obey_371 rfl rfl ?_
        obtain ⟨z48, ez48, lz48, uz48⟩ : ∃ z : Int, z7 % 256 = z ∧ 0 ≤ z ∧ z < 256 := ⟨_, rfl, by omega, by omega⟩
        rw [ez48]
        have f49 := (s40.get (by simp <;> omega) F0)
        refine g_putC (fs1 := [.ref (m + 1), .ref (m + 2), .int (iZ a), .int (iZ x), .int (iZ z48), .int (iZ en), .int (iZ dn), .int (iZ tk), .int (iZ hm)]) 375 dX2_obey_372 fpX2_31_X2 f49 (nle rfl) (vI _) rfl rfl (fun h50 s51 f52 => ?_)
        refine g_vret rfl dX2_obey_375 ?_
        have f53 := (s51.get (by simp <;> omega) (s40.get (by simp <;> omega) F1))
        have f54 := (s51.get (by simp <;> omega) f45)
        have f55 := (s51.get (by simp <;> omega) f46)
        have f56 := (s51.get (by simp <;> omega) f47)
        exact k _ (a) (x) (z48) (en) (dn) (tk) (hm) (z41) (mm) (g42) (g43) ra rx (by omega) ren rdn rtk rhm rz41 omm og42 og43 (((Sm.refl [m, m + 1, m + 2, m + 3, m + 4] _).tr s40 (fun _ q => q) (by simp)).tr s51 (fun _ q => q) (by simp)) f52 f53 f54 f55 f56
      · refine g_tabZI (3) 156 dX2_obey_40 ri c17 (by decide) (by decide) rfl rfl ?_
        refine g_aload_n 157 dX2_obey_156 rfl rfl ?_
        refine g_iload_n 158 dX2_obey_157 rfl rfl ?_
        refine g_putC (fs1 := [.ref (m + 1), .ref (m + 2), .int (iZ z4), .int (iZ x), .int (iZ p), .int (iZ en), .int (iZ dn), .int (iZ tk), .int (iZ hm)]) 161 dX2_obey_158 fpX2_24_X2 F0 (nle rfl) (vI _) rfl rfl (fun h57 s58 f59 => ?_)
        refine g_goto 365 dX2_obey_161 rfl ?_
        refine g_aload_n 366 dX2_obey_365 rfl rfl ?_
        refine g_iload 368 dX2_obey_366 rfl rfl ?_
        refine g_sipush (v := iZ (255)) 371 dX2_obey_368 (by decide +kernel) rfl ?_
        refine g_and255Z (z7 % 256) 372 dX2_obey_371 rfl rfl ?_
        obtain ⟨z60, ez60, lz60, uz60⟩ : ∃ z : Int, z7 % 256 = z ∧ 0 ≤ z ∧ z < 256 := ⟨_, rfl, by omega, by omega⟩
        rw [ez60]
        refine g_putC (fs1 := [.ref (m + 1), .ref (m + 2), .int (iZ z4), .int (iZ x), .int (iZ z60), .int (iZ en), .int (iZ dn), .int (iZ tk), .int (iZ hm)]) 375 dX2_obey_372 fpX2_31_X2 f59 (nle rfl) (vI _) rfl rfl (fun h61 s62 f63 => ?_)
        refine g_vret rfl dX2_obey_375 ?_
        have f64 := (s62.get (by simp <;> omega) (s58.get (by simp <;> omega) F1))
        have f65 := (s62.get (by simp <;> omega) (s58.get (by simp <;> omega) F2))
        have f66 := (s62.get (by simp <;> omega) (s58.get (by simp <;> omega) F3))
        have f67 := (s62.get (by simp <;> omega) (s58.get (by simp <;> omega) F4))
        exact k _ (z4) (x) (z60) (en) (dn) (tk) (hm) (on) (mm) (of) (og) (by omega) rx (by omega) ren rdn rtk rhm ron omm oof oog (((Sm.refl [m, m + 1, m + 2, m + 3, m + 4] _).tr s58 (fun _ q => q) (by simp)).tr s62 (fun _ q => q) (by simp)) f63 f64 f65 f66 f67
      · refine g_tabZI (4) 164 dX2_obey_40 ri c17 (by decide) (by decide) rfl rfl ?_
        refine g_aload_n 165 dX2_obey_164 rfl rfl ?_
        refine g_aload_n 166 dX2_obey_165 rfl rfl ?_
        refine g_get 169 dX2_obey_166 faX2_9_X2 F0 rfl rfl ?_
        refine g_iload_n 170 dX2_obey_169 rfl rfl ?_
        refine g_ialdW 171 dX2_obey_170 F1 omm (by omega) (by omega) (by decide) rfl (fun v68 rv68 => ?_)
        refine g_putC (fs1 := [.ref (m + 1), .ref (m + 2), .int (iZ v68), .int (iZ x), .int (iZ p), .int (iZ en), .int (iZ dn), .int (iZ tk), .int (iZ hm)]) 174 dX2_obey_171 fpX2_24_X2 F0 (nle rfl) (vI _) rfl rfl (fun h69 s70 f71 => ?_)
        refine g_goto 365 dX2_obey_174 rfl ?_
        refine g_aload_n 366 dX2_obey_365 rfl rfl ?_
        refine g_iload 368 dX2_obey_366 rfl rfl ?_
        refine g_sipush (v := iZ (255)) 371 dX2_obey_368 (by decide +kernel) rfl ?_
        refine g_and255Z (z7 % 256) 372 dX2_obey_371 rfl rfl ?_
        obtain ⟨z72, ez72, lz72, uz72⟩ : ∃ z : Int, z7 % 256 = z ∧ 0 ≤ z ∧ z < 256 := ⟨_, rfl, by omega, by omega⟩
        rw [ez72]
        refine g_putC (fs1 := [.ref (m + 1), .ref (m + 2), .int (iZ v68), .int (iZ x), .int (iZ z72), .int (iZ en), .int (iZ dn), .int (iZ tk), .int (iZ hm)]) 375 dX2_obey_372 fpX2_31_X2 f71 (nle rfl) (vI _) rfl rfl (fun h73 s74 f75 => ?_)
        refine g_vret rfl dX2_obey_375 ?_
        have f76 := (s74.get (by simp <;> omega) (s70.get (by simp <;> omega) F1))
        have f77 := (s74.get (by simp <;> omega) (s70.get (by simp <;> omega) F2))
        have f78 := (s74.get (by simp <;> omega) (s70.get (by simp <;> omega) F3))
        have f79 := (s74.get (by simp <;> omega) (s70.get (by simp <;> omega) F4))
        exact k _ (v68) (x) (z72) (en) (dn) (tk) (hm) (on) (mm) (of) (og) rv68 rx (by omega) ren rdn rtk rhm ron omm oof oog (((Sm.refl [m, m + 1, m + 2, m + 3, m + 4] _).tr s70 (fun _ q => q) (by simp)).tr s74 (fun _ q => q) (by simp)) f75 f76 f77 f78 f79
      · refine g_tabZI (5) 177 dX2_obey_40 ri c17 (by decide) (by decide) rfl rfl ?_
        refine g_aload_n 178 dX2_obey_177 rfl rfl ?_
        refine g_get 181 dX2_obey_178 faX2_9_X2 F0 rfl rfl ?_
        refine g_iload_n 182 dX2_obey_181 rfl rfl ?_
        refine g_aload_n 183 dX2_obey_182 rfl rfl ?_
        refine g_get 186 dX2_obey_183 faX2_24_X2 F0 rfl rfl ?_
        refine g_iastW 187 dX2_obey_186 F1 omm ra (by omega) (by omega) (by decide) rfl (fun h81 g80 og80 s82 f83 => ?_)
        refine g_goto 365 dX2_obey_187 rfl ?_
        refine g_aload_n 366 dX2_obey_365 rfl rfl ?_
        refine g_iload 368 dX2_obey_366 rfl rfl ?_
        refine g_sipush (v := iZ (255)) 371 dX2_obey_368 (by decide +kernel) rfl ?_
        refine g_and255Z (z7 % 256) 372 dX2_obey_371 rfl rfl ?_
        obtain ⟨z84, ez84, lz84, uz84⟩ : ∃ z : Int, z7 % 256 = z ∧ 0 ≤ z ∧ z < 256 := ⟨_, rfl, by omega, by omega⟩
        rw [ez84]
        have f85 := (s82.get (by simp <;> omega) F0)
        refine g_putC (fs1 := [.ref (m + 1), .ref (m + 2), .int (iZ a), .int (iZ x), .int (iZ z84), .int (iZ en), .int (iZ dn), .int (iZ tk), .int (iZ hm)]) 375 dX2_obey_372 fpX2_31_X2 f85 (nle rfl) (vI _) rfl rfl (fun h86 s87 f88 => ?_)
        refine g_vret rfl dX2_obey_375 ?_
        have f89 := (s87.get (by simp <;> omega) f83)
        have f90 := (s87.get (by simp <;> omega) (s82.get (by simp <;> omega) F2))
        have f91 := (s87.get (by simp <;> omega) (s82.get (by simp <;> omega) F3))
        have f92 := (s87.get (by simp <;> omega) (s82.get (by simp <;> omega) F4))
        exact k _ (a) (x) (z84) (en) (dn) (tk) (hm) (on) (g80) (of) (og) ra rx (by omega) ren rdn rtk rhm ron og80 oof oog (((Sm.refl [m, m + 1, m + 2, m + 3, m + 4] _).tr s82 (fun _ q => q) (by simp)).tr s87 (fun _ q => q) (by simp)) f88 f89 f90 f91 f92
      · refine g_tabZI (6) 190 dX2_obey_40 ri c17 (by decide) (by decide) rfl rfl ?_
        refine g_aload_n 191 dX2_obey_190 rfl rfl ?_
        refine g_aload_n 192 dX2_obey_191 rfl rfl ?_
        refine g_get 195 dX2_obey_192 faX2_24_X2 F0 rfl rfl ?_
        refine g_aload_n 196 dX2_obey_195 rfl rfl ?_
        refine g_get 199 dX2_obey_196 faX2_9_X2 F0 rfl rfl ?_
        refine g_iload_n 200 dX2_obey_199 rfl rfl ?_
        refine g_ialdW 201 dX2_obey_200 F1 omm (by omega) (by omega) (by decide) rfl (fun v93 rv93 => ?_)
        refine g_iadd 202 dX2_obey_201 rfl ?_
        refine Go.genZ (fun z94 rz94 => ?_)
        refine g_sipush (v := iZ (255)) 205 dX2_obey_202 (by decide +kernel) rfl ?_
        refine g_and255Z (z94 % 256) 206 dX2_obey_205 rfl rfl ?_
        obtain ⟨z95, ez95, lz95, uz95⟩ : ∃ z : Int, z94 % 256 = z ∧ 0 ≤ z ∧ z < 256 := ⟨_, rfl, by omega, by omega⟩
        rw [ez95]
        refine g_putC (fs1 := [.ref (m + 1), .ref (m + 2), .int (iZ z95), .int (iZ x), .int (iZ p), .int (iZ en), .int (iZ dn), .int (iZ tk), .int (iZ hm)]) 209 dX2_obey_206 fpX2_24_X2 F0 (nle rfl) (vI _) rfl rfl (fun h96 s97 f98 => ?_)
        refine g_goto 365 dX2_obey_209 rfl ?_
        refine g_aload_n 366 dX2_obey_365 rfl rfl ?_
        refine g_iload 368 dX2_obey_366 rfl rfl ?_
        refine g_sipush (v := iZ (255)) 371 dX2_obey_368 (by decide +kernel) rfl ?_
        refine g_and255Z (z7 % 256) 372 dX2_obey_371 rfl rfl ?_
        obtain ⟨z99, ez99, lz99, uz99⟩ : ∃ z : Int, z7 % 256 = z ∧ 0 ≤ z ∧ z < 256 := ⟨_, rfl, by omega, by omega⟩
        rw [ez99]
        refine g_putC (fs1 := [.ref (m + 1), .ref (m + 2), .int (iZ z95), .int (iZ x), .int (iZ z99), .int (iZ en), .int (iZ dn), .int (iZ tk), .int (iZ hm)]) 375 dX2_obey_372 fpX2_31_X2 f98 (nle rfl) (vI _) rfl rfl (fun h100 s101 f102 => ?_)
        refine g_vret rfl dX2_obey_375 ?_
        have f103 := (s101.get (by simp <;> omega) (s97.get (by simp <;> omega) F1))
        have f104 := (s101.get (by simp <;> omega) (s97.get (by simp <;> omega) F2))
        have f105 := (s101.get (by simp <;> omega) (s97.get (by simp <;> omega) F3))
        have f106 := (s101.get (by simp <;> omega) (s97.get (by simp <;> omega) F4))
        exact k _ (z95) (x) (z99) (en) (dn) (tk) (hm) (on) (mm) (of) (og) (by omega) rx (by omega) ren rdn rtk rhm ron omm oof oog (((Sm.refl [m, m + 1, m + 2, m + 3, m + 4] _).tr s97 (fun _ q => q) (by simp)).tr s101 (fun _ q => q) (by simp)) f102 f103 f104 f105 f106
      · refine g_tabZI (7) 212 dX2_obey_40 ri c17 (by decide) (by decide) rfl rfl ?_
        refine g_aload_n 213 dX2_obey_212 rfl rfl ?_
        refine g_aload_n 214 dX2_obey_213 rfl rfl ?_
        refine g_get 217 dX2_obey_214 faX2_24_X2 F0 rfl rfl ?_
        refine g_aload_n 218 dX2_obey_217 rfl rfl ?_
        refine g_get 221 dX2_obey_218 faX2_9_X2 F0 rfl rfl ?_
        refine g_iload_n 222 dX2_obey_221 rfl rfl ?_
        refine g_ialdW 223 dX2_obey_222 F1 omm (by omega) (by omega) (by decide) rfl (fun v107 rv107 => ?_)
        refine g_isub 224 dX2_obey_223 rfl ?_
        refine Go.genZ (fun z108 rz108 => ?_)
        refine g_sipush (v := iZ (255)) 227 dX2_obey_224 (by decide +kernel) rfl ?_
        refine g_and255Z (z108 % 256) 228 dX2_obey_227 rfl rfl ?_
        obtain ⟨z109, ez109, lz109, uz109⟩ : ∃ z : Int, z108 % 256 = z ∧ 0 ≤ z ∧ z < 256 := ⟨_, rfl, by omega, by omega⟩
        rw [ez109]
        refine g_putC (fs1 := [.ref (m + 1), .ref (m + 2), .int (iZ z109), .int (iZ x), .int (iZ p), .int (iZ en), .int (iZ dn), .int (iZ tk), .int (iZ hm)]) 231 dX2_obey_228 fpX2_24_X2 F0 (nle rfl) (vI _) rfl rfl (fun h110 s111 f112 => ?_)
        refine g_goto 365 dX2_obey_231 rfl ?_
        refine g_aload_n 366 dX2_obey_365 rfl rfl ?_
        refine g_iload 368 dX2_obey_366 rfl rfl ?_
        refine g_sipush (v := iZ (255)) 371 dX2_obey_368 (by decide +kernel) rfl ?_
        refine g_and255Z (z7 % 256) 372 dX2_obey_371 rfl rfl ?_
        obtain ⟨z113, ez113, lz113, uz113⟩ : ∃ z : Int, z7 % 256 = z ∧ 0 ≤ z ∧ z < 256 := ⟨_, rfl, by omega, by omega⟩
        rw [ez113]
        refine g_putC (fs1 := [.ref (m + 1), .ref (m + 2), .int (iZ z109), .int (iZ x), .int (iZ z113), .int (iZ en), .int (iZ dn), .int (iZ tk), .int (iZ hm)]) 375 dX2_obey_372 fpX2_31_X2 f112 (nle rfl) (vI _) rfl rfl (fun h114 s115 f116 => ?_)
        refine g_vret rfl dX2_obey_375 ?_
        have f117 := (s115.get (by simp <;> omega) (s111.get (by simp <;> omega) F1))
        have f118 := (s115.get (by simp <;> omega) (s111.get (by simp <;> omega) F2))
        have f119 := (s115.get (by simp <;> omega) (s111.get (by simp <;> omega) F3))
        have f120 := (s115.get (by simp <;> omega) (s111.get (by simp <;> omega) F4))
        exact k _ (z109) (x) (z113) (en) (dn) (tk) (hm) (on) (mm) (of) (og) (by omega) rx (by omega) ren rdn rtk rhm ron omm oof oog (((Sm.refl [m, m + 1, m + 2, m + 3, m + 4] _).tr s111 (fun _ q => q) (by simp)).tr s115 (fun _ q => q) (by simp)) f116 f117 f118 f119 f120
      · refine g_tabZI (8) 234 dX2_obey_40 ri c17 (by decide) (by decide) rfl rfl ?_
        refine g_aload_n 235 dX2_obey_234 rfl rfl ?_
        refine g_aload_n 236 dX2_obey_235 rfl rfl ?_
        refine g_get 239 dX2_obey_236 faX2_9_X2 F0 rfl rfl ?_
        refine g_aload_n 240 dX2_obey_239 rfl rfl ?_
        refine g_get 243 dX2_obey_240 faX2_28_X2 F0 rfl rfl ?_
        refine g_sipush (v := iZ (255)) 246 dX2_obey_243 (by decide +kernel) rfl ?_
        refine g_and255Z (x % 256) 247 dX2_obey_246 rfl rfl ?_
        obtain ⟨z121, ez121, lz121, uz121⟩ : ∃ z : Int, x % 256 = z ∧ 0 ≤ z ∧ z < 256 := ⟨_, rfl, by omega, by omega⟩
        rw [ez121]
        refine g_ialdW 248 dX2_obey_247 F1 omm (by omega) (by omega) (by decide) rfl (fun v122 rv122 => ?_)
        refine g_putC (fs1 := [.ref (m + 1), .ref (m + 2), .int (iZ v122), .int (iZ x), .int (iZ p), .int (iZ en), .int (iZ dn), .int (iZ tk), .int (iZ hm)]) 251 dX2_obey_248 fpX2_24_X2 F0 (nle rfl) (vI _) rfl rfl (fun h123 s124 f125 => ?_)
        refine g_goto 365 dX2_obey_251 rfl ?_
        refine g_aload_n 366 dX2_obey_365 rfl rfl ?_
        refine g_iload 368 dX2_obey_366 rfl rfl ?_
        refine g_sipush (v := iZ (255)) 371 dX2_obey_368 (by decide +kernel) rfl ?_
        refine g_and255Z (z7 % 256) 372 dX2_obey_371 rfl rfl ?_
        obtain ⟨z126, ez126, lz126, uz126⟩ : ∃ z : Int, z7 % 256 = z ∧ 0 ≤ z ∧ z < 256 := ⟨_, rfl, by omega, by omega⟩
        rw [ez126]
        refine g_putC (fs1 := [.ref (m + 1), .ref (m + 2), .int (iZ v122), .int (iZ x), .int (iZ z126), .int (iZ en), .int (iZ dn), .int (iZ tk), .int (iZ hm)]) 375 dX2_obey_372 fpX2_31_X2 f125 (nle rfl) (vI _) rfl rfl (fun h127 s128 f129 => ?_)
        refine g_vret rfl dX2_obey_375 ?_
        have f130 := (s128.get (by simp <;> omega) (s124.get (by simp <;> omega) F1))
        have f131 := (s128.get (by simp <;> omega) (s124.get (by simp <;> omega) F2))
        have f132 := (s128.get (by simp <;> omega) (s124.get (by simp <;> omega) F3))
        have f133 := (s128.get (by simp <;> omega) (s124.get (by simp <;> omega) F4))
        exact k _ (v122) (x) (z126) (en) (dn) (tk) (hm) (on) (mm) (of) (og) rv122 rx (by omega) ren rdn rtk rhm ron omm oof oog (((Sm.refl [m, m + 1, m + 2, m + 3, m + 4] _).tr s124 (fun _ q => q) (by simp)).tr s128 (fun _ q => q) (by simp)) f129 f130 f131 f132 f133
      · refine g_tabZI (9) 254 dX2_obey_40 ri c17 (by decide) (by decide) rfl rfl ?_
        refine g_aload_n 255 dX2_obey_254 rfl rfl ?_
        refine g_get 258 dX2_obey_255 faX2_9_X2 F0 rfl rfl ?_
        refine g_aload_n 259 dX2_obey_258 rfl rfl ?_
        refine g_get 262 dX2_obey_259 faX2_28_X2 F0 rfl rfl ?_
        refine g_sipush (v := iZ (255)) 265 dX2_obey_262 (by decide +kernel) rfl ?_
        refine g_and255Z (x % 256) 266 dX2_obey_265 rfl rfl ?_
        obtain ⟨z134, ez134, lz134, uz134⟩ : ∃ z : Int, x % 256 = z ∧ 0 ≤ z ∧ z < 256 := ⟨_, rfl, by omega, by omega⟩
        rw [ez134]
        refine g_aload_n 267 dX2_obey_266 rfl rfl ?_
        refine g_get 270 dX2_obey_267 faX2_24_X2 F0 rfl rfl ?_
        refine g_iastW 271 dX2_obey_270 F1 omm ra (by omega) (by omega) (by decide) rfl (fun h136 g135 og135 s137 f138 => ?_)
        refine g_goto 365 dX2_obey_271 rfl ?_
        refine g_aload_n 366 dX2_obey_365 rfl rfl ?_
        refine g_iload 368 dX2_obey_366 rfl rfl ?_
        refine g_sipush (v := iZ (255)) 371 dX2_obey_368 (by decide +kernel) rfl ?_
        refine g_and255Z (z7 % 256) 372 dX2_obey_371 rfl rfl ?_
        obtain ⟨z139, ez139, lz139, uz139⟩ : ∃ z : Int, z7 % 256 = z ∧ 0 ≤ z ∧ z < 256 := ⟨_, rfl, by omega, by omega⟩
        rw [ez139]
        have f140 := (s137.get (by simp <;> omega) F0)
        refine g_putC (fs1 := [.ref (m + 1), .ref (m + 2), .int (iZ a), .int (iZ x), .int (iZ z139), .int (iZ en), .int (iZ dn), .int (iZ tk), .int (iZ hm)]) 375 dX2_obey_372 fpX2_31_X2 f140 (nle rfl) (vI _) rfl rfl (fun h141 s142 f143 => ?_)
        refine g_vret rfl dX2_obey_375 ?_
        have f144 := (s142.get (by simp <;> omega) f138)
        have f145 := (s142.get (by simp <;> omega) (s137.get (by simp <;> omega) F2))
        have f146 := (s142.get (by simp <;> omega) (s137.get (by simp <;> omega) F3))
        have f147 := (s142.get (by simp <;> omega) (s137.get (by simp <;> omega) F4))
        exact k _ (a) (x) (z139) (en) (dn) (tk) (hm) (on) (g135) (of) (og) ra rx (by omega) ren rdn rtk rhm ron og135 oof oog (((Sm.refl [m, m + 1, m + 2, m + 3, m + 4] _).tr s137 (fun _ q => q) (by simp)).tr s142 (fun _ q => q) (by simp)) f143 f144 f145 f146 f147
      · refine g_tabZI (10) 274 dX2_obey_40 ri c17 (by decide) (by decide) rfl rfl ?_
        refine g_aload_n 275 dX2_obey_274 rfl rfl ?_
        refine g_aload_n 276 dX2_obey_275 rfl rfl ?_
        refine g_get 279 dX2_obey_276 faX2_24_X2 F0 rfl rfl ?_
        refine g_putC (fs1 := [.ref (m + 1), .ref (m + 2), .int (iZ a), .int (iZ a), .int (iZ p), .int (iZ en), .int (iZ dn), .int (iZ tk), .int (iZ hm)]) 282 dX2_obey_279 fpX2_28_X2 F0 (nle rfl) (vI _) rfl rfl (fun h148 s149 f150 => ?_)
        refine g_goto 365 dX2_obey_282 rfl ?_
        refine g_aload_n 366 dX2_obey_365 rfl rfl ?_
        refine g_iload 368 dX2_obey_366 rfl rfl ?_
        refine g_sipush (v := iZ (255)) 371 dX2_obey_368 (by decide +kernel) rfl ?_
        refine g_and255Z (z7 % 256) 372 dX2_obey_371 rfl rfl ?_
        obtain ⟨z151, ez151, lz151, uz151⟩ : ∃ z : Int, z7 % 256 = z ∧ 0 ≤ z ∧ z < 256 := ⟨_, rfl, by omega, by omega⟩
        rw [ez151]
        refine g_putC (fs1 := [.ref (m + 1), .ref (m + 2), .int (iZ a), .int (iZ a), .int (iZ z151), .int (iZ en), .int (iZ dn), .int (iZ tk), .int (iZ hm)]) 375 dX2_obey_372 fpX2_31_X2 f150 (nle rfl) (vI _) rfl rfl (fun h152 s153 f154 => ?_)
        refine g_vret rfl dX2_obey_375 ?_
        have f155 := (s153.get (by simp <;> omega) (s149.get (by simp <;> omega) F1))
        have f156 := (s153.get (by simp <;> omega) (s149.get (by simp <;> omega) F2))
        have f157 := (s153.get (by simp <;> omega) (s149.get (by simp <;> omega) F3))
        have f158 := (s153.get (by simp <;> omega) (s149.get (by simp <;> omega) F4))
        exact k _ (a) (a) (z151) (en) (dn) (tk) (hm) (on) (mm) (of) (og) ra ra (by omega) ren rdn rtk rhm ron omm oof oog (((Sm.refl [m, m + 1, m + 2, m + 3, m + 4] _).tr s149 (fun _ q => q) (by simp)).tr s153 (fun _ q => q) (by simp)) f154 f155 f156 f157 f158
      · refine g_tabZI (11) 285 dX2_obey_40 ri c17 (by decide) (by decide) rfl rfl ?_
        refine g_iload_n 286 dX2_obey_285 rfl rfl ?_
        refine g_istore (L1 := [some (.ref m), some (.int (iZ i)), some (.ref t), some (.int (iZ z4)), some (.int (iZ z4))]) 288 dX2_obey_286 (by decide) rfl rfl rfl ?_
        refine g_goto 365 dX2_obey_288 rfl ?_
        refine g_aload_n 366 dX2_obey_365 rfl rfl ?_
        refine g_iload 368 dX2_obey_366 rfl rfl ?_
        refine g_sipush (v := iZ (255)) 371 dX2_obey_368 (by decide +kernel) rfl ?_
        refine g_and255Z (z4 % 256) 372 dX2_obey_371 rfl rfl ?_
        obtain ⟨z159, ez159, lz159, uz159⟩ : ∃ z : Int, z4 % 256 = z ∧ 0 ≤ z ∧ z < 256 := ⟨_, rfl, by omega, by omega⟩
        rw [ez159]
        refine g_putC (fs1 := [.ref (m + 1), .ref (m + 2), .int (iZ a), .int (iZ x), .int (iZ z159), .int (iZ en), .int (iZ dn), .int (iZ tk), .int (iZ hm)]) 375 dX2_obey_372 fpX2_31_X2 F0 (nle rfl) (vI _) rfl rfl (fun h160 s161 f162 => ?_)
        refine g_vret rfl dX2_obey_375 ?_
        have f163 := (s161.get (by simp <;> omega) F1)
        have f164 := (s161.get (by simp <;> omega) F2)
        have f165 := (s161.get (by simp <;> omega) F3)
        have f166 := (s161.get (by simp <;> omega) F4)
        exact k _ (a) (x) (z159) (en) (dn) (tk) (hm) (on) (mm) (of) (og) ra rx (by omega) ren rdn rtk rhm ron omm oof oog ((Sm.refl [m, m + 1, m + 2, m + 3, m + 4] _).tr s161 (fun _ q => q) (by simp)) f162 f163 f164 f165 f166
      · refine g_tabZI (12) 291 dX2_obey_40 ri c17 (by decide) (by decide) rfl rfl ?_
        refine g_aload_n 292 dX2_obey_291 rfl rfl ?_
        refine g_get 295 dX2_obey_292 faX2_24_X2 F0 rfl rfl ?_
        refine g_ifZ_ne 302 298 dX2_obey_295 rfl rfl ra (fun c167 => ?_) (fun c167 => ?_)
        · refine g_iload 304 dX2_obey_302 rfl rfl ?_
          refine g_istore (L1 := [some (.ref m), some (.int (iZ i)), some (.ref t), some (.int (iZ z4)), some (.int (iZ z7))]) 306 dX2_obey_304 (by decide) rfl rfl rfl ?_
          refine g_goto 365 dX2_obey_306 rfl ?_
          refine g_aload_n 366 dX2_obey_365 rfl rfl ?_
          refine g_iload 368 dX2_obey_366 rfl rfl ?_
          refine g_sipush (v := iZ (255)) 371 dX2_obey_368 (by decide +kernel) rfl ?_
          refine g_and255Z (z7 % 256) 372 dX2_obey_371 rfl rfl ?_
          obtain ⟨z168, ez168, lz168, uz168⟩ : ∃ z : Int, z7 % 256 = z ∧ 0 ≤ z ∧ z < 256 := ⟨_, rfl, by omega, by omega⟩
          rw [ez168]
          refine g_putC (fs1 := [.ref (m + 1), .ref (m + 2), .int (iZ a), .int (iZ x), .int (iZ z168), .int (iZ en), .int (iZ dn), .int (iZ tk), .int (iZ hm)]) 375 dX2_obey_372 fpX2_31_X2 F0 (nle rfl) (vI _) rfl rfl (fun h169 s170 f171 => ?_)
          refine g_vret rfl dX2_obey_375 ?_
          have f172 := (s170.get (by simp <;> omega) F1)
          have f173 := (s170.get (by simp <;> omega) F2)
          have f174 := (s170.get (by simp <;> omega) F3)
          have f175 := (s170.get (by simp <;> omega) F4)
          exact k _ (a) (x) (z168) (en) (dn) (tk) (hm) (on) (mm) (of) (og) ra rx (by omega) ren rdn rtk rhm ron omm oof oog ((Sm.refl [m, m + 1, m + 2, m + 3, m + 4] _).tr s170 (fun _ q => q) (by simp)) f171 f172 f173 f174 f175
        · refine g_iload_n 299 dX2_obey_298 rfl rfl ?_
          refine g_goto 304 dX2_obey_299 rfl ?_
          refine g_istore (L1 := [some (.ref m), some (.int (iZ i)), some (.ref t), some (.int (iZ z4)), some (.int (iZ z4))]) 306 dX2_obey_304 (by decide) rfl rfl rfl ?_
          refine g_goto 365 dX2_obey_306 rfl ?_
          refine g_aload_n 366 dX2_obey_365 rfl rfl ?_
          refine g_iload 368 dX2_obey_366 rfl rfl ?_
          refine g_sipush (v := iZ (255)) 371 dX2_obey_368 (by decide +kernel) rfl ?_
          refine g_and255Z (z4 % 256) 372 dX2_obey_371 rfl rfl ?_
          obtain ⟨z176, ez176, lz176, uz176⟩ : ∃ z : Int, z4 % 256 = z ∧ 0 ≤ z ∧ z < 256 := ⟨_, rfl, by omega, by omega⟩
          rw [ez176]
          refine g_putC (fs1 := [.ref (m + 1), .ref (m + 2), .int (iZ a), .int (iZ x), .int (iZ z176), .int (iZ en), .int (iZ dn), .int (iZ tk), .int (iZ hm)]) 375 dX2_obey_372 fpX2_31_X2 F0 (nle rfl) (vI _) rfl rfl (fun h177 s178 f179 => ?_)
          refine g_vret rfl dX2_obey_375 ?_
          have f180 := (s178.get (by simp <;> omega) F1)
          have f181 := (s178.get (by simp <;> omega) F2)
          have f182 := (s178.get (by simp <;> omega) F3)
          have f183 := (s178.get (by simp <;> omega) F4)
          exact k _ (a) (x) (z176) (en) (dn) (tk) (hm) (on) (mm) (of) (og) ra rx (by omega) ren rdn rtk rhm ron omm oof oog ((Sm.refl [m, m + 1, m + 2, m + 3, m + 4] _).tr s178 (fun _ q => q) (by simp)) f179 f180 f181 f182 f183
      · refine g_tabZI (13) 309 dX2_obey_40 ri c17 (by decide) (by decide) rfl rfl ?_
        refine g_aload_n 310 dX2_obey_309 rfl rfl ?_
        refine g_get 313 dX2_obey_310 faX2_34_X2 F0 rfl rfl ?_
        refine g_ifZ_eq 320 316 dX2_obey_313 rfl rfl (rg01 ren) (fun c184 => ?_) (fun c184 => ?_)
        · refine g_iload 322 dX2_obey_320 rfl rfl ?_
          refine g_istore (L1 := [some (.ref m), some (.int (iZ i)), some (.ref t), some (.int (iZ z4)), some (.int (iZ z7))]) 324 dX2_obey_322 (by decide) rfl rfl rfl ?_
          refine g_goto 365 dX2_obey_324 rfl ?_
          refine g_aload_n 366 dX2_obey_365 rfl rfl ?_
          refine g_iload 368 dX2_obey_366 rfl rfl ?_
          refine g_sipush (v := iZ (255)) 371 dX2_obey_368 (by decide +kernel) rfl ?_
          refine g_and255Z (z7 % 256) 372 dX2_obey_371 rfl rfl ?_
          obtain ⟨z185, ez185, lz185, uz185⟩ : ∃ z : Int, z7 % 256 = z ∧ 0 ≤ z ∧ z < 256 := ⟨_, rfl, by omega, by omega⟩
          rw [ez185]
          refine g_putC (fs1 := [.ref (m + 1), .ref (m + 2), .int (iZ a), .int (iZ x), .int (iZ z185), .int (iZ en), .int (iZ dn), .int (iZ tk), .int (iZ hm)]) 375 dX2_obey_372 fpX2_31_X2 F0 (nle rfl) (vI _) rfl rfl (fun h186 s187 f188 => ?_)
          refine g_vret rfl dX2_obey_375 ?_
          have f189 := (s187.get (by simp <;> omega) F1)
          have f190 := (s187.get (by simp <;> omega) F2)
          have f191 := (s187.get (by simp <;> omega) F3)
          have f192 := (s187.get (by simp <;> omega) F4)
          exact k _ (a) (x) (z185) (en) (dn) (tk) (hm) (on) (mm) (of) (og) ra rx (by omega) ren rdn rtk rhm ron omm oof oog ((Sm.refl [m, m + 1, m + 2, m + 3, m + 4] _).tr s187 (fun _ q => q) (by simp)) f188 f189 f190 f191 f192
        · refine g_iload_n 317 dX2_obey_316 rfl rfl ?_
          refine g_goto 322 dX2_obey_317 rfl ?_
          refine g_istore (L1 := [some (.ref m), some (.int (iZ i)), some (.ref t), some (.int (iZ z4)), some (.int (iZ z4))]) 324 dX2_obey_322 (by decide) rfl rfl rfl ?_
          refine g_goto 365 dX2_obey_324 rfl ?_
          refine g_aload_n 366 dX2_obey_365 rfl rfl ?_
          refine g_iload 368 dX2_obey_366 rfl rfl ?_
          refine g_sipush (v := iZ (255)) 371 dX2_obey_368 (by decide +kernel) rfl ?_
          refine g_and255Z (z4 % 256) 372 dX2_obey_371 rfl rfl ?_
          obtain ⟨z193, ez193, lz193, uz193⟩ : ∃ z : Int, z4 % 256 = z ∧ 0 ≤ z ∧ z < 256 := ⟨_, rfl, by omega, by omega⟩
          rw [ez193]
          refine g_putC (fs1 := [.ref (m + 1), .ref (m + 2), .int (iZ a), .int (iZ x), .int (iZ z193), .int (iZ en), .int (iZ dn), .int (iZ tk), .int (iZ hm)]) 375 dX2_obey_372 fpX2_31_X2 F0 (nle rfl) (vI _) rfl rfl (fun h194 s195 f196 => ?_)
          refine g_vret rfl dX2_obey_375 ?_
          have f197 := (s195.get (by simp <;> omega) F1)
          have f198 := (s195.get (by simp <;> omega) F2)
          have f199 := (s195.get (by simp <;> omega) F3)
          have f200 := (s195.get (by simp <;> omega) F4)
          exact k _ (a) (x) (z193) (en) (dn) (tk) (hm) (on) (mm) (of) (og) ra rx (by omega) ren rdn rtk rhm ron omm oof oog ((Sm.refl [m, m + 1, m + 2, m + 3, m + 4] _).tr s195 (fun _ q => q) (by simp)) f196 f197 f198 f199 f200
      · refine g_tabZI (14) 327 dX2_obey_40 ri c17 (by decide) (by decide) rfl rfl ?_
        refine g_aload_n 328 dX2_obey_327 rfl rfl ?_
        refine g_aload_n 329 dX2_obey_328 rfl rfl ?_
        refine g_get 332 dX2_obey_329 faX2_24_X2 F0 rfl rfl ?_
        refine g_iload_n 333 dX2_obey_332 rfl rfl ?_
        refine g_iadd 334 dX2_obey_333 rfl ?_
        refine Go.genZ (fun z201 rz201 => ?_)
        refine g_sipush (v := iZ (255)) 337 dX2_obey_334 (by decide +kernel) rfl ?_
        refine g_and255Z (z201 % 256) 338 dX2_obey_337 rfl rfl ?_
        obtain ⟨z202, ez202, lz202, uz202⟩ : ∃ z : Int, z201 % 256 = z ∧ 0 ≤ z ∧ z < 256 := ⟨_, rfl, by omega, by omega⟩
        rw [ez202]
        refine g_putC (fs1 := [.ref (m + 1), .ref (m + 2), .int (iZ z202), .int (iZ x), .int (iZ p), .int (iZ en), .int (iZ dn), .int (iZ tk), .int (iZ hm)]) 341 dX2_obey_338 fpX2_24_X2 F0 (nle rfl) (vI _) rfl rfl (fun h203 s204 f205 => ?_)
        refine g_goto 365 dX2_obey_341 rfl ?_
        refine g_aload_n 366 dX2_obey_365 rfl rfl ?_
        refine g_iload 368 dX2_obey_366 rfl rfl ?_
        refine g_sipush (v := iZ (255)) 371 dX2_obey_368 (by decide +kernel) rfl ?_
        refine g_and255Z (z7 % 256) 372 dX2_obey_371 rfl rfl ?_
        obtain ⟨z206, ez206, lz206, uz206⟩ : ∃ z : Int, z7 % 256 = z ∧ 0 ≤ z ∧ z < 256 := ⟨_, rfl, by omega, by omega⟩
        rw [ez206]
        refine g_putC (fs1 := [.ref (m + 1), .ref (m + 2), .int (iZ z202), .int (iZ x), .int (iZ z206), .int (iZ en), .int (iZ dn), .int (iZ tk), .int (iZ hm)]) 375 dX2_obey_372 fpX2_31_X2 f205 (nle rfl) (vI _) rfl rfl (fun h207 s208 f209 => ?_)
        refine g_vret rfl dX2_obey_375 ?_
        have f210 := (s208.get (by simp <;> omega) (s204.get (by simp <;> omega) F1))
        have f211 := (s208.get (by simp <;> omega) (s204.get (by simp <;> omega) F2))
        have f212 := (s208.get (by simp <;> omega) (s204.get (by simp <;> omega) F3))
        have f213 := (s208.get (by simp <;> omega) (s204.get (by simp <;> omega) F4))
        exact k _ (z202) (x) (z206) (en) (dn) (tk) (hm) (on) (mm) (of) (og) (by omega) rx (by omega) ren rdn rtk rhm ron omm oof oog (((Sm.refl [m, m + 1, m + 2, m + 3, m + 4] _).tr s204 (fun _ q => q) (by simp)).tr s208 (fun _ q => q) (by simp)) f209 f210 f211 f212 f213
      · refine g_tabZI (15) 344 dX2_obey_40 ri c17 (by decide) (by decide) rfl rfl ?_
        refine g_aload_n 345 dX2_obey_344 rfl rfl ?_
        refine g_get 348 dX2_obey_345 faX2_24_X2 F0 rfl rfl ?_
        refine g_sipush (v := iZ (128)) 351 dX2_obey_348 (by decide +kernel) rfl ?_
        refine g_icZ_lt 358 354 dX2_obey_351 rfl rfl ra (by decide) (fun c214 => ?_) (fun c214 => ?_)
        · refine g_iload 360 dX2_obey_358 rfl rfl ?_
          refine g_istore (L1 := [some (.ref m), some (.int (iZ i)), some (.ref t), some (.int (iZ z4)), some (.int (iZ z7))]) 362 dX2_obey_360 (by decide) rfl rfl rfl ?_
          refine g_goto 365 dX2_obey_362 rfl ?_
          refine g_aload_n 366 dX2_obey_365 rfl rfl ?_
          refine g_iload 368 dX2_obey_366 rfl rfl ?_
          refine g_sipush (v := iZ (255)) 371 dX2_obey_368 (by decide +kernel) rfl ?_
          refine g_and255Z (z7 % 256) 372 dX2_obey_371 rfl rfl ?_
          obtain ⟨z215, ez215, lz215, uz215⟩ : ∃ z : Int, z7 % 256 = z ∧ 0 ≤ z ∧ z < 256 := ⟨_, rfl, by omega, by omega⟩
          rw [ez215]
          refine g_putC (fs1 := [.ref (m + 1), .ref (m + 2), .int (iZ a), .int (iZ x), .int (iZ z215), .int (iZ en), .int (iZ dn), .int (iZ tk), .int (iZ hm)]) 375 dX2_obey_372 fpX2_31_X2 F0 (nle rfl) (vI _) rfl rfl (fun h216 s217 f218 => ?_)
          refine g_vret rfl dX2_obey_375 ?_
          have f219 := (s217.get (by simp <;> omega) F1)
          have f220 := (s217.get (by simp <;> omega) F2)
          have f221 := (s217.get (by simp <;> omega) F3)
          have f222 := (s217.get (by simp <;> omega) F4)
          exact k _ (a) (x) (z215) (en) (dn) (tk) (hm) (on) (mm) (of) (og) ra rx (by omega) ren rdn rtk rhm ron omm oof oog ((Sm.refl [m, m + 1, m + 2, m + 3, m + 4] _).tr s217 (fun _ q => q) (by simp)) f218 f219 f220 f221 f222
        · refine g_iload_n 355 dX2_obey_354 rfl rfl ?_
          refine g_goto 360 dX2_obey_355 rfl ?_
          refine g_istore (L1 := [some (.ref m), some (.int (iZ i)), some (.ref t), some (.int (iZ z4)), some (.int (iZ z4))]) 362 dX2_obey_360 (by decide) rfl rfl rfl ?_
          refine g_goto 365 dX2_obey_362 rfl ?_
          refine g_aload_n 366 dX2_obey_365 rfl rfl ?_
          refine g_iload 368 dX2_obey_366 rfl rfl ?_
          refine g_sipush (v := iZ (255)) 371 dX2_obey_368 (by decide +kernel) rfl ?_
          refine g_and255Z (z4 % 256) 372 dX2_obey_371 rfl rfl ?_
          obtain ⟨z223, ez223, lz223, uz223⟩ : ∃ z : Int, z4 % 256 = z ∧ 0 ≤ z ∧ z < 256 := ⟨_, rfl, by omega, by omega⟩
          rw [ez223]
          refine g_putC (fs1 := [.ref (m + 1), .ref (m + 2), .int (iZ a), .int (iZ x), .int (iZ z223), .int (iZ en), .int (iZ dn), .int (iZ tk), .int (iZ hm)]) 375 dX2_obey_372 fpX2_31_X2 F0 (nle rfl) (vI _) rfl rfl (fun h224 s225 f226 => ?_)
          refine g_vret rfl dX2_obey_375 ?_
          have f227 := (s225.get (by simp <;> omega) F1)
          have f228 := (s225.get (by simp <;> omega) F2)
          have f229 := (s225.get (by simp <;> omega) F3)
          have f230 := (s225.get (by simp <;> omega) F4)
          exact k _ (a) (x) (z223) (en) (dn) (tk) (hm) (on) (mm) (of) (og) ra rx (by omega) ren rdn rtk rhm ron omm oof oog ((Sm.refl [m, m + 1, m + 2, m + 3, m + 4] _).tr s225 (fun _ q => q) (by simp)) f226 f227 f228 f229 f230
  · refine g_iconst (v := iZ (2)) 32 dX2_obey_31 rfl rfl ?_
    refine g_goto 36 dX2_obey_32 rfl ?_
    refine g_iadd 37 dX2_obey_36 rfl ?_
    refine Go.genZ (fun z231 rz231 => ?_)
    refine g_istore (L1 := [some (.ref m), some (.int (iZ i)), some (.ref t), some (.int (iZ z4)), some (.int (iZ z231))]) 39 dX2_obey_37 (by decide) rfl rfl rfl ?_
    refine g_iload_n 40 dX2_obey_39 rfl rfl ?_
    by_cases c232 : i < 1 ∨ 15 < i
    · refine g_tabZO 365 dX2_obey_40 ri c232 rfl ?_
      refine g_aload_n 366 dX2_obey_365 rfl rfl ?_
      refine g_iload 368 dX2_obey_366 rfl rfl ?_
      refine g_sipush (v := iZ (255)) 371 dX2_obey_368 (by decide +kernel) rfl ?_
      refine g_and255Z (z231 % 256) 372 dX2_obey_371 rfl rfl ?_
      obtain ⟨z233, ez233, lz233, uz233⟩ : ∃ z : Int, z231 % 256 = z ∧ 0 ≤ z ∧ z < 256 := ⟨_, rfl, by omega, by omega⟩
      rw [ez233]
      refine g_putC (fs1 := [.ref (m + 1), .ref (m + 2), .int (iZ a), .int (iZ x), .int (iZ z233), .int (iZ en), .int (iZ dn), .int (iZ tk), .int (iZ hm)]) 375 dX2_obey_372 fpX2_31_X2 F0 (nle rfl) (vI _) rfl rfl (fun h234 s235 f236 => ?_)
      refine g_vret rfl dX2_obey_375 ?_
      have f237 := (s235.get (by simp <;> omega) F1)
      have f238 := (s235.get (by simp <;> omega) F2)
      have f239 := (s235.get (by simp <;> omega) F3)
      have f240 := (s235.get (by simp <;> omega) F4)
      exact k _ (a) (x) (z233) (en) (dn) (tk) (hm) (on) (mm) (of) (og) ra rx (by omega) ren rdn rtk rhm ron omm oof oog ((Sm.refl [m, m + 1, m + 2, m + 3, m + 4] _).tr s235 (fun _ q => q) (by simp)) f236 f237 f238 f239 f240
    · have c241 : i = 1 ∨ i = 2 ∨ i = 3 ∨ i = 4 ∨ i = 5 ∨ i = 6 ∨ i = 7 ∨ i = 8 ∨ i = 9 ∨ i = 10 ∨ i = 11 ∨ i = 12 ∨ i = 13 ∨ i = 14 ∨ i = 15 := by omega
      rcases c241 with c241 | c241 | c241 | c241 | c241 | c241 | c241 | c241 | c241 | c241 | c241 | c241 | c241 | c241 | c241
      · refine g_tabZI (1) 116 dX2_obey_40 ri c241 (by decide) (by decide) rfl rfl ?_
        refine g_aload_n 117 dX2_obey_116 rfl rfl ?_
        refine g_aload_n 118 dX2_obey_117 rfl rfl ?_
        refine g_aload_n 119 dX2_obey_118 rfl rfl ?_
        refine g_get 122 dX2_obey_119 faX2_41_X2 F0 rfl rfl ?_
        refine g_callV (z := mX6_at) (As := [.int (iZ tk)]) 125 dX2_obey_122 mwX6_at ⟨by decide, by decide⟩ rfl wlX2_73 wiX6_at wsX6_at F5 rfl rfl rfl (nle rfl) (nle rfl) rfl ?_
        refine w_tat  F5 F6 otf rtn rtk (fun z242 rz242 => ?_)
        refine rI ?_
        refine g_callV (z := mX2_take) (As := [.int (iZ z242)]) 128 dX2_obey_125 mwX2_take ⟨by decide, by decide⟩ rfl wlX2_76 wiX2_take wsX2_take F0 rfl rfl rfl (nle rfl) (nle rfl) rfl ?_
        refine w_take  F0 ra rx rp ren rdn rtk rhm rz242 (fun h243 z245 z246 z247 z248 z249 z250 z251 rz245 rz246 rz247 rz248 rz249 rz250 rz251 s244 f252 => ?_)
        refine rV ?_
        refine g_goto 365 dX2_obey_128 rfl ?_
        refine g_aload_n 366 dX2_obey_365 rfl rfl ?_
        refine g_iload 368 dX2_obey_366 rfl rfl ?_
        refine g_sipush (v := iZ (255)) 371 dX2_obey_368 (by decide +kernel) rfl ?_
        refine g_and255Z (z231 % 256) 372 dX2_obey_371 rfl rfl ?_
        obtain ⟨z253, ez253, lz253, uz253⟩ : ∃ z : Int, z231 % 256 = z ∧ 0 ≤ z ∧ z < 256 := ⟨_, rfl, by omega, by omega⟩
        rw [ez253]
        refine g_putC (fs1 := [.ref (m + 1), .ref (m + 2), .int (iZ z245), .int (iZ z246), .int (iZ z253), .int (iZ z248), .int (iZ z249), .int (iZ z250), .int (iZ z251)]) 375 dX2_obey_372 fpX2_31_X2 f252 (nle rfl) (vI _) rfl rfl (fun h254 s255 f256 => ?_)
        refine g_vret rfl dX2_obey_375 ?_
        have f257 := (s255.get (by simp <;> omega) (s244.get (by simp <;> omega) F1))
        have f258 := (s255.get (by simp <;> omega) (s244.get (by simp <;> omega) F2))
        have f259 := (s255.get (by simp <;> omega) (s244.get (by simp <;> omega) F3))
        have f260 := (s255.get (by simp <;> omega) (s244.get (by simp <;> omega) F4))
        exact k _ (z245) (z246) (z253) (z248) (z249) (z250) (z251) (on) (mm) (of) (og) rz245 rz246 (by omega) rz248 rz249 rz250 rz251 ron omm oof oog (((Sm.refl [m, m + 1, m + 2, m + 3, m + 4] _).tr s244 (fun _ q => q) (by simp)).tr s255 (fun _ q => q) (by simp)) f256 f257 f258 f259 f260
      · refine g_tabZI (2) 131 dX2_obey_40 ri c241 (by decide) (by decide) rfl rfl ?_
        refine g_aload_n 132 dX2_obey_131 rfl rfl ?_
        refine g_get 135 dX2_obey_132 faX2_20_X2 F0 rfl rfl ?_
        refine g_aload_n 136 dX2_obey_135 rfl rfl ?_
        refine g_get 139 dX2_obey_136 faX2_24_X2 F0 rfl rfl ?_
        refine g_iconst (v := iZ (0)) 140 dX2_obey_139 rfl rfl ?_
        refine g_aload_n 141 dX2_obey_140 rfl rfl ?_
        refine g_get 144 dX2_obey_141 faX2_41_X2 F0 rfl rfl ?_
        refine g_iconst (v := iZ (1)) 145 dX2_obey_144 rfl rfl ?_
        refine g_isub 146 dX2_obey_145 rfl ?_
        refine Go.genZ (fun z261 rz261 => ?_)
        refine g_maxT 149 dX2_obey_146 wlX2_79 wmax1 wMath wmax2 (by decide) (nle rfl) (by decide) rz261 rfl ?_
        refine Go.genZ (fun z262 rz262 => ?_)
        refine g_callV (z := mX0_add) (As := [.int (iZ a), .int (iZ z262)]) 152 dX2_obey_149 mwX0_add ⟨by decide, by decide⟩ rfl wlX2_85 wiX0_add wsX0_add F2 rfl rfl rfl (nle rfl) (nle rfl) rfl ?_
        refine w_cadd (M := 256) F2 F3 F4 oof oog ron ra rz262 (by decide) (fun h263 z265 g266 g267 z268 rz265 og266 og267 rz268 s264 f269 f270 f271 => ?_)
        refine rI ?_
        refine g_pop 153 dX2_obey_152 rfl rfl ?_
        refine g_goto 365 dX2_obey_153 rfl ?_
        refine g_aload_n 366 dX2_obey_365 rfl rfl ?_
        refine g_iload 368 dX2_obey_366 rfl rfl ?_
        refine g_sipush (v := iZ (255)) 371 dX2_obey_368 (by decide +kernel) rfl ?_
        refine g_and255Z (z231 % 256) 372 dX2_obey_371 rfl rfl ?_
        obtain ⟨z272, ez272, lz272, uz272⟩ : ∃ z : Int, z231 % 256 = z ∧ 0 ≤ z ∧ z < 256 := ⟨_, rfl, by omega, by omega⟩
        rw [ez272]
        have f273 := (s264.get (by simp <;> omega) F0)
        refine g_putC (fs1 := [.ref (m + 1), .ref (m + 2), .int (iZ a), .int (iZ x), .int (iZ z272), .int (iZ en), .int (iZ dn), .int (iZ tk), .int (iZ hm)]) 375 dX2_obey_372 fpX2_31_X2 f273 (nle rfl) (vI _) rfl rfl (fun h274 s275 f276 => ?_)
        refine g_vret rfl dX2_obey_375 ?_
        have f277 := (s275.get (by simp <;> omega) (s264.get (by simp <;> omega) F1))
        have f278 := (s275.get (by simp <;> omega) f269)
        have f279 := (s275.get (by simp <;> omega) f270)
        have f280 := (s275.get (by simp <;> omega) f271)
        exact k _ (a) (x) (z272) (en) (dn) (tk) (hm) (z265) (mm) (g266) (g267) ra rx (by omega) ren rdn rtk rhm rz265 omm og266 og267 (((Sm.refl [m, m + 1, m + 2, m + 3, m + 4] _).tr s264 (fun _ q => q) (by simp)).tr s275 (fun _ q => q) (by simp)) f276 f277 f278 f279 f280
      · refine g_tabZI (3) 156 dX2_obey_40 ri c241 (by decide) (by decide) rfl rfl ?_
        refine g_aload_n 157 dX2_obey_156 rfl rfl ?_
        refine g_iload_n 158 dX2_obey_157 rfl rfl ?_
        refine g_putC (fs1 := [.ref (m + 1), .ref (m + 2), .int (iZ z4), .int (iZ x), .int (iZ p), .int (iZ en), .int (iZ dn), .int (iZ tk), .int (iZ hm)]) 161 dX2_obey_158 fpX2_24_X2 F0 (nle rfl) (vI _) rfl rfl (fun h281 s282 f283 => ?_)
        refine g_goto 365 dX2_obey_161 rfl ?_
        refine g_aload_n 366 dX2_obey_365 rfl rfl ?_
        refine g_iload 368 dX2_obey_366 rfl rfl ?_
        refine g_sipush (v := iZ (255)) 371 dX2_obey_368 (by decide +kernel) rfl ?_
        refine g_and255Z (z231 % 256) 372 dX2_obey_371 rfl rfl ?_
        obtain ⟨z284, ez284, lz284, uz284⟩ : ∃ z : Int, z231 % 256 = z ∧ 0 ≤ z ∧ z < 256 := ⟨_, rfl, by omega, by omega⟩
        rw [ez284]
        refine g_putC (fs1 := [.ref (m + 1), .ref (m + 2), .int (iZ z4), .int (iZ x), .int (iZ z284), .int (iZ en), .int (iZ dn), .int (iZ tk), .int (iZ hm)]) 375 dX2_obey_372 fpX2_31_X2 f283 (nle rfl) (vI _) rfl rfl (fun h285 s286 f287 => ?_)
        refine g_vret rfl dX2_obey_375 ?_
        have f288 := (s286.get (by simp <;> omega) (s282.get (by simp <;> omega) F1))
        have f289 := (s286.get (by simp <;> omega) (s282.get (by simp <;> omega) F2))
        have f290 := (s286.get (by simp <;> omega) (s282.get (by simp <;> omega) F3))
        have f291 := (s286.get (by simp <;> omega) (s282.get (by simp <;> omega) F4))
        exact k _ (z4) (x) (z284) (en) (dn) (tk) (hm) (on) (mm) (of) (og) (by omega) rx (by omega) ren rdn rtk rhm ron omm oof oog (((Sm.refl [m, m + 1, m + 2, m + 3, m + 4] _).tr s282 (fun _ q => q) (by simp)).tr s286 (fun _ q => q) (by simp)) f287 f288 f289 f290 f291
      · refine g_tabZI (4) 164 dX2_obey_40 ri c241 (by decide) (by decide) rfl rfl ?_
        refine g_aload_n 165 dX2_obey_164 rfl rfl ?_
        refine g_aload_n 166 dX2_obey_165 rfl rfl ?_
        refine g_get 169 dX2_obey_166 faX2_9_X2 F0 rfl rfl ?_
        refine g_iload_n 170 dX2_obey_169 rfl rfl ?_
        refine g_ialdW 171 dX2_obey_170 F1 omm (by omega) (by omega) (by decide) rfl (fun v292 rv292 => ?_)
        refine g_putC (fs1 := [.ref (m + 1), .ref (m + 2), .int (iZ v292), .int (iZ x), .int (iZ p), .int (iZ en), .int (iZ dn), .int (iZ tk), .int (iZ hm)]) 174 dX2_obey_171 fpX2_24_X2 F0 (nle rfl) (vI _) rfl rfl (fun h293 s294 f295 => ?_)
        refine g_goto 365 dX2_obey_174 rfl ?_
        refine g_aload_n 366 dX2_obey_365 rfl rfl ?_
        refine g_iload 368 dX2_obey_366 rfl rfl ?_
        refine g_sipush (v := iZ (255)) 371 dX2_obey_368 (by decide +kernel) rfl ?_
        refine g_and255Z (z231 % 256) 372 dX2_obey_371 rfl rfl ?_
        obtain ⟨z296, ez296, lz296, uz296⟩ : ∃ z : Int, z231 % 256 = z ∧ 0 ≤ z ∧ z < 256 := ⟨_, rfl, by omega, by omega⟩
        rw [ez296]
        refine g_putC (fs1 := [.ref (m + 1), .ref (m + 2), .int (iZ v292), .int (iZ x), .int (iZ z296), .int (iZ en), .int (iZ dn), .int (iZ tk), .int (iZ hm)]) 375 dX2_obey_372 fpX2_31_X2 f295 (nle rfl) (vI _) rfl rfl (fun h297 s298 f299 => ?_)
        refine g_vret rfl dX2_obey_375 ?_
        have f300 := (s298.get (by simp <;> omega) (s294.get (by simp <;> omega) F1))
        have f301 := (s298.get (by simp <;> omega) (s294.get (by simp <;> omega) F2))
        have f302 := (s298.get (by simp <;> omega) (s294.get (by simp <;> omega) F3))
        have f303 := (s298.get (by simp <;> omega) (s294.get (by simp <;> omega) F4))
        exact k _ (v292) (x) (z296) (en) (dn) (tk) (hm) (on) (mm) (of) (og) rv292 rx (by omega) ren rdn rtk rhm ron omm oof oog (((Sm.refl [m, m + 1, m + 2, m + 3, m + 4] _).tr s294 (fun _ q => q) (by simp)).tr s298 (fun _ q => q) (by simp)) f299 f300 f301 f302 f303
      · refine g_tabZI (5) 177 dX2_obey_40 ri c241 (by decide) (by decide) rfl rfl ?_
        refine g_aload_n 178 dX2_obey_177 rfl rfl ?_
        refine g_get 181 dX2_obey_178 faX2_9_X2 F0 rfl rfl ?_
        refine g_iload_n 182 dX2_obey_181 rfl rfl ?_
        refine g_aload_n 183 dX2_obey_182 rfl rfl ?_
        refine g_get 186 dX2_obey_183 faX2_24_X2 F0 rfl rfl ?_
        refine g_iastW 187 dX2_obey_186 F1 omm ra (by omega) (by omega) (by decide) rfl (fun h305 g304 og304 s306 f307 => ?_)
        refine g_goto 365 dX2_obey_187 rfl ?_
        refine g_aload_n 366 dX2_obey_365 rfl rfl ?_
        refine g_iload 368 dX2_obey_366 rfl rfl ?_
        refine g_sipush (v := iZ (255)) 371 dX2_obey_368 (by decide +kernel) rfl ?_
        refine g_and255Z (z231 % 256) 372 dX2_obey_371 rfl rfl ?_
        obtain ⟨z308, ez308, lz308, uz308⟩ : ∃ z : Int, z231 % 256 = z ∧ 0 ≤ z ∧ z < 256 := ⟨_, rfl, by omega, by omega⟩
        rw [ez308]
        have f309 := (s306.get (by simp <;> omega) F0)
        refine g_putC (fs1 := [.ref (m + 1), .ref (m + 2), .int (iZ a), .int (iZ x), .int (iZ z308), .int (iZ en), .int (iZ dn), .int (iZ tk), .int (iZ hm)]) 375 dX2_obey_372 fpX2_31_X2 f309 (nle rfl) (vI _) rfl rfl (fun h310 s311 f312 => ?_)
        refine g_vret rfl dX2_obey_375 ?_
        have f313 := (s311.get (by simp <;> omega) f307)
        have f314 := (s311.get (by simp <;> omega) (s306.get (by simp <;> omega) F2))
        have f315 := (s311.get (by simp <;> omega) (s306.get (by simp <;> omega) F3))
        have f316 := (s311.get (by simp <;> omega) (s306.get (by simp <;> omega) F4))
        exact k _ (a) (x) (z308) (en) (dn) (tk) (hm) (on) (g304) (of) (og) ra rx (by omega) ren rdn rtk rhm ron og304 oof oog (((Sm.refl [m, m + 1, m + 2, m + 3, m + 4] _).tr s306 (fun _ q => q) (by simp)).tr s311 (fun _ q => q) (by simp)) f312 f313 f314 f315 f316
      · refine g_tabZI (6) 190 dX2_obey_40 ri c241 (by decide) (by decide) rfl rfl ?_
        refine g_aload_n 191 dX2_obey_190 rfl rfl ?_
        refine g_aload_n 192 dX2_obey_191 rfl rfl ?_
        refine g_get 195 dX2_obey_192 faX2_24_X2 F0 rfl rfl ?_
        refine g_aload_n 196 dX2_obey_195 rfl rfl ?_
        refine g_get 199 dX2_obey_196 faX2_9_X2 F0 rfl rfl ?_
        refine g_iload_n 200 dX2_obey_199 rfl rfl ?_
        refine g_ialdW 201 dX2_obey_200 F1 omm (by omega) (by omega) (by decide) rfl (fun v317 rv317 => ?_)
        refine g_iadd 202 dX2_obey_201 rfl ?_
        refine Go.genZ (fun z318 rz318 => ?_)
        refine g_sipush (v := iZ (255)) 205 dX2_obey_202 (by decide +kernel) rfl ?_
        refine g_and255Z (z318 % 256) 206 dX2_obey_205 rfl rfl ?_
        obtain ⟨z319, ez319, lz319, uz319⟩ : ∃ z : Int, z318 % 256 = z ∧ 0 ≤ z ∧ z < 256 := ⟨_, rfl, by omega, by omega⟩
        rw [ez319]
        refine g_putC (fs1 := [.ref (m + 1), .ref (m + 2), .int (iZ z319), .int (iZ x), .int (iZ p), .int (iZ en), .int (iZ dn), .int (iZ tk), .int (iZ hm)]) 209 dX2_obey_206 fpX2_24_X2 F0 (nle rfl) (vI _) rfl rfl (fun h320 s321 f322 => ?_)
        refine g_goto 365 dX2_obey_209 rfl ?_
        refine g_aload_n 366 dX2_obey_365 rfl rfl ?_
        refine g_iload 368 dX2_obey_366 rfl rfl ?_
        refine g_sipush (v := iZ (255)) 371 dX2_obey_368 (by decide +kernel) rfl ?_
        refine g_and255Z (z231 % 256) 372 dX2_obey_371 rfl rfl ?_
        obtain ⟨z323, ez323, lz323, uz323⟩ : ∃ z : Int, z231 % 256 = z ∧ 0 ≤ z ∧ z < 256 := ⟨_, rfl, by omega, by omega⟩
        rw [ez323]
        refine g_putC (fs1 := [.ref (m + 1), .ref (m + 2), .int (iZ z319), .int (iZ x), .int (iZ z323), .int (iZ en), .int (iZ dn), .int (iZ tk), .int (iZ hm)]) 375 dX2_obey_372 fpX2_31_X2 f322 (nle rfl) (vI _) rfl rfl (fun h324 s325 f326 => ?_)
        refine g_vret rfl dX2_obey_375 ?_
        have f327 := (s325.get (by simp <;> omega) (s321.get (by simp <;> omega) F1))
        have f328 := (s325.get (by simp <;> omega) (s321.get (by simp <;> omega) F2))
        have f329 := (s325.get (by simp <;> omega) (s321.get (by simp <;> omega) F3))
        have f330 := (s325.get (by simp <;> omega) (s321.get (by simp <;> omega) F4))
        exact k _ (z319) (x) (z323) (en) (dn) (tk) (hm) (on) (mm) (of) (og) (by omega) rx (by omega) ren rdn rtk rhm ron omm oof oog (((Sm.refl [m, m + 1, m + 2, m + 3, m + 4] _).tr s321 (fun _ q => q) (by simp)).tr s325 (fun _ q => q) (by simp)) f326 f327 f328 f329 f330
      · refine g_tabZI (7) 212 dX2_obey_40 ri c241 (by decide) (by decide) rfl rfl ?_
        refine g_aload_n 213 dX2_obey_212 rfl rfl ?_
        refine g_aload_n 214 dX2_obey_213 rfl rfl ?_
        refine g_get 217 dX2_obey_214 faX2_24_X2 F0 rfl rfl ?_
        refine g_aload_n 218 dX2_obey_217 rfl rfl ?_
        refine g_get 221 dX2_obey_218 faX2_9_X2 F0 rfl rfl ?_
        refine g_iload_n 222 dX2_obey_221 rfl rfl ?_
        refine g_ialdW 223 dX2_obey_222 F1 omm (by omega) (by omega) (by decide) rfl (fun v331 rv331 => ?_)
        refine g_isub 224 dX2_obey_223 rfl ?_
        refine Go.genZ (fun z332 rz332 => ?_)
        refine g_sipush (v := iZ (255)) 227 dX2_obey_224 (by decide +kernel) rfl ?_
        refine g_and255Z (z332 % 256) 228 dX2_obey_227 rfl rfl ?_
        obtain ⟨z333, ez333, lz333, uz333⟩ : ∃ z : Int, z332 % 256 = z ∧ 0 ≤ z ∧ z < 256 := ⟨_, rfl, by omega, by omega⟩
        rw [ez333]
        refine g_putC (fs1 := [.ref (m + 1), .ref (m + 2), .int (iZ z333), .int (iZ x), .int (iZ p), .int (iZ en), .int (iZ dn), .int (iZ tk), .int (iZ hm)]) 231 dX2_obey_228 fpX2_24_X2 F0 (nle rfl) (vI _) rfl rfl (fun h334 s335 f336 => ?_)
        refine g_goto 365 dX2_obey_231 rfl ?_
        refine g_aload_n 366 dX2_obey_365 rfl rfl ?_
        refine g_iload 368 dX2_obey_366 rfl rfl ?_
        refine g_sipush (v := iZ (255)) 371 dX2_obey_368 (by decide +kernel) rfl ?_
        refine g_and255Z (z231 % 256) 372 dX2_obey_371 rfl rfl ?_
        obtain ⟨z337, ez337, lz337, uz337⟩ : ∃ z : Int, z231 % 256 = z ∧ 0 ≤ z ∧ z < 256 := ⟨_, rfl, by omega, by omega⟩
        rw [ez337]
        refine g_putC (fs1 := [.ref (m + 1), .ref (m + 2), .int (iZ z333), .int (iZ x), .int (iZ z337), .int (iZ en), .int (iZ dn), .int (iZ tk), .int (iZ hm)]) 375 dX2_obey_372 fpX2_31_X2 f336 (nle rfl) (vI _) rfl rfl (fun h338 s339 f340 => ?_)
        refine g_vret rfl dX2_obey_375 ?_
        have f341 := (s339.get (by simp <;> omega) (s335.get (by simp <;> omega) F1))
        have f342 := (s339.get (by simp <;> omega) (s335.get (by simp <;> omega) F2))
        have f343 := (s339.get (by simp <;> omega) (s335.get (by simp <;> omega) F3))
        have f344 := (s339.get (by simp <;> omega) (s335.get (by simp <;> omega) F4))
        exact k _ (z333) (x) (z337) (en) (dn) (tk) (hm) (on) (mm) (of) (og) (by omega) rx (by omega) ren rdn rtk rhm ron omm oof oog (((Sm.refl [m, m + 1, m + 2, m + 3, m + 4] _).tr s335 (fun _ q => q) (by simp)).tr s339 (fun _ q => q) (by simp)) f340 f341 f342 f343 f344
      · refine g_tabZI (8) 234 dX2_obey_40 ri c241 (by decide) (by decide) rfl rfl ?_
        refine g_aload_n 235 dX2_obey_234 rfl rfl ?_
        refine g_aload_n 236 dX2_obey_235 rfl rfl ?_
        refine g_get 239 dX2_obey_236 faX2_9_X2 F0 rfl rfl ?_
        refine g_aload_n 240 dX2_obey_239 rfl rfl ?_
        refine g_get 243 dX2_obey_240 faX2_28_X2 F0 rfl rfl ?_
        refine g_sipush (v := iZ (255)) 246 dX2_obey_243 (by decide +kernel) rfl ?_
        refine g_and255Z (x % 256) 247 dX2_obey_246 rfl rfl ?_
        obtain ⟨z345, ez345, lz345, uz345⟩ : ∃ z : Int, x % 256 = z ∧ 0 ≤ z ∧ z < 256 := ⟨_, rfl, by omega, by omega⟩
        rw [ez345]
        refine g_ialdW 248 dX2_obey_247 F1 omm (by omega) (by omega) (by decide) rfl (fun v346 rv346 => ?_)
        refine g_putC (fs1 := [.ref (m + 1), .ref (m + 2), .int (iZ v346), .int (iZ x), .int (iZ p), .int (iZ en), .int (iZ dn), .int (iZ tk), .int (iZ hm)]) 251 dX2_obey_248 fpX2_24_X2 F0 (nle rfl) (vI _) rfl rfl (fun h347 s348 f349 => ?_)
        refine g_goto 365 dX2_obey_251 rfl ?_
        refine g_aload_n 366 dX2_obey_365 rfl rfl ?_
        refine g_iload 368 dX2_obey_366 rfl rfl ?_
        refine g_sipush (v := iZ (255)) 371 dX2_obey_368 (by decide +kernel) rfl ?_
        refine g_and255Z (z231 % 256) 372 dX2_obey_371 rfl rfl ?_
        obtain ⟨z350, ez350, lz350, uz350⟩ : ∃ z : Int, z231 % 256 = z ∧ 0 ≤ z ∧ z < 256 := ⟨_, rfl, by omega, by omega⟩
        rw [ez350]
        refine g_putC (fs1 := [.ref (m + 1), .ref (m + 2), .int (iZ v346), .int (iZ x), .int (iZ z350), .int (iZ en), .int (iZ dn), .int (iZ tk), .int (iZ hm)]) 375 dX2_obey_372 fpX2_31_X2 f349 (nle rfl) (vI _) rfl rfl (fun h351 s352 f353 => ?_)
        refine g_vret rfl dX2_obey_375 ?_
        have f354 := (s352.get (by simp <;> omega) (s348.get (by simp <;> omega) F1))
        have f355 := (s352.get (by simp <;> omega) (s348.get (by simp <;> omega) F2))
        have f356 := (s352.get (by simp <;> omega) (s348.get (by simp <;> omega) F3))
        have f357 := (s352.get (by simp <;> omega) (s348.get (by simp <;> omega) F4))
        exact k _ (v346) (x) (z350) (en) (dn) (tk) (hm) (on) (mm) (of) (og) rv346 rx (by omega) ren rdn rtk rhm ron omm oof oog (((Sm.refl [m, m + 1, m + 2, m + 3, m + 4] _).tr s348 (fun _ q => q) (by simp)).tr s352 (fun _ q => q) (by simp)) f353 f354 f355 f356 f357
      · refine g_tabZI (9) 254 dX2_obey_40 ri c241 (by decide) (by decide) rfl rfl ?_
        refine g_aload_n 255 dX2_obey_254 rfl rfl ?_
        refine g_get 258 dX2_obey_255 faX2_9_X2 F0 rfl rfl ?_
        refine g_aload_n 259 dX2_obey_258 rfl rfl ?_
        refine g_get 262 dX2_obey_259 faX2_28_X2 F0 rfl rfl ?_
        refine g_sipush (v := iZ (255)) 265 dX2_obey_262 (by decide +kernel) rfl ?_
        refine g_and255Z (x % 256) 266 dX2_obey_265 rfl rfl ?_
        obtain ⟨z358, ez358, lz358, uz358⟩ : ∃ z : Int, x % 256 = z ∧ 0 ≤ z ∧ z < 256 := ⟨_, rfl, by omega, by omega⟩
        rw [ez358]
        refine g_aload_n 267 dX2_obey_266 rfl rfl ?_
        refine g_get 270 dX2_obey_267 faX2_24_X2 F0 rfl rfl ?_
        refine g_iastW 271 dX2_obey_270 F1 omm ra (by omega) (by omega) (by decide) rfl (fun h360 g359 og359 s361 f362 => ?_)
        refine g_goto 365 dX2_obey_271 rfl ?_
        refine g_aload_n 366 dX2_obey_365 rfl rfl ?_
        refine g_iload 368 dX2_obey_366 rfl rfl ?_
        refine g_sipush (v := iZ (255)) 371 dX2_obey_368 (by decide +kernel) rfl ?_
        refine g_and255Z (z231 % 256) 372 dX2_obey_371 rfl rfl ?_
        obtain ⟨z363, ez363, lz363, uz363⟩ : ∃ z : Int, z231 % 256 = z ∧ 0 ≤ z ∧ z < 256 := ⟨_, rfl, by omega, by omega⟩
        rw [ez363]
        have f364 := (s361.get (by simp <;> omega) F0)
        refine g_putC (fs1 := [.ref (m + 1), .ref (m + 2), .int (iZ a), .int (iZ x), .int (iZ z363), .int (iZ en), .int (iZ dn), .int (iZ tk), .int (iZ hm)]) 375 dX2_obey_372 fpX2_31_X2 f364 (nle rfl) (vI _) rfl rfl (fun h365 s366 f367 => ?_)
        refine g_vret rfl dX2_obey_375 ?_
        have f368 := (s366.get (by simp <;> omega) f362)
        have f369 := (s366.get (by simp <;> omega) (s361.get (by simp <;> omega) F2))
        have f370 := (s366.get (by simp <;> omega) (s361.get (by simp <;> omega) F3))
        have f371 := (s366.get (by simp <;> omega) (s361.get (by simp <;> omega) F4))
        exact k _ (a) (x) (z363) (en) (dn) (tk) (hm) (on) (g359) (of) (og) ra rx (by omega) ren rdn rtk rhm ron og359 oof oog (((Sm.refl [m, m + 1, m + 2, m + 3, m + 4] _).tr s361 (fun _ q => q) (by simp)).tr s366 (fun _ q => q) (by simp)) f367 f368 f369 f370 f371
      · refine g_tabZI (10) 274 dX2_obey_40 ri c241 (by decide) (by decide) rfl rfl ?_
        refine g_aload_n 275 dX2_obey_274 rfl rfl ?_
        refine g_aload_n 276 dX2_obey_275 rfl rfl ?_
        refine g_get 279 dX2_obey_276 faX2_24_X2 F0 rfl rfl ?_
        refine g_putC (fs1 := [.ref (m + 1), .ref (m + 2), .int (iZ a), .int (iZ a), .int (iZ p), .int (iZ en), .int (iZ dn), .int (iZ tk), .int (iZ hm)]) 282 dX2_obey_279 fpX2_28_X2 F0 (nle rfl) (vI _) rfl rfl (fun h372 s373 f374 => ?_)
        refine g_goto 365 dX2_obey_282 rfl ?_
        refine g_aload_n 366 dX2_obey_365 rfl rfl ?_
        refine g_iload 368 dX2_obey_366 rfl rfl ?_
        refine g_sipush (v := iZ (255)) 371 dX2_obey_368 (by decide +kernel) rfl ?_
        refine g_and255Z (z231 % 256) 372 dX2_obey_371 rfl rfl ?_
        obtain ⟨z375, ez375, lz375, uz375⟩ : ∃ z : Int, z231 % 256 = z ∧ 0 ≤ z ∧ z < 256 := ⟨_, rfl, by omega, by omega⟩
        rw [ez375]
        refine g_putC (fs1 := [.ref (m + 1), .ref (m + 2), .int (iZ a), .int (iZ a), .int (iZ z375), .int (iZ en), .int (iZ dn), .int (iZ tk), .int (iZ hm)]) 375 dX2_obey_372 fpX2_31_X2 f374 (nle rfl) (vI _) rfl rfl (fun h376 s377 f378 => ?_)
        refine g_vret rfl dX2_obey_375 ?_
        have f379 := (s377.get (by simp <;> omega) (s373.get (by simp <;> omega) F1))
        have f380 := (s377.get (by simp <;> omega) (s373.get (by simp <;> omega) F2))
        have f381 := (s377.get (by simp <;> omega) (s373.get (by simp <;> omega) F3))
        have f382 := (s377.get (by simp <;> omega) (s373.get (by simp <;> omega) F4))
        exact k _ (a) (a) (z375) (en) (dn) (tk) (hm) (on) (mm) (of) (og) ra ra (by omega) ren rdn rtk rhm ron omm oof oog (((Sm.refl [m, m + 1, m + 2, m + 3, m + 4] _).tr s373 (fun _ q => q) (by simp)).tr s377 (fun _ q => q) (by simp)) f378 f379 f380 f381 f382
      · refine g_tabZI (11) 285 dX2_obey_40 ri c241 (by decide) (by decide) rfl rfl ?_
        refine g_iload_n 286 dX2_obey_285 rfl rfl ?_
        refine g_istore (L1 := [some (.ref m), some (.int (iZ i)), some (.ref t), some (.int (iZ z4)), some (.int (iZ z4))]) 288 dX2_obey_286 (by decide) rfl rfl rfl ?_
        refine g_goto 365 dX2_obey_288 rfl ?_
        refine g_aload_n 366 dX2_obey_365 rfl rfl ?_
        refine g_iload 368 dX2_obey_366 rfl rfl ?_
        refine g_sipush (v := iZ (255)) 371 dX2_obey_368 (by decide +kernel) rfl ?_
        refine g_and255Z (z4 % 256) 372 dX2_obey_371 rfl rfl ?_
        obtain ⟨z383, ez383, lz383, uz383⟩ : ∃ z : Int, z4 % 256 = z ∧ 0 ≤ z ∧ z < 256 := ⟨_, rfl, by omega, by omega⟩
        rw [ez383]
        refine g_putC (fs1 := [.ref (m + 1), .ref (m + 2), .int (iZ a), .int (iZ x), .int (iZ z383), .int (iZ en), .int (iZ dn), .int (iZ tk), .int (iZ hm)]) 375 dX2_obey_372 fpX2_31_X2 F0 (nle rfl) (vI _) rfl rfl (fun h384 s385 f386 => ?_)
        refine g_vret rfl dX2_obey_375 ?_
        have f387 := (s385.get (by simp <;> omega) F1)
        have f388 := (s385.get (by simp <;> omega) F2)
        have f389 := (s385.get (by simp <;> omega) F3)
        have f390 := (s385.get (by simp <;> omega) F4)
        exact k _ (a) (x) (z383) (en) (dn) (tk) (hm) (on) (mm) (of) (og) ra rx (by omega) ren rdn rtk rhm ron omm oof oog ((Sm.refl [m, m + 1, m + 2, m + 3, m + 4] _).tr s385 (fun _ q => q) (by simp)) f386 f387 f388 f389 f390
      · refine g_tabZI (12) 291 dX2_obey_40 ri c241 (by decide) (by decide) rfl rfl ?_
        refine g_aload_n 292 dX2_obey_291 rfl rfl ?_
        refine g_get 295 dX2_obey_292 faX2_24_X2 F0 rfl rfl ?_
        refine g_ifZ_ne 302 298 dX2_obey_295 rfl rfl ra (fun c391 => ?_) (fun c391 => ?_)
        · refine g_iload 304 dX2_obey_302 rfl rfl ?_
          refine g_istore (L1 := [some (.ref m), some (.int (iZ i)), some (.ref t), some (.int (iZ z4)), some (.int (iZ z231))]) 306 dX2_obey_304 (by decide) rfl rfl rfl ?_
          refine g_goto 365 dX2_obey_306 rfl ?_
          refine g_aload_n 366 dX2_obey_365 rfl rfl ?_
          refine g_iload 368 dX2_obey_366 rfl rfl ?_
          refine g_sipush (v := iZ (255)) 371 dX2_obey_368 (by decide +kernel) rfl ?_
          refine g_and255Z (z231 % 256) 372 dX2_obey_371 rfl rfl ?_
          obtain ⟨z392, ez392, lz392, uz392⟩ : ∃ z : Int, z231 % 256 = z ∧ 0 ≤ z ∧ z < 256 := ⟨_, rfl, by omega, by omega⟩
          rw [ez392]
          refine g_putC (fs1 := [.ref (m + 1), .ref (m + 2), .int (iZ a), .int (iZ x), .int (iZ z392), .int (iZ en), .int (iZ dn), .int (iZ tk), .int (iZ hm)]) 375 dX2_obey_372 fpX2_31_X2 F0 (nle rfl) (vI _) rfl rfl (fun h393 s394 f395 => ?_)
          refine g_vret rfl dX2_obey_375 ?_
          have f396 := (s394.get (by simp <;> omega) F1)
          have f397 := (s394.get (by simp <;> omega) F2)
          have f398 := (s394.get (by simp <;> omega) F3)
          have f399 := (s394.get (by simp <;> omega) F4)
          exact k _ (a) (x) (z392) (en) (dn) (tk) (hm) (on) (mm) (of) (og) ra rx (by omega) ren rdn rtk rhm ron omm oof oog ((Sm.refl [m, m + 1, m + 2, m + 3, m + 4] _).tr s394 (fun _ q => q) (by simp)) f395 f396 f397 f398 f399
        · refine g_iload_n 299 dX2_obey_298 rfl rfl ?_
          refine g_goto 304 dX2_obey_299 rfl ?_
          refine g_istore (L1 := [some (.ref m), some (.int (iZ i)), some (.ref t), some (.int (iZ z4)), some (.int (iZ z4))]) 306 dX2_obey_304 (by decide) rfl rfl rfl ?_
          refine g_goto 365 dX2_obey_306 rfl ?_
          refine g_aload_n 366 dX2_obey_365 rfl rfl ?_
          refine g_iload 368 dX2_obey_366 rfl rfl ?_
          refine g_sipush (v := iZ (255)) 371 dX2_obey_368 (by decide +kernel) rfl ?_
          refine g_and255Z (z4 % 256) 372 dX2_obey_371 rfl rfl ?_
          obtain ⟨z400, ez400, lz400, uz400⟩ : ∃ z : Int, z4 % 256 = z ∧ 0 ≤ z ∧ z < 256 := ⟨_, rfl, by omega, by omega⟩
          rw [ez400]
          refine g_putC (fs1 := [.ref (m + 1), .ref (m + 2), .int (iZ a), .int (iZ x), .int (iZ z400), .int (iZ en), .int (iZ dn), .int (iZ tk), .int (iZ hm)]) 375 dX2_obey_372 fpX2_31_X2 F0 (nle rfl) (vI _) rfl rfl (fun h401 s402 f403 => ?_)
          refine g_vret rfl dX2_obey_375 ?_
          have f404 := (s402.get (by simp <;> omega) F1)
          have f405 := (s402.get (by simp <;> omega) F2)
          have f406 := (s402.get (by simp <;> omega) F3)
          have f407 := (s402.get (by simp <;> omega) F4)
          exact k _ (a) (x) (z400) (en) (dn) (tk) (hm) (on) (mm) (of) (og) ra rx (by omega) ren rdn rtk rhm ron omm oof oog ((Sm.refl [m, m + 1, m + 2, m + 3, m + 4] _).tr s402 (fun _ q => q) (by simp)) f403 f404 f405 f406 f407
      · refine g_tabZI (13) 309 dX2_obey_40 ri c241 (by decide) (by decide) rfl rfl ?_
        refine g_aload_n 310 dX2_obey_309 rfl rfl ?_
        refine g_get 313 dX2_obey_310 faX2_34_X2 F0 rfl rfl ?_
        refine g_ifZ_eq 320 316 dX2_obey_313 rfl rfl (rg01 ren) (fun c408 => ?_) (fun c408 => ?_)
        · refine g_iload 322 dX2_obey_320 rfl rfl ?_
          refine g_istore (L1 := [some (.ref m), some (.int (iZ i)), some (.ref t), some (.int (iZ z4)), some (.int (iZ z231))]) 324 dX2_obey_322 (by decide) rfl rfl rfl ?_
          refine g_goto 365 dX2_obey_324 rfl ?_
          refine g_aload_n 366 dX2_obey_365 rfl rfl ?_
          refine g_iload 368 dX2_obey_366 rfl rfl ?_
          refine g_sipush (v := iZ (255)) 371 dX2_obey_368 (by decide +kernel) rfl ?_
          refine g_and255Z (z231 % 256) 372 dX2_obey_371 rfl rfl ?_
          obtain ⟨z409, ez409, lz409, uz409⟩ : ∃ z : Int, z231 % 256 = z ∧ 0 ≤ z ∧ z < 256 := ⟨_, rfl, by omega, by omega⟩
          rw [ez409]
          refine g_putC (fs1 := [.ref (m + 1), .ref (m + 2), .int (iZ a), .int (iZ x), .int (iZ z409), .int (iZ en), .int (iZ dn), .int (iZ tk), .int (iZ hm)]) 375 dX2_obey_372 fpX2_31_X2 F0 (nle rfl) (vI _) rfl rfl (fun h410 s411 f412 => ?_)
          refine g_vret rfl dX2_obey_375 ?_
          have f413 := (s411.get (by simp <;> omega) F1)
          have f414 := (s411.get (by simp <;> omega) F2)
          have f415 := (s411.get (by simp <;> omega) F3)
          have f416 := (s411.get (by simp <;> omega) F4)
          exact k _ (a) (x) (z409) (en) (dn) (tk) (hm) (on) (mm) (of) (og) ra rx (by omega) ren rdn rtk rhm ron omm oof oog ((Sm.refl [m, m + 1, m + 2, m + 3, m + 4] _).tr s411 (fun _ q => q) (by simp)) f412 f413 f414 f415 f416
        · refine g_iload_n 317 dX2_obey_316 rfl rfl ?_
          refine g_goto 322 dX2_obey_317 rfl ?_
          refine g_istore (L1 := [some (.ref m), some (.int (iZ i)), some (.ref t), some (.int (iZ z4)), some (.int (iZ z4))]) 324 dX2_obey_322 (by decide) rfl rfl rfl ?_
          refine g_goto 365 dX2_obey_324 rfl ?_
          refine g_aload_n 366 dX2_obey_365 rfl rfl ?_
          refine g_iload 368 dX2_obey_366 rfl rfl ?_
          refine g_sipush (v := iZ (255)) 371 dX2_obey_368 (by decide +kernel) rfl ?_
          refine g_and255Z (z4 % 256) 372 dX2_obey_371 rfl rfl ?_
          obtain ⟨z417, ez417, lz417, uz417⟩ : ∃ z : Int, z4 % 256 = z ∧ 0 ≤ z ∧ z < 256 := ⟨_, rfl, by omega, by omega⟩
          rw [ez417]
          refine g_putC (fs1 := [.ref (m + 1), .ref (m + 2), .int (iZ a), .int (iZ x), .int (iZ z417), .int (iZ en), .int (iZ dn), .int (iZ tk), .int (iZ hm)]) 375 dX2_obey_372 fpX2_31_X2 F0 (nle rfl) (vI _) rfl rfl (fun h418 s419 f420 => ?_)
          refine g_vret rfl dX2_obey_375 ?_
          have f421 := (s419.get (by simp <;> omega) F1)
          have f422 := (s419.get (by simp <;> omega) F2)
          have f423 := (s419.get (by simp <;> omega) F3)
          have f424 := (s419.get (by simp <;> omega) F4)
          exact k _ (a) (x) (z417) (en) (dn) (tk) (hm) (on) (mm) (of) (og) ra rx (by omega) ren rdn rtk rhm ron omm oof oog ((Sm.refl [m, m + 1, m + 2, m + 3, m + 4] _).tr s419 (fun _ q => q) (by simp)) f420 f421 f422 f423 f424
      · refine g_tabZI (14) 327 dX2_obey_40 ri c241 (by decide) (by decide) rfl rfl ?_
        refine g_aload_n 328 dX2_obey_327 rfl rfl ?_
        refine g_aload_n 329 dX2_obey_328 rfl rfl ?_
        refine g_get 332 dX2_obey_329 faX2_24_X2 F0 rfl rfl ?_
        refine g_iload_n 333 dX2_obey_332 rfl rfl ?_
        refine g_iadd 334 dX2_obey_333 rfl ?_
        refine Go.genZ (fun z425 rz425 => ?_)
        refine g_sipush (v := iZ (255)) 337 dX2_obey_334 (by decide +kernel) rfl ?_
        refine g_and255Z (z425 % 256) 338 dX2_obey_337 rfl rfl ?_
        obtain ⟨z426, ez426, lz426, uz426⟩ : ∃ z : Int, z425 % 256 = z ∧ 0 ≤ z ∧ z < 256 := ⟨_, rfl, by omega, by omega⟩
        rw [ez426]
        refine g_putC (fs1 := [.ref (m + 1), .ref (m + 2), .int (iZ z426), .int (iZ x), .int (iZ p), .int (iZ en), .int (iZ dn), .int (iZ tk), .int (iZ hm)]) 341 dX2_obey_338 fpX2_24_X2 F0 (nle rfl) (vI _) rfl rfl (fun h427 s428 f429 => ?_)
        refine g_goto 365 dX2_obey_341 rfl ?_
        refine g_aload_n 366 dX2_obey_365 rfl rfl ?_
        refine g_iload 368 dX2_obey_366 rfl rfl ?_
        refine g_sipush (v := iZ (255)) 371 dX2_obey_368 (by decide +kernel) rfl ?_
        refine g_and255Z (z231 % 256) 372 dX2_obey_371 rfl rfl ?_
        obtain ⟨z430, ez430, lz430, uz430⟩ : ∃ z : Int, z231 % 256 = z ∧ 0 ≤ z ∧ z < 256 := ⟨_, rfl, by omega, by omega⟩
        rw [ez430]
        refine g_putC (fs1 := [.ref (m + 1), .ref (m + 2), .int (iZ z426), .int (iZ x), .int (iZ z430), .int (iZ en), .int (iZ dn), .int (iZ tk), .int (iZ hm)]) 375 dX2_obey_372 fpX2_31_X2 f429 (nle rfl) (vI _) rfl rfl (fun h431 s432 f433 => ?_)
        refine g_vret rfl dX2_obey_375 ?_
        have f434 := (s432.get (by simp <;> omega) (s428.get (by simp <;> omega) F1))
        have f435 := (s432.get (by simp <;> omega) (s428.get (by simp <;> omega) F2))
        have f436 := (s432.get (by simp <;> omega) (s428.get (by simp <;> omega) F3))
        have f437 := (s432.get (by simp <;> omega) (s428.get (by simp <;> omega) F4))
        exact k _ (z426) (x) (z430) (en) (dn) (tk) (hm) (on) (mm) (of) (og) (by omega) rx (by omega) ren rdn rtk rhm ron omm oof oog (((Sm.refl [m, m + 1, m + 2, m + 3, m + 4] _).tr s428 (fun _ q => q) (by simp)).tr s432 (fun _ q => q) (by simp)) f433 f434 f435 f436 f437
      · refine g_tabZI (15) 344 dX2_obey_40 ri c241 (by decide) (by decide) rfl rfl ?_
        refine g_aload_n 345 dX2_obey_344 rfl rfl ?_
        refine g_get 348 dX2_obey_345 faX2_24_X2 F0 rfl rfl ?_
        refine g_sipush (v := iZ (128)) 351 dX2_obey_348 (by decide +kernel) rfl ?_
        refine g_icZ_lt 358 354 dX2_obey_351 rfl rfl ra (by decide) (fun c438 => ?_) (fun c438 => ?_)
        · refine g_iload 360 dX2_obey_358 rfl rfl ?_
          refine g_istore (L1 := [some (.ref m), some (.int (iZ i)), some (.ref t), some (.int (iZ z4)), some (.int (iZ z231))]) 362 dX2_obey_360 (by decide) rfl rfl rfl ?_
          refine g_goto 365 dX2_obey_362 rfl ?_
          refine g_aload_n 366 dX2_obey_365 rfl rfl ?_
          refine g_iload 368 dX2_obey_366 rfl rfl ?_
          refine g_sipush (v := iZ (255)) 371 dX2_obey_368 (by decide +kernel) rfl ?_
          refine g_and255Z (z231 % 256) 372 dX2_obey_371 rfl rfl ?_
          obtain ⟨z439, ez439, lz439, uz439⟩ : ∃ z : Int, z231 % 256 = z ∧ 0 ≤ z ∧ z < 256 := ⟨_, rfl, by omega, by omega⟩
          rw [ez439]
          refine g_putC (fs1 := [.ref (m + 1), .ref (m + 2), .int (iZ a), .int (iZ x), .int (iZ z439), .int (iZ en), .int (iZ dn), .int (iZ tk), .int (iZ hm)]) 375 dX2_obey_372 fpX2_31_X2 F0 (nle rfl) (vI _) rfl rfl (fun h440 s441 f442 => ?_)
          refine g_vret rfl dX2_obey_375 ?_
          have f443 := (s441.get (by simp <;> omega) F1)
          have f444 := (s441.get (by simp <;> omega) F2)
          have f445 := (s441.get (by simp <;> omega) F3)
          have f446 := (s441.get (by simp <;> omega) F4)
          exact k _ (a) (x) (z439) (en) (dn) (tk) (hm) (on) (mm) (of) (og) ra rx (by omega) ren rdn rtk rhm ron omm oof oog ((Sm.refl [m, m + 1, m + 2, m + 3, m + 4] _).tr s441 (fun _ q => q) (by simp)) f442 f443 f444 f445 f446
        · refine g_iload_n 355 dX2_obey_354 rfl rfl ?_
          refine g_goto 360 dX2_obey_355 rfl ?_
          refine g_istore (L1 := [some (.ref m), some (.int (iZ i)), some (.ref t), some (.int (iZ z4)), some (.int (iZ z4))]) 362 dX2_obey_360 (by decide) rfl rfl rfl ?_
          refine g_goto 365 dX2_obey_362 rfl ?_
          refine g_aload_n 366 dX2_obey_365 rfl rfl ?_
          refine g_iload 368 dX2_obey_366 rfl rfl ?_
          refine g_sipush (v := iZ (255)) 371 dX2_obey_368 (by decide +kernel) rfl ?_
          refine g_and255Z (z4 % 256) 372 dX2_obey_371 rfl rfl ?_
          obtain ⟨z447, ez447, lz447, uz447⟩ : ∃ z : Int, z4 % 256 = z ∧ 0 ≤ z ∧ z < 256 := ⟨_, rfl, by omega, by omega⟩
          rw [ez447]
          refine g_putC (fs1 := [.ref (m + 1), .ref (m + 2), .int (iZ a), .int (iZ x), .int (iZ z447), .int (iZ en), .int (iZ dn), .int (iZ tk), .int (iZ hm)]) 375 dX2_obey_372 fpX2_31_X2 F0 (nle rfl) (vI _) rfl rfl (fun h448 s449 f450 => ?_)
          refine g_vret rfl dX2_obey_375 ?_
          have f451 := (s449.get (by simp <;> omega) F1)
          have f452 := (s449.get (by simp <;> omega) F2)
          have f453 := (s449.get (by simp <;> omega) F3)
          have f454 := (s449.get (by simp <;> omega) F4)
          exact k _ (a) (x) (z447) (en) (dn) (tk) (hm) (on) (mm) (of) (og) ra rx (by omega) ren rdn rtk rhm ron omm oof oog ((Sm.refl [m, m + 1, m + 2, m + 3, m + 4] _).tr s449 (fun _ q => q) (by simp)) f450 f451 f452 f453 f454
set_option maxRecDepth 100000 in
theorem w_load_l {l : Launch} {Q : Option Value → MH → Prop} {m c M : Nat} {n : Int} {f g : Nat → Int} (of1 : okr f) (og1 : okr g) (rn : rg n) (hM : M ≤ 256) (hc1 : c ≠ m + 1) (hc2 : c + 1 ≠ m + 1) (hc3 : c + 2 ≠ m + 1) : ∀ (m0 : Nat) (h : MH) (a x p en dn tk hm on : Int) (mm : Nat → Int) (j : Int), (256 - j).toNat = m0 → rg a → rg x → rg p → (en = 0 ∨ en = 1) → rg dn → rg tk → rg hm → rg on → okr mm → h[m]? = some (.inr (2, [.ref (m + 1), .ref (m + 2), .int (iZ a), .int (iZ x), .int (iZ p), .int (iZ en), .int (iZ dn), .int (iZ tk), .int (iZ hm)])) → h[m + 1]? = some (.inl (0, 256, .inl (zA mm))) → h[m + 2]? = some (.inr (0, [.int (iZ 256), .ref (m + 3), .ref (m + 4), .int (iZ on)])) → h[c]? = some (.inr (0, [.int (iZ ((M : Int))), .ref (c + 1), .ref (c + 2), .int (iZ n)])) → h[c + 1]? = some (.inl (0, M, .inl (zA f))) → h[c + 2]? = some (.inl (0, M, .inl (zA g))) → 0 ≤ j ∧ j ≤ 256 → (∀ (h1 : MH) (a_1 x_1 p_1 en_1 dn_1 tk_1 hm_1 on_1 : Int) (mm_1 : Nat → Int), rg a_1 → rg x_1 → rg p_1 → (en_1 = 0 ∨ en_1 = 1) → rg dn_1 → rg tk_1 → rg hm_1 → rg on_1 → okr mm_1 → Sm [m, m + 1, m + 2] h h1 → h1[m]? = some (.inr (2, [.ref (m + 1), .ref (m + 2), .int (iZ a_1), .int (iZ x_1), .int (iZ p_1), .int (iZ en_1), .int (iZ dn_1), .int (iZ tk_1), .int (iZ hm_1)])) → h1[m + 1]? = some (.inl (0, 256, .inl (zA mm_1))) → h1[m + 2]? = some (.inr (0, [.int (iZ 256), .ref (m + 3), .ref (m + 4), .int (iZ on_1)])) → Q none h1) → Go l mX2_load 2 [some (.ref m), some (.ref c), some (.int (iZ j))] [] h Q := by
  intro m0
  induction m0 using Nat.strongRecOn with
  | ind m0 ih =>
    intro h a x p en dn tk hm on mm j hmz ra rx rp ren rdn rtk rhm ron omm F0 F1 F2 F3 F4 F5 hj k
    refine g_iload_n 3 dX2_load_2 rfl rfl ?_
    refine g_sipush (v := iZ (256)) 6 dX2_load_3 (by decide +kernel) rfl ?_
    refine g_icZ_ge 38 9 dX2_load_6 rfl rfl (by omega) (by decide) (fun c1 => ?_) (fun c1 => ?_)
    · refine g_aload_n 39 dX2_load_38 rfl rfl ?_
      refine g_get 42 dX2_load_39 faX2_20_X2 F0 rfl rfl ?_
      refine g_iconst (v := iZ (0)) 43 dX2_load_42 rfl rfl ?_
      refine g_putC (fs1 := [.int (iZ 256), .ref (m + 3), .ref (m + 4), .int (iZ 0)]) 46 dX2_load_43 fpX2_51_X0 F2 (nle rfl) (vI _) rfl rfl (fun h2 s3 f4 => ?_)
      refine g_aload_n 47 dX2_load_46 rfl rfl ?_
      refine g_iconst (v := iZ (0)) 48 dX2_load_47 rfl rfl ?_
      have f5 := (s3.get (by simp <;> omega) F0)
      refine g_putC (fs1 := [.ref (m + 1), .ref (m + 2), .int (iZ 0), .int (iZ x), .int (iZ p), .int (iZ en), .int (iZ dn), .int (iZ tk), .int (iZ hm)]) 51 dX2_load_48 fpX2_24_X2 f5 (nle rfl) (vI _) rfl rfl (fun h6 s7 f8 => ?_)
      refine g_aload_n 52 dX2_load_51 rfl rfl ?_
      refine g_iconst (v := iZ (0)) 53 dX2_load_52 rfl rfl ?_
      refine g_putC (fs1 := [.ref (m + 1), .ref (m + 2), .int (iZ 0), .int (iZ 0), .int (iZ p), .int (iZ en), .int (iZ dn), .int (iZ tk), .int (iZ hm)]) 56 dX2_load_53 fpX2_28_X2 f8 (nle rfl) (vI _) rfl rfl (fun h9 s10 f11 => ?_)
      refine g_aload_n 57 dX2_load_56 rfl rfl ?_
      refine g_iconst (v := iZ (0)) 58 dX2_load_57 rfl rfl ?_
      refine g_putC (fs1 := [.ref (m + 1), .ref (m + 2), .int (iZ 0), .int (iZ 0), .int (iZ 0), .int (iZ en), .int (iZ dn), .int (iZ tk), .int (iZ hm)]) 61 dX2_load_58 fpX2_31_X2 f11 (nle rfl) (vI _) rfl rfl (fun h12 s13 f14 => ?_)
      refine g_aload_n 62 dX2_load_61 rfl rfl ?_
      refine g_iconst (v := iZ (0)) 63 dX2_load_62 rfl rfl ?_
      refine g_putC (fs1 := [.ref (m + 1), .ref (m + 2), .int (iZ 0), .int (iZ 0), .int (iZ 0), .int (iZ 0), .int (iZ dn), .int (iZ tk), .int (iZ hm)]) 66 dX2_load_63 fpX2_34_X2 f14 (nle rfl) vZ0 rfl rfl (fun h15 s16 f17 => ?_)
      refine g_aload_n 67 dX2_load_66 rfl rfl ?_
      refine g_iconst (v := iZ (0)) 68 dX2_load_67 rfl rfl ?_
      refine g_putC (fs1 := [.ref (m + 1), .ref (m + 2), .int (iZ 0), .int (iZ 0), .int (iZ 0), .int (iZ 0), .int (iZ 0), .int (iZ tk), .int (iZ hm)]) 71 dX2_load_68 fpX2_38_X2 f17 (nle rfl) (vI _) rfl rfl (fun h18 s19 f20 => ?_)
      refine g_aload_n 72 dX2_load_71 rfl rfl ?_
      refine g_iconst (v := iZ (0)) 73 dX2_load_72 rfl rfl ?_
      refine g_putC (fs1 := [.ref (m + 1), .ref (m + 2), .int (iZ 0), .int (iZ 0), .int (iZ 0), .int (iZ 0), .int (iZ 0), .int (iZ 0), .int (iZ hm)]) 76 dX2_load_73 fpX2_41_X2 f20 (nle rfl) (vI _) rfl rfl (fun h21 s22 f23 => ?_)
      refine g_aload_n 77 dX2_load_76 rfl rfl ?_
      refine g_iconst (v := iZ (0)) 78 dX2_load_77 rfl rfl ?_
      refine g_putC (fs1 := [.ref (m + 1), .ref (m + 2), .int (iZ 0), .int (iZ 0), .int (iZ 0), .int (iZ 0), .int (iZ 0), .int (iZ 0), .int (iZ 0)]) 81 dX2_load_78 fpX2_44_X2 f23 (nle rfl) (vI _) rfl rfl (fun h24 s25 f26 => ?_)
      refine g_vret rfl dX2_load_81 ?_
      have f27 := (s25.get (by simp <;> omega) (s22.get (by simp <;> omega) (s19.get (by simp <;> omega) (s16.get (by simp <;> omega) (s13.get (by simp <;> omega) (s10.get (by simp <;> omega) (s7.get (by simp <;> omega) (s3.get (by simp <;> omega) F1))))))))
      have f28 := (s25.get (by simp <;> omega) (s22.get (by simp <;> omega) (s19.get (by simp <;> omega) (s16.get (by simp <;> omega) (s13.get (by simp <;> omega) (s10.get (by simp <;> omega) (s7.get (by simp <;> omega) f4)))))))
      exact k _ (0) (0) (0) (0) (0) (0) (0) (0) (mm) (by decide) (by decide) (by decide) (Or.inl rfl) (by decide) (by decide) (by decide) (by decide) omm (((((((((Sm.refl [m, m + 1, m + 2] _).tr s3 (fun _ q => q) (by simp)).tr s7 (fun _ q => q) (by simp)).tr s10 (fun _ q => q) (by simp)).tr s13 (fun _ q => q) (by simp)).tr s16 (fun _ q => q) (by simp)).tr s19 (fun _ q => q) (by simp)).tr s22 (fun _ q => q) (by simp)).tr s25 (fun _ q => q) (by simp)) f26 f27 f28
    · refine g_aload_n 10 dX2_load_9 rfl rfl ?_
      refine g_get 13 dX2_load_10 faX2_9_X2 F0 rfl rfl ?_
      refine g_iload_n 14 dX2_load_13 rfl rfl ?_
      refine g_iload_n 15 dX2_load_14 rfl rfl ?_
      refine g_aload_n 16 dX2_load_15 rfl rfl ?_
      refine g_get 19 dX2_load_16 faX2_51_X0 F3 rfl rfl ?_
      refine g_icZ_ge 30 22 dX2_load_19 rfl rfl (by omega) rn (fun c29 => ?_) (fun c29 => ?_)
      · refine g_iconst (v := iZ (0)) 31 dX2_load_30 rfl rfl ?_
        refine g_iastW 32 dX2_load_31 F1 omm (by decide) (by omega) (by omega) (by decide) rfl (fun h31 g30 og30 s32 f33 => ?_)
        refine g_iincZ [some (.ref m), some (.ref c), some (.int (iZ (j + 1)))] 35 dX2_load_32 rfl (by omega) (by decide) rfl rfl rfl ?_
        refine g_goto 2 dX2_load_35 rfl ?_
        have f34 := (s32.get (by simp <;> omega) F0)
        have f35 := (s32.get (by simp <;> omega) F2)
        have f36 := (s32.get (by simp <;> omega) F3)
        have f37 := (s32.get (by simp <;> omega) F4)
        have f38 := (s32.get (by simp <;> omega) F5)
        exact ih _ (by omega) _ (a) (x) (p) (en) (dn) (tk) (hm) (on) (g30) (j + 1) rfl ra rx rp ren rdn rtk rhm ron og30 f34 f33 f35 f36 f37 f38 (by omega) (fun hQ xQ0 xQ1 xQ2 xQ3 xQ4 xQ5 xQ6 xQ7 xQ8 yQ0 yQ1 yQ2 yQ3 yQ4 yQ5 yQ6 yQ7 yQ8 sQ uQ0 uQ1 uQ2 => k hQ xQ0 xQ1 xQ2 xQ3 xQ4 xQ5 xQ6 xQ7 xQ8 yQ0 yQ1 yQ2 yQ3 yQ4 yQ5 yQ6 yQ7 yQ8 (((Sm.refl [m, m + 1, m + 2] _).tr s32 (fun _ q => q) (by simp)).tr sQ (fun _ q => q) (fun _ q => q)) uQ0 uQ1 uQ2)
      · refine g_aload_n 23 dX2_load_22 rfl rfl ?_
        refine g_iload_n 24 dX2_load_23 rfl rfl ?_
        refine g_callV (z := mX0_at) (As := [.int (iZ j)]) 27 dX2_load_24 mwX0_at ⟨by decide, by decide⟩ rfl wlX2_66 wiX0_at wsX0_at F3 rfl rfl rfl (nle rfl) (nle rfl) rfl ?_
        refine w_cat (M := M) F3 F4 F5 of1 og1 rn (by omega) (by omega) (fun z39 rz39 => ?_)
        refine rI ?_
        refine g_goto 31 dX2_load_27 rfl ?_
        refine g_iastW 32 dX2_load_31 F1 omm rz39 (by omega) (by omega) (by decide) rfl (fun h41 g40 og40 s42 f43 => ?_)
        refine g_iincZ [some (.ref m), some (.ref c), some (.int (iZ (j + 1)))] 35 dX2_load_32 rfl (by omega) (by decide) rfl rfl rfl ?_
        refine g_goto 2 dX2_load_35 rfl ?_
        have f44 := (s42.get (by simp <;> omega) F0)
        have f45 := (s42.get (by simp <;> omega) F2)
        have f46 := (s42.get (by simp <;> omega) F3)
        have f47 := (s42.get (by simp <;> omega) F4)
        have f48 := (s42.get (by simp <;> omega) F5)
        exact ih _ (by omega) _ (a) (x) (p) (en) (dn) (tk) (hm) (on) (g40) (j + 1) rfl ra rx rp ren rdn rtk rhm ron og40 f44 f43 f45 f46 f47 f48 (by omega) (fun hQ xQ0 xQ1 xQ2 xQ3 xQ4 xQ5 xQ6 xQ7 xQ8 yQ0 yQ1 yQ2 yQ3 yQ4 yQ5 yQ6 yQ7 yQ8 sQ uQ0 uQ1 uQ2 => k hQ xQ0 xQ1 xQ2 xQ3 xQ4 xQ5 xQ6 xQ7 xQ8 yQ0 yQ1 yQ2 yQ3 yQ4 yQ5 yQ6 yQ7 yQ8 (((Sm.refl [m, m + 1, m + 2] _).tr s42 (fun _ q => q) (by simp)).tr sQ (fun _ q => q) (fun _ q => q)) uQ0 uQ1 uQ2)
set_option maxRecDepth 100000 in
theorem w_load {l : Launch} {h : MH} {Q : Option Value → MH → Prop} {m : Nat} {a x p en dn tk hm on n : Int} {c M : Nat} {f g mm : Nat → Int} (F0 : h[m]? = some (.inr (2, [.ref (m + 1), .ref (m + 2), .int (iZ a), .int (iZ x), .int (iZ p), .int (iZ en), .int (iZ dn), .int (iZ tk), .int (iZ hm)]))) (F1 : h[m + 1]? = some (.inl (0, 256, .inl (zA mm)))) (F2 : h[m + 2]? = some (.inr (0, [.int (iZ 256), .ref (m + 3), .ref (m + 4), .int (iZ on)]))) (F3 : h[c]? = some (.inr (0, [.int (iZ ((M : Int))), .ref (c + 1), .ref (c + 2), .int (iZ n)]))) (F4 : h[c + 1]? = some (.inl (0, M, .inl (zA f)))) (F5 : h[c + 2]? = some (.inl (0, M, .inl (zA g)))) (omm : okr mm) (of1 : okr f) (og1 : okr g) (ra : rg a) (rx : rg x) (rp : rg p) (ren : (en = 0 ∨ en = 1)) (rdn : rg dn) (rtk : rg tk) (rhm : rg hm) (ron : rg on) (rn : rg n) (hM : M ≤ 256) (hc1 : c ≠ m + 1) (hc2 : c + 1 ≠ m + 1) (hc3 : c + 2 ≠ m + 1) (k : ∀ (h1 : MH) (a_1 x_1 p_1 en_1 dn_1 tk_1 hm_1 on_1 : Int) (mm_1 : Nat → Int), rg a_1 → rg x_1 → rg p_1 → (en_1 = 0 ∨ en_1 = 1) → rg dn_1 → rg tk_1 → rg hm_1 → rg on_1 → okr mm_1 → Sm [m, m + 1, m + 2] h h1 → h1[m]? = some (.inr (2, [.ref (m + 1), .ref (m + 2), .int (iZ a_1), .int (iZ x_1), .int (iZ p_1), .int (iZ en_1), .int (iZ dn_1), .int (iZ tk_1), .int (iZ hm_1)])) → h1[m + 1]? = some (.inl (0, 256, .inl (zA mm_1))) → h1[m + 2]? = some (.inr (0, [.int (iZ 256), .ref (m + 3), .ref (m + 4), .int (iZ on_1)])) → Q none h1) : Go l mX2_load 0 [some (.ref m), some (.ref c), none] [] h Q := by
  refine g_iconst (v := iZ (0)) 1 dX2_load_0 rfl rfl ?_
  refine g_istore_n (L1 := [some (.ref m), some (.ref c), some (.int (iZ 0))]) 2 dX2_load_1 (by decide) rfl rfl rfl ?_
  exact w_load_l of1 og1 rn hM hc1 hc2 hc3 _ _ (a) (x) (p) (en) (dn) (tk) (hm) (on) (mm) (0) rfl ra rx rp ren rdn rtk rhm ron omm F0 F1 F2 F3 F4 F5 (by omega) k
set_option maxRecDepth 100000 in
theorem w_go_l {l : Launch} {Q : Option Value → MH → Prop} {m t : Nat} {tn : Int} {tf : Nat → Int} (otf : okr tf) (rtn : rg tn) (ht : m + 4 < t) : ∀ (m0 : Nat) (h : MH) (a x p en dn tk hm on : Int) (mm of og : Nat → Int) (q j : Int), (5001 - j).toNat = m0 → rg a → rg x → rg p → (en = 0 ∨ en = 1) → rg dn → rg tk → rg hm → rg on → okr mm → okr of → okr og → h[m]? = some (.inr (2, [.ref (m + 1), .ref (m + 2), .int (iZ a), .int (iZ x), .int (iZ p), .int (iZ en), .int (iZ dn), .int (iZ tk), .int (iZ hm)])) → h[m + 1]? = some (.inl (0, 256, .inl (zA mm))) → h[m + 2]? = some (.inr (0, [.int (iZ 256), .ref (m + 3), .ref (m + 4), .int (iZ on)])) → h[m + 3]? = some (.inl (0, 256, .inl (zA of))) → h[m + 4]? = some (.inl (0, 256, .inl (zA og))) → h[t]? = some (.inr (5, [.ref (t + 1), .int (iZ tn)])) → h[t + 1]? = some (.inl (0, 200, .inl (zA tf))) → q = 0 ∨ q = 1 → 0 ≤ j ∧ j ≤ 5001 → (∀ (h1 : MH) (a_1 x_1 p_1 en_1 dn_1 tk_1 hm_1 on_1 : Int) (mm_1 of_1 og_1 : Nat → Int), rg a_1 → rg x_1 → rg p_1 → (en_1 = 0 ∨ en_1 = 1) → rg dn_1 → rg tk_1 → rg hm_1 → rg on_1 → okr mm_1 → okr of_1 → okr og_1 → Sm [m, m + 1, m + 2, m + 3, m + 4] h h1 → h1[m]? = some (.inr (2, [.ref (m + 1), .ref (m + 2), .int (iZ a_1), .int (iZ x_1), .int (iZ p_1), .int (iZ en_1), .int (iZ dn_1), .int (iZ tk_1), .int (iZ hm_1)])) → h1[m + 1]? = some (.inl (0, 256, .inl (zA mm_1))) → h1[m + 2]? = some (.inr (0, [.int (iZ 256), .ref (m + 3), .ref (m + 4), .int (iZ on_1)])) → h1[m + 3]? = some (.inl (0, 256, .inl (zA of_1))) → h1[m + 4]? = some (.inl (0, 256, .inl (zA og_1))) → Q none h1) → Go l mX2_goThrough 10 [some (.ref m), none, some (.ref t), some (.int (iZ q)), some (.int (iZ j)), none] [] h Q := by
  intro m0
  induction m0 using Nat.strongRecOn with
  | ind m0 ih =>
    intro h a x p en dn tk hm on mm of og q j hmz ra rx rp ren rdn rtk rhm ron omm oof oog F0 F1 F2 F3 F4 F8 F9 hq hj k
    refine g_iload_n 11 dX2_goThrough_10 rfl rfl ?_
    refine g_ifZ_eq 95 14 dX2_goThrough_11 rfl rfl (rg01 hq) (fun c1 => ?_) (fun c1 => ?_)
    · refine g_vret rfl dX2_goThrough_95 ?_
      exact k _ (a) (x) (p) (en) (dn) (tk) (hm) (on) (mm) (of) (og) ra rx rp ren rdn rtk rhm ron omm oof oog (Sm.refl [m, m + 1, m + 2, m + 3, m + 4] _) F0 F1 F2 F3 F4
    · refine g_iload 16 dX2_goThrough_14 rfl rfl ?_
      refine g_sipush (v := iZ (5000)) 19 dX2_goThrough_16 (by decide +kernel) rfl ?_
      refine g_icZ_gt 95 22 dX2_goThrough_19 rfl rfl (by omega) (by decide) (fun c2 => ?_) (fun c2 => ?_)
      · refine g_vret rfl dX2_goThrough_95 ?_
        exact k _ (a) (x) (p) (en) (dn) (tk) (hm) (on) (mm) (of) (og) ra rx rp ren rdn rtk rhm ron omm oof oog (Sm.refl [m, m + 1, m + 2, m + 3, m + 4] _) F0 F1 F2 F3 F4
      · refine g_aload_n 23 dX2_goThrough_22 rfl rfl ?_
        refine g_get 26 dX2_goThrough_23 faX2_9_X2 F0 rfl rfl ?_
        refine g_aload_n 27 dX2_goThrough_26 rfl rfl ?_
        refine g_get 30 dX2_goThrough_27 faX2_31_X2 F0 rfl rfl ?_
        refine g_sipush (v := iZ (255)) 33 dX2_goThrough_30 (by decide +kernel) rfl ?_
        refine g_and255Z (p % 256) 34 dX2_goThrough_33 rfl rfl ?_
        obtain ⟨z3, ez3, lz3, uz3⟩ : ∃ z : Int, p % 256 = z ∧ 0 ≤ z ∧ z < 256 := ⟨_, rfl, by omega, by omega⟩
        rw [ez3]
        refine g_ialdW 35 dX2_goThrough_34 F1 omm (by omega) (by omega) (by decide) rfl (fun v4 rv4 => ?_)
        refine g_istore (L1 := [some (.ref m), none, some (.ref t), some (.int (iZ q)), some (.int (iZ j)), some (.int (iZ v4))]) 37 dX2_goThrough_35 (by decide) rfl rfl rfl ?_
        refine g_aload_n 38 dX2_goThrough_37 rfl rfl ?_
        refine g_aload_n 39 dX2_goThrough_38 rfl rfl ?_
        refine g_iload 41 dX2_goThrough_39 rfl rfl ?_
        refine g_callV (z := mX2_harmOf) (As := [.int (iZ v4)]) 44 dX2_goThrough_41 mwX2_harmOf ⟨by decide, by decide⟩ rfl wlX2_58 wiX2_harmOf wsX2_harmOf F0 rfl rfl rfl (nle rfl) (nle rfl) rfl ?_
        refine w_harm  F0 F2 ra rx rp ren rdn rtk rhm ron rv4 (fun z5 rz5 => ?_)
        refine rI ?_
        refine g_putC (fs1 := [.ref (m + 1), .ref (m + 2), .int (iZ a), .int (iZ x), .int (iZ p), .int (iZ en), .int (iZ dn), .int (iZ tk), .int (iZ z5)]) 47 dX2_goThrough_44 fpX2_44_X2 F0 (nle rfl) (vI _) rfl rfl (fun h6 s7 f8 => ?_)
        refine g_aload_n 48 dX2_goThrough_47 rfl rfl ?_
        refine g_get 51 dX2_goThrough_48 faX2_44_X2 f8 rfl rfl ?_
        refine g_ifZ_ne 63 54 dX2_goThrough_51 rfl rfl rz5 (fun c9 => ?_) (fun c9 => ?_)
        · refine g_iconst (v := iZ (0)) 64 dX2_goThrough_63 rfl rfl ?_
          refine g_istore_n (L1 := [some (.ref m), none, some (.ref t), some (.int (iZ 0)), some (.int (iZ j)), some (.int (iZ v4))]) 65 dX2_goThrough_64 (by decide) rfl rfl rfl ?_
          refine g_aload_n 66 dX2_goThrough_65 rfl rfl ?_
          refine g_get 69 dX2_goThrough_66 faX2_44_X2 f8 rfl rfl ?_
          refine g_ifZ_ne 89 72 dX2_goThrough_69 rfl rfl rz5 (fun _ => ?_) (fun q => absurd q (by omega))
          refine g_iincZ [some (.ref m), none, some (.ref t), some (.int (iZ 0)), some (.int (iZ (j + 1))), some (.int (iZ v4))] 92 dX2_goThrough_89 rfl (by omega) (by decide) rfl rfl rfl ?_
          refine g_goto 10 dX2_goThrough_92 rfl ?_
          refine Go.fgt 5 ?_
          have f10 := (s7.get (by simp <;> omega) F1)
          have f11 := (s7.get (by simp <;> omega) F2)
          have f12 := (s7.get (by simp <;> omega) F3)
          have f13 := (s7.get (by simp <;> omega) F4)
          have f14 := (s7.get (by simp <;> omega) F8)
          have f15 := (s7.get (by simp <;> omega) F9)
          exact ih _ (by omega) _ (a) (x) (p) (en) (dn) (tk) (z5) (on) (mm) (of) (og) (0) (j + 1) rfl ra rx rp ren rdn rtk rz5 ron omm oof oog f8 f10 f11 f12 f13 f14 f15 (Or.inl rfl) (by omega) (fun hQ xQ0 xQ1 xQ2 xQ3 xQ4 xQ5 xQ6 xQ7 xQ8 xQ9 xQ10 yQ0 yQ1 yQ2 yQ3 yQ4 yQ5 yQ6 yQ7 yQ8 yQ9 yQ10 sQ uQ0 uQ1 uQ2 uQ3 uQ4 => k hQ xQ0 xQ1 xQ2 xQ3 xQ4 xQ5 xQ6 xQ7 xQ8 xQ9 xQ10 yQ0 yQ1 yQ2 yQ3 yQ4 yQ5 yQ6 yQ7 yQ8 yQ9 yQ10 (((Sm.refl [m, m + 1, m + 2, m + 3, m + 4] _).tr s7 (fun _ q => q) (by simp)).tr sQ (fun _ q => q) (fun _ q => q)) uQ0 uQ1 uQ2 uQ3 uQ4)
        · refine g_iload 56 dX2_goThrough_54 rfl rfl ?_
          refine g_ifZ_eq 63 59 dX2_goThrough_56 rfl rfl rv4 (fun c16 => ?_) (fun c16 => ?_)
          · refine g_iconst (v := iZ (0)) 64 dX2_goThrough_63 rfl rfl ?_
            refine g_istore_n (L1 := [some (.ref m), none, some (.ref t), some (.int (iZ 0)), some (.int (iZ j)), some (.int (iZ v4))]) 65 dX2_goThrough_64 (by decide) rfl rfl rfl ?_
            refine g_aload_n 66 dX2_goThrough_65 rfl rfl ?_
            refine g_get 69 dX2_goThrough_66 faX2_44_X2 f8 rfl rfl ?_
            refine g_ifZ_ne 89 72 dX2_goThrough_69 rfl rfl rz5 (fun q => absurd q (by omega)) (fun _ => ?_)
            refine g_aload_n 73 dX2_goThrough_72 rfl rfl ?_
            refine g_iload 75 dX2_goThrough_73 rfl rfl ?_
            refine g_aload_n 76 dX2_goThrough_75 rfl rfl ?_
            refine g_callV (z := mX2_obey) (As := [.int (iZ v4), .ref t]) 79 dX2_goThrough_76 mwX2_obey ⟨by decide, by decide⟩ rfl wlX2_62 wiX2_obey wsX2_obey f8 rfl rfl rfl (nle rfl) (nle rfl) rfl ?_
            have f17 := (s7.get (by simp <;> omega) F1)
            have f18 := (s7.get (by simp <;> omega) F2)
            have f19 := (s7.get (by simp <;> omega) F3)
            have f20 := (s7.get (by simp <;> omega) F4)
            have f21 := (s7.get (by simp <;> omega) F8)
            have f22 := (s7.get (by simp <;> omega) F9)
            refine w_obey  f8 f17 f18 f19 f20 f21 f22 omm oof oog otf ra rx rp ren rdn rtk rz5 ron rtn rv4 (by omega) (fun h23 z25 z26 z27 z28 z29 z30 z31 z33 g32 g34 g35 rz25 rz26 rz27 rz28 rz29 rz30 rz31 rz33 og32 og34 og35 s24 f36 f37 f38 f39 f40 => ?_)
            refine rV ?_
            refine g_aload_n 80 dX2_goThrough_79 rfl rfl ?_
            refine g_dup 81 dX2_goThrough_80 rfl rfl ?_
            refine g_get 84 dX2_goThrough_81 faX2_38_X2 f36 rfl rfl ?_
            refine g_iconst (v := iZ (1)) 85 dX2_goThrough_84 rfl rfl ?_
            refine g_iadd 86 dX2_goThrough_85 rfl ?_
            refine Go.genZ (fun z41 rz41 => ?_)
            refine g_putC (fs1 := [.ref (m + 1), .ref (m + 2), .int (iZ z25), .int (iZ z26), .int (iZ z27), .int (iZ z28), .int (iZ z41), .int (iZ z30), .int (iZ z31)]) 89 dX2_goThrough_86 fpX2_38_X2 f36 (nle rfl) (vI _) rfl rfl (fun h42 s43 f44 => ?_)
            refine g_iincZ [some (.ref m), none, some (.ref t), some (.int (iZ 0)), some (.int (iZ (j + 1))), some (.int (iZ v4))] 92 dX2_goThrough_89 rfl (by omega) (by decide) rfl rfl rfl ?_
            refine g_goto 10 dX2_goThrough_92 rfl ?_
            refine Go.fgt 5 ?_
            have f45 := (s43.get (by simp <;> omega) f37)
            have f46 := (s43.get (by simp <;> omega) f38)
            have f47 := (s43.get (by simp <;> omega) f39)
            have f48 := (s43.get (by simp <;> omega) f40)
            have f49 := (s43.get (by simp <;> omega) (s24.get (by simp <;> omega) f21))
            have f50 := (s43.get (by simp <;> omega) (s24.get (by simp <;> omega) f22))
            exact ih _ (by omega) _ (z25) (z26) (z27) (z28) (z41) (z30) (z31) (z33) (g32) (g34) (g35) (0) (j + 1) rfl rz25 rz26 rz27 rz28 rz41 rz30 rz31 rz33 og32 og34 og35 f44 f45 f46 f47 f48 f49 f50 (Or.inl rfl) (by omega) (fun hQ xQ0 xQ1 xQ2 xQ3 xQ4 xQ5 xQ6 xQ7 xQ8 xQ9 xQ10 yQ0 yQ1 yQ2 yQ3 yQ4 yQ5 yQ6 yQ7 yQ8 yQ9 yQ10 sQ uQ0 uQ1 uQ2 uQ3 uQ4 => k hQ xQ0 xQ1 xQ2 xQ3 xQ4 xQ5 xQ6 xQ7 xQ8 xQ9 xQ10 yQ0 yQ1 yQ2 yQ3 yQ4 yQ5 yQ6 yQ7 yQ8 yQ9 yQ10 (((((Sm.refl [m, m + 1, m + 2, m + 3, m + 4] _).tr s7 (fun _ q => q) (by simp)).tr s24 (fun _ q => q) (by simp)).tr s43 (fun _ q => q) (by simp)).tr sQ (fun _ q => q) (fun _ q => q)) uQ0 uQ1 uQ2 uQ3 uQ4)
          · refine g_iconst (v := iZ (1)) 60 dX2_goThrough_59 rfl rfl ?_
            refine g_goto 64 dX2_goThrough_60 rfl ?_
            refine g_istore_n (L1 := [some (.ref m), none, some (.ref t), some (.int (iZ 1)), some (.int (iZ j)), some (.int (iZ v4))]) 65 dX2_goThrough_64 (by decide) rfl rfl rfl ?_
            refine g_aload_n 66 dX2_goThrough_65 rfl rfl ?_
            refine g_get 69 dX2_goThrough_66 faX2_44_X2 f8 rfl rfl ?_
            refine g_ifZ_ne 89 72 dX2_goThrough_69 rfl rfl rz5 (fun q => absurd q (by omega)) (fun _ => ?_)
            refine g_aload_n 73 dX2_goThrough_72 rfl rfl ?_
            refine g_iload 75 dX2_goThrough_73 rfl rfl ?_
            refine g_aload_n 76 dX2_goThrough_75 rfl rfl ?_
            refine g_callV (z := mX2_obey) (As := [.int (iZ v4), .ref t]) 79 dX2_goThrough_76 mwX2_obey ⟨by decide, by decide⟩ rfl wlX2_62 wiX2_obey wsX2_obey f8 rfl rfl rfl (nle rfl) (nle rfl) rfl ?_
            have f51 := (s7.get (by simp <;> omega) F1)
            have f52 := (s7.get (by simp <;> omega) F2)
            have f53 := (s7.get (by simp <;> omega) F3)
            have f54 := (s7.get (by simp <;> omega) F4)
            have f55 := (s7.get (by simp <;> omega) F8)
            have f56 := (s7.get (by simp <;> omega) F9)
            refine w_obey  f8 f51 f52 f53 f54 f55 f56 omm oof oog otf ra rx rp ren rdn rtk rz5 ron rtn rv4 (by omega) (fun h57 z59 z60 z61 z62 z63 z64 z65 z67 g66 g68 g69 rz59 rz60 rz61 rz62 rz63 rz64 rz65 rz67 og66 og68 og69 s58 f70 f71 f72 f73 f74 => ?_)
            refine rV ?_
            refine g_aload_n 80 dX2_goThrough_79 rfl rfl ?_
            refine g_dup 81 dX2_goThrough_80 rfl rfl ?_
            refine g_get 84 dX2_goThrough_81 faX2_38_X2 f70 rfl rfl ?_
            refine g_iconst (v := iZ (1)) 85 dX2_goThrough_84 rfl rfl ?_
            refine g_iadd 86 dX2_goThrough_85 rfl ?_
            refine Go.genZ (fun z75 rz75 => ?_)
            refine g_putC (fs1 := [.ref (m + 1), .ref (m + 2), .int (iZ z59), .int (iZ z60), .int (iZ z61), .int (iZ z62), .int (iZ z75), .int (iZ z64), .int (iZ z65)]) 89 dX2_goThrough_86 fpX2_38_X2 f70 (nle rfl) (vI _) rfl rfl (fun h76 s77 f78 => ?_)
            refine g_iincZ [some (.ref m), none, some (.ref t), some (.int (iZ 1)), some (.int (iZ (j + 1))), some (.int (iZ v4))] 92 dX2_goThrough_89 rfl (by omega) (by decide) rfl rfl rfl ?_
            refine g_goto 10 dX2_goThrough_92 rfl ?_
            refine Go.fgt 5 ?_
            have f79 := (s77.get (by simp <;> omega) f71)
            have f80 := (s77.get (by simp <;> omega) f72)
            have f81 := (s77.get (by simp <;> omega) f73)
            have f82 := (s77.get (by simp <;> omega) f74)
            have f83 := (s77.get (by simp <;> omega) (s58.get (by simp <;> omega) f55))
            have f84 := (s77.get (by simp <;> omega) (s58.get (by simp <;> omega) f56))
            exact ih _ (by omega) _ (z59) (z60) (z61) (z62) (z75) (z64) (z65) (z67) (g66) (g68) (g69) (1) (j + 1) rfl rz59 rz60 rz61 rz62 rz75 rz64 rz65 rz67 og66 og68 og69 f78 f79 f80 f81 f82 f83 f84 (Or.inr rfl) (by omega) (fun hQ xQ0 xQ1 xQ2 xQ3 xQ4 xQ5 xQ6 xQ7 xQ8 xQ9 xQ10 yQ0 yQ1 yQ2 yQ3 yQ4 yQ5 yQ6 yQ7 yQ8 yQ9 yQ10 sQ uQ0 uQ1 uQ2 uQ3 uQ4 => k hQ xQ0 xQ1 xQ2 xQ3 xQ4 xQ5 xQ6 xQ7 xQ8 xQ9 xQ10 yQ0 yQ1 yQ2 yQ3 yQ4 yQ5 yQ6 yQ7 yQ8 yQ9 yQ10 (((((Sm.refl [m, m + 1, m + 2, m + 3, m + 4] _).tr s7 (fun _ q => q) (by simp)).tr s58 (fun _ q => q) (by simp)).tr s77 (fun _ q => q) (by simp)).tr sQ (fun _ q => q) (fun _ q => q)) uQ0 uQ1 uQ2 uQ3 uQ4)
set_option maxRecDepth 100000 in
theorem w_go {l : Launch} {h : MH} {Q : Option Value → MH → Prop} {m : Nat} {a x p en dn tk hm on n tn : Int} {c M t : Nat} {f g tf mm of og : Nat → Int} (F0 : h[m]? = some (.inr (2, [.ref (m + 1), .ref (m + 2), .int (iZ a), .int (iZ x), .int (iZ p), .int (iZ en), .int (iZ dn), .int (iZ tk), .int (iZ hm)]))) (F1 : h[m + 1]? = some (.inl (0, 256, .inl (zA mm)))) (F2 : h[m + 2]? = some (.inr (0, [.int (iZ 256), .ref (m + 3), .ref (m + 4), .int (iZ on)]))) (F3 : h[m + 3]? = some (.inl (0, 256, .inl (zA of)))) (F4 : h[m + 4]? = some (.inl (0, 256, .inl (zA og)))) (F5 : h[c]? = some (.inr (0, [.int (iZ ((M : Int))), .ref (c + 1), .ref (c + 2), .int (iZ n)]))) (F6 : h[c + 1]? = some (.inl (0, M, .inl (zA f)))) (F7 : h[c + 2]? = some (.inl (0, M, .inl (zA g)))) (F8 : h[t]? = some (.inr (5, [.ref (t + 1), .int (iZ tn)]))) (F9 : h[t + 1]? = some (.inl (0, 200, .inl (zA tf)))) (omm : okr mm) (oof : okr of) (oog : okr og) (of1 : okr f) (og1 : okr g) (otf : okr tf) (ra : rg a) (rx : rg x) (rp : rg p) (ren : (en = 0 ∨ en = 1)) (rdn : rg dn) (rtk : rg tk) (rhm : rg hm) (ron : rg on) (rn : rg n) (rtn : rg tn) (hM : M ≤ 256) (hc1 : c ≠ m + 1) (hc2 : c + 1 ≠ m + 1) (hc3 : c + 2 ≠ m + 1) (ht : m + 4 < t) (k : ∀ (h1 : MH) (a_1 x_1 p_1 en_1 dn_1 tk_1 hm_1 on_1 : Int) (mm_1 of_1 og_1 : Nat → Int), rg a_1 → rg x_1 → rg p_1 → (en_1 = 0 ∨ en_1 = 1) → rg dn_1 → rg tk_1 → rg hm_1 → rg on_1 → okr mm_1 → okr of_1 → okr og_1 → Sm [m, m + 1, m + 2, m + 3, m + 4] h h1 → h1[m]? = some (.inr (2, [.ref (m + 1), .ref (m + 2), .int (iZ a_1), .int (iZ x_1), .int (iZ p_1), .int (iZ en_1), .int (iZ dn_1), .int (iZ tk_1), .int (iZ hm_1)])) → h1[m + 1]? = some (.inl (0, 256, .inl (zA mm_1))) → h1[m + 2]? = some (.inr (0, [.int (iZ 256), .ref (m + 3), .ref (m + 4), .int (iZ on_1)])) → h1[m + 3]? = some (.inl (0, 256, .inl (zA of_1))) → h1[m + 4]? = some (.inl (0, 256, .inl (zA og_1))) → Q none h1) : Go l mX2_goThrough 0 [some (.ref m), some (.ref c), some (.ref t), none, none, none] [] h Q := by
  refine g_aload_n 1 dX2_goThrough_0 rfl rfl ?_
  refine g_aload_n 2 dX2_goThrough_1 rfl rfl ?_
  refine g_callV (z := mX2_load) (As := [.ref c]) 5 dX2_goThrough_2 mwX2_load ⟨by decide, by decide⟩ rfl wlX2_54 wiX2_load wsX2_load F0 rfl rfl rfl (nle rfl) (nle rfl) rfl ?_
  refine w_load (M := M) F0 F1 F2 F5 F6 F7 omm of1 og1 ra rx rp ren rdn rtk rhm ron rn (by omega) (by omega) (by omega) (by omega) (fun h1 z3 z4 z5 z6 z7 z8 z9 z11 g10 rz3 rz4 rz5 rz6 rz7 rz8 rz9 rz11 og10 s2 f12 f13 f14 => ?_)
  refine rV ?_
  refine g_iconst (v := iZ (1)) 6 dX2_goThrough_5 rfl rfl ?_
  refine g_istore_n (L1 := [some (.ref m), some (.ref c), some (.ref t), some (.int (iZ 1)), none, none]) 7 dX2_goThrough_6 (by decide) rfl rfl rfl ?_
  refine g_iconst (v := iZ (0)) 8 dX2_goThrough_7 rfl rfl ?_
  refine g_istore (L1 := [some (.ref m), some (.ref c), some (.ref t), some (.int (iZ 1)), some (.int (iZ 0)), none]) 10 dX2_goThrough_8 (by decide) rfl rfl rfl ?_
  refine Go.fgt 1 ?_
  have f15 := (s2.get (by simp <;> omega) F3)
  have f16 := (s2.get (by simp <;> omega) F4)
  have f17 := (s2.get (by simp <;> omega) F8)
  have f18 := (s2.get (by simp <;> omega) F9)
  exact w_go_l otf rtn ht _ _ (z3) (z4) (z5) (z6) (z7) (z8) (z9) (z11) (g10) (of) (og) (1) (0) rfl rz3 rz4 rz5 rz6 rz7 rz8 rz9 rz11 og10 oof oog f12 f13 f14 f15 f16 f17 f18 (Or.inr rfl) (by omega) (fun hQ xQ0 xQ1 xQ2 xQ3 xQ4 xQ5 xQ6 xQ7 xQ8 xQ9 xQ10 yQ0 yQ1 yQ2 yQ3 yQ4 yQ5 yQ6 yQ7 yQ8 yQ9 yQ10 sQ uQ0 uQ1 uQ2 uQ3 uQ4 => k hQ xQ0 xQ1 xQ2 xQ3 xQ4 xQ5 xQ6 xQ7 xQ8 xQ9 xQ10 yQ0 yQ1 yQ2 yQ3 yQ4 yQ5 yQ6 yQ7 yQ8 yQ9 yQ10 (((Sm.refl [m, m + 1, m + 2, m + 3, m + 4] _).tr s2 (fun _ q => q) (by simp)).tr sQ (fun _ q => q) (fun _ q => q)) uQ0 uQ1 uQ2 uQ3 uQ4)
set_option maxRecDepth 100000 in
theorem w_blds {l : Launch} {h : MH} {Q : Option Value → MH → Prop} {m : Nat} {a x p en dn tk hm on n tn : Int} {c M t : Nat} {f g tf mm of og : Nat → Int} (F0 : h[m]? = some (.inr (2, [.ref (m + 1), .ref (m + 2), .int (iZ a), .int (iZ x), .int (iZ p), .int (iZ en), .int (iZ dn), .int (iZ tk), .int (iZ hm)]))) (F1 : h[m + 1]? = some (.inl (0, 256, .inl (zA mm)))) (F2 : h[m + 2]? = some (.inr (0, [.int (iZ 256), .ref (m + 3), .ref (m + 4), .int (iZ on)]))) (F3 : h[m + 3]? = some (.inl (0, 256, .inl (zA of)))) (F4 : h[m + 4]? = some (.inl (0, 256, .inl (zA og)))) (F5 : h[c]? = some (.inr (0, [.int (iZ ((M : Int))), .ref (c + 1), .ref (c + 2), .int (iZ n)]))) (F6 : h[c + 1]? = some (.inl (0, M, .inl (zA f)))) (F7 : h[c + 2]? = some (.inl (0, M, .inl (zA g)))) (F8 : h[t]? = some (.inr (5, [.ref (t + 1), .int (iZ tn)]))) (F9 : h[t + 1]? = some (.inl (0, 200, .inl (zA tf)))) (omm : okr mm) (oof : okr of) (oog : okr og) (of1 : okr f) (og1 : okr g) (otf : okr tf) (ra : rg a) (rx : rg x) (rp : rg p) (ren : (en = 0 ∨ en = 1)) (rdn : rg dn) (rtk : rg tk) (rhm : rg hm) (ron : rg on) (rn : rg n) (rtn : rg tn) (hM : M ≤ 256) (hc1 : c ≠ m + 1) (hc2 : c + 1 ≠ m + 1) (hc3 : c + 2 ≠ m + 1) (ht : m + 4 < t) (k : ∀ (h1 : MH) (a_1 x_1 p_1 en_1 dn_1 tk_1 hm_1 on_1 : Int) (mm_1 of_1 og_1 : Nat → Int) (r : Int), rg a_1 → rg x_1 → rg p_1 → (en_1 = 0 ∨ en_1 = 1) → rg dn_1 → rg tk_1 → rg hm_1 → rg on_1 → okr mm_1 → okr of_1 → okr og_1 → (r = 0 ∨ r = 1) → Sm [m, m + 1, m + 2, m + 3, m + 4] h h1 → h1[m]? = some (.inr (2, [.ref (m + 1), .ref (m + 2), .int (iZ a_1), .int (iZ x_1), .int (iZ p_1), .int (iZ en_1), .int (iZ dn_1), .int (iZ tk_1), .int (iZ hm_1)])) → h1[m + 1]? = some (.inl (0, 256, .inl (zA mm_1))) → h1[m + 2]? = some (.inr (0, [.int (iZ 256), .ref (m + 3), .ref (m + 4), .int (iZ on_1)])) → h1[m + 3]? = some (.inl (0, 256, .inl (zA of_1))) → h1[m + 4]? = some (.inl (0, 256, .inl (zA og_1))) → Q (some (.int (iZ r))) h1) : Go l mX2_builds 0 [some (.ref m), some (.ref c), some (.ref t)] [] h Q := by
  refine g_aload_n 1 dX2_builds_0 rfl rfl ?_
  refine g_aload_n 2 dX2_builds_1 rfl rfl ?_
  refine g_aload_n 3 dX2_builds_2 rfl rfl ?_
  refine g_callV (z := mX2_goThrough) (As := [.ref c, .ref t]) 6 dX2_builds_3 mwX2_goThrough ⟨by decide, by decide⟩ rfl wlX2_47 wiX2_goThrough wsX2_goThrough F0 rfl rfl rfl (nle rfl) (nle rfl) rfl ?_
  refine w_go (M := M) F0 F1 F2 F3 F4 F5 F6 F7 F8 F9 omm oof oog of1 og1 otf ra rx rp ren rdn rtk rhm ron rn rtn (by omega) (by omega) (by omega) (by omega) (by omega) (fun h1 z3 z4 z5 z6 z7 z8 z9 z11 g10 g12 g13 rz3 rz4 rz5 rz6 rz7 rz8 rz9 rz11 og10 og12 og13 s2 f14 f15 f16 f17 f18 => ?_)
  refine rV ?_
  refine g_aload_n 7 dX2_builds_6 rfl rfl ?_
  refine g_get 10 dX2_builds_7 faX2_44_X2 f14 rfl rfl ?_
  refine g_ifZ_ne 27 13 dX2_builds_10 rfl rfl rz9 (fun c19 => ?_) (fun c19 => ?_)
  · refine g_iconst (v := iZ (0)) 28 dX2_builds_27 rfl rfl ?_
    refine g_zret rfl z01_0 dX2_builds_28 ?_
    exact k _ (z3) (z4) (z5) (z6) (z7) (z8) (z9) (z11) (g10) (g12) (g13) (0) rz3 rz4 rz5 rz6 rz7 rz8 rz9 rz11 og10 og12 og13 (Or.inl rfl) ((Sm.refl [m, m + 1, m + 2, m + 3, m + 4] _).tr s2 (fun _ q => q) (by simp)) f14 f15 f16 f17 f18
  · refine g_aload_n 14 dX2_builds_13 rfl rfl ?_
    refine g_get 17 dX2_builds_14 faX2_20_X2 f14 rfl rfl ?_
    refine g_get 20 dX2_builds_17 faX2_51_X0 f16 rfl rfl ?_
    refine g_ifZ_le 27 23 dX2_builds_20 rfl rfl rz11 (fun c20 => ?_) (fun c20 => ?_)
    · refine g_iconst (v := iZ (0)) 28 dX2_builds_27 rfl rfl ?_
      refine g_zret rfl z01_0 dX2_builds_28 ?_
      exact k _ (z3) (z4) (z5) (z6) (z7) (z8) (z9) (z11) (g10) (g12) (g13) (0) rz3 rz4 rz5 rz6 rz7 rz8 rz9 rz11 og10 og12 og13 (Or.inl rfl) ((Sm.refl [m, m + 1, m + 2, m + 3, m + 4] _).tr s2 (fun _ q => q) (by simp)) f14 f15 f16 f17 f18
    · refine g_iconst (v := iZ (1)) 24 dX2_builds_23 rfl rfl ?_
      refine g_goto 28 dX2_builds_24 rfl ?_
      refine g_zret rfl z01_1 dX2_builds_28 ?_
      exact k _ (z3) (z4) (z5) (z6) (z7) (z8) (z9) (z11) (g10) (g12) (g13) (1) rz3 rz4 rz5 rz6 rz7 rz8 rz9 rz11 og10 og12 og13 (Or.inr rfl) ((Sm.refl [m, m + 1, m + 2, m + 3, m + 4] _).tr s2 (fun _ q => q) (by simp)) f14 f15 f16 f17 f18

set_option maxRecDepth 100000 in
theorem c_obey {l : Launch} {h : MH} {Q : Option Value → MH → Prop} {m t : Nat} {a x p en dn tk hm on tn i : Int} {mm of og tf : Nat → Int} (F0 : h[m]? = some (.inr (2, [.ref (m + 1), .ref (m + 2), .int (iZ a), .int (iZ x), .int (iZ p), .int (iZ en), .int (iZ dn), .int (iZ tk), .int (iZ hm)]))) (F1 : h[m + 1]? = some (.inl (0, 256, .inl (zA mm)))) (F2 : h[m + 2]? = some (.inr (0, [.int (iZ 256), .ref (m + 3), .ref (m + 4), .int (iZ on)]))) (F3 : h[m + 3]? = some (.inl (0, 256, .inl (zA of)))) (F4 : h[m + 4]? = some (.inl (0, 256, .inl (zA og)))) (F5 : h[t]? = some (.inr (5, [.ref (t + 1), .int (iZ tn)]))) (F6 : h[t + 1]? = some (.inl (0, 200, .inl (zA tf)))) (omm : oki (0) (255) mm) (oof : oki (0) (255) of) (oog : oki (0) (300) og) (otf : oki (0) (255) tf) (ra : (0 ≤ a ∧ a ≤ 255)) (rx : (0 ≤ x ∧ x ≤ 255)) (rp : (0 ≤ p ∧ p ≤ 255)) (ren : (en = 0 ∨ en = 1)) (rdn : (0 ≤ dn ∧ dn ≤ 5000)) (rtk : (0 ≤ tk ∧ tk ≤ 200)) (rhm : (0 ≤ hm ∧ hm ≤ 3)) (ron : (0 ≤ on ∧ on ≤ 256)) (rtn : (0 ≤ tn ∧ tn ≤ 200)) (ri : (0 ≤ i ∧ i ≤ 15)) (hi : mm p.toNat = i) (hoo : i = 2 → on < 256) (ht : m + 4 < t) (k : ∀ (h1 : MH) (a_1 x_1 p_1 en_1 tk_1 on_1 : Int) (mm_1 : Nat → Int) (of_1 : Nat → Int) (og_1 : Nat → Int), (0 ≤ a_1 ∧ a_1 ≤ 255) → (0 ≤ x_1 ∧ x_1 ≤ 255) → (0 ≤ p_1 ∧ p_1 ≤ 255) → (en_1 = 0 ∨ en_1 = 1) → (0 ≤ tk_1 ∧ tk_1 ≤ 200) → (0 ≤ on_1 ∧ on_1 ≤ 256) → oki (0) (255) mm_1 → oki (0) (255) of_1 → oki (0) (300) og_1 → (mstp tn (fun j => tf j.toNat) a x p en dn tk on mm of og = (a_1, x_1, p_1, en_1, dn + 1, tk_1, on_1, mm_1, of_1, og_1)) → Sm [m, m + 1, m + 2, m + 3, m + 4] h h1 → h1[m]? = some (.inr (2, [.ref (m + 1), .ref (m + 2), .int (iZ a_1), .int (iZ x_1), .int (iZ p_1), .int (iZ en_1), .int (iZ dn), .int (iZ tk_1), .int (iZ hm)])) → h1[m + 1]? = some (.inl (0, 256, .inl (zA mm_1))) → h1[m + 2]? = some (.inr (0, [.int (iZ 256), .ref (m + 3), .ref (m + 4), .int (iZ on_1)])) → h1[m + 3]? = some (.inl (0, 256, .inl (zA of_1))) → h1[m + 4]? = some (.inl (0, 256, .inl (zA og_1))) → Q none h1) : Go l mX2_obey 0 [some (.ref m), some (.int (iZ i)), some (.ref t), none, none] [] h Q := by
  have e1 : i = 0 ∨ i = 1 ∨ i = 2 ∨ i = 3 ∨ i = 4 ∨ i = 5 ∨ i = 6 ∨ i = 7 ∨ i = 8 ∨ i = 9 ∨ i = 10 ∨ i = 11 ∨ i = 12 ∨ i = 13 ∨ i = 14 ∨ i = 15 := by omega
  rcases e1 with rfl | rfl | rfl | rfl | rfl | rfl | rfl | rfl | rfl | rfl | rfl | rfl | rfl | rfl | rfl | rfl
  · have ke : (mm p.toNat).toNat = 0 := by omega
    refine g_aload_n 1 dX2_obey_0 rfl rfl ?_
    refine g_get 4 dX2_obey_1 faX2_9_X2 F0 rfl rfl ?_
    refine g_aload_n 5 dX2_obey_4 rfl rfl ?_
    refine g_get 8 dX2_obey_5 faX2_31_X2 F0 rfl rfl ?_
    refine g_iconst (v := iZ (1)) 9 dX2_obey_8 rfl rfl ?_
    refine g_iaddZ (p + 1) 10 dX2_obey_9 (by omega) rfl ?_
    refine g_sipush (v := iZ (255)) 13 dX2_obey_10 (by decide +kernel) rfl ?_
    refine g_and255Z ((p + 1) % 256) 14 dX2_obey_13 rfl rfl ?_
    have b2 := omm (((p + 1) % 256).toNat)
    refine g_ialdZ (v := iZ (mm ((p + 1) % 256).toNat)) 15 dX2_obey_14 F1 (by omega) (by omega) (by decide) rfl rfl ?_
    refine g_sipush (v := iZ (255)) 18 dX2_obey_15 (by decide +kernel) rfl ?_
    refine g_and255Z (mm ((p + 1) % 256).toNat) 19 dX2_obey_18 (by omega) rfl ?_
    refine g_istore_n (L1 := [some (.ref m), some (.int (iZ 0)), some (.ref t), some (.int (iZ (mm ((p + 1) % 256).toNat))), none]) 20 dX2_obey_19 (by decide) rfl rfl rfl ?_
    refine g_aload_n 21 dX2_obey_20 rfl rfl ?_
    refine g_get 24 dX2_obey_21 faX2_31_X2 F0 rfl rfl ?_
    refine g_iload_n 25 dX2_obey_24 rfl rfl ?_
    refine g_callS (z := mX2_hasNumber) (As := [.int (iZ 0)]) 28 dX2_obey_25 mwX2_hasNumber ⟨by decide, by decide⟩ rfl wlX2_69 wtX2_hasNumber rfl (nle rfl) (nle rfl) rfl ?_
    refine Go.to [some (.int (iZ 0))] [] rfl rfl ?_
    refine g_iload_n 1 dX2_hasNumber_0 rfl rfl ?_
    refine g_iconst (v := iZ (3)) 2 dX2_hasNumber_1 rfl rfl ?_
    refine g_icZ_lt 11 5 dX2_hasNumber_2 rfl rfl (by decide) (by decide) (fun _ => ?_) (fun q => absurd q (by decide))
    refine g_iload_n 12 dX2_hasNumber_11 rfl rfl ?_
    refine g_bipush (v := iZ (11)) 14 dX2_hasNumber_12 (by decide +kernel) rfl ?_
    refine g_icZ_lt 27 17 dX2_hasNumber_14 rfl rfl (by decide) (by decide) (fun _ => ?_) (fun q => absurd q (by decide))
    refine g_iconst (v := iZ (0)) 28 dX2_hasNumber_27 rfl rfl ?_
    refine g_zret rfl z01_0 dX2_hasNumber_28 ?_
    refine rI ?_
    refine g_ifZ_eq 35 31 dX2_obey_28 rfl rfl (by decide) (fun _ => ?_) (fun q => absurd q (by decide))
    refine g_iconst (v := iZ (1)) 36 dX2_obey_35 rfl rfl ?_
    refine g_iaddZ (p + 1) 37 dX2_obey_36 (by omega) rfl ?_
    refine g_istore (L1 := [some (.ref m), some (.int (iZ 0)), some (.ref t), some (.int (iZ (mm ((p + 1) % 256).toNat))), some (.int (iZ (p + 1)))]) 39 dX2_obey_37 (by decide) rfl rfl rfl ?_
    refine g_iload_n 40 dX2_obey_39 rfl rfl ?_
    refine g_tabZO 365 dX2_obey_40 (by decide) (by decide) rfl ?_
    refine g_aload_n 366 dX2_obey_365 rfl rfl ?_
    refine g_iload 368 dX2_obey_366 rfl rfl ?_
    refine g_sipush (v := iZ (255)) 371 dX2_obey_368 (by decide +kernel) rfl ?_
    refine g_and255Z ((p + 1) % 256) 372 dX2_obey_371 rfl rfl ?_
    refine g_putC (fs1 := [.ref (m + 1), .ref (m + 2), .int (iZ a), .int (iZ x), .int (iZ ((p + 1) % 256)), .int (iZ en), .int (iZ dn), .int (iZ tk), .int (iZ hm)]) 375 dX2_obey_372 fpX2_31_X2 F0 (nle rfl) (vI _) rfl rfl (fun h3 s4 f5 => ?_)
    refine g_vret rfl dX2_obey_375 ?_
    have f6 := (s4.get (by simp <;> omega) F1)
    have f7 := (s4.get (by simp <;> omega) F2)
    have f8 := (s4.get (by simp <;> omega) F3)
    have f9 := (s4.get (by simp <;> omega) F4)
    exact k _ (a) (x) ((p + 1) % 256) (en) (tk) (on) (mm) (of) (og) (by omega) (by omega) (by omega) ren (by omega) (by omega) omm oof oog (ms_0 ke) ((Sm.refl [m, m + 1, m + 2, m + 3, m + 4] _).tr s4 (fun _ q => q) (by simp)) f5 f6 f7 f8 f9
  · have ke : (mm p.toNat).toNat = 1 := by omega
    refine g_aload_n 1 dX2_obey_0 rfl rfl ?_
    refine g_get 4 dX2_obey_1 faX2_9_X2 F0 rfl rfl ?_
    refine g_aload_n 5 dX2_obey_4 rfl rfl ?_
    refine g_get 8 dX2_obey_5 faX2_31_X2 F0 rfl rfl ?_
    refine g_iconst (v := iZ (1)) 9 dX2_obey_8 rfl rfl ?_
    refine g_iaddZ (p + 1) 10 dX2_obey_9 (by omega) rfl ?_
    refine g_sipush (v := iZ (255)) 13 dX2_obey_10 (by decide +kernel) rfl ?_
    refine g_and255Z ((p + 1) % 256) 14 dX2_obey_13 rfl rfl ?_
    have b10 := omm (((p + 1) % 256).toNat)
    refine g_ialdZ (v := iZ (mm ((p + 1) % 256).toNat)) 15 dX2_obey_14 F1 (by omega) (by omega) (by decide) rfl rfl ?_
    refine g_sipush (v := iZ (255)) 18 dX2_obey_15 (by decide +kernel) rfl ?_
    refine g_and255Z (mm ((p + 1) % 256).toNat) 19 dX2_obey_18 (by omega) rfl ?_
    refine g_istore_n (L1 := [some (.ref m), some (.int (iZ 1)), some (.ref t), some (.int (iZ (mm ((p + 1) % 256).toNat))), none]) 20 dX2_obey_19 (by decide) rfl rfl rfl ?_
    refine g_aload_n 21 dX2_obey_20 rfl rfl ?_
    refine g_get 24 dX2_obey_21 faX2_31_X2 F0 rfl rfl ?_
    refine g_iload_n 25 dX2_obey_24 rfl rfl ?_
    refine g_callS (z := mX2_hasNumber) (As := [.int (iZ 1)]) 28 dX2_obey_25 mwX2_hasNumber ⟨by decide, by decide⟩ rfl wlX2_69 wtX2_hasNumber rfl (nle rfl) (nle rfl) rfl ?_
    refine Go.to [some (.int (iZ 1))] [] rfl rfl ?_
    refine g_iload_n 1 dX2_hasNumber_0 rfl rfl ?_
    refine g_iconst (v := iZ (3)) 2 dX2_hasNumber_1 rfl rfl ?_
    refine g_icZ_lt 11 5 dX2_hasNumber_2 rfl rfl (by decide) (by decide) (fun _ => ?_) (fun q => absurd q (by decide))
    refine g_iload_n 12 dX2_hasNumber_11 rfl rfl ?_
    refine g_bipush (v := iZ (11)) 14 dX2_hasNumber_12 (by decide +kernel) rfl ?_
    refine g_icZ_lt 27 17 dX2_hasNumber_14 rfl rfl (by decide) (by decide) (fun _ => ?_) (fun q => absurd q (by decide))
    refine g_iconst (v := iZ (0)) 28 dX2_hasNumber_27 rfl rfl ?_
    refine g_zret rfl z01_0 dX2_hasNumber_28 ?_
    refine rI ?_
    refine g_ifZ_eq 35 31 dX2_obey_28 rfl rfl (by decide) (fun _ => ?_) (fun q => absurd q (by decide))
    refine g_iconst (v := iZ (1)) 36 dX2_obey_35 rfl rfl ?_
    refine g_iaddZ (p + 1) 37 dX2_obey_36 (by omega) rfl ?_
    refine g_istore (L1 := [some (.ref m), some (.int (iZ 1)), some (.ref t), some (.int (iZ (mm ((p + 1) % 256).toNat))), some (.int (iZ (p + 1)))]) 39 dX2_obey_37 (by decide) rfl rfl rfl ?_
    refine g_iload_n 40 dX2_obey_39 rfl rfl ?_
    refine g_tabZI (1) 116 dX2_obey_40 (by decide) rfl (by decide) (by decide) rfl rfl ?_
    refine g_aload_n 117 dX2_obey_116 rfl rfl ?_
    refine g_aload_n 118 dX2_obey_117 rfl rfl ?_
    refine g_aload_n 119 dX2_obey_118 rfl rfl ?_
    refine g_get 122 dX2_obey_119 faX2_41_X2 F0 rfl rfl ?_
    refine g_callV (z := mX6_at) (As := [.int (iZ tk)]) 125 dX2_obey_122 mwX6_at ⟨by decide, by decide⟩ rfl wlX2_73 wiX6_at wsX6_at F5 rfl rfl rfl (nle rfl) (nle rfl) rfl ?_
    refine Go.to [some (.ref t), some (.int (iZ tk))] [] rfl rfl ?_
    refine g_iload_n 1 dX6_at_0 rfl rfl ?_
    refine g_ifZ_lt 19 4 dX6_at_1 rfl rfl (by omega) (fun q => absurd q (by omega)) (fun _ => ?_)
    refine g_iload_n 5 dX6_at_4 rfl rfl ?_
    refine g_aload_n 6 dX6_at_5 rfl rfl ?_
    refine g_get 9 dX6_at_6 faX6_15_X6 F5 rfl rfl ?_
    refine g_icZ_ge 19 12 dX6_at_9 rfl rfl (by omega) (by omega) (fun c11 => ?_) (fun c11 => ?_)
    · refine g_iconst (v := iZ (-1)) 20 dX6_at_19 rfl rfl ?_
      refine g_goto 29 dX6_at_20 rfl ?_
      refine g_iret rfl dX6_at_29 ?_
      refine rI ?_
      refine g_callV (z := mX2_take) (As := [.int (iZ (-1))]) 128 dX2_obey_125 mwX2_take ⟨by decide, by decide⟩ rfl wlX2_76 wiX2_take wsX2_take F0 rfl rfl rfl (nle rfl) (nle rfl) rfl ?_
      refine Go.to [some (.ref m), some (.int (iZ (-1)))] [] rfl rfl ?_
      refine g_iload_n 1 dX2_take_0 rfl rfl ?_
      refine g_iconst (v := iZ (-1)) 2 dX2_take_1 rfl rfl ?_
      refine g_icZ_ne 18 5 dX2_take_2 rfl rfl (by decide) (by decide) (fun q => absurd q (by decide)) (fun _ => ?_)
      refine g_aload_n 6 dX2_take_5 rfl rfl ?_
      refine g_iconst (v := iZ (0)) 7 dX2_take_6 rfl rfl ?_
      refine g_putC (fs1 := [.ref (m + 1), .ref (m + 2), .int (iZ 0), .int (iZ x), .int (iZ p), .int (iZ en), .int (iZ dn), .int (iZ tk), .int (iZ hm)]) 10 dX2_take_7 fpX2_24_X2 F0 (nle rfl) (vI _) rfl rfl (fun h12 s13 f14 => ?_)
      refine g_aload_n 11 dX2_take_10 rfl rfl ?_
      refine g_iconst (v := iZ (1)) 12 dX2_take_11 rfl rfl ?_
      refine g_putC (fs1 := [.ref (m + 1), .ref (m + 2), .int (iZ 0), .int (iZ x), .int (iZ p), .int (iZ 1), .int (iZ dn), .int (iZ tk), .int (iZ hm)]) 15 dX2_take_12 fpX2_34_X2 f14 (nle rfl) vZ1 rfl rfl (fun h15 s16 f17 => ?_)
      refine g_goto 33 dX2_take_15 rfl ?_
      refine g_vret rfl dX2_take_33 ?_
      refine rV ?_
      refine g_goto 365 dX2_obey_128 rfl ?_
      refine g_aload_n 366 dX2_obey_365 rfl rfl ?_
      refine g_iload 368 dX2_obey_366 rfl rfl ?_
      refine g_sipush (v := iZ (255)) 371 dX2_obey_368 (by decide +kernel) rfl ?_
      refine g_and255Z ((p + 1) % 256) 372 dX2_obey_371 rfl rfl ?_
      refine g_putC (fs1 := [.ref (m + 1), .ref (m + 2), .int (iZ 0), .int (iZ x), .int (iZ ((p + 1) % 256)), .int (iZ 1), .int (iZ dn), .int (iZ tk), .int (iZ hm)]) 375 dX2_obey_372 fpX2_31_X2 f17 (nle rfl) (vI _) rfl rfl (fun h18 s19 f20 => ?_)
      refine g_vret rfl dX2_obey_375 ?_
      have f21 := (s19.get (by simp <;> omega) (s16.get (by simp <;> omega) (s13.get (by simp <;> omega) F1)))
      have f22 := (s19.get (by simp <;> omega) (s16.get (by simp <;> omega) (s13.get (by simp <;> omega) F2)))
      have f23 := (s19.get (by simp <;> omega) (s16.get (by simp <;> omega) (s13.get (by simp <;> omega) F3)))
      have f24 := (s19.get (by simp <;> omega) (s16.get (by simp <;> omega) (s13.get (by simp <;> omega) F4)))
      exact k _ (0) (x) ((p + 1) % 256) (1) (tk) (on) (mm) (of) (og) (by omega) (by omega) (by omega) (Or.inr rfl) (by omega) (by omega) omm oof oog (by first | exact ms_1a ke (by omega) | exact ms_1b ke (by omega)) ((((Sm.refl [m, m + 1, m + 2, m + 3, m + 4] _).tr s13 (fun _ q => q) (by simp)).tr s16 (fun _ q => q) (by simp)).tr s19 (fun _ q => q) (by simp)) f20 f21 f22 f23 f24
    · refine g_iload_n 13 dX6_at_12 rfl rfl ?_
      refine g_sipush (v := iZ (200)) 16 dX6_at_13 (by decide +kernel) rfl ?_
      refine g_icZ_lt 23 19 dX6_at_16 rfl rfl (by omega) (by decide) (fun _ => ?_) (fun q => absurd q (by omega))
      refine g_aload_n 24 dX6_at_23 rfl rfl ?_
      refine g_get 27 dX6_at_24 faX6_9_X6 F5 rfl rfl ?_
      refine g_iload_n 28 dX6_at_27 rfl rfl ?_
      have b25 := otf ((tk).toNat)
      refine g_ialdZ (v := iZ (tf tk.toNat)) 29 dX6_at_28 F6 (by omega) (by omega) (by decide) rfl rfl ?_
      refine g_iret rfl dX6_at_29 ?_
      refine rI ?_
      refine g_callV (z := mX2_take) (As := [.int (iZ (tf tk.toNat))]) 128 dX2_obey_125 mwX2_take ⟨by decide, by decide⟩ rfl wlX2_76 wiX2_take wsX2_take F0 rfl rfl rfl (nle rfl) (nle rfl) rfl ?_
      refine Go.to [some (.ref m), some (.int (iZ (tf tk.toNat)))] [] rfl rfl ?_
      refine g_iload_n 1 dX2_take_0 rfl rfl ?_
      refine g_iconst (v := iZ (-1)) 2 dX2_take_1 rfl rfl ?_
      refine g_icZ_ne 18 5 dX2_take_2 rfl rfl (by omega) (by decide) (fun _ => ?_) (fun q => absurd q (by omega))
      refine g_aload_n 19 dX2_take_18 rfl rfl ?_
      refine g_iload_n 20 dX2_take_19 rfl rfl ?_
      refine g_putC (fs1 := [.ref (m + 1), .ref (m + 2), .int (iZ (tf tk.toNat)), .int (iZ x), .int (iZ p), .int (iZ en), .int (iZ dn), .int (iZ tk), .int (iZ hm)]) 23 dX2_take_20 fpX2_24_X2 F0 (nle rfl) (vI _) rfl rfl (fun h26 s27 f28 => ?_)
      refine g_aload_n 24 dX2_take_23 rfl rfl ?_
      refine g_dup 25 dX2_take_24 rfl rfl ?_
      refine g_get 28 dX2_take_25 faX2_41_X2 f28 rfl rfl ?_
      refine g_iconst (v := iZ (1)) 29 dX2_take_28 rfl rfl ?_
      refine g_iaddZ (tk + 1) 30 dX2_take_29 (by omega) rfl ?_
      refine g_putC (fs1 := [.ref (m + 1), .ref (m + 2), .int (iZ (tf tk.toNat)), .int (iZ x), .int (iZ p), .int (iZ en), .int (iZ dn), .int (iZ (tk + 1)), .int (iZ hm)]) 33 dX2_take_30 fpX2_41_X2 f28 (nle rfl) (vI _) rfl rfl (fun h29 s30 f31 => ?_)
      refine g_vret rfl dX2_take_33 ?_
      refine rV ?_
      refine g_goto 365 dX2_obey_128 rfl ?_
      refine g_aload_n 366 dX2_obey_365 rfl rfl ?_
      refine g_iload 368 dX2_obey_366 rfl rfl ?_
      refine g_sipush (v := iZ (255)) 371 dX2_obey_368 (by decide +kernel) rfl ?_
      refine g_and255Z ((p + 1) % 256) 372 dX2_obey_371 rfl rfl ?_
      refine g_putC (fs1 := [.ref (m + 1), .ref (m + 2), .int (iZ (tf tk.toNat)), .int (iZ x), .int (iZ ((p + 1) % 256)), .int (iZ en), .int (iZ dn), .int (iZ (tk + 1)), .int (iZ hm)]) 375 dX2_obey_372 fpX2_31_X2 f31 (nle rfl) (vI _) rfl rfl (fun h32 s33 f34 => ?_)
      refine g_vret rfl dX2_obey_375 ?_
      have f35 := (s33.get (by simp <;> omega) (s30.get (by simp <;> omega) (s27.get (by simp <;> omega) F1)))
      have f36 := (s33.get (by simp <;> omega) (s30.get (by simp <;> omega) (s27.get (by simp <;> omega) F2)))
      have f37 := (s33.get (by simp <;> omega) (s30.get (by simp <;> omega) (s27.get (by simp <;> omega) F3)))
      have f38 := (s33.get (by simp <;> omega) (s30.get (by simp <;> omega) (s27.get (by simp <;> omega) F4)))
      exact k _ (tf tk.toNat) (x) ((p + 1) % 256) (en) (tk + 1) (on) (mm) (of) (og) (by omega) (by omega) (by omega) ren (by omega) (by omega) omm oof oog (by first | exact ms_1a ke (by omega) | exact ms_1b ke (by omega)) ((((Sm.refl [m, m + 1, m + 2, m + 3, m + 4] _).tr s27 (fun _ q => q) (by simp)).tr s30 (fun _ q => q) (by simp)).tr s33 (fun _ q => q) (by simp)) f34 f35 f36 f37 f38
  · have ke : (mm p.toNat).toNat = 2 := by omega
    have hon : on < 256 := hoo rfl
    refine g_aload_n 1 dX2_obey_0 rfl rfl ?_
    refine g_get 4 dX2_obey_1 faX2_9_X2 F0 rfl rfl ?_
    refine g_aload_n 5 dX2_obey_4 rfl rfl ?_
    refine g_get 8 dX2_obey_5 faX2_31_X2 F0 rfl rfl ?_
    refine g_iconst (v := iZ (1)) 9 dX2_obey_8 rfl rfl ?_
    refine g_iaddZ (p + 1) 10 dX2_obey_9 (by omega) rfl ?_
    refine g_sipush (v := iZ (255)) 13 dX2_obey_10 (by decide +kernel) rfl ?_
    refine g_and255Z ((p + 1) % 256) 14 dX2_obey_13 rfl rfl ?_
    have b39 := omm (((p + 1) % 256).toNat)
    refine g_ialdZ (v := iZ (mm ((p + 1) % 256).toNat)) 15 dX2_obey_14 F1 (by omega) (by omega) (by decide) rfl rfl ?_
    refine g_sipush (v := iZ (255)) 18 dX2_obey_15 (by decide +kernel) rfl ?_
    refine g_and255Z (mm ((p + 1) % 256).toNat) 19 dX2_obey_18 (by omega) rfl ?_
    refine g_istore_n (L1 := [some (.ref m), some (.int (iZ 2)), some (.ref t), some (.int (iZ (mm ((p + 1) % 256).toNat))), none]) 20 dX2_obey_19 (by decide) rfl rfl rfl ?_
    refine g_aload_n 21 dX2_obey_20 rfl rfl ?_
    refine g_get 24 dX2_obey_21 faX2_31_X2 F0 rfl rfl ?_
    refine g_iload_n 25 dX2_obey_24 rfl rfl ?_
    refine g_callS (z := mX2_hasNumber) (As := [.int (iZ 2)]) 28 dX2_obey_25 mwX2_hasNumber ⟨by decide, by decide⟩ rfl wlX2_69 wtX2_hasNumber rfl (nle rfl) (nle rfl) rfl ?_
    refine Go.to [some (.int (iZ 2))] [] rfl rfl ?_
    refine g_iload_n 1 dX2_hasNumber_0 rfl rfl ?_
    refine g_iconst (v := iZ (3)) 2 dX2_hasNumber_1 rfl rfl ?_
    refine g_icZ_lt 11 5 dX2_hasNumber_2 rfl rfl (by decide) (by decide) (fun _ => ?_) (fun q => absurd q (by decide))
    refine g_iload_n 12 dX2_hasNumber_11 rfl rfl ?_
    refine g_bipush (v := iZ (11)) 14 dX2_hasNumber_12 (by decide +kernel) rfl ?_
    refine g_icZ_lt 27 17 dX2_hasNumber_14 rfl rfl (by decide) (by decide) (fun _ => ?_) (fun q => absurd q (by decide))
    refine g_iconst (v := iZ (0)) 28 dX2_hasNumber_27 rfl rfl ?_
    refine g_zret rfl z01_0 dX2_hasNumber_28 ?_
    refine rI ?_
    refine g_ifZ_eq 35 31 dX2_obey_28 rfl rfl (by decide) (fun _ => ?_) (fun q => absurd q (by decide))
    refine g_iconst (v := iZ (1)) 36 dX2_obey_35 rfl rfl ?_
    refine g_iaddZ (p + 1) 37 dX2_obey_36 (by omega) rfl ?_
    refine g_istore (L1 := [some (.ref m), some (.int (iZ 2)), some (.ref t), some (.int (iZ (mm ((p + 1) % 256).toNat))), some (.int (iZ (p + 1)))]) 39 dX2_obey_37 (by decide) rfl rfl rfl ?_
    refine g_iload_n 40 dX2_obey_39 rfl rfl ?_
    refine g_tabZI (2) 131 dX2_obey_40 (by decide) rfl (by decide) (by decide) rfl rfl ?_
    refine g_aload_n 132 dX2_obey_131 rfl rfl ?_
    refine g_get 135 dX2_obey_132 faX2_20_X2 F0 rfl rfl ?_
    refine g_aload_n 136 dX2_obey_135 rfl rfl ?_
    refine g_get 139 dX2_obey_136 faX2_24_X2 F0 rfl rfl ?_
    refine g_iconst (v := iZ (0)) 140 dX2_obey_139 rfl rfl ?_
    refine g_aload_n 141 dX2_obey_140 rfl rfl ?_
    refine g_get 144 dX2_obey_141 faX2_41_X2 F0 rfl rfl ?_
    refine g_iconst (v := iZ (1)) 145 dX2_obey_144 rfl rfl ?_
    refine g_isubZ (tk - 1) 146 dX2_obey_145 (by omega) rfl ?_
    refine g_maxT 149 dX2_obey_146 wlX2_79 wmax1 wMath wmax2 (by decide) (nle rfl) (by decide) (by omega) rfl ?_
    refine g_callV (z := mX0_add) (As := [.int (iZ a), .int (iZ (max 0 (tk - 1)))]) 152 dX2_obey_149 mwX0_add ⟨by decide, by decide⟩ rfl wlX2_85 wiX0_add wsX0_add F2 rfl rfl rfl (nle rfl) (nle rfl) rfl ?_
    refine Go.to [some (.ref (m + 2)), some (.int (iZ a)), some (.int (iZ (max 0 (tk - 1))))] [] rfl rfl ?_
    refine g_aload_n 1 dX0_add_0 rfl rfl ?_
    refine g_get 4 dX0_add_1 faX0_9_X0 F2 rfl rfl ?_
    refine g_ifZ_lt 18 7 dX0_add_4 rfl rfl (by omega) (fun q => absurd q (by omega)) (fun _ => ?_)
    refine g_aload_n 8 dX0_add_7 rfl rfl ?_
    refine g_get 11 dX0_add_8 faX0_9_X0 F2 rfl rfl ?_
    refine g_aload_n 12 dX0_add_11 rfl rfl ?_
    refine g_get 15 dX0_add_12 faX0_21_X0 F2 rfl rfl ?_
    refine g_icZ_lt 20 18 dX0_add_15 rfl rfl (by omega) (by decide) (fun _ => ?_) (fun q => absurd q (by omega))
    refine g_aload_n 21 dX0_add_20 rfl rfl ?_
    refine g_get 24 dX0_add_21 faX0_24_X0 F2 rfl rfl ?_
    refine g_aload_n 25 dX0_add_24 rfl rfl ?_
    refine g_get 28 dX0_add_25 faX0_9_X0 F2 rfl rfl ?_
    refine g_iload_n 29 dX0_add_28 rfl rfl ?_
    refine g_iastFj (on.toNat) 30 dX0_add_29 F3 (by omega) (by omega) (by decide) rfl rfl (fun h40 s41 f42 => ?_)
    refine g_aload_n 31 dX0_add_30 rfl rfl ?_
    have f43 := (s41.get (by simp <;> omega) F2)
    refine g_get 34 dX0_add_31 faX0_28_X0 f43 rfl rfl ?_
    refine g_aload_n 35 dX0_add_34 rfl rfl ?_
    refine g_get 38 dX0_add_35 faX0_9_X0 f43 rfl rfl ?_
    refine g_iload_n 39 dX0_add_38 rfl rfl ?_
    have f44 := (s41.get (by simp <;> omega) F4)
    refine g_iastFj (on.toNat) 40 dX0_add_39 f44 (by omega) (by omega) (by decide) rfl rfl (fun h45 s46 f47 => ?_)
    refine g_aload_n 41 dX0_add_40 rfl rfl ?_
    refine g_dup 42 dX0_add_41 rfl rfl ?_
    have f48 := (s46.get (by simp <;> omega) f43)
    refine g_get 45 dX0_add_42 faX0_9_X0 f48 rfl rfl ?_
    refine g_iconst (v := iZ (1)) 46 dX0_add_45 rfl rfl ?_
    refine g_iaddZ (on + 1) 47 dX0_add_46 (by omega) rfl ?_
    refine g_putC (fs1 := [.int (iZ 256), .ref (m + 3), .ref (m + 4), .int (iZ (on + 1))]) 50 dX0_add_47 fpX0_9_X0 f48 (nle rfl) (vI _) rfl rfl (fun h49 s50 f51 => ?_)
    refine g_iconst (v := iZ (1)) 51 dX0_add_50 rfl rfl ?_
    refine g_zret rfl z01_1 dX0_add_51 ?_
    refine rI ?_
    refine g_pop 153 dX2_obey_152 rfl rfl ?_
    refine g_goto 365 dX2_obey_153 rfl ?_
    refine g_aload_n 366 dX2_obey_365 rfl rfl ?_
    refine g_iload 368 dX2_obey_366 rfl rfl ?_
    refine g_sipush (v := iZ (255)) 371 dX2_obey_368 (by decide +kernel) rfl ?_
    refine g_and255Z ((p + 1) % 256) 372 dX2_obey_371 rfl rfl ?_
    have f52 := (s50.get (by simp <;> omega) (s46.get (by simp <;> omega) (s41.get (by simp <;> omega) F0)))
    refine g_putC (fs1 := [.ref (m + 1), .ref (m + 2), .int (iZ a), .int (iZ x), .int (iZ ((p + 1) % 256)), .int (iZ en), .int (iZ dn), .int (iZ tk), .int (iZ hm)]) 375 dX2_obey_372 fpX2_31_X2 f52 (nle rfl) (vI _) rfl rfl (fun h53 s54 f55 => ?_)
    refine g_vret rfl dX2_obey_375 ?_
    have f56 := (s54.get (by simp <;> omega) (s50.get (by simp <;> omega) (s46.get (by simp <;> omega) (s41.get (by simp <;> omega) F1))))
    have f57 := (s54.get (by simp <;> omega) f51)
    have f58 := (s54.get (by simp <;> omega) (s50.get (by simp <;> omega) (s46.get (by simp <;> omega) f42)))
    have f59 := (s54.get (by simp <;> omega) (s50.get (by simp <;> omega) f47))
    exact k _ (a) (x) ((p + 1) % 256) (en) (tk) (on + 1) (mm) (va_up of on.toNat a) (va_up og on.toNat (max 0 (tk - 1))) (by omega) (by omega) (by omega) ren (by omega) (by omega) omm (oki_up oof _ (by omega)) (oki_up oog _ (by omega)) (by rw [ms_2 ke, show max 0 (tk - 1) = if tk = 0 then 0 else tk - 1 by split <;> omega]) (((((Sm.refl [m, m + 1, m + 2, m + 3, m + 4] _).tr s41 (fun _ q => q) (by simp)).tr s46 (fun _ q => q) (by simp)).tr s50 (fun _ q => q) (by simp)).tr s54 (fun _ q => q) (by simp)) f55 f56 f57 f58 f59
  · have ke : (mm p.toNat).toNat = 3 := by omega
    refine g_aload_n 1 dX2_obey_0 rfl rfl ?_
    refine g_get 4 dX2_obey_1 faX2_9_X2 F0 rfl rfl ?_
    refine g_aload_n 5 dX2_obey_4 rfl rfl ?_
    refine g_get 8 dX2_obey_5 faX2_31_X2 F0 rfl rfl ?_
    refine g_iconst (v := iZ (1)) 9 dX2_obey_8 rfl rfl ?_
    refine g_iaddZ (p + 1) 10 dX2_obey_9 (by omega) rfl ?_
    refine g_sipush (v := iZ (255)) 13 dX2_obey_10 (by decide +kernel) rfl ?_
    refine g_and255Z ((p + 1) % 256) 14 dX2_obey_13 rfl rfl ?_
    have b60 := omm (((p + 1) % 256).toNat)
    refine g_ialdZ (v := iZ (mm ((p + 1) % 256).toNat)) 15 dX2_obey_14 F1 (by omega) (by omega) (by decide) rfl rfl ?_
    refine g_sipush (v := iZ (255)) 18 dX2_obey_15 (by decide +kernel) rfl ?_
    refine g_and255Z (mm ((p + 1) % 256).toNat) 19 dX2_obey_18 (by omega) rfl ?_
    refine g_istore_n (L1 := [some (.ref m), some (.int (iZ 3)), some (.ref t), some (.int (iZ (mm ((p + 1) % 256).toNat))), none]) 20 dX2_obey_19 (by decide) rfl rfl rfl ?_
    refine g_aload_n 21 dX2_obey_20 rfl rfl ?_
    refine g_get 24 dX2_obey_21 faX2_31_X2 F0 rfl rfl ?_
    refine g_iload_n 25 dX2_obey_24 rfl rfl ?_
    refine g_callS (z := mX2_hasNumber) (As := [.int (iZ 3)]) 28 dX2_obey_25 mwX2_hasNumber ⟨by decide, by decide⟩ rfl wlX2_69 wtX2_hasNumber rfl (nle rfl) (nle rfl) rfl ?_
    refine Go.to [some (.int (iZ 3))] [] rfl rfl ?_
    refine g_iload_n 1 dX2_hasNumber_0 rfl rfl ?_
    refine g_iconst (v := iZ (3)) 2 dX2_hasNumber_1 rfl rfl ?_
    refine g_icZ_lt 11 5 dX2_hasNumber_2 rfl rfl (by decide) (by decide) (fun q => absurd q (by decide)) (fun _ => ?_)
    refine g_iload_n 6 dX2_hasNumber_5 rfl rfl ?_
    refine g_bipush (v := iZ (7)) 8 dX2_hasNumber_6 (by decide +kernel) rfl ?_
    refine g_icZ_le 23 11 dX2_hasNumber_8 rfl rfl (by decide) (by decide) (fun _ => ?_) (fun q => absurd q (by decide))
    refine g_iconst (v := iZ (1)) 24 dX2_hasNumber_23 rfl rfl ?_
    refine g_goto 28 dX2_hasNumber_24 rfl ?_
    refine g_zret rfl z01_1 dX2_hasNumber_28 ?_
    refine rI ?_
    refine g_ifZ_eq 35 31 dX2_obey_28 rfl rfl (by decide) (fun q => absurd q (by decide)) (fun _ => ?_)
    refine g_iconst (v := iZ (2)) 32 dX2_obey_31 rfl rfl ?_
    refine g_goto 36 dX2_obey_32 rfl ?_
    refine g_iaddZ (p + 2) 37 dX2_obey_36 (by omega) rfl ?_
    refine g_istore (L1 := [some (.ref m), some (.int (iZ 3)), some (.ref t), some (.int (iZ (mm ((p + 1) % 256).toNat))), some (.int (iZ (p + 2)))]) 39 dX2_obey_37 (by decide) rfl rfl rfl ?_
    refine g_iload_n 40 dX2_obey_39 rfl rfl ?_
    refine g_tabZI (3) 156 dX2_obey_40 (by decide) rfl (by decide) (by decide) rfl rfl ?_
    refine g_aload_n 157 dX2_obey_156 rfl rfl ?_
    refine g_iload_n 158 dX2_obey_157 rfl rfl ?_
    refine g_putC (fs1 := [.ref (m + 1), .ref (m + 2), .int (iZ (mm ((p + 1) % 256).toNat)), .int (iZ x), .int (iZ p), .int (iZ en), .int (iZ dn), .int (iZ tk), .int (iZ hm)]) 161 dX2_obey_158 fpX2_24_X2 F0 (nle rfl) (vI _) rfl rfl (fun h61 s62 f63 => ?_)
    refine g_goto 365 dX2_obey_161 rfl ?_
    refine g_aload_n 366 dX2_obey_365 rfl rfl ?_
    refine g_iload 368 dX2_obey_366 rfl rfl ?_
    refine g_sipush (v := iZ (255)) 371 dX2_obey_368 (by decide +kernel) rfl ?_
    refine g_and255Z ((p + 2) % 256) 372 dX2_obey_371 rfl rfl ?_
    refine g_putC (fs1 := [.ref (m + 1), .ref (m + 2), .int (iZ (mm ((p + 1) % 256).toNat)), .int (iZ x), .int (iZ ((p + 2) % 256)), .int (iZ en), .int (iZ dn), .int (iZ tk), .int (iZ hm)]) 375 dX2_obey_372 fpX2_31_X2 f63 (nle rfl) (vI _) rfl rfl (fun h64 s65 f66 => ?_)
    refine g_vret rfl dX2_obey_375 ?_
    have f67 := (s65.get (by simp <;> omega) (s62.get (by simp <;> omega) F1))
    have f68 := (s65.get (by simp <;> omega) (s62.get (by simp <;> omega) F2))
    have f69 := (s65.get (by simp <;> omega) (s62.get (by simp <;> omega) F3))
    have f70 := (s65.get (by simp <;> omega) (s62.get (by simp <;> omega) F4))
    exact k _ (mm ((p + 1) % 256).toNat) (x) ((p + 2) % 256) (en) (tk) (on) (mm) (of) (og) (by omega) (by omega) (by omega) ren (by omega) (by omega) omm oof oog (ms_3 ke) (((Sm.refl [m, m + 1, m + 2, m + 3, m + 4] _).tr s62 (fun _ q => q) (by simp)).tr s65 (fun _ q => q) (by simp)) f66 f67 f68 f69 f70
  · have ke : (mm p.toNat).toNat = 4 := by omega
    refine g_aload_n 1 dX2_obey_0 rfl rfl ?_
    refine g_get 4 dX2_obey_1 faX2_9_X2 F0 rfl rfl ?_
    refine g_aload_n 5 dX2_obey_4 rfl rfl ?_
    refine g_get 8 dX2_obey_5 faX2_31_X2 F0 rfl rfl ?_
    refine g_iconst (v := iZ (1)) 9 dX2_obey_8 rfl rfl ?_
    refine g_iaddZ (p + 1) 10 dX2_obey_9 (by omega) rfl ?_
    refine g_sipush (v := iZ (255)) 13 dX2_obey_10 (by decide +kernel) rfl ?_
    refine g_and255Z ((p + 1) % 256) 14 dX2_obey_13 rfl rfl ?_
    have b71 := omm (((p + 1) % 256).toNat)
    refine g_ialdZ (v := iZ (mm ((p + 1) % 256).toNat)) 15 dX2_obey_14 F1 (by omega) (by omega) (by decide) rfl rfl ?_
    refine g_sipush (v := iZ (255)) 18 dX2_obey_15 (by decide +kernel) rfl ?_
    refine g_and255Z (mm ((p + 1) % 256).toNat) 19 dX2_obey_18 (by omega) rfl ?_
    refine g_istore_n (L1 := [some (.ref m), some (.int (iZ 4)), some (.ref t), some (.int (iZ (mm ((p + 1) % 256).toNat))), none]) 20 dX2_obey_19 (by decide) rfl rfl rfl ?_
    refine g_aload_n 21 dX2_obey_20 rfl rfl ?_
    refine g_get 24 dX2_obey_21 faX2_31_X2 F0 rfl rfl ?_
    refine g_iload_n 25 dX2_obey_24 rfl rfl ?_
    refine g_callS (z := mX2_hasNumber) (As := [.int (iZ 4)]) 28 dX2_obey_25 mwX2_hasNumber ⟨by decide, by decide⟩ rfl wlX2_69 wtX2_hasNumber rfl (nle rfl) (nle rfl) rfl ?_
    refine Go.to [some (.int (iZ 4))] [] rfl rfl ?_
    refine g_iload_n 1 dX2_hasNumber_0 rfl rfl ?_
    refine g_iconst (v := iZ (3)) 2 dX2_hasNumber_1 rfl rfl ?_
    refine g_icZ_lt 11 5 dX2_hasNumber_2 rfl rfl (by decide) (by decide) (fun q => absurd q (by decide)) (fun _ => ?_)
    refine g_iload_n 6 dX2_hasNumber_5 rfl rfl ?_
    refine g_bipush (v := iZ (7)) 8 dX2_hasNumber_6 (by decide +kernel) rfl ?_
    refine g_icZ_le 23 11 dX2_hasNumber_8 rfl rfl (by decide) (by decide) (fun _ => ?_) (fun q => absurd q (by decide))
    refine g_iconst (v := iZ (1)) 24 dX2_hasNumber_23 rfl rfl ?_
    refine g_goto 28 dX2_hasNumber_24 rfl ?_
    refine g_zret rfl z01_1 dX2_hasNumber_28 ?_
    refine rI ?_
    refine g_ifZ_eq 35 31 dX2_obey_28 rfl rfl (by decide) (fun q => absurd q (by decide)) (fun _ => ?_)
    refine g_iconst (v := iZ (2)) 32 dX2_obey_31 rfl rfl ?_
    refine g_goto 36 dX2_obey_32 rfl ?_
    refine g_iaddZ (p + 2) 37 dX2_obey_36 (by omega) rfl ?_
    refine g_istore (L1 := [some (.ref m), some (.int (iZ 4)), some (.ref t), some (.int (iZ (mm ((p + 1) % 256).toNat))), some (.int (iZ (p + 2)))]) 39 dX2_obey_37 (by decide) rfl rfl rfl ?_
    refine g_iload_n 40 dX2_obey_39 rfl rfl ?_
    refine g_tabZI (4) 164 dX2_obey_40 (by decide) rfl (by decide) (by decide) rfl rfl ?_
    refine g_aload_n 165 dX2_obey_164 rfl rfl ?_
    refine g_aload_n 166 dX2_obey_165 rfl rfl ?_
    refine g_get 169 dX2_obey_166 faX2_9_X2 F0 rfl rfl ?_
    refine g_iload_n 170 dX2_obey_169 rfl rfl ?_
    have b72 := omm ((mm ((p + 1) % 256).toNat).toNat)
    refine g_ialdZ (v := iZ (mm (mm ((p + 1) % 256).toNat).toNat)) 171 dX2_obey_170 F1 (by omega) (by omega) (by decide) rfl rfl ?_
    refine g_putC (fs1 := [.ref (m + 1), .ref (m + 2), .int (iZ (mm (mm ((p + 1) % 256).toNat).toNat)), .int (iZ x), .int (iZ p), .int (iZ en), .int (iZ dn), .int (iZ tk), .int (iZ hm)]) 174 dX2_obey_171 fpX2_24_X2 F0 (nle rfl) (vI _) rfl rfl (fun h73 s74 f75 => ?_)
    refine g_goto 365 dX2_obey_174 rfl ?_
    refine g_aload_n 366 dX2_obey_365 rfl rfl ?_
    refine g_iload 368 dX2_obey_366 rfl rfl ?_
    refine g_sipush (v := iZ (255)) 371 dX2_obey_368 (by decide +kernel) rfl ?_
    refine g_and255Z ((p + 2) % 256) 372 dX2_obey_371 rfl rfl ?_
    refine g_putC (fs1 := [.ref (m + 1), .ref (m + 2), .int (iZ (mm (mm ((p + 1) % 256).toNat).toNat)), .int (iZ x), .int (iZ ((p + 2) % 256)), .int (iZ en), .int (iZ dn), .int (iZ tk), .int (iZ hm)]) 375 dX2_obey_372 fpX2_31_X2 f75 (nle rfl) (vI _) rfl rfl (fun h76 s77 f78 => ?_)
    refine g_vret rfl dX2_obey_375 ?_
    have f79 := (s77.get (by simp <;> omega) (s74.get (by simp <;> omega) F1))
    have f80 := (s77.get (by simp <;> omega) (s74.get (by simp <;> omega) F2))
    have f81 := (s77.get (by simp <;> omega) (s74.get (by simp <;> omega) F3))
    have f82 := (s77.get (by simp <;> omega) (s74.get (by simp <;> omega) F4))
    exact k _ (mm (mm ((p + 1) % 256).toNat).toNat) (x) ((p + 2) % 256) (en) (tk) (on) (mm) (of) (og) (by omega) (by omega) (by omega) ren (by omega) (by omega) omm oof oog (ms_4 ke) (((Sm.refl [m, m + 1, m + 2, m + 3, m + 4] _).tr s74 (fun _ q => q) (by simp)).tr s77 (fun _ q => q) (by simp)) f78 f79 f80 f81 f82
  · have ke : (mm p.toNat).toNat = 5 := by omega
    refine g_aload_n 1 dX2_obey_0 rfl rfl ?_
    refine g_get 4 dX2_obey_1 faX2_9_X2 F0 rfl rfl ?_
    refine g_aload_n 5 dX2_obey_4 rfl rfl ?_
    refine g_get 8 dX2_obey_5 faX2_31_X2 F0 rfl rfl ?_
    refine g_iconst (v := iZ (1)) 9 dX2_obey_8 rfl rfl ?_
    refine g_iaddZ (p + 1) 10 dX2_obey_9 (by omega) rfl ?_
    refine g_sipush (v := iZ (255)) 13 dX2_obey_10 (by decide +kernel) rfl ?_
    refine g_and255Z ((p + 1) % 256) 14 dX2_obey_13 rfl rfl ?_
    have b83 := omm (((p + 1) % 256).toNat)
    refine g_ialdZ (v := iZ (mm ((p + 1) % 256).toNat)) 15 dX2_obey_14 F1 (by omega) (by omega) (by decide) rfl rfl ?_
    refine g_sipush (v := iZ (255)) 18 dX2_obey_15 (by decide +kernel) rfl ?_
    refine g_and255Z (mm ((p + 1) % 256).toNat) 19 dX2_obey_18 (by omega) rfl ?_
    refine g_istore_n (L1 := [some (.ref m), some (.int (iZ 5)), some (.ref t), some (.int (iZ (mm ((p + 1) % 256).toNat))), none]) 20 dX2_obey_19 (by decide) rfl rfl rfl ?_
    refine g_aload_n 21 dX2_obey_20 rfl rfl ?_
    refine g_get 24 dX2_obey_21 faX2_31_X2 F0 rfl rfl ?_
    refine g_iload_n 25 dX2_obey_24 rfl rfl ?_
    refine g_callS (z := mX2_hasNumber) (As := [.int (iZ 5)]) 28 dX2_obey_25 mwX2_hasNumber ⟨by decide, by decide⟩ rfl wlX2_69 wtX2_hasNumber rfl (nle rfl) (nle rfl) rfl ?_
    refine Go.to [some (.int (iZ 5))] [] rfl rfl ?_
    refine g_iload_n 1 dX2_hasNumber_0 rfl rfl ?_
    refine g_iconst (v := iZ (3)) 2 dX2_hasNumber_1 rfl rfl ?_
    refine g_icZ_lt 11 5 dX2_hasNumber_2 rfl rfl (by decide) (by decide) (fun q => absurd q (by decide)) (fun _ => ?_)
    refine g_iload_n 6 dX2_hasNumber_5 rfl rfl ?_
    refine g_bipush (v := iZ (7)) 8 dX2_hasNumber_6 (by decide +kernel) rfl ?_
    refine g_icZ_le 23 11 dX2_hasNumber_8 rfl rfl (by decide) (by decide) (fun _ => ?_) (fun q => absurd q (by decide))
    refine g_iconst (v := iZ (1)) 24 dX2_hasNumber_23 rfl rfl ?_
    refine g_goto 28 dX2_hasNumber_24 rfl ?_
    refine g_zret rfl z01_1 dX2_hasNumber_28 ?_
    refine rI ?_
    refine g_ifZ_eq 35 31 dX2_obey_28 rfl rfl (by decide) (fun q => absurd q (by decide)) (fun _ => ?_)
    refine g_iconst (v := iZ (2)) 32 dX2_obey_31 rfl rfl ?_
    refine g_goto 36 dX2_obey_32 rfl ?_
    refine g_iaddZ (p + 2) 37 dX2_obey_36 (by omega) rfl ?_
    refine g_istore (L1 := [some (.ref m), some (.int (iZ 5)), some (.ref t), some (.int (iZ (mm ((p + 1) % 256).toNat))), some (.int (iZ (p + 2)))]) 39 dX2_obey_37 (by decide) rfl rfl rfl ?_
    refine g_iload_n 40 dX2_obey_39 rfl rfl ?_
    refine g_tabZI (5) 177 dX2_obey_40 (by decide) rfl (by decide) (by decide) rfl rfl ?_
    refine g_aload_n 178 dX2_obey_177 rfl rfl ?_
    refine g_get 181 dX2_obey_178 faX2_9_X2 F0 rfl rfl ?_
    refine g_iload_n 182 dX2_obey_181 rfl rfl ?_
    refine g_aload_n 183 dX2_obey_182 rfl rfl ?_
    refine g_get 186 dX2_obey_183 faX2_24_X2 F0 rfl rfl ?_
    refine g_iastFj ((mm ((p + 1) % 256).toNat).toNat) 187 dX2_obey_186 F1 (by omega) (by omega) (by decide) rfl rfl (fun h84 s85 f86 => ?_)
    refine g_goto 365 dX2_obey_187 rfl ?_
    refine g_aload_n 366 dX2_obey_365 rfl rfl ?_
    refine g_iload 368 dX2_obey_366 rfl rfl ?_
    refine g_sipush (v := iZ (255)) 371 dX2_obey_368 (by decide +kernel) rfl ?_
    refine g_and255Z ((p + 2) % 256) 372 dX2_obey_371 rfl rfl ?_
    have f87 := (s85.get (by simp <;> omega) F0)
    refine g_putC (fs1 := [.ref (m + 1), .ref (m + 2), .int (iZ a), .int (iZ x), .int (iZ ((p + 2) % 256)), .int (iZ en), .int (iZ dn), .int (iZ tk), .int (iZ hm)]) 375 dX2_obey_372 fpX2_31_X2 f87 (nle rfl) (vI _) rfl rfl (fun h88 s89 f90 => ?_)
    refine g_vret rfl dX2_obey_375 ?_
    have f91 := (s89.get (by simp <;> omega) f86)
    have f92 := (s89.get (by simp <;> omega) (s85.get (by simp <;> omega) F2))
    have f93 := (s89.get (by simp <;> omega) (s85.get (by simp <;> omega) F3))
    have f94 := (s89.get (by simp <;> omega) (s85.get (by simp <;> omega) F4))
    exact k _ (a) (x) ((p + 2) % 256) (en) (tk) (on) (va_up mm (mm ((p + 1) % 256).toNat).toNat a) (of) (og) (by omega) (by omega) (by omega) ren (by omega) (by omega) (oki_up omm _ (by omega)) oof oog (ms_5 ke) (((Sm.refl [m, m + 1, m + 2, m + 3, m + 4] _).tr s85 (fun _ q => q) (by simp)).tr s89 (fun _ q => q) (by simp)) f90 f91 f92 f93 f94
  · have ke : (mm p.toNat).toNat = 6 := by omega
    refine g_aload_n 1 dX2_obey_0 rfl rfl ?_
    refine g_get 4 dX2_obey_1 faX2_9_X2 F0 rfl rfl ?_
    refine g_aload_n 5 dX2_obey_4 rfl rfl ?_
    refine g_get 8 dX2_obey_5 faX2_31_X2 F0 rfl rfl ?_
    refine g_iconst (v := iZ (1)) 9 dX2_obey_8 rfl rfl ?_
    refine g_iaddZ (p + 1) 10 dX2_obey_9 (by omega) rfl ?_
    refine g_sipush (v := iZ (255)) 13 dX2_obey_10 (by decide +kernel) rfl ?_
    refine g_and255Z ((p + 1) % 256) 14 dX2_obey_13 rfl rfl ?_
    have b95 := omm (((p + 1) % 256).toNat)
    refine g_ialdZ (v := iZ (mm ((p + 1) % 256).toNat)) 15 dX2_obey_14 F1 (by omega) (by omega) (by decide) rfl rfl ?_
    refine g_sipush (v := iZ (255)) 18 dX2_obey_15 (by decide +kernel) rfl ?_
    refine g_and255Z (mm ((p + 1) % 256).toNat) 19 dX2_obey_18 (by omega) rfl ?_
    refine g_istore_n (L1 := [some (.ref m), some (.int (iZ 6)), some (.ref t), some (.int (iZ (mm ((p + 1) % 256).toNat))), none]) 20 dX2_obey_19 (by decide) rfl rfl rfl ?_
    refine g_aload_n 21 dX2_obey_20 rfl rfl ?_
    refine g_get 24 dX2_obey_21 faX2_31_X2 F0 rfl rfl ?_
    refine g_iload_n 25 dX2_obey_24 rfl rfl ?_
    refine g_callS (z := mX2_hasNumber) (As := [.int (iZ 6)]) 28 dX2_obey_25 mwX2_hasNumber ⟨by decide, by decide⟩ rfl wlX2_69 wtX2_hasNumber rfl (nle rfl) (nle rfl) rfl ?_
    refine Go.to [some (.int (iZ 6))] [] rfl rfl ?_
    refine g_iload_n 1 dX2_hasNumber_0 rfl rfl ?_
    refine g_iconst (v := iZ (3)) 2 dX2_hasNumber_1 rfl rfl ?_
    refine g_icZ_lt 11 5 dX2_hasNumber_2 rfl rfl (by decide) (by decide) (fun q => absurd q (by decide)) (fun _ => ?_)
    refine g_iload_n 6 dX2_hasNumber_5 rfl rfl ?_
    refine g_bipush (v := iZ (7)) 8 dX2_hasNumber_6 (by decide +kernel) rfl ?_
    refine g_icZ_le 23 11 dX2_hasNumber_8 rfl rfl (by decide) (by decide) (fun _ => ?_) (fun q => absurd q (by decide))
    refine g_iconst (v := iZ (1)) 24 dX2_hasNumber_23 rfl rfl ?_
    refine g_goto 28 dX2_hasNumber_24 rfl ?_
    refine g_zret rfl z01_1 dX2_hasNumber_28 ?_
    refine rI ?_
    refine g_ifZ_eq 35 31 dX2_obey_28 rfl rfl (by decide) (fun q => absurd q (by decide)) (fun _ => ?_)
    refine g_iconst (v := iZ (2)) 32 dX2_obey_31 rfl rfl ?_
    refine g_goto 36 dX2_obey_32 rfl ?_
    refine g_iaddZ (p + 2) 37 dX2_obey_36 (by omega) rfl ?_
    refine g_istore (L1 := [some (.ref m), some (.int (iZ 6)), some (.ref t), some (.int (iZ (mm ((p + 1) % 256).toNat))), some (.int (iZ (p + 2)))]) 39 dX2_obey_37 (by decide) rfl rfl rfl ?_
    refine g_iload_n 40 dX2_obey_39 rfl rfl ?_
    refine g_tabZI (6) 190 dX2_obey_40 (by decide) rfl (by decide) (by decide) rfl rfl ?_
    refine g_aload_n 191 dX2_obey_190 rfl rfl ?_
    refine g_aload_n 192 dX2_obey_191 rfl rfl ?_
    refine g_get 195 dX2_obey_192 faX2_24_X2 F0 rfl rfl ?_
    refine g_aload_n 196 dX2_obey_195 rfl rfl ?_
    refine g_get 199 dX2_obey_196 faX2_9_X2 F0 rfl rfl ?_
    refine g_iload_n 200 dX2_obey_199 rfl rfl ?_
    have b96 := omm ((mm ((p + 1) % 256).toNat).toNat)
    refine g_ialdZ (v := iZ (mm (mm ((p + 1) % 256).toNat).toNat)) 201 dX2_obey_200 F1 (by omega) (by omega) (by decide) rfl rfl ?_
    refine g_iaddZ (a + (mm (mm ((p + 1) % 256).toNat).toNat)) 202 dX2_obey_201 (by omega) rfl ?_
    refine g_sipush (v := iZ (255)) 205 dX2_obey_202 (by decide +kernel) rfl ?_
    refine g_and255Z ((a + (mm (mm ((p + 1) % 256).toNat).toNat)) % 256) 206 dX2_obey_205 rfl rfl ?_
    refine g_putC (fs1 := [.ref (m + 1), .ref (m + 2), .int (iZ ((a + (mm (mm ((p + 1) % 256).toNat).toNat)) % 256)), .int (iZ x), .int (iZ p), .int (iZ en), .int (iZ dn), .int (iZ tk), .int (iZ hm)]) 209 dX2_obey_206 fpX2_24_X2 F0 (nle rfl) (vI _) rfl rfl (fun h97 s98 f99 => ?_)
    refine g_goto 365 dX2_obey_209 rfl ?_
    refine g_aload_n 366 dX2_obey_365 rfl rfl ?_
    refine g_iload 368 dX2_obey_366 rfl rfl ?_
    refine g_sipush (v := iZ (255)) 371 dX2_obey_368 (by decide +kernel) rfl ?_
    refine g_and255Z ((p + 2) % 256) 372 dX2_obey_371 rfl rfl ?_
    refine g_putC (fs1 := [.ref (m + 1), .ref (m + 2), .int (iZ ((a + (mm (mm ((p + 1) % 256).toNat).toNat)) % 256)), .int (iZ x), .int (iZ ((p + 2) % 256)), .int (iZ en), .int (iZ dn), .int (iZ tk), .int (iZ hm)]) 375 dX2_obey_372 fpX2_31_X2 f99 (nle rfl) (vI _) rfl rfl (fun h100 s101 f102 => ?_)
    refine g_vret rfl dX2_obey_375 ?_
    have f103 := (s101.get (by simp <;> omega) (s98.get (by simp <;> omega) F1))
    have f104 := (s101.get (by simp <;> omega) (s98.get (by simp <;> omega) F2))
    have f105 := (s101.get (by simp <;> omega) (s98.get (by simp <;> omega) F3))
    have f106 := (s101.get (by simp <;> omega) (s98.get (by simp <;> omega) F4))
    exact k _ ((a + (mm (mm ((p + 1) % 256).toNat).toNat)) % 256) (x) ((p + 2) % 256) (en) (tk) (on) (mm) (of) (og) (by omega) (by omega) (by omega) ren (by omega) (by omega) omm oof oog (ms_6 ke) (((Sm.refl [m, m + 1, m + 2, m + 3, m + 4] _).tr s98 (fun _ q => q) (by simp)).tr s101 (fun _ q => q) (by simp)) f102 f103 f104 f105 f106
  · have ke : (mm p.toNat).toNat = 7 := by omega
    refine g_aload_n 1 dX2_obey_0 rfl rfl ?_
    refine g_get 4 dX2_obey_1 faX2_9_X2 F0 rfl rfl ?_
    refine g_aload_n 5 dX2_obey_4 rfl rfl ?_
    refine g_get 8 dX2_obey_5 faX2_31_X2 F0 rfl rfl ?_
    refine g_iconst (v := iZ (1)) 9 dX2_obey_8 rfl rfl ?_
    refine g_iaddZ (p + 1) 10 dX2_obey_9 (by omega) rfl ?_
    refine g_sipush (v := iZ (255)) 13 dX2_obey_10 (by decide +kernel) rfl ?_
    refine g_and255Z ((p + 1) % 256) 14 dX2_obey_13 rfl rfl ?_
    have b107 := omm (((p + 1) % 256).toNat)
    refine g_ialdZ (v := iZ (mm ((p + 1) % 256).toNat)) 15 dX2_obey_14 F1 (by omega) (by omega) (by decide) rfl rfl ?_
    refine g_sipush (v := iZ (255)) 18 dX2_obey_15 (by decide +kernel) rfl ?_
    refine g_and255Z (mm ((p + 1) % 256).toNat) 19 dX2_obey_18 (by omega) rfl ?_
    refine g_istore_n (L1 := [some (.ref m), some (.int (iZ 7)), some (.ref t), some (.int (iZ (mm ((p + 1) % 256).toNat))), none]) 20 dX2_obey_19 (by decide) rfl rfl rfl ?_
    refine g_aload_n 21 dX2_obey_20 rfl rfl ?_
    refine g_get 24 dX2_obey_21 faX2_31_X2 F0 rfl rfl ?_
    refine g_iload_n 25 dX2_obey_24 rfl rfl ?_
    refine g_callS (z := mX2_hasNumber) (As := [.int (iZ 7)]) 28 dX2_obey_25 mwX2_hasNumber ⟨by decide, by decide⟩ rfl wlX2_69 wtX2_hasNumber rfl (nle rfl) (nle rfl) rfl ?_
    refine Go.to [some (.int (iZ 7))] [] rfl rfl ?_
    refine g_iload_n 1 dX2_hasNumber_0 rfl rfl ?_
    refine g_iconst (v := iZ (3)) 2 dX2_hasNumber_1 rfl rfl ?_
    refine g_icZ_lt 11 5 dX2_hasNumber_2 rfl rfl (by decide) (by decide) (fun q => absurd q (by decide)) (fun _ => ?_)
    refine g_iload_n 6 dX2_hasNumber_5 rfl rfl ?_
    refine g_bipush (v := iZ (7)) 8 dX2_hasNumber_6 (by decide +kernel) rfl ?_
    refine g_icZ_le 23 11 dX2_hasNumber_8 rfl rfl (by decide) (by decide) (fun _ => ?_) (fun q => absurd q (by decide))
    refine g_iconst (v := iZ (1)) 24 dX2_hasNumber_23 rfl rfl ?_
    refine g_goto 28 dX2_hasNumber_24 rfl ?_
    refine g_zret rfl z01_1 dX2_hasNumber_28 ?_
    refine rI ?_
    refine g_ifZ_eq 35 31 dX2_obey_28 rfl rfl (by decide) (fun q => absurd q (by decide)) (fun _ => ?_)
    refine g_iconst (v := iZ (2)) 32 dX2_obey_31 rfl rfl ?_
    refine g_goto 36 dX2_obey_32 rfl ?_
    refine g_iaddZ (p + 2) 37 dX2_obey_36 (by omega) rfl ?_
    refine g_istore (L1 := [some (.ref m), some (.int (iZ 7)), some (.ref t), some (.int (iZ (mm ((p + 1) % 256).toNat))), some (.int (iZ (p + 2)))]) 39 dX2_obey_37 (by decide) rfl rfl rfl ?_
    refine g_iload_n 40 dX2_obey_39 rfl rfl ?_
    refine g_tabZI (7) 212 dX2_obey_40 (by decide) rfl (by decide) (by decide) rfl rfl ?_
    refine g_aload_n 213 dX2_obey_212 rfl rfl ?_
    refine g_aload_n 214 dX2_obey_213 rfl rfl ?_
    refine g_get 217 dX2_obey_214 faX2_24_X2 F0 rfl rfl ?_
    refine g_aload_n 218 dX2_obey_217 rfl rfl ?_
    refine g_get 221 dX2_obey_218 faX2_9_X2 F0 rfl rfl ?_
    refine g_iload_n 222 dX2_obey_221 rfl rfl ?_
    have b108 := omm ((mm ((p + 1) % 256).toNat).toNat)
    refine g_ialdZ (v := iZ (mm (mm ((p + 1) % 256).toNat).toNat)) 223 dX2_obey_222 F1 (by omega) (by omega) (by decide) rfl rfl ?_
    refine g_isubZ (a - (mm (mm ((p + 1) % 256).toNat).toNat)) 224 dX2_obey_223 (by omega) rfl ?_
    refine g_sipush (v := iZ (255)) 227 dX2_obey_224 (by decide +kernel) rfl ?_
    refine g_and255Z ((a - (mm (mm ((p + 1) % 256).toNat).toNat)) % 256) 228 dX2_obey_227 rfl rfl ?_
    refine g_putC (fs1 := [.ref (m + 1), .ref (m + 2), .int (iZ ((a - (mm (mm ((p + 1) % 256).toNat).toNat)) % 256)), .int (iZ x), .int (iZ p), .int (iZ en), .int (iZ dn), .int (iZ tk), .int (iZ hm)]) 231 dX2_obey_228 fpX2_24_X2 F0 (nle rfl) (vI _) rfl rfl (fun h109 s110 f111 => ?_)
    refine g_goto 365 dX2_obey_231 rfl ?_
    refine g_aload_n 366 dX2_obey_365 rfl rfl ?_
    refine g_iload 368 dX2_obey_366 rfl rfl ?_
    refine g_sipush (v := iZ (255)) 371 dX2_obey_368 (by decide +kernel) rfl ?_
    refine g_and255Z ((p + 2) % 256) 372 dX2_obey_371 rfl rfl ?_
    refine g_putC (fs1 := [.ref (m + 1), .ref (m + 2), .int (iZ ((a - (mm (mm ((p + 1) % 256).toNat).toNat)) % 256)), .int (iZ x), .int (iZ ((p + 2) % 256)), .int (iZ en), .int (iZ dn), .int (iZ tk), .int (iZ hm)]) 375 dX2_obey_372 fpX2_31_X2 f111 (nle rfl) (vI _) rfl rfl (fun h112 s113 f114 => ?_)
    refine g_vret rfl dX2_obey_375 ?_
    have f115 := (s113.get (by simp <;> omega) (s110.get (by simp <;> omega) F1))
    have f116 := (s113.get (by simp <;> omega) (s110.get (by simp <;> omega) F2))
    have f117 := (s113.get (by simp <;> omega) (s110.get (by simp <;> omega) F3))
    have f118 := (s113.get (by simp <;> omega) (s110.get (by simp <;> omega) F4))
    exact k _ ((a - (mm (mm ((p + 1) % 256).toNat).toNat)) % 256) (x) ((p + 2) % 256) (en) (tk) (on) (mm) (of) (og) (by omega) (by omega) (by omega) ren (by omega) (by omega) omm oof oog (ms_7 ke) (((Sm.refl [m, m + 1, m + 2, m + 3, m + 4] _).tr s110 (fun _ q => q) (by simp)).tr s113 (fun _ q => q) (by simp)) f114 f115 f116 f117 f118
  · have ke : (mm p.toNat).toNat = 8 := by omega
    refine g_aload_n 1 dX2_obey_0 rfl rfl ?_
    refine g_get 4 dX2_obey_1 faX2_9_X2 F0 rfl rfl ?_
    refine g_aload_n 5 dX2_obey_4 rfl rfl ?_
    refine g_get 8 dX2_obey_5 faX2_31_X2 F0 rfl rfl ?_
    refine g_iconst (v := iZ (1)) 9 dX2_obey_8 rfl rfl ?_
    refine g_iaddZ (p + 1) 10 dX2_obey_9 (by omega) rfl ?_
    refine g_sipush (v := iZ (255)) 13 dX2_obey_10 (by decide +kernel) rfl ?_
    refine g_and255Z ((p + 1) % 256) 14 dX2_obey_13 rfl rfl ?_
    have b119 := omm (((p + 1) % 256).toNat)
    refine g_ialdZ (v := iZ (mm ((p + 1) % 256).toNat)) 15 dX2_obey_14 F1 (by omega) (by omega) (by decide) rfl rfl ?_
    refine g_sipush (v := iZ (255)) 18 dX2_obey_15 (by decide +kernel) rfl ?_
    refine g_and255Z (mm ((p + 1) % 256).toNat) 19 dX2_obey_18 (by omega) rfl ?_
    refine g_istore_n (L1 := [some (.ref m), some (.int (iZ 8)), some (.ref t), some (.int (iZ (mm ((p + 1) % 256).toNat))), none]) 20 dX2_obey_19 (by decide) rfl rfl rfl ?_
    refine g_aload_n 21 dX2_obey_20 rfl rfl ?_
    refine g_get 24 dX2_obey_21 faX2_31_X2 F0 rfl rfl ?_
    refine g_iload_n 25 dX2_obey_24 rfl rfl ?_
    refine g_callS (z := mX2_hasNumber) (As := [.int (iZ 8)]) 28 dX2_obey_25 mwX2_hasNumber ⟨by decide, by decide⟩ rfl wlX2_69 wtX2_hasNumber rfl (nle rfl) (nle rfl) rfl ?_
    refine Go.to [some (.int (iZ 8))] [] rfl rfl ?_
    refine g_iload_n 1 dX2_hasNumber_0 rfl rfl ?_
    refine g_iconst (v := iZ (3)) 2 dX2_hasNumber_1 rfl rfl ?_
    refine g_icZ_lt 11 5 dX2_hasNumber_2 rfl rfl (by decide) (by decide) (fun q => absurd q (by decide)) (fun _ => ?_)
    refine g_iload_n 6 dX2_hasNumber_5 rfl rfl ?_
    refine g_bipush (v := iZ (7)) 8 dX2_hasNumber_6 (by decide +kernel) rfl ?_
    refine g_icZ_le 23 11 dX2_hasNumber_8 rfl rfl (by decide) (by decide) (fun q => absurd q (by decide)) (fun _ => ?_)
    refine g_iload_n 12 dX2_hasNumber_11 rfl rfl ?_
    refine g_bipush (v := iZ (11)) 14 dX2_hasNumber_12 (by decide +kernel) rfl ?_
    refine g_icZ_lt 27 17 dX2_hasNumber_14 rfl rfl (by decide) (by decide) (fun _ => ?_) (fun q => absurd q (by decide))
    refine g_iconst (v := iZ (0)) 28 dX2_hasNumber_27 rfl rfl ?_
    refine g_zret rfl z01_0 dX2_hasNumber_28 ?_
    refine rI ?_
    refine g_ifZ_eq 35 31 dX2_obey_28 rfl rfl (by decide) (fun _ => ?_) (fun q => absurd q (by decide))
    refine g_iconst (v := iZ (1)) 36 dX2_obey_35 rfl rfl ?_
    refine g_iaddZ (p + 1) 37 dX2_obey_36 (by omega) rfl ?_
    refine g_istore (L1 := [some (.ref m), some (.int (iZ 8)), some (.ref t), some (.int (iZ (mm ((p + 1) % 256).toNat))), some (.int (iZ (p + 1)))]) 39 dX2_obey_37 (by decide) rfl rfl rfl ?_
    refine g_iload_n 40 dX2_obey_39 rfl rfl ?_
    refine g_tabZI (8) 234 dX2_obey_40 (by decide) rfl (by decide) (by decide) rfl rfl ?_
    refine g_aload_n 235 dX2_obey_234 rfl rfl ?_
    refine g_aload_n 236 dX2_obey_235 rfl rfl ?_
    refine g_get 239 dX2_obey_236 faX2_9_X2 F0 rfl rfl ?_
    refine g_aload_n 240 dX2_obey_239 rfl rfl ?_
    refine g_get 243 dX2_obey_240 faX2_28_X2 F0 rfl rfl ?_
    refine g_sipush (v := iZ (255)) 246 dX2_obey_243 (by decide +kernel) rfl ?_
    refine g_and255Z (x) 247 dX2_obey_246 (by omega) rfl ?_
    have b120 := omm ((x).toNat)
    refine g_ialdZ (v := iZ (mm x.toNat)) 248 dX2_obey_247 F1 (by omega) (by omega) (by decide) rfl rfl ?_
    refine g_putC (fs1 := [.ref (m + 1), .ref (m + 2), .int (iZ (mm x.toNat)), .int (iZ x), .int (iZ p), .int (iZ en), .int (iZ dn), .int (iZ tk), .int (iZ hm)]) 251 dX2_obey_248 fpX2_24_X2 F0 (nle rfl) (vI _) rfl rfl (fun h121 s122 f123 => ?_)
    refine g_goto 365 dX2_obey_251 rfl ?_
    refine g_aload_n 366 dX2_obey_365 rfl rfl ?_
    refine g_iload 368 dX2_obey_366 rfl rfl ?_
    refine g_sipush (v := iZ (255)) 371 dX2_obey_368 (by decide +kernel) rfl ?_
    refine g_and255Z ((p + 1) % 256) 372 dX2_obey_371 rfl rfl ?_
    refine g_putC (fs1 := [.ref (m + 1), .ref (m + 2), .int (iZ (mm x.toNat)), .int (iZ x), .int (iZ ((p + 1) % 256)), .int (iZ en), .int (iZ dn), .int (iZ tk), .int (iZ hm)]) 375 dX2_obey_372 fpX2_31_X2 f123 (nle rfl) (vI _) rfl rfl (fun h124 s125 f126 => ?_)
    refine g_vret rfl dX2_obey_375 ?_
    have f127 := (s125.get (by simp <;> omega) (s122.get (by simp <;> omega) F1))
    have f128 := (s125.get (by simp <;> omega) (s122.get (by simp <;> omega) F2))
    have f129 := (s125.get (by simp <;> omega) (s122.get (by simp <;> omega) F3))
    have f130 := (s125.get (by simp <;> omega) (s122.get (by simp <;> omega) F4))
    exact k _ (mm x.toNat) (x) ((p + 1) % 256) (en) (tk) (on) (mm) (of) (og) (by omega) (by omega) (by omega) ren (by omega) (by omega) omm oof oog (ms_8 ke) (((Sm.refl [m, m + 1, m + 2, m + 3, m + 4] _).tr s122 (fun _ q => q) (by simp)).tr s125 (fun _ q => q) (by simp)) f126 f127 f128 f129 f130
  · have ke : (mm p.toNat).toNat = 9 := by omega
    refine g_aload_n 1 dX2_obey_0 rfl rfl ?_
    refine g_get 4 dX2_obey_1 faX2_9_X2 F0 rfl rfl ?_
    refine g_aload_n 5 dX2_obey_4 rfl rfl ?_
    refine g_get 8 dX2_obey_5 faX2_31_X2 F0 rfl rfl ?_
    refine g_iconst (v := iZ (1)) 9 dX2_obey_8 rfl rfl ?_
    refine g_iaddZ (p + 1) 10 dX2_obey_9 (by omega) rfl ?_
    refine g_sipush (v := iZ (255)) 13 dX2_obey_10 (by decide +kernel) rfl ?_
    refine g_and255Z ((p + 1) % 256) 14 dX2_obey_13 rfl rfl ?_
    have b131 := omm (((p + 1) % 256).toNat)
    refine g_ialdZ (v := iZ (mm ((p + 1) % 256).toNat)) 15 dX2_obey_14 F1 (by omega) (by omega) (by decide) rfl rfl ?_
    refine g_sipush (v := iZ (255)) 18 dX2_obey_15 (by decide +kernel) rfl ?_
    refine g_and255Z (mm ((p + 1) % 256).toNat) 19 dX2_obey_18 (by omega) rfl ?_
    refine g_istore_n (L1 := [some (.ref m), some (.int (iZ 9)), some (.ref t), some (.int (iZ (mm ((p + 1) % 256).toNat))), none]) 20 dX2_obey_19 (by decide) rfl rfl rfl ?_
    refine g_aload_n 21 dX2_obey_20 rfl rfl ?_
    refine g_get 24 dX2_obey_21 faX2_31_X2 F0 rfl rfl ?_
    refine g_iload_n 25 dX2_obey_24 rfl rfl ?_
    refine g_callS (z := mX2_hasNumber) (As := [.int (iZ 9)]) 28 dX2_obey_25 mwX2_hasNumber ⟨by decide, by decide⟩ rfl wlX2_69 wtX2_hasNumber rfl (nle rfl) (nle rfl) rfl ?_
    refine Go.to [some (.int (iZ 9))] [] rfl rfl ?_
    refine g_iload_n 1 dX2_hasNumber_0 rfl rfl ?_
    refine g_iconst (v := iZ (3)) 2 dX2_hasNumber_1 rfl rfl ?_
    refine g_icZ_lt 11 5 dX2_hasNumber_2 rfl rfl (by decide) (by decide) (fun q => absurd q (by decide)) (fun _ => ?_)
    refine g_iload_n 6 dX2_hasNumber_5 rfl rfl ?_
    refine g_bipush (v := iZ (7)) 8 dX2_hasNumber_6 (by decide +kernel) rfl ?_
    refine g_icZ_le 23 11 dX2_hasNumber_8 rfl rfl (by decide) (by decide) (fun q => absurd q (by decide)) (fun _ => ?_)
    refine g_iload_n 12 dX2_hasNumber_11 rfl rfl ?_
    refine g_bipush (v := iZ (11)) 14 dX2_hasNumber_12 (by decide +kernel) rfl ?_
    refine g_icZ_lt 27 17 dX2_hasNumber_14 rfl rfl (by decide) (by decide) (fun _ => ?_) (fun q => absurd q (by decide))
    refine g_iconst (v := iZ (0)) 28 dX2_hasNumber_27 rfl rfl ?_
    refine g_zret rfl z01_0 dX2_hasNumber_28 ?_
    refine rI ?_
    refine g_ifZ_eq 35 31 dX2_obey_28 rfl rfl (by decide) (fun _ => ?_) (fun q => absurd q (by decide))
    refine g_iconst (v := iZ (1)) 36 dX2_obey_35 rfl rfl ?_
    refine g_iaddZ (p + 1) 37 dX2_obey_36 (by omega) rfl ?_
    refine g_istore (L1 := [some (.ref m), some (.int (iZ 9)), some (.ref t), some (.int (iZ (mm ((p + 1) % 256).toNat))), some (.int (iZ (p + 1)))]) 39 dX2_obey_37 (by decide) rfl rfl rfl ?_
    refine g_iload_n 40 dX2_obey_39 rfl rfl ?_
    refine g_tabZI (9) 254 dX2_obey_40 (by decide) rfl (by decide) (by decide) rfl rfl ?_
    refine g_aload_n 255 dX2_obey_254 rfl rfl ?_
    refine g_get 258 dX2_obey_255 faX2_9_X2 F0 rfl rfl ?_
    refine g_aload_n 259 dX2_obey_258 rfl rfl ?_
    refine g_get 262 dX2_obey_259 faX2_28_X2 F0 rfl rfl ?_
    refine g_sipush (v := iZ (255)) 265 dX2_obey_262 (by decide +kernel) rfl ?_
    refine g_and255Z (x) 266 dX2_obey_265 (by omega) rfl ?_
    refine g_aload_n 267 dX2_obey_266 rfl rfl ?_
    refine g_get 270 dX2_obey_267 faX2_24_X2 F0 rfl rfl ?_
    refine g_iastFj (x.toNat) 271 dX2_obey_270 F1 (by omega) (by omega) (by decide) rfl rfl (fun h132 s133 f134 => ?_)
    refine g_goto 365 dX2_obey_271 rfl ?_
    refine g_aload_n 366 dX2_obey_365 rfl rfl ?_
    refine g_iload 368 dX2_obey_366 rfl rfl ?_
    refine g_sipush (v := iZ (255)) 371 dX2_obey_368 (by decide +kernel) rfl ?_
    refine g_and255Z ((p + 1) % 256) 372 dX2_obey_371 rfl rfl ?_
    have f135 := (s133.get (by simp <;> omega) F0)
    refine g_putC (fs1 := [.ref (m + 1), .ref (m + 2), .int (iZ a), .int (iZ x), .int (iZ ((p + 1) % 256)), .int (iZ en), .int (iZ dn), .int (iZ tk), .int (iZ hm)]) 375 dX2_obey_372 fpX2_31_X2 f135 (nle rfl) (vI _) rfl rfl (fun h136 s137 f138 => ?_)
    refine g_vret rfl dX2_obey_375 ?_
    have f139 := (s137.get (by simp <;> omega) f134)
    have f140 := (s137.get (by simp <;> omega) (s133.get (by simp <;> omega) F2))
    have f141 := (s137.get (by simp <;> omega) (s133.get (by simp <;> omega) F3))
    have f142 := (s137.get (by simp <;> omega) (s133.get (by simp <;> omega) F4))
    exact k _ (a) (x) ((p + 1) % 256) (en) (tk) (on) (va_up mm x.toNat a) (of) (og) (by omega) (by omega) (by omega) ren (by omega) (by omega) (oki_up omm _ (by omega)) oof oog (ms_9 ke) (((Sm.refl [m, m + 1, m + 2, m + 3, m + 4] _).tr s133 (fun _ q => q) (by simp)).tr s137 (fun _ q => q) (by simp)) f138 f139 f140 f141 f142
  · have ke : (mm p.toNat).toNat = 10 := by omega
    refine g_aload_n 1 dX2_obey_0 rfl rfl ?_
    refine g_get 4 dX2_obey_1 faX2_9_X2 F0 rfl rfl ?_
    refine g_aload_n 5 dX2_obey_4 rfl rfl ?_
    refine g_get 8 dX2_obey_5 faX2_31_X2 F0 rfl rfl ?_
    refine g_iconst (v := iZ (1)) 9 dX2_obey_8 rfl rfl ?_
    refine g_iaddZ (p + 1) 10 dX2_obey_9 (by omega) rfl ?_
    refine g_sipush (v := iZ (255)) 13 dX2_obey_10 (by decide +kernel) rfl ?_
    refine g_and255Z ((p + 1) % 256) 14 dX2_obey_13 rfl rfl ?_
    have b143 := omm (((p + 1) % 256).toNat)
    refine g_ialdZ (v := iZ (mm ((p + 1) % 256).toNat)) 15 dX2_obey_14 F1 (by omega) (by omega) (by decide) rfl rfl ?_
    refine g_sipush (v := iZ (255)) 18 dX2_obey_15 (by decide +kernel) rfl ?_
    refine g_and255Z (mm ((p + 1) % 256).toNat) 19 dX2_obey_18 (by omega) rfl ?_
    refine g_istore_n (L1 := [some (.ref m), some (.int (iZ 10)), some (.ref t), some (.int (iZ (mm ((p + 1) % 256).toNat))), none]) 20 dX2_obey_19 (by decide) rfl rfl rfl ?_
    refine g_aload_n 21 dX2_obey_20 rfl rfl ?_
    refine g_get 24 dX2_obey_21 faX2_31_X2 F0 rfl rfl ?_
    refine g_iload_n 25 dX2_obey_24 rfl rfl ?_
    refine g_callS (z := mX2_hasNumber) (As := [.int (iZ 10)]) 28 dX2_obey_25 mwX2_hasNumber ⟨by decide, by decide⟩ rfl wlX2_69 wtX2_hasNumber rfl (nle rfl) (nle rfl) rfl ?_
    refine Go.to [some (.int (iZ 10))] [] rfl rfl ?_
    refine g_iload_n 1 dX2_hasNumber_0 rfl rfl ?_
    refine g_iconst (v := iZ (3)) 2 dX2_hasNumber_1 rfl rfl ?_
    refine g_icZ_lt 11 5 dX2_hasNumber_2 rfl rfl (by decide) (by decide) (fun q => absurd q (by decide)) (fun _ => ?_)
    refine g_iload_n 6 dX2_hasNumber_5 rfl rfl ?_
    refine g_bipush (v := iZ (7)) 8 dX2_hasNumber_6 (by decide +kernel) rfl ?_
    refine g_icZ_le 23 11 dX2_hasNumber_8 rfl rfl (by decide) (by decide) (fun q => absurd q (by decide)) (fun _ => ?_)
    refine g_iload_n 12 dX2_hasNumber_11 rfl rfl ?_
    refine g_bipush (v := iZ (11)) 14 dX2_hasNumber_12 (by decide +kernel) rfl ?_
    refine g_icZ_lt 27 17 dX2_hasNumber_14 rfl rfl (by decide) (by decide) (fun _ => ?_) (fun q => absurd q (by decide))
    refine g_iconst (v := iZ (0)) 28 dX2_hasNumber_27 rfl rfl ?_
    refine g_zret rfl z01_0 dX2_hasNumber_28 ?_
    refine rI ?_
    refine g_ifZ_eq 35 31 dX2_obey_28 rfl rfl (by decide) (fun _ => ?_) (fun q => absurd q (by decide))
    refine g_iconst (v := iZ (1)) 36 dX2_obey_35 rfl rfl ?_
    refine g_iaddZ (p + 1) 37 dX2_obey_36 (by omega) rfl ?_
    refine g_istore (L1 := [some (.ref m), some (.int (iZ 10)), some (.ref t), some (.int (iZ (mm ((p + 1) % 256).toNat))), some (.int (iZ (p + 1)))]) 39 dX2_obey_37 (by decide) rfl rfl rfl ?_
    refine g_iload_n 40 dX2_obey_39 rfl rfl ?_
    refine g_tabZI (10) 274 dX2_obey_40 (by decide) rfl (by decide) (by decide) rfl rfl ?_
    refine g_aload_n 275 dX2_obey_274 rfl rfl ?_
    refine g_aload_n 276 dX2_obey_275 rfl rfl ?_
    refine g_get 279 dX2_obey_276 faX2_24_X2 F0 rfl rfl ?_
    refine g_putC (fs1 := [.ref (m + 1), .ref (m + 2), .int (iZ a), .int (iZ a), .int (iZ p), .int (iZ en), .int (iZ dn), .int (iZ tk), .int (iZ hm)]) 282 dX2_obey_279 fpX2_28_X2 F0 (nle rfl) (vI _) rfl rfl (fun h144 s145 f146 => ?_)
    refine g_goto 365 dX2_obey_282 rfl ?_
    refine g_aload_n 366 dX2_obey_365 rfl rfl ?_
    refine g_iload 368 dX2_obey_366 rfl rfl ?_
    refine g_sipush (v := iZ (255)) 371 dX2_obey_368 (by decide +kernel) rfl ?_
    refine g_and255Z ((p + 1) % 256) 372 dX2_obey_371 rfl rfl ?_
    refine g_putC (fs1 := [.ref (m + 1), .ref (m + 2), .int (iZ a), .int (iZ a), .int (iZ ((p + 1) % 256)), .int (iZ en), .int (iZ dn), .int (iZ tk), .int (iZ hm)]) 375 dX2_obey_372 fpX2_31_X2 f146 (nle rfl) (vI _) rfl rfl (fun h147 s148 f149 => ?_)
    refine g_vret rfl dX2_obey_375 ?_
    have f150 := (s148.get (by simp <;> omega) (s145.get (by simp <;> omega) F1))
    have f151 := (s148.get (by simp <;> omega) (s145.get (by simp <;> omega) F2))
    have f152 := (s148.get (by simp <;> omega) (s145.get (by simp <;> omega) F3))
    have f153 := (s148.get (by simp <;> omega) (s145.get (by simp <;> omega) F4))
    exact k _ (a) (a) ((p + 1) % 256) (en) (tk) (on) (mm) (of) (og) (by omega) (by omega) (by omega) ren (by omega) (by omega) omm oof oog (ms_10 ke) (((Sm.refl [m, m + 1, m + 2, m + 3, m + 4] _).tr s145 (fun _ q => q) (by simp)).tr s148 (fun _ q => q) (by simp)) f149 f150 f151 f152 f153
  · have ke : (mm p.toNat).toNat = 11 := by omega
    refine g_aload_n 1 dX2_obey_0 rfl rfl ?_
    refine g_get 4 dX2_obey_1 faX2_9_X2 F0 rfl rfl ?_
    refine g_aload_n 5 dX2_obey_4 rfl rfl ?_
    refine g_get 8 dX2_obey_5 faX2_31_X2 F0 rfl rfl ?_
    refine g_iconst (v := iZ (1)) 9 dX2_obey_8 rfl rfl ?_
    refine g_iaddZ (p + 1) 10 dX2_obey_9 (by omega) rfl ?_
    refine g_sipush (v := iZ (255)) 13 dX2_obey_10 (by decide +kernel) rfl ?_
    refine g_and255Z ((p + 1) % 256) 14 dX2_obey_13 rfl rfl ?_
    have b154 := omm (((p + 1) % 256).toNat)
    refine g_ialdZ (v := iZ (mm ((p + 1) % 256).toNat)) 15 dX2_obey_14 F1 (by omega) (by omega) (by decide) rfl rfl ?_
    refine g_sipush (v := iZ (255)) 18 dX2_obey_15 (by decide +kernel) rfl ?_
    refine g_and255Z (mm ((p + 1) % 256).toNat) 19 dX2_obey_18 (by omega) rfl ?_
    refine g_istore_n (L1 := [some (.ref m), some (.int (iZ 11)), some (.ref t), some (.int (iZ (mm ((p + 1) % 256).toNat))), none]) 20 dX2_obey_19 (by decide) rfl rfl rfl ?_
    refine g_aload_n 21 dX2_obey_20 rfl rfl ?_
    refine g_get 24 dX2_obey_21 faX2_31_X2 F0 rfl rfl ?_
    refine g_iload_n 25 dX2_obey_24 rfl rfl ?_
    refine g_callS (z := mX2_hasNumber) (As := [.int (iZ 11)]) 28 dX2_obey_25 mwX2_hasNumber ⟨by decide, by decide⟩ rfl wlX2_69 wtX2_hasNumber rfl (nle rfl) (nle rfl) rfl ?_
    refine Go.to [some (.int (iZ 11))] [] rfl rfl ?_
    refine g_iload_n 1 dX2_hasNumber_0 rfl rfl ?_
    refine g_iconst (v := iZ (3)) 2 dX2_hasNumber_1 rfl rfl ?_
    refine g_icZ_lt 11 5 dX2_hasNumber_2 rfl rfl (by decide) (by decide) (fun q => absurd q (by decide)) (fun _ => ?_)
    refine g_iload_n 6 dX2_hasNumber_5 rfl rfl ?_
    refine g_bipush (v := iZ (7)) 8 dX2_hasNumber_6 (by decide +kernel) rfl ?_
    refine g_icZ_le 23 11 dX2_hasNumber_8 rfl rfl (by decide) (by decide) (fun q => absurd q (by decide)) (fun _ => ?_)
    refine g_iload_n 12 dX2_hasNumber_11 rfl rfl ?_
    refine g_bipush (v := iZ (11)) 14 dX2_hasNumber_12 (by decide +kernel) rfl ?_
    refine g_icZ_lt 27 17 dX2_hasNumber_14 rfl rfl (by decide) (by decide) (fun q => absurd q (by decide)) (fun _ => ?_)
    refine g_iload_n 18 dX2_hasNumber_17 rfl rfl ?_
    refine g_bipush (v := iZ (15)) 20 dX2_hasNumber_18 (by decide +kernel) rfl ?_
    refine g_icZ_gt 27 23 dX2_hasNumber_20 rfl rfl (by decide) (by decide) (fun q => absurd q (by decide)) (fun _ => ?_)
    refine g_iconst (v := iZ (1)) 24 dX2_hasNumber_23 rfl rfl ?_
    refine g_goto 28 dX2_hasNumber_24 rfl ?_
    refine g_zret rfl z01_1 dX2_hasNumber_28 ?_
    refine rI ?_
    refine g_ifZ_eq 35 31 dX2_obey_28 rfl rfl (by decide) (fun q => absurd q (by decide)) (fun _ => ?_)
    refine g_iconst (v := iZ (2)) 32 dX2_obey_31 rfl rfl ?_
    refine g_goto 36 dX2_obey_32 rfl ?_
    refine g_iaddZ (p + 2) 37 dX2_obey_36 (by omega) rfl ?_
    refine g_istore (L1 := [some (.ref m), some (.int (iZ 11)), some (.ref t), some (.int (iZ (mm ((p + 1) % 256).toNat))), some (.int (iZ (p + 2)))]) 39 dX2_obey_37 (by decide) rfl rfl rfl ?_
    refine g_iload_n 40 dX2_obey_39 rfl rfl ?_
    refine g_tabZI (11) 285 dX2_obey_40 (by decide) rfl (by decide) (by decide) rfl rfl ?_
    refine g_iload_n 286 dX2_obey_285 rfl rfl ?_
    refine g_istore (L1 := [some (.ref m), some (.int (iZ 11)), some (.ref t), some (.int (iZ (mm ((p + 1) % 256).toNat))), some (.int (iZ (mm ((p + 1) % 256).toNat)))]) 288 dX2_obey_286 (by decide) rfl rfl rfl ?_
    refine g_goto 365 dX2_obey_288 rfl ?_
    refine g_aload_n 366 dX2_obey_365 rfl rfl ?_
    refine g_iload 368 dX2_obey_366 rfl rfl ?_
    refine g_sipush (v := iZ (255)) 371 dX2_obey_368 (by decide +kernel) rfl ?_
    refine g_and255Z (mm ((p + 1) % 256).toNat) 372 dX2_obey_371 (by omega) rfl ?_
    refine g_putC (fs1 := [.ref (m + 1), .ref (m + 2), .int (iZ a), .int (iZ x), .int (iZ (mm ((p + 1) % 256).toNat)), .int (iZ en), .int (iZ dn), .int (iZ tk), .int (iZ hm)]) 375 dX2_obey_372 fpX2_31_X2 F0 (nle rfl) (vI _) rfl rfl (fun h155 s156 f157 => ?_)
    refine g_vret rfl dX2_obey_375 ?_
    have f158 := (s156.get (by simp <;> omega) F1)
    have f159 := (s156.get (by simp <;> omega) F2)
    have f160 := (s156.get (by simp <;> omega) F3)
    have f161 := (s156.get (by simp <;> omega) F4)
    exact k _ (a) (x) (mm ((p + 1) % 256).toNat) (en) (tk) (on) (mm) (of) (og) (by omega) (by omega) (by omega) ren (by omega) (by omega) omm oof oog (ms_11 ke) ((Sm.refl [m, m + 1, m + 2, m + 3, m + 4] _).tr s156 (fun _ q => q) (by simp)) f157 f158 f159 f160 f161
  · have ke : (mm p.toNat).toNat = 12 := by omega
    refine g_aload_n 1 dX2_obey_0 rfl rfl ?_
    refine g_get 4 dX2_obey_1 faX2_9_X2 F0 rfl rfl ?_
    refine g_aload_n 5 dX2_obey_4 rfl rfl ?_
    refine g_get 8 dX2_obey_5 faX2_31_X2 F0 rfl rfl ?_
    refine g_iconst (v := iZ (1)) 9 dX2_obey_8 rfl rfl ?_
    refine g_iaddZ (p + 1) 10 dX2_obey_9 (by omega) rfl ?_
    refine g_sipush (v := iZ (255)) 13 dX2_obey_10 (by decide +kernel) rfl ?_
    refine g_and255Z ((p + 1) % 256) 14 dX2_obey_13 rfl rfl ?_
    have b162 := omm (((p + 1) % 256).toNat)
    refine g_ialdZ (v := iZ (mm ((p + 1) % 256).toNat)) 15 dX2_obey_14 F1 (by omega) (by omega) (by decide) rfl rfl ?_
    refine g_sipush (v := iZ (255)) 18 dX2_obey_15 (by decide +kernel) rfl ?_
    refine g_and255Z (mm ((p + 1) % 256).toNat) 19 dX2_obey_18 (by omega) rfl ?_
    refine g_istore_n (L1 := [some (.ref m), some (.int (iZ 12)), some (.ref t), some (.int (iZ (mm ((p + 1) % 256).toNat))), none]) 20 dX2_obey_19 (by decide) rfl rfl rfl ?_
    refine g_aload_n 21 dX2_obey_20 rfl rfl ?_
    refine g_get 24 dX2_obey_21 faX2_31_X2 F0 rfl rfl ?_
    refine g_iload_n 25 dX2_obey_24 rfl rfl ?_
    refine g_callS (z := mX2_hasNumber) (As := [.int (iZ 12)]) 28 dX2_obey_25 mwX2_hasNumber ⟨by decide, by decide⟩ rfl wlX2_69 wtX2_hasNumber rfl (nle rfl) (nle rfl) rfl ?_
    refine Go.to [some (.int (iZ 12))] [] rfl rfl ?_
    refine g_iload_n 1 dX2_hasNumber_0 rfl rfl ?_
    refine g_iconst (v := iZ (3)) 2 dX2_hasNumber_1 rfl rfl ?_
    refine g_icZ_lt 11 5 dX2_hasNumber_2 rfl rfl (by decide) (by decide) (fun q => absurd q (by decide)) (fun _ => ?_)
    refine g_iload_n 6 dX2_hasNumber_5 rfl rfl ?_
    refine g_bipush (v := iZ (7)) 8 dX2_hasNumber_6 (by decide +kernel) rfl ?_
    refine g_icZ_le 23 11 dX2_hasNumber_8 rfl rfl (by decide) (by decide) (fun q => absurd q (by decide)) (fun _ => ?_)
    refine g_iload_n 12 dX2_hasNumber_11 rfl rfl ?_
    refine g_bipush (v := iZ (11)) 14 dX2_hasNumber_12 (by decide +kernel) rfl ?_
    refine g_icZ_lt 27 17 dX2_hasNumber_14 rfl rfl (by decide) (by decide) (fun q => absurd q (by decide)) (fun _ => ?_)
    refine g_iload_n 18 dX2_hasNumber_17 rfl rfl ?_
    refine g_bipush (v := iZ (15)) 20 dX2_hasNumber_18 (by decide +kernel) rfl ?_
    refine g_icZ_gt 27 23 dX2_hasNumber_20 rfl rfl (by decide) (by decide) (fun q => absurd q (by decide)) (fun _ => ?_)
    refine g_iconst (v := iZ (1)) 24 dX2_hasNumber_23 rfl rfl ?_
    refine g_goto 28 dX2_hasNumber_24 rfl ?_
    refine g_zret rfl z01_1 dX2_hasNumber_28 ?_
    refine rI ?_
    refine g_ifZ_eq 35 31 dX2_obey_28 rfl rfl (by decide) (fun q => absurd q (by decide)) (fun _ => ?_)
    refine g_iconst (v := iZ (2)) 32 dX2_obey_31 rfl rfl ?_
    refine g_goto 36 dX2_obey_32 rfl ?_
    refine g_iaddZ (p + 2) 37 dX2_obey_36 (by omega) rfl ?_
    refine g_istore (L1 := [some (.ref m), some (.int (iZ 12)), some (.ref t), some (.int (iZ (mm ((p + 1) % 256).toNat))), some (.int (iZ (p + 2)))]) 39 dX2_obey_37 (by decide) rfl rfl rfl ?_
    refine g_iload_n 40 dX2_obey_39 rfl rfl ?_
    refine g_tabZI (12) 291 dX2_obey_40 (by decide) rfl (by decide) (by decide) rfl rfl ?_
    refine g_aload_n 292 dX2_obey_291 rfl rfl ?_
    refine g_get 295 dX2_obey_292 faX2_24_X2 F0 rfl rfl ?_
    refine g_ifZ_ne 302 298 dX2_obey_295 rfl rfl (by omega) (fun c163 => ?_) (fun c163 => ?_)
    · refine g_iload 304 dX2_obey_302 rfl rfl ?_
      refine g_istore (L1 := [some (.ref m), some (.int (iZ 12)), some (.ref t), some (.int (iZ (mm ((p + 1) % 256).toNat))), some (.int (iZ (p + 2)))]) 306 dX2_obey_304 (by decide) rfl rfl rfl ?_
      refine g_goto 365 dX2_obey_306 rfl ?_
      refine g_aload_n 366 dX2_obey_365 rfl rfl ?_
      refine g_iload 368 dX2_obey_366 rfl rfl ?_
      refine g_sipush (v := iZ (255)) 371 dX2_obey_368 (by decide +kernel) rfl ?_
      refine g_and255Z ((p + 2) % 256) 372 dX2_obey_371 rfl rfl ?_
      refine g_putC (fs1 := [.ref (m + 1), .ref (m + 2), .int (iZ a), .int (iZ x), .int (iZ ((p + 2) % 256)), .int (iZ en), .int (iZ dn), .int (iZ tk), .int (iZ hm)]) 375 dX2_obey_372 fpX2_31_X2 F0 (nle rfl) (vI _) rfl rfl (fun h164 s165 f166 => ?_)
      refine g_vret rfl dX2_obey_375 ?_
      have f167 := (s165.get (by simp <;> omega) F1)
      have f168 := (s165.get (by simp <;> omega) F2)
      have f169 := (s165.get (by simp <;> omega) F3)
      have f170 := (s165.get (by simp <;> omega) F4)
      exact k _ (a) (x) ((p + 2) % 256) (en) (tk) (on) (mm) (of) (og) (by omega) (by omega) (by omega) ren (by omega) (by omega) omm oof oog (by first | exact ms_12a ke (by omega) | exact ms_12b ke (by omega)) ((Sm.refl [m, m + 1, m + 2, m + 3, m + 4] _).tr s165 (fun _ q => q) (by simp)) f166 f167 f168 f169 f170
    · refine g_iload_n 299 dX2_obey_298 rfl rfl ?_
      refine g_goto 304 dX2_obey_299 rfl ?_
      refine g_istore (L1 := [some (.ref m), some (.int (iZ 12)), some (.ref t), some (.int (iZ (mm ((p + 1) % 256).toNat))), some (.int (iZ (mm ((p + 1) % 256).toNat)))]) 306 dX2_obey_304 (by decide) rfl rfl rfl ?_
      refine g_goto 365 dX2_obey_306 rfl ?_
      refine g_aload_n 366 dX2_obey_365 rfl rfl ?_
      refine g_iload 368 dX2_obey_366 rfl rfl ?_
      refine g_sipush (v := iZ (255)) 371 dX2_obey_368 (by decide +kernel) rfl ?_
      refine g_and255Z (mm ((p + 1) % 256).toNat) 372 dX2_obey_371 (by omega) rfl ?_
      refine g_putC (fs1 := [.ref (m + 1), .ref (m + 2), .int (iZ a), .int (iZ x), .int (iZ (mm ((p + 1) % 256).toNat)), .int (iZ en), .int (iZ dn), .int (iZ tk), .int (iZ hm)]) 375 dX2_obey_372 fpX2_31_X2 F0 (nle rfl) (vI _) rfl rfl (fun h171 s172 f173 => ?_)
      refine g_vret rfl dX2_obey_375 ?_
      have f174 := (s172.get (by simp <;> omega) F1)
      have f175 := (s172.get (by simp <;> omega) F2)
      have f176 := (s172.get (by simp <;> omega) F3)
      have f177 := (s172.get (by simp <;> omega) F4)
      exact k _ (a) (x) (mm ((p + 1) % 256).toNat) (en) (tk) (on) (mm) (of) (og) (by omega) (by omega) (by omega) ren (by omega) (by omega) omm oof oog (by first | exact ms_12a ke (by omega) | exact ms_12b ke (by omega)) ((Sm.refl [m, m + 1, m + 2, m + 3, m + 4] _).tr s172 (fun _ q => q) (by simp)) f173 f174 f175 f176 f177
  · have ke : (mm p.toNat).toNat = 13 := by omega
    refine g_aload_n 1 dX2_obey_0 rfl rfl ?_
    refine g_get 4 dX2_obey_1 faX2_9_X2 F0 rfl rfl ?_
    refine g_aload_n 5 dX2_obey_4 rfl rfl ?_
    refine g_get 8 dX2_obey_5 faX2_31_X2 F0 rfl rfl ?_
    refine g_iconst (v := iZ (1)) 9 dX2_obey_8 rfl rfl ?_
    refine g_iaddZ (p + 1) 10 dX2_obey_9 (by omega) rfl ?_
    refine g_sipush (v := iZ (255)) 13 dX2_obey_10 (by decide +kernel) rfl ?_
    refine g_and255Z ((p + 1) % 256) 14 dX2_obey_13 rfl rfl ?_
    have b178 := omm (((p + 1) % 256).toNat)
    refine g_ialdZ (v := iZ (mm ((p + 1) % 256).toNat)) 15 dX2_obey_14 F1 (by omega) (by omega) (by decide) rfl rfl ?_
    refine g_sipush (v := iZ (255)) 18 dX2_obey_15 (by decide +kernel) rfl ?_
    refine g_and255Z (mm ((p + 1) % 256).toNat) 19 dX2_obey_18 (by omega) rfl ?_
    refine g_istore_n (L1 := [some (.ref m), some (.int (iZ 13)), some (.ref t), some (.int (iZ (mm ((p + 1) % 256).toNat))), none]) 20 dX2_obey_19 (by decide) rfl rfl rfl ?_
    refine g_aload_n 21 dX2_obey_20 rfl rfl ?_
    refine g_get 24 dX2_obey_21 faX2_31_X2 F0 rfl rfl ?_
    refine g_iload_n 25 dX2_obey_24 rfl rfl ?_
    refine g_callS (z := mX2_hasNumber) (As := [.int (iZ 13)]) 28 dX2_obey_25 mwX2_hasNumber ⟨by decide, by decide⟩ rfl wlX2_69 wtX2_hasNumber rfl (nle rfl) (nle rfl) rfl ?_
    refine Go.to [some (.int (iZ 13))] [] rfl rfl ?_
    refine g_iload_n 1 dX2_hasNumber_0 rfl rfl ?_
    refine g_iconst (v := iZ (3)) 2 dX2_hasNumber_1 rfl rfl ?_
    refine g_icZ_lt 11 5 dX2_hasNumber_2 rfl rfl (by decide) (by decide) (fun q => absurd q (by decide)) (fun _ => ?_)
    refine g_iload_n 6 dX2_hasNumber_5 rfl rfl ?_
    refine g_bipush (v := iZ (7)) 8 dX2_hasNumber_6 (by decide +kernel) rfl ?_
    refine g_icZ_le 23 11 dX2_hasNumber_8 rfl rfl (by decide) (by decide) (fun q => absurd q (by decide)) (fun _ => ?_)
    refine g_iload_n 12 dX2_hasNumber_11 rfl rfl ?_
    refine g_bipush (v := iZ (11)) 14 dX2_hasNumber_12 (by decide +kernel) rfl ?_
    refine g_icZ_lt 27 17 dX2_hasNumber_14 rfl rfl (by decide) (by decide) (fun q => absurd q (by decide)) (fun _ => ?_)
    refine g_iload_n 18 dX2_hasNumber_17 rfl rfl ?_
    refine g_bipush (v := iZ (15)) 20 dX2_hasNumber_18 (by decide +kernel) rfl ?_
    refine g_icZ_gt 27 23 dX2_hasNumber_20 rfl rfl (by decide) (by decide) (fun q => absurd q (by decide)) (fun _ => ?_)
    refine g_iconst (v := iZ (1)) 24 dX2_hasNumber_23 rfl rfl ?_
    refine g_goto 28 dX2_hasNumber_24 rfl ?_
    refine g_zret rfl z01_1 dX2_hasNumber_28 ?_
    refine rI ?_
    refine g_ifZ_eq 35 31 dX2_obey_28 rfl rfl (by decide) (fun q => absurd q (by decide)) (fun _ => ?_)
    refine g_iconst (v := iZ (2)) 32 dX2_obey_31 rfl rfl ?_
    refine g_goto 36 dX2_obey_32 rfl ?_
    refine g_iaddZ (p + 2) 37 dX2_obey_36 (by omega) rfl ?_
    refine g_istore (L1 := [some (.ref m), some (.int (iZ 13)), some (.ref t), some (.int (iZ (mm ((p + 1) % 256).toNat))), some (.int (iZ (p + 2)))]) 39 dX2_obey_37 (by decide) rfl rfl rfl ?_
    refine g_iload_n 40 dX2_obey_39 rfl rfl ?_
    refine g_tabZI (13) 309 dX2_obey_40 (by decide) rfl (by decide) (by decide) rfl rfl ?_
    refine g_aload_n 310 dX2_obey_309 rfl rfl ?_
    refine g_get 313 dX2_obey_310 faX2_34_X2 F0 rfl rfl ?_
    refine g_ifZ_eq 320 316 dX2_obey_313 rfl rfl (rg01 ren) (fun c179 => ?_) (fun c179 => ?_)
    · refine g_iload 322 dX2_obey_320 rfl rfl ?_
      refine g_istore (L1 := [some (.ref m), some (.int (iZ 13)), some (.ref t), some (.int (iZ (mm ((p + 1) % 256).toNat))), some (.int (iZ (p + 2)))]) 324 dX2_obey_322 (by decide) rfl rfl rfl ?_
      refine g_goto 365 dX2_obey_324 rfl ?_
      refine g_aload_n 366 dX2_obey_365 rfl rfl ?_
      refine g_iload 368 dX2_obey_366 rfl rfl ?_
      refine g_sipush (v := iZ (255)) 371 dX2_obey_368 (by decide +kernel) rfl ?_
      refine g_and255Z ((p + 2) % 256) 372 dX2_obey_371 rfl rfl ?_
      refine g_putC (fs1 := [.ref (m + 1), .ref (m + 2), .int (iZ a), .int (iZ x), .int (iZ ((p + 2) % 256)), .int (iZ en), .int (iZ dn), .int (iZ tk), .int (iZ hm)]) 375 dX2_obey_372 fpX2_31_X2 F0 (nle rfl) (vI _) rfl rfl (fun h180 s181 f182 => ?_)
      refine g_vret rfl dX2_obey_375 ?_
      have f183 := (s181.get (by simp <;> omega) F1)
      have f184 := (s181.get (by simp <;> omega) F2)
      have f185 := (s181.get (by simp <;> omega) F3)
      have f186 := (s181.get (by simp <;> omega) F4)
      exact k _ (a) (x) ((p + 2) % 256) (en) (tk) (on) (mm) (of) (og) (by omega) (by omega) (by omega) ren (by omega) (by omega) omm oof oog (by first | exact ms_13a ke (by omega) | exact ms_13b ke (by omega)) ((Sm.refl [m, m + 1, m + 2, m + 3, m + 4] _).tr s181 (fun _ q => q) (by simp)) f182 f183 f184 f185 f186
    · refine g_iload_n 317 dX2_obey_316 rfl rfl ?_
      refine g_goto 322 dX2_obey_317 rfl ?_
      refine g_istore (L1 := [some (.ref m), some (.int (iZ 13)), some (.ref t), some (.int (iZ (mm ((p + 1) % 256).toNat))), some (.int (iZ (mm ((p + 1) % 256).toNat)))]) 324 dX2_obey_322 (by decide) rfl rfl rfl ?_
      refine g_goto 365 dX2_obey_324 rfl ?_
      refine g_aload_n 366 dX2_obey_365 rfl rfl ?_
      refine g_iload 368 dX2_obey_366 rfl rfl ?_
      refine g_sipush (v := iZ (255)) 371 dX2_obey_368 (by decide +kernel) rfl ?_
      refine g_and255Z (mm ((p + 1) % 256).toNat) 372 dX2_obey_371 (by omega) rfl ?_
      refine g_putC (fs1 := [.ref (m + 1), .ref (m + 2), .int (iZ a), .int (iZ x), .int (iZ (mm ((p + 1) % 256).toNat)), .int (iZ en), .int (iZ dn), .int (iZ tk), .int (iZ hm)]) 375 dX2_obey_372 fpX2_31_X2 F0 (nle rfl) (vI _) rfl rfl (fun h187 s188 f189 => ?_)
      refine g_vret rfl dX2_obey_375 ?_
      have f190 := (s188.get (by simp <;> omega) F1)
      have f191 := (s188.get (by simp <;> omega) F2)
      have f192 := (s188.get (by simp <;> omega) F3)
      have f193 := (s188.get (by simp <;> omega) F4)
      exact k _ (a) (x) (mm ((p + 1) % 256).toNat) (en) (tk) (on) (mm) (of) (og) (by omega) (by omega) (by omega) ren (by omega) (by omega) omm oof oog (by first | exact ms_13a ke (by omega) | exact ms_13b ke (by omega)) ((Sm.refl [m, m + 1, m + 2, m + 3, m + 4] _).tr s188 (fun _ q => q) (by simp)) f189 f190 f191 f192 f193
  · have ke : (mm p.toNat).toNat = 14 := by omega
    refine g_aload_n 1 dX2_obey_0 rfl rfl ?_
    refine g_get 4 dX2_obey_1 faX2_9_X2 F0 rfl rfl ?_
    refine g_aload_n 5 dX2_obey_4 rfl rfl ?_
    refine g_get 8 dX2_obey_5 faX2_31_X2 F0 rfl rfl ?_
    refine g_iconst (v := iZ (1)) 9 dX2_obey_8 rfl rfl ?_
    refine g_iaddZ (p + 1) 10 dX2_obey_9 (by omega) rfl ?_
    refine g_sipush (v := iZ (255)) 13 dX2_obey_10 (by decide +kernel) rfl ?_
    refine g_and255Z ((p + 1) % 256) 14 dX2_obey_13 rfl rfl ?_
    have b194 := omm (((p + 1) % 256).toNat)
    refine g_ialdZ (v := iZ (mm ((p + 1) % 256).toNat)) 15 dX2_obey_14 F1 (by omega) (by omega) (by decide) rfl rfl ?_
    refine g_sipush (v := iZ (255)) 18 dX2_obey_15 (by decide +kernel) rfl ?_
    refine g_and255Z (mm ((p + 1) % 256).toNat) 19 dX2_obey_18 (by omega) rfl ?_
    refine g_istore_n (L1 := [some (.ref m), some (.int (iZ 14)), some (.ref t), some (.int (iZ (mm ((p + 1) % 256).toNat))), none]) 20 dX2_obey_19 (by decide) rfl rfl rfl ?_
    refine g_aload_n 21 dX2_obey_20 rfl rfl ?_
    refine g_get 24 dX2_obey_21 faX2_31_X2 F0 rfl rfl ?_
    refine g_iload_n 25 dX2_obey_24 rfl rfl ?_
    refine g_callS (z := mX2_hasNumber) (As := [.int (iZ 14)]) 28 dX2_obey_25 mwX2_hasNumber ⟨by decide, by decide⟩ rfl wlX2_69 wtX2_hasNumber rfl (nle rfl) (nle rfl) rfl ?_
    refine Go.to [some (.int (iZ 14))] [] rfl rfl ?_
    refine g_iload_n 1 dX2_hasNumber_0 rfl rfl ?_
    refine g_iconst (v := iZ (3)) 2 dX2_hasNumber_1 rfl rfl ?_
    refine g_icZ_lt 11 5 dX2_hasNumber_2 rfl rfl (by decide) (by decide) (fun q => absurd q (by decide)) (fun _ => ?_)
    refine g_iload_n 6 dX2_hasNumber_5 rfl rfl ?_
    refine g_bipush (v := iZ (7)) 8 dX2_hasNumber_6 (by decide +kernel) rfl ?_
    refine g_icZ_le 23 11 dX2_hasNumber_8 rfl rfl (by decide) (by decide) (fun q => absurd q (by decide)) (fun _ => ?_)
    refine g_iload_n 12 dX2_hasNumber_11 rfl rfl ?_
    refine g_bipush (v := iZ (11)) 14 dX2_hasNumber_12 (by decide +kernel) rfl ?_
    refine g_icZ_lt 27 17 dX2_hasNumber_14 rfl rfl (by decide) (by decide) (fun q => absurd q (by decide)) (fun _ => ?_)
    refine g_iload_n 18 dX2_hasNumber_17 rfl rfl ?_
    refine g_bipush (v := iZ (15)) 20 dX2_hasNumber_18 (by decide +kernel) rfl ?_
    refine g_icZ_gt 27 23 dX2_hasNumber_20 rfl rfl (by decide) (by decide) (fun q => absurd q (by decide)) (fun _ => ?_)
    refine g_iconst (v := iZ (1)) 24 dX2_hasNumber_23 rfl rfl ?_
    refine g_goto 28 dX2_hasNumber_24 rfl ?_
    refine g_zret rfl z01_1 dX2_hasNumber_28 ?_
    refine rI ?_
    refine g_ifZ_eq 35 31 dX2_obey_28 rfl rfl (by decide) (fun q => absurd q (by decide)) (fun _ => ?_)
    refine g_iconst (v := iZ (2)) 32 dX2_obey_31 rfl rfl ?_
    refine g_goto 36 dX2_obey_32 rfl ?_
    refine g_iaddZ (p + 2) 37 dX2_obey_36 (by omega) rfl ?_
    refine g_istore (L1 := [some (.ref m), some (.int (iZ 14)), some (.ref t), some (.int (iZ (mm ((p + 1) % 256).toNat))), some (.int (iZ (p + 2)))]) 39 dX2_obey_37 (by decide) rfl rfl rfl ?_
    refine g_iload_n 40 dX2_obey_39 rfl rfl ?_
    refine g_tabZI (14) 327 dX2_obey_40 (by decide) rfl (by decide) (by decide) rfl rfl ?_
    refine g_aload_n 328 dX2_obey_327 rfl rfl ?_
    refine g_aload_n 329 dX2_obey_328 rfl rfl ?_
    refine g_get 332 dX2_obey_329 faX2_24_X2 F0 rfl rfl ?_
    refine g_iload_n 333 dX2_obey_332 rfl rfl ?_
    refine g_iaddZ (a + (mm ((p + 1) % 256).toNat)) 334 dX2_obey_333 (by omega) rfl ?_
    refine g_sipush (v := iZ (255)) 337 dX2_obey_334 (by decide +kernel) rfl ?_
    refine g_and255Z ((a + (mm ((p + 1) % 256).toNat)) % 256) 338 dX2_obey_337 rfl rfl ?_
    refine g_putC (fs1 := [.ref (m + 1), .ref (m + 2), .int (iZ ((a + (mm ((p + 1) % 256).toNat)) % 256)), .int (iZ x), .int (iZ p), .int (iZ en), .int (iZ dn), .int (iZ tk), .int (iZ hm)]) 341 dX2_obey_338 fpX2_24_X2 F0 (nle rfl) (vI _) rfl rfl (fun h195 s196 f197 => ?_)
    refine g_goto 365 dX2_obey_341 rfl ?_
    refine g_aload_n 366 dX2_obey_365 rfl rfl ?_
    refine g_iload 368 dX2_obey_366 rfl rfl ?_
    refine g_sipush (v := iZ (255)) 371 dX2_obey_368 (by decide +kernel) rfl ?_
    refine g_and255Z ((p + 2) % 256) 372 dX2_obey_371 rfl rfl ?_
    refine g_putC (fs1 := [.ref (m + 1), .ref (m + 2), .int (iZ ((a + (mm ((p + 1) % 256).toNat)) % 256)), .int (iZ x), .int (iZ ((p + 2) % 256)), .int (iZ en), .int (iZ dn), .int (iZ tk), .int (iZ hm)]) 375 dX2_obey_372 fpX2_31_X2 f197 (nle rfl) (vI _) rfl rfl (fun h198 s199 f200 => ?_)
    refine g_vret rfl dX2_obey_375 ?_
    have f201 := (s199.get (by simp <;> omega) (s196.get (by simp <;> omega) F1))
    have f202 := (s199.get (by simp <;> omega) (s196.get (by simp <;> omega) F2))
    have f203 := (s199.get (by simp <;> omega) (s196.get (by simp <;> omega) F3))
    have f204 := (s199.get (by simp <;> omega) (s196.get (by simp <;> omega) F4))
    exact k _ ((a + (mm ((p + 1) % 256).toNat)) % 256) (x) ((p + 2) % 256) (en) (tk) (on) (mm) (of) (og) (by omega) (by omega) (by omega) ren (by omega) (by omega) omm oof oog (ms_14 ke) (((Sm.refl [m, m + 1, m + 2, m + 3, m + 4] _).tr s196 (fun _ q => q) (by simp)).tr s199 (fun _ q => q) (by simp)) f200 f201 f202 f203 f204
  · have ke : (mm p.toNat).toNat = 15 := by omega
    refine g_aload_n 1 dX2_obey_0 rfl rfl ?_
    refine g_get 4 dX2_obey_1 faX2_9_X2 F0 rfl rfl ?_
    refine g_aload_n 5 dX2_obey_4 rfl rfl ?_
    refine g_get 8 dX2_obey_5 faX2_31_X2 F0 rfl rfl ?_
    refine g_iconst (v := iZ (1)) 9 dX2_obey_8 rfl rfl ?_
    refine g_iaddZ (p + 1) 10 dX2_obey_9 (by omega) rfl ?_
    refine g_sipush (v := iZ (255)) 13 dX2_obey_10 (by decide +kernel) rfl ?_
    refine g_and255Z ((p + 1) % 256) 14 dX2_obey_13 rfl rfl ?_
    have b205 := omm (((p + 1) % 256).toNat)
    refine g_ialdZ (v := iZ (mm ((p + 1) % 256).toNat)) 15 dX2_obey_14 F1 (by omega) (by omega) (by decide) rfl rfl ?_
    refine g_sipush (v := iZ (255)) 18 dX2_obey_15 (by decide +kernel) rfl ?_
    refine g_and255Z (mm ((p + 1) % 256).toNat) 19 dX2_obey_18 (by omega) rfl ?_
    refine g_istore_n (L1 := [some (.ref m), some (.int (iZ 15)), some (.ref t), some (.int (iZ (mm ((p + 1) % 256).toNat))), none]) 20 dX2_obey_19 (by decide) rfl rfl rfl ?_
    refine g_aload_n 21 dX2_obey_20 rfl rfl ?_
    refine g_get 24 dX2_obey_21 faX2_31_X2 F0 rfl rfl ?_
    refine g_iload_n 25 dX2_obey_24 rfl rfl ?_
    refine g_callS (z := mX2_hasNumber) (As := [.int (iZ 15)]) 28 dX2_obey_25 mwX2_hasNumber ⟨by decide, by decide⟩ rfl wlX2_69 wtX2_hasNumber rfl (nle rfl) (nle rfl) rfl ?_
    refine Go.to [some (.int (iZ 15))] [] rfl rfl ?_
    refine g_iload_n 1 dX2_hasNumber_0 rfl rfl ?_
    refine g_iconst (v := iZ (3)) 2 dX2_hasNumber_1 rfl rfl ?_
    refine g_icZ_lt 11 5 dX2_hasNumber_2 rfl rfl (by decide) (by decide) (fun q => absurd q (by decide)) (fun _ => ?_)
    refine g_iload_n 6 dX2_hasNumber_5 rfl rfl ?_
    refine g_bipush (v := iZ (7)) 8 dX2_hasNumber_6 (by decide +kernel) rfl ?_
    refine g_icZ_le 23 11 dX2_hasNumber_8 rfl rfl (by decide) (by decide) (fun q => absurd q (by decide)) (fun _ => ?_)
    refine g_iload_n 12 dX2_hasNumber_11 rfl rfl ?_
    refine g_bipush (v := iZ (11)) 14 dX2_hasNumber_12 (by decide +kernel) rfl ?_
    refine g_icZ_lt 27 17 dX2_hasNumber_14 rfl rfl (by decide) (by decide) (fun q => absurd q (by decide)) (fun _ => ?_)
    refine g_iload_n 18 dX2_hasNumber_17 rfl rfl ?_
    refine g_bipush (v := iZ (15)) 20 dX2_hasNumber_18 (by decide +kernel) rfl ?_
    refine g_icZ_gt 27 23 dX2_hasNumber_20 rfl rfl (by decide) (by decide) (fun q => absurd q (by decide)) (fun _ => ?_)
    refine g_iconst (v := iZ (1)) 24 dX2_hasNumber_23 rfl rfl ?_
    refine g_goto 28 dX2_hasNumber_24 rfl ?_
    refine g_zret rfl z01_1 dX2_hasNumber_28 ?_
    refine rI ?_
    refine g_ifZ_eq 35 31 dX2_obey_28 rfl rfl (by decide) (fun q => absurd q (by decide)) (fun _ => ?_)
    refine g_iconst (v := iZ (2)) 32 dX2_obey_31 rfl rfl ?_
    refine g_goto 36 dX2_obey_32 rfl ?_
    refine g_iaddZ (p + 2) 37 dX2_obey_36 (by omega) rfl ?_
    refine g_istore (L1 := [some (.ref m), some (.int (iZ 15)), some (.ref t), some (.int (iZ (mm ((p + 1) % 256).toNat))), some (.int (iZ (p + 2)))]) 39 dX2_obey_37 (by decide) rfl rfl rfl ?_
    refine g_iload_n 40 dX2_obey_39 rfl rfl ?_
    refine g_tabZI (15) 344 dX2_obey_40 (by decide) rfl (by decide) (by decide) rfl rfl ?_
    refine g_aload_n 345 dX2_obey_344 rfl rfl ?_
    refine g_get 348 dX2_obey_345 faX2_24_X2 F0 rfl rfl ?_
    refine g_sipush (v := iZ (128)) 351 dX2_obey_348 (by decide +kernel) rfl ?_
    refine g_icZ_lt 358 354 dX2_obey_351 rfl rfl (by omega) (by decide) (fun c206 => ?_) (fun c206 => ?_)
    · refine g_iload 360 dX2_obey_358 rfl rfl ?_
      refine g_istore (L1 := [some (.ref m), some (.int (iZ 15)), some (.ref t), some (.int (iZ (mm ((p + 1) % 256).toNat))), some (.int (iZ (p + 2)))]) 362 dX2_obey_360 (by decide) rfl rfl rfl ?_
      refine g_goto 365 dX2_obey_362 rfl ?_
      refine g_aload_n 366 dX2_obey_365 rfl rfl ?_
      refine g_iload 368 dX2_obey_366 rfl rfl ?_
      refine g_sipush (v := iZ (255)) 371 dX2_obey_368 (by decide +kernel) rfl ?_
      refine g_and255Z ((p + 2) % 256) 372 dX2_obey_371 rfl rfl ?_
      refine g_putC (fs1 := [.ref (m + 1), .ref (m + 2), .int (iZ a), .int (iZ x), .int (iZ ((p + 2) % 256)), .int (iZ en), .int (iZ dn), .int (iZ tk), .int (iZ hm)]) 375 dX2_obey_372 fpX2_31_X2 F0 (nle rfl) (vI _) rfl rfl (fun h207 s208 f209 => ?_)
      refine g_vret rfl dX2_obey_375 ?_
      have f210 := (s208.get (by simp <;> omega) F1)
      have f211 := (s208.get (by simp <;> omega) F2)
      have f212 := (s208.get (by simp <;> omega) F3)
      have f213 := (s208.get (by simp <;> omega) F4)
      exact k _ (a) (x) ((p + 2) % 256) (en) (tk) (on) (mm) (of) (og) (by omega) (by omega) (by omega) ren (by omega) (by omega) omm oof oog (by first | exact ms_15a ke (by omega) | exact ms_15b ke (by omega)) ((Sm.refl [m, m + 1, m + 2, m + 3, m + 4] _).tr s208 (fun _ q => q) (by simp)) f209 f210 f211 f212 f213
    · refine g_iload_n 355 dX2_obey_354 rfl rfl ?_
      refine g_goto 360 dX2_obey_355 rfl ?_
      refine g_istore (L1 := [some (.ref m), some (.int (iZ 15)), some (.ref t), some (.int (iZ (mm ((p + 1) % 256).toNat))), some (.int (iZ (mm ((p + 1) % 256).toNat)))]) 362 dX2_obey_360 (by decide) rfl rfl rfl ?_
      refine g_goto 365 dX2_obey_362 rfl ?_
      refine g_aload_n 366 dX2_obey_365 rfl rfl ?_
      refine g_iload 368 dX2_obey_366 rfl rfl ?_
      refine g_sipush (v := iZ (255)) 371 dX2_obey_368 (by decide +kernel) rfl ?_
      refine g_and255Z (mm ((p + 1) % 256).toNat) 372 dX2_obey_371 (by omega) rfl ?_
      refine g_putC (fs1 := [.ref (m + 1), .ref (m + 2), .int (iZ a), .int (iZ x), .int (iZ (mm ((p + 1) % 256).toNat)), .int (iZ en), .int (iZ dn), .int (iZ tk), .int (iZ hm)]) 375 dX2_obey_372 fpX2_31_X2 F0 (nle rfl) (vI _) rfl rfl (fun h214 s215 f216 => ?_)
      refine g_vret rfl dX2_obey_375 ?_
      have f217 := (s215.get (by simp <;> omega) F1)
      have f218 := (s215.get (by simp <;> omega) F2)
      have f219 := (s215.get (by simp <;> omega) F3)
      have f220 := (s215.get (by simp <;> omega) F4)
      exact k _ (a) (x) (mm ((p + 1) % 256).toNat) (en) (tk) (on) (mm) (of) (og) (by omega) (by omega) (by omega) ren (by omega) (by omega) omm oof oog (by first | exact ms_15a ke (by omega) | exact ms_15b ke (by omega)) ((Sm.refl [m, m + 1, m + 2, m + 3, m + 4] _).tr s215 (fun _ q => q) (by simp)) f216 f217 f218 f219 f220

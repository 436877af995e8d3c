set_option maxRecDepth 100000 in
theorem c_load_l {l : Launch} {Q : Option Value → MH → Prop} {m c M : Nat} {n : Int} {f g : Nat → Int} (of1 : oki (0) (255) f) (og1 : oki (0) (300) g) (rn : (0 ≤ n ∧ n ≤ 256)) (hM : M ≤ 256) (hnM : n ≤ M) (hc1 : c ≠ m + 1) (hc2 : c + 1 ≠ m + 1) (hc3 : c + 2 ≠ m + 1) : ∀ (m0 : Nat) (h : MH) (a x p en dn tk hm on : Int) (mm : Nat → Int) (j : Int), (256 - j).toNat = m0 → (0 ≤ a ∧ a ≤ 255) → (0 ≤ x ∧ x ≤ 255) → (0 ≤ p ∧ p ≤ 255) → (en = 0 ∨ en = 1) → (0 ≤ dn ∧ dn ≤ 5000) → (0 ≤ tk ∧ tk ≤ 200) → (0 ≤ hm ∧ hm ≤ 3) → (0 ≤ on ∧ on ≤ 256) → oki (0) (255) mm → h[m]? = some (.inr (2, [.ref (m + 1), .ref (m + 2), .int (iZ a), .int (iZ x), .int (iZ p), .int (iZ en), .int (iZ dn), .int (iZ tk), .int (iZ hm)])) → h[m + 1]? = some (.inl (0, 256, .inl (zA mm))) → h[m + 2]? = some (.inr (0, [.int (iZ 256), .ref (m + 3), .ref (m + 4), .int (iZ on)])) → h[c]? = some (.inr (0, [.int (iZ ((M : Int))), .ref (c + 1), .ref (c + 2), .int (iZ n)])) → h[c + 1]? = some (.inl (0, M, .inl (zA f))) → h[c + 2]? = some (.inl (0, M, .inl (zA g))) → 0 ≤ j ∧ j ≤ 256 → (∀ q : Nat, (q : Int) < j → mm q = ldm n f q) → (∀ (h1 : MH) (a_1 x_1 p_1 en_1 dn_1 tk_1 hm_1 on_1 : Int) (mm_1 : Nat → Int), (0 ≤ a_1 ∧ a_1 ≤ 255) → (0 ≤ x_1 ∧ x_1 ≤ 255) → (0 ≤ p_1 ∧ p_1 ≤ 255) → (en_1 = 0 ∨ en_1 = 1) → (0 ≤ dn_1 ∧ dn_1 ≤ 5000) → (0 ≤ tk_1 ∧ tk_1 ≤ 200) → (0 ≤ hm_1 ∧ hm_1 ≤ 3) → (0 ≤ on_1 ∧ on_1 ≤ 256) → oki (0) (255) mm_1 → (a_1 = 0 ∧ x_1 = 0 ∧ p_1 = 0 ∧ en_1 = 0 ∧ dn_1 = 0 ∧ tk_1 = 0 ∧ hm_1 = 0 ∧ on_1 = 0) → (mm_1 = ldm n f) → Sm [m, m + 1, m + 2] h h1 → h1[m]? = some (.inr (2, [.ref (m + 1), .ref (m + 2), .int (iZ a_1), .int (iZ x_1), .int (iZ p_1), .int (iZ en_1), .int (iZ dn_1), .int (iZ tk_1), .int (iZ hm_1)])) → h1[m + 1]? = some (.inl (0, 256, .inl (zA mm_1))) → h1[m + 2]? = some (.inr (0, [.int (iZ 256), .ref (m + 3), .ref (m + 4), .int (iZ on_1)])) → Q none h1) → Go l mX2_load 2 [some (.ref m), some (.ref c), some (.int (iZ j))] [] h Q := by
  intro m0
  induction m0 using Nat.strongRecOn with
  | ind m0 ih =>
    intro h a x p en dn tk hm on mm j hmz ra rx rp ren rdn rtk rhm ron omm F0 F1 F2 F3 F4 F5 hj hMm k
    refine g_iload_n 3 dX2_load_2 rfl rfl ?_
    refine g_sipush (v := iZ (256)) 6 dX2_load_3 (by decide +kernel) rfl ?_
    refine g_icZ_ge 38 9 dX2_load_6 rfl rfl (by omega) (by decide) (fun c1 => ?_) (fun c1 => ?_)
    · refine Go.ext (f' := zA (ldm n f)) F1 (fun q hq => congrArg iZ (hMm q (by omega))) (fun h2 s3 f4 => ?_)
      refine g_aload_n 39 dX2_load_38 rfl rfl ?_
      have f5 := (s3.get (by simp <;> omega) F0)
      refine g_get 42 dX2_load_39 faX2_20_X2 f5 rfl rfl ?_
      refine g_iconst (v := iZ (0)) 43 dX2_load_42 rfl rfl ?_
      have f6 := (s3.get (by simp <;> omega) F2)
      refine g_putC (fs1 := [.int (iZ 256), .ref (m + 3), .ref (m + 4), .int (iZ 0)]) 46 dX2_load_43 fpX2_51_X0 f6 (nle rfl) (vI _) rfl rfl (fun h7 s8 f9 => ?_)
      refine g_aload_n 47 dX2_load_46 rfl rfl ?_
      refine g_iconst (v := iZ (0)) 48 dX2_load_47 rfl rfl ?_
      have f10 := (s8.get (by simp <;> omega) f5)
      refine g_putC (fs1 := [.ref (m + 1), .ref (m + 2), .int (iZ 0), .int (iZ x), .int (iZ p), .int (iZ en), .int (iZ dn), .int (iZ tk), .int (iZ hm)]) 51 dX2_load_48 fpX2_24_X2 f10 (nle rfl) (vI _) rfl rfl (fun h11 s12 f13 => ?_)
      refine g_aload_n 52 dX2_load_51 rfl rfl ?_
      refine g_iconst (v := iZ (0)) 53 dX2_load_52 rfl rfl ?_
      refine g_putC (fs1 := [.ref (m + 1), .ref (m + 2), .int (iZ 0), .int (iZ 0), .int (iZ p), .int (iZ en), .int (iZ dn), .int (iZ tk), .int (iZ hm)]) 56 dX2_load_53 fpX2_28_X2 f13 (nle rfl) (vI _) rfl rfl (fun h14 s15 f16 => ?_)
      refine g_aload_n 57 dX2_load_56 rfl rfl ?_
      refine g_iconst (v := iZ (0)) 58 dX2_load_57 rfl rfl ?_
      refine g_putC (fs1 := [.ref (m + 1), .ref (m + 2), .int (iZ 0), .int (iZ 0), .int (iZ 0), .int (iZ en), .int (iZ dn), .int (iZ tk), .int (iZ hm)]) 61 dX2_load_58 fpX2_31_X2 f16 (nle rfl) (vI _) rfl rfl (fun h17 s18 f19 => ?_)
      refine g_aload_n 62 dX2_load_61 rfl rfl ?_
      refine g_iconst (v := iZ (0)) 63 dX2_load_62 rfl rfl ?_
      refine g_putC (fs1 := [.ref (m + 1), .ref (m + 2), .int (iZ 0), .int (iZ 0), .int (iZ 0), .int (iZ 0), .int (iZ dn), .int (iZ tk), .int (iZ hm)]) 66 dX2_load_63 fpX2_34_X2 f19 (nle rfl) vZ0 rfl rfl (fun h20 s21 f22 => ?_)
      refine g_aload_n 67 dX2_load_66 rfl rfl ?_
      refine g_iconst (v := iZ (0)) 68 dX2_load_67 rfl rfl ?_
      refine g_putC (fs1 := [.ref (m + 1), .ref (m + 2), .int (iZ 0), .int (iZ 0), .int (iZ 0), .int (iZ 0), .int (iZ 0), .int (iZ tk), .int (iZ hm)]) 71 dX2_load_68 fpX2_38_X2 f22 (nle rfl) (vI _) rfl rfl (fun h23 s24 f25 => ?_)
      refine g_aload_n 72 dX2_load_71 rfl rfl ?_
      refine g_iconst (v := iZ (0)) 73 dX2_load_72 rfl rfl ?_
      refine g_putC (fs1 := [.ref (m + 1), .ref (m + 2), .int (iZ 0), .int (iZ 0), .int (iZ 0), .int (iZ 0), .int (iZ 0), .int (iZ 0), .int (iZ hm)]) 76 dX2_load_73 fpX2_41_X2 f25 (nle rfl) (vI _) rfl rfl (fun h26 s27 f28 => ?_)
      refine g_aload_n 77 dX2_load_76 rfl rfl ?_
      refine g_iconst (v := iZ (0)) 78 dX2_load_77 rfl rfl ?_
      refine g_putC (fs1 := [.ref (m + 1), .ref (m + 2), .int (iZ 0), .int (iZ 0), .int (iZ 0), .int (iZ 0), .int (iZ 0), .int (iZ 0), .int (iZ 0)]) 81 dX2_load_78 fpX2_44_X2 f28 (nle rfl) (vI _) rfl rfl (fun h29 s30 f31 => ?_)
      refine g_vret rfl dX2_load_81 ?_
      have f32 := (s30.get (by simp <;> omega) (s27.get (by simp <;> omega) (s24.get (by simp <;> omega) (s21.get (by simp <;> omega) (s18.get (by simp <;> omega) (s15.get (by simp <;> omega) (s12.get (by simp <;> omega) (s8.get (by simp <;> omega) f4))))))))
      have f33 := (s30.get (by simp <;> omega) (s27.get (by simp <;> omega) (s24.get (by simp <;> omega) (s21.get (by simp <;> omega) (s18.get (by simp <;> omega) (s15.get (by simp <;> omega) (s12.get (by simp <;> omega) f9)))))))
      exact k _ (0) (0) (0) (0) (0) (0) (0) (0) ((ldm n f)) (by omega) (by omega) (by omega) (Or.inl rfl) (by omega) (by omega) (by omega) (by omega) (ldm_ok (fun q hq => of1 q)) (by omega) rfl ((((((((((Sm.refl [m, m + 1, m + 2] _).tr s3 (fun _ q => q) (by simp)).tr s8 (fun _ q => q) (by simp)).tr s12 (fun _ q => q) (by simp)).tr s15 (fun _ q => q) (by simp)).tr s18 (fun _ q => q) (by simp)).tr s21 (fun _ q => q) (by simp)).tr s24 (fun _ q => q) (by simp)).tr s27 (fun _ q => q) (by simp)).tr s30 (fun _ q => q) (by simp)) f31 f32 f33
    · refine g_aload_n 10 dX2_load_9 rfl rfl ?_
      refine g_get 13 dX2_load_10 faX2_9_X2 F0 rfl rfl ?_
      refine g_iload_n 14 dX2_load_13 rfl rfl ?_
      refine g_iload_n 15 dX2_load_14 rfl rfl ?_
      refine g_aload_n 16 dX2_load_15 rfl rfl ?_
      refine g_get 19 dX2_load_16 faX2_51_X0 F3 rfl rfl ?_
      refine g_icZ_ge 30 22 dX2_load_19 rfl rfl (by omega) (by omega) (fun c34 => ?_) (fun c34 => ?_)
      · refine g_iconst (v := iZ (0)) 31 dX2_load_30 rfl rfl ?_
        refine g_iastFj (j.toNat) 32 dX2_load_31 F1 (by omega) (by omega) (by decide) rfl rfl (fun h35 s36 f37 => ?_)
        refine g_iincZ [some (.ref m), some (.ref c), some (.int (iZ (j + 1)))] 35 dX2_load_32 rfl (by omega) (by decide) rfl rfl rfl ?_
        refine g_goto 2 dX2_load_35 rfl ?_
        have f38 := (s36.get (by simp <;> omega) F0)
        have f39 := (s36.get (by simp <;> omega) F2)
        have f40 := (s36.get (by simp <;> omega) F3)
        have f41 := (s36.get (by simp <;> omega) F4)
        have f42 := (s36.get (by simp <;> omega) F5)
        exact ih _ (by omega) _ (a) (x) (p) (en) (dn) (tk) (hm) (on) (va_up mm j.toNat 0) (j + 1) rfl (by omega) (by omega) (by omega) ren (by omega) (by omega) (by omega) (by omega) (oki_up omm _ (by omega)) f38 f37 f39 f40 f41 f42 (by omega) (upA (by omega) hMm (by unfold ldm; rw [if_neg (by omega)])) (fun hQ xQ0 xQ1 xQ2 xQ3 xQ4 xQ5 xQ6 xQ7 xQ8 yQ0 yQ1 yQ2 yQ3 yQ4 yQ5 yQ6 yQ7 yQ8 pQ0 pQ1 sQ uQ0 uQ1 uQ2 => k hQ xQ0 xQ1 xQ2 xQ3 xQ4 xQ5 xQ6 xQ7 xQ8 yQ0 yQ1 yQ2 yQ3 yQ4 yQ5 yQ6 yQ7 yQ8 pQ0 pQ1 (((Sm.refl [m, m + 1, m + 2] _).tr s36 (fun _ q => q) (by simp)).tr sQ (fun _ q => q) (fun _ q => q)) uQ0 uQ1 uQ2)
      · refine g_aload_n 23 dX2_load_22 rfl rfl ?_
        refine g_iload_n 24 dX2_load_23 rfl rfl ?_
        refine g_callV (z := mX0_at) (As := [.int (iZ j)]) 27 dX2_load_24 mwX0_at ⟨by decide, by decide⟩ rfl wlX2_66 wiX0_at wsX0_at F3 rfl rfl rfl (nle rfl) (nle rfl) rfl ?_
        refine Go.to [some (.ref c), some (.int (iZ j))] [] rfl rfl ?_
        refine g_iload_n 1 dX0_at_0 rfl rfl ?_
        refine g_ifZ_lt 20 4 dX0_at_1 rfl rfl (by omega) (fun q => absurd q (by omega)) (fun _ => ?_)
        refine g_iload_n 5 dX0_at_4 rfl rfl ?_
        refine g_aload_n 6 dX0_at_5 rfl rfl ?_
        refine g_get 9 dX0_at_6 faX0_9_X0 F3 rfl rfl ?_
        refine g_icZ_ge 20 12 dX0_at_9 rfl rfl (by omega) (by omega) (fun q => absurd q (by omega)) (fun _ => ?_)
        refine g_iload_n 13 dX0_at_12 rfl rfl ?_
        refine g_aload_n 14 dX0_at_13 rfl rfl ?_
        refine g_get 17 dX0_at_14 faX0_21_X0 F3 rfl rfl ?_
        refine g_icZ_lt 24 20 dX0_at_17 rfl rfl (by omega) (by omega) (fun _ => ?_) (fun q => absurd q (by omega))
        refine g_aload_n 25 dX0_at_24 rfl rfl ?_
        refine g_get 28 dX0_at_25 faX0_24_X0 F3 rfl rfl ?_
        refine g_iload_n 29 dX0_at_28 rfl rfl ?_
        have b43 := of1 ((j).toNat)
        refine g_ialdZ (v := iZ (f j.toNat)) 30 dX0_at_29 F4 (by omega) (by omega) (by omega) rfl rfl ?_
        refine g_iret rfl dX0_at_30 ?_
        refine rI ?_
        refine g_goto 31 dX2_load_27 rfl ?_
        refine g_iastFj (j.toNat) 32 dX2_load_31 F1 (by omega) (by omega) (by decide) rfl rfl (fun h44 s45 f46 => ?_)
        refine g_iincZ [some (.ref m), some (.ref c), some (.int (iZ (j + 1)))] 35 dX2_load_32 rfl (by omega) (by decide) rfl rfl rfl ?_
        refine g_goto 2 dX2_load_35 rfl ?_
        have f47 := (s45.get (by simp <;> omega) F0)
        have f48 := (s45.get (by simp <;> omega) F2)
        have f49 := (s45.get (by simp <;> omega) F3)
        have f50 := (s45.get (by simp <;> omega) F4)
        have f51 := (s45.get (by simp <;> omega) F5)
        exact ih _ (by omega) _ (a) (x) (p) (en) (dn) (tk) (hm) (on) (va_up mm j.toNat (f j.toNat)) (j + 1) rfl (by omega) (by omega) (by omega) ren (by omega) (by omega) (by omega) (by omega) (oki_up omm _ (by omega)) f47 f46 f48 f49 f50 f51 (by omega) (upA (by omega) hMm (by unfold ldm; rw [if_pos (by omega)])) (fun hQ xQ0 xQ1 xQ2 xQ3 xQ4 xQ5 xQ6 xQ7 xQ8 yQ0 yQ1 yQ2 yQ3 yQ4 yQ5 yQ6 yQ7 yQ8 pQ0 pQ1 sQ uQ0 uQ1 uQ2 => k hQ xQ0 xQ1 xQ2 xQ3 xQ4 xQ5 xQ6 xQ7 xQ8 yQ0 yQ1 yQ2 yQ3 yQ4 yQ5 yQ6 yQ7 yQ8 pQ0 pQ1 (((Sm.refl [m, m + 1, m + 2] _).tr s45 (fun _ q => q) (by simp)).tr sQ (fun _ q => q) (fun _ q => q)) uQ0 uQ1 uQ2)
set_option maxRecDepth 100000 in
theorem c_load {l : Launch} {h : MH} {Q : Option Value → MH → Prop} {m c M : Nat} {a x p en dn tk hm on n : Int} {f g mm : Nat → Int} (F0 : h[m]? = some (.inr (2, [.ref (m + 1), .ref (m + 2), .int (iZ a), .int (iZ x), .int (iZ p), .int (iZ en), .int (iZ dn), .int (iZ tk), .int (iZ hm)]))) (F1 : h[m + 1]? = some (.inl (0, 256, .inl (zA mm)))) (F2 : h[m + 2]? = some (.inr (0, [.int (iZ 256), .ref (m + 3), .ref (m + 4), .int (iZ on)]))) (F3 : h[c]? = some (.inr (0, [.int (iZ ((M : Int))), .ref (c + 1), .ref (c + 2), .int (iZ n)]))) (F4 : h[c + 1]? = some (.inl (0, M, .inl (zA f)))) (F5 : h[c + 2]? = some (.inl (0, M, .inl (zA g)))) (omm : oki (0) (255) mm) (of1 : oki (0) (255) f) (og1 : oki (0) (300) g) (ra : (0 ≤ a ∧ a ≤ 255)) (rx : (0 ≤ x ∧ x ≤ 255)) (rp : (0 ≤ p ∧ p ≤ 255)) (ren : (en = 0 ∨ en = 1)) (rdn : (0 ≤ dn ∧ dn ≤ 5000)) (rtk : (0 ≤ tk ∧ tk ≤ 200)) (rhm : (0 ≤ hm ∧ hm ≤ 3)) (ron : (0 ≤ on ∧ on ≤ 256)) (rn : (0 ≤ n ∧ n ≤ 256)) (hM : M ≤ 256) (hnM : n ≤ M) (hc1 : c ≠ m + 1) (hc2 : c + 1 ≠ m + 1) (hc3 : c + 2 ≠ m + 1) (k : ∀ (h1 : MH) (a_1 x_1 p_1 en_1 dn_1 tk_1 hm_1 on_1 : Int) (mm_1 : Nat → Int), (0 ≤ a_1 ∧ a_1 ≤ 255) → (0 ≤ x_1 ∧ x_1 ≤ 255) → (0 ≤ p_1 ∧ p_1 ≤ 255) → (en_1 = 0 ∨ en_1 = 1) → (0 ≤ dn_1 ∧ dn_1 ≤ 5000) → (0 ≤ tk_1 ∧ tk_1 ≤ 200) → (0 ≤ hm_1 ∧ hm_1 ≤ 3) → (0 ≤ on_1 ∧ on_1 ≤ 256) → oki (0) (255) mm_1 → (a_1 = 0 ∧ x_1 = 0 ∧ p_1 = 0 ∧ en_1 = 0 ∧ dn_1 = 0 ∧ tk_1 = 0 ∧ hm_1 = 0 ∧ on_1 = 0) → (mm_1 = ldm n f) → Sm [m, m + 1, m + 2] h h1 → h1[m]? = some (.inr (2, [.ref (m + 1), .ref (m + 2), .int (iZ a_1), .int (iZ x_1), .int (iZ p_1), .int (iZ en_1), .int (iZ dn_1), .int (iZ tk_1), .int (iZ hm_1)])) → h1[m + 1]? = some (.inl (0, 256, .inl (zA mm_1))) → h1[m + 2]? = some (.inr (0, [.int (iZ 256), .ref (m + 3), .ref (m + 4), .int (iZ on_1)])) → Q none h1) : Go l mX2_load 0 [some (.ref m), some (.ref c), none] [] h Q := by
  refine g_iconst (v := iZ (0)) 1 dX2_load_0 rfl rfl ?_
  refine g_istore_n (L1 := [some (.ref m), some (.ref c), some (.int (iZ 0))]) 2 dX2_load_1 (by decide) rfl rfl rfl ?_
  exact c_load_l of1 og1 rn hM hnM hc1 hc2 hc3 _ _ (a) (x) (p) (en) (dn) (tk) (hm) (on) (mm) (0) rfl (by omega) (by omega) (by omega) ren (by omega) (by omega) (by omega) (by omega) omm F0 F1 F2 F3 F4 F5 (by omega) (fun q hq => by omega) k

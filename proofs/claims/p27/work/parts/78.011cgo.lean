set_option maxRecDepth 100000 in
theorem c_go2_l {l : Launch} {Q : Option Value → MH → Prop} {m t : Nat} {tn : Int} {tf : Nat → Int} {RES : Int × MS} (otf : oki (0) (255) tf) (rtn : (0 ≤ tn ∧ tn ≤ 200)) (ht : m + 4 < t) : ∀ (m0 : Nat) (h : MH) (a x p en dn tk hm on : Int) (mm : Nat → Int) (of : Nat → Int) (og : Nat → Int) (q j : Int), (5001 - j).toNat = m0 → (0 ≤ a ∧ a ≤ 255) → (0 ≤ x ∧ x ≤ 255) → (0 ≤ p ∧ p ≤ 255) → (en = 0 ∨ en = 1) → (0 ≤ dn ∧ dn ≤ 5000) → (0 ≤ tk ∧ tk ≤ 200) → (0 ≤ hm ∧ hm ≤ 3) → (0 ≤ on ∧ on ≤ 256) → oki (0) (255) mm → oki (0) (255) of → oki (0) (300) og → h[m]? = some (.inr (2, [.ref (m + 1), .ref (m + 2), .int (iZ a), .int (iZ x), .int (iZ p), .int (iZ en), .int (iZ dn), .int (iZ tk), .int (iZ hm)])) → h[m + 1]? = some (.inl (0, 256, .inl (zA mm))) → h[m + 2]? = some (.inr (0, [.int (iZ 256), .ref (m + 3), .ref (m + 4), .int (iZ on)])) → h[m + 3]? = some (.inl (0, 256, .inl (zA of))) → h[m + 4]? = some (.inl (0, 256, .inl (zA og))) → h[t]? = some (.inr (5, [.ref (t + 1), .int (iZ tn)])) → h[t + 1]? = some (.inl (0, 200, .inl (zA tf))) → q = 0 ∨ q = 1 → 0 ≤ j ∧ j ≤ 5001 → gtI RES tn (fun j => tf j.toNat) q j hm a x p en dn tk on mm of og → (∀ (h1 : MH) (a_1 x_1 p_1 en_1 dn_1 tk_1 hm_1 on_1 : Int) (mm_1 : Nat → Int) (of_1 : Nat → Int) (og_1 : Nat → Int), (0 ≤ a_1 ∧ a_1 ≤ 255) → (0 ≤ x_1 ∧ x_1 ≤ 255) → (0 ≤ p_1 ∧ p_1 ≤ 255) → (en_1 = 0 ∨ en_1 = 1) → (0 ≤ dn_1 ∧ dn_1 ≤ 5000) → (0 ≤ tk_1 ∧ tk_1 ≤ 200) → (0 ≤ hm_1 ∧ hm_1 ≤ 3) → (0 ≤ on_1 ∧ on_1 ≤ 256) → oki (0) (255) mm_1 → oki (0) (255) of_1 → oki (0) (300) og_1 → (goR RES hm_1 a_1 x_1 p_1 en_1 dn_1 tk_1 on_1 mm_1 of_1 og_1) → Sm [m, m + 1, m + 2, m + 3, m + 4] h h1 → h1[m]? = some (.inr (2, [.ref (m + 1), .ref (m + 2), .int (iZ a_1), .int (iZ x_1), .int (iZ p_1), .int (iZ en_1), .int (iZ dn_1), .int (iZ tk_1), .int (iZ hm_1)])) → h1[m + 1]? = some (.inl (0, 256, .inl (zA mm_1))) → h1[m + 2]? = some (.inr (0, [.int (iZ 256), .ref (m + 3), .ref (m + 4), .int (iZ on_1)])) → h1[m + 3]? = some (.inl (0, 256, .inl (zA of_1))) → h1[m + 4]? = some (.inl (0, 256, .inl (zA og_1))) → Q none h1) → Go l mX2_goThrough 10 [some (.ref m), none, some (.ref t), some (.int (iZ q)), some (.int (iZ j)), none] [] h Q := by
  intro m0
  induction m0 using Nat.strongRecOn with
  | ind m0 ih =>
    intro h a x p en dn tk hm on mm of og q j hmz ra rx rp ren rdn rtk rhm ron omm oof oog F0 F1 F2 F3 F4 F5 F6 hq hj hR k
    refine g_iload_n 11 dX2_goThrough_10 rfl rfl ?_
    refine g_ifZ_eq 95 14 dX2_goThrough_11 rfl rfl (rg01 hq) (fun c1 => ?_) (fun c1 => ?_)
    · refine g_vret rfl dX2_goThrough_95 ?_
      exact k _ (a) (x) (p) (en) (dn) (tk) (hm) (on) (mm) (of) (og) (by omega) (by omega) (by omega) ren (by omega) (by omega) (by omega) (by omega) omm oof oog (gtI_0 hR (by omega)) (Sm.refl [m, m + 1, m + 2, m + 3, m + 4] _) F0 F1 F2 F3 F4
    · have hg := gtI_1 hR (by omega)
      refine g_iload 16 dX2_goThrough_14 rfl rfl ?_
      refine g_sipush (v := iZ (5000)) 19 dX2_goThrough_16 (by decide +kernel) rfl ?_
      refine g_icZ_gt 95 22 dX2_goThrough_19 rfl rfl (by omega) (by decide) (fun c2 => ?_) (fun c2 => ?_)
      · refine g_vret rfl dX2_goThrough_95 ?_
        exact k _ (a) (x) (p) (en) (dn) (tk) (hm) (on) (mm) (of) (og) (by omega) (by omega) (by omega) ren (by omega) (by omega) (by omega) (by omega) omm oof oog (by exfalso; omega) (Sm.refl [m, m + 1, m + 2, m + 3, m + 4] _) F0 F1 F2 F3 F4
      · refine g_aload_n 23 dX2_goThrough_22 rfl rfl ?_
        refine g_get 26 dX2_goThrough_23 faX2_9_X2 F0 rfl rfl ?_
        refine g_aload_n 27 dX2_goThrough_26 rfl rfl ?_
        refine g_get 30 dX2_goThrough_27 faX2_31_X2 F0 rfl rfl ?_
        refine g_sipush (v := iZ (255)) 33 dX2_goThrough_30 (by decide +kernel) rfl ?_
        refine g_and255Z (p) 34 dX2_goThrough_33 (by omega) rfl ?_
        have b3 := omm ((p).toNat)
        refine g_ialdZ (v := iZ (mm p.toNat)) 35 dX2_goThrough_34 F1 (by omega) (by omega) (by decide) rfl rfl ?_
        refine g_istore (L1 := [some (.ref m), none, some (.ref t), some (.int (iZ q)), some (.int (iZ j)), some (.int (iZ (mm p.toNat)))]) 37 dX2_goThrough_35 (by decide) rfl rfl rfl ?_
        refine g_aload_n 38 dX2_goThrough_37 rfl rfl ?_
        refine g_aload_n 39 dX2_goThrough_38 rfl rfl ?_
        refine g_iload 41 dX2_goThrough_39 rfl rfl ?_
        refine g_callV (z := mX2_harmOf) (As := [.int (iZ (mm p.toNat))]) 44 dX2_goThrough_41 mwX2_harmOf ⟨by decide, by decide⟩ rfl wlX2_58 wiX2_harmOf wsX2_harmOf F0 rfl rfl rfl (nle rfl) (nle rfl) rfl ?_
        refine Go.to [some (.ref m), some (.int (iZ (mm p.toNat)))] [] rfl rfl ?_
        refine g_iload_n 1 dX2_harmOf_0 rfl rfl ?_
        refine g_bipush (v := iZ (15)) 3 dX2_harmOf_1 (by decide +kernel) rfl ?_
        refine g_icZ_le 8 6 dX2_harmOf_3 rfl rfl (by omega) (by decide) (fun c4 => ?_) (fun c4 => ?_)
        · refine g_aload_n 9 dX2_harmOf_8 rfl rfl ?_
          refine g_get 12 dX2_harmOf_9 faX2_38_X2 F0 rfl rfl ?_
          refine g_sipush (v := iZ (5000)) 15 dX2_harmOf_12 (by decide +kernel) rfl ?_
          refine g_icZ_lt 20 18 dX2_harmOf_15 rfl rfl (by omega) (by decide) (fun c5 => ?_) (fun c5 => ?_)
          · refine g_iload_n 21 dX2_harmOf_20 rfl rfl ?_
            refine g_iconst (v := iZ (2)) 22 dX2_harmOf_21 rfl rfl ?_
            refine g_icZ_ne 42 25 dX2_harmOf_22 rfl rfl (by omega) (by decide) (fun c6 => ?_) (fun c6 => ?_)
            · refine g_iconst (v := iZ (0)) 43 dX2_harmOf_42 rfl rfl ?_
              refine g_iret rfl dX2_harmOf_43 ?_
              refine rI ?_
              refine g_putC (fs1 := [.ref (m + 1), .ref (m + 2), .int (iZ a), .int (iZ x), .int (iZ p), .int (iZ en), .int (iZ dn), .int (iZ tk), .int (iZ 0)]) 47 dX2_goThrough_44 fpX2_44_X2 F0 (nle rfl) (vI _) rfl rfl (fun h7 s8 f9 => ?_)
              refine g_aload_n 48 dX2_goThrough_47 rfl rfl ?_
              refine g_get 51 dX2_goThrough_48 faX2_44_X2 f9 rfl rfl ?_
              refine g_ifZ_ne 63 54 dX2_goThrough_51 rfl rfl (by decide) (fun q => absurd q (by decide)) (fun _ => ?_)
              refine g_iload 56 dX2_goThrough_54 rfl rfl ?_
              refine g_ifZ_eq 63 59 dX2_goThrough_56 rfl rfl (by omega) (fun c10 => ?_) (fun c10 => ?_)
              · refine g_iconst (v := iZ (0)) 64 dX2_goThrough_63 rfl rfl ?_
                refine g_istore_n (L1 := [some (.ref m), none, some (.ref t), some (.int (iZ 0)), some (.int (iZ j)), some (.int (iZ (mm p.toNat)))]) 65 dX2_goThrough_64 (by decide) rfl rfl rfl ?_
                refine g_aload_n 66 dX2_goThrough_65 rfl rfl ?_
                refine g_get 69 dX2_goThrough_66 faX2_44_X2 f9 rfl rfl ?_
                refine g_ifZ_ne 89 72 dX2_goThrough_69 rfl rfl (by decide) (fun q => absurd q (by decide)) (fun _ => ?_)
                refine g_aload_n 73 dX2_goThrough_72 rfl rfl ?_
                refine g_iload 75 dX2_goThrough_73 rfl rfl ?_
                refine g_aload_n 76 dX2_goThrough_75 rfl rfl ?_
                refine g_callV (z := mX2_obey) (As := [.int (iZ (mm p.toNat)), .ref t]) 79 dX2_goThrough_76 mwX2_obey ⟨by decide, by decide⟩ rfl wlX2_62 wiX2_obey wsX2_obey f9 rfl rfl rfl (nle rfl) (nle rfl) rfl ?_
                have f11 := (s8.get (by simp <;> omega) F1)
                have f12 := (s8.get (by simp <;> omega) F2)
                have f13 := (s8.get (by simp <;> omega) F3)
                have f14 := (s8.get (by simp <;> omega) F4)
                have f15 := (s8.get (by simp <;> omega) F5)
                have f16 := (s8.get (by simp <;> omega) F6)
                refine c_obey  f9 f11 f12 f13 f14 f15 f16 omm oof oog otf (by omega) (by omega) (by omega) ren (by omega) (by omega) (by omega) (by omega) (by omega) (by omega) rfl (by omega) (by omega) (fun h17 z19 z20 z21 z22 z23 z25 g24 g26 g27 rz19 rz20 rz21 rz22 rz23 rz25 og24 og26 og27 p28 s18 f29 f30 f31 f32 f33 => ?_)
                refine rV ?_
                refine g_aload_n 80 dX2_goThrough_79 rfl rfl ?_
                refine g_dup 81 dX2_goThrough_80 rfl rfl ?_
                refine g_get 84 dX2_goThrough_81 faX2_38_X2 f29 rfl rfl ?_
                refine g_iconst (v := iZ (1)) 85 dX2_goThrough_84 rfl rfl ?_
                refine g_iaddZ (dn + 1) 86 dX2_goThrough_85 (by omega) rfl ?_
                refine g_putC (fs1 := [.ref (m + 1), .ref (m + 2), .int (iZ z19), .int (iZ z20), .int (iZ z21), .int (iZ z22), .int (iZ (dn + 1)), .int (iZ z23), .int (iZ 0)]) 89 dX2_goThrough_86 fpX2_38_X2 f29 (nle rfl) (vI _) rfl rfl (fun h34 s35 f36 => ?_)
                refine g_iincZ [some (.ref m), none, some (.ref t), some (.int (iZ 0)), some (.int (iZ (j + 1))), some (.int (iZ (mm p.toNat)))] 92 dX2_goThrough_89 rfl (by omega) (by decide) rfl rfl rfl ?_
                refine g_goto 10 dX2_goThrough_92 rfl ?_
                refine Go.fgt 5 ?_
                have f37 := (s35.get (by simp <;> omega) f30)
                have f38 := (s35.get (by simp <;> omega) f31)
                have f39 := (s35.get (by simp <;> omega) f32)
                have f40 := (s35.get (by simp <;> omega) f33)
                have f41 := (s35.get (by simp <;> omega) (s18.get (by simp <;> omega) f15))
                have f42 := (s35.get (by simp <;> omega) (s18.get (by simp <;> omega) f16))
                exact ih _ (by omega) _ (z19) (z20) (z21) (z22) (dn + 1) (z23) (0) (z25) (g24) (g26) (g27) (0) (j + 1) rfl (by omega) (by omega) (by omega) rz22 (by omega) (by omega) (by omega) (by omega) og24 og26 og27 f36 f37 f38 f39 f40 f41 f42 (Or.inl rfl) (by omega) (gtI_stop hg.2 (fun q9 => by unfold hcM at q9; omega) (by omega) (by omega) p28) (fun hQ xQ0 xQ1 xQ2 xQ3 xQ4 xQ5 xQ6 xQ7 xQ8 xQ9 xQ10 yQ0 yQ1 yQ2 yQ3 yQ4 yQ5 yQ6 yQ7 yQ8 yQ9 yQ10 pQ0 sQ uQ0 uQ1 uQ2 uQ3 uQ4 => k hQ xQ0 xQ1 xQ2 xQ3 xQ4 xQ5 xQ6 xQ7 xQ8 xQ9 xQ10 yQ0 yQ1 yQ2 yQ3 yQ4 yQ5 yQ6 yQ7 yQ8 yQ9 yQ10 pQ0 (((((Sm.refl [m, m + 1, m + 2, m + 3, m + 4] _).tr s8 (fun _ q => q) (by simp)).tr s18 (fun _ q => q) (by simp)).tr s35 (fun _ q => q) (by simp)).tr sQ (fun _ q => q) (fun _ q => q)) uQ0 uQ1 uQ2 uQ3 uQ4)
              · refine g_iconst (v := iZ (1)) 60 dX2_goThrough_59 rfl rfl ?_
                refine g_goto 64 dX2_goThrough_60 rfl ?_
                refine g_istore_n (L1 := [some (.ref m), none, some (.ref t), some (.int (iZ 1)), some (.int (iZ j)), some (.int (iZ (mm p.toNat)))]) 65 dX2_goThrough_64 (by decide) rfl rfl rfl ?_
                refine g_aload_n 66 dX2_goThrough_65 rfl rfl ?_
                refine g_get 69 dX2_goThrough_66 faX2_44_X2 f9 rfl rfl ?_
                refine g_ifZ_ne 89 72 dX2_goThrough_69 rfl rfl (by decide) (fun q => absurd q (by decide)) (fun _ => ?_)
                refine g_aload_n 73 dX2_goThrough_72 rfl rfl ?_
                refine g_iload 75 dX2_goThrough_73 rfl rfl ?_
                refine g_aload_n 76 dX2_goThrough_75 rfl rfl ?_
                refine g_callV (z := mX2_obey) (As := [.int (iZ (mm p.toNat)), .ref t]) 79 dX2_goThrough_76 mwX2_obey ⟨by decide, by decide⟩ rfl wlX2_62 wiX2_obey wsX2_obey f9 rfl rfl rfl (nle rfl) (nle rfl) rfl ?_
                have f43 := (s8.get (by simp <;> omega) F1)
                have f44 := (s8.get (by simp <;> omega) F2)
                have f45 := (s8.get (by simp <;> omega) F3)
                have f46 := (s8.get (by simp <;> omega) F4)
                have f47 := (s8.get (by simp <;> omega) F5)
                have f48 := (s8.get (by simp <;> omega) F6)
                refine c_obey  f9 f43 f44 f45 f46 f47 f48 omm oof oog otf (by omega) (by omega) (by omega) ren (by omega) (by omega) (by omega) (by omega) (by omega) (by omega) rfl (by omega) (by omega) (fun h49 z51 z52 z53 z54 z55 z57 g56 g58 g59 rz51 rz52 rz53 rz54 rz55 rz57 og56 og58 og59 p60 s50 f61 f62 f63 f64 f65 => ?_)
                refine rV ?_
                refine g_aload_n 80 dX2_goThrough_79 rfl rfl ?_
                refine g_dup 81 dX2_goThrough_80 rfl rfl ?_
                refine g_get 84 dX2_goThrough_81 faX2_38_X2 f61 rfl rfl ?_
                refine g_iconst (v := iZ (1)) 85 dX2_goThrough_84 rfl rfl ?_
                refine g_iaddZ (dn + 1) 86 dX2_goThrough_85 (by omega) rfl ?_
                refine g_putC (fs1 := [.ref (m + 1), .ref (m + 2), .int (iZ z51), .int (iZ z52), .int (iZ z53), .int (iZ z54), .int (iZ (dn + 1)), .int (iZ z55), .int (iZ 0)]) 89 dX2_goThrough_86 fpX2_38_X2 f61 (nle rfl) (vI _) rfl rfl (fun h66 s67 f68 => ?_)
                refine g_iincZ [some (.ref m), none, some (.ref t), some (.int (iZ 1)), some (.int (iZ (j + 1))), some (.int (iZ (mm p.toNat)))] 92 dX2_goThrough_89 rfl (by omega) (by decide) rfl rfl rfl ?_
                refine g_goto 10 dX2_goThrough_92 rfl ?_
                refine Go.fgt 5 ?_
                have f69 := (s67.get (by simp <;> omega) f62)
                have f70 := (s67.get (by simp <;> omega) f63)
                have f71 := (s67.get (by simp <;> omega) f64)
                have f72 := (s67.get (by simp <;> omega) f65)
                have f73 := (s67.get (by simp <;> omega) (s50.get (by simp <;> omega) f47))
                have f74 := (s67.get (by simp <;> omega) (s50.get (by simp <;> omega) f48))
                exact ih _ (by omega) _ (z51) (z52) (z53) (z54) (dn + 1) (z55) (0) (z57) (g56) (g58) (g59) (1) (j + 1) rfl (by omega) (by omega) (by omega) rz54 (by omega) (by omega) (by omega) (by omega) og56 og58 og59 f68 f69 f70 f71 f72 f73 f74 (Or.inr rfl) (by omega) (gtI_on hg.2 (fun q9 => by unfold hcM at q9; omega) (by omega) (by omega) (by omega) p60) (fun hQ xQ0 xQ1 xQ2 xQ3 xQ4 xQ5 xQ6 xQ7 xQ8 xQ9 xQ10 yQ0 yQ1 yQ2 yQ3 yQ4 yQ5 yQ6 yQ7 yQ8 yQ9 yQ10 pQ0 sQ uQ0 uQ1 uQ2 uQ3 uQ4 => k hQ xQ0 xQ1 xQ2 xQ3 xQ4 xQ5 xQ6 xQ7 xQ8 xQ9 xQ10 yQ0 yQ1 yQ2 yQ3 yQ4 yQ5 yQ6 yQ7 yQ8 yQ9 yQ10 pQ0 (((((Sm.refl [m, m + 1, m + 2, m + 3, m + 4] _).tr s8 (fun _ q => q) (by simp)).tr s50 (fun _ q => q) (by simp)).tr s67 (fun _ q => q) (by simp)).tr sQ (fun _ q => q) (fun _ q => q)) uQ0 uQ1 uQ2 uQ3 uQ4)
            · refine g_aload_n 26 dX2_harmOf_25 rfl rfl ?_
              refine g_get 29 dX2_harmOf_26 faX2_20_X2 F0 rfl rfl ?_
              refine g_get 32 dX2_harmOf_29 faX2_51_X0 F2 rfl rfl ?_
              refine g_sipush (v := iZ (256)) 35 dX2_harmOf_32 (by decide +kernel) rfl ?_
              refine g_icZ_lt 42 38 dX2_harmOf_35 rfl rfl (by omega) (by decide) (fun c75 => ?_) (fun c75 => ?_)
              · refine g_iconst (v := iZ (0)) 43 dX2_harmOf_42 rfl rfl ?_
                refine g_iret rfl dX2_harmOf_43 ?_
                refine rI ?_
                refine g_putC (fs1 := [.ref (m + 1), .ref (m + 2), .int (iZ a), .int (iZ x), .int (iZ p), .int (iZ en), .int (iZ dn), .int (iZ tk), .int (iZ 0)]) 47 dX2_goThrough_44 fpX2_44_X2 F0 (nle rfl) (vI _) rfl rfl (fun h76 s77 f78 => ?_)
                refine g_aload_n 48 dX2_goThrough_47 rfl rfl ?_
                refine g_get 51 dX2_goThrough_48 faX2_44_X2 f78 rfl rfl ?_
                refine g_ifZ_ne 63 54 dX2_goThrough_51 rfl rfl (by decide) (fun q => absurd q (by decide)) (fun _ => ?_)
                refine g_iload 56 dX2_goThrough_54 rfl rfl ?_
                refine g_ifZ_eq 63 59 dX2_goThrough_56 rfl rfl (by omega) (fun q => absurd q (by omega)) (fun _ => ?_)
                refine g_iconst (v := iZ (1)) 60 dX2_goThrough_59 rfl rfl ?_
                refine g_goto 64 dX2_goThrough_60 rfl ?_
                refine g_istore_n (L1 := [some (.ref m), none, some (.ref t), some (.int (iZ 1)), some (.int (iZ j)), some (.int (iZ (mm p.toNat)))]) 65 dX2_goThrough_64 (by decide) rfl rfl rfl ?_
                refine g_aload_n 66 dX2_goThrough_65 rfl rfl ?_
                refine g_get 69 dX2_goThrough_66 faX2_44_X2 f78 rfl rfl ?_
                refine g_ifZ_ne 89 72 dX2_goThrough_69 rfl rfl (by decide) (fun q => absurd q (by decide)) (fun _ => ?_)
                refine g_aload_n 73 dX2_goThrough_72 rfl rfl ?_
                refine g_iload 75 dX2_goThrough_73 rfl rfl ?_
                refine g_aload_n 76 dX2_goThrough_75 rfl rfl ?_
                refine g_callV (z := mX2_obey) (As := [.int (iZ (mm p.toNat)), .ref t]) 79 dX2_goThrough_76 mwX2_obey ⟨by decide, by decide⟩ rfl wlX2_62 wiX2_obey wsX2_obey f78 rfl rfl rfl (nle rfl) (nle rfl) rfl ?_
                have f79 := (s77.get (by simp <;> omega) F1)
                have f80 := (s77.get (by simp <;> omega) F2)
                have f81 := (s77.get (by simp <;> omega) F3)
                have f82 := (s77.get (by simp <;> omega) F4)
                have f83 := (s77.get (by simp <;> omega) F5)
                have f84 := (s77.get (by simp <;> omega) F6)
                refine c_obey  f78 f79 f80 f81 f82 f83 f84 omm oof oog otf (by omega) (by omega) (by omega) ren (by omega) (by omega) (by omega) (by omega) (by omega) (by omega) rfl (by omega) (by omega) (fun h85 z87 z88 z89 z90 z91 z93 g92 g94 g95 rz87 rz88 rz89 rz90 rz91 rz93 og92 og94 og95 p96 s86 f97 f98 f99 f100 f101 => ?_)
                refine rV ?_
                refine g_aload_n 80 dX2_goThrough_79 rfl rfl ?_
                refine g_dup 81 dX2_goThrough_80 rfl rfl ?_
                refine g_get 84 dX2_goThrough_81 faX2_38_X2 f97 rfl rfl ?_
                refine g_iconst (v := iZ (1)) 85 dX2_goThrough_84 rfl rfl ?_
                refine g_iaddZ (dn + 1) 86 dX2_goThrough_85 (by omega) rfl ?_
                refine g_putC (fs1 := [.ref (m + 1), .ref (m + 2), .int (iZ z87), .int (iZ z88), .int (iZ z89), .int (iZ z90), .int (iZ (dn + 1)), .int (iZ z91), .int (iZ 0)]) 89 dX2_goThrough_86 fpX2_38_X2 f97 (nle rfl) (vI _) rfl rfl (fun h102 s103 f104 => ?_)
                refine g_iincZ [some (.ref m), none, some (.ref t), some (.int (iZ 1)), some (.int (iZ (j + 1))), some (.int (iZ (mm p.toNat)))] 92 dX2_goThrough_89 rfl (by omega) (by decide) rfl rfl rfl ?_
                refine g_goto 10 dX2_goThrough_92 rfl ?_
                refine Go.fgt 5 ?_
                have f105 := (s103.get (by simp <;> omega) f98)
                have f106 := (s103.get (by simp <;> omega) f99)
                have f107 := (s103.get (by simp <;> omega) f100)
                have f108 := (s103.get (by simp <;> omega) f101)
                have f109 := (s103.get (by simp <;> omega) (s86.get (by simp <;> omega) f83))
                have f110 := (s103.get (by simp <;> omega) (s86.get (by simp <;> omega) f84))
                exact ih _ (by omega) _ (z87) (z88) (z89) (z90) (dn + 1) (z91) (0) (z93) (g92) (g94) (g95) (1) (j + 1) rfl (by omega) (by omega) (by omega) rz90 (by omega) (by omega) (by omega) (by omega) og92 og94 og95 f104 f105 f106 f107 f108 f109 f110 (Or.inr rfl) (by omega) (gtI_on hg.2 (fun q9 => by unfold hcM at q9; omega) (by omega) (by omega) (by omega) p96) (fun hQ xQ0 xQ1 xQ2 xQ3 xQ4 xQ5 xQ6 xQ7 xQ8 xQ9 xQ10 yQ0 yQ1 yQ2 yQ3 yQ4 yQ5 yQ6 yQ7 yQ8 yQ9 yQ10 pQ0 sQ uQ0 uQ1 uQ2 uQ3 uQ4 => k hQ xQ0 xQ1 xQ2 xQ3 xQ4 xQ5 xQ6 xQ7 xQ8 xQ9 xQ10 yQ0 yQ1 yQ2 yQ3 yQ4 yQ5 yQ6 yQ7 yQ8 yQ9 yQ10 pQ0 (((((Sm.refl [m, m + 1, m + 2, m + 3, m + 4] _).tr s77 (fun _ q => q) (by simp)).tr s86 (fun _ q => q) (by simp)).tr s103 (fun _ q => q) (by simp)).tr sQ (fun _ q => q) (fun _ q => q)) uQ0 uQ1 uQ2 uQ3 uQ4)
              · refine g_iconst (v := iZ (2)) 39 dX2_harmOf_38 rfl rfl ?_
                refine g_goto 43 dX2_harmOf_39 rfl ?_
                refine g_iret rfl dX2_harmOf_43 ?_
                refine rI ?_
                refine g_putC (fs1 := [.ref (m + 1), .ref (m + 2), .int (iZ a), .int (iZ x), .int (iZ p), .int (iZ en), .int (iZ dn), .int (iZ tk), .int (iZ 2)]) 47 dX2_goThrough_44 fpX2_44_X2 F0 (nle rfl) (vI _) rfl rfl (fun h111 s112 f113 => ?_)
                refine g_aload_n 48 dX2_goThrough_47 rfl rfl ?_
                refine g_get 51 dX2_goThrough_48 faX2_44_X2 f113 rfl rfl ?_
                refine g_ifZ_ne 63 54 dX2_goThrough_51 rfl rfl (by decide) (fun _ => ?_) (fun q => absurd q (by decide))
                refine g_iconst (v := iZ (0)) 64 dX2_goThrough_63 rfl rfl ?_
                refine g_istore_n (L1 := [some (.ref m), none, some (.ref t), some (.int (iZ 0)), some (.int (iZ j)), some (.int (iZ (mm p.toNat)))]) 65 dX2_goThrough_64 (by decide) rfl rfl rfl ?_
                refine g_aload_n 66 dX2_goThrough_65 rfl rfl ?_
                refine g_get 69 dX2_goThrough_66 faX2_44_X2 f113 rfl rfl ?_
                refine g_ifZ_ne 89 72 dX2_goThrough_69 rfl rfl (by decide) (fun _ => ?_) (fun q => absurd q (by decide))
                refine g_iincZ [some (.ref m), none, some (.ref t), some (.int (iZ 0)), some (.int (iZ (j + 1))), some (.int (iZ (mm p.toNat)))] 92 dX2_goThrough_89 rfl (by omega) (by decide) rfl rfl rfl ?_
                refine g_goto 10 dX2_goThrough_92 rfl ?_
                refine Go.fgt 5 ?_
                have f114 := (s112.get (by simp <;> omega) F1)
                have f115 := (s112.get (by simp <;> omega) F2)
                have f116 := (s112.get (by simp <;> omega) F3)
                have f117 := (s112.get (by simp <;> omega) F4)
                have f118 := (s112.get (by simp <;> omega) F5)
                have f119 := (s112.get (by simp <;> omega) F6)
                exact ih _ (by omega) _ (a) (x) (p) (en) (dn) (tk) (2) (on) (mm) (of) (og) (0) (j + 1) rfl (by omega) (by omega) (by omega) ren (by omega) (by omega) (by omega) (by omega) omm oof oog f113 f114 f115 f116 f117 f118 f119 (Or.inl rfl) (by omega) (gtI_harm (by decide) hg.2 (Or.inl (Or.inr ⟨by omega, by omega⟩))) (fun hQ xQ0 xQ1 xQ2 xQ3 xQ4 xQ5 xQ6 xQ7 xQ8 xQ9 xQ10 yQ0 yQ1 yQ2 yQ3 yQ4 yQ5 yQ6 yQ7 yQ8 yQ9 yQ10 pQ0 sQ uQ0 uQ1 uQ2 uQ3 uQ4 => k hQ xQ0 xQ1 xQ2 xQ3 xQ4 xQ5 xQ6 xQ7 xQ8 xQ9 xQ10 yQ0 yQ1 yQ2 yQ3 yQ4 yQ5 yQ6 yQ7 yQ8 yQ9 yQ10 pQ0 (((Sm.refl [m, m + 1, m + 2, m + 3, m + 4] _).tr s112 (fun _ q => q) (by simp)).tr sQ (fun _ q => q) (fun _ q => q)) uQ0 uQ1 uQ2 uQ3 uQ4)
          · refine g_iconst (v := iZ (3)) 19 dX2_harmOf_18 rfl rfl ?_
            refine g_iret rfl dX2_harmOf_19 ?_
            refine rI ?_
            refine g_putC (fs1 := [.ref (m + 1), .ref (m + 2), .int (iZ a), .int (iZ x), .int (iZ p), .int (iZ en), .int (iZ dn), .int (iZ tk), .int (iZ 3)]) 47 dX2_goThrough_44 fpX2_44_X2 F0 (nle rfl) (vI _) rfl rfl (fun h120 s121 f122 => ?_)
            refine g_aload_n 48 dX2_goThrough_47 rfl rfl ?_
            refine g_get 51 dX2_goThrough_48 faX2_44_X2 f122 rfl rfl ?_
            refine g_ifZ_ne 63 54 dX2_goThrough_51 rfl rfl (by decide) (fun _ => ?_) (fun q => absurd q (by decide))
            refine g_iconst (v := iZ (0)) 64 dX2_goThrough_63 rfl rfl ?_
            refine g_istore_n (L1 := [some (.ref m), none, some (.ref t), some (.int (iZ 0)), some (.int (iZ j)), some (.int (iZ (mm p.toNat)))]) 65 dX2_goThrough_64 (by decide) rfl rfl rfl ?_
            refine g_aload_n 66 dX2_goThrough_65 rfl rfl ?_
            refine g_get 69 dX2_goThrough_66 faX2_44_X2 f122 rfl rfl ?_
            refine g_ifZ_ne 89 72 dX2_goThrough_69 rfl rfl (by decide) (fun _ => ?_) (fun q => absurd q (by decide))
            refine g_iincZ [some (.ref m), none, some (.ref t), some (.int (iZ 0)), some (.int (iZ (j + 1))), some (.int (iZ (mm p.toNat)))] 92 dX2_goThrough_89 rfl (by omega) (by decide) rfl rfl rfl ?_
            refine g_goto 10 dX2_goThrough_92 rfl ?_
            refine Go.fgt 5 ?_
            have f123 := (s121.get (by simp <;> omega) F1)
            have f124 := (s121.get (by simp <;> omega) F2)
            have f125 := (s121.get (by simp <;> omega) F3)
            have f126 := (s121.get (by simp <;> omega) F4)
            have f127 := (s121.get (by simp <;> omega) F5)
            have f128 := (s121.get (by simp <;> omega) F6)
            exact ih _ (by omega) _ (a) (x) (p) (en) (dn) (tk) (3) (on) (mm) (of) (og) (0) (j + 1) rfl (by omega) (by omega) (by omega) ren (by omega) (by omega) (by omega) (by omega) omm oof oog f122 f123 f124 f125 f126 f127 f128 (Or.inl rfl) (by omega) (gtI_harm (by decide) hg.2 (Or.inr (by omega))) (fun hQ xQ0 xQ1 xQ2 xQ3 xQ4 xQ5 xQ6 xQ7 xQ8 xQ9 xQ10 yQ0 yQ1 yQ2 yQ3 yQ4 yQ5 yQ6 yQ7 yQ8 yQ9 yQ10 pQ0 sQ uQ0 uQ1 uQ2 uQ3 uQ4 => k hQ xQ0 xQ1 xQ2 xQ3 xQ4 xQ5 xQ6 xQ7 xQ8 xQ9 xQ10 yQ0 yQ1 yQ2 yQ3 yQ4 yQ5 yQ6 yQ7 yQ8 yQ9 yQ10 pQ0 (((Sm.refl [m, m + 1, m + 2, m + 3, m + 4] _).tr s121 (fun _ q => q) (by simp)).tr sQ (fun _ q => q) (fun _ q => q)) uQ0 uQ1 uQ2 uQ3 uQ4)
        · refine g_iconst (v := iZ (1)) 7 dX2_harmOf_6 rfl rfl ?_
          refine g_iret rfl dX2_harmOf_7 ?_
          refine rI ?_
          refine g_putC (fs1 := [.ref (m + 1), .ref (m + 2), .int (iZ a), .int (iZ x), .int (iZ p), .int (iZ en), .int (iZ dn), .int (iZ tk), .int (iZ 1)]) 47 dX2_goThrough_44 fpX2_44_X2 F0 (nle rfl) (vI _) rfl rfl (fun h129 s130 f131 => ?_)
          refine g_aload_n 48 dX2_goThrough_47 rfl rfl ?_
          refine g_get 51 dX2_goThrough_48 faX2_44_X2 f131 rfl rfl ?_
          refine g_ifZ_ne 63 54 dX2_goThrough_51 rfl rfl (by decide) (fun _ => ?_) (fun q => absurd q (by decide))
          refine g_iconst (v := iZ (0)) 64 dX2_goThrough_63 rfl rfl ?_
          refine g_istore_n (L1 := [some (.ref m), none, some (.ref t), some (.int (iZ 0)), some (.int (iZ j)), some (.int (iZ (mm p.toNat)))]) 65 dX2_goThrough_64 (by decide) rfl rfl rfl ?_
          refine g_aload_n 66 dX2_goThrough_65 rfl rfl ?_
          refine g_get 69 dX2_goThrough_66 faX2_44_X2 f131 rfl rfl ?_
          refine g_ifZ_ne 89 72 dX2_goThrough_69 rfl rfl (by decide) (fun _ => ?_) (fun q => absurd q (by decide))
          refine g_iincZ [some (.ref m), none, some (.ref t), some (.int (iZ 0)), some (.int (iZ (j + 1))), some (.int (iZ (mm p.toNat)))] 92 dX2_goThrough_89 rfl (by omega) (by decide) rfl rfl rfl ?_
          refine g_goto 10 dX2_goThrough_92 rfl ?_
          refine Go.fgt 5 ?_
          have f132 := (s130.get (by simp <;> omega) F1)
          have f133 := (s130.get (by simp <;> omega) F2)
          have f134 := (s130.get (by simp <;> omega) F3)
          have f135 := (s130.get (by simp <;> omega) F4)
          have f136 := (s130.get (by simp <;> omega) F5)
          have f137 := (s130.get (by simp <;> omega) F6)
          exact ih _ (by omega) _ (a) (x) (p) (en) (dn) (tk) (1) (on) (mm) (of) (og) (0) (j + 1) rfl (by omega) (by omega) (by omega) ren (by omega) (by omega) (by omega) (by omega) omm oof oog f131 f132 f133 f134 f135 f136 f137 (Or.inl rfl) (by omega) (gtI_harm (by decide) hg.2 (Or.inl (Or.inl (by omega)))) (fun hQ xQ0 xQ1 xQ2 xQ3 xQ4 xQ5 xQ6 xQ7 xQ8 xQ9 xQ10 yQ0 yQ1 yQ2 yQ3 yQ4 yQ5 yQ6 yQ7 yQ8 yQ9 yQ10 pQ0 sQ uQ0 uQ1 uQ2 uQ3 uQ4 => k hQ xQ0 xQ1 xQ2 xQ3 xQ4 xQ5 xQ6 xQ7 xQ8 xQ9 xQ10 yQ0 yQ1 yQ2 yQ3 yQ4 yQ5 yQ6 yQ7 yQ8 yQ9 yQ10 pQ0 (((Sm.refl [m, m + 1, m + 2, m + 3, m + 4] _).tr s130 (fun _ q => q) (by simp)).tr sQ (fun _ q => q) (fun _ q => q)) uQ0 uQ1 uQ2 uQ3 uQ4)
set_option maxRecDepth 100000 in
theorem c_go {l : Launch} {h : MH} {Q : Option Value → MH → Prop} {m t c M : Nat} {a x p en dn tk hm on tn n : Int} {mm of og tf f g : Nat → Int} (F0 : h[m]? = some (.inr (2, [.ref (m + 1), .ref (m + 2), .int (iZ a), .int (iZ x), .int (iZ p), .int (iZ en), .int (iZ dn), .int (iZ tk), .int (iZ hm)]))) (F1 : h[m + 1]? = some (.inl (0, 256, .inl (zA mm)))) (F2 : h[m + 2]? = some (.inr (0, [.int (iZ 256), .ref (m + 3), .ref (m + 4), .int (iZ on)]))) (F3 : h[m + 3]? = some (.inl (0, 256, .inl (zA of)))) (F4 : h[m + 4]? = some (.inl (0, 256, .inl (zA og)))) (F5 : h[c]? = some (.inr (0, [.int (iZ ((M : Int))), .ref (c + 1), .ref (c + 2), .int (iZ n)]))) (F6 : h[c + 1]? = some (.inl (0, M, .inl (zA f)))) (F7 : h[c + 2]? = some (.inl (0, M, .inl (zA g)))) (F8 : h[t]? = some (.inr (5, [.ref (t + 1), .int (iZ tn)]))) (F9 : h[t + 1]? = some (.inl (0, 200, .inl (zA tf)))) (omm : oki (0) (255) mm) (oof : oki (0) (255) of) (oog : oki (0) (300) og) (of1 : oki (0) (255) f) (og1 : oki (0) (300) g) (otf : oki (0) (255) tf) (ra : (0 ≤ a ∧ a ≤ 255)) (rx : (0 ≤ x ∧ x ≤ 255)) (rp : (0 ≤ p ∧ p ≤ 255)) (ren : (en = 0 ∨ en = 1)) (rdn : (0 ≤ dn ∧ dn ≤ 5000)) (rtk : (0 ≤ tk ∧ tk ≤ 200)) (rhm : (0 ≤ hm ∧ hm ≤ 3)) (ron : (0 ≤ on ∧ on ≤ 256)) (rn : (0 ≤ n ∧ n ≤ 256)) (rtn : (0 ≤ tn ∧ tn ≤ 200)) (hM : M ≤ 256) (hnM : n ≤ M) (hc1 : c ≠ m + 1) (hc2 : c + 1 ≠ m + 1) (hc3 : c + 2 ≠ m + 1) (ht : m + 4 < t) (k : ∀ (h1 : MH) (a_1 x_1 p_1 en_1 dn_1 tk_1 hm_1 on_1 : Int) (mm_1 : Nat → Int) (of_1 : Nat → Int) (og_1 : Nat → Int), (0 ≤ a_1 ∧ a_1 ≤ 255) → (0 ≤ x_1 ∧ x_1 ≤ 255) → (0 ≤ p_1 ∧ p_1 ≤ 255) → (en_1 = 0 ∨ en_1 = 1) → (0 ≤ dn_1 ∧ dn_1 ≤ 5000) → (0 ≤ tk_1 ∧ tk_1 ≤ 200) → (0 ≤ hm_1 ∧ hm_1 ≤ 3) → (0 ≤ on_1 ∧ on_1 ≤ 256) → oki (0) (255) mm_1 → oki (0) (255) of_1 → oki (0) (300) og_1 → (goR (mrun tn (fun j => tf j.toNat) n f of og) hm_1 a_1 x_1 p_1 en_1 dn_1 tk_1 on_1 mm_1 of_1 og_1) → Sm [m, m + 1, m + 2, m + 3, m + 4] h h1 → h1[m]? = some (.inr (2, [.ref (m + 1), .ref (m + 2), .int (iZ a_1), .int (iZ x_1), .int (iZ p_1), .int (iZ en_1), .int (iZ dn_1), .int (iZ tk_1), .int (iZ hm_1)])) → h1[m + 1]? = some (.inl (0, 256, .inl (zA mm_1))) → h1[m + 2]? = some (.inr (0, [.int (iZ 256), .ref (m + 3), .ref (m + 4), .int (iZ on_1)])) → h1[m + 3]? = some (.inl (0, 256, .inl (zA of_1))) → h1[m + 4]? = some (.inl (0, 256, .inl (zA og_1))) → Q none h1) : Go l mX2_goThrough 0 [some (.ref m), some (.ref c), some (.ref t), none, none, none] [] h Q := by
  refine g_aload_n 1 dX2_goThrough_0 rfl rfl ?_
  refine g_aload_n 2 dX2_goThrough_1 rfl rfl ?_
  refine g_callV (z := mX2_load) (As := [.ref c]) 5 dX2_goThrough_2 mwX2_load ⟨by decide, by decide⟩ rfl wlX2_54 wiX2_load wsX2_load F0 rfl rfl rfl (nle rfl) (nle rfl) rfl ?_
  refine c_load (M := M) F0 F1 F2 F5 F6 F7 omm of1 og1 (by omega) (by omega) (by omega) ren (by omega) (by omega) (by omega) (by omega) (by omega) (by omega) (by omega) (by omega) (by omega) (by omega) (fun h1 z3 z4 z5 z6 z7 z8 z9 z11 g10 rz3 rz4 rz5 rz6 rz7 rz8 rz9 rz11 og10 p12 p13 s2 f14 f15 f16 => ?_)
  refine rV ?_
  refine g_iconst (v := iZ (1)) 6 dX2_goThrough_5 rfl rfl ?_
  refine g_istore_n (L1 := [some (.ref m), some (.ref c), some (.ref t), some (.int (iZ 1)), none, none]) 7 dX2_goThrough_6 (by decide) rfl rfl rfl ?_
  refine g_iconst (v := iZ (0)) 8 dX2_goThrough_7 rfl rfl ?_
  refine g_istore (L1 := [some (.ref m), some (.ref c), some (.ref t), some (.int (iZ 1)), some (.int (iZ 0)), none]) 10 dX2_goThrough_8 (by decide) rfl rfl rfl ?_
  refine Go.fgt 1 ?_
  obtain ⟨d1, d2, d3, d4, d5, d6, d7, d8⟩ := p12
  subst d1
  subst d2
  subst d3
  subst d4
  subst d5
  subst d6
  subst d7
  subst d8
  subst p13
  have f17 := (s2.get (by simp <;> omega) F3)
  have f18 := (s2.get (by simp <;> omega) F4)
  have f19 := (s2.get (by simp <;> omega) F8)
  have f20 := (s2.get (by simp <;> omega) F9)
  exact c_go2_l otf rtn ht _ _ 0 0 0 0 0 0 0 0 (ldm n f) of og 1 0 rfl (by omega) (by omega) (by omega) (Or.inl rfl) (by omega) (by omega) (by omega) (by omega) (ldm_ok (fun q hq => of1 q)) oof oog (f14) (f15) (f16) (f17) (f18) (f19) (f20) (Or.inr rfl) (by omega) (Or.inl ⟨rfl, rfl, rfl⟩) (fun hQ xQ0 xQ1 xQ2 xQ3 xQ4 xQ5 xQ6 xQ7 xQ8 xQ9 xQ10 yQ0 yQ1 yQ2 yQ3 yQ4 yQ5 yQ6 yQ7 yQ8 yQ9 yQ10 pQ0 sQ uQ0 uQ1 uQ2 uQ3 uQ4 => k hQ xQ0 xQ1 xQ2 xQ3 xQ4 xQ5 xQ6 xQ7 xQ8 xQ9 xQ10 yQ0 yQ1 yQ2 yQ3 yQ4 yQ5 yQ6 yQ7 yQ8 yQ9 yQ10 pQ0 (((Sm.refl [m, m + 1, m + 2, m + 3, m + 4] _).tr s2 (fun _ q => q) (by simp)).tr sQ (fun _ q => q) (fun _ q => q)) uQ0 uQ1 uQ2 uQ3 uQ4)
set_option maxRecDepth 100000 in
theorem c_blds {l : Launch} {h : MH} {Q : Option Value → MH → Prop} {m t c M : Nat} {a x p en dn tk hm on tn n : Int} {mm of og tf f g : Nat → Int} (F0 : h[m]? = some (.inr (2, [.ref (m + 1), .ref (m + 2), .int (iZ a), .int (iZ x), .int (iZ p), .int (iZ en), .int (iZ dn), .int (iZ tk), .int (iZ hm)]))) (F1 : h[m + 1]? = some (.inl (0, 256, .inl (zA mm)))) (F2 : h[m + 2]? = some (.inr (0, [.int (iZ 256), .ref (m + 3), .ref (m + 4), .int (iZ on)]))) (F3 : h[m + 3]? = some (.inl (0, 256, .inl (zA of)))) (F4 : h[m + 4]? = some (.inl (0, 256, .inl (zA og)))) (F5 : h[c]? = some (.inr (0, [.int (iZ ((M : Int))), .ref (c + 1), .ref (c + 2), .int (iZ n)]))) (F6 : h[c + 1]? = some (.inl (0, M, .inl (zA f)))) (F7 : h[c + 2]? = some (.inl (0, M, .inl (zA g)))) (F8 : h[t]? = some (.inr (5, [.ref (t + 1), .int (iZ tn)]))) (F9 : h[t + 1]? = some (.inl (0, 200, .inl (zA tf)))) (omm : oki (0) (255) mm) (oof : oki (0) (255) of) (oog : oki (0) (300) og) (of1 : oki (0) (255) f) (og1 : oki (0) (300) g) (otf : oki (0) (255) tf) (ra : (0 ≤ a ∧ a ≤ 255)) (rx : (0 ≤ x ∧ x ≤ 255)) (rp : (0 ≤ p ∧ p ≤ 255)) (ren : (en = 0 ∨ en = 1)) (rdn : (0 ≤ dn ∧ dn ≤ 5000)) (rtk : (0 ≤ tk ∧ tk ≤ 200)) (rhm : (0 ≤ hm ∧ hm ≤ 3)) (ron : (0 ≤ on ∧ on ≤ 256)) (rn : (0 ≤ n ∧ n ≤ 256)) (rtn : (0 ≤ tn ∧ tn ≤ 200)) (hM : M ≤ 256) (hnM : n ≤ M) (hc1 : c ≠ m + 1) (hc2 : c + 1 ≠ m + 1) (hc3 : c + 2 ≠ m + 1) (ht : m + 4 < t) (k : ∀ (h1 : MH) (a_1 x_1 p_1 en_1 dn_1 tk_1 hm_1 on_1 : Int) (mm_1 : Nat → Int) (of_1 : Nat → Int) (og_1 : Nat → Int) (r : Int), (0 ≤ a_1 ∧ a_1 ≤ 255) → (0 ≤ x_1 ∧ x_1 ≤ 255) → (0 ≤ p_1 ∧ p_1 ≤ 255) → (en_1 = 0 ∨ en_1 = 1) → (0 ≤ dn_1 ∧ dn_1 ≤ 5000) → (0 ≤ tk_1 ∧ tk_1 ≤ 200) → (0 ≤ hm_1 ∧ hm_1 ≤ 3) → (0 ≤ on_1 ∧ on_1 ≤ 256) → oki (0) (255) mm_1 → oki (0) (255) of_1 → oki (0) (300) og_1 → ((r = 1 ∧ hm_1 = 0 ∧ 0 < on_1) ∨ (r = 0 ∧ ¬ (hm_1 = 0 ∧ 0 < on_1))) → (goR (mrun tn (fun j => tf j.toNat) n f of og) hm_1 a_1 x_1 p_1 en_1 dn_1 tk_1 on_1 mm_1 of_1 og_1) → Sm [m, m + 1, m + 2, m + 3, m + 4] h h1 → h1[m]? = some (.inr (2, [.ref (m + 1), .ref (m + 2), .int (iZ a_1), .int (iZ x_1), .int (iZ p_1), .int (iZ en_1), .int (iZ dn_1), .int (iZ tk_1), .int (iZ hm_1)])) → h1[m + 1]? = some (.inl (0, 256, .inl (zA mm_1))) → h1[m + 2]? = some (.inr (0, [.int (iZ 256), .ref (m + 3), .ref (m + 4), .int (iZ on_1)])) → h1[m + 3]? = some (.inl (0, 256, .inl (zA of_1))) → h1[m + 4]? = some (.inl (0, 256, .inl (zA og_1))) → Q (some (.int (iZ r))) h1) : Go l mX2_builds 0 [some (.ref m), some (.ref c), some (.ref t)] [] h Q := by
  refine g_aload_n 1 dX2_builds_0 rfl rfl ?_
  refine g_aload_n 2 dX2_builds_1 rfl rfl ?_
  refine g_aload_n 3 dX2_builds_2 rfl rfl ?_
  refine g_callV (z := mX2_goThrough) (As := [.ref c, .ref t]) 6 dX2_builds_3 mwX2_goThrough ⟨by decide, by decide⟩ rfl wlX2_47 wiX2_goThrough wsX2_goThrough F0 rfl rfl rfl (nle rfl) (nle rfl) rfl ?_
  refine c_go (M := M) F0 F1 F2 F3 F4 F5 F6 F7 F8 F9 omm oof oog of1 og1 otf (by omega) (by omega) (by omega) ren (by omega) (by omega) (by omega) (by omega) (by omega) (by omega) (by omega) (by omega) (by omega) (by omega) (by omega) (by omega) (fun h1 z3 z4 z5 z6 z7 z8 z9 z11 g10 g12 g13 rz3 rz4 rz5 rz6 rz7 rz8 rz9 rz11 og10 og12 og13 p14 s2 f15 f16 f17 f18 f19 => ?_)
  refine rV ?_
  refine g_aload_n 7 dX2_builds_6 rfl rfl ?_
  refine g_get 10 dX2_builds_7 faX2_44_X2 f15 rfl rfl ?_
  refine g_ifZ_ne 27 13 dX2_builds_10 rfl rfl (by omega) (fun c20 => ?_) (fun c20 => ?_)
  · refine g_iconst (v := iZ (0)) 28 dX2_builds_27 rfl rfl ?_
    refine g_zret rfl z01_0 dX2_builds_28 ?_
    exact k _ (z3) (z4) (z5) (z6) (z7) (z8) (z9) (z11) (g10) (g12) (g13) (0) (by omega) (by omega) (by omega) rz6 (by omega) (by omega) (by omega) (by omega) og10 og12 og13 (by omega) p14 ((Sm.refl [m, m + 1, m + 2, m + 3, m + 4] _).tr s2 (fun _ q => q) (by simp)) f15 f16 f17 f18 f19
  · refine g_aload_n 14 dX2_builds_13 rfl rfl ?_
    refine g_get 17 dX2_builds_14 faX2_20_X2 f15 rfl rfl ?_
    refine g_get 20 dX2_builds_17 faX2_51_X0 f17 rfl rfl ?_
    refine g_ifZ_le 27 23 dX2_builds_20 rfl rfl (by omega) (fun c21 => ?_) (fun c21 => ?_)
    · refine g_iconst (v := iZ (0)) 28 dX2_builds_27 rfl rfl ?_
      refine g_zret rfl z01_0 dX2_builds_28 ?_
      exact k _ (z3) (z4) (z5) (z6) (z7) (z8) (z9) (z11) (g10) (g12) (g13) (0) (by omega) (by omega) (by omega) rz6 (by omega) (by omega) (by omega) (by omega) og10 og12 og13 (by omega) p14 ((Sm.refl [m, m + 1, m + 2, m + 3, m + 4] _).tr s2 (fun _ q => q) (by simp)) f15 f16 f17 f18 f19
    · refine g_iconst (v := iZ (1)) 24 dX2_builds_23 rfl rfl ?_
      refine g_goto 28 dX2_builds_24 rfl ?_
      refine g_zret rfl z01_1 dX2_builds_28 ?_
      exact k _ (z3) (z4) (z5) (z6) (z7) (z8) (z9) (z11) (g10) (g12) (g13) (1) (by omega) (by omega) (by omega) rz6 (by omega) (by omega) (by omega) (by omega) og10 og12 og13 (by omega) p14 ((Sm.refl [m, m + 1, m + 2, m + 3, m + 4] _).tr s2 (fun _ q => q) (by simp)) f15 f16 f17 f18 f19

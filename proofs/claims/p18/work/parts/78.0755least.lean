set_option maxRecDepth 100000 in
theorem c_least_l {l : Launch} {h : MH} {Q : Option Value → MH → Prop} {tr : Int64} {ty tx : Nat → Int32} {w : Nat → Int} {B : Nat → Nat → Int} {tc : Nat} {V Bf Lf : Nat → Nat → Int} {xn : Nat → Int} {xf : Nat → Nat → Int} {e sb : Int} (H : R9B h tr ty tx w B) (hD : DQ tc V Bf Lf xn xf tx w B) (k : Q (some (.int (lsF V (iZ e &&& (iZ sb ^^^ iZ (-1))) tc))) h) : ∀ (m0 : Nat) (b : Int32) (t : Int), (12 - t).toNat = m0 → 0 ≤ t ∧ t ≤ w 5 → b = lsF V (iZ e &&& (iZ sb ^^^ iZ (-1))) t.toNat → Go l mX9_least 28 [some (.ref 50), some (.int (iZ e)), some (.int (iZ sb)), some (.int b), some (.int (iZ t)), none] [] h Q := by
  intro m0
  induction m0 using Nat.strongRecOn with
  | ind m0 ih =>
    intro b t hmz ht hb
    have n0 := H.2.2.1.2.1
    refine g_iload 30 dX9_least_28 rfl rfl ?_
    refine g_aload_n 31 dX9_least_30 rfl rfl ?_
    obtain ⟨F50_1, ⟨F51_1, F52_1, F53_1, F54_1, F55_1, F56_1, F57_1, F58_1, F59_1, F60_1, F61_1, F62_1, F63_1, F64_1, F65_1, F66_1, F67_1, F68_1, F69_1, F70_1, kty_1, ktx_1⟩, ⟨r2_1, r5_1, r13_1, r14_1, r15_1, r16_1, r17_1, r18_1, r19_1, r20_1, r25_1, r26_1, r27_1, r28_1, r29_1, r30_1, r31_1, r35_1⟩, ⟨o53_1, o54_1, o55_1, o56_1, o57_1, o58_1, o59_1, o60_1, o61_1, o62_1, o63_1, o64_1, o65_1, o66_1, o67_1, o68_1, o69_1, o70_1⟩, hT_1⟩ := id H
    refine g_get 34 dX9_least_31 faX9_85_X9 F50_1 rfl rfl ?_
    refine g_icZ_ge 112 37 dX9_least_34 rfl rfl (by omega) (by omega) (fun c2 => ?_) (fun c2 => ?_)
    · refine g_iload_n 113 dX9_least_112 rfl rfl ?_
      refine g_iret rfl dX9_least_113 ?_
      have e9 : t.toNat = tc := by have q := hD.1.1; omega
      rw [e9] at hb
      subst hb
      exact k
    · refine g_iload_n 38 dX9_least_37 rfl rfl ?_
      refine g_iload_n 39 dX9_least_38 rfl rfl ?_
      refine g_iconst (v := iZ (-1)) 40 dX9_least_39 rfl rfl ?_
      refine g_ixor 41 dX9_least_40 rfl ?_
      refine g_iand 42 dX9_least_41 rfl ?_
      refine g_iload 44 dX9_least_42 rfl rfl ?_
      refine g_ishr 45 dX9_least_44 rfl ?_
      refine g_iconst (v := iZ (1)) 46 dX9_least_45 rfl rfl ?_
      refine g_iand 47 dX9_least_46 rfl ?_
      refine Go.zof ?_
      refine g_iconst (v := iZ (1)) 48 dX9_least_47 rfl rfl ?_
      refine g_icZ_ne 55 51 dX9_least_48 rfl rfl (rg_toInt _) (by decide) (fun c3 => ?_) (fun c3 => ?_)
      · refine g_iconst (v := iZ (0)) 56 dX9_least_55 rfl rfl ?_
        refine g_istore (L1 := [some (.ref 50), some (.int (iZ e)), some (.int (iZ sb)), some (.int b), some (.int (iZ t)), some (.int (iZ 0))]) 58 dX9_least_56 (by decide) rfl rfl rfl ?_
        refine g_iload_n 59 dX9_least_58 rfl rfl ?_
        refine g_iload 61 dX9_least_59 rfl rfl ?_
        refine g_ifZ_eq 103 64 dX9_least_61 rfl rfl (by decide) (fun _ => ?_) (fun q => absurd q (by decide))
        refine g_iconst (v := iZ (0)) 104 dX9_least_103 rfl rfl ?_
        refine g_ior 105 dX9_least_104 rfl ?_
        refine Go.eqI (b) (or0r _) ?_
        refine g_istore_n (L1 := [some (.ref 50), some (.int (iZ e)), some (.int (iZ sb)), some (.int b), some (.int (iZ t)), some (.int (iZ 0))]) 106 dX9_least_105 (by decide) rfl rfl rfl ?_
        refine g_iincZ [some (.ref 50), some (.int (iZ e)), some (.int (iZ sb)), some (.int b), some (.int (iZ (t + 1))), some (.int (iZ 0))] 109 dX9_least_106 rfl (by omega) (by decide) rfl rfl rfl ?_
        refine g_goto 28 dX9_least_109 rfl ?_
        refine Go.fgt 5 ?_
        exact ih _ (by omega) b (t + 1) rfl (by omega) (lsF_n (by omega) hb (fun q => c3 q.1))
      · refine g_iconst (v := iZ (1)) 52 dX9_least_51 rfl rfl ?_
        refine g_goto 56 dX9_least_52 rfl ?_
        refine g_istore (L1 := [some (.ref 50), some (.int (iZ e)), some (.int (iZ sb)), some (.int b), some (.int (iZ t)), some (.int (iZ 1))]) 58 dX9_least_56 (by decide) rfl rfl rfl ?_
        refine g_iload_n 59 dX9_least_58 rfl rfl ?_
        refine g_iload 61 dX9_least_59 rfl rfl ?_
        refine g_ifZ_eq 103 64 dX9_least_61 rfl rfl (by decide) (fun q => absurd q (by decide)) (fun _ => ?_)
        refine g_aload_n 65 dX9_least_64 rfl rfl ?_
        refine g_get 68 dX9_least_65 faX9_29_X9 F50_1 rfl rfl ?_
        refine g_aload_n 69 dX9_least_68 rfl rfl ?_
        refine g_iload 71 dX9_least_69 rfl rfl ?_
        refine g_callV (z := mX9_last) (As := [.int (iZ t)]) 74 dX9_least_71 mwX9_last ⟨by decide, by decide⟩ rfl wlX9_229 wiX9_last wsX9_last F50_1 rfl rfl rfl (nle rfl) (nle rfl) rfl ?_
        refine c_last H (by omega) hD (by omega) (fun z4 rz4  => ?_)
        refine rI ?_
        refine g_ialdZ (v := iZ ((B 57) z4.toNat)) 75 dX9_least_74 F57_1 (by omega) (by omega) (by decide) rfl rfl ?_
        refine g_ifZ_ne 103 78 dX9_least_75 rfl rfl (o57_1 _) (fun c5 => ?_) (fun c5 => ?_)
        · refine g_iconst (v := iZ (0)) 104 dX9_least_103 rfl rfl ?_
          refine g_ior 105 dX9_least_104 rfl ?_
          refine Go.eqI (b) (or0r _) ?_
          refine g_istore_n (L1 := [some (.ref 50), some (.int (iZ e)), some (.int (iZ sb)), some (.int b), some (.int (iZ t)), some (.int (iZ 1))]) 106 dX9_least_105 (by decide) rfl rfl rfl ?_
          refine g_iincZ [some (.ref 50), some (.int (iZ e)), some (.int (iZ sb)), some (.int b), some (.int (iZ (t + 1))), some (.int (iZ 1))] 109 dX9_least_106 rfl (by omega) (by decide) rfl rfl rfl ?_
          refine g_goto 28 dX9_least_109 rfl ?_
          refine Go.fgt 5 ?_
          exact ih _ (by omega) b (t + 1) rfl (by omega) (lsF_n (by omega) hb (fun q => by
        have y1 := q.2.1
        have y2 := q.2.2
        rw [← rz4.1] at y1 y2
        have v1 := hD.v (t := z4) (by omega) (by omega)
        omega))
        · refine g_aload_n 79 dX9_least_78 rfl rfl ?_
          refine g_get 82 dX9_least_79 faX9_38_X9 F50_1 rfl rfl ?_
          refine g_aload_n 83 dX9_least_82 rfl rfl ?_
          refine g_iload 85 dX9_least_83 rfl rfl ?_
          refine g_callV (z := mX9_last) (As := [.int (iZ t)]) 88 dX9_least_85 mwX9_last ⟨by decide, by decide⟩ rfl wlX9_229 wiX9_last wsX9_last F50_1 rfl rfl rfl (nle rfl) (nle rfl) rfl ?_
          refine c_last H (by omega) hD (by omega) (fun z6 rz6  => ?_)
          refine rI ?_
          refine g_ialdZ (v := iZ ((B 60) z6.toNat)) 89 dX9_least_88 F60_1 (by omega) (by omega) (by decide) rfl rfl ?_
          refine g_ifZ_ne 103 92 dX9_least_89 rfl rfl (o60_1 _) (fun c7 => ?_) (fun c7 => ?_)
          · refine g_iconst (v := iZ (0)) 104 dX9_least_103 rfl rfl ?_
            refine g_ior 105 dX9_least_104 rfl ?_
            refine Go.eqI (b) (or0r _) ?_
            refine g_istore_n (L1 := [some (.ref 50), some (.int (iZ e)), some (.int (iZ sb)), some (.int b), some (.int (iZ t)), some (.int (iZ 1))]) 106 dX9_least_105 (by decide) rfl rfl rfl ?_
            refine g_iincZ [some (.ref 50), some (.int (iZ e)), some (.int (iZ sb)), some (.int b), some (.int (iZ (t + 1))), some (.int (iZ 1))] 109 dX9_least_106 rfl (by omega) (by decide) rfl rfl rfl ?_
            refine g_goto 28 dX9_least_109 rfl ?_
            refine Go.fgt 5 ?_
            exact ih _ (by omega) b (t + 1) rfl (by omega) (lsF_n (by omega) hb (fun q => by
        have y1 := q.2.1
        have y2 := q.2.2
        rw [← rz6.1] at y1 y2
        have v1 := hD.v (t := z6) (by omega) (by omega)
        omega))
          · refine g_iconst (v := iZ (1)) 93 dX9_least_92 rfl rfl ?_
            refine g_aload_n 94 dX9_least_93 rfl rfl ?_
            refine g_iload 96 dX9_least_94 rfl rfl ?_
            refine g_callV (z := mX9_last) (As := [.int (iZ t)]) 99 dX9_least_96 mwX9_last ⟨by decide, by decide⟩ rfl wlX9_229 wiX9_last wsX9_last F50_1 rfl rfl rfl (nle rfl) (nle rfl) rfl ?_
            refine c_last H (by omega) hD (by omega) (fun z8 rz8  => ?_)
            refine rI ?_
            refine g_ishl 100 dX9_least_99 rfl ?_
            refine g_goto 104 dX9_least_100 rfl ?_
            refine g_ior 105 dX9_least_104 rfl ?_
            refine g_istore_n (L1 := [some (.ref 50), some (.int (iZ e)), some (.int (iZ sb)), some (.int (b ||| (iZ (1) <<< (iZ (z8) &&& 31)))), some (.int (iZ t)), some (.int (iZ 1))]) 106 dX9_least_105 (by decide) rfl rfl rfl ?_
            refine g_iincZ [some (.ref 50), some (.int (iZ e)), some (.int (iZ sb)), some (.int (b ||| (iZ (1) <<< (iZ (z8) &&& 31)))), some (.int (iZ (t + 1))), some (.int (iZ 1))] 109 dX9_least_106 rfl (by omega) (by decide) rfl rfl rfl ?_
            refine g_goto 28 dX9_least_109 rfl ?_
            refine Go.fgt 5 ?_
            have q13 : z4 = z8 := rz4.1.trans rz8.1.symm
            have q23 : z6 = z8 := rz6.1.trans rz8.1.symm
            have v3 := hD.v (t := z8) (by omega) (by omega)
            have v1 := hD.v (t := z4) (by omega) (by omega)
            have v2 := hD.v (t := z6) (by omega) (by omega)
            rw [q13] at v1
            rw [q23] at v2
            have w1 := c5
            rw [q13] at w1
            have w2 := c7
            rw [q23] at w2
            exact ih _ (by omega) _ (t + 1) rfl (by omega) (lsF_y (by omega) hb rz8.1 c3 (by omega) (by omega))
set_option maxRecDepth 100000 in
theorem c_least {l : Launch} {h : MH} {Q : Option Value → MH → Prop} {tr : Int64} {ty tx : Nat → Int32} {w : Nat → Int} {B : Nat → Nat → Int} {tc : Nat} {V Bf Lf : Nat → Nat → Int} {xn : Nat → Int} {xf : Nat → Nat → Int} {e : Int} (H : R9B h tr ty tx w B) (hD : DQ tc V Bf Lf xn xf tx w B) (re : rg e) (k : ∀ (h1 : MH) (w1 : Nat → Int) (B1 : Nat → Nat → Int) (r : Int32), lsP tc V (stT xn (XF xf) V Bf tc) e r → R9B h1 tr ty tx w1 B1 → AgB w B w1 B1 → Sm [50, 54, 55, 56, 61, 62, 63, 64] h h1 → Q (some (.int r)) h1) : Go l mX9_least 0 [some (.ref 50), some (.int (iZ e)), none, none, none, none] [] h Q := by
  have n0 := H.2.2.1.2.1
  have pw := pow16 (w 5).toNat (by omega)
  have pw2 := pw_pos (w 5).toNat
  have etc : (w 5).toNat = tc := hD.1.n
  refine g_iload_n 1 dX9_least_0 rfl rfl ?_
  refine g_iconst (v := iZ (0)) 2 dX9_least_1 rfl rfl ?_
  refine g_iconst (v := iZ (1)) 3 dX9_least_2 rfl rfl ?_
  refine g_aload_n 4 dX9_least_3 rfl rfl ?_
  obtain ⟨F50_1, ⟨F51_1, F52_1, F53_1, F54_1, F55_1, F56_1, F57_1, F58_1, F59_1, F60_1, F61_1, F62_1, F63_1, F64_1, F65_1, F66_1, F67_1, F68_1, F69_1, F70_1, kty_1, ktx_1⟩, ⟨r2_1, r5_1, r13_1, r14_1, r15_1, r16_1, r17_1, r18_1, r19_1, r20_1, r25_1, r26_1, r27_1, r28_1, r29_1, r30_1, r31_1, r35_1⟩, ⟨o53_1, o54_1, o55_1, o56_1, o57_1, o58_1, o59_1, o60_1, o61_1, o62_1, o63_1, o64_1, o65_1, o66_1, o67_1, o68_1, o69_1, o70_1⟩, hT_1⟩ := id H
  refine g_get 7 dX9_least_4 faX9_85_X9 F50_1 rfl rfl ?_
  refine g_ishlZ (2 ^ (w 5).toNat) 8 dX9_least_7 (by have q := shl16 (w 5).toNat (by omega); rwa [Int.toNat_of_nonneg (by omega)] at q) rfl ?_
  refine g_iconst (v := iZ (1)) 9 dX9_least_8 rfl rfl ?_
  refine g_isubZ ((2 ^ (w 5).toNat) - 1) 10 dX9_least_9 (by omega) rfl ?_
  refine g_callS (z := mX9_in) (As := [.int (iZ e), .int (iZ 0), .int (iZ ((2 ^ (w 5).toNat) - 1))]) 13 dX9_least_10 mwX9_in ⟨by decide, by decide⟩ rfl wlX9_75 wtX9_in rfl (nle rfl) (nle rfl) rfl ?_
  refine n_in  re (by decide) (by omega) (fun z2 rz2 => ?_)
  refine rI ?_
  refine g_ifZ_ne 18 16 dX9_least_13 rfl rfl (rg01 (by omega)) (fun c3 => ?_) (fun c3 => ?_)
  · refine g_aload_n 19 dX9_least_18 rfl rfl ?_
    refine g_callV (z := mX9_stale) (As := []) 22 dX9_least_19 mwX9_stale ⟨by decide, by decide⟩ rfl wlX9_226 wiX9_stale wsX9_stale F50_1 rfl rfl rfl (nle rfl) (nle rfl) rfl ?_
    refine c_stale H hD (fun h5 w6 B7 z4 rz4  H8 a9 s10 => ?_)
    have e11 := a9.1
    have n12 := H8.2.2.1.2.1
    have D13 := hD.ag a9 H
    refine rI ?_
    refine g_istore_n (L1 := [some (.ref 50), some (.int (iZ e)), some (.int (iZ z4)), none, none, none]) 23 dX9_least_22 (by decide) rfl rfl rfl ?_
    refine g_iconst (v := iZ (0)) 24 dX9_least_23 rfl rfl ?_
    refine g_istore_n (L1 := [some (.ref 50), some (.int (iZ e)), some (.int (iZ z4)), some (.int (iZ 0)), none, none]) 25 dX9_least_24 (by decide) rfl rfl rfl ?_
    refine g_iconst (v := iZ (0)) 26 dX9_least_25 rfl rfl ?_
    refine g_istore (L1 := [some (.ref 50), some (.int (iZ e)), some (.int (iZ z4)), some (.int (iZ 0)), some (.int (iZ 0)), none]) 28 dX9_least_26 (by decide) rfl rfl rfl ?_
    refine c_least_l H8 D13 ?_ _ _ 0 rfl (by omega) rfl
    exact k _ _ _ _ ⟨fun _ => by rw [rz4], fun q => by rw [← etc] at q; omega⟩ H8 a9 ((Sm.refl [50, 54, 55, 56, 61, 62, 63, 64] _).tr s10 (fun _ q => q) (by simp))
  · refine g_iconst (v := iZ (-1)) 17 dX9_least_16 rfl rfl ?_
    refine g_iret rfl dX9_least_17 ?_
    exact k _ w B (iZ (-1)) ⟨fun q => by rw [← etc] at q; omega, fun _ => rfl⟩ H (AgB.refl _ _) (Sm.refl _ _)

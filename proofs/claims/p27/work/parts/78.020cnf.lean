set_option maxRecDepth 100000 in
theorem c_nf_l {l : Launch} {Q : Option Value → MH → Prop} {t : Nat} {tn : Int} {tf : Nat → Int} (otf : oki (0) (255) tf) (rtn : (0 ≤ tn ∧ tn ≤ 200)) (hT : 15 < t) : ∀ (m0 : Nat) (h : MH) (due la n : Int) (f : Nat → Int) (g : Nat → Int) (pl : Nat → Int) (lu : Nat → Int) (av j : Int), (200 - j).toNat = m0 → (0 ≤ due ∧ due ≤ 2) → (-9 ≤ la ∧ la ≤ 200) → (0 ≤ n ∧ n ≤ 256) → oki (0) (255) f → oki (0) (300) g → oki (-9) (255) pl → oki (-9) (25) lu → h[9]? = some (.inr (3, [.ref 10, .ref 13, .ref 14, .int (iZ due), .int (iZ la)])) → h[10]? = some (.inr (0, [.int (iZ 256), .ref 11, .ref 12, .int (iZ n)])) → h[11]? = some (.inl (0, 256, .inl (zA f))) → h[12]? = some (.inl (0, 256, .inl (zA g))) → h[13]? = some (.inl (0, 26, .inl (zA pl))) → h[14]? = some (.inl (0, 256, .inl (zA lu))) → h[t]? = some (.inr (5, [.ref (t + 1), .int (iZ tn)])) → h[t + 1]? = some (.inl (0, 200, .inl (zA tf))) → 0 ≤ av ∧ av ≤ tn → 0 ≤ j ∧ j ≤ 200 ∧ j ≤ av ∧ n ≤ av → okn pl → nmC (nmE tn (fun j => tf j.toNat)) tn (fun j => tf j.toNat) due la av n f g lu pl → (∀ (h1 : MH) (due_1 la_1 n_1 : Int) (f_1 : Nat → Int) (g_1 : Nat → Int) (pl_1 : Nat → Int) (lu_1 : Nat → Int) (r : Int), (0 ≤ due_1 ∧ due_1 ≤ 2) → (-9 ≤ la_1 ∧ la_1 ≤ 200) → (0 ≤ n_1 ∧ n_1 ≤ 256) → oki (0) (255) f_1 → oki (0) (300) g_1 → oki (-9) (255) pl_1 → oki (-9) (25) lu_1 → (r = -9 ∨ (0 ≤ r ∧ r ≤ 300)) → (nrR (namE tn (fun j => tf j.toNat)) r n_1 f_1 g_1) → Sm [9, 10, 11, 12, 13, 14] h h1 → h1[9]? = some (.inr (3, [.ref 10, .ref 13, .ref 14, .int (iZ due_1), .int (iZ la_1)])) → h1[10]? = some (.inr (0, [.int (iZ 256), .ref 11, .ref 12, .int (iZ n_1)])) → h1[11]? = some (.inl (0, 256, .inl (zA f_1))) → h1[12]? = some (.inl (0, 256, .inl (zA g_1))) → h1[13]? = some (.inl (0, 26, .inl (zA pl_1))) → h1[14]? = some (.inl (0, 256, .inl (zA lu_1))) → Q (some (.int (iZ r))) h1) → Go l mX4_faultIn 12 [some (.ref 9), some (.ref t), some (.int (iZ av)), some (.int (iZ j)), none] [] h Q := by
  intro m0
  induction m0 using Nat.strongRecOn with
  | ind m0 ih =>
    intro h due la n f g pl lu av j hmz rdue rla rn of og opl olu F0 F1 F2 F3 F4 F5 F6 F7 hav hj hok hC k
    refine g_iload_n 13 dX4_faultIn_12 rfl rfl ?_
    refine g_sipush (v := iZ (200)) 16 dX4_faultIn_13 (by decide +kernel) rfl ?_
    refine g_icZ_ge 67 19 dX4_faultIn_16 rfl rfl (by omega) (by decide) (fun c1 => ?_) (fun c1 => ?_)
    · refine g_aload_n 68 dX4_faultIn_67 rfl rfl ?_
      refine g_get 71 dX4_faultIn_68 faX4_18_X4 F0 rfl rfl ?_
      refine g_ifZ_ne 84 74 dX4_faultIn_71 rfl rfl (by omega) (fun c2 => ?_) (fun c2 => ?_)
      · refine g_aload_n 85 dX4_faultIn_84 rfl rfl ?_
        refine g_get 88 dX4_faultIn_85 faX4_34_X6 F6 rfl rfl ?_
        refine g_iret rfl dX4_faultIn_88 ?_
        exact k _ (due) (la) (n) (f) (g) (pl) (lu) (tn) (by omega) (by omega) (by omega) of og opl olu (by omega) (nr_f (C_end hC (by omega) (by omega) (by omega)) (by omega)) (Sm.refl [9, 10, 11, 12, 13, 14] _) F0 F1 F2 F3 F4 F5
      · refine g_aload_n 75 dX4_faultIn_74 rfl rfl ?_
        refine g_get 78 dX4_faultIn_75 faX4_45_X4 F0 rfl rfl ?_
        refine g_get 81 dX4_faultIn_78 faX4_49_X0 F1 rfl rfl ?_
        refine g_ifZ_ne 89 84 dX4_faultIn_81 rfl rfl (by omega) (fun c3 => ?_) (fun c3 => ?_)
        · obtain ⟨b9, l9, hJ9, hr9, ha9⟩ := hC
          have hE9 := J_end hJ9 (by omega) (by omega)
          rw [if_neg (by omega)] at hE9
          have hP9 : ppI (rsv 201 0 n b9 l9 pl) l9 0 n f g lu pl := ⟨201, b9, by omega, rfl, fun i hi => by omega, fun i _ hi => hr9.1 i hi, ha9, hr9.2.2⟩
          refine g_aload_n 90 dX4_faultIn_89 rfl rfl ?_
          refine g_callV (z := mX4_putPlaces) (As := []) 93 dX4_faultIn_90 mwX4_putPlaces ⟨by decide, by decide⟩ rfl wlX4_52 wiX4_putPlaces wsX4_putPlaces F0 rfl rfl rfl (nle rfl) (nle rfl) rfl ?_
          refine c_putp  F0 F1 F2 F3 F4 F5 of og opl olu (by omega) (by omega) (by omega) (by omega) hok hP9 (fun h4 g6 z7 og6 rz7 p8 p9 s5 f10 => ?_)
          refine rI ?_
          refine g_iret rfl dX4_faultIn_93 ?_
          have f11 := (s5.get (by decide) F0)
          have f12 := (s5.get (by decide) F1)
          have f13 := (s5.get (by decide) F3)
          have f14 := (s5.get (by decide) F4)
          have f15 := (s5.get (by decide) F5)
          exact k _ (due) (la) (n) (g6) (g) (pl) (lu) (z7) (by omega) (by omega) (by omega) og6 og opl olu (by omega) (by unfold namE; rw [hE9]; show nrR (if (-9 : Int) = -9 then ((rsv 201 0 n b9 l9 pl).1, n, (rsv 201 0 n b9 l9 pl).2, l9) else _) _ _ _ _; rw [if_pos rfl]; exact ⟨p8, fun q9 => ⟨rfl, p9 q9, ha9⟩⟩) ((Sm.refl [9, 10, 11, 12, 13, 14] _).tr s5 (fun _ q => q) (by simp)) f11 f12 f10 f13 f14 f15
        · refine g_aload_n 85 dX4_faultIn_84 rfl rfl ?_
          refine g_get 88 dX4_faultIn_85 faX4_34_X6 F6 rfl rfl ?_
          refine g_iret rfl dX4_faultIn_88 ?_
          exact k _ (due) (la) (n) (f) (g) (pl) (lu) (tn) (by omega) (by omega) (by omega) of og opl olu (by omega) (nr_f (C_end hC (by omega) (by omega) (by omega)) (by omega)) (Sm.refl [9, 10, 11, 12, 13, 14] _) F0 F1 F2 F3 F4 F5
    · refine g_iload_n 20 dX4_faultIn_19 rfl rfl ?_
      refine g_aload_n 21 dX4_faultIn_20 rfl rfl ?_
      refine g_get 24 dX4_faultIn_21 faX4_34_X6 F6 rfl rfl ?_
      refine g_icZ_ge 67 27 dX4_faultIn_24 rfl rfl (by omega) (by omega) (fun c16 => ?_) (fun c16 => ?_)
      · refine g_aload_n 68 dX4_faultIn_67 rfl rfl ?_
        refine g_get 71 dX4_faultIn_68 faX4_18_X4 F0 rfl rfl ?_
        refine g_ifZ_ne 84 74 dX4_faultIn_71 rfl rfl (by omega) (fun c17 => ?_) (fun c17 => ?_)
        · refine g_aload_n 85 dX4_faultIn_84 rfl rfl ?_
          refine g_get 88 dX4_faultIn_85 faX4_34_X6 F6 rfl rfl ?_
          refine g_iret rfl dX4_faultIn_88 ?_
          exact k _ (due) (la) (n) (f) (g) (pl) (lu) (tn) (by omega) (by omega) (by omega) of og opl olu (by omega) (nr_f (C_end hC (by omega) (by omega) (by omega)) (by omega)) (Sm.refl [9, 10, 11, 12, 13, 14] _) F0 F1 F2 F3 F4 F5
        · refine g_aload_n 75 dX4_faultIn_74 rfl rfl ?_
          refine g_get 78 dX4_faultIn_75 faX4_45_X4 F0 rfl rfl ?_
          refine g_get 81 dX4_faultIn_78 faX4_49_X0 F1 rfl rfl ?_
          refine g_ifZ_ne 89 84 dX4_faultIn_81 rfl rfl (by omega) (fun c18 => ?_) (fun c18 => ?_)
          · obtain ⟨b9, l9, hJ9, hr9, ha9⟩ := hC
            have hE9 := J_end hJ9 (by omega) (by omega)
            rw [if_neg (by omega)] at hE9
            have hP9 : ppI (rsv 201 0 n b9 l9 pl) l9 0 n f g lu pl := ⟨201, b9, by omega, rfl, fun i hi => by omega, fun i _ hi => hr9.1 i hi, ha9, hr9.2.2⟩
            refine g_aload_n 90 dX4_faultIn_89 rfl rfl ?_
            refine g_callV (z := mX4_putPlaces) (As := []) 93 dX4_faultIn_90 mwX4_putPlaces ⟨by decide, by decide⟩ rfl wlX4_52 wiX4_putPlaces wsX4_putPlaces F0 rfl rfl rfl (nle rfl) (nle rfl) rfl ?_
            refine c_putp  F0 F1 F2 F3 F4 F5 of og opl olu (by omega) (by omega) (by omega) (by omega) hok hP9 (fun h19 g21 z22 og21 rz22 p23 p24 s20 f25 => ?_)
            refine rI ?_
            refine g_iret rfl dX4_faultIn_93 ?_
            have f26 := (s20.get (by decide) F0)
            have f27 := (s20.get (by decide) F1)
            have f28 := (s20.get (by decide) F3)
            have f29 := (s20.get (by decide) F4)
            have f30 := (s20.get (by decide) F5)
            exact k _ (due) (la) (n) (g21) (g) (pl) (lu) (z22) (by omega) (by omega) (by omega) og21 og opl olu (by omega) (by unfold namE; rw [hE9]; show nrR (if (-9 : Int) = -9 then ((rsv 201 0 n b9 l9 pl).1, n, (rsv 201 0 n b9 l9 pl).2, l9) else _) _ _ _ _; rw [if_pos rfl]; exact ⟨p23, fun q9 => ⟨rfl, p24 q9, ha9⟩⟩) ((Sm.refl [9, 10, 11, 12, 13, 14] _).tr s20 (fun _ q => q) (by simp)) f26 f27 f25 f28 f29 f30
          · refine g_aload_n 85 dX4_faultIn_84 rfl rfl ?_
            refine g_get 88 dX4_faultIn_85 faX4_34_X6 F6 rfl rfl ?_
            refine g_iret rfl dX4_faultIn_88 ?_
            exact k _ (due) (la) (n) (f) (g) (pl) (lu) (tn) (by omega) (by omega) (by omega) of og opl olu (by omega) (nr_f (C_end hC (by omega) (by omega) (by omega)) (by omega)) (Sm.refl [9, 10, 11, 12, 13, 14] _) F0 F1 F2 F3 F4 F5
      · refine g_aload_n 28 dX4_faultIn_27 rfl rfl ?_
        refine g_iload_n 29 dX4_faultIn_28 rfl rfl ?_
        refine g_callS (z := mX4_tokenSigns) (As := [.ref t, .int (iZ av)]) 32 dX4_faultIn_29 mwX4_tokenSigns ⟨by decide, by decide⟩ rfl wlX4_37 wtX4_tokenSigns rfl (nle rfl) (nle rfl) rfl ?_
        refine c_tok F6 F7 otf (by omega) (by omega) (by omega) (fun z31 rz31 => ?_)
        refine rI ?_
        have zrz31 := tkS_rg (tf := (fun j => tf j.toNat)) (show av < tn by omega)
        rw [← rz31] at zrz31
        refine g_istore (L1 := [some (.ref 9), some (.ref t), some (.int (iZ av)), some (.int (iZ j)), some (.int (iZ z31))]) 34 dX4_faultIn_32 (by decide) rfl rfl rfl ?_
        refine g_iload 36 dX4_faultIn_34 rfl rfl ?_
        refine g_ifZ_eq 50 39 dX4_faultIn_36 rfl rfl (by omega) (fun c32 => ?_) (fun c32 => ?_)
        · refine g_iload_n 51 dX4_faultIn_50 rfl rfl ?_
          refine g_iret rfl dX4_faultIn_51 ?_
          exact k _ (due) (la) (n) (f) (g) (pl) (lu) (av) (by omega) (by omega) (by omega) of og opl olu (by omega) (nr_f (C_x hC (by omega) (by omega) (by rw [← rz31]; omega)) (by omega)) (Sm.refl [9, 10, 11, 12, 13, 14] _) F0 F1 F2 F3 F4 F5
        · refine g_aload_n 40 dX4_faultIn_39 rfl rfl ?_
          refine g_aload_n 41 dX4_faultIn_40 rfl rfl ?_
          refine g_iload_n 42 dX4_faultIn_41 rfl rfl ?_
          refine g_iload 44 dX4_faultIn_42 rfl rfl ?_
          refine g_callV (z := mX4_takes) (As := [.ref t, .int (iZ av), .int (iZ z31)]) 47 dX4_faultIn_44 mwX4_takes ⟨by decide, by decide⟩ rfl wlX4_41 wiX4_takes wsX4_takes F0 rfl rfl rfl (nle rfl) (nle rfl) rfl ?_
          refine Go.to [some (.ref 9), some (.ref t), some (.int (iZ av)), some (.int (iZ z31)), none] [] rfl rfl ?_
          refine g_aload_n 1 dX4_takes_0 rfl rfl ?_
          refine g_iload_n 2 dX4_takes_1 rfl rfl ?_
          refine g_callV (z := mX6_at) (As := [.int (iZ av)]) 5 dX4_takes_2 mwX6_at ⟨by decide, by decide⟩ rfl wlX4_56 wiX6_at wsX6_at F6 rfl rfl rfl (nle rfl) (nle rfl) rfl ?_
          refine Go.to [some (.ref t), some (.int (iZ av))] [] rfl rfl ?_
          refine g_iload_n 1 dX6_at_0 rfl rfl ?_
          refine g_ifZ_lt 19 4 dX6_at_1 rfl rfl (by omega) (fun q => absurd q (by omega)) (fun _ => ?_)
          refine g_iload_n 5 dX6_at_4 rfl rfl ?_
          refine g_aload_n 6 dX6_at_5 rfl rfl ?_
          refine g_get 9 dX6_at_6 faX6_15_X6 F6 rfl rfl ?_
          refine g_icZ_ge 19 12 dX6_at_9 rfl rfl (by omega) (by omega) (fun q => absurd q (by omega)) (fun _ => ?_)
          refine g_iload_n 13 dX6_at_12 rfl rfl ?_
          refine g_sipush (v := iZ (200)) 16 dX6_at_13 (by decide +kernel) rfl ?_
          refine g_icZ_lt 23 19 dX6_at_16 rfl rfl (by omega) (by decide) (fun _ => ?_) (fun q => absurd q (by omega))
          refine g_aload_n 24 dX6_at_23 rfl rfl ?_
          refine g_get 27 dX6_at_24 faX6_9_X6 F6 rfl rfl ?_
          refine g_iload_n 28 dX6_at_27 rfl rfl ?_
          have b33 := otf ((av).toNat)
          refine g_ialdZ (v := iZ (tf av.toNat)) 29 dX6_at_28 F7 (by omega) (by omega) (by decide) rfl rfl ?_
          refine g_iret rfl dX6_at_29 ?_
          refine rI ?_
          refine g_istore (L1 := [some (.ref 9), some (.ref t), some (.int (iZ av)), some (.int (iZ z31)), some (.int (iZ (tf av.toNat)))]) 7 dX4_takes_5 (by decide) rfl rfl rfl ?_
          refine g_iload 9 dX4_takes_7 rfl rfl ?_
          refine g_bipush (v := iZ (58)) 11 dX4_takes_9 (by decide +kernel) rfl ?_
          refine g_icZ_ne 20 14 dX4_takes_11 rfl rfl (by omega) (by decide) (fun c34 => ?_) (fun c34 => ?_)
          · refine g_iload 22 dX4_takes_20 rfl rfl ?_
            refine g_callS (z := mX4_isLetter) (As := [.int (iZ (tf av.toNat))]) 25 dX4_takes_22 mwX4_isLetter ⟨by decide, by decide⟩ rfl wlX4_59 wtX4_isLetter rfl (nle rfl) (nle rfl) rfl ?_
            refine Go.to [some (.int (iZ (tf av.toNat)))] [] rfl rfl ?_
            refine g_iload_n 1 dX4_isLetter_0 rfl rfl ?_
            refine g_bipush (v := iZ (65)) 3 dX4_isLetter_1 (by decide +kernel) rfl ?_
            refine g_icZ_lt 16 6 dX4_isLetter_3 rfl rfl (by omega) (by decide) (fun c35 => ?_) (fun c35 => ?_)
            · refine g_iconst (v := iZ (0)) 17 dX4_isLetter_16 rfl rfl ?_
              refine g_zret rfl z01_0 dX4_isLetter_17 ?_
              refine rI ?_
              refine g_ifZ_eq 60 28 dX4_takes_25 rfl rfl (by decide) (fun _ => ?_) (fun q => absurd q (by decide))
              refine g_iload 62 dX4_takes_60 rfl rfl ?_
              refine g_callS (z := mX4_isDigit) (As := [.int (iZ (tf av.toNat))]) 65 dX4_takes_62 mwX4_isDigit ⟨by decide, by decide⟩ rfl wlX4_67 wtX4_isDigit rfl (nle rfl) (nle rfl) rfl ?_
              refine Go.to [some (.int (iZ (tf av.toNat)))] [] rfl rfl ?_
              refine g_iload_n 1 dX4_isDigit_0 rfl rfl ?_
              refine g_bipush (v := iZ (48)) 3 dX4_isDigit_1 (by decide +kernel) rfl ?_
              refine g_icZ_lt 16 6 dX4_isDigit_3 rfl rfl (by omega) (by decide) (fun c36 => ?_) (fun c36 => ?_)
              · refine g_iconst (v := iZ (0)) 17 dX4_isDigit_16 rfl rfl ?_
                refine g_zret rfl z01_0 dX4_isDigit_17 ?_
                refine rI ?_
                refine g_ifZ_eq 82 68 dX4_takes_65 rfl rfl (by decide) (fun _ => ?_) (fun q => absurd q (by decide))
                refine g_aload_n 83 dX4_takes_82 rfl rfl ?_
                refine g_aload_n 84 dX4_takes_83 rfl rfl ?_
                refine g_iload_n 85 dX4_takes_84 rfl rfl ?_
                refine g_iload_n 86 dX4_takes_85 rfl rfl ?_
                refine g_callS (z := mX4_wordOf) (As := [.ref t, .int (iZ av), .int (iZ z31)]) 89 dX4_takes_86 mwX4_wordOf ⟨by decide, by decide⟩ rfl wlX4_89 wtX4_wordOf rfl (nle rfl) (nle rfl) rfl ?_
                have eW := tkS_n (tn := tn) (tf := (fun j => tf j.toNat)) (p := av) (by omega) (by rw [← rz31]; omega) (show ¬ (48 ≤ tf av.toNat ∧ tf av.toNat ≤ 57) by omega) (show ¬ (65 ≤ tf av.toNat ∧ tf av.toNat ≤ 90) by omega) (show tf av.toNat ≠ 58 by omega)
                refine c_word F6 F7 otf (by omega) (by omega) (by omega) (by omega) (fun z37 ez37 => ?_)
                have bz37 := wdx_rg (fun j => tf j.toNat) av z31
                rw [← ez37] at bz37
                rw [rz31] at ez37
                refine rI ?_
                refine g_iload_n 90 dX4_takes_89 rfl rfl ?_
                refine g_callV (z := mX4_takesWord) (As := [.int (iZ z37), .int (iZ av)]) 93 dX4_takes_90 mwX4_takesWord ⟨by decide, by decide⟩ rfl wlX4_92 wiX4_takesWord wsX4_takesWord F0 rfl rfl rfl (nle rfl) (nle rfl) rfl ?_
                refine Go.to [some (.ref 9), some (.int (iZ z37)), some (.int (iZ av))] [] rfl rfl ?_
                refine g_aload_n 1 dX4_takesWord_0 rfl rfl ?_
                refine g_get 4 dX4_takesWord_1 faX4_18_X4 F0 rfl rfl ?_
                refine g_ifZ_ne 13 7 dX4_takesWord_4 rfl rfl (by omega) (fun c38 => ?_) (fun c38 => ?_)
                · refine g_iconst (v := iZ (0)) 14 dX4_takesWord_13 rfl rfl ?_
                  refine g_zret rfl z01_0 dX4_takesWord_14 ?_
                  refine rI ?_
                  refine g_zret rfl z01_0 dX4_takes_93 ?_
                  refine rI ?_
                  refine g_ifZ_ne 52 50 dX4_faultIn_47 rfl rfl (by decide) (fun q => absurd q (by decide)) (fun _ => ?_)
                  refine g_iload_n 51 dX4_faultIn_50 rfl rfl ?_
                  refine g_iret rfl dX4_faultIn_51 ?_
                  exact k _ (due) (la) (n) (f) (g) (pl) (lu) (av) (by omega) (by omega) (by omega) of og opl olu (by omega) (nr_f (C_wf hC (by omega) (by omega) eW ez37 (by omega)) (by omega)) (Sm.refl [9, 10, 11, 12, 13, 14] _) F0 F1 F2 F3 F4 F5
                · refine g_iload_n 8 dX4_takesWord_7 rfl rfl ?_
                  refine g_bipush (v := iZ (-9)) 10 dX4_takesWord_8 (by decide +kernel) rfl ?_
                  refine g_icZ_ne 15 13 dX4_takesWord_10 rfl rfl (by omega) (by decide) (fun c39 => ?_) (fun c39 => ?_)
                  · refine g_iload_n 16 dX4_takesWord_15 rfl rfl ?_
                    refine g_bipush (v := iZ (16)) 18 dX4_takesWord_16 (by decide +kernel) rfl ?_
                    refine g_icZ_ne 28 21 dX4_takesWord_18 rfl rfl (by omega) (by decide) (fun c40 => ?_) (fun c40 => ?_)
                    · refine g_aload_n 29 dX4_takesWord_28 rfl rfl ?_
                      refine g_iload_n 30 dX4_takesWord_29 rfl rfl ?_
                      refine g_callS (z := mX2_hasNumber) (As := [.int (iZ z37)]) 33 dX4_takesWord_30 mwX2_hasNumber ⟨by decide, by decide⟩ rfl wlX4_98 wtX2_hasNumber rfl (nle rfl) (nle rfl) rfl ?_
                      refine Go.to [some (.int (iZ z37))] [] rfl rfl ?_
                      refine g_iload_n 1 dX2_hasNumber_0 rfl rfl ?_
                      refine g_iconst (v := iZ (3)) 2 dX2_hasNumber_1 rfl rfl ?_
                      refine g_icZ_lt 11 5 dX2_hasNumber_2 rfl rfl (by omega) (by decide) (fun c41 => ?_) (fun c41 => ?_)
                      · refine g_iload_n 12 dX2_hasNumber_11 rfl rfl ?_
                        refine g_bipush (v := iZ (11)) 14 dX2_hasNumber_12 (by decide +kernel) rfl ?_
                        refine g_icZ_lt 27 17 dX2_hasNumber_14 rfl rfl (by omega) (by decide) (fun _ => ?_) (fun q => absurd q (by omega))
                        refine g_iconst (v := iZ (0)) 28 dX2_hasNumber_27 rfl rfl ?_
                        refine g_zret rfl z01_0 dX2_hasNumber_28 ?_
                        refine rI ?_
                        refine g_ifZ_eq 40 36 dX4_takesWord_33 rfl rfl (by decide) (fun _ => ?_) (fun q => absurd q (by decide))
                        refine g_iconst (v := iZ (0)) 41 dX4_takesWord_40 rfl rfl ?_
                        refine g_putC (fs1 := [.ref 10, .ref 13, .ref 14, .int (iZ 0), .int (iZ la)]) 44 dX4_takesWord_41 fpX4_18_X4 F0 (nle rfl) (vI _) rfl rfl (fun h42 s43 f44 => ?_)
                        refine g_aload_n 45 dX4_takesWord_44 rfl rfl ?_
                        refine g_get 48 dX4_takesWord_45 faX4_45_X4 f44 rfl rfl ?_
                        refine g_iload_n 49 dX4_takesWord_48 rfl rfl ?_
                        refine g_iload_n 50 dX4_takesWord_49 rfl rfl ?_
                        have f45 := (s43.get (by decide) F1)
                        refine g_callV (z := mX0_add) (As := [.int (iZ z37), .int (iZ av)]) 53 dX4_takesWord_50 mwX0_add ⟨by decide, by decide⟩ rfl wlX4_95 wiX0_add wsX0_add f45 rfl rfl rfl (nle rfl) (nle rfl) rfl ?_
                        refine Go.to [some (.ref 10), some (.int (iZ z37)), some (.int (iZ av))] [] rfl rfl ?_
                        refine g_aload_n 1 dX0_add_0 rfl rfl ?_
                        refine g_get 4 dX0_add_1 faX0_9_X0 f45 rfl rfl ?_
                        refine g_ifZ_lt 18 7 dX0_add_4 rfl rfl (by omega) (fun q => absurd q (by omega)) (fun _ => ?_)
                        refine g_aload_n 8 dX0_add_7 rfl rfl ?_
                        refine g_get 11 dX0_add_8 faX0_9_X0 f45 rfl rfl ?_
                        refine g_aload_n 12 dX0_add_11 rfl rfl ?_
                        refine g_get 15 dX0_add_12 faX0_21_X0 f45 rfl rfl ?_
                        refine g_icZ_lt 20 18 dX0_add_15 rfl rfl (by omega) (by decide) (fun _ => ?_) (fun q => absurd q (by omega))
                        refine g_aload_n 21 dX0_add_20 rfl rfl ?_
                        refine g_get 24 dX0_add_21 faX0_24_X0 f45 rfl rfl ?_
                        refine g_aload_n 25 dX0_add_24 rfl rfl ?_
                        refine g_get 28 dX0_add_25 faX0_9_X0 f45 rfl rfl ?_
                        refine g_iload_n 29 dX0_add_28 rfl rfl ?_
                        have f46 := (s43.get (by decide) F2)
                        refine g_iastFj (n.toNat) 30 dX0_add_29 f46 (by omega) (by omega) (by decide) rfl rfl (fun h47 s48 f49 => ?_)
                        refine g_aload_n 31 dX0_add_30 rfl rfl ?_
                        have f50 := (s48.get (by decide) f45)
                        refine g_get 34 dX0_add_31 faX0_28_X0 f50 rfl rfl ?_
                        refine g_aload_n 35 dX0_add_34 rfl rfl ?_
                        refine g_get 38 dX0_add_35 faX0_9_X0 f50 rfl rfl ?_
                        refine g_iload_n 39 dX0_add_38 rfl rfl ?_
                        have f51 := (s48.get (by decide) (s43.get (by decide) F3))
                        refine g_iastFj (n.toNat) 40 dX0_add_39 f51 (by omega) (by omega) (by decide) rfl rfl (fun h52 s53 f54 => ?_)
                        refine g_aload_n 41 dX0_add_40 rfl rfl ?_
                        refine g_dup 42 dX0_add_41 rfl rfl ?_
                        have f55 := (s53.get (by decide) f50)
                        refine g_get 45 dX0_add_42 faX0_9_X0 f55 rfl rfl ?_
                        refine g_iconst (v := iZ (1)) 46 dX0_add_45 rfl rfl ?_
                        refine g_iaddZ (n + 1) 47 dX0_add_46 (by omega) rfl ?_
                        refine g_putC (fs1 := [.int (iZ 256), .ref 11, .ref 12, .int (iZ (n + 1))]) 50 dX0_add_47 fpX0_9_X0 f55 (nle rfl) (vI _) rfl rfl (fun h56 s57 f58 => ?_)
                        refine g_iconst (v := iZ (1)) 51 dX0_add_50 rfl rfl ?_
                        refine g_zret rfl z01_1 dX0_add_51 ?_
                        refine rI ?_
                        refine g_zret rfl z01_1 dX4_takesWord_53 ?_
                        refine rI ?_
                        refine g_zret rfl z01_1 dX4_takes_93 ?_
                        refine rI ?_
                        refine g_ifZ_ne 52 50 dX4_faultIn_47 rfl rfl (by decide) (fun _ => ?_) (fun q => absurd q (by decide))
                        refine g_aload_n 53 dX4_faultIn_52 rfl rfl ?_
                        refine g_iload_n 54 dX4_faultIn_53 rfl rfl ?_
                        refine g_iload 56 dX4_faultIn_54 rfl rfl ?_
                        refine g_iaddZ (av + z31) 57 dX4_faultIn_56 (by omega) rfl ?_
                        have f59 := (s57.get (by simp <;> omega) (s53.get (by simp <;> omega) (s48.get (by simp <;> omega) (s43.get (by simp <;> omega) F6))))
                        refine g_callV (z := mX6_pastGap) (As := [.int (iZ (av + z31))]) 60 dX4_faultIn_57 mwX6_pastGap ⟨by decide, by decide⟩ rfl wlX4_28 wiX6_pastGap wsX6_pastGap f59 rfl rfl rfl (nle rfl) (nle rfl) rfl ?_
                        have f60 := (s57.get (by simp <;> omega) (s53.get (by simp <;> omega) (s48.get (by simp <;> omega) (s43.get (by simp <;> omega) F7))))
                        refine c_gap  f59 f60 otf (by omega) (by omega) (by omega) (fun z61 rz61 => ?_)
                        refine rI ?_
                        obtain ⟨gz61, bz61⟩ := rz61
                        refine g_istore_n (L1 := [some (.ref 9), some (.ref t), some (.int (iZ z61)), some (.int (iZ j)), some (.int (iZ z31))]) 61 dX4_faultIn_60 (by decide) rfl rfl rfl ?_
                        refine g_iincZ [some (.ref 9), some (.ref t), some (.int (iZ z61)), some (.int (iZ (j + 1))), some (.int (iZ z31))] 64 dX4_faultIn_61 rfl (by omega) (by decide) rfl rfl rfl ?_
                        refine g_goto 12 dX4_faultIn_64 rfl ?_
                        refine Go.fgt 4 ?_
                        have f62 := (s57.get (by decide) (s53.get (by decide) (s48.get (by decide) f44)))
                        have f63 := (s57.get (by decide) (s53.get (by decide) f49))
                        have f64 := (s57.get (by decide) f54)
                        have f65 := (s57.get (by decide) (s53.get (by decide) (s48.get (by decide) (s43.get (by decide) F4))))
                        have f66 := (s57.get (by decide) (s53.get (by decide) (s48.get (by decide) (s43.get (by decide) F5))))
                        exact ih _ (by omega) _ (0) (la) (n + 1) (va_up f n.toNat z37) (va_up g n.toNat av) (pl) (lu) (z61) (j + 1) rfl (by omega) (by omega) (by omega) (oki_up of _ (by omega)) (oki_up og _ (by omega)) opl olu f62 f58 f63 f64 f65 f66 f59 f60 (by omega) (by omega) hok (by rw [gz61, show av + z31 = tkE tn (fun j => tf j.toNat) av by rw [rz31]; exact tkS_E (by rw [← rz31]; omega)]; exact (C_w hC (by omega) (by omega) (by omega) eW ez37 (by omega) (by omega)).2.2 (by omega) (by unfold hsn; omega)) (fun hQ xQ0 xQ1 xQ2 xQ3 xQ4 xQ5 xQ6 rQ yQ0 yQ1 yQ2 yQ3 yQ4 yQ5 yQ6 yQ7 pQ0 sQ uQ0 uQ1 uQ2 uQ3 uQ4 uQ5 => k hQ xQ0 xQ1 xQ2 xQ3 xQ4 xQ5 xQ6 rQ yQ0 yQ1 yQ2 yQ3 yQ4 yQ5 yQ6 yQ7 pQ0 ((((((Sm.refl [9, 10, 11, 12, 13, 14] _).tr s43 (fun _ q => q) (by simp)).tr s48 (fun _ q => q) (by simp)).tr s53 (fun _ q => q) (by simp)).tr s57 (fun _ q => q) (by simp)).tr sQ (fun _ q => q) (fun _ q => q)) uQ0 uQ1 uQ2 uQ3 uQ4 uQ5)
                      · refine g_iload_n 6 dX2_hasNumber_5 rfl rfl ?_
                        refine g_bipush (v := iZ (7)) 8 dX2_hasNumber_6 (by decide +kernel) rfl ?_
                        refine g_icZ_le 23 11 dX2_hasNumber_8 rfl rfl (by omega) (by decide) (fun c67 => ?_) (fun c67 => ?_)
                        · refine g_iconst (v := iZ (1)) 24 dX2_hasNumber_23 rfl rfl ?_
                          refine g_goto 28 dX2_hasNumber_24 rfl ?_
                          refine g_zret rfl z01_1 dX2_hasNumber_28 ?_
                          refine rI ?_
                          refine g_ifZ_eq 40 36 dX4_takesWord_33 rfl rfl (by decide) (fun q => absurd q (by decide)) (fun _ => ?_)
                          refine g_iconst (v := iZ (2)) 37 dX4_takesWord_36 rfl rfl ?_
                          refine g_goto 41 dX4_takesWord_37 rfl ?_
                          refine g_putC (fs1 := [.ref 10, .ref 13, .ref 14, .int (iZ 2), .int (iZ la)]) 44 dX4_takesWord_41 fpX4_18_X4 F0 (nle rfl) (vI _) rfl rfl (fun h68 s69 f70 => ?_)
                          refine g_aload_n 45 dX4_takesWord_44 rfl rfl ?_
                          refine g_get 48 dX4_takesWord_45 faX4_45_X4 f70 rfl rfl ?_
                          refine g_iload_n 49 dX4_takesWord_48 rfl rfl ?_
                          refine g_iload_n 50 dX4_takesWord_49 rfl rfl ?_
                          have f71 := (s69.get (by decide) F1)
                          refine g_callV (z := mX0_add) (As := [.int (iZ z37), .int (iZ av)]) 53 dX4_takesWord_50 mwX0_add ⟨by decide, by decide⟩ rfl wlX4_95 wiX0_add wsX0_add f71 rfl rfl rfl (nle rfl) (nle rfl) rfl ?_
                          refine Go.to [some (.ref 10), some (.int (iZ z37)), some (.int (iZ av))] [] rfl rfl ?_
                          refine g_aload_n 1 dX0_add_0 rfl rfl ?_
                          refine g_get 4 dX0_add_1 faX0_9_X0 f71 rfl rfl ?_
                          refine g_ifZ_lt 18 7 dX0_add_4 rfl rfl (by omega) (fun q => absurd q (by omega)) (fun _ => ?_)
                          refine g_aload_n 8 dX0_add_7 rfl rfl ?_
                          refine g_get 11 dX0_add_8 faX0_9_X0 f71 rfl rfl ?_
                          refine g_aload_n 12 dX0_add_11 rfl rfl ?_
                          refine g_get 15 dX0_add_12 faX0_21_X0 f71 rfl rfl ?_
                          refine g_icZ_lt 20 18 dX0_add_15 rfl rfl (by omega) (by decide) (fun _ => ?_) (fun q => absurd q (by omega))
                          refine g_aload_n 21 dX0_add_20 rfl rfl ?_
                          refine g_get 24 dX0_add_21 faX0_24_X0 f71 rfl rfl ?_
                          refine g_aload_n 25 dX0_add_24 rfl rfl ?_
                          refine g_get 28 dX0_add_25 faX0_9_X0 f71 rfl rfl ?_
                          refine g_iload_n 29 dX0_add_28 rfl rfl ?_
                          have f72 := (s69.get (by decide) F2)
                          refine g_iastFj (n.toNat) 30 dX0_add_29 f72 (by omega) (by omega) (by decide) rfl rfl (fun h73 s74 f75 => ?_)
                          refine g_aload_n 31 dX0_add_30 rfl rfl ?_
                          have f76 := (s74.get (by decide) f71)
                          refine g_get 34 dX0_add_31 faX0_28_X0 f76 rfl rfl ?_
                          refine g_aload_n 35 dX0_add_34 rfl rfl ?_
                          refine g_get 38 dX0_add_35 faX0_9_X0 f76 rfl rfl ?_
                          refine g_iload_n 39 dX0_add_38 rfl rfl ?_
                          have f77 := (s74.get (by decide) (s69.get (by decide) F3))
                          refine g_iastFj (n.toNat) 40 dX0_add_39 f77 (by omega) (by omega) (by decide) rfl rfl (fun h78 s79 f80 => ?_)
                          refine g_aload_n 41 dX0_add_40 rfl rfl ?_
                          refine g_dup 42 dX0_add_41 rfl rfl ?_
                          have f81 := (s79.get (by decide) f76)
                          refine g_get 45 dX0_add_42 faX0_9_X0 f81 rfl rfl ?_
                          refine g_iconst (v := iZ (1)) 46 dX0_add_45 rfl rfl ?_
                          refine g_iaddZ (n + 1) 47 dX0_add_46 (by omega) rfl ?_
                          refine g_putC (fs1 := [.int (iZ 256), .ref 11, .ref 12, .int (iZ (n + 1))]) 50 dX0_add_47 fpX0_9_X0 f81 (nle rfl) (vI _) rfl rfl (fun h82 s83 f84 => ?_)
                          refine g_iconst (v := iZ (1)) 51 dX0_add_50 rfl rfl ?_
                          refine g_zret rfl z01_1 dX0_add_51 ?_
                          refine rI ?_
                          refine g_zret rfl z01_1 dX4_takesWord_53 ?_
                          refine rI ?_
                          refine g_zret rfl z01_1 dX4_takes_93 ?_
                          refine rI ?_
                          refine g_ifZ_ne 52 50 dX4_faultIn_47 rfl rfl (by decide) (fun _ => ?_) (fun q => absurd q (by decide))
                          refine g_aload_n 53 dX4_faultIn_52 rfl rfl ?_
                          refine g_iload_n 54 dX4_faultIn_53 rfl rfl ?_
                          refine g_iload 56 dX4_faultIn_54 rfl rfl ?_
                          refine g_iaddZ (av + z31) 57 dX4_faultIn_56 (by omega) rfl ?_
                          have f85 := (s83.get (by simp <;> omega) (s79.get (by simp <;> omega) (s74.get (by simp <;> omega) (s69.get (by simp <;> omega) F6))))
                          refine g_callV (z := mX6_pastGap) (As := [.int (iZ (av + z31))]) 60 dX4_faultIn_57 mwX6_pastGap ⟨by decide, by decide⟩ rfl wlX4_28 wiX6_pastGap wsX6_pastGap f85 rfl rfl rfl (nle rfl) (nle rfl) rfl ?_
                          have f86 := (s83.get (by simp <;> omega) (s79.get (by simp <;> omega) (s74.get (by simp <;> omega) (s69.get (by simp <;> omega) F7))))
                          refine c_gap  f85 f86 otf (by omega) (by omega) (by omega) (fun z87 rz87 => ?_)
                          refine rI ?_
                          obtain ⟨gz87, bz87⟩ := rz87
                          refine g_istore_n (L1 := [some (.ref 9), some (.ref t), some (.int (iZ z87)), some (.int (iZ j)), some (.int (iZ z31))]) 61 dX4_faultIn_60 (by decide) rfl rfl rfl ?_
                          refine g_iincZ [some (.ref 9), some (.ref t), some (.int (iZ z87)), some (.int (iZ (j + 1))), some (.int (iZ z31))] 64 dX4_faultIn_61 rfl (by omega) (by decide) rfl rfl rfl ?_
                          refine g_goto 12 dX4_faultIn_64 rfl ?_
                          refine Go.fgt 4 ?_
                          have f88 := (s83.get (by decide) (s79.get (by decide) (s74.get (by decide) f70)))
                          have f89 := (s83.get (by decide) (s79.get (by decide) f75))
                          have f90 := (s83.get (by decide) f80)
                          have f91 := (s83.get (by decide) (s79.get (by decide) (s74.get (by decide) (s69.get (by decide) F4))))
                          have f92 := (s83.get (by decide) (s79.get (by decide) (s74.get (by decide) (s69.get (by decide) F5))))
                          exact ih _ (by omega) _ (2) (la) (n + 1) (va_up f n.toNat z37) (va_up g n.toNat av) (pl) (lu) (z87) (j + 1) rfl (by omega) (by omega) (by omega) (oki_up of _ (by omega)) (oki_up og _ (by omega)) opl olu f88 f84 f89 f90 f91 f92 f85 f86 (by omega) (by omega) hok (by rw [gz87, show av + z31 = tkE tn (fun j => tf j.toNat) av by rw [rz31]; exact tkS_E (by rw [← rz31]; omega)]; exact (C_w hC (by omega) (by omega) (by omega) eW ez37 (by omega) (by omega)).2.1 (by omega) (by unfold hsn; omega)) (fun hQ xQ0 xQ1 xQ2 xQ3 xQ4 xQ5 xQ6 rQ yQ0 yQ1 yQ2 yQ3 yQ4 yQ5 yQ6 yQ7 pQ0 sQ uQ0 uQ1 uQ2 uQ3 uQ4 uQ5 => k hQ xQ0 xQ1 xQ2 xQ3 xQ4 xQ5 xQ6 rQ yQ0 yQ1 yQ2 yQ3 yQ4 yQ5 yQ6 yQ7 pQ0 ((((((Sm.refl [9, 10, 11, 12, 13, 14] _).tr s69 (fun _ q => q) (by simp)).tr s74 (fun _ q => q) (by simp)).tr s79 (fun _ q => q) (by simp)).tr s83 (fun _ q => q) (by simp)).tr sQ (fun _ q => q) (fun _ q => q)) uQ0 uQ1 uQ2 uQ3 uQ4 uQ5)
                        · refine g_iload_n 12 dX2_hasNumber_11 rfl rfl ?_
                          refine g_bipush (v := iZ (11)) 14 dX2_hasNumber_12 (by decide +kernel) rfl ?_
                          refine g_icZ_lt 27 17 dX2_hasNumber_14 rfl rfl (by omega) (by decide) (fun c93 => ?_) (fun c93 => ?_)
                          · refine g_iconst (v := iZ (0)) 28 dX2_hasNumber_27 rfl rfl ?_
                            refine g_zret rfl z01_0 dX2_hasNumber_28 ?_
                            refine rI ?_
                            refine g_ifZ_eq 40 36 dX4_takesWord_33 rfl rfl (by decide) (fun _ => ?_) (fun q => absurd q (by decide))
                            refine g_iconst (v := iZ (0)) 41 dX4_takesWord_40 rfl rfl ?_
                            refine g_putC (fs1 := [.ref 10, .ref 13, .ref 14, .int (iZ 0), .int (iZ la)]) 44 dX4_takesWord_41 fpX4_18_X4 F0 (nle rfl) (vI _) rfl rfl (fun h94 s95 f96 => ?_)
                            refine g_aload_n 45 dX4_takesWord_44 rfl rfl ?_
                            refine g_get 48 dX4_takesWord_45 faX4_45_X4 f96 rfl rfl ?_
                            refine g_iload_n 49 dX4_takesWord_48 rfl rfl ?_
                            refine g_iload_n 50 dX4_takesWord_49 rfl rfl ?_
                            have f97 := (s95.get (by decide) F1)
                            refine g_callV (z := mX0_add) (As := [.int (iZ z37), .int (iZ av)]) 53 dX4_takesWord_50 mwX0_add ⟨by decide, by decide⟩ rfl wlX4_95 wiX0_add wsX0_add f97 rfl rfl rfl (nle rfl) (nle rfl) rfl ?_
                            refine Go.to [some (.ref 10), some (.int (iZ z37)), some (.int (iZ av))] [] rfl rfl ?_
                            refine g_aload_n 1 dX0_add_0 rfl rfl ?_
                            refine g_get 4 dX0_add_1 faX0_9_X0 f97 rfl rfl ?_
                            refine g_ifZ_lt 18 7 dX0_add_4 rfl rfl (by omega) (fun q => absurd q (by omega)) (fun _ => ?_)
                            refine g_aload_n 8 dX0_add_7 rfl rfl ?_
                            refine g_get 11 dX0_add_8 faX0_9_X0 f97 rfl rfl ?_
                            refine g_aload_n 12 dX0_add_11 rfl rfl ?_
                            refine g_get 15 dX0_add_12 faX0_21_X0 f97 rfl rfl ?_
                            refine g_icZ_lt 20 18 dX0_add_15 rfl rfl (by omega) (by decide) (fun _ => ?_) (fun q => absurd q (by omega))
                            refine g_aload_n 21 dX0_add_20 rfl rfl ?_
                            refine g_get 24 dX0_add_21 faX0_24_X0 f97 rfl rfl ?_
                            refine g_aload_n 25 dX0_add_24 rfl rfl ?_
                            refine g_get 28 dX0_add_25 faX0_9_X0 f97 rfl rfl ?_
                            refine g_iload_n 29 dX0_add_28 rfl rfl ?_
                            have f98 := (s95.get (by decide) F2)
                            refine g_iastFj (n.toNat) 30 dX0_add_29 f98 (by omega) (by omega) (by decide) rfl rfl (fun h99 s100 f101 => ?_)
                            refine g_aload_n 31 dX0_add_30 rfl rfl ?_
                            have f102 := (s100.get (by decide) f97)
                            refine g_get 34 dX0_add_31 faX0_28_X0 f102 rfl rfl ?_
                            refine g_aload_n 35 dX0_add_34 rfl rfl ?_
                            refine g_get 38 dX0_add_35 faX0_9_X0 f102 rfl rfl ?_
                            refine g_iload_n 39 dX0_add_38 rfl rfl ?_
                            have f103 := (s100.get (by decide) (s95.get (by decide) F3))
                            refine g_iastFj (n.toNat) 40 dX0_add_39 f103 (by omega) (by omega) (by decide) rfl rfl (fun h104 s105 f106 => ?_)
                            refine g_aload_n 41 dX0_add_40 rfl rfl ?_
                            refine g_dup 42 dX0_add_41 rfl rfl ?_
                            have f107 := (s105.get (by decide) f102)
                            refine g_get 45 dX0_add_42 faX0_9_X0 f107 rfl rfl ?_
                            refine g_iconst (v := iZ (1)) 46 dX0_add_45 rfl rfl ?_
                            refine g_iaddZ (n + 1) 47 dX0_add_46 (by omega) rfl ?_
                            refine g_putC (fs1 := [.int (iZ 256), .ref 11, .ref 12, .int (iZ (n + 1))]) 50 dX0_add_47 fpX0_9_X0 f107 (nle rfl) (vI _) rfl rfl (fun h108 s109 f110 => ?_)
                            refine g_iconst (v := iZ (1)) 51 dX0_add_50 rfl rfl ?_
                            refine g_zret rfl z01_1 dX0_add_51 ?_
                            refine rI ?_
                            refine g_zret rfl z01_1 dX4_takesWord_53 ?_
                            refine rI ?_
                            refine g_zret rfl z01_1 dX4_takes_93 ?_
                            refine rI ?_
                            refine g_ifZ_ne 52 50 dX4_faultIn_47 rfl rfl (by decide) (fun _ => ?_) (fun q => absurd q (by decide))
                            refine g_aload_n 53 dX4_faultIn_52 rfl rfl ?_
                            refine g_iload_n 54 dX4_faultIn_53 rfl rfl ?_
                            refine g_iload 56 dX4_faultIn_54 rfl rfl ?_
                            refine g_iaddZ (av + z31) 57 dX4_faultIn_56 (by omega) rfl ?_
                            have f111 := (s109.get (by simp <;> omega) (s105.get (by simp <;> omega) (s100.get (by simp <;> omega) (s95.get (by simp <;> omega) F6))))
                            refine g_callV (z := mX6_pastGap) (As := [.int (iZ (av + z31))]) 60 dX4_faultIn_57 mwX6_pastGap ⟨by decide, by decide⟩ rfl wlX4_28 wiX6_pastGap wsX6_pastGap f111 rfl rfl rfl (nle rfl) (nle rfl) rfl ?_
                            have f112 := (s109.get (by simp <;> omega) (s105.get (by simp <;> omega) (s100.get (by simp <;> omega) (s95.get (by simp <;> omega) F7))))
                            refine c_gap  f111 f112 otf (by omega) (by omega) (by omega) (fun z113 rz113 => ?_)
                            refine rI ?_
                            obtain ⟨gz113, bz113⟩ := rz113
                            refine g_istore_n (L1 := [some (.ref 9), some (.ref t), some (.int (iZ z113)), some (.int (iZ j)), some (.int (iZ z31))]) 61 dX4_faultIn_60 (by decide) rfl rfl rfl ?_
                            refine g_iincZ [some (.ref 9), some (.ref t), some (.int (iZ z113)), some (.int (iZ (j + 1))), some (.int (iZ z31))] 64 dX4_faultIn_61 rfl (by omega) (by decide) rfl rfl rfl ?_
                            refine g_goto 12 dX4_faultIn_64 rfl ?_
                            refine Go.fgt 4 ?_
                            have f114 := (s109.get (by decide) (s105.get (by decide) (s100.get (by decide) f96)))
                            have f115 := (s109.get (by decide) (s105.get (by decide) f101))
                            have f116 := (s109.get (by decide) f106)
                            have f117 := (s109.get (by decide) (s105.get (by decide) (s100.get (by decide) (s95.get (by decide) F4))))
                            have f118 := (s109.get (by decide) (s105.get (by decide) (s100.get (by decide) (s95.get (by decide) F5))))
                            exact ih _ (by omega) _ (0) (la) (n + 1) (va_up f n.toNat z37) (va_up g n.toNat av) (pl) (lu) (z113) (j + 1) rfl (by omega) (by omega) (by omega) (oki_up of _ (by omega)) (oki_up og _ (by omega)) opl olu f114 f110 f115 f116 f117 f118 f111 f112 (by omega) (by omega) hok (by rw [gz113, show av + z31 = tkE tn (fun j => tf j.toNat) av by rw [rz31]; exact tkS_E (by rw [← rz31]; omega)]; exact (C_w hC (by omega) (by omega) (by omega) eW ez37 (by omega) (by omega)).2.2 (by omega) (by unfold hsn; omega)) (fun hQ xQ0 xQ1 xQ2 xQ3 xQ4 xQ5 xQ6 rQ yQ0 yQ1 yQ2 yQ3 yQ4 yQ5 yQ6 yQ7 pQ0 sQ uQ0 uQ1 uQ2 uQ3 uQ4 uQ5 => k hQ xQ0 xQ1 xQ2 xQ3 xQ4 xQ5 xQ6 rQ yQ0 yQ1 yQ2 yQ3 yQ4 yQ5 yQ6 yQ7 pQ0 ((((((Sm.refl [9, 10, 11, 12, 13, 14] _).tr s95 (fun _ q => q) (by simp)).tr s100 (fun _ q => q) (by simp)).tr s105 (fun _ q => q) (by simp)).tr s109 (fun _ q => q) (by simp)).tr sQ (fun _ q => q) (fun _ q => q)) uQ0 uQ1 uQ2 uQ3 uQ4 uQ5)
                          · refine g_iload_n 18 dX2_hasNumber_17 rfl rfl ?_
                            refine g_bipush (v := iZ (15)) 20 dX2_hasNumber_18 (by decide +kernel) rfl ?_
                            refine g_icZ_gt 27 23 dX2_hasNumber_20 rfl rfl (by omega) (by decide) (fun c119 => ?_) (fun c119 => ?_)
                            · refine g_iconst (v := iZ (0)) 28 dX2_hasNumber_27 rfl rfl ?_
                              refine g_zret rfl z01_0 dX2_hasNumber_28 ?_
                              refine rI ?_
                              refine g_ifZ_eq 40 36 dX4_takesWord_33 rfl rfl (by decide) (fun _ => ?_) (fun q => absurd q (by decide))
                              refine g_iconst (v := iZ (0)) 41 dX4_takesWord_40 rfl rfl ?_
                              refine g_putC (fs1 := [.ref 10, .ref 13, .ref 14, .int (iZ 0), .int (iZ la)]) 44 dX4_takesWord_41 fpX4_18_X4 F0 (nle rfl) (vI _) rfl rfl (fun h120 s121 f122 => ?_)
                              refine g_aload_n 45 dX4_takesWord_44 rfl rfl ?_
                              refine g_get 48 dX4_takesWord_45 faX4_45_X4 f122 rfl rfl ?_
                              refine g_iload_n 49 dX4_takesWord_48 rfl rfl ?_
                              refine g_iload_n 50 dX4_takesWord_49 rfl rfl ?_
                              have f123 := (s121.get (by decide) F1)
                              refine g_callV (z := mX0_add) (As := [.int (iZ z37), .int (iZ av)]) 53 dX4_takesWord_50 mwX0_add ⟨by decide, by decide⟩ rfl wlX4_95 wiX0_add wsX0_add f123 rfl rfl rfl (nle rfl) (nle rfl) rfl ?_
                              refine Go.to [some (.ref 10), some (.int (iZ z37)), some (.int (iZ av))] [] rfl rfl ?_
                              refine g_aload_n 1 dX0_add_0 rfl rfl ?_
                              refine g_get 4 dX0_add_1 faX0_9_X0 f123 rfl rfl ?_
                              refine g_ifZ_lt 18 7 dX0_add_4 rfl rfl (by omega) (fun q => absurd q (by omega)) (fun _ => ?_)
                              refine g_aload_n 8 dX0_add_7 rfl rfl ?_
                              refine g_get 11 dX0_add_8 faX0_9_X0 f123 rfl rfl ?_
                              refine g_aload_n 12 dX0_add_11 rfl rfl ?_
                              refine g_get 15 dX0_add_12 faX0_21_X0 f123 rfl rfl ?_
                              refine g_icZ_lt 20 18 dX0_add_15 rfl rfl (by omega) (by decide) (fun _ => ?_) (fun q => absurd q (by omega))
                              refine g_aload_n 21 dX0_add_20 rfl rfl ?_
                              refine g_get 24 dX0_add_21 faX0_24_X0 f123 rfl rfl ?_
                              refine g_aload_n 25 dX0_add_24 rfl rfl ?_
                              refine g_get 28 dX0_add_25 faX0_9_X0 f123 rfl rfl ?_
                              refine g_iload_n 29 dX0_add_28 rfl rfl ?_
                              have f124 := (s121.get (by decide) F2)
                              refine g_iastFj (n.toNat) 30 dX0_add_29 f124 (by omega) (by omega) (by decide) rfl rfl (fun h125 s126 f127 => ?_)
                              refine g_aload_n 31 dX0_add_30 rfl rfl ?_
                              have f128 := (s126.get (by decide) f123)
                              refine g_get 34 dX0_add_31 faX0_28_X0 f128 rfl rfl ?_
                              refine g_aload_n 35 dX0_add_34 rfl rfl ?_
                              refine g_get 38 dX0_add_35 faX0_9_X0 f128 rfl rfl ?_
                              refine g_iload_n 39 dX0_add_38 rfl rfl ?_
                              have f129 := (s126.get (by decide) (s121.get (by decide) F3))
                              refine g_iastFj (n.toNat) 40 dX0_add_39 f129 (by omega) (by omega) (by decide) rfl rfl (fun h130 s131 f132 => ?_)
                              refine g_aload_n 41 dX0_add_40 rfl rfl ?_
                              refine g_dup 42 dX0_add_41 rfl rfl ?_
                              have f133 := (s131.get (by decide) f128)
                              refine g_get 45 dX0_add_42 faX0_9_X0 f133 rfl rfl ?_
                              refine g_iconst (v := iZ (1)) 46 dX0_add_45 rfl rfl ?_
                              refine g_iaddZ (n + 1) 47 dX0_add_46 (by omega) rfl ?_
                              refine g_putC (fs1 := [.int (iZ 256), .ref 11, .ref 12, .int (iZ (n + 1))]) 50 dX0_add_47 fpX0_9_X0 f133 (nle rfl) (vI _) rfl rfl (fun h134 s135 f136 => ?_)
                              refine g_iconst (v := iZ (1)) 51 dX0_add_50 rfl rfl ?_
                              refine g_zret rfl z01_1 dX0_add_51 ?_
                              refine rI ?_
                              refine g_zret rfl z01_1 dX4_takesWord_53 ?_
                              refine rI ?_
                              refine g_zret rfl z01_1 dX4_takes_93 ?_
                              refine rI ?_
                              refine g_ifZ_ne 52 50 dX4_faultIn_47 rfl rfl (by decide) (fun _ => ?_) (fun q => absurd q (by decide))
                              refine g_aload_n 53 dX4_faultIn_52 rfl rfl ?_
                              refine g_iload_n 54 dX4_faultIn_53 rfl rfl ?_
                              refine g_iload 56 dX4_faultIn_54 rfl rfl ?_
                              refine g_iaddZ (av + z31) 57 dX4_faultIn_56 (by omega) rfl ?_
                              have f137 := (s135.get (by simp <;> omega) (s131.get (by simp <;> omega) (s126.get (by simp <;> omega) (s121.get (by simp <;> omega) F6))))
                              refine g_callV (z := mX6_pastGap) (As := [.int (iZ (av + z31))]) 60 dX4_faultIn_57 mwX6_pastGap ⟨by decide, by decide⟩ rfl wlX4_28 wiX6_pastGap wsX6_pastGap f137 rfl rfl rfl (nle rfl) (nle rfl) rfl ?_
                              have f138 := (s135.get (by simp <;> omega) (s131.get (by simp <;> omega) (s126.get (by simp <;> omega) (s121.get (by simp <;> omega) F7))))
                              refine c_gap  f137 f138 otf (by omega) (by omega) (by omega) (fun z139 rz139 => ?_)
                              refine rI ?_
                              obtain ⟨gz139, bz139⟩ := rz139
                              refine g_istore_n (L1 := [some (.ref 9), some (.ref t), some (.int (iZ z139)), some (.int (iZ j)), some (.int (iZ z31))]) 61 dX4_faultIn_60 (by decide) rfl rfl rfl ?_
                              refine g_iincZ [some (.ref 9), some (.ref t), some (.int (iZ z139)), some (.int (iZ (j + 1))), some (.int (iZ z31))] 64 dX4_faultIn_61 rfl (by omega) (by decide) rfl rfl rfl ?_
                              refine g_goto 12 dX4_faultIn_64 rfl ?_
                              refine Go.fgt 4 ?_
                              have f140 := (s135.get (by decide) (s131.get (by decide) (s126.get (by decide) f122)))
                              have f141 := (s135.get (by decide) (s131.get (by decide) f127))
                              have f142 := (s135.get (by decide) f132)
                              have f143 := (s135.get (by decide) (s131.get (by decide) (s126.get (by decide) (s121.get (by decide) F4))))
                              have f144 := (s135.get (by decide) (s131.get (by decide) (s126.get (by decide) (s121.get (by decide) F5))))
                              exact ih _ (by omega) _ (0) (la) (n + 1) (va_up f n.toNat z37) (va_up g n.toNat av) (pl) (lu) (z139) (j + 1) rfl (by omega) (by omega) (by omega) (oki_up of _ (by omega)) (oki_up og _ (by omega)) opl olu f140 f136 f141 f142 f143 f144 f137 f138 (by omega) (by omega) hok (by rw [gz139, show av + z31 = tkE tn (fun j => tf j.toNat) av by rw [rz31]; exact tkS_E (by rw [← rz31]; omega)]; exact (C_w hC (by omega) (by omega) (by omega) eW ez37 (by omega) (by omega)).2.2 (by omega) (by unfold hsn; omega)) (fun hQ xQ0 xQ1 xQ2 xQ3 xQ4 xQ5 xQ6 rQ yQ0 yQ1 yQ2 yQ3 yQ4 yQ5 yQ6 yQ7 pQ0 sQ uQ0 uQ1 uQ2 uQ3 uQ4 uQ5 => k hQ xQ0 xQ1 xQ2 xQ3 xQ4 xQ5 xQ6 rQ yQ0 yQ1 yQ2 yQ3 yQ4 yQ5 yQ6 yQ7 pQ0 ((((((Sm.refl [9, 10, 11, 12, 13, 14] _).tr s121 (fun _ q => q) (by simp)).tr s126 (fun _ q => q) (by simp)).tr s131 (fun _ q => q) (by simp)).tr s135 (fun _ q => q) (by simp)).tr sQ (fun _ q => q) (fun _ q => q)) uQ0 uQ1 uQ2 uQ3 uQ4 uQ5)
                            · refine g_iconst (v := iZ (1)) 24 dX2_hasNumber_23 rfl rfl ?_
                              refine g_goto 28 dX2_hasNumber_24 rfl ?_
                              refine g_zret rfl z01_1 dX2_hasNumber_28 ?_
                              refine rI ?_
                              refine g_ifZ_eq 40 36 dX4_takesWord_33 rfl rfl (by decide) (fun q => absurd q (by decide)) (fun _ => ?_)
                              refine g_iconst (v := iZ (2)) 37 dX4_takesWord_36 rfl rfl ?_
                              refine g_goto 41 dX4_takesWord_37 rfl ?_
                              refine g_putC (fs1 := [.ref 10, .ref 13, .ref 14, .int (iZ 2), .int (iZ la)]) 44 dX4_takesWord_41 fpX4_18_X4 F0 (nle rfl) (vI _) rfl rfl (fun h145 s146 f147 => ?_)
                              refine g_aload_n 45 dX4_takesWord_44 rfl rfl ?_
                              refine g_get 48 dX4_takesWord_45 faX4_45_X4 f147 rfl rfl ?_
                              refine g_iload_n 49 dX4_takesWord_48 rfl rfl ?_
                              refine g_iload_n 50 dX4_takesWord_49 rfl rfl ?_
                              have f148 := (s146.get (by decide) F1)
                              refine g_callV (z := mX0_add) (As := [.int (iZ z37), .int (iZ av)]) 53 dX4_takesWord_50 mwX0_add ⟨by decide, by decide⟩ rfl wlX4_95 wiX0_add wsX0_add f148 rfl rfl rfl (nle rfl) (nle rfl) rfl ?_
                              refine Go.to [some (.ref 10), some (.int (iZ z37)), some (.int (iZ av))] [] rfl rfl ?_
                              refine g_aload_n 1 dX0_add_0 rfl rfl ?_
                              refine g_get 4 dX0_add_1 faX0_9_X0 f148 rfl rfl ?_
                              refine g_ifZ_lt 18 7 dX0_add_4 rfl rfl (by omega) (fun q => absurd q (by omega)) (fun _ => ?_)
                              refine g_aload_n 8 dX0_add_7 rfl rfl ?_
                              refine g_get 11 dX0_add_8 faX0_9_X0 f148 rfl rfl ?_
                              refine g_aload_n 12 dX0_add_11 rfl rfl ?_
                              refine g_get 15 dX0_add_12 faX0_21_X0 f148 rfl rfl ?_
                              refine g_icZ_lt 20 18 dX0_add_15 rfl rfl (by omega) (by decide) (fun _ => ?_) (fun q => absurd q (by omega))
                              refine g_aload_n 21 dX0_add_20 rfl rfl ?_
                              refine g_get 24 dX0_add_21 faX0_24_X0 f148 rfl rfl ?_
                              refine g_aload_n 25 dX0_add_24 rfl rfl ?_
                              refine g_get 28 dX0_add_25 faX0_9_X0 f148 rfl rfl ?_
                              refine g_iload_n 29 dX0_add_28 rfl rfl ?_
                              have f149 := (s146.get (by decide) F2)
                              refine g_iastFj (n.toNat) 30 dX0_add_29 f149 (by omega) (by omega) (by decide) rfl rfl (fun h150 s151 f152 => ?_)
                              refine g_aload_n 31 dX0_add_30 rfl rfl ?_
                              have f153 := (s151.get (by decide) f148)
                              refine g_get 34 dX0_add_31 faX0_28_X0 f153 rfl rfl ?_
                              refine g_aload_n 35 dX0_add_34 rfl rfl ?_
                              refine g_get 38 dX0_add_35 faX0_9_X0 f153 rfl rfl ?_
                              refine g_iload_n 39 dX0_add_38 rfl rfl ?_
                              have f154 := (s151.get (by decide) (s146.get (by decide) F3))
                              refine g_iastFj (n.toNat) 40 dX0_add_39 f154 (by omega) (by omega) (by decide) rfl rfl (fun h155 s156 f157 => ?_)
                              refine g_aload_n 41 dX0_add_40 rfl rfl ?_
                              refine g_dup 42 dX0_add_41 rfl rfl ?_
                              have f158 := (s156.get (by decide) f153)
                              refine g_get 45 dX0_add_42 faX0_9_X0 f158 rfl rfl ?_
                              refine g_iconst (v := iZ (1)) 46 dX0_add_45 rfl rfl ?_
                              refine g_iaddZ (n + 1) 47 dX0_add_46 (by omega) rfl ?_
                              refine g_putC (fs1 := [.int (iZ 256), .ref 11, .ref 12, .int (iZ (n + 1))]) 50 dX0_add_47 fpX0_9_X0 f158 (nle rfl) (vI _) rfl rfl (fun h159 s160 f161 => ?_)
                              refine g_iconst (v := iZ (1)) 51 dX0_add_50 rfl rfl ?_
                              refine g_zret rfl z01_1 dX0_add_51 ?_
                              refine rI ?_
                              refine g_zret rfl z01_1 dX4_takesWord_53 ?_
                              refine rI ?_
                              refine g_zret rfl z01_1 dX4_takes_93 ?_
                              refine rI ?_
                              refine g_ifZ_ne 52 50 dX4_faultIn_47 rfl rfl (by decide) (fun _ => ?_) (fun q => absurd q (by decide))
                              refine g_aload_n 53 dX4_faultIn_52 rfl rfl ?_
                              refine g_iload_n 54 dX4_faultIn_53 rfl rfl ?_
                              refine g_iload 56 dX4_faultIn_54 rfl rfl ?_
                              refine g_iaddZ (av + z31) 57 dX4_faultIn_56 (by omega) rfl ?_
                              have f162 := (s160.get (by simp <;> omega) (s156.get (by simp <;> omega) (s151.get (by simp <;> omega) (s146.get (by simp <;> omega) F6))))
                              refine g_callV (z := mX6_pastGap) (As := [.int (iZ (av + z31))]) 60 dX4_faultIn_57 mwX6_pastGap ⟨by decide, by decide⟩ rfl wlX4_28 wiX6_pastGap wsX6_pastGap f162 rfl rfl rfl (nle rfl) (nle rfl) rfl ?_
                              have f163 := (s160.get (by simp <;> omega) (s156.get (by simp <;> omega) (s151.get (by simp <;> omega) (s146.get (by simp <;> omega) F7))))
                              refine c_gap  f162 f163 otf (by omega) (by omega) (by omega) (fun z164 rz164 => ?_)
                              refine rI ?_
                              obtain ⟨gz164, bz164⟩ := rz164
                              refine g_istore_n (L1 := [some (.ref 9), some (.ref t), some (.int (iZ z164)), some (.int (iZ j)), some (.int (iZ z31))]) 61 dX4_faultIn_60 (by decide) rfl rfl rfl ?_
                              refine g_iincZ [some (.ref 9), some (.ref t), some (.int (iZ z164)), some (.int (iZ (j + 1))), some (.int (iZ z31))] 64 dX4_faultIn_61 rfl (by omega) (by decide) rfl rfl rfl ?_
                              refine g_goto 12 dX4_faultIn_64 rfl ?_
                              refine Go.fgt 4 ?_
                              have f165 := (s160.get (by decide) (s156.get (by decide) (s151.get (by decide) f147)))
                              have f166 := (s160.get (by decide) (s156.get (by decide) f152))
                              have f167 := (s160.get (by decide) f157)
                              have f168 := (s160.get (by decide) (s156.get (by decide) (s151.get (by decide) (s146.get (by decide) F4))))
                              have f169 := (s160.get (by decide) (s156.get (by decide) (s151.get (by decide) (s146.get (by decide) F5))))
                              exact ih _ (by omega) _ (2) (la) (n + 1) (va_up f n.toNat z37) (va_up g n.toNat av) (pl) (lu) (z164) (j + 1) rfl (by omega) (by omega) (by omega) (oki_up of _ (by omega)) (oki_up og _ (by omega)) opl olu f165 f161 f166 f167 f168 f169 f162 f163 (by omega) (by omega) hok (by rw [gz164, show av + z31 = tkE tn (fun j => tf j.toNat) av by rw [rz31]; exact tkS_E (by rw [← rz31]; omega)]; exact (C_w hC (by omega) (by omega) (by omega) eW ez37 (by omega) (by omega)).2.1 (by omega) (by unfold hsn; omega)) (fun hQ xQ0 xQ1 xQ2 xQ3 xQ4 xQ5 xQ6 rQ yQ0 yQ1 yQ2 yQ3 yQ4 yQ5 yQ6 yQ7 pQ0 sQ uQ0 uQ1 uQ2 uQ3 uQ4 uQ5 => k hQ xQ0 xQ1 xQ2 xQ3 xQ4 xQ5 xQ6 rQ yQ0 yQ1 yQ2 yQ3 yQ4 yQ5 yQ6 yQ7 pQ0 ((((((Sm.refl [9, 10, 11, 12, 13, 14] _).tr s146 (fun _ q => q) (by simp)).tr s151 (fun _ q => q) (by simp)).tr s156 (fun _ q => q) (by simp)).tr s160 (fun _ q => q) (by simp)).tr sQ (fun _ q => q) (fun _ q => q)) uQ0 uQ1 uQ2 uQ3 uQ4 uQ5)
                    · refine g_aload_n 22 dX4_takesWord_21 rfl rfl ?_
                      refine g_iconst (v := iZ (2)) 23 dX4_takesWord_22 rfl rfl ?_
                      refine g_putC (fs1 := [.ref 10, .ref 13, .ref 14, .int (iZ 2), .int (iZ la)]) 26 dX4_takesWord_23 fpX4_18_X4 F0 (nle rfl) (vI _) rfl rfl (fun h170 s171 f172 => ?_)
                      refine g_iconst (v := iZ (1)) 27 dX4_takesWord_26 rfl rfl ?_
                      refine g_zret rfl z01_1 dX4_takesWord_27 ?_
                      refine rI ?_
                      refine g_zret rfl z01_1 dX4_takes_93 ?_
                      refine rI ?_
                      refine g_ifZ_ne 52 50 dX4_faultIn_47 rfl rfl (by decide) (fun _ => ?_) (fun q => absurd q (by decide))
                      refine g_aload_n 53 dX4_faultIn_52 rfl rfl ?_
                      refine g_iload_n 54 dX4_faultIn_53 rfl rfl ?_
                      refine g_iload 56 dX4_faultIn_54 rfl rfl ?_
                      refine g_iaddZ (av + z31) 57 dX4_faultIn_56 (by omega) rfl ?_
                      have f173 := (s171.get (by simp <;> omega) F6)
                      refine g_callV (z := mX6_pastGap) (As := [.int (iZ (av + z31))]) 60 dX4_faultIn_57 mwX6_pastGap ⟨by decide, by decide⟩ rfl wlX4_28 wiX6_pastGap wsX6_pastGap f173 rfl rfl rfl (nle rfl) (nle rfl) rfl ?_
                      have f174 := (s171.get (by simp <;> omega) F7)
                      refine c_gap  f173 f174 otf (by omega) (by omega) (by omega) (fun z175 rz175 => ?_)
                      refine rI ?_
                      obtain ⟨gz175, bz175⟩ := rz175
                      refine g_istore_n (L1 := [some (.ref 9), some (.ref t), some (.int (iZ z175)), some (.int (iZ j)), some (.int (iZ z31))]) 61 dX4_faultIn_60 (by decide) rfl rfl rfl ?_
                      refine g_iincZ [some (.ref 9), some (.ref t), some (.int (iZ z175)), some (.int (iZ (j + 1))), some (.int (iZ z31))] 64 dX4_faultIn_61 rfl (by omega) (by decide) rfl rfl rfl ?_
                      refine g_goto 12 dX4_faultIn_64 rfl ?_
                      refine Go.fgt 4 ?_
                      have f176 := (s171.get (by decide) F1)
                      have f177 := (s171.get (by decide) F2)
                      have f178 := (s171.get (by decide) F3)
                      have f179 := (s171.get (by decide) F4)
                      have f180 := (s171.get (by decide) F5)
                      exact ih _ (by omega) _ (2) (la) (n) (f) (g) (pl) (lu) (z175) (j + 1) rfl (by omega) (by omega) (by omega) of og opl olu f172 f176 f177 f178 f179 f180 f173 f174 (by omega) (by omega) hok (by rw [gz175, show av + z31 = tkE tn (fun j => tf j.toNat) av by rw [rz31]; exact tkS_E (by rw [← rz31]; omega)]; exact (C_w hC (by omega) (by omega) (by omega) eW ez37 (by omega) (by omega)).1 (by omega)) (fun hQ xQ0 xQ1 xQ2 xQ3 xQ4 xQ5 xQ6 rQ yQ0 yQ1 yQ2 yQ3 yQ4 yQ5 yQ6 yQ7 pQ0 sQ uQ0 uQ1 uQ2 uQ3 uQ4 uQ5 => k hQ xQ0 xQ1 xQ2 xQ3 xQ4 xQ5 xQ6 rQ yQ0 yQ1 yQ2 yQ3 yQ4 yQ5 yQ6 yQ7 pQ0 (((Sm.refl [9, 10, 11, 12, 13, 14] _).tr s171 (fun _ q => q) (by simp)).tr sQ (fun _ q => q) (fun _ q => q)) uQ0 uQ1 uQ2 uQ3 uQ4 uQ5)
                  · refine g_iconst (v := iZ (0)) 14 dX4_takesWord_13 rfl rfl ?_
                    refine g_zret rfl z01_0 dX4_takesWord_14 ?_
                    refine rI ?_
                    refine g_zret rfl z01_0 dX4_takes_93 ?_
                    refine rI ?_
                    refine g_ifZ_ne 52 50 dX4_faultIn_47 rfl rfl (by decide) (fun q => absurd q (by decide)) (fun _ => ?_)
                    refine g_iload_n 51 dX4_faultIn_50 rfl rfl ?_
                    refine g_iret rfl dX4_faultIn_51 ?_
                    exact k _ (due) (la) (n) (f) (g) (pl) (lu) (av) (by omega) (by omega) (by omega) of og opl olu (by omega) (nr_f (C_wf hC (by omega) (by omega) eW ez37 (by omega)) (by omega)) (Sm.refl [9, 10, 11, 12, 13, 14] _) F0 F1 F2 F3 F4 F5
              · refine g_iload_n 7 dX4_isDigit_6 rfl rfl ?_
                refine g_bipush (v := iZ (57)) 9 dX4_isDigit_7 (by decide +kernel) rfl ?_
                refine g_icZ_gt 16 12 dX4_isDigit_9 rfl rfl (by omega) (by decide) (fun c181 => ?_) (fun c181 => ?_)
                · refine g_iconst (v := iZ (0)) 17 dX4_isDigit_16 rfl rfl ?_
                  refine g_zret rfl z01_0 dX4_isDigit_17 ?_
                  refine rI ?_
                  refine g_ifZ_eq 82 68 dX4_takes_65 rfl rfl (by decide) (fun _ => ?_) (fun q => absurd q (by decide))
                  refine g_aload_n 83 dX4_takes_82 rfl rfl ?_
                  refine g_aload_n 84 dX4_takes_83 rfl rfl ?_
                  refine g_iload_n 85 dX4_takes_84 rfl rfl ?_
                  refine g_iload_n 86 dX4_takes_85 rfl rfl ?_
                  refine g_callS (z := mX4_wordOf) (As := [.ref t, .int (iZ av), .int (iZ z31)]) 89 dX4_takes_86 mwX4_wordOf ⟨by decide, by decide⟩ rfl wlX4_89 wtX4_wordOf rfl (nle rfl) (nle rfl) rfl ?_
                  have eW := tkS_n (tn := tn) (tf := (fun j => tf j.toNat)) (p := av) (by omega) (by rw [← rz31]; omega) (show ¬ (48 ≤ tf av.toNat ∧ tf av.toNat ≤ 57) by omega) (show ¬ (65 ≤ tf av.toNat ∧ tf av.toNat ≤ 90) by omega) (show tf av.toNat ≠ 58 by omega)
                  refine c_word F6 F7 otf (by omega) (by omega) (by omega) (by omega) (fun z182 ez182 => ?_)
                  have bz182 := wdx_rg (fun j => tf j.toNat) av z31
                  rw [← ez182] at bz182
                  rw [rz31] at ez182
                  refine rI ?_
                  refine g_iload_n 90 dX4_takes_89 rfl rfl ?_
                  refine g_callV (z := mX4_takesWord) (As := [.int (iZ z182), .int (iZ av)]) 93 dX4_takes_90 mwX4_takesWord ⟨by decide, by decide⟩ rfl wlX4_92 wiX4_takesWord wsX4_takesWord F0 rfl rfl rfl (nle rfl) (nle rfl) rfl ?_
                  refine Go.to [some (.ref 9), some (.int (iZ z182)), some (.int (iZ av))] [] rfl rfl ?_
                  refine g_aload_n 1 dX4_takesWord_0 rfl rfl ?_
                  refine g_get 4 dX4_takesWord_1 faX4_18_X4 F0 rfl rfl ?_
                  refine g_ifZ_ne 13 7 dX4_takesWord_4 rfl rfl (by omega) (fun c183 => ?_) (fun c183 => ?_)
                  · refine g_iconst (v := iZ (0)) 14 dX4_takesWord_13 rfl rfl ?_
                    refine g_zret rfl z01_0 dX4_takesWord_14 ?_
                    refine rI ?_
                    refine g_zret rfl z01_0 dX4_takes_93 ?_
                    refine rI ?_
                    refine g_ifZ_ne 52 50 dX4_faultIn_47 rfl rfl (by decide) (fun q => absurd q (by decide)) (fun _ => ?_)
                    refine g_iload_n 51 dX4_faultIn_50 rfl rfl ?_
                    refine g_iret rfl dX4_faultIn_51 ?_
                    exact k _ (due) (la) (n) (f) (g) (pl) (lu) (av) (by omega) (by omega) (by omega) of og opl olu (by omega) (nr_f (C_wf hC (by omega) (by omega) eW ez182 (by omega)) (by omega)) (Sm.refl [9, 10, 11, 12, 13, 14] _) F0 F1 F2 F3 F4 F5
                  · refine g_iload_n 8 dX4_takesWord_7 rfl rfl ?_
                    refine g_bipush (v := iZ (-9)) 10 dX4_takesWord_8 (by decide +kernel) rfl ?_
                    refine g_icZ_ne 15 13 dX4_takesWord_10 rfl rfl (by omega) (by decide) (fun c184 => ?_) (fun c184 => ?_)
                    · refine g_iload_n 16 dX4_takesWord_15 rfl rfl ?_
                      refine g_bipush (v := iZ (16)) 18 dX4_takesWord_16 (by decide +kernel) rfl ?_
                      refine g_icZ_ne 28 21 dX4_takesWord_18 rfl rfl (by omega) (by decide) (fun c185 => ?_) (fun c185 => ?_)
                      · refine g_aload_n 29 dX4_takesWord_28 rfl rfl ?_
                        refine g_iload_n 30 dX4_takesWord_29 rfl rfl ?_
                        refine g_callS (z := mX2_hasNumber) (As := [.int (iZ z182)]) 33 dX4_takesWord_30 mwX2_hasNumber ⟨by decide, by decide⟩ rfl wlX4_98 wtX2_hasNumber rfl (nle rfl) (nle rfl) rfl ?_
                        refine Go.to [some (.int (iZ z182))] [] rfl rfl ?_
                        refine g_iload_n 1 dX2_hasNumber_0 rfl rfl ?_
                        refine g_iconst (v := iZ (3)) 2 dX2_hasNumber_1 rfl rfl ?_
                        refine g_icZ_lt 11 5 dX2_hasNumber_2 rfl rfl (by omega) (by decide) (fun c186 => ?_) (fun c186 => ?_)
                        · refine g_iload_n 12 dX2_hasNumber_11 rfl rfl ?_
                          refine g_bipush (v := iZ (11)) 14 dX2_hasNumber_12 (by decide +kernel) rfl ?_
                          refine g_icZ_lt 27 17 dX2_hasNumber_14 rfl rfl (by omega) (by decide) (fun _ => ?_) (fun q => absurd q (by omega))
                          refine g_iconst (v := iZ (0)) 28 dX2_hasNumber_27 rfl rfl ?_
                          refine g_zret rfl z01_0 dX2_hasNumber_28 ?_
                          refine rI ?_
                          refine g_ifZ_eq 40 36 dX4_takesWord_33 rfl rfl (by decide) (fun _ => ?_) (fun q => absurd q (by decide))
                          refine g_iconst (v := iZ (0)) 41 dX4_takesWord_40 rfl rfl ?_
                          refine g_putC (fs1 := [.ref 10, .ref 13, .ref 14, .int (iZ 0), .int (iZ la)]) 44 dX4_takesWord_41 fpX4_18_X4 F0 (nle rfl) (vI _) rfl rfl (fun h187 s188 f189 => ?_)
                          refine g_aload_n 45 dX4_takesWord_44 rfl rfl ?_
                          refine g_get 48 dX4_takesWord_45 faX4_45_X4 f189 rfl rfl ?_
                          refine g_iload_n 49 dX4_takesWord_48 rfl rfl ?_
                          refine g_iload_n 50 dX4_takesWord_49 rfl rfl ?_
                          have f190 := (s188.get (by decide) F1)
                          refine g_callV (z := mX0_add) (As := [.int (iZ z182), .int (iZ av)]) 53 dX4_takesWord_50 mwX0_add ⟨by decide, by decide⟩ rfl wlX4_95 wiX0_add wsX0_add f190 rfl rfl rfl (nle rfl) (nle rfl) rfl ?_
                          refine Go.to [some (.ref 10), some (.int (iZ z182)), some (.int (iZ av))] [] rfl rfl ?_
                          refine g_aload_n 1 dX0_add_0 rfl rfl ?_
                          refine g_get 4 dX0_add_1 faX0_9_X0 f190 rfl rfl ?_
                          refine g_ifZ_lt 18 7 dX0_add_4 rfl rfl (by omega) (fun q => absurd q (by omega)) (fun _ => ?_)
                          refine g_aload_n 8 dX0_add_7 rfl rfl ?_
                          refine g_get 11 dX0_add_8 faX0_9_X0 f190 rfl rfl ?_
                          refine g_aload_n 12 dX0_add_11 rfl rfl ?_
                          refine g_get 15 dX0_add_12 faX0_21_X0 f190 rfl rfl ?_
                          refine g_icZ_lt 20 18 dX0_add_15 rfl rfl (by omega) (by decide) (fun _ => ?_) (fun q => absurd q (by omega))
                          refine g_aload_n 21 dX0_add_20 rfl rfl ?_
                          refine g_get 24 dX0_add_21 faX0_24_X0 f190 rfl rfl ?_
                          refine g_aload_n 25 dX0_add_24 rfl rfl ?_
                          refine g_get 28 dX0_add_25 faX0_9_X0 f190 rfl rfl ?_
                          refine g_iload_n 29 dX0_add_28 rfl rfl ?_
                          have f191 := (s188.get (by decide) F2)
                          refine g_iastFj (n.toNat) 30 dX0_add_29 f191 (by omega) (by omega) (by decide) rfl rfl (fun h192 s193 f194 => ?_)
                          refine g_aload_n 31 dX0_add_30 rfl rfl ?_
                          have f195 := (s193.get (by decide) f190)
                          refine g_get 34 dX0_add_31 faX0_28_X0 f195 rfl rfl ?_
                          refine g_aload_n 35 dX0_add_34 rfl rfl ?_
                          refine g_get 38 dX0_add_35 faX0_9_X0 f195 rfl rfl ?_
                          refine g_iload_n 39 dX0_add_38 rfl rfl ?_
                          have f196 := (s193.get (by decide) (s188.get (by decide) F3))
                          refine g_iastFj (n.toNat) 40 dX0_add_39 f196 (by omega) (by omega) (by decide) rfl rfl (fun h197 s198 f199 => ?_)
                          refine g_aload_n 41 dX0_add_40 rfl rfl ?_
                          refine g_dup 42 dX0_add_41 rfl rfl ?_
                          have f200 := (s198.get (by decide) f195)
                          refine g_get 45 dX0_add_42 faX0_9_X0 f200 rfl rfl ?_
                          refine g_iconst (v := iZ (1)) 46 dX0_add_45 rfl rfl ?_
                          refine g_iaddZ (n + 1) 47 dX0_add_46 (by omega) rfl ?_
                          refine g_putC (fs1 := [.int (iZ 256), .ref 11, .ref 12, .int (iZ (n + 1))]) 50 dX0_add_47 fpX0_9_X0 f200 (nle rfl) (vI _) rfl rfl (fun h201 s202 f203 => ?_)
                          refine g_iconst (v := iZ (1)) 51 dX0_add_50 rfl rfl ?_
                          refine g_zret rfl z01_1 dX0_add_51 ?_
                          refine rI ?_
                          refine g_zret rfl z01_1 dX4_takesWord_53 ?_
                          refine rI ?_
                          refine g_zret rfl z01_1 dX4_takes_93 ?_
                          refine rI ?_
                          refine g_ifZ_ne 52 50 dX4_faultIn_47 rfl rfl (by decide) (fun _ => ?_) (fun q => absurd q (by decide))
                          refine g_aload_n 53 dX4_faultIn_52 rfl rfl ?_
                          refine g_iload_n 54 dX4_faultIn_53 rfl rfl ?_
                          refine g_iload 56 dX4_faultIn_54 rfl rfl ?_
                          refine g_iaddZ (av + z31) 57 dX4_faultIn_56 (by omega) rfl ?_
                          have f204 := (s202.get (by simp <;> omega) (s198.get (by simp <;> omega) (s193.get (by simp <;> omega) (s188.get (by simp <;> omega) F6))))
                          refine g_callV (z := mX6_pastGap) (As := [.int (iZ (av + z31))]) 60 dX4_faultIn_57 mwX6_pastGap ⟨by decide, by decide⟩ rfl wlX4_28 wiX6_pastGap wsX6_pastGap f204 rfl rfl rfl (nle rfl) (nle rfl) rfl ?_
                          have f205 := (s202.get (by simp <;> omega) (s198.get (by simp <;> omega) (s193.get (by simp <;> omega) (s188.get (by simp <;> omega) F7))))
                          refine c_gap  f204 f205 otf (by omega) (by omega) (by omega) (fun z206 rz206 => ?_)
                          refine rI ?_
                          obtain ⟨gz206, bz206⟩ := rz206
                          refine g_istore_n (L1 := [some (.ref 9), some (.ref t), some (.int (iZ z206)), some (.int (iZ j)), some (.int (iZ z31))]) 61 dX4_faultIn_60 (by decide) rfl rfl rfl ?_
                          refine g_iincZ [some (.ref 9), some (.ref t), some (.int (iZ z206)), some (.int (iZ (j + 1))), some (.int (iZ z31))] 64 dX4_faultIn_61 rfl (by omega) (by decide) rfl rfl rfl ?_
                          refine g_goto 12 dX4_faultIn_64 rfl ?_
                          refine Go.fgt 4 ?_
                          have f207 := (s202.get (by decide) (s198.get (by decide) (s193.get (by decide) f189)))
                          have f208 := (s202.get (by decide) (s198.get (by decide) f194))
                          have f209 := (s202.get (by decide) f199)
                          have f210 := (s202.get (by decide) (s198.get (by decide) (s193.get (by decide) (s188.get (by decide) F4))))
                          have f211 := (s202.get (by decide) (s198.get (by decide) (s193.get (by decide) (s188.get (by decide) F5))))
                          exact ih _ (by omega) _ (0) (la) (n + 1) (va_up f n.toNat z182) (va_up g n.toNat av) (pl) (lu) (z206) (j + 1) rfl (by omega) (by omega) (by omega) (oki_up of _ (by omega)) (oki_up og _ (by omega)) opl olu f207 f203 f208 f209 f210 f211 f204 f205 (by omega) (by omega) hok (by rw [gz206, show av + z31 = tkE tn (fun j => tf j.toNat) av by rw [rz31]; exact tkS_E (by rw [← rz31]; omega)]; exact (C_w hC (by omega) (by omega) (by omega) eW ez182 (by omega) (by omega)).2.2 (by omega) (by unfold hsn; omega)) (fun hQ xQ0 xQ1 xQ2 xQ3 xQ4 xQ5 xQ6 rQ yQ0 yQ1 yQ2 yQ3 yQ4 yQ5 yQ6 yQ7 pQ0 sQ uQ0 uQ1 uQ2 uQ3 uQ4 uQ5 => k hQ xQ0 xQ1 xQ2 xQ3 xQ4 xQ5 xQ6 rQ yQ0 yQ1 yQ2 yQ3 yQ4 yQ5 yQ6 yQ7 pQ0 ((((((Sm.refl [9, 10, 11, 12, 13, 14] _).tr s188 (fun _ q => q) (by simp)).tr s193 (fun _ q => q) (by simp)).tr s198 (fun _ q => q) (by simp)).tr s202 (fun _ q => q) (by simp)).tr sQ (fun _ q => q) (fun _ q => q)) uQ0 uQ1 uQ2 uQ3 uQ4 uQ5)
                        · refine g_iload_n 6 dX2_hasNumber_5 rfl rfl ?_
                          refine g_bipush (v := iZ (7)) 8 dX2_hasNumber_6 (by decide +kernel) rfl ?_
                          refine g_icZ_le 23 11 dX2_hasNumber_8 rfl rfl (by omega) (by decide) (fun c212 => ?_) (fun c212 => ?_)
                          · refine g_iconst (v := iZ (1)) 24 dX2_hasNumber_23 rfl rfl ?_
                            refine g_goto 28 dX2_hasNumber_24 rfl ?_
                            refine g_zret rfl z01_1 dX2_hasNumber_28 ?_
                            refine rI ?_
                            refine g_ifZ_eq 40 36 dX4_takesWord_33 rfl rfl (by decide) (fun q => absurd q (by decide)) (fun _ => ?_)
                            refine g_iconst (v := iZ (2)) 37 dX4_takesWord_36 rfl rfl ?_
                            refine g_goto 41 dX4_takesWord_37 rfl ?_
                            refine g_putC (fs1 := [.ref 10, .ref 13, .ref 14, .int (iZ 2), .int (iZ la)]) 44 dX4_takesWord_41 fpX4_18_X4 F0 (nle rfl) (vI _) rfl rfl (fun h213 s214 f215 => ?_)
                            refine g_aload_n 45 dX4_takesWord_44 rfl rfl ?_
                            refine g_get 48 dX4_takesWord_45 faX4_45_X4 f215 rfl rfl ?_
                            refine g_iload_n 49 dX4_takesWord_48 rfl rfl ?_
                            refine g_iload_n 50 dX4_takesWord_49 rfl rfl ?_
                            have f216 := (s214.get (by decide) F1)
                            refine g_callV (z := mX0_add) (As := [.int (iZ z182), .int (iZ av)]) 53 dX4_takesWord_50 mwX0_add ⟨by decide, by decide⟩ rfl wlX4_95 wiX0_add wsX0_add f216 rfl rfl rfl (nle rfl) (nle rfl) rfl ?_
                            refine Go.to [some (.ref 10), some (.int (iZ z182)), some (.int (iZ av))] [] rfl rfl ?_
                            refine g_aload_n 1 dX0_add_0 rfl rfl ?_
                            refine g_get 4 dX0_add_1 faX0_9_X0 f216 rfl rfl ?_
                            refine g_ifZ_lt 18 7 dX0_add_4 rfl rfl (by omega) (fun q => absurd q (by omega)) (fun _ => ?_)
                            refine g_aload_n 8 dX0_add_7 rfl rfl ?_
                            refine g_get 11 dX0_add_8 faX0_9_X0 f216 rfl rfl ?_
                            refine g_aload_n 12 dX0_add_11 rfl rfl ?_
                            refine g_get 15 dX0_add_12 faX0_21_X0 f216 rfl rfl ?_
                            refine g_icZ_lt 20 18 dX0_add_15 rfl rfl (by omega) (by decide) (fun _ => ?_) (fun q => absurd q (by omega))
                            refine g_aload_n 21 dX0_add_20 rfl rfl ?_
                            refine g_get 24 dX0_add_21 faX0_24_X0 f216 rfl rfl ?_
                            refine g_aload_n 25 dX0_add_24 rfl rfl ?_
                            refine g_get 28 dX0_add_25 faX0_9_X0 f216 rfl rfl ?_
                            refine g_iload_n 29 dX0_add_28 rfl rfl ?_
                            have f217 := (s214.get (by decide) F2)
                            refine g_iastFj (n.toNat) 30 dX0_add_29 f217 (by omega) (by omega) (by decide) rfl rfl (fun h218 s219 f220 => ?_)
                            refine g_aload_n 31 dX0_add_30 rfl rfl ?_
                            have f221 := (s219.get (by decide) f216)
                            refine g_get 34 dX0_add_31 faX0_28_X0 f221 rfl rfl ?_
                            refine g_aload_n 35 dX0_add_34 rfl rfl ?_
                            refine g_get 38 dX0_add_35 faX0_9_X0 f221 rfl rfl ?_
                            refine g_iload_n 39 dX0_add_38 rfl rfl ?_
                            have f222 := (s219.get (by decide) (s214.get (by decide) F3))
                            refine g_iastFj (n.toNat) 40 dX0_add_39 f222 (by omega) (by omega) (by decide) rfl rfl (fun h223 s224 f225 => ?_)
                            refine g_aload_n 41 dX0_add_40 rfl rfl ?_
                            refine g_dup 42 dX0_add_41 rfl rfl ?_
                            have f226 := (s224.get (by decide) f221)
                            refine g_get 45 dX0_add_42 faX0_9_X0 f226 rfl rfl ?_
                            refine g_iconst (v := iZ (1)) 46 dX0_add_45 rfl rfl ?_
                            refine g_iaddZ (n + 1) 47 dX0_add_46 (by omega) rfl ?_
                            refine g_putC (fs1 := [.int (iZ 256), .ref 11, .ref 12, .int (iZ (n + 1))]) 50 dX0_add_47 fpX0_9_X0 f226 (nle rfl) (vI _) rfl rfl (fun h227 s228 f229 => ?_)
                            refine g_iconst (v := iZ (1)) 51 dX0_add_50 rfl rfl ?_
                            refine g_zret rfl z01_1 dX0_add_51 ?_
                            refine rI ?_
                            refine g_zret rfl z01_1 dX4_takesWord_53 ?_
                            refine rI ?_
                            refine g_zret rfl z01_1 dX4_takes_93 ?_
                            refine rI ?_
                            refine g_ifZ_ne 52 50 dX4_faultIn_47 rfl rfl (by decide) (fun _ => ?_) (fun q => absurd q (by decide))
                            refine g_aload_n 53 dX4_faultIn_52 rfl rfl ?_
                            refine g_iload_n 54 dX4_faultIn_53 rfl rfl ?_
                            refine g_iload 56 dX4_faultIn_54 rfl rfl ?_
                            refine g_iaddZ (av + z31) 57 dX4_faultIn_56 (by omega) rfl ?_
                            have f230 := (s228.get (by simp <;> omega) (s224.get (by simp <;> omega) (s219.get (by simp <;> omega) (s214.get (by simp <;> omega) F6))))
                            refine g_callV (z := mX6_pastGap) (As := [.int (iZ (av + z31))]) 60 dX4_faultIn_57 mwX6_pastGap ⟨by decide, by decide⟩ rfl wlX4_28 wiX6_pastGap wsX6_pastGap f230 rfl rfl rfl (nle rfl) (nle rfl) rfl ?_
                            have f231 := (s228.get (by simp <;> omega) (s224.get (by simp <;> omega) (s219.get (by simp <;> omega) (s214.get (by simp <;> omega) F7))))
                            refine c_gap  f230 f231 otf (by omega) (by omega) (by omega) (fun z232 rz232 => ?_)
                            refine rI ?_
                            obtain ⟨gz232, bz232⟩ := rz232
                            refine g_istore_n (L1 := [some (.ref 9), some (.ref t), some (.int (iZ z232)), some (.int (iZ j)), some (.int (iZ z31))]) 61 dX4_faultIn_60 (by decide) rfl rfl rfl ?_
                            refine g_iincZ [some (.ref 9), some (.ref t), some (.int (iZ z232)), some (.int (iZ (j + 1))), some (.int (iZ z31))] 64 dX4_faultIn_61 rfl (by omega) (by decide) rfl rfl rfl ?_
                            refine g_goto 12 dX4_faultIn_64 rfl ?_
                            refine Go.fgt 4 ?_
                            have f233 := (s228.get (by decide) (s224.get (by decide) (s219.get (by decide) f215)))
                            have f234 := (s228.get (by decide) (s224.get (by decide) f220))
                            have f235 := (s228.get (by decide) f225)
                            have f236 := (s228.get (by decide) (s224.get (by decide) (s219.get (by decide) (s214.get (by decide) F4))))
                            have f237 := (s228.get (by decide) (s224.get (by decide) (s219.get (by decide) (s214.get (by decide) F5))))
                            exact ih _ (by omega) _ (2) (la) (n + 1) (va_up f n.toNat z182) (va_up g n.toNat av) (pl) (lu) (z232) (j + 1) rfl (by omega) (by omega) (by omega) (oki_up of _ (by omega)) (oki_up og _ (by omega)) opl olu f233 f229 f234 f235 f236 f237 f230 f231 (by omega) (by omega) hok (by rw [gz232, show av + z31 = tkE tn (fun j => tf j.toNat) av by rw [rz31]; exact tkS_E (by rw [← rz31]; omega)]; exact (C_w hC (by omega) (by omega) (by omega) eW ez182 (by omega) (by omega)).2.1 (by omega) (by unfold hsn; omega)) (fun hQ xQ0 xQ1 xQ2 xQ3 xQ4 xQ5 xQ6 rQ yQ0 yQ1 yQ2 yQ3 yQ4 yQ5 yQ6 yQ7 pQ0 sQ uQ0 uQ1 uQ2 uQ3 uQ4 uQ5 => k hQ xQ0 xQ1 xQ2 xQ3 xQ4 xQ5 xQ6 rQ yQ0 yQ1 yQ2 yQ3 yQ4 yQ5 yQ6 yQ7 pQ0 ((((((Sm.refl [9, 10, 11, 12, 13, 14] _).tr s214 (fun _ q => q) (by simp)).tr s219 (fun _ q => q) (by simp)).tr s224 (fun _ q => q) (by simp)).tr s228 (fun _ q => q) (by simp)).tr sQ (fun _ q => q) (fun _ q => q)) uQ0 uQ1 uQ2 uQ3 uQ4 uQ5)
                          · refine g_iload_n 12 dX2_hasNumber_11 rfl rfl ?_
                            refine g_bipush (v := iZ (11)) 14 dX2_hasNumber_12 (by decide +kernel) rfl ?_
                            refine g_icZ_lt 27 17 dX2_hasNumber_14 rfl rfl (by omega) (by decide) (fun c238 => ?_) (fun c238 => ?_)
                            · refine g_iconst (v := iZ (0)) 28 dX2_hasNumber_27 rfl rfl ?_
                              refine g_zret rfl z01_0 dX2_hasNumber_28 ?_
                              refine rI ?_
                              refine g_ifZ_eq 40 36 dX4_takesWord_33 rfl rfl (by decide) (fun _ => ?_) (fun q => absurd q (by decide))
                              refine g_iconst (v := iZ (0)) 41 dX4_takesWord_40 rfl rfl ?_
                              refine g_putC (fs1 := [.ref 10, .ref 13, .ref 14, .int (iZ 0), .int (iZ la)]) 44 dX4_takesWord_41 fpX4_18_X4 F0 (nle rfl) (vI _) rfl rfl (fun h239 s240 f241 => ?_)
                              refine g_aload_n 45 dX4_takesWord_44 rfl rfl ?_
                              refine g_get 48 dX4_takesWord_45 faX4_45_X4 f241 rfl rfl ?_
                              refine g_iload_n 49 dX4_takesWord_48 rfl rfl ?_
                              refine g_iload_n 50 dX4_takesWord_49 rfl rfl ?_
                              have f242 := (s240.get (by decide) F1)
                              refine g_callV (z := mX0_add) (As := [.int (iZ z182), .int (iZ av)]) 53 dX4_takesWord_50 mwX0_add ⟨by decide, by decide⟩ rfl wlX4_95 wiX0_add wsX0_add f242 rfl rfl rfl (nle rfl) (nle rfl) rfl ?_
                              refine Go.to [some (.ref 10), some (.int (iZ z182)), some (.int (iZ av))] [] rfl rfl ?_
                              refine g_aload_n 1 dX0_add_0 rfl rfl ?_
                              refine g_get 4 dX0_add_1 faX0_9_X0 f242 rfl rfl ?_
                              refine g_ifZ_lt 18 7 dX0_add_4 rfl rfl (by omega) (fun q => absurd q (by omega)) (fun _ => ?_)
                              refine g_aload_n 8 dX0_add_7 rfl rfl ?_
                              refine g_get 11 dX0_add_8 faX0_9_X0 f242 rfl rfl ?_
                              refine g_aload_n 12 dX0_add_11 rfl rfl ?_
                              refine g_get 15 dX0_add_12 faX0_21_X0 f242 rfl rfl ?_
                              refine g_icZ_lt 20 18 dX0_add_15 rfl rfl (by omega) (by decide) (fun _ => ?_) (fun q => absurd q (by omega))
                              refine g_aload_n 21 dX0_add_20 rfl rfl ?_
                              refine g_get 24 dX0_add_21 faX0_24_X0 f242 rfl rfl ?_
                              refine g_aload_n 25 dX0_add_24 rfl rfl ?_
                              refine g_get 28 dX0_add_25 faX0_9_X0 f242 rfl rfl ?_
                              refine g_iload_n 29 dX0_add_28 rfl rfl ?_
                              have f243 := (s240.get (by decide) F2)
                              refine g_iastFj (n.toNat) 30 dX0_add_29 f243 (by omega) (by omega) (by decide) rfl rfl (fun h244 s245 f246 => ?_)
                              refine g_aload_n 31 dX0_add_30 rfl rfl ?_
                              have f247 := (s245.get (by decide) f242)
                              refine g_get 34 dX0_add_31 faX0_28_X0 f247 rfl rfl ?_
                              refine g_aload_n 35 dX0_add_34 rfl rfl ?_
                              refine g_get 38 dX0_add_35 faX0_9_X0 f247 rfl rfl ?_
                              refine g_iload_n 39 dX0_add_38 rfl rfl ?_
                              have f248 := (s245.get (by decide) (s240.get (by decide) F3))
                              refine g_iastFj (n.toNat) 40 dX0_add_39 f248 (by omega) (by omega) (by decide) rfl rfl (fun h249 s250 f251 => ?_)
                              refine g_aload_n 41 dX0_add_40 rfl rfl ?_
                              refine g_dup 42 dX0_add_41 rfl rfl ?_
                              have f252 := (s250.get (by decide) f247)
                              refine g_get 45 dX0_add_42 faX0_9_X0 f252 rfl rfl ?_
                              refine g_iconst (v := iZ (1)) 46 dX0_add_45 rfl rfl ?_
                              refine g_iaddZ (n + 1) 47 dX0_add_46 (by omega) rfl ?_
                              refine g_putC (fs1 := [.int (iZ 256), .ref 11, .ref 12, .int (iZ (n + 1))]) 50 dX0_add_47 fpX0_9_X0 f252 (nle rfl) (vI _) rfl rfl (fun h253 s254 f255 => ?_)
                              refine g_iconst (v := iZ (1)) 51 dX0_add_50 rfl rfl ?_
                              refine g_zret rfl z01_1 dX0_add_51 ?_
                              refine rI ?_
                              refine g_zret rfl z01_1 dX4_takesWord_53 ?_
                              refine rI ?_
                              refine g_zret rfl z01_1 dX4_takes_93 ?_
                              refine rI ?_
                              refine g_ifZ_ne 52 50 dX4_faultIn_47 rfl rfl (by decide) (fun _ => ?_) (fun q => absurd q (by decide))
                              refine g_aload_n 53 dX4_faultIn_52 rfl rfl ?_
                              refine g_iload_n 54 dX4_faultIn_53 rfl rfl ?_
                              refine g_iload 56 dX4_faultIn_54 rfl rfl ?_
                              refine g_iaddZ (av + z31) 57 dX4_faultIn_56 (by omega) rfl ?_
                              have f256 := (s254.get (by simp <;> omega) (s250.get (by simp <;> omega) (s245.get (by simp <;> omega) (s240.get (by simp <;> omega) F6))))
                              refine g_callV (z := mX6_pastGap) (As := [.int (iZ (av + z31))]) 60 dX4_faultIn_57 mwX6_pastGap ⟨by decide, by decide⟩ rfl wlX4_28 wiX6_pastGap wsX6_pastGap f256 rfl rfl rfl (nle rfl) (nle rfl) rfl ?_
                              have f257 := (s254.get (by simp <;> omega) (s250.get (by simp <;> omega) (s245.get (by simp <;> omega) (s240.get (by simp <;> omega) F7))))
                              refine c_gap  f256 f257 otf (by omega) (by omega) (by omega) (fun z258 rz258 => ?_)
                              refine rI ?_
                              obtain ⟨gz258, bz258⟩ := rz258
                              refine g_istore_n (L1 := [some (.ref 9), some (.ref t), some (.int (iZ z258)), some (.int (iZ j)), some (.int (iZ z31))]) 61 dX4_faultIn_60 (by decide) rfl rfl rfl ?_
                              refine g_iincZ [some (.ref 9), some (.ref t), some (.int (iZ z258)), some (.int (iZ (j + 1))), some (.int (iZ z31))] 64 dX4_faultIn_61 rfl (by omega) (by decide) rfl rfl rfl ?_
                              refine g_goto 12 dX4_faultIn_64 rfl ?_
                              refine Go.fgt 4 ?_
                              have f259 := (s254.get (by decide) (s250.get (by decide) (s245.get (by decide) f241)))
                              have f260 := (s254.get (by decide) (s250.get (by decide) f246))
                              have f261 := (s254.get (by decide) f251)
                              have f262 := (s254.get (by decide) (s250.get (by decide) (s245.get (by decide) (s240.get (by decide) F4))))
                              have f263 := (s254.get (by decide) (s250.get (by decide) (s245.get (by decide) (s240.get (by decide) F5))))
                              exact ih _ (by omega) _ (0) (la) (n + 1) (va_up f n.toNat z182) (va_up g n.toNat av) (pl) (lu) (z258) (j + 1) rfl (by omega) (by omega) (by omega) (oki_up of _ (by omega)) (oki_up og _ (by omega)) opl olu f259 f255 f260 f261 f262 f263 f256 f257 (by omega) (by omega) hok (by rw [gz258, show av + z31 = tkE tn (fun j => tf j.toNat) av by rw [rz31]; exact tkS_E (by rw [← rz31]; omega)]; exact (C_w hC (by omega) (by omega) (by omega) eW ez182 (by omega) (by omega)).2.2 (by omega) (by unfold hsn; omega)) (fun hQ xQ0 xQ1 xQ2 xQ3 xQ4 xQ5 xQ6 rQ yQ0 yQ1 yQ2 yQ3 yQ4 yQ5 yQ6 yQ7 pQ0 sQ uQ0 uQ1 uQ2 uQ3 uQ4 uQ5 => k hQ xQ0 xQ1 xQ2 xQ3 xQ4 xQ5 xQ6 rQ yQ0 yQ1 yQ2 yQ3 yQ4 yQ5 yQ6 yQ7 pQ0 ((((((Sm.refl [9, 10, 11, 12, 13, 14] _).tr s240 (fun _ q => q) (by simp)).tr s245 (fun _ q => q) (by simp)).tr s250 (fun _ q => q) (by simp)).tr s254 (fun _ q => q) (by simp)).tr sQ (fun _ q => q) (fun _ q => q)) uQ0 uQ1 uQ2 uQ3 uQ4 uQ5)
                            · refine g_iload_n 18 dX2_hasNumber_17 rfl rfl ?_
                              refine g_bipush (v := iZ (15)) 20 dX2_hasNumber_18 (by decide +kernel) rfl ?_
                              refine g_icZ_gt 27 23 dX2_hasNumber_20 rfl rfl (by omega) (by decide) (fun c264 => ?_) (fun c264 => ?_)
                              · refine g_iconst (v := iZ (0)) 28 dX2_hasNumber_27 rfl rfl ?_
                                refine g_zret rfl z01_0 dX2_hasNumber_28 ?_
                                refine rI ?_
                                refine g_ifZ_eq 40 36 dX4_takesWord_33 rfl rfl (by decide) (fun _ => ?_) (fun q => absurd q (by decide))
                                refine g_iconst (v := iZ (0)) 41 dX4_takesWord_40 rfl rfl ?_
                                refine g_putC (fs1 := [.ref 10, .ref 13, .ref 14, .int (iZ 0), .int (iZ la)]) 44 dX4_takesWord_41 fpX4_18_X4 F0 (nle rfl) (vI _) rfl rfl (fun h265 s266 f267 => ?_)
                                refine g_aload_n 45 dX4_takesWord_44 rfl rfl ?_
                                refine g_get 48 dX4_takesWord_45 faX4_45_X4 f267 rfl rfl ?_
                                refine g_iload_n 49 dX4_takesWord_48 rfl rfl ?_
                                refine g_iload_n 50 dX4_takesWord_49 rfl rfl ?_
                                have f268 := (s266.get (by decide) F1)
                                refine g_callV (z := mX0_add) (As := [.int (iZ z182), .int (iZ av)]) 53 dX4_takesWord_50 mwX0_add ⟨by decide, by decide⟩ rfl wlX4_95 wiX0_add wsX0_add f268 rfl rfl rfl (nle rfl) (nle rfl) rfl ?_
                                refine Go.to [some (.ref 10), some (.int (iZ z182)), some (.int (iZ av))] [] rfl rfl ?_
                                refine g_aload_n 1 dX0_add_0 rfl rfl ?_
                                refine g_get 4 dX0_add_1 faX0_9_X0 f268 rfl rfl ?_
                                refine g_ifZ_lt 18 7 dX0_add_4 rfl rfl (by omega) (fun q => absurd q (by omega)) (fun _ => ?_)
                                refine g_aload_n 8 dX0_add_7 rfl rfl ?_
                                refine g_get 11 dX0_add_8 faX0_9_X0 f268 rfl rfl ?_
                                refine g_aload_n 12 dX0_add_11 rfl rfl ?_
                                refine g_get 15 dX0_add_12 faX0_21_X0 f268 rfl rfl ?_
                                refine g_icZ_lt 20 18 dX0_add_15 rfl rfl (by omega) (by decide) (fun _ => ?_) (fun q => absurd q (by omega))
                                refine g_aload_n 21 dX0_add_20 rfl rfl ?_
                                refine g_get 24 dX0_add_21 faX0_24_X0 f268 rfl rfl ?_
                                refine g_aload_n 25 dX0_add_24 rfl rfl ?_
                                refine g_get 28 dX0_add_25 faX0_9_X0 f268 rfl rfl ?_
                                refine g_iload_n 29 dX0_add_28 rfl rfl ?_
                                have f269 := (s266.get (by decide) F2)
                                refine g_iastFj (n.toNat) 30 dX0_add_29 f269 (by omega) (by omega) (by decide) rfl rfl (fun h270 s271 f272 => ?_)
                                refine g_aload_n 31 dX0_add_30 rfl rfl ?_
                                have f273 := (s271.get (by decide) f268)
                                refine g_get 34 dX0_add_31 faX0_28_X0 f273 rfl rfl ?_
                                refine g_aload_n 35 dX0_add_34 rfl rfl ?_
                                refine g_get 38 dX0_add_35 faX0_9_X0 f273 rfl rfl ?_
                                refine g_iload_n 39 dX0_add_38 rfl rfl ?_
                                have f274 := (s271.get (by decide) (s266.get (by decide) F3))
                                refine g_iastFj (n.toNat) 40 dX0_add_39 f274 (by omega) (by omega) (by decide) rfl rfl (fun h275 s276 f277 => ?_)
                                refine g_aload_n 41 dX0_add_40 rfl rfl ?_
                                refine g_dup 42 dX0_add_41 rfl rfl ?_
                                have f278 := (s276.get (by decide) f273)
                                refine g_get 45 dX0_add_42 faX0_9_X0 f278 rfl rfl ?_
                                refine g_iconst (v := iZ (1)) 46 dX0_add_45 rfl rfl ?_
                                refine g_iaddZ (n + 1) 47 dX0_add_46 (by omega) rfl ?_
                                refine g_putC (fs1 := [.int (iZ 256), .ref 11, .ref 12, .int (iZ (n + 1))]) 50 dX0_add_47 fpX0_9_X0 f278 (nle rfl) (vI _) rfl rfl (fun h279 s280 f281 => ?_)
                                refine g_iconst (v := iZ (1)) 51 dX0_add_50 rfl rfl ?_
                                refine g_zret rfl z01_1 dX0_add_51 ?_
                                refine rI ?_
                                refine g_zret rfl z01_1 dX4_takesWord_53 ?_
                                refine rI ?_
                                refine g_zret rfl z01_1 dX4_takes_93 ?_
                                refine rI ?_
                                refine g_ifZ_ne 52 50 dX4_faultIn_47 rfl rfl (by decide) (fun _ => ?_) (fun q => absurd q (by decide))
                                refine g_aload_n 53 dX4_faultIn_52 rfl rfl ?_
                                refine g_iload_n 54 dX4_faultIn_53 rfl rfl ?_
                                refine g_iload 56 dX4_faultIn_54 rfl rfl ?_
                                refine g_iaddZ (av + z31) 57 dX4_faultIn_56 (by omega) rfl ?_
                                have f282 := (s280.get (by simp <;> omega) (s276.get (by simp <;> omega) (s271.get (by simp <;> omega) (s266.get (by simp <;> omega) F6))))
                                refine g_callV (z := mX6_pastGap) (As := [.int (iZ (av + z31))]) 60 dX4_faultIn_57 mwX6_pastGap ⟨by decide, by decide⟩ rfl wlX4_28 wiX6_pastGap wsX6_pastGap f282 rfl rfl rfl (nle rfl) (nle rfl) rfl ?_
                                have f283 := (s280.get (by simp <;> omega) (s276.get (by simp <;> omega) (s271.get (by simp <;> omega) (s266.get (by simp <;> omega) F7))))
                                refine c_gap  f282 f283 otf (by omega) (by omega) (by omega) (fun z284 rz284 => ?_)
                                refine rI ?_
                                obtain ⟨gz284, bz284⟩ := rz284
                                refine g_istore_n (L1 := [some (.ref 9), some (.ref t), some (.int (iZ z284)), some (.int (iZ j)), some (.int (iZ z31))]) 61 dX4_faultIn_60 (by decide) rfl rfl rfl ?_
                                refine g_iincZ [some (.ref 9), some (.ref t), some (.int (iZ z284)), some (.int (iZ (j + 1))), some (.int (iZ z31))] 64 dX4_faultIn_61 rfl (by omega) (by decide) rfl rfl rfl ?_
                                refine g_goto 12 dX4_faultIn_64 rfl ?_
                                refine Go.fgt 4 ?_
                                have f285 := (s280.get (by decide) (s276.get (by decide) (s271.get (by decide) f267)))
                                have f286 := (s280.get (by decide) (s276.get (by decide) f272))
                                have f287 := (s280.get (by decide) f277)
                                have f288 := (s280.get (by decide) (s276.get (by decide) (s271.get (by decide) (s266.get (by decide) F4))))
                                have f289 := (s280.get (by decide) (s276.get (by decide) (s271.get (by decide) (s266.get (by decide) F5))))
                                exact ih _ (by omega) _ (0) (la) (n + 1) (va_up f n.toNat z182) (va_up g n.toNat av) (pl) (lu) (z284) (j + 1) rfl (by omega) (by omega) (by omega) (oki_up of _ (by omega)) (oki_up og _ (by omega)) opl olu f285 f281 f286 f287 f288 f289 f282 f283 (by omega) (by omega) hok (by rw [gz284, show av + z31 = tkE tn (fun j => tf j.toNat) av by rw [rz31]; exact tkS_E (by rw [← rz31]; omega)]; exact (C_w hC (by omega) (by omega) (by omega) eW ez182 (by omega) (by omega)).2.2 (by omega) (by unfold hsn; omega)) (fun hQ xQ0 xQ1 xQ2 xQ3 xQ4 xQ5 xQ6 rQ yQ0 yQ1 yQ2 yQ3 yQ4 yQ5 yQ6 yQ7 pQ0 sQ uQ0 uQ1 uQ2 uQ3 uQ4 uQ5 => k hQ xQ0 xQ1 xQ2 xQ3 xQ4 xQ5 xQ6 rQ yQ0 yQ1 yQ2 yQ3 yQ4 yQ5 yQ6 yQ7 pQ0 ((((((Sm.refl [9, 10, 11, 12, 13, 14] _).tr s266 (fun _ q => q) (by simp)).tr s271 (fun _ q => q) (by simp)).tr s276 (fun _ q => q) (by simp)).tr s280 (fun _ q => q) (by simp)).tr sQ (fun _ q => q) (fun _ q => q)) uQ0 uQ1 uQ2 uQ3 uQ4 uQ5)
                              · refine g_iconst (v := iZ (1)) 24 dX2_hasNumber_23 rfl rfl ?_
                                refine g_goto 28 dX2_hasNumber_24 rfl ?_
                                refine g_zret rfl z01_1 dX2_hasNumber_28 ?_
                                refine rI ?_
                                refine g_ifZ_eq 40 36 dX4_takesWord_33 rfl rfl (by decide) (fun q => absurd q (by decide)) (fun _ => ?_)
                                refine g_iconst (v := iZ (2)) 37 dX4_takesWord_36 rfl rfl ?_
                                refine g_goto 41 dX4_takesWord_37 rfl ?_
                                refine g_putC (fs1 := [.ref 10, .ref 13, .ref 14, .int (iZ 2), .int (iZ la)]) 44 dX4_takesWord_41 fpX4_18_X4 F0 (nle rfl) (vI _) rfl rfl (fun h290 s291 f292 => ?_)
                                refine g_aload_n 45 dX4_takesWord_44 rfl rfl ?_
                                refine g_get 48 dX4_takesWord_45 faX4_45_X4 f292 rfl rfl ?_
                                refine g_iload_n 49 dX4_takesWord_48 rfl rfl ?_
                                refine g_iload_n 50 dX4_takesWord_49 rfl rfl ?_
                                have f293 := (s291.get (by decide) F1)
                                refine g_callV (z := mX0_add) (As := [.int (iZ z182), .int (iZ av)]) 53 dX4_takesWord_50 mwX0_add ⟨by decide, by decide⟩ rfl wlX4_95 wiX0_add wsX0_add f293 rfl rfl rfl (nle rfl) (nle rfl) rfl ?_
                                refine Go.to [some (.ref 10), some (.int (iZ z182)), some (.int (iZ av))] [] rfl rfl ?_
                                refine g_aload_n 1 dX0_add_0 rfl rfl ?_
                                refine g_get 4 dX0_add_1 faX0_9_X0 f293 rfl rfl ?_
                                refine g_ifZ_lt 18 7 dX0_add_4 rfl rfl (by omega) (fun q => absurd q (by omega)) (fun _ => ?_)
                                refine g_aload_n 8 dX0_add_7 rfl rfl ?_
                                refine g_get 11 dX0_add_8 faX0_9_X0 f293 rfl rfl ?_
                                refine g_aload_n 12 dX0_add_11 rfl rfl ?_
                                refine g_get 15 dX0_add_12 faX0_21_X0 f293 rfl rfl ?_
                                refine g_icZ_lt 20 18 dX0_add_15 rfl rfl (by omega) (by decide) (fun _ => ?_) (fun q => absurd q (by omega))
                                refine g_aload_n 21 dX0_add_20 rfl rfl ?_
                                refine g_get 24 dX0_add_21 faX0_24_X0 f293 rfl rfl ?_
                                refine g_aload_n 25 dX0_add_24 rfl rfl ?_
                                refine g_get 28 dX0_add_25 faX0_9_X0 f293 rfl rfl ?_
                                refine g_iload_n 29 dX0_add_28 rfl rfl ?_
                                have f294 := (s291.get (by decide) F2)
                                refine g_iastFj (n.toNat) 30 dX0_add_29 f294 (by omega) (by omega) (by decide) rfl rfl (fun h295 s296 f297 => ?_)
                                refine g_aload_n 31 dX0_add_30 rfl rfl ?_
                                have f298 := (s296.get (by decide) f293)
                                refine g_get 34 dX0_add_31 faX0_28_X0 f298 rfl rfl ?_
                                refine g_aload_n 35 dX0_add_34 rfl rfl ?_
                                refine g_get 38 dX0_add_35 faX0_9_X0 f298 rfl rfl ?_
                                refine g_iload_n 39 dX0_add_38 rfl rfl ?_
                                have f299 := (s296.get (by decide) (s291.get (by decide) F3))
                                refine g_iastFj (n.toNat) 40 dX0_add_39 f299 (by omega) (by omega) (by decide) rfl rfl (fun h300 s301 f302 => ?_)
                                refine g_aload_n 41 dX0_add_40 rfl rfl ?_
                                refine g_dup 42 dX0_add_41 rfl rfl ?_
                                have f303 := (s301.get (by decide) f298)
                                refine g_get 45 dX0_add_42 faX0_9_X0 f303 rfl rfl ?_
                                refine g_iconst (v := iZ (1)) 46 dX0_add_45 rfl rfl ?_
                                refine g_iaddZ (n + 1) 47 dX0_add_46 (by omega) rfl ?_
                                refine g_putC (fs1 := [.int (iZ 256), .ref 11, .ref 12, .int (iZ (n + 1))]) 50 dX0_add_47 fpX0_9_X0 f303 (nle rfl) (vI _) rfl rfl (fun h304 s305 f306 => ?_)
                                refine g_iconst (v := iZ (1)) 51 dX0_add_50 rfl rfl ?_
                                refine g_zret rfl z01_1 dX0_add_51 ?_
                                refine rI ?_
                                refine g_zret rfl z01_1 dX4_takesWord_53 ?_
                                refine rI ?_
                                refine g_zret rfl z01_1 dX4_takes_93 ?_
                                refine rI ?_
                                refine g_ifZ_ne 52 50 dX4_faultIn_47 rfl rfl (by decide) (fun _ => ?_) (fun q => absurd q (by decide))
                                refine g_aload_n 53 dX4_faultIn_52 rfl rfl ?_
                                refine g_iload_n 54 dX4_faultIn_53 rfl rfl ?_
                                refine g_iload 56 dX4_faultIn_54 rfl rfl ?_
                                refine g_iaddZ (av + z31) 57 dX4_faultIn_56 (by omega) rfl ?_
                                have f307 := (s305.get (by simp <;> omega) (s301.get (by simp <;> omega) (s296.get (by simp <;> omega) (s291.get (by simp <;> omega) F6))))
                                refine g_callV (z := mX6_pastGap) (As := [.int (iZ (av + z31))]) 60 dX4_faultIn_57 mwX6_pastGap ⟨by decide, by decide⟩ rfl wlX4_28 wiX6_pastGap wsX6_pastGap f307 rfl rfl rfl (nle rfl) (nle rfl) rfl ?_
                                have f308 := (s305.get (by simp <;> omega) (s301.get (by simp <;> omega) (s296.get (by simp <;> omega) (s291.get (by simp <;> omega) F7))))
                                refine c_gap  f307 f308 otf (by omega) (by omega) (by omega) (fun z309 rz309 => ?_)
                                refine rI ?_
                                obtain ⟨gz309, bz309⟩ := rz309
                                refine g_istore_n (L1 := [some (.ref 9), some (.ref t), some (.int (iZ z309)), some (.int (iZ j)), some (.int (iZ z31))]) 61 dX4_faultIn_60 (by decide) rfl rfl rfl ?_
                                refine g_iincZ [some (.ref 9), some (.ref t), some (.int (iZ z309)), some (.int (iZ (j + 1))), some (.int (iZ z31))] 64 dX4_faultIn_61 rfl (by omega) (by decide) rfl rfl rfl ?_
                                refine g_goto 12 dX4_faultIn_64 rfl ?_
                                refine Go.fgt 4 ?_
                                have f310 := (s305.get (by decide) (s301.get (by decide) (s296.get (by decide) f292)))
                                have f311 := (s305.get (by decide) (s301.get (by decide) f297))
                                have f312 := (s305.get (by decide) f302)
                                have f313 := (s305.get (by decide) (s301.get (by decide) (s296.get (by decide) (s291.get (by decide) F4))))
                                have f314 := (s305.get (by decide) (s301.get (by decide) (s296.get (by decide) (s291.get (by decide) F5))))
                                exact ih _ (by omega) _ (2) (la) (n + 1) (va_up f n.toNat z182) (va_up g n.toNat av) (pl) (lu) (z309) (j + 1) rfl (by omega) (by omega) (by omega) (oki_up of _ (by omega)) (oki_up og _ (by omega)) opl olu f310 f306 f311 f312 f313 f314 f307 f308 (by omega) (by omega) hok (by rw [gz309, show av + z31 = tkE tn (fun j => tf j.toNat) av by rw [rz31]; exact tkS_E (by rw [← rz31]; omega)]; exact (C_w hC (by omega) (by omega) (by omega) eW ez182 (by omega) (by omega)).2.1 (by omega) (by unfold hsn; omega)) (fun hQ xQ0 xQ1 xQ2 xQ3 xQ4 xQ5 xQ6 rQ yQ0 yQ1 yQ2 yQ3 yQ4 yQ5 yQ6 yQ7 pQ0 sQ uQ0 uQ1 uQ2 uQ3 uQ4 uQ5 => k hQ xQ0 xQ1 xQ2 xQ3 xQ4 xQ5 xQ6 rQ yQ0 yQ1 yQ2 yQ3 yQ4 yQ5 yQ6 yQ7 pQ0 ((((((Sm.refl [9, 10, 11, 12, 13, 14] _).tr s291 (fun _ q => q) (by simp)).tr s296 (fun _ q => q) (by simp)).tr s301 (fun _ q => q) (by simp)).tr s305 (fun _ q => q) (by simp)).tr sQ (fun _ q => q) (fun _ q => q)) uQ0 uQ1 uQ2 uQ3 uQ4 uQ5)
                      · refine g_aload_n 22 dX4_takesWord_21 rfl rfl ?_
                        refine g_iconst (v := iZ (2)) 23 dX4_takesWord_22 rfl rfl ?_
                        refine g_putC (fs1 := [.ref 10, .ref 13, .ref 14, .int (iZ 2), .int (iZ la)]) 26 dX4_takesWord_23 fpX4_18_X4 F0 (nle rfl) (vI _) rfl rfl (fun h315 s316 f317 => ?_)
                        refine g_iconst (v := iZ (1)) 27 dX4_takesWord_26 rfl rfl ?_
                        refine g_zret rfl z01_1 dX4_takesWord_27 ?_
                        refine rI ?_
                        refine g_zret rfl z01_1 dX4_takes_93 ?_
                        refine rI ?_
                        refine g_ifZ_ne 52 50 dX4_faultIn_47 rfl rfl (by decide) (fun _ => ?_) (fun q => absurd q (by decide))
                        refine g_aload_n 53 dX4_faultIn_52 rfl rfl ?_
                        refine g_iload_n 54 dX4_faultIn_53 rfl rfl ?_
                        refine g_iload 56 dX4_faultIn_54 rfl rfl ?_
                        refine g_iaddZ (av + z31) 57 dX4_faultIn_56 (by omega) rfl ?_
                        have f318 := (s316.get (by simp <;> omega) F6)
                        refine g_callV (z := mX6_pastGap) (As := [.int (iZ (av + z31))]) 60 dX4_faultIn_57 mwX6_pastGap ⟨by decide, by decide⟩ rfl wlX4_28 wiX6_pastGap wsX6_pastGap f318 rfl rfl rfl (nle rfl) (nle rfl) rfl ?_
                        have f319 := (s316.get (by simp <;> omega) F7)
                        refine c_gap  f318 f319 otf (by omega) (by omega) (by omega) (fun z320 rz320 => ?_)
                        refine rI ?_
                        obtain ⟨gz320, bz320⟩ := rz320
                        refine g_istore_n (L1 := [some (.ref 9), some (.ref t), some (.int (iZ z320)), some (.int (iZ j)), some (.int (iZ z31))]) 61 dX4_faultIn_60 (by decide) rfl rfl rfl ?_
                        refine g_iincZ [some (.ref 9), some (.ref t), some (.int (iZ z320)), some (.int (iZ (j + 1))), some (.int (iZ z31))] 64 dX4_faultIn_61 rfl (by omega) (by decide) rfl rfl rfl ?_
                        refine g_goto 12 dX4_faultIn_64 rfl ?_
                        refine Go.fgt 4 ?_
                        have f321 := (s316.get (by decide) F1)
                        have f322 := (s316.get (by decide) F2)
                        have f323 := (s316.get (by decide) F3)
                        have f324 := (s316.get (by decide) F4)
                        have f325 := (s316.get (by decide) F5)
                        exact ih _ (by omega) _ (2) (la) (n) (f) (g) (pl) (lu) (z320) (j + 1) rfl (by omega) (by omega) (by omega) of og opl olu f317 f321 f322 f323 f324 f325 f318 f319 (by omega) (by omega) hok (by rw [gz320, show av + z31 = tkE tn (fun j => tf j.toNat) av by rw [rz31]; exact tkS_E (by rw [← rz31]; omega)]; exact (C_w hC (by omega) (by omega) (by omega) eW ez182 (by omega) (by omega)).1 (by omega)) (fun hQ xQ0 xQ1 xQ2 xQ3 xQ4 xQ5 xQ6 rQ yQ0 yQ1 yQ2 yQ3 yQ4 yQ5 yQ6 yQ7 pQ0 sQ uQ0 uQ1 uQ2 uQ3 uQ4 uQ5 => k hQ xQ0 xQ1 xQ2 xQ3 xQ4 xQ5 xQ6 rQ yQ0 yQ1 yQ2 yQ3 yQ4 yQ5 yQ6 yQ7 pQ0 (((Sm.refl [9, 10, 11, 12, 13, 14] _).tr s316 (fun _ q => q) (by simp)).tr sQ (fun _ q => q) (fun _ q => q)) uQ0 uQ1 uQ2 uQ3 uQ4 uQ5)
                    · refine g_iconst (v := iZ (0)) 14 dX4_takesWord_13 rfl rfl ?_
                      refine g_zret rfl z01_0 dX4_takesWord_14 ?_
                      refine rI ?_
                      refine g_zret rfl z01_0 dX4_takes_93 ?_
                      refine rI ?_
                      refine g_ifZ_ne 52 50 dX4_faultIn_47 rfl rfl (by decide) (fun q => absurd q (by decide)) (fun _ => ?_)
                      refine g_iload_n 51 dX4_faultIn_50 rfl rfl ?_
                      refine g_iret rfl dX4_faultIn_51 ?_
                      exact k _ (due) (la) (n) (f) (g) (pl) (lu) (av) (by omega) (by omega) (by omega) of og opl olu (by omega) (nr_f (C_wf hC (by omega) (by omega) eW ez182 (by omega)) (by omega)) (Sm.refl [9, 10, 11, 12, 13, 14] _) F0 F1 F2 F3 F4 F5
                · refine g_iconst (v := iZ (1)) 13 dX4_isDigit_12 rfl rfl ?_
                  refine g_goto 17 dX4_isDigit_13 rfl ?_
                  refine g_zret rfl z01_1 dX4_isDigit_17 ?_
                  refine rI ?_
                  refine g_ifZ_eq 82 68 dX4_takes_65 rfl rfl (by decide) (fun q => absurd q (by decide)) (fun _ => ?_)
                  refine g_aload_n 69 dX4_takes_68 rfl rfl ?_
                  refine g_aload_n 70 dX4_takes_69 rfl rfl ?_
                  refine g_iload_n 71 dX4_takes_70 rfl rfl ?_
                  refine g_iload_n 72 dX4_takes_71 rfl rfl ?_
                  refine g_callS (z := mX4_valueOf) (As := [.ref t, .int (iZ av), .int (iZ z31)]) 75 dX4_takes_72 mwX4_valueOf ⟨by decide, by decide⟩ rfl wlX4_82 wtX4_valueOf rfl (nle rfl) (nle rfl) rfl ?_
                  have eS := tkS_d (tn := tn) (tf := (fun j => tf j.toNat)) (p := av) (show 48 ≤ tf av.toNat ∧ tf av.toNat ≤ 57 by omega)
                  refine c_val F6 F7 otf (by omega) (by omega) (by omega) (by omega) (fun j9 a9 b9 => (sq_in (tn := tn) (tf := (fun j => tf j.toNat)) (lo := 48) (hi := 57) _ av rfl j9 a9 (by omega)).2) (fun z326 rz326 => ?_)
                  obtain ⟨ez326, bz326⟩ := rz326
                  rw [rz31] at ez326
                  refine rI ?_
                  refine g_iload_n 76 dX4_takes_75 rfl rfl ?_
                  refine g_callV (z := mX4_takesNumber) (As := [.int (iZ z326), .int (iZ av)]) 79 dX4_takes_76 mwX4_takesNumber ⟨by decide, by decide⟩ rfl wlX4_86 wiX4_takesNumber wsX4_takesNumber F0 rfl rfl rfl (nle rfl) (nle rfl) rfl ?_
                  refine Go.to [some (.ref 9), some (.int (iZ z326)), some (.int (iZ av))] [] rfl rfl ?_
                  refine g_aload_n 1 dX4_takesNumber_0 rfl rfl ?_
                  refine g_get 4 dX4_takesNumber_1 faX4_18_X4 F0 rfl rfl ?_
                  refine g_iconst (v := iZ (2)) 5 dX4_takesNumber_4 rfl rfl ?_
                  refine g_icZ_ne 14 8 dX4_takesNumber_5 rfl rfl (by omega) (by decide) (fun c327 => ?_) (fun c327 => ?_)
                  · refine g_iconst (v := iZ (0)) 15 dX4_takesNumber_14 rfl rfl ?_
                    refine g_zret rfl z01_0 dX4_takesNumber_15 ?_
                    refine rI ?_
                    refine g_goto 93 dX4_takes_79 rfl ?_
                    refine g_zret rfl z01_0 dX4_takes_93 ?_
                    refine rI ?_
                    refine g_ifZ_ne 52 50 dX4_faultIn_47 rfl rfl (by decide) (fun q => absurd q (by decide)) (fun _ => ?_)
                    refine g_iload_n 51 dX4_faultIn_50 rfl rfl ?_
                    refine g_iret rfl dX4_faultIn_51 ?_
                    exact k _ (due) (la) (n) (f) (g) (pl) (lu) (av) (by omega) (by omega) (by omega) of og opl olu (by omega) (nr_f (C_nf hC (by omega) (by omega) (show 48 ≤ tf av.toNat ∧ tf av.toNat ≤ 57 by omega) ez326 (by omega)) (by omega)) (Sm.refl [9, 10, 11, 12, 13, 14] _) F0 F1 F2 F3 F4 F5
                  · refine g_iload_n 9 dX4_takesNumber_8 rfl rfl ?_
                    refine g_bipush (v := iZ (-9)) 11 dX4_takesNumber_9 (by decide +kernel) rfl ?_
                    refine g_icZ_ne 16 14 dX4_takesNumber_11 rfl rfl (by omega) (by decide) (fun c328 => ?_) (fun c328 => ?_)
                    · refine g_aload_n 17 dX4_takesNumber_16 rfl rfl ?_
                      refine g_iconst (v := iZ (0)) 18 dX4_takesNumber_17 rfl rfl ?_
                      refine g_putC (fs1 := [.ref 10, .ref 13, .ref 14, .int (iZ 0), .int (iZ la)]) 21 dX4_takesNumber_18 fpX4_18_X4 F0 (nle rfl) (vI _) rfl rfl (fun h329 s330 f331 => ?_)
                      refine g_aload_n 22 dX4_takesNumber_21 rfl rfl ?_
                      refine g_get 25 dX4_takesNumber_22 faX4_45_X4 f331 rfl rfl ?_
                      refine g_iload_n 26 dX4_takesNumber_25 rfl rfl ?_
                      refine g_iload_n 27 dX4_takesNumber_26 rfl rfl ?_
                      have f332 := (s330.get (by decide) F1)
                      refine g_callV (z := mX0_add) (As := [.int (iZ z326), .int (iZ av)]) 30 dX4_takesNumber_27 mwX0_add ⟨by decide, by decide⟩ rfl wlX4_95 wiX0_add wsX0_add f332 rfl rfl rfl (nle rfl) (nle rfl) rfl ?_
                      refine Go.to [some (.ref 10), some (.int (iZ z326)), some (.int (iZ av))] [] rfl rfl ?_
                      refine g_aload_n 1 dX0_add_0 rfl rfl ?_
                      refine g_get 4 dX0_add_1 faX0_9_X0 f332 rfl rfl ?_
                      refine g_ifZ_lt 18 7 dX0_add_4 rfl rfl (by omega) (fun q => absurd q (by omega)) (fun _ => ?_)
                      refine g_aload_n 8 dX0_add_7 rfl rfl ?_
                      refine g_get 11 dX0_add_8 faX0_9_X0 f332 rfl rfl ?_
                      refine g_aload_n 12 dX0_add_11 rfl rfl ?_
                      refine g_get 15 dX0_add_12 faX0_21_X0 f332 rfl rfl ?_
                      refine g_icZ_lt 20 18 dX0_add_15 rfl rfl (by omega) (by decide) (fun _ => ?_) (fun q => absurd q (by omega))
                      refine g_aload_n 21 dX0_add_20 rfl rfl ?_
                      refine g_get 24 dX0_add_21 faX0_24_X0 f332 rfl rfl ?_
                      refine g_aload_n 25 dX0_add_24 rfl rfl ?_
                      refine g_get 28 dX0_add_25 faX0_9_X0 f332 rfl rfl ?_
                      refine g_iload_n 29 dX0_add_28 rfl rfl ?_
                      have f333 := (s330.get (by decide) F2)
                      refine g_iastFj (n.toNat) 30 dX0_add_29 f333 (by omega) (by omega) (by decide) rfl rfl (fun h334 s335 f336 => ?_)
                      refine g_aload_n 31 dX0_add_30 rfl rfl ?_
                      have f337 := (s335.get (by decide) f332)
                      refine g_get 34 dX0_add_31 faX0_28_X0 f337 rfl rfl ?_
                      refine g_aload_n 35 dX0_add_34 rfl rfl ?_
                      refine g_get 38 dX0_add_35 faX0_9_X0 f337 rfl rfl ?_
                      refine g_iload_n 39 dX0_add_38 rfl rfl ?_
                      have f338 := (s335.get (by decide) (s330.get (by decide) F3))
                      refine g_iastFj (n.toNat) 40 dX0_add_39 f338 (by omega) (by omega) (by decide) rfl rfl (fun h339 s340 f341 => ?_)
                      refine g_aload_n 41 dX0_add_40 rfl rfl ?_
                      refine g_dup 42 dX0_add_41 rfl rfl ?_
                      have f342 := (s340.get (by decide) f337)
                      refine g_get 45 dX0_add_42 faX0_9_X0 f342 rfl rfl ?_
                      refine g_iconst (v := iZ (1)) 46 dX0_add_45 rfl rfl ?_
                      refine g_iaddZ (n + 1) 47 dX0_add_46 (by omega) rfl ?_
                      refine g_putC (fs1 := [.int (iZ 256), .ref 11, .ref 12, .int (iZ (n + 1))]) 50 dX0_add_47 fpX0_9_X0 f342 (nle rfl) (vI _) rfl rfl (fun h343 s344 f345 => ?_)
                      refine g_iconst (v := iZ (1)) 51 dX0_add_50 rfl rfl ?_
                      refine g_zret rfl z01_1 dX0_add_51 ?_
                      refine rI ?_
                      refine g_zret rfl z01_1 dX4_takesNumber_30 ?_
                      refine rI ?_
                      refine g_goto 93 dX4_takes_79 rfl ?_
                      refine g_zret rfl z01_1 dX4_takes_93 ?_
                      refine rI ?_
                      refine g_ifZ_ne 52 50 dX4_faultIn_47 rfl rfl (by decide) (fun _ => ?_) (fun q => absurd q (by decide))
                      refine g_aload_n 53 dX4_faultIn_52 rfl rfl ?_
                      refine g_iload_n 54 dX4_faultIn_53 rfl rfl ?_
                      refine g_iload 56 dX4_faultIn_54 rfl rfl ?_
                      refine g_iaddZ (av + z31) 57 dX4_faultIn_56 (by omega) rfl ?_
                      have f346 := (s344.get (by simp <;> omega) (s340.get (by simp <;> omega) (s335.get (by simp <;> omega) (s330.get (by simp <;> omega) F6))))
                      refine g_callV (z := mX6_pastGap) (As := [.int (iZ (av + z31))]) 60 dX4_faultIn_57 mwX6_pastGap ⟨by decide, by decide⟩ rfl wlX4_28 wiX6_pastGap wsX6_pastGap f346 rfl rfl rfl (nle rfl) (nle rfl) rfl ?_
                      have f347 := (s344.get (by simp <;> omega) (s340.get (by simp <;> omega) (s335.get (by simp <;> omega) (s330.get (by simp <;> omega) F7))))
                      refine c_gap  f346 f347 otf (by omega) (by omega) (by omega) (fun z348 rz348 => ?_)
                      refine rI ?_
                      obtain ⟨gz348, bz348⟩ := rz348
                      refine g_istore_n (L1 := [some (.ref 9), some (.ref t), some (.int (iZ z348)), some (.int (iZ j)), some (.int (iZ z31))]) 61 dX4_faultIn_60 (by decide) rfl rfl rfl ?_
                      refine g_iincZ [some (.ref 9), some (.ref t), some (.int (iZ z348)), some (.int (iZ (j + 1))), some (.int (iZ z31))] 64 dX4_faultIn_61 rfl (by omega) (by decide) rfl rfl rfl ?_
                      refine g_goto 12 dX4_faultIn_64 rfl ?_
                      refine Go.fgt 4 ?_
                      have f349 := (s344.get (by decide) (s340.get (by decide) (s335.get (by decide) f331)))
                      have f350 := (s344.get (by decide) (s340.get (by decide) f336))
                      have f351 := (s344.get (by decide) f341)
                      have f352 := (s344.get (by decide) (s340.get (by decide) (s335.get (by decide) (s330.get (by decide) F4))))
                      have f353 := (s344.get (by decide) (s340.get (by decide) (s335.get (by decide) (s330.get (by decide) F5))))
                      exact ih _ (by omega) _ (0) (la) (n + 1) (va_up f n.toNat z326) (va_up g n.toNat av) (pl) (lu) (z348) (j + 1) rfl (by omega) (by omega) (by omega) (oki_up of _ (by omega)) (oki_up og _ (by omega)) opl olu f349 f345 f350 f351 f352 f353 f346 f347 (by omega) (by omega) hok (by rw [gz348, show av + z31 = tkE tn (fun j => tf j.toNat) av by rw [rz31]; exact tkS_E (by rw [← rz31]; omega)]; exact C_n2 hC (by omega) (by omega) (by omega) (show 48 ≤ tf av.toNat ∧ tf av.toNat ≤ 57 by omega) ez326 (by omega) (by omega)) (fun hQ xQ0 xQ1 xQ2 xQ3 xQ4 xQ5 xQ6 rQ yQ0 yQ1 yQ2 yQ3 yQ4 yQ5 yQ6 yQ7 pQ0 sQ uQ0 uQ1 uQ2 uQ3 uQ4 uQ5 => k hQ xQ0 xQ1 xQ2 xQ3 xQ4 xQ5 xQ6 rQ yQ0 yQ1 yQ2 yQ3 yQ4 yQ5 yQ6 yQ7 pQ0 ((((((Sm.refl [9, 10, 11, 12, 13, 14] _).tr s330 (fun _ q => q) (by simp)).tr s335 (fun _ q => q) (by simp)).tr s340 (fun _ q => q) (by simp)).tr s344 (fun _ q => q) (by simp)).tr sQ (fun _ q => q) (fun _ q => q)) uQ0 uQ1 uQ2 uQ3 uQ4 uQ5)
                    · refine g_iconst (v := iZ (0)) 15 dX4_takesNumber_14 rfl rfl ?_
                      refine g_zret rfl z01_0 dX4_takesNumber_15 ?_
                      refine rI ?_
                      refine g_goto 93 dX4_takes_79 rfl ?_
                      refine g_zret rfl z01_0 dX4_takes_93 ?_
                      refine rI ?_
                      refine g_ifZ_ne 52 50 dX4_faultIn_47 rfl rfl (by decide) (fun q => absurd q (by decide)) (fun _ => ?_)
                      refine g_iload_n 51 dX4_faultIn_50 rfl rfl ?_
                      refine g_iret rfl dX4_faultIn_51 ?_
                      exact k _ (due) (la) (n) (f) (g) (pl) (lu) (av) (by omega) (by omega) (by omega) of og opl olu (by omega) (nr_f (C_nf hC (by omega) (by omega) (show 48 ≤ tf av.toNat ∧ tf av.toNat ≤ 57 by omega) ez326 (by omega)) (by omega)) (Sm.refl [9, 10, 11, 12, 13, 14] _) F0 F1 F2 F3 F4 F5
            · refine g_iload_n 7 dX4_isLetter_6 rfl rfl ?_
              refine g_bipush (v := iZ (90)) 9 dX4_isLetter_7 (by decide +kernel) rfl ?_
              refine g_icZ_gt 16 12 dX4_isLetter_9 rfl rfl (by omega) (by decide) (fun c354 => ?_) (fun c354 => ?_)
              · refine g_iconst (v := iZ (0)) 17 dX4_isLetter_16 rfl rfl ?_
                refine g_zret rfl z01_0 dX4_isLetter_17 ?_
                refine rI ?_
                refine g_ifZ_eq 60 28 dX4_takes_25 rfl rfl (by decide) (fun _ => ?_) (fun q => absurd q (by decide))
                refine g_iload 62 dX4_takes_60 rfl rfl ?_
                refine g_callS (z := mX4_isDigit) (As := [.int (iZ (tf av.toNat))]) 65 dX4_takes_62 mwX4_isDigit ⟨by decide, by decide⟩ rfl wlX4_67 wtX4_isDigit rfl (nle rfl) (nle rfl) rfl ?_
                refine Go.to [some (.int (iZ (tf av.toNat)))] [] rfl rfl ?_
                refine g_iload_n 1 dX4_isDigit_0 rfl rfl ?_
                refine g_bipush (v := iZ (48)) 3 dX4_isDigit_1 (by decide +kernel) rfl ?_
                refine g_icZ_lt 16 6 dX4_isDigit_3 rfl rfl (by omega) (by decide) (fun q => absurd q (by omega)) (fun _ => ?_)
                refine g_iload_n 7 dX4_isDigit_6 rfl rfl ?_
                refine g_bipush (v := iZ (57)) 9 dX4_isDigit_7 (by decide +kernel) rfl ?_
                refine g_icZ_gt 16 12 dX4_isDigit_9 rfl rfl (by omega) (by decide) (fun _ => ?_) (fun q => absurd q (by omega))
                refine g_iconst (v := iZ (0)) 17 dX4_isDigit_16 rfl rfl ?_
                refine g_zret rfl z01_0 dX4_isDigit_17 ?_
                refine rI ?_
                refine g_ifZ_eq 82 68 dX4_takes_65 rfl rfl (by decide) (fun _ => ?_) (fun q => absurd q (by decide))
                refine g_aload_n 83 dX4_takes_82 rfl rfl ?_
                refine g_aload_n 84 dX4_takes_83 rfl rfl ?_
                refine g_iload_n 85 dX4_takes_84 rfl rfl ?_
                refine g_iload_n 86 dX4_takes_85 rfl rfl ?_
                refine g_callS (z := mX4_wordOf) (As := [.ref t, .int (iZ av), .int (iZ z31)]) 89 dX4_takes_86 mwX4_wordOf ⟨by decide, by decide⟩ rfl wlX4_89 wtX4_wordOf rfl (nle rfl) (nle rfl) rfl ?_
                have eW := tkS_n (tn := tn) (tf := (fun j => tf j.toNat)) (p := av) (by omega) (by rw [← rz31]; omega) (show ¬ (48 ≤ tf av.toNat ∧ tf av.toNat ≤ 57) by omega) (show ¬ (65 ≤ tf av.toNat ∧ tf av.toNat ≤ 90) by omega) (show tf av.toNat ≠ 58 by omega)
                refine c_word F6 F7 otf (by omega) (by omega) (by omega) (by omega) (fun z355 ez355 => ?_)
                have bz355 := wdx_rg (fun j => tf j.toNat) av z31
                rw [← ez355] at bz355
                rw [rz31] at ez355
                refine rI ?_
                refine g_iload_n 90 dX4_takes_89 rfl rfl ?_
                refine g_callV (z := mX4_takesWord) (As := [.int (iZ z355), .int (iZ av)]) 93 dX4_takes_90 mwX4_takesWord ⟨by decide, by decide⟩ rfl wlX4_92 wiX4_takesWord wsX4_takesWord F0 rfl rfl rfl (nle rfl) (nle rfl) rfl ?_
                refine Go.to [some (.ref 9), some (.int (iZ z355)), some (.int (iZ av))] [] rfl rfl ?_
                refine g_aload_n 1 dX4_takesWord_0 rfl rfl ?_
                refine g_get 4 dX4_takesWord_1 faX4_18_X4 F0 rfl rfl ?_
                refine g_ifZ_ne 13 7 dX4_takesWord_4 rfl rfl (by omega) (fun c356 => ?_) (fun c356 => ?_)
                · refine g_iconst (v := iZ (0)) 14 dX4_takesWord_13 rfl rfl ?_
                  refine g_zret rfl z01_0 dX4_takesWord_14 ?_
                  refine rI ?_
                  refine g_zret rfl z01_0 dX4_takes_93 ?_
                  refine rI ?_
                  refine g_ifZ_ne 52 50 dX4_faultIn_47 rfl rfl (by decide) (fun q => absurd q (by decide)) (fun _ => ?_)
                  refine g_iload_n 51 dX4_faultIn_50 rfl rfl ?_
                  refine g_iret rfl dX4_faultIn_51 ?_
                  exact k _ (due) (la) (n) (f) (g) (pl) (lu) (av) (by omega) (by omega) (by omega) of og opl olu (by omega) (nr_f (C_wf hC (by omega) (by omega) eW ez355 (by omega)) (by omega)) (Sm.refl [9, 10, 11, 12, 13, 14] _) F0 F1 F2 F3 F4 F5
                · refine g_iload_n 8 dX4_takesWord_7 rfl rfl ?_
                  refine g_bipush (v := iZ (-9)) 10 dX4_takesWord_8 (by decide +kernel) rfl ?_
                  refine g_icZ_ne 15 13 dX4_takesWord_10 rfl rfl (by omega) (by decide) (fun c357 => ?_) (fun c357 => ?_)
                  · refine g_iload_n 16 dX4_takesWord_15 rfl rfl ?_
                    refine g_bipush (v := iZ (16)) 18 dX4_takesWord_16 (by decide +kernel) rfl ?_
                    refine g_icZ_ne 28 21 dX4_takesWord_18 rfl rfl (by omega) (by decide) (fun c358 => ?_) (fun c358 => ?_)
                    · refine g_aload_n 29 dX4_takesWord_28 rfl rfl ?_
                      refine g_iload_n 30 dX4_takesWord_29 rfl rfl ?_
                      refine g_callS (z := mX2_hasNumber) (As := [.int (iZ z355)]) 33 dX4_takesWord_30 mwX2_hasNumber ⟨by decide, by decide⟩ rfl wlX4_98 wtX2_hasNumber rfl (nle rfl) (nle rfl) rfl ?_
                      refine Go.to [some (.int (iZ z355))] [] rfl rfl ?_
                      refine g_iload_n 1 dX2_hasNumber_0 rfl rfl ?_
                      refine g_iconst (v := iZ (3)) 2 dX2_hasNumber_1 rfl rfl ?_
                      refine g_icZ_lt 11 5 dX2_hasNumber_2 rfl rfl (by omega) (by decide) (fun c359 => ?_) (fun c359 => ?_)
                      · refine g_iload_n 12 dX2_hasNumber_11 rfl rfl ?_
                        refine g_bipush (v := iZ (11)) 14 dX2_hasNumber_12 (by decide +kernel) rfl ?_
                        refine g_icZ_lt 27 17 dX2_hasNumber_14 rfl rfl (by omega) (by decide) (fun _ => ?_) (fun q => absurd q (by omega))
                        refine g_iconst (v := iZ (0)) 28 dX2_hasNumber_27 rfl rfl ?_
                        refine g_zret rfl z01_0 dX2_hasNumber_28 ?_
                        refine rI ?_
                        refine g_ifZ_eq 40 36 dX4_takesWord_33 rfl rfl (by decide) (fun _ => ?_) (fun q => absurd q (by decide))
                        refine g_iconst (v := iZ (0)) 41 dX4_takesWord_40 rfl rfl ?_
                        refine g_putC (fs1 := [.ref 10, .ref 13, .ref 14, .int (iZ 0), .int (iZ la)]) 44 dX4_takesWord_41 fpX4_18_X4 F0 (nle rfl) (vI _) rfl rfl (fun h360 s361 f362 => ?_)
                        refine g_aload_n 45 dX4_takesWord_44 rfl rfl ?_
                        refine g_get 48 dX4_takesWord_45 faX4_45_X4 f362 rfl rfl ?_
                        refine g_iload_n 49 dX4_takesWord_48 rfl rfl ?_
                        refine g_iload_n 50 dX4_takesWord_49 rfl rfl ?_
                        have f363 := (s361.get (by decide) F1)
                        refine g_callV (z := mX0_add) (As := [.int (iZ z355), .int (iZ av)]) 53 dX4_takesWord_50 mwX0_add ⟨by decide, by decide⟩ rfl wlX4_95 wiX0_add wsX0_add f363 rfl rfl rfl (nle rfl) (nle rfl) rfl ?_
                        refine Go.to [some (.ref 10), some (.int (iZ z355)), some (.int (iZ av))] [] rfl rfl ?_
                        refine g_aload_n 1 dX0_add_0 rfl rfl ?_
                        refine g_get 4 dX0_add_1 faX0_9_X0 f363 rfl rfl ?_
                        refine g_ifZ_lt 18 7 dX0_add_4 rfl rfl (by omega) (fun q => absurd q (by omega)) (fun _ => ?_)
                        refine g_aload_n 8 dX0_add_7 rfl rfl ?_
                        refine g_get 11 dX0_add_8 faX0_9_X0 f363 rfl rfl ?_
                        refine g_aload_n 12 dX0_add_11 rfl rfl ?_
                        refine g_get 15 dX0_add_12 faX0_21_X0 f363 rfl rfl ?_
                        refine g_icZ_lt 20 18 dX0_add_15 rfl rfl (by omega) (by decide) (fun _ => ?_) (fun q => absurd q (by omega))
                        refine g_aload_n 21 dX0_add_20 rfl rfl ?_
                        refine g_get 24 dX0_add_21 faX0_24_X0 f363 rfl rfl ?_
                        refine g_aload_n 25 dX0_add_24 rfl rfl ?_
                        refine g_get 28 dX0_add_25 faX0_9_X0 f363 rfl rfl ?_
                        refine g_iload_n 29 dX0_add_28 rfl rfl ?_
                        have f364 := (s361.get (by decide) F2)
                        refine g_iastFj (n.toNat) 30 dX0_add_29 f364 (by omega) (by omega) (by decide) rfl rfl (fun h365 s366 f367 => ?_)
                        refine g_aload_n 31 dX0_add_30 rfl rfl ?_
                        have f368 := (s366.get (by decide) f363)
                        refine g_get 34 dX0_add_31 faX0_28_X0 f368 rfl rfl ?_
                        refine g_aload_n 35 dX0_add_34 rfl rfl ?_
                        refine g_get 38 dX0_add_35 faX0_9_X0 f368 rfl rfl ?_
                        refine g_iload_n 39 dX0_add_38 rfl rfl ?_
                        have f369 := (s366.get (by decide) (s361.get (by decide) F3))
                        refine g_iastFj (n.toNat) 40 dX0_add_39 f369 (by omega) (by omega) (by decide) rfl rfl (fun h370 s371 f372 => ?_)
                        refine g_aload_n 41 dX0_add_40 rfl rfl ?_
                        refine g_dup 42 dX0_add_41 rfl rfl ?_
                        have f373 := (s371.get (by decide) f368)
                        refine g_get 45 dX0_add_42 faX0_9_X0 f373 rfl rfl ?_
                        refine g_iconst (v := iZ (1)) 46 dX0_add_45 rfl rfl ?_
                        refine g_iaddZ (n + 1) 47 dX0_add_46 (by omega) rfl ?_
                        refine g_putC (fs1 := [.int (iZ 256), .ref 11, .ref 12, .int (iZ (n + 1))]) 50 dX0_add_47 fpX0_9_X0 f373 (nle rfl) (vI _) rfl rfl (fun h374 s375 f376 => ?_)
                        refine g_iconst (v := iZ (1)) 51 dX0_add_50 rfl rfl ?_
                        refine g_zret rfl z01_1 dX0_add_51 ?_
                        refine rI ?_
                        refine g_zret rfl z01_1 dX4_takesWord_53 ?_
                        refine rI ?_
                        refine g_zret rfl z01_1 dX4_takes_93 ?_
                        refine rI ?_
                        refine g_ifZ_ne 52 50 dX4_faultIn_47 rfl rfl (by decide) (fun _ => ?_) (fun q => absurd q (by decide))
                        refine g_aload_n 53 dX4_faultIn_52 rfl rfl ?_
                        refine g_iload_n 54 dX4_faultIn_53 rfl rfl ?_
                        refine g_iload 56 dX4_faultIn_54 rfl rfl ?_
                        refine g_iaddZ (av + z31) 57 dX4_faultIn_56 (by omega) rfl ?_
                        have f377 := (s375.get (by simp <;> omega) (s371.get (by simp <;> omega) (s366.get (by simp <;> omega) (s361.get (by simp <;> omega) F6))))
                        refine g_callV (z := mX6_pastGap) (As := [.int (iZ (av + z31))]) 60 dX4_faultIn_57 mwX6_pastGap ⟨by decide, by decide⟩ rfl wlX4_28 wiX6_pastGap wsX6_pastGap f377 rfl rfl rfl (nle rfl) (nle rfl) rfl ?_
                        have f378 := (s375.get (by simp <;> omega) (s371.get (by simp <;> omega) (s366.get (by simp <;> omega) (s361.get (by simp <;> omega) F7))))
                        refine c_gap  f377 f378 otf (by omega) (by omega) (by omega) (fun z379 rz379 => ?_)
                        refine rI ?_
                        obtain ⟨gz379, bz379⟩ := rz379
                        refine g_istore_n (L1 := [some (.ref 9), some (.ref t), some (.int (iZ z379)), some (.int (iZ j)), some (.int (iZ z31))]) 61 dX4_faultIn_60 (by decide) rfl rfl rfl ?_
                        refine g_iincZ [some (.ref 9), some (.ref t), some (.int (iZ z379)), some (.int (iZ (j + 1))), some (.int (iZ z31))] 64 dX4_faultIn_61 rfl (by omega) (by decide) rfl rfl rfl ?_
                        refine g_goto 12 dX4_faultIn_64 rfl ?_
                        refine Go.fgt 4 ?_
                        have f380 := (s375.get (by decide) (s371.get (by decide) (s366.get (by decide) f362)))
                        have f381 := (s375.get (by decide) (s371.get (by decide) f367))
                        have f382 := (s375.get (by decide) f372)
                        have f383 := (s375.get (by decide) (s371.get (by decide) (s366.get (by decide) (s361.get (by decide) F4))))
                        have f384 := (s375.get (by decide) (s371.get (by decide) (s366.get (by decide) (s361.get (by decide) F5))))
                        exact ih _ (by omega) _ (0) (la) (n + 1) (va_up f n.toNat z355) (va_up g n.toNat av) (pl) (lu) (z379) (j + 1) rfl (by omega) (by omega) (by omega) (oki_up of _ (by omega)) (oki_up og _ (by omega)) opl olu f380 f376 f381 f382 f383 f384 f377 f378 (by omega) (by omega) hok (by rw [gz379, show av + z31 = tkE tn (fun j => tf j.toNat) av by rw [rz31]; exact tkS_E (by rw [← rz31]; omega)]; exact (C_w hC (by omega) (by omega) (by omega) eW ez355 (by omega) (by omega)).2.2 (by omega) (by unfold hsn; omega)) (fun hQ xQ0 xQ1 xQ2 xQ3 xQ4 xQ5 xQ6 rQ yQ0 yQ1 yQ2 yQ3 yQ4 yQ5 yQ6 yQ7 pQ0 sQ uQ0 uQ1 uQ2 uQ3 uQ4 uQ5 => k hQ xQ0 xQ1 xQ2 xQ3 xQ4 xQ5 xQ6 rQ yQ0 yQ1 yQ2 yQ3 yQ4 yQ5 yQ6 yQ7 pQ0 ((((((Sm.refl [9, 10, 11, 12, 13, 14] _).tr s361 (fun _ q => q) (by simp)).tr s366 (fun _ q => q) (by simp)).tr s371 (fun _ q => q) (by simp)).tr s375 (fun _ q => q) (by simp)).tr sQ (fun _ q => q) (fun _ q => q)) uQ0 uQ1 uQ2 uQ3 uQ4 uQ5)
                      · refine g_iload_n 6 dX2_hasNumber_5 rfl rfl ?_
                        refine g_bipush (v := iZ (7)) 8 dX2_hasNumber_6 (by decide +kernel) rfl ?_
                        refine g_icZ_le 23 11 dX2_hasNumber_8 rfl rfl (by omega) (by decide) (fun c385 => ?_) (fun c385 => ?_)
                        · refine g_iconst (v := iZ (1)) 24 dX2_hasNumber_23 rfl rfl ?_
                          refine g_goto 28 dX2_hasNumber_24 rfl ?_
                          refine g_zret rfl z01_1 dX2_hasNumber_28 ?_
                          refine rI ?_
                          refine g_ifZ_eq 40 36 dX4_takesWord_33 rfl rfl (by decide) (fun q => absurd q (by decide)) (fun _ => ?_)
                          refine g_iconst (v := iZ (2)) 37 dX4_takesWord_36 rfl rfl ?_
                          refine g_goto 41 dX4_takesWord_37 rfl ?_
                          refine g_putC (fs1 := [.ref 10, .ref 13, .ref 14, .int (iZ 2), .int (iZ la)]) 44 dX4_takesWord_41 fpX4_18_X4 F0 (nle rfl) (vI _) rfl rfl (fun h386 s387 f388 => ?_)
                          refine g_aload_n 45 dX4_takesWord_44 rfl rfl ?_
                          refine g_get 48 dX4_takesWord_45 faX4_45_X4 f388 rfl rfl ?_
                          refine g_iload_n 49 dX4_takesWord_48 rfl rfl ?_
                          refine g_iload_n 50 dX4_takesWord_49 rfl rfl ?_
                          have f389 := (s387.get (by decide) F1)
                          refine g_callV (z := mX0_add) (As := [.int (iZ z355), .int (iZ av)]) 53 dX4_takesWord_50 mwX0_add ⟨by decide, by decide⟩ rfl wlX4_95 wiX0_add wsX0_add f389 rfl rfl rfl (nle rfl) (nle rfl) rfl ?_
                          refine Go.to [some (.ref 10), some (.int (iZ z355)), some (.int (iZ av))] [] rfl rfl ?_
                          refine g_aload_n 1 dX0_add_0 rfl rfl ?_
                          refine g_get 4 dX0_add_1 faX0_9_X0 f389 rfl rfl ?_
                          refine g_ifZ_lt 18 7 dX0_add_4 rfl rfl (by omega) (fun q => absurd q (by omega)) (fun _ => ?_)
                          refine g_aload_n 8 dX0_add_7 rfl rfl ?_
                          refine g_get 11 dX0_add_8 faX0_9_X0 f389 rfl rfl ?_
                          refine g_aload_n 12 dX0_add_11 rfl rfl ?_
                          refine g_get 15 dX0_add_12 faX0_21_X0 f389 rfl rfl ?_
                          refine g_icZ_lt 20 18 dX0_add_15 rfl rfl (by omega) (by decide) (fun _ => ?_) (fun q => absurd q (by omega))
                          refine g_aload_n 21 dX0_add_20 rfl rfl ?_
                          refine g_get 24 dX0_add_21 faX0_24_X0 f389 rfl rfl ?_
                          refine g_aload_n 25 dX0_add_24 rfl rfl ?_
                          refine g_get 28 dX0_add_25 faX0_9_X0 f389 rfl rfl ?_
                          refine g_iload_n 29 dX0_add_28 rfl rfl ?_
                          have f390 := (s387.get (by decide) F2)
                          refine g_iastFj (n.toNat) 30 dX0_add_29 f390 (by omega) (by omega) (by decide) rfl rfl (fun h391 s392 f393 => ?_)
                          refine g_aload_n 31 dX0_add_30 rfl rfl ?_
                          have f394 := (s392.get (by decide) f389)
                          refine g_get 34 dX0_add_31 faX0_28_X0 f394 rfl rfl ?_
                          refine g_aload_n 35 dX0_add_34 rfl rfl ?_
                          refine g_get 38 dX0_add_35 faX0_9_X0 f394 rfl rfl ?_
                          refine g_iload_n 39 dX0_add_38 rfl rfl ?_
                          have f395 := (s392.get (by decide) (s387.get (by decide) F3))
                          refine g_iastFj (n.toNat) 40 dX0_add_39 f395 (by omega) (by omega) (by decide) rfl rfl (fun h396 s397 f398 => ?_)
                          refine g_aload_n 41 dX0_add_40 rfl rfl ?_
                          refine g_dup 42 dX0_add_41 rfl rfl ?_
                          have f399 := (s397.get (by decide) f394)
                          refine g_get 45 dX0_add_42 faX0_9_X0 f399 rfl rfl ?_
                          refine g_iconst (v := iZ (1)) 46 dX0_add_45 rfl rfl ?_
                          refine g_iaddZ (n + 1) 47 dX0_add_46 (by omega) rfl ?_
                          refine g_putC (fs1 := [.int (iZ 256), .ref 11, .ref 12, .int (iZ (n + 1))]) 50 dX0_add_47 fpX0_9_X0 f399 (nle rfl) (vI _) rfl rfl (fun h400 s401 f402 => ?_)
                          refine g_iconst (v := iZ (1)) 51 dX0_add_50 rfl rfl ?_
                          refine g_zret rfl z01_1 dX0_add_51 ?_
                          refine rI ?_
                          refine g_zret rfl z01_1 dX4_takesWord_53 ?_
                          refine rI ?_
                          refine g_zret rfl z01_1 dX4_takes_93 ?_
                          refine rI ?_
                          refine g_ifZ_ne 52 50 dX4_faultIn_47 rfl rfl (by decide) (fun _ => ?_) (fun q => absurd q (by decide))
                          refine g_aload_n 53 dX4_faultIn_52 rfl rfl ?_
                          refine g_iload_n 54 dX4_faultIn_53 rfl rfl ?_
                          refine g_iload 56 dX4_faultIn_54 rfl rfl ?_
                          refine g_iaddZ (av + z31) 57 dX4_faultIn_56 (by omega) rfl ?_
                          have f403 := (s401.get (by simp <;> omega) (s397.get (by simp <;> omega) (s392.get (by simp <;> omega) (s387.get (by simp <;> omega) F6))))
                          refine g_callV (z := mX6_pastGap) (As := [.int (iZ (av + z31))]) 60 dX4_faultIn_57 mwX6_pastGap ⟨by decide, by decide⟩ rfl wlX4_28 wiX6_pastGap wsX6_pastGap f403 rfl rfl rfl (nle rfl) (nle rfl) rfl ?_
                          have f404 := (s401.get (by simp <;> omega) (s397.get (by simp <;> omega) (s392.get (by simp <;> omega) (s387.get (by simp <;> omega) F7))))
                          refine c_gap  f403 f404 otf (by omega) (by omega) (by omega) (fun z405 rz405 => ?_)
                          refine rI ?_
                          obtain ⟨gz405, bz405⟩ := rz405
                          refine g_istore_n (L1 := [some (.ref 9), some (.ref t), some (.int (iZ z405)), some (.int (iZ j)), some (.int (iZ z31))]) 61 dX4_faultIn_60 (by decide) rfl rfl rfl ?_
                          refine g_iincZ [some (.ref 9), some (.ref t), some (.int (iZ z405)), some (.int (iZ (j + 1))), some (.int (iZ z31))] 64 dX4_faultIn_61 rfl (by omega) (by decide) rfl rfl rfl ?_
                          refine g_goto 12 dX4_faultIn_64 rfl ?_
                          refine Go.fgt 4 ?_
                          have f406 := (s401.get (by decide) (s397.get (by decide) (s392.get (by decide) f388)))
                          have f407 := (s401.get (by decide) (s397.get (by decide) f393))
                          have f408 := (s401.get (by decide) f398)
                          have f409 := (s401.get (by decide) (s397.get (by decide) (s392.get (by decide) (s387.get (by decide) F4))))
                          have f410 := (s401.get (by decide) (s397.get (by decide) (s392.get (by decide) (s387.get (by decide) F5))))
                          exact ih _ (by omega) _ (2) (la) (n + 1) (va_up f n.toNat z355) (va_up g n.toNat av) (pl) (lu) (z405) (j + 1) rfl (by omega) (by omega) (by omega) (oki_up of _ (by omega)) (oki_up og _ (by omega)) opl olu f406 f402 f407 f408 f409 f410 f403 f404 (by omega) (by omega) hok (by rw [gz405, show av + z31 = tkE tn (fun j => tf j.toNat) av by rw [rz31]; exact tkS_E (by rw [← rz31]; omega)]; exact (C_w hC (by omega) (by omega) (by omega) eW ez355 (by omega) (by omega)).2.1 (by omega) (by unfold hsn; omega)) (fun hQ xQ0 xQ1 xQ2 xQ3 xQ4 xQ5 xQ6 rQ yQ0 yQ1 yQ2 yQ3 yQ4 yQ5 yQ6 yQ7 pQ0 sQ uQ0 uQ1 uQ2 uQ3 uQ4 uQ5 => k hQ xQ0 xQ1 xQ2 xQ3 xQ4 xQ5 xQ6 rQ yQ0 yQ1 yQ2 yQ3 yQ4 yQ5 yQ6 yQ7 pQ0 ((((((Sm.refl [9, 10, 11, 12, 13, 14] _).tr s387 (fun _ q => q) (by simp)).tr s392 (fun _ q => q) (by simp)).tr s397 (fun _ q => q) (by simp)).tr s401 (fun _ q => q) (by simp)).tr sQ (fun _ q => q) (fun _ q => q)) uQ0 uQ1 uQ2 uQ3 uQ4 uQ5)
                        · refine g_iload_n 12 dX2_hasNumber_11 rfl rfl ?_
                          refine g_bipush (v := iZ (11)) 14 dX2_hasNumber_12 (by decide +kernel) rfl ?_
                          refine g_icZ_lt 27 17 dX2_hasNumber_14 rfl rfl (by omega) (by decide) (fun c411 => ?_) (fun c411 => ?_)
                          · refine g_iconst (v := iZ (0)) 28 dX2_hasNumber_27 rfl rfl ?_
                            refine g_zret rfl z01_0 dX2_hasNumber_28 ?_
                            refine rI ?_
                            refine g_ifZ_eq 40 36 dX4_takesWord_33 rfl rfl (by decide) (fun _ => ?_) (fun q => absurd q (by decide))
                            refine g_iconst (v := iZ (0)) 41 dX4_takesWord_40 rfl rfl ?_
                            refine g_putC (fs1 := [.ref 10, .ref 13, .ref 14, .int (iZ 0), .int (iZ la)]) 44 dX4_takesWord_41 fpX4_18_X4 F0 (nle rfl) (vI _) rfl rfl (fun h412 s413 f414 => ?_)
                            refine g_aload_n 45 dX4_takesWord_44 rfl rfl ?_
                            refine g_get 48 dX4_takesWord_45 faX4_45_X4 f414 rfl rfl ?_
                            refine g_iload_n 49 dX4_takesWord_48 rfl rfl ?_
                            refine g_iload_n 50 dX4_takesWord_49 rfl rfl ?_
                            have f415 := (s413.get (by decide) F1)
                            refine g_callV (z := mX0_add) (As := [.int (iZ z355), .int (iZ av)]) 53 dX4_takesWord_50 mwX0_add ⟨by decide, by decide⟩ rfl wlX4_95 wiX0_add wsX0_add f415 rfl rfl rfl (nle rfl) (nle rfl) rfl ?_
                            refine Go.to [some (.ref 10), some (.int (iZ z355)), some (.int (iZ av))] [] rfl rfl ?_
                            refine g_aload_n 1 dX0_add_0 rfl rfl ?_
                            refine g_get 4 dX0_add_1 faX0_9_X0 f415 rfl rfl ?_
                            refine g_ifZ_lt 18 7 dX0_add_4 rfl rfl (by omega) (fun q => absurd q (by omega)) (fun _ => ?_)
                            refine g_aload_n 8 dX0_add_7 rfl rfl ?_
                            refine g_get 11 dX0_add_8 faX0_9_X0 f415 rfl rfl ?_
                            refine g_aload_n 12 dX0_add_11 rfl rfl ?_
                            refine g_get 15 dX0_add_12 faX0_21_X0 f415 rfl rfl ?_
                            refine g_icZ_lt 20 18 dX0_add_15 rfl rfl (by omega) (by decide) (fun _ => ?_) (fun q => absurd q (by omega))
                            refine g_aload_n 21 dX0_add_20 rfl rfl ?_
                            refine g_get 24 dX0_add_21 faX0_24_X0 f415 rfl rfl ?_
                            refine g_aload_n 25 dX0_add_24 rfl rfl ?_
                            refine g_get 28 dX0_add_25 faX0_9_X0 f415 rfl rfl ?_
                            refine g_iload_n 29 dX0_add_28 rfl rfl ?_
                            have f416 := (s413.get (by decide) F2)
                            refine g_iastFj (n.toNat) 30 dX0_add_29 f416 (by omega) (by omega) (by decide) rfl rfl (fun h417 s418 f419 => ?_)
                            refine g_aload_n 31 dX0_add_30 rfl rfl ?_
                            have f420 := (s418.get (by decide) f415)
                            refine g_get 34 dX0_add_31 faX0_28_X0 f420 rfl rfl ?_
                            refine g_aload_n 35 dX0_add_34 rfl rfl ?_
                            refine g_get 38 dX0_add_35 faX0_9_X0 f420 rfl rfl ?_
                            refine g_iload_n 39 dX0_add_38 rfl rfl ?_
                            have f421 := (s418.get (by decide) (s413.get (by decide) F3))
                            refine g_iastFj (n.toNat) 40 dX0_add_39 f421 (by omega) (by omega) (by decide) rfl rfl (fun h422 s423 f424 => ?_)
                            refine g_aload_n 41 dX0_add_40 rfl rfl ?_
                            refine g_dup 42 dX0_add_41 rfl rfl ?_
                            have f425 := (s423.get (by decide) f420)
                            refine g_get 45 dX0_add_42 faX0_9_X0 f425 rfl rfl ?_
                            refine g_iconst (v := iZ (1)) 46 dX0_add_45 rfl rfl ?_
                            refine g_iaddZ (n + 1) 47 dX0_add_46 (by omega) rfl ?_
                            refine g_putC (fs1 := [.int (iZ 256), .ref 11, .ref 12, .int (iZ (n + 1))]) 50 dX0_add_47 fpX0_9_X0 f425 (nle rfl) (vI _) rfl rfl (fun h426 s427 f428 => ?_)
                            refine g_iconst (v := iZ (1)) 51 dX0_add_50 rfl rfl ?_
                            refine g_zret rfl z01_1 dX0_add_51 ?_
                            refine rI ?_
                            refine g_zret rfl z01_1 dX4_takesWord_53 ?_
                            refine rI ?_
                            refine g_zret rfl z01_1 dX4_takes_93 ?_
                            refine rI ?_
                            refine g_ifZ_ne 52 50 dX4_faultIn_47 rfl rfl (by decide) (fun _ => ?_) (fun q => absurd q (by decide))
                            refine g_aload_n 53 dX4_faultIn_52 rfl rfl ?_
                            refine g_iload_n 54 dX4_faultIn_53 rfl rfl ?_
                            refine g_iload 56 dX4_faultIn_54 rfl rfl ?_
                            refine g_iaddZ (av + z31) 57 dX4_faultIn_56 (by omega) rfl ?_
                            have f429 := (s427.get (by simp <;> omega) (s423.get (by simp <;> omega) (s418.get (by simp <;> omega) (s413.get (by simp <;> omega) F6))))
                            refine g_callV (z := mX6_pastGap) (As := [.int (iZ (av + z31))]) 60 dX4_faultIn_57 mwX6_pastGap ⟨by decide, by decide⟩ rfl wlX4_28 wiX6_pastGap wsX6_pastGap f429 rfl rfl rfl (nle rfl) (nle rfl) rfl ?_
                            have f430 := (s427.get (by simp <;> omega) (s423.get (by simp <;> omega) (s418.get (by simp <;> omega) (s413.get (by simp <;> omega) F7))))
                            refine c_gap  f429 f430 otf (by omega) (by omega) (by omega) (fun z431 rz431 => ?_)
                            refine rI ?_
                            obtain ⟨gz431, bz431⟩ := rz431
                            refine g_istore_n (L1 := [some (.ref 9), some (.ref t), some (.int (iZ z431)), some (.int (iZ j)), some (.int (iZ z31))]) 61 dX4_faultIn_60 (by decide) rfl rfl rfl ?_
                            refine g_iincZ [some (.ref 9), some (.ref t), some (.int (iZ z431)), some (.int (iZ (j + 1))), some (.int (iZ z31))] 64 dX4_faultIn_61 rfl (by omega) (by decide) rfl rfl rfl ?_
                            refine g_goto 12 dX4_faultIn_64 rfl ?_
                            refine Go.fgt 4 ?_
                            have f432 := (s427.get (by decide) (s423.get (by decide) (s418.get (by decide) f414)))
                            have f433 := (s427.get (by decide) (s423.get (by decide) f419))
                            have f434 := (s427.get (by decide) f424)
                            have f435 := (s427.get (by decide) (s423.get (by decide) (s418.get (by decide) (s413.get (by decide) F4))))
                            have f436 := (s427.get (by decide) (s423.get (by decide) (s418.get (by decide) (s413.get (by decide) F5))))
                            exact ih _ (by omega) _ (0) (la) (n + 1) (va_up f n.toNat z355) (va_up g n.toNat av) (pl) (lu) (z431) (j + 1) rfl (by omega) (by omega) (by omega) (oki_up of _ (by omega)) (oki_up og _ (by omega)) opl olu f432 f428 f433 f434 f435 f436 f429 f430 (by omega) (by omega) hok (by rw [gz431, show av + z31 = tkE tn (fun j => tf j.toNat) av by rw [rz31]; exact tkS_E (by rw [← rz31]; omega)]; exact (C_w hC (by omega) (by omega) (by omega) eW ez355 (by omega) (by omega)).2.2 (by omega) (by unfold hsn; omega)) (fun hQ xQ0 xQ1 xQ2 xQ3 xQ4 xQ5 xQ6 rQ yQ0 yQ1 yQ2 yQ3 yQ4 yQ5 yQ6 yQ7 pQ0 sQ uQ0 uQ1 uQ2 uQ3 uQ4 uQ5 => k hQ xQ0 xQ1 xQ2 xQ3 xQ4 xQ5 xQ6 rQ yQ0 yQ1 yQ2 yQ3 yQ4 yQ5 yQ6 yQ7 pQ0 ((((((Sm.refl [9, 10, 11, 12, 13, 14] _).tr s413 (fun _ q => q) (by simp)).tr s418 (fun _ q => q) (by simp)).tr s423 (fun _ q => q) (by simp)).tr s427 (fun _ q => q) (by simp)).tr sQ (fun _ q => q) (fun _ q => q)) uQ0 uQ1 uQ2 uQ3 uQ4 uQ5)
                          · refine g_iload_n 18 dX2_hasNumber_17 rfl rfl ?_
                            refine g_bipush (v := iZ (15)) 20 dX2_hasNumber_18 (by decide +kernel) rfl ?_
                            refine g_icZ_gt 27 23 dX2_hasNumber_20 rfl rfl (by omega) (by decide) (fun c437 => ?_) (fun c437 => ?_)
                            · refine g_iconst (v := iZ (0)) 28 dX2_hasNumber_27 rfl rfl ?_
                              refine g_zret rfl z01_0 dX2_hasNumber_28 ?_
                              refine rI ?_
                              refine g_ifZ_eq 40 36 dX4_takesWord_33 rfl rfl (by decide) (fun _ => ?_) (fun q => absurd q (by decide))
                              refine g_iconst (v := iZ (0)) 41 dX4_takesWord_40 rfl rfl ?_
                              refine g_putC (fs1 := [.ref 10, .ref 13, .ref 14, .int (iZ 0), .int (iZ la)]) 44 dX4_takesWord_41 fpX4_18_X4 F0 (nle rfl) (vI _) rfl rfl (fun h438 s439 f440 => ?_)
                              refine g_aload_n 45 dX4_takesWord_44 rfl rfl ?_
                              refine g_get 48 dX4_takesWord_45 faX4_45_X4 f440 rfl rfl ?_
                              refine g_iload_n 49 dX4_takesWord_48 rfl rfl ?_
                              refine g_iload_n 50 dX4_takesWord_49 rfl rfl ?_
                              have f441 := (s439.get (by decide) F1)
                              refine g_callV (z := mX0_add) (As := [.int (iZ z355), .int (iZ av)]) 53 dX4_takesWord_50 mwX0_add ⟨by decide, by decide⟩ rfl wlX4_95 wiX0_add wsX0_add f441 rfl rfl rfl (nle rfl) (nle rfl) rfl ?_
                              refine Go.to [some (.ref 10), some (.int (iZ z355)), some (.int (iZ av))] [] rfl rfl ?_
                              refine g_aload_n 1 dX0_add_0 rfl rfl ?_
                              refine g_get 4 dX0_add_1 faX0_9_X0 f441 rfl rfl ?_
                              refine g_ifZ_lt 18 7 dX0_add_4 rfl rfl (by omega) (fun q => absurd q (by omega)) (fun _ => ?_)
                              refine g_aload_n 8 dX0_add_7 rfl rfl ?_
                              refine g_get 11 dX0_add_8 faX0_9_X0 f441 rfl rfl ?_
                              refine g_aload_n 12 dX0_add_11 rfl rfl ?_
                              refine g_get 15 dX0_add_12 faX0_21_X0 f441 rfl rfl ?_
                              refine g_icZ_lt 20 18 dX0_add_15 rfl rfl (by omega) (by decide) (fun _ => ?_) (fun q => absurd q (by omega))
                              refine g_aload_n 21 dX0_add_20 rfl rfl ?_
                              refine g_get 24 dX0_add_21 faX0_24_X0 f441 rfl rfl ?_
                              refine g_aload_n 25 dX0_add_24 rfl rfl ?_
                              refine g_get 28 dX0_add_25 faX0_9_X0 f441 rfl rfl ?_
                              refine g_iload_n 29 dX0_add_28 rfl rfl ?_
                              have f442 := (s439.get (by decide) F2)
                              refine g_iastFj (n.toNat) 30 dX0_add_29 f442 (by omega) (by omega) (by decide) rfl rfl (fun h443 s444 f445 => ?_)
                              refine g_aload_n 31 dX0_add_30 rfl rfl ?_
                              have f446 := (s444.get (by decide) f441)
                              refine g_get 34 dX0_add_31 faX0_28_X0 f446 rfl rfl ?_
                              refine g_aload_n 35 dX0_add_34 rfl rfl ?_
                              refine g_get 38 dX0_add_35 faX0_9_X0 f446 rfl rfl ?_
                              refine g_iload_n 39 dX0_add_38 rfl rfl ?_
                              have f447 := (s444.get (by decide) (s439.get (by decide) F3))
                              refine g_iastFj (n.toNat) 40 dX0_add_39 f447 (by omega) (by omega) (by decide) rfl rfl (fun h448 s449 f450 => ?_)
                              refine g_aload_n 41 dX0_add_40 rfl rfl ?_
                              refine g_dup 42 dX0_add_41 rfl rfl ?_
                              have f451 := (s449.get (by decide) f446)
                              refine g_get 45 dX0_add_42 faX0_9_X0 f451 rfl rfl ?_
                              refine g_iconst (v := iZ (1)) 46 dX0_add_45 rfl rfl ?_
                              refine g_iaddZ (n + 1) 47 dX0_add_46 (by omega) rfl ?_
                              refine g_putC (fs1 := [.int (iZ 256), .ref 11, .ref 12, .int (iZ (n + 1))]) 50 dX0_add_47 fpX0_9_X0 f451 (nle rfl) (vI _) rfl rfl (fun h452 s453 f454 => ?_)
                              refine g_iconst (v := iZ (1)) 51 dX0_add_50 rfl rfl ?_
                              refine g_zret rfl z01_1 dX0_add_51 ?_
                              refine rI ?_
                              refine g_zret rfl z01_1 dX4_takesWord_53 ?_
                              refine rI ?_
                              refine g_zret rfl z01_1 dX4_takes_93 ?_
                              refine rI ?_
                              refine g_ifZ_ne 52 50 dX4_faultIn_47 rfl rfl (by decide) (fun _ => ?_) (fun q => absurd q (by decide))
                              refine g_aload_n 53 dX4_faultIn_52 rfl rfl ?_
                              refine g_iload_n 54 dX4_faultIn_53 rfl rfl ?_
                              refine g_iload 56 dX4_faultIn_54 rfl rfl ?_
                              refine g_iaddZ (av + z31) 57 dX4_faultIn_56 (by omega) rfl ?_
                              have f455 := (s453.get (by simp <;> omega) (s449.get (by simp <;> omega) (s444.get (by simp <;> omega) (s439.get (by simp <;> omega) F6))))
                              refine g_callV (z := mX6_pastGap) (As := [.int (iZ (av + z31))]) 60 dX4_faultIn_57 mwX6_pastGap ⟨by decide, by decide⟩ rfl wlX4_28 wiX6_pastGap wsX6_pastGap f455 rfl rfl rfl (nle rfl) (nle rfl) rfl ?_
                              have f456 := (s453.get (by simp <;> omega) (s449.get (by simp <;> omega) (s444.get (by simp <;> omega) (s439.get (by simp <;> omega) F7))))
                              refine c_gap  f455 f456 otf (by omega) (by omega) (by omega) (fun z457 rz457 => ?_)
                              refine rI ?_
                              obtain ⟨gz457, bz457⟩ := rz457
                              refine g_istore_n (L1 := [some (.ref 9), some (.ref t), some (.int (iZ z457)), some (.int (iZ j)), some (.int (iZ z31))]) 61 dX4_faultIn_60 (by decide) rfl rfl rfl ?_
                              refine g_iincZ [some (.ref 9), some (.ref t), some (.int (iZ z457)), some (.int (iZ (j + 1))), some (.int (iZ z31))] 64 dX4_faultIn_61 rfl (by omega) (by decide) rfl rfl rfl ?_
                              refine g_goto 12 dX4_faultIn_64 rfl ?_
                              refine Go.fgt 4 ?_
                              have f458 := (s453.get (by decide) (s449.get (by decide) (s444.get (by decide) f440)))
                              have f459 := (s453.get (by decide) (s449.get (by decide) f445))
                              have f460 := (s453.get (by decide) f450)
                              have f461 := (s453.get (by decide) (s449.get (by decide) (s444.get (by decide) (s439.get (by decide) F4))))
                              have f462 := (s453.get (by decide) (s449.get (by decide) (s444.get (by decide) (s439.get (by decide) F5))))
                              exact ih _ (by omega) _ (0) (la) (n + 1) (va_up f n.toNat z355) (va_up g n.toNat av) (pl) (lu) (z457) (j + 1) rfl (by omega) (by omega) (by omega) (oki_up of _ (by omega)) (oki_up og _ (by omega)) opl olu f458 f454 f459 f460 f461 f462 f455 f456 (by omega) (by omega) hok (by rw [gz457, show av + z31 = tkE tn (fun j => tf j.toNat) av by rw [rz31]; exact tkS_E (by rw [← rz31]; omega)]; exact (C_w hC (by omega) (by omega) (by omega) eW ez355 (by omega) (by omega)).2.2 (by omega) (by unfold hsn; omega)) (fun hQ xQ0 xQ1 xQ2 xQ3 xQ4 xQ5 xQ6 rQ yQ0 yQ1 yQ2 yQ3 yQ4 yQ5 yQ6 yQ7 pQ0 sQ uQ0 uQ1 uQ2 uQ3 uQ4 uQ5 => k hQ xQ0 xQ1 xQ2 xQ3 xQ4 xQ5 xQ6 rQ yQ0 yQ1 yQ2 yQ3 yQ4 yQ5 yQ6 yQ7 pQ0 ((((((Sm.refl [9, 10, 11, 12, 13, 14] _).tr s439 (fun _ q => q) (by simp)).tr s444 (fun _ q => q) (by simp)).tr s449 (fun _ q => q) (by simp)).tr s453 (fun _ q => q) (by simp)).tr sQ (fun _ q => q) (fun _ q => q)) uQ0 uQ1 uQ2 uQ3 uQ4 uQ5)
                            · refine g_iconst (v := iZ (1)) 24 dX2_hasNumber_23 rfl rfl ?_
                              refine g_goto 28 dX2_hasNumber_24 rfl ?_
                              refine g_zret rfl z01_1 dX2_hasNumber_28 ?_
                              refine rI ?_
                              refine g_ifZ_eq 40 36 dX4_takesWord_33 rfl rfl (by decide) (fun q => absurd q (by decide)) (fun _ => ?_)
                              refine g_iconst (v := iZ (2)) 37 dX4_takesWord_36 rfl rfl ?_
                              refine g_goto 41 dX4_takesWord_37 rfl ?_
                              refine g_putC (fs1 := [.ref 10, .ref 13, .ref 14, .int (iZ 2), .int (iZ la)]) 44 dX4_takesWord_41 fpX4_18_X4 F0 (nle rfl) (vI _) rfl rfl (fun h463 s464 f465 => ?_)
                              refine g_aload_n 45 dX4_takesWord_44 rfl rfl ?_
                              refine g_get 48 dX4_takesWord_45 faX4_45_X4 f465 rfl rfl ?_
                              refine g_iload_n 49 dX4_takesWord_48 rfl rfl ?_
                              refine g_iload_n 50 dX4_takesWord_49 rfl rfl ?_
                              have f466 := (s464.get (by decide) F1)
                              refine g_callV (z := mX0_add) (As := [.int (iZ z355), .int (iZ av)]) 53 dX4_takesWord_50 mwX0_add ⟨by decide, by decide⟩ rfl wlX4_95 wiX0_add wsX0_add f466 rfl rfl rfl (nle rfl) (nle rfl) rfl ?_
                              refine Go.to [some (.ref 10), some (.int (iZ z355)), some (.int (iZ av))] [] rfl rfl ?_
                              refine g_aload_n 1 dX0_add_0 rfl rfl ?_
                              refine g_get 4 dX0_add_1 faX0_9_X0 f466 rfl rfl ?_
                              refine g_ifZ_lt 18 7 dX0_add_4 rfl rfl (by omega) (fun q => absurd q (by omega)) (fun _ => ?_)
                              refine g_aload_n 8 dX0_add_7 rfl rfl ?_
                              refine g_get 11 dX0_add_8 faX0_9_X0 f466 rfl rfl ?_
                              refine g_aload_n 12 dX0_add_11 rfl rfl ?_
                              refine g_get 15 dX0_add_12 faX0_21_X0 f466 rfl rfl ?_
                              refine g_icZ_lt 20 18 dX0_add_15 rfl rfl (by omega) (by decide) (fun _ => ?_) (fun q => absurd q (by omega))
                              refine g_aload_n 21 dX0_add_20 rfl rfl ?_
                              refine g_get 24 dX0_add_21 faX0_24_X0 f466 rfl rfl ?_
                              refine g_aload_n 25 dX0_add_24 rfl rfl ?_
                              refine g_get 28 dX0_add_25 faX0_9_X0 f466 rfl rfl ?_
                              refine g_iload_n 29 dX0_add_28 rfl rfl ?_
                              have f467 := (s464.get (by decide) F2)
                              refine g_iastFj (n.toNat) 30 dX0_add_29 f467 (by omega) (by omega) (by decide) rfl rfl (fun h468 s469 f470 => ?_)
                              refine g_aload_n 31 dX0_add_30 rfl rfl ?_
                              have f471 := (s469.get (by decide) f466)
                              refine g_get 34 dX0_add_31 faX0_28_X0 f471 rfl rfl ?_
                              refine g_aload_n 35 dX0_add_34 rfl rfl ?_
                              refine g_get 38 dX0_add_35 faX0_9_X0 f471 rfl rfl ?_
                              refine g_iload_n 39 dX0_add_38 rfl rfl ?_
                              have f472 := (s469.get (by decide) (s464.get (by decide) F3))
                              refine g_iastFj (n.toNat) 40 dX0_add_39 f472 (by omega) (by omega) (by decide) rfl rfl (fun h473 s474 f475 => ?_)
                              refine g_aload_n 41 dX0_add_40 rfl rfl ?_
                              refine g_dup 42 dX0_add_41 rfl rfl ?_
                              have f476 := (s474.get (by decide) f471)
                              refine g_get 45 dX0_add_42 faX0_9_X0 f476 rfl rfl ?_
                              refine g_iconst (v := iZ (1)) 46 dX0_add_45 rfl rfl ?_
                              refine g_iaddZ (n + 1) 47 dX0_add_46 (by omega) rfl ?_
                              refine g_putC (fs1 := [.int (iZ 256), .ref 11, .ref 12, .int (iZ (n + 1))]) 50 dX0_add_47 fpX0_9_X0 f476 (nle rfl) (vI _) rfl rfl (fun h477 s478 f479 => ?_)
                              refine g_iconst (v := iZ (1)) 51 dX0_add_50 rfl rfl ?_
                              refine g_zret rfl z01_1 dX0_add_51 ?_
                              refine rI ?_
                              refine g_zret rfl z01_1 dX4_takesWord_53 ?_
                              refine rI ?_
                              refine g_zret rfl z01_1 dX4_takes_93 ?_
                              refine rI ?_
                              refine g_ifZ_ne 52 50 dX4_faultIn_47 rfl rfl (by decide) (fun _ => ?_) (fun q => absurd q (by decide))
                              refine g_aload_n 53 dX4_faultIn_52 rfl rfl ?_
                              refine g_iload_n 54 dX4_faultIn_53 rfl rfl ?_
                              refine g_iload 56 dX4_faultIn_54 rfl rfl ?_
                              refine g_iaddZ (av + z31) 57 dX4_faultIn_56 (by omega) rfl ?_
                              have f480 := (s478.get (by simp <;> omega) (s474.get (by simp <;> omega) (s469.get (by simp <;> omega) (s464.get (by simp <;> omega) F6))))
                              refine g_callV (z := mX6_pastGap) (As := [.int (iZ (av + z31))]) 60 dX4_faultIn_57 mwX6_pastGap ⟨by decide, by decide⟩ rfl wlX4_28 wiX6_pastGap wsX6_pastGap f480 rfl rfl rfl (nle rfl) (nle rfl) rfl ?_
                              have f481 := (s478.get (by simp <;> omega) (s474.get (by simp <;> omega) (s469.get (by simp <;> omega) (s464.get (by simp <;> omega) F7))))
                              refine c_gap  f480 f481 otf (by omega) (by omega) (by omega) (fun z482 rz482 => ?_)
                              refine rI ?_
                              obtain ⟨gz482, bz482⟩ := rz482
                              refine g_istore_n (L1 := [some (.ref 9), some (.ref t), some (.int (iZ z482)), some (.int (iZ j)), some (.int (iZ z31))]) 61 dX4_faultIn_60 (by decide) rfl rfl rfl ?_
                              refine g_iincZ [some (.ref 9), some (.ref t), some (.int (iZ z482)), some (.int (iZ (j + 1))), some (.int (iZ z31))] 64 dX4_faultIn_61 rfl (by omega) (by decide) rfl rfl rfl ?_
                              refine g_goto 12 dX4_faultIn_64 rfl ?_
                              refine Go.fgt 4 ?_
                              have f483 := (s478.get (by decide) (s474.get (by decide) (s469.get (by decide) f465)))
                              have f484 := (s478.get (by decide) (s474.get (by decide) f470))
                              have f485 := (s478.get (by decide) f475)
                              have f486 := (s478.get (by decide) (s474.get (by decide) (s469.get (by decide) (s464.get (by decide) F4))))
                              have f487 := (s478.get (by decide) (s474.get (by decide) (s469.get (by decide) (s464.get (by decide) F5))))
                              exact ih _ (by omega) _ (2) (la) (n + 1) (va_up f n.toNat z355) (va_up g n.toNat av) (pl) (lu) (z482) (j + 1) rfl (by omega) (by omega) (by omega) (oki_up of _ (by omega)) (oki_up og _ (by omega)) opl olu f483 f479 f484 f485 f486 f487 f480 f481 (by omega) (by omega) hok (by rw [gz482, show av + z31 = tkE tn (fun j => tf j.toNat) av by rw [rz31]; exact tkS_E (by rw [← rz31]; omega)]; exact (C_w hC (by omega) (by omega) (by omega) eW ez355 (by omega) (by omega)).2.1 (by omega) (by unfold hsn; omega)) (fun hQ xQ0 xQ1 xQ2 xQ3 xQ4 xQ5 xQ6 rQ yQ0 yQ1 yQ2 yQ3 yQ4 yQ5 yQ6 yQ7 pQ0 sQ uQ0 uQ1 uQ2 uQ3 uQ4 uQ5 => k hQ xQ0 xQ1 xQ2 xQ3 xQ4 xQ5 xQ6 rQ yQ0 yQ1 yQ2 yQ3 yQ4 yQ5 yQ6 yQ7 pQ0 ((((((Sm.refl [9, 10, 11, 12, 13, 14] _).tr s464 (fun _ q => q) (by simp)).tr s469 (fun _ q => q) (by simp)).tr s474 (fun _ q => q) (by simp)).tr s478 (fun _ q => q) (by simp)).tr sQ (fun _ q => q) (fun _ q => q)) uQ0 uQ1 uQ2 uQ3 uQ4 uQ5)
                    · refine g_aload_n 22 dX4_takesWord_21 rfl rfl ?_
                      refine g_iconst (v := iZ (2)) 23 dX4_takesWord_22 rfl rfl ?_
                      refine g_putC (fs1 := [.ref 10, .ref 13, .ref 14, .int (iZ 2), .int (iZ la)]) 26 dX4_takesWord_23 fpX4_18_X4 F0 (nle rfl) (vI _) rfl rfl (fun h488 s489 f490 => ?_)
                      refine g_iconst (v := iZ (1)) 27 dX4_takesWord_26 rfl rfl ?_
                      refine g_zret rfl z01_1 dX4_takesWord_27 ?_
                      refine rI ?_
                      refine g_zret rfl z01_1 dX4_takes_93 ?_
                      refine rI ?_
                      refine g_ifZ_ne 52 50 dX4_faultIn_47 rfl rfl (by decide) (fun _ => ?_) (fun q => absurd q (by decide))
                      refine g_aload_n 53 dX4_faultIn_52 rfl rfl ?_
                      refine g_iload_n 54 dX4_faultIn_53 rfl rfl ?_
                      refine g_iload 56 dX4_faultIn_54 rfl rfl ?_
                      refine g_iaddZ (av + z31) 57 dX4_faultIn_56 (by omega) rfl ?_
                      have f491 := (s489.get (by simp <;> omega) F6)
                      refine g_callV (z := mX6_pastGap) (As := [.int (iZ (av + z31))]) 60 dX4_faultIn_57 mwX6_pastGap ⟨by decide, by decide⟩ rfl wlX4_28 wiX6_pastGap wsX6_pastGap f491 rfl rfl rfl (nle rfl) (nle rfl) rfl ?_
                      have f492 := (s489.get (by simp <;> omega) F7)
                      refine c_gap  f491 f492 otf (by omega) (by omega) (by omega) (fun z493 rz493 => ?_)
                      refine rI ?_
                      obtain ⟨gz493, bz493⟩ := rz493
                      refine g_istore_n (L1 := [some (.ref 9), some (.ref t), some (.int (iZ z493)), some (.int (iZ j)), some (.int (iZ z31))]) 61 dX4_faultIn_60 (by decide) rfl rfl rfl ?_
                      refine g_iincZ [some (.ref 9), some (.ref t), some (.int (iZ z493)), some (.int (iZ (j + 1))), some (.int (iZ z31))] 64 dX4_faultIn_61 rfl (by omega) (by decide) rfl rfl rfl ?_
                      refine g_goto 12 dX4_faultIn_64 rfl ?_
                      refine Go.fgt 4 ?_
                      have f494 := (s489.get (by decide) F1)
                      have f495 := (s489.get (by decide) F2)
                      have f496 := (s489.get (by decide) F3)
                      have f497 := (s489.get (by decide) F4)
                      have f498 := (s489.get (by decide) F5)
                      exact ih _ (by omega) _ (2) (la) (n) (f) (g) (pl) (lu) (z493) (j + 1) rfl (by omega) (by omega) (by omega) of og opl olu f490 f494 f495 f496 f497 f498 f491 f492 (by omega) (by omega) hok (by rw [gz493, show av + z31 = tkE tn (fun j => tf j.toNat) av by rw [rz31]; exact tkS_E (by rw [← rz31]; omega)]; exact (C_w hC (by omega) (by omega) (by omega) eW ez355 (by omega) (by omega)).1 (by omega)) (fun hQ xQ0 xQ1 xQ2 xQ3 xQ4 xQ5 xQ6 rQ yQ0 yQ1 yQ2 yQ3 yQ4 yQ5 yQ6 yQ7 pQ0 sQ uQ0 uQ1 uQ2 uQ3 uQ4 uQ5 => k hQ xQ0 xQ1 xQ2 xQ3 xQ4 xQ5 xQ6 rQ yQ0 yQ1 yQ2 yQ3 yQ4 yQ5 yQ6 yQ7 pQ0 (((Sm.refl [9, 10, 11, 12, 13, 14] _).tr s489 (fun _ q => q) (by simp)).tr sQ (fun _ q => q) (fun _ q => q)) uQ0 uQ1 uQ2 uQ3 uQ4 uQ5)
                  · refine g_iconst (v := iZ (0)) 14 dX4_takesWord_13 rfl rfl ?_
                    refine g_zret rfl z01_0 dX4_takesWord_14 ?_
                    refine rI ?_
                    refine g_zret rfl z01_0 dX4_takes_93 ?_
                    refine rI ?_
                    refine g_ifZ_ne 52 50 dX4_faultIn_47 rfl rfl (by decide) (fun q => absurd q (by decide)) (fun _ => ?_)
                    refine g_iload_n 51 dX4_faultIn_50 rfl rfl ?_
                    refine g_iret rfl dX4_faultIn_51 ?_
                    exact k _ (due) (la) (n) (f) (g) (pl) (lu) (av) (by omega) (by omega) (by omega) of og opl olu (by omega) (nr_f (C_wf hC (by omega) (by omega) eW ez355 (by omega)) (by omega)) (Sm.refl [9, 10, 11, 12, 13, 14] _) F0 F1 F2 F3 F4 F5
              · refine g_iconst (v := iZ (1)) 13 dX4_isLetter_12 rfl rfl ?_
                refine g_goto 17 dX4_isLetter_13 rfl ?_
                refine g_zret rfl z01_1 dX4_isLetter_17 ?_
                refine rI ?_
                refine g_ifZ_eq 60 28 dX4_takes_25 rfl rfl (by decide) (fun q => absurd q (by decide)) (fun _ => ?_)
                refine g_aload_n 29 dX4_takes_28 rfl rfl ?_
                refine g_get 32 dX4_takes_29 faX4_18_X4 F0 rfl rfl ?_
                refine g_iconst (v := iZ (2)) 33 dX4_takes_32 rfl rfl ?_
                refine g_icZ_ne 49 36 dX4_takes_33 rfl rfl (by omega) (by decide) (fun c499 => ?_) (fun c499 => ?_)
                · refine g_aload_n 50 dX4_takes_49 rfl rfl ?_
                  refine g_iload 52 dX4_takes_50 rfl rfl ?_
                  refine g_bipush (v := iZ (65)) 54 dX4_takes_52 (by decide +kernel) rfl ?_
                  refine g_isubZ ((tf av.toNat) - 65) 55 dX4_takes_54 (by omega) rfl ?_
                  refine g_iload_n 56 dX4_takes_55 rfl rfl ?_
                  refine g_callV (z := mX4_takesPlace) (As := [.int (iZ ((tf av.toNat) - 65)), .int (iZ av)]) 59 dX4_takes_56 mwX4_takesPlace ⟨by decide, by decide⟩ rfl wlX4_79 wiX4_takesPlace wsX4_takesPlace F0 rfl rfl rfl (nle rfl) (nle rfl) rfl ?_
                  refine Go.to [some (.ref 9), some (.int (iZ ((tf av.toNat) - 65))), some (.int (iZ av))] [] rfl rfl ?_
                  refine g_aload_n 1 dX4_takesPlace_0 rfl rfl ?_
                  refine g_get 4 dX4_takesPlace_1 faX4_18_X4 F0 rfl rfl ?_
                  refine g_ifZ_ne 28 7 dX4_takesPlace_4 rfl rfl (by omega) (fun c500 => ?_) (fun c500 => ?_)
                  · refine g_iconst (v := iZ (0)) 29 dX4_takesPlace_28 rfl rfl ?_
                    refine g_zret rfl z01_0 dX4_takesPlace_29 ?_
                    refine rI ?_
                    refine g_zret rfl z01_0 dX4_takes_59 ?_
                    refine rI ?_
                    refine g_ifZ_ne 52 50 dX4_faultIn_47 rfl rfl (by decide) (fun q => absurd q (by decide)) (fun _ => ?_)
                    refine g_iload_n 51 dX4_faultIn_50 rfl rfl ?_
                    refine g_iret rfl dX4_faultIn_51 ?_
                    exact k _ (due) (la) (n) (f) (g) (pl) (lu) (av) (by omega) (by omega) (by omega) of og opl olu (by omega) (nr_f (C_lf hC (by omega) (by omega) (show 65 ≤ tf av.toNat ∧ tf av.toNat ≤ 90 by omega) (by omega) (fun q9 => by have q8 : pl (tf av.toNat - 65).toNat = -9 := q9.2; omega)) (by omega)) (Sm.refl [9, 10, 11, 12, 13, 14] _) F0 F1 F2 F3 F4 F5
                  · refine g_iload_n 8 dX4_takesPlace_7 rfl rfl ?_
                    refine g_ifZ_lt 28 11 dX4_takesPlace_8 rfl rfl (by omega) (fun c501 => ?_) (fun c501 => ?_)
                    · refine g_iconst (v := iZ (0)) 29 dX4_takesPlace_28 rfl rfl ?_
                      refine g_zret rfl z01_0 dX4_takesPlace_29 ?_
                      refine rI ?_
                      refine g_zret rfl z01_0 dX4_takes_59 ?_
                      refine rI ?_
                      refine g_ifZ_ne 52 50 dX4_faultIn_47 rfl rfl (by decide) (fun q => absurd q (by decide)) (fun _ => ?_)
                      refine g_iload_n 51 dX4_faultIn_50 rfl rfl ?_
                      refine g_iret rfl dX4_faultIn_51 ?_
                      exact k _ (due) (la) (n) (f) (g) (pl) (lu) (av) (by omega) (by omega) (by omega) of og opl olu (by omega) (nr_f (C_lf hC (by omega) (by omega) (show 65 ≤ tf av.toNat ∧ tf av.toNat ≤ 90 by omega) (by omega) (fun q9 => by have q8 : pl (tf av.toNat - 65).toNat = -9 := q9.2; omega)) (by omega)) (Sm.refl [9, 10, 11, 12, 13, 14] _) F0 F1 F2 F3 F4 F5
                    · refine g_iload_n 12 dX4_takesPlace_11 rfl rfl ?_
                      refine g_bipush (v := iZ (26)) 14 dX4_takesPlace_12 (by decide +kernel) rfl ?_
                      refine g_icZ_ge 28 17 dX4_takesPlace_14 rfl rfl (by omega) (by decide) (fun c502 => ?_) (fun c502 => ?_)
                      · refine g_iconst (v := iZ (0)) 29 dX4_takesPlace_28 rfl rfl ?_
                        refine g_zret rfl z01_0 dX4_takesPlace_29 ?_
                        refine rI ?_
                        refine g_zret rfl z01_0 dX4_takes_59 ?_
                        refine rI ?_
                        refine g_ifZ_ne 52 50 dX4_faultIn_47 rfl rfl (by decide) (fun q => absurd q (by decide)) (fun _ => ?_)
                        refine g_iload_n 51 dX4_faultIn_50 rfl rfl ?_
                        refine g_iret rfl dX4_faultIn_51 ?_
                        exact k _ (due) (la) (n) (f) (g) (pl) (lu) (av) (by omega) (by omega) (by omega) of og opl olu (by omega) (nr_f (C_lf hC (by omega) (by omega) (show 65 ≤ tf av.toNat ∧ tf av.toNat ≤ 90 by omega) (by omega) (fun q9 => by have q8 : pl (tf av.toNat - 65).toNat = -9 := q9.2; omega)) (by omega)) (Sm.refl [9, 10, 11, 12, 13, 14] _) F0 F1 F2 F3 F4 F5
                      · refine g_aload_n 18 dX4_takesPlace_17 rfl rfl ?_
                        refine g_get 21 dX4_takesPlace_18 faX4_11_X4 F0 rfl rfl ?_
                        refine g_iload_n 22 dX4_takesPlace_21 rfl rfl ?_
                        have b503 := opl (((tf av.toNat) - 65).toNat)
                        refine g_ialdZ (v := iZ (pl ((tf av.toNat) - 65).toNat)) 23 dX4_takesPlace_22 F4 (by omega) (by omega) (by decide) rfl rfl ?_
                        refine g_bipush (v := iZ (-9)) 25 dX4_takesPlace_23 (by decide +kernel) rfl ?_
                        refine g_icZ_eq 30 28 dX4_takesPlace_25 rfl rfl (by omega) (by decide) (fun c504 => ?_) (fun c504 => ?_)
                        · refine g_aload_n 31 dX4_takesPlace_30 rfl rfl ?_
                          refine g_get 34 dX4_takesPlace_31 faX4_11_X4 F0 rfl rfl ?_
                          refine g_iload_n 35 dX4_takesPlace_34 rfl rfl ?_
                          refine g_aload_n 36 dX4_takesPlace_35 rfl rfl ?_
                          refine g_get 39 dX4_takesPlace_36 faX4_45_X4 F0 rfl rfl ?_
                          refine g_get 42 dX4_takesPlace_39 faX4_49_X0 F1 rfl rfl ?_
                          refine g_iastFj (((tf av.toNat) - 65).toNat) 43 dX4_takesPlace_42 F4 (by omega) (by omega) (by decide) rfl rfl (fun h505 s506 f507 => ?_)
                          refine g_aload_n 44 dX4_takesPlace_43 rfl rfl ?_
                          refine g_iload_n 45 dX4_takesPlace_44 rfl rfl ?_
                          have f508 := (s506.get (by decide) F0)
                          refine g_putC (fs1 := [.ref 10, .ref 13, .ref 14, .int (iZ due), .int (iZ av)]) 48 dX4_takesPlace_45 fpX4_22_X4 f508 (nle rfl) (vI _) rfl rfl (fun h509 s510 f511 => ?_)
                          refine g_aload_n 49 dX4_takesPlace_48 rfl rfl ?_
                          refine g_iconst (v := iZ (1)) 50 dX4_takesPlace_49 rfl rfl ?_
                          refine g_putC (fs1 := [.ref 10, .ref 13, .ref 14, .int (iZ 1), .int (iZ av)]) 53 dX4_takesPlace_50 fpX4_18_X4 f511 (nle rfl) (vI _) rfl rfl (fun h512 s513 f514 => ?_)
                          refine g_iconst (v := iZ (1)) 54 dX4_takesPlace_53 rfl rfl ?_
                          refine g_zret rfl z01_1 dX4_takesPlace_54 ?_
                          refine rI ?_
                          refine g_zret rfl z01_1 dX4_takes_59 ?_
                          refine rI ?_
                          refine g_ifZ_ne 52 50 dX4_faultIn_47 rfl rfl (by decide) (fun _ => ?_) (fun q => absurd q (by decide))
                          refine g_aload_n 53 dX4_faultIn_52 rfl rfl ?_
                          refine g_iload_n 54 dX4_faultIn_53 rfl rfl ?_
                          refine g_iload 56 dX4_faultIn_54 rfl rfl ?_
                          refine g_iaddZ (av + z31) 57 dX4_faultIn_56 (by omega) rfl ?_
                          have f515 := (s513.get (by simp <;> omega) (s510.get (by simp <;> omega) (s506.get (by simp <;> omega) F6)))
                          refine g_callV (z := mX6_pastGap) (As := [.int (iZ (av + z31))]) 60 dX4_faultIn_57 mwX6_pastGap ⟨by decide, by decide⟩ rfl wlX4_28 wiX6_pastGap wsX6_pastGap f515 rfl rfl rfl (nle rfl) (nle rfl) rfl ?_
                          have f516 := (s513.get (by simp <;> omega) (s510.get (by simp <;> omega) (s506.get (by simp <;> omega) F7)))
                          refine c_gap  f515 f516 otf (by omega) (by omega) (by omega) (fun z517 rz517 => ?_)
                          refine rI ?_
                          obtain ⟨gz517, bz517⟩ := rz517
                          refine g_istore_n (L1 := [some (.ref 9), some (.ref t), some (.int (iZ z517)), some (.int (iZ j)), some (.int (iZ z31))]) 61 dX4_faultIn_60 (by decide) rfl rfl rfl ?_
                          refine g_iincZ [some (.ref 9), some (.ref t), some (.int (iZ z517)), some (.int (iZ (j + 1))), some (.int (iZ z31))] 64 dX4_faultIn_61 rfl (by omega) (by decide) rfl rfl rfl ?_
                          refine g_goto 12 dX4_faultIn_64 rfl ?_
                          refine Go.fgt 4 ?_
                          have f518 := (s513.get (by decide) (s510.get (by decide) (s506.get (by decide) F1)))
                          have f519 := (s513.get (by decide) (s510.get (by decide) (s506.get (by decide) F2)))
                          have f520 := (s513.get (by decide) (s510.get (by decide) (s506.get (by decide) F3)))
                          have f521 := (s513.get (by decide) (s510.get (by decide) f507))
                          have f522 := (s513.get (by decide) (s510.get (by decide) (s506.get (by decide) F5)))
                          exact ih _ (by omega) _ (1) (av) (n) (f) (g) (va_up pl ((tf av.toNat) - 65).toNat n) (lu) (z517) (j + 1) rfl (by omega) (by omega) (by omega) of og (oki_up opl _ (by omega)) olu f514 f518 f519 f520 f521 f522 f515 f516 (by omega) (by omega) (okn_up hok _ (by omega)) (by rw [gz517, show av + z31 = tkE tn (fun j => tf j.toNat) av by rw [rz31]; exact tkS_E (by rw [← rz31]; omega)]; exact C_l0 hC (by omega) (by omega) (show 65 ≤ tf av.toNat ∧ tf av.toNat ≤ 90 by omega) (by omega) (by show pl (tf av.toNat - 65).toNat = -9; omega)) (fun hQ xQ0 xQ1 xQ2 xQ3 xQ4 xQ5 xQ6 rQ yQ0 yQ1 yQ2 yQ3 yQ4 yQ5 yQ6 yQ7 pQ0 sQ uQ0 uQ1 uQ2 uQ3 uQ4 uQ5 => k hQ xQ0 xQ1 xQ2 xQ3 xQ4 xQ5 xQ6 rQ yQ0 yQ1 yQ2 yQ3 yQ4 yQ5 yQ6 yQ7 pQ0 (((((Sm.refl [9, 10, 11, 12, 13, 14] _).tr s506 (fun _ q => q) (by simp)).tr s510 (fun _ q => q) (by simp)).tr s513 (fun _ q => q) (by simp)).tr sQ (fun _ q => q) (fun _ q => q)) uQ0 uQ1 uQ2 uQ3 uQ4 uQ5)
                        · refine g_iconst (v := iZ (0)) 29 dX4_takesPlace_28 rfl rfl ?_
                          refine g_zret rfl z01_0 dX4_takesPlace_29 ?_
                          refine rI ?_
                          refine g_zret rfl z01_0 dX4_takes_59 ?_
                          refine rI ?_
                          refine g_ifZ_ne 52 50 dX4_faultIn_47 rfl rfl (by decide) (fun q => absurd q (by decide)) (fun _ => ?_)
                          refine g_iload_n 51 dX4_faultIn_50 rfl rfl ?_
                          refine g_iret rfl dX4_faultIn_51 ?_
                          exact k _ (due) (la) (n) (f) (g) (pl) (lu) (av) (by omega) (by omega) (by omega) of og opl olu (by omega) (nr_f (C_lf hC (by omega) (by omega) (show 65 ≤ tf av.toNat ∧ tf av.toNat ≤ 90 by omega) (by omega) (fun q9 => by have q8 : pl (tf av.toNat - 65).toNat = -9 := q9.2; omega)) (by omega)) (Sm.refl [9, 10, 11, 12, 13, 14] _) F0 F1 F2 F3 F4 F5
                · refine g_aload_n 37 dX4_takes_36 rfl rfl ?_
                  refine g_iload 39 dX4_takes_37 rfl rfl ?_
                  refine g_bipush (v := iZ (65)) 41 dX4_takes_39 (by decide +kernel) rfl ?_
                  refine g_isubZ ((tf av.toNat) - 65) 42 dX4_takes_41 (by omega) rfl ?_
                  refine g_iload_n 43 dX4_takes_42 rfl rfl ?_
                  refine g_callV (z := mX4_takesLetter) (As := [.int (iZ ((tf av.toNat) - 65)), .int (iZ av)]) 46 dX4_takes_43 mwX4_takesLetter ⟨by decide, by decide⟩ rfl wlX4_76 wiX4_takesLetter wsX4_takesLetter F0 rfl rfl rfl (nle rfl) (nle rfl) rfl ?_
                  refine Go.to [some (.ref 9), some (.int (iZ ((tf av.toNat) - 65))), some (.int (iZ av)), none] [] rfl rfl ?_
                  refine g_aload_n 1 dX4_takesLetter_0 rfl rfl ?_
                  refine g_get 4 dX4_takesLetter_1 faX4_45_X4 F0 rfl rfl ?_
                  refine g_get 7 dX4_takesLetter_4 faX4_49_X0 F1 rfl rfl ?_
                  refine g_istore_n (L1 := [some (.ref 9), some (.int (iZ ((tf av.toNat) - 65))), some (.int (iZ av)), some (.int (iZ n))]) 8 dX4_takesLetter_7 (by decide) rfl rfl rfl ?_
                  refine g_iload_n 9 dX4_takesLetter_8 rfl rfl ?_
                  refine g_ifZ_lt 19 12 dX4_takesLetter_9 rfl rfl (by omega) (fun q => absurd q (by omega)) (fun _ => ?_)
                  refine g_iload_n 13 dX4_takesLetter_12 rfl rfl ?_
                  refine g_sipush (v := iZ (256)) 16 dX4_takesLetter_13 (by decide +kernel) rfl ?_
                  refine g_icZ_lt 21 19 dX4_takesLetter_16 rfl rfl (by omega) (by decide) (fun _ => ?_) (fun q => absurd q (by omega))
                  refine g_aload_n 22 dX4_takesLetter_21 rfl rfl ?_
                  refine g_get 25 dX4_takesLetter_22 faX4_15_X4 F0 rfl rfl ?_
                  refine g_iload_n 26 dX4_takesLetter_25 rfl rfl ?_
                  refine g_iload_n 27 dX4_takesLetter_26 rfl rfl ?_
                  refine g_iastFj (n.toNat) 28 dX4_takesLetter_27 F5 (by omega) (by omega) (by decide) rfl rfl (fun h523 s524 f525 => ?_)
                  refine g_aload_n 29 dX4_takesLetter_28 rfl rfl ?_
                  refine g_iconst (v := iZ (0)) 30 dX4_takesLetter_29 rfl rfl ?_
                  have f526 := (s524.get (by decide) F0)
                  refine g_putC (fs1 := [.ref 10, .ref 13, .ref 14, .int (iZ 0), .int (iZ la)]) 33 dX4_takesLetter_30 fpX4_18_X4 f526 (nle rfl) (vI _) rfl rfl (fun h527 s528 f529 => ?_)
                  refine g_aload_n 34 dX4_takesLetter_33 rfl rfl ?_
                  refine g_get 37 dX4_takesLetter_34 faX4_45_X4 f529 rfl rfl ?_
                  refine g_iconst (v := iZ (0)) 38 dX4_takesLetter_37 rfl rfl ?_
                  refine g_iload_n 39 dX4_takesLetter_38 rfl rfl ?_
                  have f530 := (s528.get (by decide) (s524.get (by decide) F1))
                  refine g_callV (z := mX0_add) (As := [.int (iZ 0), .int (iZ av)]) 42 dX4_takesLetter_39 mwX0_add ⟨by decide, by decide⟩ rfl wlX4_95 wiX0_add wsX0_add f530 rfl rfl rfl (nle rfl) (nle rfl) rfl ?_
                  refine Go.to [some (.ref 10), some (.int (iZ 0)), some (.int (iZ av))] [] rfl rfl ?_
                  refine g_aload_n 1 dX0_add_0 rfl rfl ?_
                  refine g_get 4 dX0_add_1 faX0_9_X0 f530 rfl rfl ?_
                  refine g_ifZ_lt 18 7 dX0_add_4 rfl rfl (by omega) (fun q => absurd q (by omega)) (fun _ => ?_)
                  refine g_aload_n 8 dX0_add_7 rfl rfl ?_
                  refine g_get 11 dX0_add_8 faX0_9_X0 f530 rfl rfl ?_
                  refine g_aload_n 12 dX0_add_11 rfl rfl ?_
                  refine g_get 15 dX0_add_12 faX0_21_X0 f530 rfl rfl ?_
                  refine g_icZ_lt 20 18 dX0_add_15 rfl rfl (by omega) (by decide) (fun _ => ?_) (fun q => absurd q (by omega))
                  refine g_aload_n 21 dX0_add_20 rfl rfl ?_
                  refine g_get 24 dX0_add_21 faX0_24_X0 f530 rfl rfl ?_
                  refine g_aload_n 25 dX0_add_24 rfl rfl ?_
                  refine g_get 28 dX0_add_25 faX0_9_X0 f530 rfl rfl ?_
                  refine g_iload_n 29 dX0_add_28 rfl rfl ?_
                  have f531 := (s528.get (by decide) (s524.get (by decide) F2))
                  refine g_iastFj (n.toNat) 30 dX0_add_29 f531 (by omega) (by omega) (by decide) rfl rfl (fun h532 s533 f534 => ?_)
                  refine g_aload_n 31 dX0_add_30 rfl rfl ?_
                  have f535 := (s533.get (by decide) f530)
                  refine g_get 34 dX0_add_31 faX0_28_X0 f535 rfl rfl ?_
                  refine g_aload_n 35 dX0_add_34 rfl rfl ?_
                  refine g_get 38 dX0_add_35 faX0_9_X0 f535 rfl rfl ?_
                  refine g_iload_n 39 dX0_add_38 rfl rfl ?_
                  have f536 := (s533.get (by decide) (s528.get (by decide) (s524.get (by decide) F3)))
                  refine g_iastFj (n.toNat) 40 dX0_add_39 f536 (by omega) (by omega) (by decide) rfl rfl (fun h537 s538 f539 => ?_)
                  refine g_aload_n 41 dX0_add_40 rfl rfl ?_
                  refine g_dup 42 dX0_add_41 rfl rfl ?_
                  have f540 := (s538.get (by decide) f535)
                  refine g_get 45 dX0_add_42 faX0_9_X0 f540 rfl rfl ?_
                  refine g_iconst (v := iZ (1)) 46 dX0_add_45 rfl rfl ?_
                  refine g_iaddZ (n + 1) 47 dX0_add_46 (by omega) rfl ?_
                  refine g_putC (fs1 := [.int (iZ 256), .ref 11, .ref 12, .int (iZ (n + 1))]) 50 dX0_add_47 fpX0_9_X0 f540 (nle rfl) (vI _) rfl rfl (fun h541 s542 f543 => ?_)
                  refine g_iconst (v := iZ (1)) 51 dX0_add_50 rfl rfl ?_
                  refine g_zret rfl z01_1 dX0_add_51 ?_
                  refine rI ?_
                  refine g_zret rfl z01_1 dX4_takesLetter_42 ?_
                  refine rI ?_
                  refine g_goto 59 dX4_takes_46 rfl ?_
                  refine g_zret rfl z01_1 dX4_takes_59 ?_
                  refine rI ?_
                  refine g_ifZ_ne 52 50 dX4_faultIn_47 rfl rfl (by decide) (fun _ => ?_) (fun q => absurd q (by decide))
                  refine g_aload_n 53 dX4_faultIn_52 rfl rfl ?_
                  refine g_iload_n 54 dX4_faultIn_53 rfl rfl ?_
                  refine g_iload 56 dX4_faultIn_54 rfl rfl ?_
                  refine g_iaddZ (av + z31) 57 dX4_faultIn_56 (by omega) rfl ?_
                  have f544 := (s542.get (by simp <;> omega) (s538.get (by simp <;> omega) (s533.get (by simp <;> omega) (s528.get (by simp <;> omega) (s524.get (by simp <;> omega) F6)))))
                  refine g_callV (z := mX6_pastGap) (As := [.int (iZ (av + z31))]) 60 dX4_faultIn_57 mwX6_pastGap ⟨by decide, by decide⟩ rfl wlX4_28 wiX6_pastGap wsX6_pastGap f544 rfl rfl rfl (nle rfl) (nle rfl) rfl ?_
                  have f545 := (s542.get (by simp <;> omega) (s538.get (by simp <;> omega) (s533.get (by simp <;> omega) (s528.get (by simp <;> omega) (s524.get (by simp <;> omega) F7)))))
                  refine c_gap  f544 f545 otf (by omega) (by omega) (by omega) (fun z546 rz546 => ?_)
                  refine rI ?_
                  obtain ⟨gz546, bz546⟩ := rz546
                  refine g_istore_n (L1 := [some (.ref 9), some (.ref t), some (.int (iZ z546)), some (.int (iZ j)), some (.int (iZ z31))]) 61 dX4_faultIn_60 (by decide) rfl rfl rfl ?_
                  refine g_iincZ [some (.ref 9), some (.ref t), some (.int (iZ z546)), some (.int (iZ (j + 1))), some (.int (iZ z31))] 64 dX4_faultIn_61 rfl (by omega) (by decide) rfl rfl rfl ?_
                  refine g_goto 12 dX4_faultIn_64 rfl ?_
                  refine Go.fgt 4 ?_
                  have f547 := (s542.get (by decide) (s538.get (by decide) (s533.get (by decide) f529)))
                  have f548 := (s542.get (by decide) (s538.get (by decide) f534))
                  have f549 := (s542.get (by decide) f539)
                  have f550 := (s542.get (by decide) (s538.get (by decide) (s533.get (by decide) (s528.get (by decide) (s524.get (by decide) F4)))))
                  have f551 := (s542.get (by decide) (s538.get (by decide) (s533.get (by decide) (s528.get (by decide) f525))))
                  exact ih _ (by omega) _ (0) (la) (n + 1) (va_up f n.toNat 0) (va_up g n.toNat av) (pl) (va_up lu n.toNat ((tf av.toNat) - 65)) (z546) (j + 1) rfl (by omega) (by omega) (by omega) (oki_up of _ (by omega)) (oki_up og _ (by omega)) opl (oki_up olu _ (by omega)) f547 f543 f548 f549 f550 f551 f544 f545 (by omega) (by omega) hok (by rw [gz546, show av + z31 = tkE tn (fun j => tf j.toNat) av by rw [rz31]; exact tkS_E (by rw [← rz31]; omega)]; exact C_l2 hC (by omega) (by omega) (by omega) (show 65 ≤ tf av.toNat ∧ tf av.toNat ≤ 90 by omega) (by omega)) (fun hQ xQ0 xQ1 xQ2 xQ3 xQ4 xQ5 xQ6 rQ yQ0 yQ1 yQ2 yQ3 yQ4 yQ5 yQ6 yQ7 pQ0 sQ uQ0 uQ1 uQ2 uQ3 uQ4 uQ5 => k hQ xQ0 xQ1 xQ2 xQ3 xQ4 xQ5 xQ6 rQ yQ0 yQ1 yQ2 yQ3 yQ4 yQ5 yQ6 yQ7 pQ0 (((((((Sm.refl [9, 10, 11, 12, 13, 14] _).tr s524 (fun _ q => q) (by simp)).tr s528 (fun _ q => q) (by simp)).tr s533 (fun _ q => q) (by simp)).tr s538 (fun _ q => q) (by simp)).tr s542 (fun _ q => q) (by simp)).tr sQ (fun _ q => q) (fun _ q => q)) uQ0 uQ1 uQ2 uQ3 uQ4 uQ5)
          · refine g_aload_n 15 dX4_takes_14 rfl rfl ?_
            refine g_iload_n 16 dX4_takes_15 rfl rfl ?_
            refine g_callV (z := mX4_takesColon) (As := [.int (iZ av)]) 19 dX4_takes_16 mwX4_takesColon ⟨by decide, by decide⟩ rfl wlX4_73 wiX4_takesColon wsX4_takesColon F0 rfl rfl rfl (nle rfl) (nle rfl) rfl ?_
            refine Go.to [some (.ref 9), some (.int (iZ av))] [] rfl rfl ?_
            refine g_aload_n 1 dX4_takesColon_0 rfl rfl ?_
            refine g_get 4 dX4_takesColon_1 faX4_18_X4 F0 rfl rfl ?_
            refine g_iconst (v := iZ (1)) 5 dX4_takesColon_4 rfl rfl ?_
            refine g_icZ_ne 18 8 dX4_takesColon_5 rfl rfl (by omega) (by decide) (fun c552 => ?_) (fun c552 => ?_)
            · refine g_iconst (v := iZ (0)) 19 dX4_takesColon_18 rfl rfl ?_
              refine g_zret rfl z01_0 dX4_takesColon_19 ?_
              refine rI ?_
              refine g_zret rfl z01_0 dX4_takes_19 ?_
              refine rI ?_
              refine g_ifZ_ne 52 50 dX4_faultIn_47 rfl rfl (by decide) (fun q => absurd q (by decide)) (fun _ => ?_)
              refine g_iload_n 51 dX4_faultIn_50 rfl rfl ?_
              refine g_iret rfl dX4_faultIn_51 ?_
              exact k _ (due) (la) (n) (f) (g) (pl) (lu) (av) (by omega) (by omega) (by omega) of og opl olu (by omega) (nr_f (C_cf hC (by omega) (by omega) (show tf av.toNat = 58 by omega) (by omega)) (by omega)) (Sm.refl [9, 10, 11, 12, 13, 14] _) F0 F1 F2 F3 F4 F5
            · refine g_iload_n 9 dX4_takesColon_8 rfl rfl ?_
              refine g_aload_n 10 dX4_takesColon_9 rfl rfl ?_
              refine g_get 13 dX4_takesColon_10 faX4_22_X4 F0 rfl rfl ?_
              refine g_iconst (v := iZ (1)) 14 dX4_takesColon_13 rfl rfl ?_
              refine g_iaddZ (la + 1) 15 dX4_takesColon_14 (by omega) rfl ?_
              refine g_icZ_eq 20 18 dX4_takesColon_15 rfl rfl (by omega) (by omega) (fun c553 => ?_) (fun c553 => ?_)
              · refine g_aload_n 21 dX4_takesColon_20 rfl rfl ?_
                refine g_iconst (v := iZ (0)) 22 dX4_takesColon_21 rfl rfl ?_
                refine g_putC (fs1 := [.ref 10, .ref 13, .ref 14, .int (iZ 0), .int (iZ la)]) 25 dX4_takesColon_22 fpX4_18_X4 F0 (nle rfl) (vI _) rfl rfl (fun h554 s555 f556 => ?_)
                refine g_iconst (v := iZ (1)) 26 dX4_takesColon_25 rfl rfl ?_
                refine g_zret rfl z01_1 dX4_takesColon_26 ?_
                refine rI ?_
                refine g_zret rfl z01_1 dX4_takes_19 ?_
                refine rI ?_
                refine g_ifZ_ne 52 50 dX4_faultIn_47 rfl rfl (by decide) (fun _ => ?_) (fun q => absurd q (by decide))
                refine g_aload_n 53 dX4_faultIn_52 rfl rfl ?_
                refine g_iload_n 54 dX4_faultIn_53 rfl rfl ?_
                refine g_iload 56 dX4_faultIn_54 rfl rfl ?_
                refine g_iaddZ (av + z31) 57 dX4_faultIn_56 (by omega) rfl ?_
                have f557 := (s555.get (by simp <;> omega) F6)
                refine g_callV (z := mX6_pastGap) (As := [.int (iZ (av + z31))]) 60 dX4_faultIn_57 mwX6_pastGap ⟨by decide, by decide⟩ rfl wlX4_28 wiX6_pastGap wsX6_pastGap f557 rfl rfl rfl (nle rfl) (nle rfl) rfl ?_
                have f558 := (s555.get (by simp <;> omega) F7)
                refine c_gap  f557 f558 otf (by omega) (by omega) (by omega) (fun z559 rz559 => ?_)
                refine rI ?_
                obtain ⟨gz559, bz559⟩ := rz559
                refine g_istore_n (L1 := [some (.ref 9), some (.ref t), some (.int (iZ z559)), some (.int (iZ j)), some (.int (iZ z31))]) 61 dX4_faultIn_60 (by decide) rfl rfl rfl ?_
                refine g_iincZ [some (.ref 9), some (.ref t), some (.int (iZ z559)), some (.int (iZ (j + 1))), some (.int (iZ z31))] 64 dX4_faultIn_61 rfl (by omega) (by decide) rfl rfl rfl ?_
                refine g_goto 12 dX4_faultIn_64 rfl ?_
                refine Go.fgt 4 ?_
                have f560 := (s555.get (by decide) F1)
                have f561 := (s555.get (by decide) F2)
                have f562 := (s555.get (by decide) F3)
                have f563 := (s555.get (by decide) F4)
                have f564 := (s555.get (by decide) F5)
                exact ih _ (by omega) _ (0) (la) (n) (f) (g) (pl) (lu) (z559) (j + 1) rfl (by omega) (by omega) (by omega) of og opl olu f556 f560 f561 f562 f563 f564 f557 f558 (by omega) (by omega) hok (by rw [gz559, show av + z31 = tkE tn (fun j => tf j.toNat) av by rw [rz31]; exact tkS_E (by rw [← rz31]; omega)]; exact C_c hC (by omega) (by omega) (show tf av.toNat = 58 by omega) ⟨by omega, by omega⟩) (fun hQ xQ0 xQ1 xQ2 xQ3 xQ4 xQ5 xQ6 rQ yQ0 yQ1 yQ2 yQ3 yQ4 yQ5 yQ6 yQ7 pQ0 sQ uQ0 uQ1 uQ2 uQ3 uQ4 uQ5 => k hQ xQ0 xQ1 xQ2 xQ3 xQ4 xQ5 xQ6 rQ yQ0 yQ1 yQ2 yQ3 yQ4 yQ5 yQ6 yQ7 pQ0 (((Sm.refl [9, 10, 11, 12, 13, 14] _).tr s555 (fun _ q => q) (by simp)).tr sQ (fun _ q => q) (fun _ q => q)) uQ0 uQ1 uQ2 uQ3 uQ4 uQ5)
              · refine g_iconst (v := iZ (0)) 19 dX4_takesColon_18 rfl rfl ?_
                refine g_zret rfl z01_0 dX4_takesColon_19 ?_
                refine rI ?_
                refine g_zret rfl z01_0 dX4_takes_19 ?_
                refine rI ?_
                refine g_ifZ_ne 52 50 dX4_faultIn_47 rfl rfl (by decide) (fun q => absurd q (by decide)) (fun _ => ?_)
                refine g_iload_n 51 dX4_faultIn_50 rfl rfl ?_
                refine g_iret rfl dX4_faultIn_51 ?_
                exact k _ (due) (la) (n) (f) (g) (pl) (lu) (av) (by omega) (by omega) (by omega) of og opl olu (by omega) (nr_f (C_cf hC (by omega) (by omega) (show tf av.toNat = 58 by omega) (by omega)) (by omega)) (Sm.refl [9, 10, 11, 12, 13, 14] _) F0 F1 F2 F3 F4 F5
set_option maxRecDepth 100000 in
theorem c_nf {l : Launch} {h : MH} {Q : Option Value → MH → Prop} {t : Nat} {due la n tn : Int} {pl lu f g tf : Nat → Int} (F0 : h[9]? = some (.inr (3, [.ref 10, .ref 13, .ref 14, .int (iZ due), .int (iZ la)]))) (F1 : h[10]? = some (.inr (0, [.int (iZ 256), .ref 11, .ref 12, .int (iZ n)]))) (F2 : h[11]? = some (.inl (0, 256, .inl (zA f)))) (F3 : h[12]? = some (.inl (0, 256, .inl (zA g)))) (F4 : h[13]? = some (.inl (0, 26, .inl (zA pl)))) (F5 : h[14]? = some (.inl (0, 256, .inl (zA lu)))) (F6 : h[t]? = some (.inr (5, [.ref (t + 1), .int (iZ tn)]))) (F7 : h[t + 1]? = some (.inl (0, 200, .inl (zA tf)))) (of : oki (0) (255) f) (og : oki (0) (300) g) (opl : oki (-9) (255) pl) (olu : oki (-9) (25) lu) (otf : oki (0) (255) tf) (rdue : (0 ≤ due ∧ due ≤ 2)) (rla : (-9 ≤ la ∧ la ≤ 200)) (rn : (0 ≤ n ∧ n ≤ 256)) (rtn : (0 ≤ tn ∧ tn ≤ 200)) (hT : 15 < t) (k : ∀ (h1 : MH) (due_1 la_1 n_1 : Int) (f_1 : Nat → Int) (g_1 : Nat → Int) (pl_1 : Nat → Int) (lu_1 : Nat → Int) (r : Int), (0 ≤ due_1 ∧ due_1 ≤ 2) → (-9 ≤ la_1 ∧ la_1 ≤ 200) → (0 ≤ n_1 ∧ n_1 ≤ 256) → oki (0) (255) f_1 → oki (0) (300) g_1 → oki (-9) (255) pl_1 → oki (-9) (25) lu_1 → (r = -9 ∨ (0 ≤ r ∧ r ≤ 300)) → (nrR (namE tn (fun j => tf j.toNat)) r n_1 f_1 g_1) → Sm [9, 10, 11, 12, 13, 14] h h1 → h1[9]? = some (.inr (3, [.ref 10, .ref 13, .ref 14, .int (iZ due_1), .int (iZ la_1)])) → h1[10]? = some (.inr (0, [.int (iZ 256), .ref 11, .ref 12, .int (iZ n_1)])) → h1[11]? = some (.inl (0, 256, .inl (zA f_1))) → h1[12]? = some (.inl (0, 256, .inl (zA g_1))) → h1[13]? = some (.inl (0, 26, .inl (zA pl_1))) → h1[14]? = some (.inl (0, 256, .inl (zA lu_1))) → Q (some (.int (iZ r))) h1) : Go l mX4_faultIn 0 [some (.ref 9), some (.ref t), none, none, none] [] h Q := by
  refine g_aload_n 1 dX4_faultIn_0 rfl rfl ?_
  refine g_callV (z := mX4_begin) (As := []) 4 dX4_faultIn_1 mwX4_begin ⟨by decide, by decide⟩ rfl wlX4_25 wiX4_begin wsX4_begin F0 rfl rfl rfl (nle rfl) (nle rfl) rfl ?_
  refine c_beg F0 F1 F4 F5 opl olu (fun h1 s2 f3 f4 f5 f6 => ?_)
  refine rV ?_
  refine g_aload_n 5 dX4_faultIn_4 rfl rfl ?_
  refine g_iconst (v := iZ (0)) 6 dX4_faultIn_5 rfl rfl ?_
  have f7 := (s2.get (by simp <;> omega) F6)
  refine g_callV (z := mX6_pastGap) (As := [.int (iZ 0)]) 9 dX4_faultIn_6 mwX6_pastGap ⟨by decide, by decide⟩ rfl wlX4_28 wiX6_pastGap wsX6_pastGap f7 rfl rfl rfl (nle rfl) (nle rfl) rfl ?_
  have f8 := (s2.get (by simp <;> omega) F7)
  refine c_gap  f7 f8 otf (by omega) (by omega) (by omega) (fun z9 rz9 => ?_)
  refine rI ?_
  obtain ⟨gz9, bz9⟩ := rz9
  refine g_istore_n (L1 := [some (.ref 9), some (.ref t), some (.int (iZ z9)), none, none]) 10 dX4_faultIn_9 (by decide) rfl rfl rfl ?_
  refine g_iconst (v := iZ (0)) 11 dX4_faultIn_10 rfl rfl ?_
  refine g_istore_n (L1 := [some (.ref 9), some (.ref t), some (.int (iZ z9)), some (.int (iZ 0)), none]) 12 dX4_faultIn_11 (by decide) rfl rfl rfl ?_
  have f10 := (s2.get (by decide) F2)
  have f11 := (s2.get (by decide) F3)
  exact c_nf_l otf rtn hT _ _ (0) (-9) (0) (f) (g) ((fun _ => -9)) ((fun _ => -9)) (z9) (0) rfl (by omega) (by omega) (by omega) of og (oki_m9 (by decide)) (oki_m9 (by decide)) f3 f4 f10 f11 f5 f6 f7 f8 (by omega) (by omega) (fun _ => Or.inl rfl) (by rw [gz9]; exact C_0 (by omega)) (fun hQ xQ0 xQ1 xQ2 xQ3 xQ4 xQ5 xQ6 rQ yQ0 yQ1 yQ2 yQ3 yQ4 yQ5 yQ6 yQ7 pQ0 sQ uQ0 uQ1 uQ2 uQ3 uQ4 uQ5 => k hQ xQ0 xQ1 xQ2 xQ3 xQ4 xQ5 xQ6 rQ yQ0 yQ1 yQ2 yQ3 yQ4 yQ5 yQ6 yQ7 pQ0 (((Sm.refl [9, 10, 11, 12, 13, 14] _).tr s2 (fun _ q => q) (by simp)).tr sQ (fun _ q => q) (fun _ q => q)) uQ0 uQ1 uQ2 uQ3 uQ4 uQ5)

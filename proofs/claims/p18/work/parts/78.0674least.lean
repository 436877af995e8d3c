set_option maxRecDepth 100000 in
theorem z_least_l {l : Launch} {h : MH} {Q : Option Value → MH → Prop} {tc : Nat} {tr : Int64} {xn : Nat → Int} {xf V Bf Lf : Nat → Nat → Int} {F : Int32} (HC : CORE2 h tc tr xn xf V Bf Lf) (k : Q (some (.int (lsF V F tc))) h) : ∀ (m0 : Nat) (b : Int32) (j : Int), (12 - j).toNat = m0 → 0 ≤ j ∧ j ≤ 12 → b = lsF V F (min j (tc : Int)).toNat → Go l mX8_least 30 [some (.ref 0), none, some (.int F), some (.int b), some (.int (iZ j)), none, none] [] h Q := by
  intro m0
  induction m0 using Nat.strongRecOn with
  | ind m0 ih =>
    intro b j hmz hj hb
    obtain ⟨F0, F3, F4, htc, HT, HL⟩ := id HC
    refine g_iload 32 dX8_least_30 rfl rfl ?_
    refine g_bipush (v := iZ (12)) 34 dX8_least_32 (by decide +kernel) rfl ?_
    refine g_icZ_ge 96 37 dX8_least_34 rfl rfl (by omega) (by decide) (fun c1 => ?_) (fun c1 => ?_)
    · refine g_iload_n 97 dX8_least_96 rfl rfl ?_
      refine g_iret rfl dX8_least_97 ?_
      have q := ls_e (by omega) htc hb
      subst q
      exact k
    · refine g_iload_n 38 dX8_least_37 rfl rfl ?_
      refine g_iload 40 dX8_least_38 rfl rfl ?_
      refine g_callS (z := mX8_hasBit) (As := [.int F, .int (iZ j)]) 43 dX8_least_40 mwX8_hasBit ⟨by decide, by decide⟩ rfl wlX8_180 wtX8_hasBit rfl (nle rfl) (nle rfl) rfl ?_
      refine z_hb (fun z2 rz2 => ?_)
      have bz2 : z2 = 0 ∨ z2 = 1 := rz2.elim (fun q => Or.inr q.1) (fun q => Or.inl q.1)
      refine rI ?_
      refine g_ifZ_eq 90 46 dX8_least_43 rfl rfl (rg01 bz2) (fun c3 => ?_) (fun c3 => ?_)
      · refine g_iincZ [some (.ref 0), none, some (.int F), some (.int b), some (.int (iZ (j + 1))), none, none] 93 dX8_least_90 rfl (by omega) (by decide) rfl rfl rfl ?_
        refine g_goto 30 dX8_least_93 rfl ?_
        exact ih _ (by omega) b (j + 1) rfl (by omega) (ls_stay (by omega) hb (fun _ q => rz2.elim (fun y => absurd y.1 (by omega)) (fun y => y.2 q.1)))
      · refine g_aload_n 47 dX8_least_46 rfl rfl ?_
        refine g_iload 49 dX8_least_47 rfl rfl ?_
        refine g_callV (z := mX8_chainEnd) (As := [.int (iZ j)]) 52 dX8_least_49 mwX8_chainEnd ⟨by decide, by decide⟩ rfl wlX8_183 wiX8_chainEnd wsX8_chainEnd F0 rfl rfl rfl (nle rfl) (nle rfl) rfl ?_
        refine z_che HC (by omega)  (fun z4 rz4 => ?_)
        refine rI ?_
        refine g_istore (L1 := [some (.ref 0), none, some (.int F), some (.int b), some (.int (iZ j)), some (.int (iZ z4)), none]) 54 dX8_least_52 (by decide) rfl rfl rfl ?_
        refine g_aload_n 55 dX8_least_54 rfl rfl ?_
        refine g_iload 57 dX8_least_55 rfl rfl ?_
        refine g_callV (z := mX8_toolAt) (As := [.int (iZ z4)]) 60 dX8_least_57 mwX8_toolAt ⟨by decide, by decide⟩ rfl wlX8_90 wiX8_toolAt wsX8_toolAt F0 rfl rfl rfl (nle rfl) (nle rfl) rfl ?_
        refine Go.to [some (.ref 0), some (.int (iZ z4))] [] rfl rfl ?_
        refine g_iload_n 1 dX8_toolAt_0 rfl rfl ?_
        refine g_ifZ_lt 18 4 dX8_toolAt_1 rfl rfl rz4.2.2 (fun c5 => ?_) (fun c5 => ?_)
        · refine g_null 19 dX8_toolAt_18 rfl ?_
          refine g_goto 28 dX8_toolAt_19 rfl ?_
          refine g_aret rfl (Or.inl rfl) dX8_toolAt_28 ?_
          refine rN ?_
          refine g_astoreN (L1 := [some (.ref 0), none, some (.int F), some (.int b), some (.int (iZ j)), some (.int (iZ z4)), some (.null)]) 62 dX8_least_60 (by decide) rfl rfl rfl ?_
          refine g_aloadN 64 dX8_least_62 rfl rfl ?_
          refine g_ifnullN 90 dX8_least_64 rfl ?_
          refine g_iincZ [some (.ref 0), none, some (.int F), some (.int b), some (.int (iZ (j + 1))), some (.int (iZ z4)), some (.null)] 93 dX8_least_90 rfl (by omega) (by decide) rfl rfl rfl ?_
          refine g_goto 30 dX8_least_93 rfl ?_
          refine Go.fgt 5 ?_
          refine Go.fgt 6 ?_
          exact ih _ (by omega) b (j + 1) rfl (by omega) (ls_stay (by omega) hb (fun q y => by
        have u := rz4.1 ⟨by omega, q⟩
        have y1 := y.2.1
        have y2 := y.2.2
        rw [← u.1] at y1 y2
        omega))
        · refine g_iload_n 5 dX8_toolAt_4 rfl rfl ?_
          refine g_aload_n 6 dX8_toolAt_5 rfl rfl ?_
          refine g_get 9 dX8_toolAt_6 faX8_26_X8 F0 rfl rfl ?_
          refine g_icZ_ge 18 12 dX8_toolAt_9 rfl rfl rz4.2.2 (by omega) (fun c6 => ?_) (fun c6 => ?_)
          · refine g_null 19 dX8_toolAt_18 rfl ?_
            refine g_goto 28 dX8_toolAt_19 rfl ?_
            refine g_aret rfl (Or.inl rfl) dX8_toolAt_28 ?_
            refine rN ?_
            refine g_astoreN (L1 := [some (.ref 0), none, some (.int F), some (.int b), some (.int (iZ j)), some (.int (iZ z4)), some (.null)]) 62 dX8_least_60 (by decide) rfl rfl rfl ?_
            refine g_aloadN 64 dX8_least_62 rfl rfl ?_
            refine g_ifnullN 90 dX8_least_64 rfl ?_
            refine g_iincZ [some (.ref 0), none, some (.int F), some (.int b), some (.int (iZ (j + 1))), some (.int (iZ z4)), some (.null)] 93 dX8_least_90 rfl (by omega) (by decide) rfl rfl rfl ?_
            refine g_goto 30 dX8_least_93 rfl ?_
            refine Go.fgt 5 ?_
            refine Go.fgt 6 ?_
            exact ih _ (by omega) b (j + 1) rfl (by omega) (ls_stay (by omega) hb (fun q y => by
        have u := rz4.1 ⟨by omega, q⟩
        have y1 := y.2.1
        have y2 := y.2.2
        rw [← u.1] at y1 y2
        omega))
          · refine g_iload_n 13 dX8_toolAt_12 rfl rfl ?_
            refine g_bipush (v := iZ (12)) 15 dX8_toolAt_13 (by decide +kernel) rfl ?_
            refine g_icZ_lt 22 18 dX8_toolAt_15 rfl rfl rz4.2.2 (by decide) (fun c7 => ?_) (fun c7 => ?_)
            · refine g_aload_n 23 dX8_toolAt_22 rfl rfl ?_
              refine g_get 26 dX8_toolAt_23 faX8_22_X8 F0 rfl rfl ?_
              refine g_iload_n 27 dX8_toolAt_26 rfl rfl ?_
              refine g_aaldZ 28 dX8_toolAt_27 F4 (by decide) (by omega) (by omega) (by decide) (tls_at (by omega) (by omega)) rfl ?_
              refine g_aret rfl (Or.inr ⟨_, rfl⟩) dX8_toolAt_28 ?_
              refine rR ?_
              refine g_astore (L1 := [some (.ref 0), none, some (.int F), some (.int b), some (.int (iZ j)), some (.int (iZ z4)), some (.ref (71 + 4 * z4.toNat))]) 62 dX8_least_60 (by decide) rfl rfl rfl ?_
              refine g_aload 64 dX8_least_62 rfl rfl ?_
              refine g_ifnull 67 dX8_least_64 rfl ?_
              refine g_aload 69 dX8_least_67 rfl rfl ?_
              obtain ⟨ta1_8, ta2_8, ta3_8, ta4_8, ta5_8, ta6_8, ta7_8, ta8_8, ta9_8, tb0_8, tb1_8, tb2_8, tb3_8⟩ := HL (z4.toNat) (by omega)
              refine g_get 72 dX8_least_69 faX8_112_X7 tb0_8 rfl rfl ?_
              refine g_ifZ_ne 90 75 dX8_least_72 rfl rfl (by omega) (fun c9 => ?_) (fun c9 => ?_)
              · refine g_iincZ [some (.ref 0), none, some (.int F), some (.int b), some (.int (iZ (j + 1))), some (.int (iZ z4)), some (.ref (71 + 4 * z4.toNat))] 93 dX8_least_90 rfl (by omega) (by decide) rfl rfl rfl ?_
                refine g_goto 30 dX8_least_93 rfl ?_
                refine Go.fgt 5 ?_
                refine Go.fgt 6 ?_
                exact ih _ (by omega) b (j + 1) rfl (by omega) (ls_stay (by omega) hb (fun q y => by
        have u := rz4.1 ⟨by omega, q⟩
        have y1 := y.2.1
        have y2 := y.2.2
        rw [← u.1] at y1 y2
        omega))
              · refine g_aload 77 dX8_least_75 rfl rfl ?_
                refine g_get 80 dX8_least_77 faX8_121_X7 tb0_8 rfl rfl ?_
                refine g_ifZ_ne 90 83 dX8_least_80 rfl rfl (rg01 ta7_8) (fun c10 => ?_) (fun c10 => ?_)
                · refine g_iincZ [some (.ref 0), none, some (.int F), some (.int b), some (.int (iZ (j + 1))), some (.int (iZ z4)), some (.ref (71 + 4 * z4.toNat))] 93 dX8_least_90 rfl (by omega) (by decide) rfl rfl rfl ?_
                  refine g_goto 30 dX8_least_93 rfl ?_
                  refine Go.fgt 5 ?_
                  refine Go.fgt 6 ?_
                  exact ih _ (by omega) b (j + 1) rfl (by omega) (ls_stay (by omega) hb (fun q y => by
        have u := rz4.1 ⟨by omega, q⟩
        have y1 := y.2.1
        have y2 := y.2.2
        rw [← u.1] at y1 y2
        omega))
                · refine g_iload_n 84 dX8_least_83 rfl rfl ?_
                  refine g_iconst (v := iZ (1)) 85 dX8_least_84 rfl rfl ?_
                  refine g_iload 87 dX8_least_85 rfl rfl ?_
                  refine g_ishl 88 dX8_least_87 rfl ?_
                  refine g_ior 89 dX8_least_88 rfl ?_
                  refine g_istore_n (L1 := [some (.ref 0), none, some (.int F), some (.int (b ||| (iZ (1) <<< (iZ (z4) &&& 31)))), some (.int (iZ j)), some (.int (iZ z4)), some (.ref (71 + 4 * z4.toNat))]) 90 dX8_least_89 (by decide) rfl rfl rfl ?_
                  refine g_iincZ [some (.ref 0), none, some (.int F), some (.int (b ||| (iZ (1) <<< (iZ (z4) &&& 31)))), some (.int (iZ (j + 1))), some (.int (iZ z4)), some (.ref (71 + 4 * z4.toNat))] 93 dX8_least_90 rfl (by omega) (by decide) rfl rfl rfl ?_
                  refine g_goto 30 dX8_least_93 rfl ?_
                  refine Go.fgt 5 ?_
                  refine Go.fgt 6 ?_
                  have hjt : 0 ≤ j ∧ j < tc := by have q := rz4.2.1; omega
                  exact ih _ (by omega) _ (j + 1) rfl (by omega) (ls_add hjt hb (rz4.1 hjt).1 (rz2.elim (fun y => y.2) (fun y => absurd y.1 (by omega))) (by omega) (by omega))
            · refine g_null 19 dX8_toolAt_18 rfl ?_
              refine g_goto 28 dX8_toolAt_19 rfl ?_
              refine g_aret rfl (Or.inl rfl) dX8_toolAt_28 ?_
              refine rN ?_
              refine g_astoreN (L1 := [some (.ref 0), none, some (.int F), some (.int b), some (.int (iZ j)), some (.int (iZ z4)), some (.null)]) 62 dX8_least_60 (by decide) rfl rfl rfl ?_
              refine g_aloadN 64 dX8_least_62 rfl rfl ?_
              refine g_ifnullN 90 dX8_least_64 rfl ?_
              refine g_iincZ [some (.ref 0), none, some (.int F), some (.int b), some (.int (iZ (j + 1))), some (.int (iZ z4)), some (.null)] 93 dX8_least_90 rfl (by omega) (by decide) rfl rfl rfl ?_
              refine g_goto 30 dX8_least_93 rfl ?_
              refine Go.fgt 5 ?_
              refine Go.fgt 6 ?_
              exact ih _ (by omega) b (j + 1) rfl (by omega) (ls_stay (by omega) hb (fun q y => by
        have u := rz4.1 ⟨by omega, q⟩
        have y1 := y.2.1
        have y2 := y.2.2
        rw [← u.1] at y1 y2
        omega))
set_option maxRecDepth 100000 in
theorem d8_least {l : Launch} {h : MH} {Q : Option Value → MH → Prop} {tn : Int} {tf : Nat → Int} {xn : Nat → Int} {xf : Nat → Nat → Int} {en : Int} {tc : Nat} {tr : Int64} {V Bf Lf : Nat → Nat → Int} {q lm lo : Nat → Int} {z0 : Int} (H : IX2 h tn tf xn xf en tc tr V Bf Lf q lm lo) (rz0 : rg z0) (k : ∀ (h1 : MH) (r : Int32), lsP tc V (stT xn (XF xf) V Bf tc) z0 r → IX2 h1 tn tf xn xf en tc tr V Bf Lf q lm lo → Mo h h1 → Q (some (.int r)) h1) : Go l mX8_least 0 [some (.ref 0), some (.int (iZ z0)), none, none, none, none, none] [] h Q := by
  obtain ⟨HC, HS, HLm, HY, HE, hlen, hmz⟩ := id H
  obtain ⟨F0, F3, F4, htc, HT, HL⟩ := id HC
  refine g_iload_n 1 dX8_least_0 rfl rfl ?_
  refine g_ifZ_lt 14 4 dX8_least_1 rfl rfl rz0 (fun c1 => ?_) (fun c1 => ?_)
  · refine g_iconst (v := iZ (-1)) 15 dX8_least_14 rfl rfl ?_
    refine g_iret rfl dX8_least_15 ?_
    exact k _ (iZ (-1)) ⟨fun q => by omega, fun _ => rfl⟩ H (fun _ _ _ => rfl)
  · refine g_iload_n 5 dX8_least_4 rfl rfl ?_
    refine g_iconst (v := iZ (1)) 6 dX8_least_5 rfl rfl ?_
    refine g_aload_n 7 dX8_least_6 rfl rfl ?_
    refine g_get 10 dX8_least_7 faX8_26_X8 F0 rfl rfl ?_
    refine g_ishlZ (2 ^ tc) 11 dX8_least_10 (shl16 tc (by omega)) rfl ?_
    refine g_icZ_lt 16 14 dX8_least_11 rfl rfl rz0 (pow16 _ (by omega)) (fun c2 => ?_) (fun c2 => ?_)
    · refine g_iload_n 17 dX8_least_16 rfl rfl ?_
      refine g_aload_n 18 dX8_least_17 rfl rfl ?_
      refine g_callV (z := mX8_staleBits) (As := []) 21 dX8_least_18 mwX8_staleBits ⟨by decide, by decide⟩ rfl wlX8_158 wiX8_staleBits wsX8_staleBits F0 rfl rfl rfl (nle rfl) (nle rfl) rfl ?_
      refine z_stale HC HS   (fun h4 z3 rz3 H5 s6 => ?_)
      refine rI ?_
      refine g_iconst (v := iZ (-1)) 22 dX8_least_21 rfl rfl ?_
      refine g_ixor 23 dX8_least_22 rfl ?_
      refine g_iand 24 dX8_least_23 rfl ?_
      refine g_istore_n (L1 := [some (.ref 0), some (.int (iZ z0)), some (.int (iZ (z0) &&& (iZ (z3) ^^^ iZ (-1)))), none, none, none, none]) 25 dX8_least_24 (by decide) rfl rfl rfl ?_
      refine g_iconst (v := iZ (0)) 26 dX8_least_25 rfl rfl ?_
      refine g_istore_n (L1 := [some (.ref 0), some (.int (iZ z0)), some (.int (iZ (z0) &&& (iZ (z3) ^^^ iZ (-1)))), some (.int (iZ 0)), none, none, none]) 27 dX8_least_26 (by decide) rfl rfl rfl ?_
      refine g_iconst (v := iZ (0)) 28 dX8_least_27 rfl rfl ?_
      refine g_istore (L1 := [some (.ref 0), some (.int (iZ z0)), some (.int (iZ (z0) &&& (iZ (z3) ^^^ iZ (-1)))), some (.int (iZ 0)), some (.int (iZ 0)), none, none]) 30 dX8_least_28 (by decide) rfl rfl rfl ?_
      refine Go.fgt 1 ?_
      refine z_least_l (HC.scr s6) ?_ _ _ 0 rfl (by omega) ls_0
      have zz := H.scr s6 H5
      exact k _ _ ⟨fun _ => by rw [rz3], fun q => by omega⟩ zz.1 zz.2
    · refine g_iconst (v := iZ (-1)) 15 dX8_least_14 rfl rfl ?_
      refine g_iret rfl dX8_least_15 ?_
      exact k _ (iZ (-1)) ⟨fun q => by omega, fun _ => rfl⟩ H (fun _ _ _ => rfl)

set_option maxRecDepth 100000 in
theorem d8_stale {l : Launch} {h : MH} {Q : Option Value → MH → Prop} {tn : Int} {tf : Nat → Int} {xn : Nat → Int} {xf : Nat → Nat → Int} {en : Int} {tc : Nat} {tr : Int64} {V Bf Lf : Nat → Nat → Int} {q lm lo : Nat → Int}  (H : IX2 h tn tf xn xf en tc tr V Bf Lf q lm lo)  (k : ∀ (h1 : MH) (r : Int), (r = ((stT xn (XF xf) V Bf tc : Nat) : Int)) → IX2 h1 tn tf xn xf en tc tr V Bf Lf q lm lo → Mo h h1 → Q (some (.int (iZ r))) h1) : Go l mX8_stale 0 [some (.ref 0)] [] h Q := by
  obtain ⟨HC, HS, HLm, HY, HE, hlen, hmz⟩ := id H
  obtain ⟨F0, F3, F4, htc, HT, HL⟩ := id HC
  refine g_aload_n 1 dX8_stale_0 rfl rfl ?_
  refine g_callV (z := mX8_staleBits) (As := []) 4 dX8_stale_1 mwX8_staleBits ⟨by decide, by decide⟩ rfl wlX8_158 wiX8_staleBits wsX8_staleBits F0 rfl rfl rfl (nle rfl) (nle rfl) rfl ?_
  refine z_stale HC HS   (fun h2 z1 rz1 H3 s4 => ?_)
  refine rI ?_
  refine g_iret rfl dX8_stale_4 ?_
  have zz := H.scr s4 H3
  exact k _ (z1) rz1 zz.1 zz.2
set_option maxRecDepth 100000 in
theorem z_seal {l : Launch} {h : MH} {Q : Option Value → MH → Prop} {tc : Nat} {tr : Int64} {xn : Nat → Int} {xf V Bf Lf : Nat → Nat → Int} {i b : Int} (HC : CORE2 h tc tr xn xf V Bf Lf) (ri : rg i) (rb : rg b) (hv : 0 ≤ i ∧ i < tc) (k : ∀ r : Int, ((r = 1 ∧ V 4 (lastF (V 3) i).toNat = 1 ∧ ¬ hbR (iZ b) i) ∨ (r = 0 ∧ ¬ (V 4 (lastF (V 3) i).toNat = 1 ∧ ¬ hbR (iZ b) i))) → Q (some (.int (iZ r))) h) : Go l mX8_isSealed 0 [some (.ref 0), some (.int (iZ i)), some (.int (iZ b)), none] [] h Q := by
  obtain ⟨F0, F3, F4, htc, HT, HL⟩ := id HC
  refine g_aload_n 1 dX8_isSealed_0 rfl rfl ?_
  refine g_aload_n 2 dX8_isSealed_1 rfl rfl ?_
  refine g_iload_n 3 dX8_isSealed_2 rfl rfl ?_
  refine g_callV (z := mX8_chainEnd) (As := [.int (iZ i)]) 6 dX8_isSealed_3 mwX8_chainEnd ⟨by decide, by decide⟩ rfl wlX8_183 wiX8_chainEnd wsX8_chainEnd F0 rfl rfl rfl (nle rfl) (nle rfl) rfl ?_
  refine z_che HC ri  (fun z1 rz1 => ?_)
  refine rI ?_
  refine g_callV (z := mX8_toolAt) (As := [.int (iZ z1)]) 9 dX8_isSealed_6 mwX8_toolAt ⟨by decide, by decide⟩ rfl wlX8_90 wiX8_toolAt wsX8_toolAt F0 rfl rfl rfl (nle rfl) (nle rfl) rfl ?_
  refine Go.to [some (.ref 0), some (.int (iZ z1))] [] rfl rfl ?_
  refine g_iload_n 1 dX8_toolAt_0 rfl rfl ?_
  refine g_ifZ_lt 18 4 dX8_toolAt_1 rfl rfl rz1.2.2 (fun c2 => ?_) (fun c2 => ?_)
  · refine g_null 19 dX8_toolAt_18 rfl ?_
    refine g_goto 28 dX8_toolAt_19 rfl ?_
    refine g_aret rfl (Or.inl rfl) dX8_toolAt_28 ?_
    refine rN ?_
    refine g_astore_nN (L1 := [some (.ref 0), some (.int (iZ i)), some (.int (iZ b)), some (.null)]) 10 dX8_isSealed_9 (by decide) rfl rfl rfl ?_
    refine g_aload_nN 11 dX8_isSealed_10 rfl rfl ?_
    refine g_ifnullN 33 dX8_isSealed_11 rfl ?_
    refine g_iconst (v := iZ (0)) 34 dX8_isSealed_33 rfl rfl ?_
    refine g_zret rfl z01_0 dX8_isSealed_34 ?_
    have he := (rz1.1 hv).1
    exact k (0) (Or.inr ⟨rfl, fun q => by
      have y := rz1.1 hv
      have u := q.1
      rw [← he] at u
      omega⟩)
  · refine g_iload_n 5 dX8_toolAt_4 rfl rfl ?_
    refine g_aload_n 6 dX8_toolAt_5 rfl rfl ?_
    refine g_get 9 dX8_toolAt_6 faX8_26_X8 F0 rfl rfl ?_
    refine g_icZ_ge 18 12 dX8_toolAt_9 rfl rfl rz1.2.2 (by omega) (fun c3 => ?_) (fun c3 => ?_)
    · refine g_null 19 dX8_toolAt_18 rfl ?_
      refine g_goto 28 dX8_toolAt_19 rfl ?_
      refine g_aret rfl (Or.inl rfl) dX8_toolAt_28 ?_
      refine rN ?_
      refine g_astore_nN (L1 := [some (.ref 0), some (.int (iZ i)), some (.int (iZ b)), some (.null)]) 10 dX8_isSealed_9 (by decide) rfl rfl rfl ?_
      refine g_aload_nN 11 dX8_isSealed_10 rfl rfl ?_
      refine g_ifnullN 33 dX8_isSealed_11 rfl ?_
      refine g_iconst (v := iZ (0)) 34 dX8_isSealed_33 rfl rfl ?_
      refine g_zret rfl z01_0 dX8_isSealed_34 ?_
      have he := (rz1.1 hv).1
      exact k (0) (Or.inr ⟨rfl, fun q => by
      have y := rz1.1 hv
      have u := q.1
      rw [← he] at u
      omega⟩)
    · refine g_iload_n 13 dX8_toolAt_12 rfl rfl ?_
      refine g_bipush (v := iZ (12)) 15 dX8_toolAt_13 (by decide +kernel) rfl ?_
      refine g_icZ_lt 22 18 dX8_toolAt_15 rfl rfl rz1.2.2 (by decide) (fun c4 => ?_) (fun c4 => ?_)
      · refine g_aload_n 23 dX8_toolAt_22 rfl rfl ?_
        refine g_get 26 dX8_toolAt_23 faX8_22_X8 F0 rfl rfl ?_
        refine g_iload_n 27 dX8_toolAt_26 rfl rfl ?_
        refine g_aaldZ 28 dX8_toolAt_27 F4 (by decide) (by omega) (by omega) (by decide) (tls_at (by omega) (by omega)) rfl ?_
        refine g_aret rfl (Or.inr ⟨_, rfl⟩) dX8_toolAt_28 ?_
        refine rR ?_
        refine g_astore_n (L1 := [some (.ref 0), some (.int (iZ i)), some (.int (iZ b)), some (.ref (71 + 4 * z1.toNat))]) 10 dX8_isSealed_9 (by decide) rfl rfl rfl ?_
        refine g_aload_n 11 dX8_isSealed_10 rfl rfl ?_
        refine g_ifnull 14 dX8_isSealed_11 rfl ?_
        refine g_aload_n 15 dX8_isSealed_14 rfl rfl ?_
        obtain ⟨ta1_5, ta2_5, ta3_5, ta4_5, ta5_5, ta6_5, ta7_5, ta8_5, ta9_5, tb0_5, tb1_5, tb2_5, tb3_5⟩ := HL (z1.toNat) (by omega)
        refine g_get 18 dX8_isSealed_15 faX8_121_X7 tb0_5 rfl rfl ?_
        refine g_ifZ_eq 33 21 dX8_isSealed_18 rfl rfl (rg01 ta7_5) (fun c6 => ?_) (fun c6 => ?_)
        · refine g_iconst (v := iZ (0)) 34 dX8_isSealed_33 rfl rfl ?_
          refine g_zret rfl z01_0 dX8_isSealed_34 ?_
          have he := (rz1.1 hv).1
          exact k (0) (Or.inr ⟨rfl, fun q => by
      have y := rz1.1 hv
      have u := q.1
      rw [← he] at u
      omega⟩)
        · refine g_iload_n 22 dX8_isSealed_21 rfl rfl ?_
          refine g_iload_n 23 dX8_isSealed_22 rfl rfl ?_
          refine g_callS (z := mX8_hasBit) (As := [.int (iZ b), .int (iZ i)]) 26 dX8_isSealed_23 mwX8_hasBit ⟨by decide, by decide⟩ rfl wlX8_180 wtX8_hasBit rfl (nle rfl) (nle rfl) rfl ?_
          refine z_hb (fun z7 rz7 => ?_)
          have bz7 : z7 = 0 ∨ z7 = 1 := rz7.elim (fun q => Or.inr q.1) (fun q => Or.inl q.1)
          refine rI ?_
          refine g_ifZ_ne 33 29 dX8_isSealed_26 rfl rfl (rg01 bz7) (fun c8 => ?_) (fun c8 => ?_)
          · refine g_iconst (v := iZ (0)) 34 dX8_isSealed_33 rfl rfl ?_
            refine g_zret rfl z01_0 dX8_isSealed_34 ?_
            have he := (rz1.1 hv).1
            exact k (0) (Or.inr ⟨rfl, fun q => q.2 (rz7.elim (fun y => y.2) (fun y => absurd y.1 (by omega)))⟩)
          · refine g_iconst (v := iZ (1)) 30 dX8_isSealed_29 rfl rfl ?_
            refine g_goto 34 dX8_isSealed_30 rfl ?_
            refine g_zret rfl z01_1 dX8_isSealed_34 ?_
            have he := (rz1.1 hv).1
            exact k (1) (Or.inl ⟨rfl, by rw [← he]; omega, rz7.elim (fun y => absurd y.1 (by omega)) (fun y => y.2)⟩)
      · refine g_null 19 dX8_toolAt_18 rfl ?_
        refine g_goto 28 dX8_toolAt_19 rfl ?_
        refine g_aret rfl (Or.inl rfl) dX8_toolAt_28 ?_
        refine rN ?_
        refine g_astore_nN (L1 := [some (.ref 0), some (.int (iZ i)), some (.int (iZ b)), some (.null)]) 10 dX8_isSealed_9 (by decide) rfl rfl rfl ?_
        refine g_aload_nN 11 dX8_isSealed_10 rfl rfl ?_
        refine g_ifnullN 33 dX8_isSealed_11 rfl ?_
        refine g_iconst (v := iZ (0)) 34 dX8_isSealed_33 rfl rfl ?_
        refine g_zret rfl z01_0 dX8_isSealed_34 ?_
        have he := (rz1.1 hv).1
        exact k (0) (Or.inr ⟨rfl, fun q => by
      have y := rz1.1 hv
      have u := q.1
      rw [← he] at u
      omega⟩)
set_option maxRecDepth 100000 in
theorem z_chk_l {l : Launch} {Q : Option Value → MH → Prop} {tc : Nat} {tr : Int64} {xn : Nat → Int} {xf V Bf Lf : Nat → Nat → Int}    : ∀ (m0 : Nat) (h : MH) (b : Int) (j : Int), ((tc : Int) - j).toNat = m0 → CORE2 h tc tr xn xf V Bf Lf → (0 ≤ j ∧ j ≤ tc) → (0 ≤ b ∧ b ≤ j) → (b = sm4 V j.toNat) → (∀ r : Int, (r = sm4 V tc ∧ 0 ≤ r ∧ r ≤ 12) → Q (some (.int (iZ r))) h) → Go l mX8_checkedTools 4 [some (.ref 0), some (.int (iZ b)), some (.int (iZ j)), none] [] h Q := by
  intro m0
  induction m0 using Nat.strongRecOn with
  | ind m0 ih =>
    intro h b j hmz HC hj hbj hb k
    obtain ⟨F0, F3, F4, htc, HT, HL⟩ := id HC
    refine g_iload_n 5 dX8_checkedTools_4 rfl rfl ?_
    refine g_aload_n 6 dX8_checkedTools_5 rfl rfl ?_
    refine g_get 9 dX8_checkedTools_6 faX8_26_X8 F0 rfl rfl ?_
    refine g_icZ_ge 38 12 dX8_checkedTools_9 rfl rfl (by omega) (by omega) (fun c1 => ?_) (fun c1 => ?_)
    · refine g_iload_n 39 dX8_checkedTools_38 rfl rfl ?_
      refine g_iret rfl dX8_checkedTools_39 ?_
      have e9 : j.toNat = tc := by omega
      rw [e9] at hb
      exact k (b) ⟨hb, by omega, by omega⟩
    · refine g_aload_n 13 dX8_checkedTools_12 rfl rfl ?_
      refine g_iload_n 14 dX8_checkedTools_13 rfl rfl ?_
      refine g_callV (z := mX8_toolAt) (As := [.int (iZ j)]) 17 dX8_checkedTools_14 mwX8_toolAt ⟨by decide, by decide⟩ rfl wlX8_90 wiX8_toolAt wsX8_toolAt F0 rfl rfl rfl (nle rfl) (nle rfl) rfl ?_
      refine Go.to [some (.ref 0), some (.int (iZ j))] [] rfl rfl ?_
      refine g_iload_n 1 dX8_toolAt_0 rfl rfl ?_
      refine g_ifZ_lt 18 4 dX8_toolAt_1 rfl rfl (by omega) (fun c2 => ?_) (fun c2 => ?_)
      · refine g_null 19 dX8_toolAt_18 rfl ?_
        refine g_goto 28 dX8_toolAt_19 rfl ?_
        refine g_aret rfl (Or.inl rfl) dX8_toolAt_28 ?_
        refine rN ?_
        refine g_astore_nN (L1 := [some (.ref 0), some (.int (iZ b)), some (.int (iZ j)), some (.null)]) 18 dX8_checkedTools_17 (by decide) rfl rfl rfl ?_
        refine g_aload_nN 19 dX8_checkedTools_18 rfl rfl ?_
        refine g_ifnullN 32 dX8_checkedTools_19 rfl ?_
        refine g_iincZ [some (.ref 0), some (.int (iZ b)), some (.int (iZ (j + 1))), some (.null)] 35 dX8_checkedTools_32 rfl (by omega) (by decide) rfl rfl rfl ?_
        refine g_goto 4 dX8_checkedTools_35 rfl ?_
        refine Go.fgt 3 ?_
        exact ih _ (by omega) _ (b) (j + 1) rfl HC (by omega) (by omega) ((Int.add_zero b).symm.trans (sm4_s (by omega) hb (by omega))) k
      · refine g_iload_n 5 dX8_toolAt_4 rfl rfl ?_
        refine g_aload_n 6 dX8_toolAt_5 rfl rfl ?_
        refine g_get 9 dX8_toolAt_6 faX8_26_X8 F0 rfl rfl ?_
        refine g_icZ_ge 18 12 dX8_toolAt_9 rfl rfl (by omega) (by omega) (fun q => absurd q (by omega)) (fun _ => ?_)
        refine g_iload_n 13 dX8_toolAt_12 rfl rfl ?_
        refine g_bipush (v := iZ (12)) 15 dX8_toolAt_13 (by decide +kernel) rfl ?_
        refine g_icZ_lt 22 18 dX8_toolAt_15 rfl rfl (by omega) (by decide) (fun c3 => ?_) (fun c3 => ?_)
        · refine g_aload_n 23 dX8_toolAt_22 rfl rfl ?_
          refine g_get 26 dX8_toolAt_23 faX8_22_X8 F0 rfl rfl ?_
          refine g_iload_n 27 dX8_toolAt_26 rfl rfl ?_
          refine g_aaldZ 28 dX8_toolAt_27 F4 (by decide) (by omega) (by omega) (by decide) (tls_at (by omega) (by omega)) rfl ?_
          refine g_aret rfl (Or.inr ⟨_, rfl⟩) dX8_toolAt_28 ?_
          refine rR ?_
          refine g_astore_n (L1 := [some (.ref 0), some (.int (iZ b)), some (.int (iZ j)), some (.ref (71 + 4 * j.toNat))]) 18 dX8_checkedTools_17 (by decide) rfl rfl rfl ?_
          refine g_aload_n 19 dX8_checkedTools_18 rfl rfl ?_
          refine g_ifnull 22 dX8_checkedTools_19 rfl ?_
          refine g_aload_n 23 dX8_checkedTools_22 rfl rfl ?_
          obtain ⟨ta1_4, ta2_4, ta3_4, ta4_4, ta5_4, ta6_4, ta7_4, ta8_4, ta9_4, tb0_4, tb1_4, tb2_4, tb3_4⟩ := HL (j.toNat) (by omega)
          refine g_get 26 dX8_checkedTools_23 faX8_121_X7 tb0_4 rfl rfl ?_
          refine g_ifZ_eq 32 29 dX8_checkedTools_26 rfl rfl (rg01 ta7_4) (fun c5 => ?_) (fun c5 => ?_)
          · refine g_iincZ [some (.ref 0), some (.int (iZ b)), some (.int (iZ (j + 1))), some (.ref (71 + 4 * j.toNat))] 35 dX8_checkedTools_32 rfl (by omega) (by decide) rfl rfl rfl ?_
            refine g_goto 4 dX8_checkedTools_35 rfl ?_
            refine Go.fgt 3 ?_
            exact ih _ (by omega) _ (b) (j + 1) rfl HC (by omega) (by omega) ((Int.add_zero b).symm.trans (sm4_s (by omega) hb (by omega))) k
          · refine g_iincZ [some (.ref 0), some (.int (iZ (b + 1))), some (.int (iZ j)), some (.ref (71 + 4 * j.toNat))] 32 dX8_checkedTools_29 rfl (by omega) (by decide) rfl rfl rfl ?_
            refine g_iincZ [some (.ref 0), some (.int (iZ (b + 1))), some (.int (iZ (j + 1))), some (.ref (71 + 4 * j.toNat))] 35 dX8_checkedTools_32 rfl (by omega) (by decide) rfl rfl rfl ?_
            refine g_goto 4 dX8_checkedTools_35 rfl ?_
            refine Go.fgt 3 ?_
            exact ih _ (by omega) _ (b + 1) (j + 1) rfl HC (by omega) (by omega) (sm4_s (by omega) hb (by omega)) k
        · refine g_null 19 dX8_toolAt_18 rfl ?_
          refine g_goto 28 dX8_toolAt_19 rfl ?_
          refine g_aret rfl (Or.inl rfl) dX8_toolAt_28 ?_
          refine rN ?_
          refine g_astore_nN (L1 := [some (.ref 0), some (.int (iZ b)), some (.int (iZ j)), some (.null)]) 18 dX8_checkedTools_17 (by decide) rfl rfl rfl ?_
          refine g_aload_nN 19 dX8_checkedTools_18 rfl rfl ?_
          refine g_ifnullN 32 dX8_checkedTools_19 rfl ?_
          refine g_iincZ [some (.ref 0), some (.int (iZ b)), some (.int (iZ (j + 1))), some (.null)] 35 dX8_checkedTools_32 rfl (by omega) (by decide) rfl rfl rfl ?_
          refine g_goto 4 dX8_checkedTools_35 rfl ?_
          refine Go.fgt 3 ?_
          exact ih _ (by omega) _ (b) (j + 1) rfl HC (by omega) (by omega) ((Int.add_zero b).symm.trans (sm4_s (by omega) hb (by omega))) k
set_option maxRecDepth 100000 in
theorem z_chk {l : Launch} {h : MH} {Q : Option Value → MH → Prop} {tc : Nat} {tr : Int64} {xn : Nat → Int} {xf V Bf Lf : Nat → Nat → Int}  (HC : CORE2 h tc tr xn xf V Bf Lf)   (k : ∀ r : Int, (r = sm4 V tc ∧ 0 ≤ r ∧ r ≤ 12) → Q (some (.int (iZ r))) h) : Go l mX8_checkedTools 0 [some (.ref 0), none, none, none] [] h Q := by
  obtain ⟨F0, F3, F4, htc, HT, HL⟩ := id HC
  refine g_iconst (v := iZ (0)) 1 dX8_checkedTools_0 rfl rfl ?_
  refine g_istore_n (L1 := [some (.ref 0), some (.int (iZ 0)), none, none]) 2 dX8_checkedTools_1 (by decide) rfl rfl rfl ?_
  refine g_iconst (v := iZ (0)) 3 dX8_checkedTools_2 rfl rfl ?_
  refine g_istore_n (L1 := [some (.ref 0), some (.int (iZ 0)), some (.int (iZ 0)), none]) 4 dX8_checkedTools_3 (by decide) rfl rfl rfl ?_
  exact z_chk_l   _ _ (0) (0) rfl HC (by omega) (by omega) rfl k
set_option maxRecDepth 100000 in
theorem z_sls_l {l : Launch} {Q : Option Value → MH → Prop} {tc : Nat} {tr : Int64} {xn : Nat → Int} {xf V Bf Lf : Nat → Nat → Int} {s0 : Int} (rs0 : rg s0)  : ∀ (m0 : Nat) (h : MH) (b : Int) (j : Int), ((tc : Int) - j).toNat = m0 → CORE2 h tc tr xn xf V Bf Lf → (0 ≤ j ∧ j ≤ tc) → (0 ≤ b ∧ b ≤ j) → (b = cntP (fun t : Nat => V 4 (lastF (V 3) t).toNat = 1 ∧ ¬ hbR (iZ s0) t) j.toNat) → (∀ r : Int, (r = cntP (fun t : Nat => V 4 (lastF (V 3) t).toNat = 1 ∧ ¬ hbR (iZ s0) t) tc ∧ 0 ≤ r ∧ r ≤ 12) → Q (some (.int (iZ r))) h) → Go l mX8_sealedTools 4 [some (.ref 0), some (.int (iZ s0)), some (.int (iZ b)), some (.int (iZ j))] [] h Q := by
  intro m0
  induction m0 using Nat.strongRecOn with
  | ind m0 ih =>
    intro h b j hmz HC hj hbj hb k
    obtain ⟨F0, F3, F4, htc, HT, HL⟩ := id HC
    refine g_iload_n 5 dX8_sealedTools_4 rfl rfl ?_
    refine g_aload_n 6 dX8_sealedTools_5 rfl rfl ?_
    refine g_get 9 dX8_sealedTools_6 faX8_26_X8 F0 rfl rfl ?_
    refine g_icZ_ge 30 12 dX8_sealedTools_9 rfl rfl (by omega) (by omega) (fun c1 => ?_) (fun c1 => ?_)
    · refine g_iload_n 31 dX8_sealedTools_30 rfl rfl ?_
      refine g_iret rfl dX8_sealedTools_31 ?_
      have e9 : j.toNat = tc := by omega
      rw [e9] at hb
      exact k (b) ⟨hb, by omega, by omega⟩
    · refine g_aload_n 13 dX8_sealedTools_12 rfl rfl ?_
      refine g_iload_n 14 dX8_sealedTools_13 rfl rfl ?_
      refine g_iload_n 15 dX8_sealedTools_14 rfl rfl ?_
      refine g_callV (z := mX8_isSealed) (As := [.int (iZ j), .int (iZ s0)]) 18 dX8_sealedTools_15 mwX8_isSealed ⟨by decide, by decide⟩ rfl wlX8_176 wiX8_isSealed wsX8_isSealed F0 rfl rfl rfl (nle rfl) (nle rfl) rfl ?_
      refine z_seal HC (by omega) rs0 (by omega) (fun z2 rz2 => ?_)
      have bz2 : z2 = 0 ∨ z2 = 1 := rz2.elim (fun q => Or.inr q.1) (fun q => Or.inl q.1)
      refine rI ?_
      refine g_ifZ_eq 24 21 dX8_sealedTools_18 rfl rfl (rg01 bz2) (fun c3 => ?_) (fun c3 => ?_)
      · refine g_iincZ [some (.ref 0), some (.int (iZ s0)), some (.int (iZ b)), some (.int (iZ (j + 1)))] 27 dX8_sealedTools_24 rfl (by omega) (by decide) rfl rfl rfl ?_
        refine g_goto 4 dX8_sealedTools_27 rfl ?_
        exact ih _ (by omega) _ (b) (j + 1) rfl HC (by omega) (by omega) (cnt_n (P := (fun t : Nat => V 4 (lastF (V 3) t).toNat = 1 ∧ ¬ hbR (iZ s0) t)) (by omega) hb (fun q => rz2.elim (fun y => absurd y.1 (by omega)) (fun y => y.2 (by rw [Int.toNat_of_nonneg (by omega)] at q; exact q)))) k
      · refine g_iincZ [some (.ref 0), some (.int (iZ s0)), some (.int (iZ (b + 1))), some (.int (iZ j))] 24 dX8_sealedTools_21 rfl (by omega) (by decide) rfl rfl rfl ?_
        refine g_iincZ [some (.ref 0), some (.int (iZ s0)), some (.int (iZ (b + 1))), some (.int (iZ (j + 1)))] 27 dX8_sealedTools_24 rfl (by omega) (by decide) rfl rfl rfl ?_
        refine g_goto 4 dX8_sealedTools_27 rfl ?_
        exact ih _ (by omega) _ (b + 1) (j + 1) rfl HC (by omega) (by omega) (cnt_y (P := (fun t : Nat => V 4 (lastF (V 3) t).toNat = 1 ∧ ¬ hbR (iZ s0) t)) (by omega) hb (rz2.elim (fun y => by rw [Int.toNat_of_nonneg (by omega)]; exact y.2) (fun y => absurd y.1 (by omega)))) k
set_option maxRecDepth 100000 in
theorem z_sls {l : Launch} {h : MH} {Q : Option Value → MH → Prop} {tc : Nat} {tr : Int64} {xn : Nat → Int} {xf V Bf Lf : Nat → Nat → Int} {s0 : Int} (HC : CORE2 h tc tr xn xf V Bf Lf) (rs0 : rg s0)  (k : ∀ r : Int, (r = cntP (fun t : Nat => V 4 (lastF (V 3) t).toNat = 1 ∧ ¬ hbR (iZ s0) t) tc ∧ 0 ≤ r ∧ r ≤ 12) → Q (some (.int (iZ r))) h) : Go l mX8_sealedTools 0 [some (.ref 0), some (.int (iZ s0)), none, none] [] h Q := by
  obtain ⟨F0, F3, F4, htc, HT, HL⟩ := id HC
  refine g_iconst (v := iZ (0)) 1 dX8_sealedTools_0 rfl rfl ?_
  refine g_istore_n (L1 := [some (.ref 0), some (.int (iZ s0)), some (.int (iZ 0)), none]) 2 dX8_sealedTools_1 (by decide) rfl rfl rfl ?_
  refine g_iconst (v := iZ (0)) 3 dX8_sealedTools_2 rfl rfl ?_
  refine g_istore_n (L1 := [some (.ref 0), some (.int (iZ s0)), some (.int (iZ 0)), some (.int (iZ 0))]) 4 dX8_sealedTools_3 (by decide) rfl rfl rfl ?_
  exact z_sls_l rs0  _ _ (0) (0) rfl HC (by omega) (by omega) rfl k
set_option maxRecDepth 100000 in
theorem d8_sealed {l : Launch} {h : MH} {Q : Option Value → MH → Prop} {tn : Int} {tf : Nat → Int} {xn : Nat → Int} {xf : Nat → Nat → Int} {en : Int} {tc : Nat} {tr : Int64} {V Bf Lf : Nat → Nat → Int} {q lm lo : Nat → Int} {t : Int} (H : IX2 h tn tf xn xf en tc tr V Bf Lf q lm lo) (rt : rg t) (k : ∀ (h1 : MH) (r : Int), (sdP tc V (stT xn (XF xf) V Bf tc) t r) → IX2 h1 tn tf xn xf en tc tr V Bf Lf q lm lo → Mo h h1 → Q (some (.int (iZ r))) h1) : Go l mX8_sealed 0 [some (.ref 0), some (.int (iZ t))] [] h Q := by
  obtain ⟨HC, HS, HLm, HY, HE, hlen, hmz⟩ := id H
  obtain ⟨F0, F3, F4, htc, HT, HL⟩ := id HC
  refine g_aload_n 1 dX8_sealed_0 rfl rfl ?_
  refine g_iload_n 2 dX8_sealed_1 rfl rfl ?_
  refine g_callV (z := mX8_toolAt) (As := [.int (iZ t)]) 5 dX8_sealed_2 mwX8_toolAt ⟨by decide, by decide⟩ rfl wlX8_90 wiX8_toolAt wsX8_toolAt F0 rfl rfl rfl (nle rfl) (nle rfl) rfl ?_
  refine Go.to [some (.ref 0), some (.int (iZ t))] [] rfl rfl ?_
  refine g_iload_n 1 dX8_toolAt_0 rfl rfl ?_
  refine g_ifZ_lt 18 4 dX8_toolAt_1 rfl rfl rt (fun c1 => ?_) (fun c1 => ?_)
  · refine g_null 19 dX8_toolAt_18 rfl ?_
    refine g_goto 28 dX8_toolAt_19 rfl ?_
    refine g_aret rfl (Or.inl rfl) dX8_toolAt_28 ?_
    refine rN ?_
    refine g_ifnonnullN 8 dX8_sealed_5 rfl ?_
    refine g_iconst (v := iZ (-1)) 9 dX8_sealed_8 rfl rfl ?_
    refine g_iret rfl dX8_sealed_9 ?_
    exact k _ (-1) ⟨fun q => by omega, fun _ => rfl⟩ H (fun _ _ _ => rfl)
  · refine g_iload_n 5 dX8_toolAt_4 rfl rfl ?_
    refine g_aload_n 6 dX8_toolAt_5 rfl rfl ?_
    refine g_get 9 dX8_toolAt_6 faX8_26_X8 F0 rfl rfl ?_
    refine g_icZ_ge 18 12 dX8_toolAt_9 rfl rfl rt (by omega) (fun c2 => ?_) (fun c2 => ?_)
    · refine g_null 19 dX8_toolAt_18 rfl ?_
      refine g_goto 28 dX8_toolAt_19 rfl ?_
      refine g_aret rfl (Or.inl rfl) dX8_toolAt_28 ?_
      refine rN ?_
      refine g_ifnonnullN 8 dX8_sealed_5 rfl ?_
      refine g_iconst (v := iZ (-1)) 9 dX8_sealed_8 rfl rfl ?_
      refine g_iret rfl dX8_sealed_9 ?_
      exact k _ (-1) ⟨fun q => by omega, fun _ => rfl⟩ H (fun _ _ _ => rfl)
    · refine g_iload_n 13 dX8_toolAt_12 rfl rfl ?_
      refine g_bipush (v := iZ (12)) 15 dX8_toolAt_13 (by decide +kernel) rfl ?_
      refine g_icZ_lt 22 18 dX8_toolAt_15 rfl rfl rt (by decide) (fun c3 => ?_) (fun c3 => ?_)
      · refine g_aload_n 23 dX8_toolAt_22 rfl rfl ?_
        refine g_get 26 dX8_toolAt_23 faX8_22_X8 F0 rfl rfl ?_
        refine g_iload_n 27 dX8_toolAt_26 rfl rfl ?_
        refine g_aaldZ 28 dX8_toolAt_27 F4 (by decide) (by omega) (by omega) (by decide) (tls_at (by omega) (by omega)) rfl ?_
        refine g_aret rfl (Or.inr ⟨_, rfl⟩) dX8_toolAt_28 ?_
        refine rR ?_
        refine g_ifnonnull 10 dX8_sealed_5 rfl ?_
        refine g_aload_n 11 dX8_sealed_10 rfl rfl ?_
        refine g_iload_n 12 dX8_sealed_11 rfl rfl ?_
        refine g_aload_n 13 dX8_sealed_12 rfl rfl ?_
        refine g_callV (z := mX8_staleBits) (As := []) 16 dX8_sealed_13 mwX8_staleBits ⟨by decide, by decide⟩ rfl wlX8_158 wiX8_staleBits wsX8_staleBits F0 rfl rfl rfl (nle rfl) (nle rfl) rfl ?_
        refine z_stale HC HS   (fun h5 z4 rz4 H6 s7 => ?_)
        refine rI ?_
        have f8 := (s7.get (by omega) F0)
        refine g_callV (z := mX8_isSealed) (As := [.int (iZ t), .int (iZ z4)]) 19 dX8_sealed_16 mwX8_isSealed ⟨by decide, by decide⟩ rfl wlX8_176 wiX8_isSealed wsX8_isSealed f8 rfl rfl rfl (nle rfl) (nle rfl) rfl ?_
        refine z_seal (HC.scr s7) rt (by have q := stT_i4 (j := tc) (by omega) (show z4 = ((stT xn (XF xf) V Bf ((tc : Int)).toNat : Nat) : Int) from rz4); omega) (by omega) (fun z9 rz9 => ?_)
        have bz9 : z9 = 0 ∨ z9 = 1 := rz9.elim (fun q => Or.inr q.1) (fun q => Or.inl q.1)
        refine rI ?_
        refine g_ifZ_eq 26 22 dX8_sealed_19 rfl rfl (rg01 bz9) (fun c10 => ?_) (fun c10 => ?_)
        · refine g_iconst (v := iZ (0)) 27 dX8_sealed_26 rfl rfl ?_
          refine g_iret rfl dX8_sealed_27 ?_
          rw [rz4] at rz9
          have zz := H.scr s7 H6
          exact k _ (0) ⟨fun _ => Or.inr ⟨(by unfold slQ; rw [Int.toNat_of_nonneg (show 0 ≤ t by omega)]; exact rz9.elim (fun y => absurd y.1 (by omega)) (fun y => y.2)), rfl⟩, fun q => by omega⟩ zz.1 zz.2
        · refine g_iconst (v := iZ (1)) 23 dX8_sealed_22 rfl rfl ?_
          refine g_goto 27 dX8_sealed_23 rfl ?_
          refine g_iret rfl dX8_sealed_27 ?_
          rw [rz4] at rz9
          have zz := H.scr s7 H6
          exact k _ (1) ⟨fun _ => Or.inl ⟨(by unfold slQ; rw [Int.toNat_of_nonneg (show 0 ≤ t by omega)]; exact rz9.elim (fun y => y.2) (fun y => absurd y.1 (by omega))), rfl⟩, fun q => by omega⟩ zz.1 zz.2
      · refine g_null 19 dX8_toolAt_18 rfl ?_
        refine g_goto 28 dX8_toolAt_19 rfl ?_
        refine g_aret rfl (Or.inl rfl) dX8_toolAt_28 ?_
        refine rN ?_
        refine g_ifnonnullN 8 dX8_sealed_5 rfl ?_
        refine g_iconst (v := iZ (-1)) 9 dX8_sealed_8 rfl rfl ?_
        refine g_iret rfl dX8_sealed_9 ?_
        exact k _ (-1) ⟨fun q => by omega, fun _ => rfl⟩ H (fun _ _ _ => rfl)
set_option maxRecDepth 100000 in
theorem d8_count {l : Launch} {h : MH} {Q : Option Value → MH → Prop} {tn : Int} {tf : Nat → Int} {xn : Nat → Int} {xf : Nat → Nat → Int} {en : Int} {tc : Nat} {tr : Int64} {V Bf Lf : Nat → Nat → Int} {q lm lo : Nat → Int} {w : Int} (H : IX2 h tn tf xn xf en tc tr V Bf Lf q lm lo) (rw : rg w) (k : ∀ (h1 : MH) (r : Int), (coP tc tn en V (stT xn (XF xf) V Bf tc) tc w r) → IX2 h1 tn tf xn xf en tc tr V Bf Lf q lm lo → Mo h h1 → Q (some (.int (iZ r))) h1) : Go l mX8_count 0 [some (.ref 0), some (.int (iZ w))] [] h Q := by
  obtain ⟨HC, HS, HLm, HY, HE, hlen, hmz⟩ := id H
  obtain ⟨F0, F3, F4, htc, HT, HL⟩ := id HC
  refine g_iload_n 1 dX8_count_0 rfl rfl ?_
  by_cases c1 : w < 0 ∨ 4 < w
  · refine g_tabZO 71 dX8_count_1 rw c1 rfl ?_
    refine g_iconst (v := iZ (-1)) 72 dX8_count_71 rfl rfl ?_
    refine g_iret rfl dX8_count_72 ?_
    exact k _ (-1) ⟨fun q => by omega, fun q => by omega, fun q => by omega, fun q => by omega, fun q => by omega, fun _ => rfl⟩ H (fun _ _ _ => rfl)
  · have c2 : w = 0 ∨ w = 1 ∨ w = 2 ∨ w = 3 ∨ w = 4 := by omega
    rcases c2 with c2 | c2 | c2 | c2 | c2
    · refine g_tabZI (0) 36 dX8_count_1 rw c2 (by decide) (by decide) rfl rfl ?_
      refine g_aload_n 37 dX8_count_36 rfl rfl ?_
      refine g_get 40 dX8_count_37 faX8_26_X8 F0 rfl rfl ?_
      refine g_iret rfl dX8_count_40 ?_
      exact k _ ((tc : Int)) ⟨fun _ => rfl, fun q => by omega, fun q => by omega, fun q => by omega, fun q => by omega, fun q => by omega⟩ H (fun _ _ _ => rfl)
    · refine g_tabZI (1) 41 dX8_count_1 rw c2 (by decide) (by decide) rfl rfl ?_
      refine g_aload_n 42 dX8_count_41 rfl rfl ?_
      refine g_get 45 dX8_count_42 faX8_59_X8 F0 rfl rfl ?_
      obtain ⟨eu, ek, el, oeu, oek, oel, e1, e2, E0, E1, E2, E3⟩ := id HE
      refine g_get 48 dX8_count_45 faX8_219_X1 E0 rfl rfl ?_
      refine g_iret rfl dX8_count_48 ?_
      exact k _ (en) ⟨fun q => by omega, fun _ => rfl, fun q => by omega, fun q => by omega, fun q => by omega, fun q => by omega⟩ H (fun _ _ _ => rfl)
    · refine g_tabZI (2) 49 dX8_count_1 rw c2 (by decide) (by decide) rfl rfl ?_
      refine g_aload_n 50 dX8_count_49 rfl rfl ?_
      refine g_get 53 dX8_count_50 faX8_10_X8 F0 rfl rfl ?_
      obtain ⟨y0, y1, y2, y3, y4⟩ := id HY
      refine g_get 56 dX8_count_53 faX8_67_X6 y0 rfl rfl ?_
      refine g_iret rfl dX8_count_56 ?_
      exact k _ (tn) ⟨fun q => by omega, fun q => by omega, fun _ => rfl, fun q => by omega, fun q => by omega, fun q => by omega⟩ H (fun _ _ _ => rfl)
    · refine g_tabZI (3) 57 dX8_count_1 rw c2 (by decide) (by decide) rfl rfl ?_
      refine g_aload_n 58 dX8_count_57 rfl rfl ?_
      refine g_callV (z := mX8_checkedTools) (As := []) 61 dX8_count_58 mwX8_checkedTools ⟨by decide, by decide⟩ rfl wlX8_222 wiX8_checkedTools wsX8_checkedTools F0 rfl rfl rfl (nle rfl) (nle rfl) rfl ?_
      refine z_chk HC   (fun z3 rz3 => ?_)
      refine rI ?_
      refine g_iret rfl dX8_count_61 ?_
      exact k _ (z3) ⟨fun q => by omega, fun q => by omega, fun q => by omega, fun _ => rz3.1, fun q => by omega, fun q => by omega⟩ H (fun _ _ _ => rfl)
    · refine g_tabZI (4) 62 dX8_count_1 rw c2 (by decide) (by decide) rfl rfl ?_
      refine g_aload_n 63 dX8_count_62 rfl rfl ?_
      refine g_aload_n 64 dX8_count_63 rfl rfl ?_
      refine g_callV (z := mX8_staleBits) (As := []) 67 dX8_count_64 mwX8_staleBits ⟨by decide, by decide⟩ rfl wlX8_158 wiX8_staleBits wsX8_staleBits F0 rfl rfl rfl (nle rfl) (nle rfl) rfl ?_
      refine z_stale HC HS   (fun h5 z4 rz4 H6 s7 => ?_)
      refine rI ?_
      have f8 := (s7.get (by omega) F0)
      refine g_callV (z := mX8_sealedTools) (As := [.int (iZ z4)]) 70 dX8_count_67 mwX8_sealedTools ⟨by decide, by decide⟩ rfl wlX8_225 wiX8_sealedTools wsX8_sealedTools f8 rfl rfl rfl (nle rfl) (nle rfl) rfl ?_
      refine z_sls (HC.scr s7) (by have q := stT_i4 (j := tc) (by omega) (show z4 = ((stT xn (XF xf) V Bf ((tc : Int)).toNat : Nat) : Int) from rz4); omega)  (fun z9 rz9 => ?_)
      refine rI ?_
      refine g_iret rfl dX8_count_70 ?_
      rw [rz4] at rz9
      have zz := H.scr s7 H6
      exact k _ (z9) ⟨fun q => by omega, fun q => by omega, fun q => by omega, fun q => by omega, fun _ => rz9.1, fun q => by omega⟩ zz.1 zz.2

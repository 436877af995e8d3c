set_option maxRecDepth 100000 in
theorem c_chain_l {l : Launch} {h : MH} {Q : Option Value → MH → Prop} {tr : Int64} {ty tx : Nat → Int32} {w : Nat → Int} {B : Nat → Nat → Int} {t k0 : Int} (H : R9B h tr ty tx w B) (rt : rg t) (rk0 : rg k0)  (k : ∀ r : Int, (chP (w 5) (refV B) t k0 r) → Q (some (.int (iZ r))) h) : ∀ (m0 : Nat) (c : Int) (n : Int), (k0 - n).toNat = m0 → (0 ≤ n ∧ (n ≤ k0 ∨ n = 0) ∧ k0 ≤ 12) → (0 ≤ t ∧ t < w 5) → (∀ m : Nat, (m : Int) ≤ k0 → 0 ≤ itB (B 59) t m ∧ itB (B 59) t m ≤ t) → (itB (B 59) t n.toNat = c) → (rg c) → (∃ L9 : Int, isLen (refV B 3) t L9 ∧ -1 ≤ k0 ∧ k0 < L9) → Go l mX9_chain 30 [some (.ref 50), some (.int (iZ t)), some (.int (iZ k0)), some (.int (iZ c)), some (.int (iZ n))] [] h Q := by
  intro m0
  induction m0 using Nat.strongRecOn with
  | ind m0 ih =>
    intro c n hmz hn ht hI hC rc hL9
    obtain ⟨L9, hL, hk1, hk2⟩ := hL9
    have n0 := H.2.2.1.2.1
    refine g_iload 32 dX9_chain_30 rfl rfl ?_
    refine g_iload_n 33 dX9_chain_32 rfl rfl ?_
    refine g_icZ_ge 49 36 dX9_chain_33 rfl rfl (by omega) rk0 (fun c1 => ?_) (fun c1 => ?_)
    · refine g_iload_n 50 dX9_chain_49 rfl rfl ?_
      refine g_ifZ_ge 61 53 dX9_chain_50 rfl rfl rk0 (fun c2 => ?_) (fun c2 => ?_)
      · refine g_iload_n 62 dX9_chain_61 rfl rfl ?_
        refine g_iret rfl dX9_chain_62 ?_
        have en : n = k0 := by omega
        rw [en] at hC
        exact k (c) ⟨fun _ => ⟨L9, hL, fun q => by omega, fun _ => hC.symm, fun q => by omega⟩, fun q => by omega⟩ 
      · refine g_aload_n 54 dX9_chain_53 rfl rfl ?_
        refine g_iload_n 55 dX9_chain_54 rfl rfl ?_
        obtain ⟨F50_3, ⟨F51_3, F52_3, F53_3, F54_3, F55_3, F56_3, F57_3, F58_3, F59_3, F60_3, F61_3, F62_3, F63_3, F64_3, F65_3, F66_3, F67_3, F68_3, F69_3, F70_3, kty_3, ktx_3⟩, ⟨r2_3, r5_3, r13_3, r14_3, r15_3, r16_3, r17_3, r18_3, r19_3, r20_3, r25_3, r26_3, r27_3, r28_3, r29_3, r30_3, r31_3, r35_3⟩, ⟨o53_3, o54_3, o55_3, o56_3, o57_3, o58_3, o59_3, o60_3, o61_3, o62_3, o63_3, o64_3, o65_3, o66_3, o67_3, o68_3, o69_3, o70_3⟩, hT_3⟩ := id H
        refine g_callV (z := mX9_lengthOf) (As := [.int (iZ t)]) 58 dX9_chain_55 mwX9_lengthOf ⟨by decide, by decide⟩ rfl wlX9_223 wiX9_lengthOf wsX9_lengthOf F50_3 rfl rfl rfl (nle rfl) (nle rfl) rfl ?_
        refine b_len H (by omega) (by omega) (fun z4 rz4  => ?_)
        refine rI ?_
        refine g_goto 62 dX9_chain_58 rfl ?_
        refine g_iret rfl dX9_chain_62 ?_
        have e9 : isLen (refV B 3) t z4 := ⟨by omega, fun m hm => (rz4.1 m hm).1, rz4.2.2.2⟩
        exact k (z4) ⟨fun _ => ⟨z4, e9, fun _ => rfl, fun q => by omega, fun q => by omega⟩, fun q => by omega⟩ 
    · have q1 := hI n.toNat (by omega)
      rw [hC] at q1
      refine g_aload_n 37 dX9_chain_36 rfl rfl ?_
      obtain ⟨F50_5, ⟨F51_5, F52_5, F53_5, F54_5, F55_5, F56_5, F57_5, F58_5, F59_5, F60_5, F61_5, F62_5, F63_5, F64_5, F65_5, F66_5, F67_5, F68_5, F69_5, F70_5, kty_5, ktx_5⟩, ⟨r2_5, r5_5, r13_5, r14_5, r15_5, r16_5, r17_5, r18_5, r19_5, r20_5, r25_5, r26_5, r27_5, r28_5, r29_5, r30_5, r31_5, r35_5⟩, ⟨o53_5, o54_5, o55_5, o56_5, o57_5, o58_5, o59_5, o60_5, o61_5, o62_5, o63_5, o64_5, o65_5, o66_5, o67_5, o68_5, o69_5, o70_5⟩, hT_5⟩ := id H
      refine g_get 40 dX9_chain_37 faX9_35_X9 F50_5 rfl rfl ?_
      refine g_iload_n 41 dX9_chain_40 rfl rfl ?_
      have b6 := o59_5 ((c).toNat)
      refine g_ialdZ (v := iZ ((B 59) c.toNat)) 42 dX9_chain_41 F59_5 (by omega) (by omega) (by decide) rfl rfl ?_
      refine g_istore_n (L1 := [some (.ref 50), some (.int (iZ t)), some (.int (iZ k0)), some (.int (iZ ((B 59) c.toNat))), some (.int (iZ n))]) 43 dX9_chain_42 (by decide) rfl rfl rfl ?_
      refine g_iincZ [some (.ref 50), some (.int (iZ t)), some (.int (iZ k0)), some (.int (iZ ((B 59) c.toNat))), some (.int (iZ (n + 1)))] 46 dX9_chain_43 rfl (by omega) (by decide) rfl rfl rfl ?_
      refine g_goto 30 dX9_chain_46 rfl ?_
      exact ih _ (by omega) ((B 59) c.toNat) (n + 1) rfl (by omega) (by omega) hI (itB_n (by omega) hC) (by omega) ⟨L9, hL, hk1, hk2⟩
set_option maxRecDepth 100000 in
theorem c_chain {l : Launch} {h : MH} {Q : Option Value → MH → Prop} {tr : Int64} {ty tx : Nat → Int32} {w : Nat → Int} {B : Nat → Nat → Int} {t k0 : Int} (H : R9B h tr ty tx w B) (rt : rg t) (rk0 : rg k0)  (k : ∀ r : Int, (chP (w 5) (refV B) t k0 r) → Q (some (.int (iZ r))) h) : Go l mX9_chain 0 [some (.ref 50), some (.int (iZ t)), some (.int (iZ k0)), none, none] [] h Q := by
  have n0 := H.2.2.1.2.1
  refine g_aload_n 1 dX9_chain_0 rfl rfl ?_
  refine g_iload_n 2 dX9_chain_1 rfl rfl ?_
  obtain ⟨F50_1, ⟨F51_1, F52_1, F53_1, F54_1, F55_1, F56_1, F57_1, F58_1, F59_1, F60_1, F61_1, F62_1, F63_1, F64_1, F65_1, F66_1, F67_1, F68_1, F69_1, F70_1, kty_1, ktx_1⟩, ⟨r2_1, r5_1, r13_1, r14_1, r15_1, r16_1, r17_1, r18_1, r19_1, r20_1, r25_1, r26_1, r27_1, r28_1, r29_1, r30_1, r31_1, r35_1⟩, ⟨o53_1, o54_1, o55_1, o56_1, o57_1, o58_1, o59_1, o60_1, o61_1, o62_1, o63_1, o64_1, o65_1, o66_1, o67_1, o68_1, o69_1, o70_1⟩, hT_1⟩ := id H
  refine g_callV (z := mX9_isTool) (As := [.int (iZ t)]) 5 dX9_chain_2 mwX9_isTool ⟨by decide, by decide⟩ rfl wlX9_178 wiX9_isTool wsX9_isTool F50_1 rfl rfl rfl (nle rfl) (nle rfl) rfl ?_
  refine b_isTool H rt (fun z2 rz2 => ?_)
  refine rI ?_
  refine g_ifZ_eq 23 8 dX9_chain_5 rfl rfl (rg01 (by omega)) (fun c3 => ?_) (fun c3 => ?_)
  · refine g_iconst (v := iZ (-1)) 24 dX9_chain_23 rfl rfl ?_
    refine g_iret rfl dX9_chain_24 ?_
    exact k (-1) ⟨fun q => by omega, fun _ => rfl⟩ 
  · refine g_iload_n 9 dX9_chain_8 rfl rfl ?_
    refine g_iconst (v := iZ (-1)) 10 dX9_chain_9 rfl rfl ?_
    refine g_aload_n 11 dX9_chain_10 rfl rfl ?_
    refine g_iload_n 12 dX9_chain_11 rfl rfl ?_
    refine g_callV (z := mX9_lengthOf) (As := [.int (iZ t)]) 15 dX9_chain_12 mwX9_lengthOf ⟨by decide, by decide⟩ rfl wlX9_223 wiX9_lengthOf wsX9_lengthOf F50_1 rfl rfl rfl (nle rfl) (nle rfl) rfl ?_
    refine b_len H (by omega) (by omega) (fun z4 rz4  => ?_)
    refine rI ?_
    refine g_iconst (v := iZ (1)) 16 dX9_chain_15 rfl rfl ?_
    refine g_isubZ (z4 - 1) 17 dX9_chain_16 (by omega) rfl ?_
    refine g_callS (z := mX9_in) (As := [.int (iZ k0), .int (iZ (-1)), .int (iZ (z4 - 1))]) 20 dX9_chain_17 mwX9_in ⟨by decide, by decide⟩ rfl wlX9_75 wtX9_in rfl (nle rfl) (nle rfl) rfl ?_
    refine n_in  rk0 (by decide) (by omega) (fun z5 rz5 => ?_)
    refine rI ?_
    refine g_ifZ_ne 25 23 dX9_chain_20 rfl rfl (rg01 (by omega)) (fun c6 => ?_) (fun c6 => ?_)
    · refine g_iload_n 26 dX9_chain_25 rfl rfl ?_
      refine g_istore_n (L1 := [some (.ref 50), some (.int (iZ t)), some (.int (iZ k0)), some (.int (iZ t)), none]) 27 dX9_chain_26 (by decide) rfl rfl rfl ?_
      refine g_iconst (v := iZ (0)) 28 dX9_chain_27 rfl rfl ?_
      refine g_istore (L1 := [some (.ref 50), some (.int (iZ t)), some (.int (iZ k0)), some (.int (iZ t)), some (.int (iZ 0))]) 30 dX9_chain_28 (by decide) rfl rfl rfl ?_
      exact c_chain_l H rt rk0  k _ (t) (0) rfl (by omega) (by omega) (fun m hm => rz4.1 m (by omega)) rfl (by omega) ⟨z4, ⟨by omega, fun m hm => (rz4.1 m hm).1, rz4.2.2.2⟩, by omega, by omega⟩
    · refine g_iconst (v := iZ (-1)) 24 dX9_chain_23 rfl rfl ?_
      refine g_iret rfl dX9_chain_24 ?_
      have e9 : isLen (refV B 3) t z4 := ⟨by omega, fun m hm => (rz4.1 m hm).1, rz4.2.2.2⟩
      exact k (-1) ⟨fun _ => ⟨z4, e9, fun q => by omega, fun q => by omega, fun _ => rfl⟩, fun q => by omega⟩ 
set_option maxRecDepth 100000 in
theorem c_last_l {l : Launch} {h : MH} {Q : Option Value → MH → Prop} {tr : Int64} {ty tx : Nat → Int32} {w : Nat → Int} {B : Nat → Nat → Int} {tc : Nat} {V Bf Lf : Nat → Nat → Int} {xn : Nat → Int} {xf : Nat → Nat → Int} {t : Int} (H : R9B h tr ty tx w B) (rt : (0 ≤ t ∧ t ≤ 11)) (hD : DQ tc V Bf Lf xn xf tx w B) (ht : t < w 5) (k : ∀ r : Int, (r = lastF (V 3) t ∧ 0 ≤ r ∧ r ≤ t) → Q (some (.int (iZ r))) h) : ∀ (m0 : Nat) (c : Int), c.toNat = m0 → (0 ≤ c ∧ c ≤ t) → (∃ n : Nat, (∀ m : Nat, m ≤ n → 0 ≤ itB (V 3) t m) ∧ itB (V 3) t n = c) → Go l mX9_last 2 [some (.ref 50), none, some (.int (iZ c))] [] h Q := by
  intro m0
  induction m0 using Nat.strongRecOn with
  | ind m0 ih =>
    intro c hmz hc hN
    have n0 := H.2.2.1.2.1
    refine g_aload_n 3 dX9_last_2 rfl rfl ?_
    obtain ⟨F50_1, ⟨F51_1, F52_1, F53_1, F54_1, F55_1, F56_1, F57_1, F58_1, F59_1, F60_1, F61_1, F62_1, F63_1, F64_1, F65_1, F66_1, F67_1, F68_1, F69_1, F70_1, kty_1, ktx_1⟩, ⟨r2_1, r5_1, r13_1, r14_1, r15_1, r16_1, r17_1, r18_1, r19_1, r20_1, r25_1, r26_1, r27_1, r28_1, r29_1, r30_1, r31_1, r35_1⟩, ⟨o53_1, o54_1, o55_1, o56_1, o57_1, o58_1, o59_1, o60_1, o61_1, o62_1, o63_1, o64_1, o65_1, o66_1, o67_1, o68_1, o69_1, o70_1⟩, hT_1⟩ := id H
    refine g_get 6 dX9_last_3 faX9_35_X9 F50_1 rfl rfl ?_
    refine g_iload_n 7 dX9_last_6 rfl rfl ?_
    have b2 := o59_1 ((c).toNat)
    refine g_ialdZ (v := iZ ((B 59) c.toNat)) 8 dX9_last_7 F59_1 (by omega) (by omega) (by decide) rfl rfl ?_
    refine g_bipush (v := iZ (-9)) 10 dX9_last_8 (by decide +kernel) rfl ?_
    refine g_icZ_eq 23 13 dX9_last_10 rfl rfl (by omega) (by decide) (fun c3 => ?_) (fun c3 => ?_)
    · refine g_iload_n 24 dX9_last_23 rfl rfl ?_
      refine g_iret rfl dX9_last_24 ?_
      exact k (c) ⟨lst_e hN (by rw [← (hD.v (t := c) (by omega) (by omega)).2.2.2.1]; omega), by omega, by omega⟩ 
    · have q1 := (H.2.2.2.2.2 c (by omega) (by omega)).2.1
      refine g_aload_n 14 dX9_last_13 rfl rfl ?_
      refine g_get 17 dX9_last_14 faX9_35_X9 F50_1 rfl rfl ?_
      refine g_iload_n 18 dX9_last_17 rfl rfl ?_
      have b4 := o59_1 ((c).toNat)
      refine g_ialdZ (v := iZ ((B 59) c.toNat)) 19 dX9_last_18 F59_1 (by omega) (by omega) (by decide) rfl rfl ?_
      refine g_istore_n (L1 := [some (.ref 50), none, some (.int (iZ ((B 59) c.toNat)))]) 20 dX9_last_19 (by decide) rfl rfl rfl ?_
      refine g_goto 2 dX9_last_20 rfl ?_
      exact ih _ (by omega) ((B 59) c.toNat) rfl (by omega) (by have e := (hD.v (t := c) (by omega) (by omega)).2.2.2.1; have y := lst_s hN (by omega); rw [← e] at y; exact y)
set_option maxRecDepth 100000 in
theorem c_last {l : Launch} {h : MH} {Q : Option Value → MH → Prop} {tr : Int64} {ty tx : Nat → Int32} {w : Nat → Int} {B : Nat → Nat → Int} {tc : Nat} {V Bf Lf : Nat → Nat → Int} {xn : Nat → Int} {xf : Nat → Nat → Int} {t : Int} (H : R9B h tr ty tx w B) (rt : (0 ≤ t ∧ t ≤ 11)) (hD : DQ tc V Bf Lf xn xf tx w B) (ht : t < w 5) (k : ∀ r : Int, (r = lastF (V 3) t ∧ 0 ≤ r ∧ r ≤ t) → Q (some (.int (iZ r))) h) : Go l mX9_last 0 [some (.ref 50), some (.int (iZ t)), none] [] h Q := by
  have n0 := H.2.2.1.2.1
  refine g_iload_n 1 dX9_last_0 rfl rfl ?_
  refine g_istore_n (L1 := [some (.ref 50), some (.int (iZ t)), some (.int (iZ t))]) 2 dX9_last_1 (by decide) rfl rfl rfl ?_
  refine Go.fgt 1 ?_
  exact c_last_l H rt hD ht k _ (t) rfl (by omega) (lst_0 rt.1)

set_option maxRecDepth 100000 in
theorem z_chl_l {l : Launch} {Q : Option Value → MH → Prop} {tc : Nat} {tr : Int64} {xn : Nat → Int} {xf V Bf Lf : Nat → Nat → Int} {i : Int} (ri : rg i)  : ∀ (m0 : Nat) (h : MH) (n : Int) (v : Value), (12 - n).toNat = m0 → CORE2 h tc tr xn xf V Bf Lf → (0 ≤ n ∧ n ≤ 12) → (∀ m : Nat, (m : Int) < n → 0 ≤ itB (V 3) i m) → ((v = .null ∧ (0 ≤ i ∧ i < tc → itB (V 3) i n.toNat = -9 ∧ 1 ≤ n) ∧ (¬ (0 ≤ i ∧ i < tc) → n = 0)) ∨ ∃ j, j < tc ∧ v = .ref (71 + 4 * j) ∧ itB (V 3) i n.toNat = (j : Int) ∧ (j : Int) + n ≤ i ∧ i < tc) → (∀ r : Int, ((0 ≤ i ∧ i < tc → isLen (V 3) i r) ∧ (¬ (0 ≤ i ∧ i < tc) → r = 0) ∧ 0 ≤ r ∧ r ≤ 12) → Q (some (.int (iZ r))) h) → Go l mX8_chainLength 8 [some (.ref 0), some (.int (iZ i)), some (.int (iZ n)), some (v)] [] h Q := by
  intro m0
  induction m0 using Nat.strongRecOn with
  | ind m0 ih =>
    intro h n v hmz HC hn hI hv k
    obtain ⟨F0, F3, F4, htc, HT, HL⟩ := id HC
    rcases hv with ⟨rfl, hz, hy⟩ | ⟨j, hj, rfl, hC, hjn, hit⟩
    ·
      refine g_aload_nN 9 dX8_chainLength_8 rfl rfl ?_
      refine g_ifnullN 33 dX8_chainLength_9 rfl ?_
      refine g_iload_n 34 dX8_chainLength_33 rfl rfl ?_
      refine g_iret rfl dX8_chainLength_34 ?_
      exact k (n) ⟨fun q => ⟨(hz q).2, hI, (hz q).1⟩, hy, by omega, by omega⟩
    ·
      refine g_aload_n 9 dX8_chainLength_8 rfl rfl ?_
      refine g_ifnull 12 dX8_chainLength_9 rfl ?_
      refine g_iload_n 13 dX8_chainLength_12 rfl rfl ?_
      refine g_bipush (v := iZ (12)) 15 dX8_chainLength_13 (by decide +kernel) rfl ?_
      refine g_icZ_ge 33 18 dX8_chainLength_15 rfl rfl (by omega) (by decide) (fun c1 => ?_) (fun c1 => ?_)
      · refine g_iload_n 34 dX8_chainLength_33 rfl rfl ?_
        refine g_iret rfl dX8_chainLength_34 ?_
        exact k (n) (by exfalso; omega)
      · refine g_iincZ [some (.ref 0), some (.int (iZ i)), some (.int (iZ (n + 1))), some (.ref (71 + 4 * j))] 21 dX8_chainLength_18 rfl (by omega) (by decide) rfl rfl rfl ?_
        refine g_aload_n 22 dX8_chainLength_21 rfl rfl ?_
        refine g_aload_n 23 dX8_chainLength_22 rfl rfl ?_
        obtain ⟨ta1_2, ta2_2, ta3_2, ta4_2, ta5_2, ta6_2, ta7_2, ta8_2, ta9_2, tb0_2, tb1_2, tb2_2, tb3_2⟩ := HL (j) (by omega)
        refine g_get 26 dX8_chainLength_23 faX8_118_X7 tb0_2 rfl rfl ?_
        refine g_callV (z := mX8_toolAt) (As := [.int (iZ (V 3 j))]) 29 dX8_chainLength_26 mwX8_toolAt ⟨by decide, by decide⟩ rfl wlX8_90 wiX8_toolAt wsX8_toolAt F0 rfl rfl rfl (nle rfl) (nle rfl) rfl ?_
        refine Go.to [some (.ref 0), some (.int (iZ (V 3 j)))] [] rfl rfl ?_
        refine g_iload_n 1 dX8_toolAt_0 rfl rfl ?_
        refine g_ifZ_lt 18 4 dX8_toolAt_1 rfl rfl (by omega) (fun c3 => ?_) (fun c3 => ?_)
        · refine g_null 19 dX8_toolAt_18 rfl ?_
          refine g_goto 28 dX8_toolAt_19 rfl ?_
          refine g_aret rfl (Or.inl rfl) dX8_toolAt_28 ?_
          refine rN ?_
          refine g_astore_nN (L1 := [some (.ref 0), some (.int (iZ i)), some (.int (iZ (n + 1))), some (.null)]) 30 dX8_chainLength_29 (by decide) rfl rfl rfl ?_
          refine g_goto 8 dX8_chainLength_30 rfl ?_
          exact ih _ (by omega) _ (n + 1) (.null) rfl HC (by omega) (chl_s (by omega) hI hC).1 (Or.inl ⟨rfl, fun q => ⟨by rw [(chl_s (by omega) hI hC).2]; omega, by omega⟩, fun q => by omega⟩) k
        · refine g_iload_n 5 dX8_toolAt_4 rfl rfl ?_
          refine g_aload_n 6 dX8_toolAt_5 rfl rfl ?_
          refine g_get 9 dX8_toolAt_6 faX8_26_X8 F0 rfl rfl ?_
          refine g_icZ_ge 18 12 dX8_toolAt_9 rfl rfl (by omega) (by omega) (fun c4 => ?_) (fun c4 => ?_)
          · refine g_null 19 dX8_toolAt_18 rfl ?_
            refine g_goto 28 dX8_toolAt_19 rfl ?_
            refine g_aret rfl (Or.inl rfl) dX8_toolAt_28 ?_
            refine rN ?_
            refine g_astore_nN (L1 := [some (.ref 0), some (.int (iZ i)), some (.int (iZ (n + 1))), some (.null)]) 30 dX8_chainLength_29 (by decide) rfl rfl rfl ?_
            refine g_goto 8 dX8_chainLength_30 rfl ?_
            exact ih _ (by omega) _ (n + 1) (.null) rfl HC (by omega) (chl_s (by omega) hI hC).1 (Or.inl ⟨rfl, fun q => ⟨by rw [(chl_s (by omega) hI hC).2]; omega, by omega⟩, fun q => by omega⟩) k
          · refine g_iload_n 13 dX8_toolAt_12 rfl rfl ?_
            refine g_bipush (v := iZ (12)) 15 dX8_toolAt_13 (by decide +kernel) rfl ?_
            refine g_icZ_lt 22 18 dX8_toolAt_15 rfl rfl (by omega) (by decide) (fun _ => ?_) (fun q => absurd q (by omega))
            refine g_aload_n 23 dX8_toolAt_22 rfl rfl ?_
            refine g_get 26 dX8_toolAt_23 faX8_22_X8 F0 rfl rfl ?_
            refine g_iload_n 27 dX8_toolAt_26 rfl rfl ?_
            refine g_aaldZ 28 dX8_toolAt_27 F4 (by decide) (by omega) (by omega) (by decide) (tls_at (by omega) (by omega)) rfl ?_
            refine g_aret rfl (Or.inr ⟨_, rfl⟩) dX8_toolAt_28 ?_
            refine rR ?_
            refine g_astore_n (L1 := [some (.ref 0), some (.int (iZ i)), some (.int (iZ (n + 1))), some (.ref (71 + 4 * (V 3 j).toNat))]) 30 dX8_chainLength_29 (by decide) rfl rfl rfl ?_
            refine g_goto 8 dX8_chainLength_30 rfl ?_
            exact ih _ (by omega) _ (n + 1) (.ref (71 + 4 * (V 3 j).toNat)) rfl HC (by omega) (chl_s (by omega) hI hC).1 (Or.inr ⟨_, by omega, rfl, by rw [(chl_s (by omega) hI hC).2]; omega, by omega, by omega⟩) k
set_option maxRecDepth 100000 in
theorem z_chl {l : Launch} {h : MH} {Q : Option Value → MH → Prop} {tc : Nat} {tr : Int64} {xn : Nat → Int} {xf V Bf Lf : Nat → Nat → Int} {i : Int} (HC : CORE2 h tc tr xn xf V Bf Lf) (ri : rg i)  (k : ∀ r : Int, ((0 ≤ i ∧ i < tc → isLen (V 3) i r) ∧ (¬ (0 ≤ i ∧ i < tc) → r = 0) ∧ 0 ≤ r ∧ r ≤ 12) → Q (some (.int (iZ r))) h) : Go l mX8_chainLength 0 [some (.ref 0), some (.int (iZ i)), none, none] [] h Q := by
  obtain ⟨F0, F3, F4, htc, HT, HL⟩ := id HC
  refine g_iconst (v := iZ (0)) 1 dX8_chainLength_0 rfl rfl ?_
  refine g_istore_n (L1 := [some (.ref 0), some (.int (iZ i)), some (.int (iZ 0)), none]) 2 dX8_chainLength_1 (by decide) rfl rfl rfl ?_
  refine g_aload_n 3 dX8_chainLength_2 rfl rfl ?_
  refine g_iload_n 4 dX8_chainLength_3 rfl rfl ?_
  refine g_callV (z := mX8_toolAt) (As := [.int (iZ i)]) 7 dX8_chainLength_4 mwX8_toolAt ⟨by decide, by decide⟩ rfl wlX8_90 wiX8_toolAt wsX8_toolAt F0 rfl rfl rfl (nle rfl) (nle rfl) rfl ?_
  refine Go.to [some (.ref 0), some (.int (iZ i))] [] rfl rfl ?_
  refine g_iload_n 1 dX8_toolAt_0 rfl rfl ?_
  refine g_ifZ_lt 18 4 dX8_toolAt_1 rfl rfl ri (fun c1 => ?_) (fun c1 => ?_)
  · refine g_null 19 dX8_toolAt_18 rfl ?_
    refine g_goto 28 dX8_toolAt_19 rfl ?_
    refine g_aret rfl (Or.inl rfl) dX8_toolAt_28 ?_
    refine rN ?_
    refine g_astore_nN (L1 := [some (.ref 0), some (.int (iZ i)), some (.int (iZ 0)), some (.null)]) 8 dX8_chainLength_7 (by decide) rfl rfl rfl ?_
    exact z_chl_l ri  _ _ (0) (.null) rfl HC (by omega) (fun m hm => by omega) (Or.inl ⟨rfl, fun q => by omega, fun _ => rfl⟩) k
  · refine g_iload_n 5 dX8_toolAt_4 rfl rfl ?_
    refine g_aload_n 6 dX8_toolAt_5 rfl rfl ?_
    refine g_get 9 dX8_toolAt_6 faX8_26_X8 F0 rfl rfl ?_
    refine g_icZ_ge 18 12 dX8_toolAt_9 rfl rfl ri (by omega) (fun c2 => ?_) (fun c2 => ?_)
    · refine g_null 19 dX8_toolAt_18 rfl ?_
      refine g_goto 28 dX8_toolAt_19 rfl ?_
      refine g_aret rfl (Or.inl rfl) dX8_toolAt_28 ?_
      refine rN ?_
      refine g_astore_nN (L1 := [some (.ref 0), some (.int (iZ i)), some (.int (iZ 0)), some (.null)]) 8 dX8_chainLength_7 (by decide) rfl rfl rfl ?_
      exact z_chl_l ri  _ _ (0) (.null) rfl HC (by omega) (fun m hm => by omega) (Or.inl ⟨rfl, fun q => by omega, fun _ => rfl⟩) k
    · refine g_iload_n 13 dX8_toolAt_12 rfl rfl ?_
      refine g_bipush (v := iZ (12)) 15 dX8_toolAt_13 (by decide +kernel) rfl ?_
      refine g_icZ_lt 22 18 dX8_toolAt_15 rfl rfl ri (by decide) (fun c3 => ?_) (fun c3 => ?_)
      · refine g_aload_n 23 dX8_toolAt_22 rfl rfl ?_
        refine g_get 26 dX8_toolAt_23 faX8_22_X8 F0 rfl rfl ?_
        refine g_iload_n 27 dX8_toolAt_26 rfl rfl ?_
        refine g_aaldZ 28 dX8_toolAt_27 F4 (by decide) (by omega) (by omega) (by decide) (tls_at (by omega) (by omega)) rfl ?_
        refine g_aret rfl (Or.inr ⟨_, rfl⟩) dX8_toolAt_28 ?_
        refine rR ?_
        refine g_astore_n (L1 := [some (.ref 0), some (.int (iZ i)), some (.int (iZ 0)), some (.ref (71 + 4 * i.toNat))]) 8 dX8_chainLength_7 (by decide) rfl rfl rfl ?_
        exact z_chl_l ri  _ _ (0) (.ref (71 + 4 * i.toNat)) rfl HC (by omega) (fun m hm => by omega) (Or.inr ⟨_, by omega, rfl, (by show i = _; omega), by omega, by omega⟩) k
      · refine g_null 19 dX8_toolAt_18 rfl ?_
        refine g_goto 28 dX8_toolAt_19 rfl ?_
        refine g_aret rfl (Or.inl rfl) dX8_toolAt_28 ?_
        refine rN ?_
        refine g_astore_nN (L1 := [some (.ref 0), some (.int (iZ i)), some (.int (iZ 0)), some (.null)]) 8 dX8_chainLength_7 (by decide) rfl rfl rfl ?_
        exact z_chl_l ri  _ _ (0) (.null) rfl HC (by omega) (fun m hm => by omega) (Or.inl ⟨rfl, fun q => by omega, fun _ => rfl⟩) k
set_option maxRecDepth 100000 in
theorem z_cha_l {l : Launch} {Q : Option Value → MH → Prop} {tc : Nat} {tr : Int64} {xn : Nat → Int} {xf V Bf Lf : Nat → Nat → Int} {i k0 : Int} (ri : rg i) (rk0 : rg k0)  : ∀ (m0 : Nat) (h : MH) (a : Int) (n : Int), (12 - n).toNat = m0 → CORE2 h tc tr xn xf V Bf Lf → (rg a) → (0 ≤ n ∧ n ≤ 12 ∧ (n ≤ k0 ∨ n = 0)) → (n = 0 → a = i) → (0 ≤ i ∧ i < tc → (∀ m : Nat, (m : Int) < k0 → 0 ≤ itB (V 3) i m) → n ≤ k0 ∨ n = 0 → itB (V 3) i n.toNat = a ∧ a ≤ i) → (∀ r : Int, ((0 ≤ i ∧ i < tc ∧ 0 ≤ k0 ∧ k0 ≤ 12 → (∀ m : Nat, (m : Int) < k0 → 0 ≤ itB (V 3) i m) → r = itB (V 3) i k0.toNat ∧ r ≤ i) ∧ (k0 ≤ 0 → r = i) ∧ rg r) → Q (some (.int (iZ r))) h) → Go l mX8_chainAt 5 [some (.ref 0), none, some (.int (iZ k0)), some (.int (iZ a)), some (.int (iZ n)), none] [] h Q := by
  intro m0
  induction m0 using Nat.strongRecOn with
  | ind m0 ih =>
    intro h a n hmz HC ra hn hA hC k
    obtain ⟨F0, F3, F4, htc, HT, HL⟩ := id HC
    refine g_iload 7 dX8_chainAt_5 rfl rfl ?_
    refine g_iload_n 8 dX8_chainAt_7 rfl rfl ?_
    refine g_icZ_ge 47 11 dX8_chainAt_8 rfl rfl (by omega) rk0 (fun c1 => ?_) (fun c1 => ?_)
    · refine g_iload_n 48 dX8_chainAt_47 rfl rfl ?_
      refine g_iret rfl dX8_chainAt_48 ?_
      exact k (a) ⟨fun hv hI => by
        have q := hC ⟨hv.1, hv.2.1⟩ hI (by omega)
        have e : n = k0 := by omega
        rw [e] at q
        exact ⟨q.1.symm, q.2⟩, fun h0 => hA (by omega), ra⟩
    · refine g_iload 13 dX8_chainAt_11 rfl rfl ?_
      refine g_bipush (v := iZ (12)) 15 dX8_chainAt_13 (by decide +kernel) rfl ?_
      refine g_icZ_ge 47 18 dX8_chainAt_15 rfl rfl (by omega) (by decide) (fun c2 => ?_) (fun c2 => ?_)
      · refine g_iload_n 48 dX8_chainAt_47 rfl rfl ?_
        refine g_iret rfl dX8_chainAt_48 ?_
        exact k (a) ⟨fun hv hI => by
        have q := hC ⟨hv.1, hv.2.1⟩ hI (by omega)
        have e : n = k0 := by omega
        rw [e] at q
        exact ⟨q.1.symm, q.2⟩, fun h0 => hA (by omega), ra⟩
      · refine g_aload_n 19 dX8_chainAt_18 rfl rfl ?_
        refine g_iload_n 20 dX8_chainAt_19 rfl rfl ?_
        refine g_callV (z := mX8_toolAt) (As := [.int (iZ a)]) 23 dX8_chainAt_20 mwX8_toolAt ⟨by decide, by decide⟩ rfl wlX8_90 wiX8_toolAt wsX8_toolAt F0 rfl rfl rfl (nle rfl) (nle rfl) rfl ?_
        refine Go.to [some (.ref 0), some (.int (iZ a))] [] rfl rfl ?_
        refine g_iload_n 1 dX8_toolAt_0 rfl rfl ?_
        refine g_ifZ_lt 18 4 dX8_toolAt_1 rfl rfl ra (fun c3 => ?_) (fun c3 => ?_)
        · refine g_null 19 dX8_toolAt_18 rfl ?_
          refine g_goto 28 dX8_toolAt_19 rfl ?_
          refine g_aret rfl (Or.inl rfl) dX8_toolAt_28 ?_
          refine rN ?_
          refine g_astoreN (L1 := [some (.ref 0), none, some (.int (iZ k0)), some (.int (iZ a)), some (.int (iZ n)), some (.null)]) 25 dX8_chainAt_23 (by decide) rfl rfl rfl ?_
          refine g_aloadN 27 dX8_chainAt_25 rfl rfl ?_
          refine g_ifnonnullN 30 dX8_chainAt_27 rfl ?_
          refine g_bipush (v := iZ (-9)) 32 dX8_chainAt_30 (by decide +kernel) rfl ?_
          refine g_goto 40 dX8_chainAt_32 rfl ?_
          refine g_istore_n (L1 := [some (.ref 0), none, some (.int (iZ k0)), some (.int (iZ (-9))), some (.int (iZ n)), some (.null)]) 41 dX8_chainAt_40 (by decide) rfl rfl rfl ?_
          refine g_iincZ [some (.ref 0), none, some (.int (iZ k0)), some (.int (iZ (-9))), some (.int (iZ (n + 1))), some (.null)] 44 dX8_chainAt_41 rfl (by omega) (by decide) rfl rfl rfl ?_
          refine g_goto 5 dX8_chainAt_44 rfl ?_
          refine Go.fgt 5 ?_
          exact ih _ (by omega) _ (-9) (n + 1) rfl HC (by decide) (by omega) (fun q => by omega) (fun hv hI _ => by
            have q := hC hv hI (by omega)
            have p := hI n.toNat (by omega)
            rw [q.1] at p
            omega) k
        · refine g_iload_n 5 dX8_toolAt_4 rfl rfl ?_
          refine g_aload_n 6 dX8_toolAt_5 rfl rfl ?_
          refine g_get 9 dX8_toolAt_6 faX8_26_X8 F0 rfl rfl ?_
          refine g_icZ_ge 18 12 dX8_toolAt_9 rfl rfl ra (by omega) (fun c4 => ?_) (fun c4 => ?_)
          · refine g_null 19 dX8_toolAt_18 rfl ?_
            refine g_goto 28 dX8_toolAt_19 rfl ?_
            refine g_aret rfl (Or.inl rfl) dX8_toolAt_28 ?_
            refine rN ?_
            refine g_astoreN (L1 := [some (.ref 0), none, some (.int (iZ k0)), some (.int (iZ a)), some (.int (iZ n)), some (.null)]) 25 dX8_chainAt_23 (by decide) rfl rfl rfl ?_
            refine g_aloadN 27 dX8_chainAt_25 rfl rfl ?_
            refine g_ifnonnullN 30 dX8_chainAt_27 rfl ?_
            refine g_bipush (v := iZ (-9)) 32 dX8_chainAt_30 (by decide +kernel) rfl ?_
            refine g_goto 40 dX8_chainAt_32 rfl ?_
            refine g_istore_n (L1 := [some (.ref 0), none, some (.int (iZ k0)), some (.int (iZ (-9))), some (.int (iZ n)), some (.null)]) 41 dX8_chainAt_40 (by decide) rfl rfl rfl ?_
            refine g_iincZ [some (.ref 0), none, some (.int (iZ k0)), some (.int (iZ (-9))), some (.int (iZ (n + 1))), some (.null)] 44 dX8_chainAt_41 rfl (by omega) (by decide) rfl rfl rfl ?_
            refine g_goto 5 dX8_chainAt_44 rfl ?_
            refine Go.fgt 5 ?_
            exact ih _ (by omega) _ (-9) (n + 1) rfl HC (by decide) (by omega) (fun q => by omega) (fun hv hI _ => by
            have q := hC hv hI (by omega)
            have p := hI n.toNat (by omega)
            rw [q.1] at p
            omega) k
          · refine g_iload_n 13 dX8_toolAt_12 rfl rfl ?_
            refine g_bipush (v := iZ (12)) 15 dX8_toolAt_13 (by decide +kernel) rfl ?_
            refine g_icZ_lt 22 18 dX8_toolAt_15 rfl rfl ra (by decide) (fun c5 => ?_) (fun c5 => ?_)
            · refine g_aload_n 23 dX8_toolAt_22 rfl rfl ?_
              refine g_get 26 dX8_toolAt_23 faX8_22_X8 F0 rfl rfl ?_
              refine g_iload_n 27 dX8_toolAt_26 rfl rfl ?_
              refine g_aaldZ 28 dX8_toolAt_27 F4 (by decide) (by omega) (by omega) (by decide) (tls_at (by omega) (by omega)) rfl ?_
              refine g_aret rfl (Or.inr ⟨_, rfl⟩) dX8_toolAt_28 ?_
              refine rR ?_
              refine g_astore (L1 := [some (.ref 0), none, some (.int (iZ k0)), some (.int (iZ a)), some (.int (iZ n)), some (.ref (71 + 4 * a.toNat))]) 25 dX8_chainAt_23 (by decide) rfl rfl rfl ?_
              refine g_aload 27 dX8_chainAt_25 rfl rfl ?_
              refine g_ifnonnull 35 dX8_chainAt_27 rfl ?_
              refine g_aload 37 dX8_chainAt_35 rfl rfl ?_
              obtain ⟨ta1_6, ta2_6, ta3_6, ta4_6, ta5_6, ta6_6, ta7_6, ta8_6, ta9_6, tb0_6, tb1_6, tb2_6, tb3_6⟩ := HL (a.toNat) (by omega)
              refine g_get 40 dX8_chainAt_37 faX8_118_X7 tb0_6 rfl rfl ?_
              refine g_istore_n (L1 := [some (.ref 0), none, some (.int (iZ k0)), some (.int (iZ (V 3 a.toNat))), some (.int (iZ n)), some (.ref (71 + 4 * a.toNat))]) 41 dX8_chainAt_40 (by decide) rfl rfl rfl ?_
              refine g_iincZ [some (.ref 0), none, some (.int (iZ k0)), some (.int (iZ (V 3 a.toNat))), some (.int (iZ (n + 1))), some (.ref (71 + 4 * a.toNat))] 44 dX8_chainAt_41 rfl (by omega) (by decide) rfl rfl rfl ?_
              refine g_goto 5 dX8_chainAt_44 rfl ?_
              refine Go.fgt 5 ?_
              exact ih _ (by omega) _ (V 3 a.toNat) (n + 1) rfl HC (by omega) (by omega) (fun q => by omega) (fun hv hI _ => ⟨itB_n (by omega) (hC hv hI (by omega)).1, by
            have q := (hC hv hI (by omega)).2
            omega⟩) k
            · refine g_null 19 dX8_toolAt_18 rfl ?_
              refine g_goto 28 dX8_toolAt_19 rfl ?_
              refine g_aret rfl (Or.inl rfl) dX8_toolAt_28 ?_
              refine rN ?_
              refine g_astoreN (L1 := [some (.ref 0), none, some (.int (iZ k0)), some (.int (iZ a)), some (.int (iZ n)), some (.null)]) 25 dX8_chainAt_23 (by decide) rfl rfl rfl ?_
              refine g_aloadN 27 dX8_chainAt_25 rfl rfl ?_
              refine g_ifnonnullN 30 dX8_chainAt_27 rfl ?_
              refine g_bipush (v := iZ (-9)) 32 dX8_chainAt_30 (by decide +kernel) rfl ?_
              refine g_goto 40 dX8_chainAt_32 rfl ?_
              refine g_istore_n (L1 := [some (.ref 0), none, some (.int (iZ k0)), some (.int (iZ (-9))), some (.int (iZ n)), some (.null)]) 41 dX8_chainAt_40 (by decide) rfl rfl rfl ?_
              refine g_iincZ [some (.ref 0), none, some (.int (iZ k0)), some (.int (iZ (-9))), some (.int (iZ (n + 1))), some (.null)] 44 dX8_chainAt_41 rfl (by omega) (by decide) rfl rfl rfl ?_
              refine g_goto 5 dX8_chainAt_44 rfl ?_
              refine Go.fgt 5 ?_
              exact ih _ (by omega) _ (-9) (n + 1) rfl HC (by decide) (by omega) (fun q => by omega) (fun hv hI _ => by
            have q := hC hv hI (by omega)
            have p := hI n.toNat (by omega)
            rw [q.1] at p
            omega) k
set_option maxRecDepth 100000 in
theorem z_cha {l : Launch} {h : MH} {Q : Option Value → MH → Prop} {tc : Nat} {tr : Int64} {xn : Nat → Int} {xf V Bf Lf : Nat → Nat → Int} {i k0 : Int} (HC : CORE2 h tc tr xn xf V Bf Lf) (ri : rg i) (rk0 : rg k0)  (k : ∀ r : Int, ((0 ≤ i ∧ i < tc ∧ 0 ≤ k0 ∧ k0 ≤ 12 → (∀ m : Nat, (m : Int) < k0 → 0 ≤ itB (V 3) i m) → r = itB (V 3) i k0.toNat ∧ r ≤ i) ∧ (k0 ≤ 0 → r = i) ∧ rg r) → Q (some (.int (iZ r))) h) : Go l mX8_chainAt 0 [some (.ref 0), some (.int (iZ i)), some (.int (iZ k0)), none, none, none] [] h Q := by
  obtain ⟨F0, F3, F4, htc, HT, HL⟩ := id HC
  refine g_iload_n 1 dX8_chainAt_0 rfl rfl ?_
  refine g_istore_n (L1 := [some (.ref 0), some (.int (iZ i)), some (.int (iZ k0)), some (.int (iZ i)), none, none]) 2 dX8_chainAt_1 (by decide) rfl rfl rfl ?_
  refine g_iconst (v := iZ (0)) 3 dX8_chainAt_2 rfl rfl ?_
  refine g_istore (L1 := [some (.ref 0), some (.int (iZ i)), some (.int (iZ k0)), some (.int (iZ i)), some (.int (iZ 0)), none]) 5 dX8_chainAt_3 (by decide) rfl rfl rfl ?_
  refine Go.fgt 1 ?_
  exact z_cha_l ri rk0  _ _ (i) (0) rfl HC ri (by omega) (fun _ => rfl) (fun hv _ _ => ⟨rfl, by omega⟩) k
set_option maxRecDepth 100000 in
theorem z_che {l : Launch} {h : MH} {Q : Option Value → MH → Prop} {tc : Nat} {tr : Int64} {xn : Nat → Int} {xf V Bf Lf : Nat → Nat → Int} {i : Int} (HC : CORE2 h tc tr xn xf V Bf Lf) (ri : rg i)  (k : ∀ r : Int, ((0 ≤ i ∧ i < tc → r = lastF (V 3) i ∧ 0 ≤ r ∧ r ≤ i) ∧ (¬ (0 ≤ i ∧ i < tc) → r = i) ∧ rg r) → Q (some (.int (iZ r))) h) : Go l mX8_chainEnd 0 [some (.ref 0), some (.int (iZ i))] [] h Q := by
  obtain ⟨F0, F3, F4, htc, HT, HL⟩ := id HC
  refine g_aload_n 1 dX8_chainEnd_0 rfl rfl ?_
  refine g_iload_n 2 dX8_chainEnd_1 rfl rfl ?_
  refine g_aload_n 3 dX8_chainEnd_2 rfl rfl ?_
  refine g_iload_n 4 dX8_chainEnd_3 rfl rfl ?_
  refine g_callV (z := mX8_chainLength) (As := [.int (iZ i)]) 7 dX8_chainEnd_4 mwX8_chainLength ⟨by decide, by decide⟩ rfl wlX8_170 wiX8_chainLength wsX8_chainLength F0 rfl rfl rfl (nle rfl) (nle rfl) rfl ?_
  refine z_chl HC ri  (fun z1 rz1 => ?_)
  refine rI ?_
  refine g_iconst (v := iZ (1)) 8 dX8_chainEnd_7 rfl rfl ?_
  refine g_isubZ (z1 - 1) 9 dX8_chainEnd_8 (by omega) rfl ?_
  refine g_callV (z := mX8_chainAt) (As := [.int (iZ i), .int (iZ (z1 - 1))]) 12 dX8_chainEnd_9 mwX8_chainAt ⟨by decide, by decide⟩ rfl wlX8_173 wiX8_chainAt wsX8_chainAt F0 rfl rfl rfl (nle rfl) (nle rfl) rfl ?_
  refine z_cha HC ri (by omega)  (fun z2 rz2 => ?_)
  refine rI ?_
  refine g_iret rfl dX8_chainEnd_12 ?_
  have hV : 0 ≤ i ∧ i < tc → isLen (V 3) i z1 ∧ z2 = itB (V 3) i (z1 - 1).toNat ∧ z2 ≤ i := fun q => by
    have u := rz1.1 q
    have u1 := u.1
    have y := rz2.1 ⟨q.1, q.2, by omega, by omega⟩ (fun m hm => u.2.1 m (by omega))
    exact ⟨u, y⟩
  exact k (z2) ⟨fun q => ⟨lastF_eq ⟨z1, (hV q).1, (hV q).2.1⟩, by
      have u := (hV q).1.2.1 (z1 - 1).toNat (by have := (hV q).1.1; omega)
      rw [← (hV q).2.1] at u
      exact u, (hV q).2.2⟩, fun q => rz2.2.1 (by have := rz1.2.1 q; omega), rz2.2.2⟩
set_option maxRecDepth 100000 in
theorem d8_chain {l : Launch} {h : MH} {Q : Option Value → MH → Prop} {tn : Int} {tf : Nat → Int} {xn : Nat → Int} {xf : Nat → Nat → Int} {en : Int} {tc : Nat} {tr : Int64} {V Bf Lf : Nat → Nat → Int} {q lm lo : Nat → Int} {i k0 : Int} (H : IX2 h tn tf xn xf en tc tr V Bf Lf q lm lo) (ri : rg i) (rk0 : rg k0) (k : ∀ r : Int, (chP tc V i k0 r) → Q (some (.int (iZ r))) h) : Go l mX8_chain 0 [some (.ref 0), some (.int (iZ i)), some (.int (iZ k0)), none] [] h Q := by
  obtain ⟨HC, HS, HLm, HY, HE, hlen, hmz⟩ := id H
  obtain ⟨F0, F3, F4, htc, HT, HL⟩ := id HC
  refine g_aload_n 1 dX8_chain_0 rfl rfl ?_
  refine g_iload_n 2 dX8_chain_1 rfl rfl ?_
  refine g_callV (z := mX8_toolAt) (As := [.int (iZ i)]) 5 dX8_chain_2 mwX8_toolAt ⟨by decide, by decide⟩ rfl wlX8_90 wiX8_toolAt wsX8_toolAt F0 rfl rfl rfl (nle rfl) (nle rfl) rfl ?_
  refine Go.to [some (.ref 0), some (.int (iZ i))] [] rfl rfl ?_
  refine g_iload_n 1 dX8_toolAt_0 rfl rfl ?_
  refine g_ifZ_lt 18 4 dX8_toolAt_1 rfl rfl ri (fun c1 => ?_) (fun c1 => ?_)
  · refine g_null 19 dX8_toolAt_18 rfl ?_
    refine g_goto 28 dX8_toolAt_19 rfl ?_
    refine g_aret rfl (Or.inl rfl) dX8_toolAt_28 ?_
    refine rN ?_
    refine g_ifnonnullN 8 dX8_chain_5 rfl ?_
    refine g_iconst (v := iZ (-1)) 9 dX8_chain_8 rfl rfl ?_
    refine g_iret rfl dX8_chain_9 ?_
    exact k (-1) ⟨fun q => by omega, fun _ => rfl⟩
  · refine g_iload_n 5 dX8_toolAt_4 rfl rfl ?_
    refine g_aload_n 6 dX8_toolAt_5 rfl rfl ?_
    refine g_get 9 dX8_toolAt_6 faX8_26_X8 F0 rfl rfl ?_
    refine g_icZ_ge 18 12 dX8_toolAt_9 rfl rfl ri (by omega) (fun c2 => ?_) (fun c2 => ?_)
    · refine g_null 19 dX8_toolAt_18 rfl ?_
      refine g_goto 28 dX8_toolAt_19 rfl ?_
      refine g_aret rfl (Or.inl rfl) dX8_toolAt_28 ?_
      refine rN ?_
      refine g_ifnonnullN 8 dX8_chain_5 rfl ?_
      refine g_iconst (v := iZ (-1)) 9 dX8_chain_8 rfl rfl ?_
      refine g_iret rfl dX8_chain_9 ?_
      exact k (-1) ⟨fun q => by omega, fun _ => rfl⟩
    · refine g_iload_n 13 dX8_toolAt_12 rfl rfl ?_
      refine g_bipush (v := iZ (12)) 15 dX8_toolAt_13 (by decide +kernel) rfl ?_
      refine g_icZ_lt 22 18 dX8_toolAt_15 rfl rfl ri (by decide) (fun c3 => ?_) (fun c3 => ?_)
      · refine g_aload_n 23 dX8_toolAt_22 rfl rfl ?_
        refine g_get 26 dX8_toolAt_23 faX8_22_X8 F0 rfl rfl ?_
        refine g_iload_n 27 dX8_toolAt_26 rfl rfl ?_
        refine g_aaldZ 28 dX8_toolAt_27 F4 (by decide) (by omega) (by omega) (by decide) (tls_at (by omega) (by omega)) rfl ?_
        refine g_aret rfl (Or.inr ⟨_, rfl⟩) dX8_toolAt_28 ?_
        refine rR ?_
        refine g_ifnonnull 10 dX8_chain_5 rfl ?_
        refine g_aload_n 11 dX8_chain_10 rfl rfl ?_
        refine g_iload_n 12 dX8_chain_11 rfl rfl ?_
        refine g_callV (z := mX8_chainLength) (As := [.int (iZ i)]) 15 dX8_chain_12 mwX8_chainLength ⟨by decide, by decide⟩ rfl wlX8_170 wiX8_chainLength wsX8_chainLength F0 rfl rfl rfl (nle rfl) (nle rfl) rfl ?_
        refine z_chl HC ri  (fun z4 rz4 => ?_)
        refine rI ?_
        refine g_istore_n (L1 := [some (.ref 0), some (.int (iZ i)), some (.int (iZ k0)), some (.int (iZ z4))]) 16 dX8_chain_15 (by decide) rfl rfl rfl ?_
        refine g_iload_n 17 dX8_chain_16 rfl rfl ?_
        refine g_iconst (v := iZ (-1)) 18 dX8_chain_17 rfl rfl ?_
        refine g_icZ_ne 23 21 dX8_chain_18 rfl rfl rk0 (by decide) (fun c5 => ?_) (fun c5 => ?_)
        · refine g_iload_n 24 dX8_chain_23 rfl rfl ?_
          refine g_ifZ_lt 32 27 dX8_chain_24 rfl rfl rk0 (fun c6 => ?_) (fun c6 => ?_)
          · refine g_iconst (v := iZ (-1)) 33 dX8_chain_32 rfl rfl ?_
            refine g_goto 42 dX8_chain_33 rfl ?_
            refine g_iret rfl dX8_chain_42 ?_
            have hl := (rz4.1 (by omega))
            have h1 := hl.1
            exact k (-1) ⟨fun _ => ⟨z4, hl, fun q => by omega, fun q => by omega, fun _ => rfl⟩, fun q => by omega⟩
          · refine g_iload_n 28 dX8_chain_27 rfl rfl ?_
            refine g_iload_n 29 dX8_chain_28 rfl rfl ?_
            refine g_icZ_lt 36 32 dX8_chain_29 rfl rfl rk0 (by omega) (fun c7 => ?_) (fun c7 => ?_)
            · refine g_aload_n 37 dX8_chain_36 rfl rfl ?_
              refine g_iload_n 38 dX8_chain_37 rfl rfl ?_
              refine g_iload_n 39 dX8_chain_38 rfl rfl ?_
              refine g_callV (z := mX8_chainAt) (As := [.int (iZ i), .int (iZ k0)]) 42 dX8_chain_39 mwX8_chainAt ⟨by decide, by decide⟩ rfl wlX8_173 wiX8_chainAt wsX8_chainAt F0 rfl rfl rfl (nle rfl) (nle rfl) rfl ?_
              refine z_cha HC ri rk0  (fun z8 rz8 => ?_)
              refine rI ?_
              refine g_iret rfl dX8_chain_42 ?_
              have hl := (rz4.1 (by omega))
              have h1 := hl.1
              have he := (rz8.1 (by omega) (fun m hm => hl.2.1 m (by omega))).1
              exact k (z8) ⟨fun _ => ⟨z4, hl, fun q => by omega, fun _ => he, fun q => by omega⟩, fun q => by omega⟩
            · refine g_iconst (v := iZ (-1)) 33 dX8_chain_32 rfl rfl ?_
              refine g_goto 42 dX8_chain_33 rfl ?_
              refine g_iret rfl dX8_chain_42 ?_
              have hl := (rz4.1 (by omega))
              have h1 := hl.1
              exact k (-1) ⟨fun _ => ⟨z4, hl, fun q => by omega, fun q => by omega, fun _ => rfl⟩, fun q => by omega⟩
        · refine g_iload_n 22 dX8_chain_21 rfl rfl ?_
          refine g_iret rfl dX8_chain_22 ?_
          have hl := (rz4.1 (by omega))
          have h1 := hl.1
          exact k (z4) ⟨fun _ => ⟨z4, hl, fun _ => rfl, fun q => by omega, fun q => by omega⟩, fun q => by omega⟩
      · refine g_null 19 dX8_toolAt_18 rfl ?_
        refine g_goto 28 dX8_toolAt_19 rfl ?_
        refine g_aret rfl (Or.inl rfl) dX8_toolAt_28 ?_
        refine rN ?_
        refine g_ifnonnullN 8 dX8_chain_5 rfl ?_
        refine g_iconst (v := iZ (-1)) 9 dX8_chain_8 rfl rfl ?_
        refine g_iret rfl dX8_chain_9 ?_
        exact k (-1) ⟨fun q => by omega, fun _ => rfl⟩

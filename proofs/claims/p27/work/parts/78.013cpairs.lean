set_option maxRecDepth 100000 in
theorem c_gap_l {l : Launch} {Q : Option Value → MH → Prop} {t : Nat} {tn i : Int} {tf : Nat → Int} (otf : oki (0) (255) tf) (rtn : (0 ≤ tn ∧ tn ≤ 200)) (ri : (0 ≤ i ∧ i ≤ 200)) (hin : i ≤ tn) : ∀ (m0 : Nat) (h : MH) (q j : Int), (tn - j).toNat = m0 → h[t]? = some (.inr (5, [.ref (t + 1), .int (iZ tn)])) → h[t + 1]? = some (.inl (0, 200, .inl (zA tf))) → q = 0 ∨ q = 1 → 0 ≤ j ∧ j ≤ tn → gapE tn (fun j => tf j.toNat) q j = gapE tn (fun j => tf j.toNat) 0 i → (∀ (r : Int), (r = gapE tn (fun j => tf j.toNat) 0 i ∧ i ≤ r ∧ r ≤ tn) → Q (some (.int (iZ r))) h) → Go l mX6_pastGap 4 [some (.ref t), none, some (.int (iZ q)), some (.int (iZ j)), none] [] h Q := by
  intro m0
  induction m0 using Nat.strongRecOn with
  | ind m0 ih =>
    intro h q j hmz F0 F1 hq hj hG k
    refine g_iload_n 5 dX6_pastGap_4 rfl rfl ?_
    refine g_aload_n 6 dX6_pastGap_5 rfl rfl ?_
    refine g_get 9 dX6_pastGap_6 faX6_15_X6 F0 rfl rfl ?_
    refine g_icZ_ge 62 12 dX6_pastGap_9 rfl rfl (by omega) (by omega) (fun c1 => ?_) (fun c1 => ?_)
    · refine g_aload_n 63 dX6_pastGap_62 rfl rfl ?_
      refine g_get 66 dX6_pastGap_63 faX6_15_X6 F0 rfl rfl ?_
      refine g_iret rfl dX6_pastGap_66 ?_
      have hr : tn = gapE tn (fun j => tf j.toNat) 0 i := (gap_end (by omega)).symm.trans hG
      have hg9 := gap_rg (tf := (fun j => tf j.toNat)) (r := 0) hin
      rw [← hr] at hg9
      exact k (tn) ⟨hr, hg9.1, hg9.2⟩
    · refine g_aload_n 13 dX6_pastGap_12 rfl rfl ?_
      refine g_iload_n 14 dX6_pastGap_13 rfl rfl ?_
      refine g_callV (z := mX6_at) (As := [.int (iZ j)]) 17 dX6_pastGap_14 mwX6_at ⟨by decide, by decide⟩ rfl wlX6_19 wiX6_at wsX6_at F0 rfl rfl rfl (nle rfl) (nle rfl) rfl ?_
      refine Go.to [some (.ref t), some (.int (iZ j))] [] rfl rfl ?_
      refine g_iload_n 1 dX6_at_0 rfl rfl ?_
      refine g_ifZ_lt 19 4 dX6_at_1 rfl rfl (by omega) (fun q => absurd q (by omega)) (fun _ => ?_)
      refine g_iload_n 5 dX6_at_4 rfl rfl ?_
      refine g_aload_n 6 dX6_at_5 rfl rfl ?_
      refine g_get 9 dX6_at_6 faX6_15_X6 F0 rfl rfl ?_
      refine g_icZ_ge 19 12 dX6_at_9 rfl rfl (by omega) (by omega) (fun q => absurd q (by omega)) (fun _ => ?_)
      refine g_iload_n 13 dX6_at_12 rfl rfl ?_
      refine g_sipush (v := iZ (200)) 16 dX6_at_13 (by decide +kernel) rfl ?_
      refine g_icZ_lt 23 19 dX6_at_16 rfl rfl (by omega) (by decide) (fun _ => ?_) (fun q => absurd q (by omega))
      refine g_aload_n 24 dX6_at_23 rfl rfl ?_
      refine g_get 27 dX6_at_24 faX6_9_X6 F0 rfl rfl ?_
      refine g_iload_n 28 dX6_at_27 rfl rfl ?_
      have b2 := otf ((j).toNat)
      refine g_ialdZ (v := iZ (tf j.toNat)) 29 dX6_at_28 F1 (by omega) (by omega) (by decide) rfl rfl ?_
      refine g_iret rfl dX6_at_29 ?_
      refine rI ?_
      refine g_istore (L1 := [some (.ref t), none, some (.int (iZ q)), some (.int (iZ j)), some (.int (iZ (tf j.toNat)))]) 19 dX6_pastGap_17 (by decide) rfl rfl rfl ?_
      refine g_iload 21 dX6_pastGap_19 rfl rfl ?_
      refine g_bipush (v := iZ (10)) 23 dX6_pastGap_21 (by decide +kernel) rfl ?_
      refine g_icZ_ne 31 26 dX6_pastGap_23 rfl rfl (by omega) (by decide) (fun c3 => ?_) (fun c3 => ?_)
      · refine g_iload 33 dX6_pastGap_31 rfl rfl ?_
        refine g_bipush (v := iZ (35)) 35 dX6_pastGap_33 (by decide +kernel) rfl ?_
        refine g_icZ_ne 43 38 dX6_pastGap_35 rfl rfl (by omega) (by decide) (fun c4 => ?_) (fun c4 => ?_)
        · refine g_iload_n 44 dX6_pastGap_43 rfl rfl ?_
          refine g_ifZ_ne 56 47 dX6_pastGap_44 rfl rfl (rg01 hq) (fun c5 => ?_) (fun c5 => ?_)
          · refine g_iincZ [some (.ref t), none, some (.int (iZ q)), some (.int (iZ (j + 1))), some (.int (iZ (tf j.toNat)))] 59 dX6_pastGap_56 rfl (by omega) (by decide) rfl rfl rfl ?_
            refine g_goto 4 dX6_pastGap_59 rfl ?_
            refine Go.fgt 4 ?_
            exact ih _ (by omega) _ (q) (j + 1) rfl F0 F1 hq (by omega) ((gap_on (by omega) c3 c4 (fun z9 => by have z8 := z9.2; have z7 : tf j.toNat ≠ 32 := z8; omega)).symm.trans hG) k
          · refine g_iload 49 dX6_pastGap_47 rfl rfl ?_
            refine g_bipush (v := iZ (32)) 51 dX6_pastGap_49 (by decide +kernel) rfl ?_
            refine g_icZ_eq 56 54 dX6_pastGap_51 rfl rfl (by omega) (by decide) (fun c6 => ?_) (fun c6 => ?_)
            · refine g_iincZ [some (.ref t), none, some (.int (iZ q)), some (.int (iZ (j + 1))), some (.int (iZ (tf j.toNat)))] 59 dX6_pastGap_56 rfl (by omega) (by decide) rfl rfl rfl ?_
              refine g_goto 4 dX6_pastGap_59 rfl ?_
              refine Go.fgt 4 ?_
              exact ih _ (by omega) _ (q) (j + 1) rfl F0 F1 hq (by omega) ((gap_on (by omega) c3 c4 (fun z9 => by have z8 := z9.2; have z7 : tf j.toNat ≠ 32 := z8; omega)).symm.trans hG) k
            · refine g_iload_n 55 dX6_pastGap_54 rfl rfl ?_
              refine g_iret rfl dX6_pastGap_55 ?_
              have hr : j = gapE tn (fun j => tf j.toNat) 0 i := by rw [show q = 0 by omega] at hG; exact (gap_st (by omega) c3 c4 c6).symm.trans hG
              have hg9 := gap_rg (tf := (fun j => tf j.toNat)) (r := 0) hin
              rw [← hr] at hg9
              exact k (j) ⟨hr, hg9.1, hg9.2⟩
        · refine g_iconst (v := iZ (1)) 39 dX6_pastGap_38 rfl rfl ?_
          refine g_istore_n (L1 := [some (.ref t), none, some (.int (iZ 1)), some (.int (iZ j)), some (.int (iZ (tf j.toNat)))]) 40 dX6_pastGap_39 (by decide) rfl rfl rfl ?_
          refine g_goto 56 dX6_pastGap_40 rfl ?_
          refine g_iincZ [some (.ref t), none, some (.int (iZ 1)), some (.int (iZ (j + 1))), some (.int (iZ (tf j.toNat)))] 59 dX6_pastGap_56 rfl (by omega) (by decide) rfl rfl rfl ?_
          refine g_goto 4 dX6_pastGap_59 rfl ?_
          refine Go.fgt 4 ?_
          exact ih _ (by omega) _ (1) (j + 1) rfl F0 F1 (Or.inr rfl) (by omega) ((gap_35 (by omega) c4).symm.trans hG) k
      · refine g_iconst (v := iZ (0)) 27 dX6_pastGap_26 rfl rfl ?_
        refine g_istore_n (L1 := [some (.ref t), none, some (.int (iZ 0)), some (.int (iZ j)), some (.int (iZ (tf j.toNat)))]) 28 dX6_pastGap_27 (by decide) rfl rfl rfl ?_
        refine g_goto 56 dX6_pastGap_28 rfl ?_
        refine g_iincZ [some (.ref t), none, some (.int (iZ 0)), some (.int (iZ (j + 1))), some (.int (iZ (tf j.toNat)))] 59 dX6_pastGap_56 rfl (by omega) (by decide) rfl rfl rfl ?_
        refine g_goto 4 dX6_pastGap_59 rfl ?_
        refine Go.fgt 4 ?_
        exact ih _ (by omega) _ (0) (j + 1) rfl F0 F1 (Or.inl rfl) (by omega) ((gap_10 (by omega) c3).symm.trans hG) k
set_option maxRecDepth 100000 in
theorem c_gap {l : Launch} {h : MH} {Q : Option Value → MH → Prop} {t : Nat} {tn i : Int} {tf : Nat → Int} (F0 : h[t]? = some (.inr (5, [.ref (t + 1), .int (iZ tn)]))) (F1 : h[t + 1]? = some (.inl (0, 200, .inl (zA tf)))) (otf : oki (0) (255) tf) (rtn : (0 ≤ tn ∧ tn ≤ 200)) (ri : (0 ≤ i ∧ i ≤ 200)) (hin : i ≤ tn) (k : ∀ (r : Int), (r = gapE tn (fun j => tf j.toNat) 0 i ∧ i ≤ r ∧ r ≤ tn) → Q (some (.int (iZ r))) h) : Go l mX6_pastGap 0 [some (.ref t), some (.int (iZ i)), none, none, none] [] h Q := by
  refine g_iconst (v := iZ (0)) 1 dX6_pastGap_0 rfl rfl ?_
  refine g_istore_n (L1 := [some (.ref t), some (.int (iZ i)), some (.int (iZ 0)), none, none]) 2 dX6_pastGap_1 (by decide) rfl rfl rfl ?_
  refine g_iload_n 3 dX6_pastGap_2 rfl rfl ?_
  refine g_istore_n (L1 := [some (.ref t), some (.int (iZ i)), some (.int (iZ 0)), some (.int (iZ i)), none]) 4 dX6_pastGap_3 (by decide) rfl rfl rfl ?_
  refine Go.fgt 1 ?_
  exact c_gap_l otf rtn ri hin _ _ (0) (i) rfl F0 F1 (Or.inl rfl) (by omega) rfl k
set_option maxRecDepth 100000 in
theorem c_dig {l : Launch} {h : MH} {Q : Option Value → MH → Prop} {v : Int} (rv : rg v) (k : ∀ (r : Int), (r = dgt v ∧ (r = -9 ∨ (0 ≤ r ∧ r ≤ 15))) → Q (some (.int (iZ r))) h) : Go l mX5_digit 0 [some (.int (iZ v))] [] h Q := by
  refine g_iload_n 1 dX5_digit_0 rfl rfl ?_
  refine g_bipush (v := iZ (48)) 3 dX5_digit_1 (by decide +kernel) rfl ?_
  refine g_icZ_lt 17 6 dX5_digit_3 rfl rfl rv (by decide) (fun c1 => ?_) (fun c1 => ?_)
  · refine g_iload_n 18 dX5_digit_17 rfl rfl ?_
    refine g_bipush (v := iZ (97)) 20 dX5_digit_18 (by decide +kernel) rfl ?_
    refine g_icZ_lt 39 23 dX5_digit_20 rfl rfl rv (by decide) (fun _ => ?_) (fun q => absurd q (by omega))
    refine g_bipush (v := iZ (-9)) 41 dX5_digit_39 (by decide +kernel) rfl ?_
    refine g_iret rfl dX5_digit_41 ?_
    exact k (-9) ⟨by unfold dgt; split <;> (try split) <;> omega, by omega⟩
  · refine g_iload_n 7 dX5_digit_6 rfl rfl ?_
    refine g_bipush (v := iZ (57)) 9 dX5_digit_7 (by decide +kernel) rfl ?_
    refine g_icZ_gt 17 12 dX5_digit_9 rfl rfl rv (by decide) (fun c2 => ?_) (fun c2 => ?_)
    · refine g_iload_n 18 dX5_digit_17 rfl rfl ?_
      refine g_bipush (v := iZ (97)) 20 dX5_digit_18 (by decide +kernel) rfl ?_
      refine g_icZ_lt 39 23 dX5_digit_20 rfl rfl rv (by decide) (fun c3 => ?_) (fun c3 => ?_)
      · refine g_bipush (v := iZ (-9)) 41 dX5_digit_39 (by decide +kernel) rfl ?_
        refine g_iret rfl dX5_digit_41 ?_
        exact k (-9) ⟨by unfold dgt; split <;> (try split) <;> omega, by omega⟩
      · refine g_iload_n 24 dX5_digit_23 rfl rfl ?_
        refine g_bipush (v := iZ (102)) 26 dX5_digit_24 (by decide +kernel) rfl ?_
        refine g_icZ_gt 39 29 dX5_digit_26 rfl rfl rv (by decide) (fun c4 => ?_) (fun c4 => ?_)
        · refine g_bipush (v := iZ (-9)) 41 dX5_digit_39 (by decide +kernel) rfl ?_
          refine g_iret rfl dX5_digit_41 ?_
          exact k (-9) ⟨by unfold dgt; split <;> (try split) <;> omega, by omega⟩
        · refine g_iload_n 30 dX5_digit_29 rfl rfl ?_
          refine g_bipush (v := iZ (97)) 32 dX5_digit_30 (by decide +kernel) rfl ?_
          refine g_isubZ (v - 97) 33 dX5_digit_32 (by omega) rfl ?_
          refine g_bipush (v := iZ (10)) 35 dX5_digit_33 (by decide +kernel) rfl ?_
          refine g_iaddZ (v - 87) 36 dX5_digit_35 (by omega) rfl ?_
          refine g_goto 41 dX5_digit_36 rfl ?_
          refine g_iret rfl dX5_digit_41 ?_
          exact k (v - 87) ⟨by unfold dgt; split <;> (try split) <;> omega, by omega⟩
    · refine g_iload_n 13 dX5_digit_12 rfl rfl ?_
      refine g_bipush (v := iZ (48)) 15 dX5_digit_13 (by decide +kernel) rfl ?_
      refine g_isubZ (v - 48) 16 dX5_digit_15 (by omega) rfl ?_
      refine g_iret rfl dX5_digit_16 ?_
      exact k (v - 48) ⟨by unfold dgt; split <;> (try split) <;> omega, by omega⟩
set_option maxRecDepth 100000 in
theorem c_pf_l {l : Launch} {Q : Option Value → MH → Prop} {tn : Int} {t : Nat} {tf : Nat → Int} (otf : oki (0) (255) tf) (rtn : (0 ≤ tn ∧ tn ≤ 200)) (hT : 15 < t) : ∀ (m0 : Nat) (h : MH) (n : Int) (f : Nat → Int) (g : Nat → Int) (av j : Int), (200 - j).toNat = m0 → (0 ≤ n ∧ n ≤ 256) → oki (0) (255) f → oki (0) (300) g → h[5]? = some (.inr (4, [.ref 6])) → h[6]? = some (.inr (0, [.int (iZ 256), .ref 7, .ref 8, .int (iZ n)])) → h[7]? = some (.inl (0, 256, .inl (zA f))) → h[8]? = some (.inl (0, 256, .inl (zA g))) → h[t]? = some (.inr (5, [.ref (t + 1), .int (iZ tn)])) → h[t + 1]? = some (.inl (0, 200, .inl (zA tf))) → 0 ≤ av ∧ av ≤ tn → 0 ≤ j ∧ j ≤ 200 ∧ 2 * j ≤ av ∧ n ≤ j → prI (prsE tn (fun j => tf j.toNat)) tn (fun j => tf j.toNat) (201 - j).toNat av n f g → (∀ (h1 : MH) (n_1 : Int) (f_1 : Nat → Int) (g_1 : Nat → Int) (r : Int), (0 ≤ n_1 ∧ n_1 ≤ 256) → oki (0) (255) f_1 → oki (0) (300) g_1 → (r = -9 ∨ (0 ≤ r ∧ r ≤ 200)) → (prR (prsE tn (fun j => tf j.toNat)) r n_1 f_1 g_1) → Sm [6, 7, 8] h h1 → h1[6]? = some (.inr (0, [.int (iZ 256), .ref 7, .ref 8, .int (iZ n_1)])) → h1[7]? = some (.inl (0, 256, .inl (zA f_1))) → h1[8]? = some (.inl (0, 256, .inl (zA g_1))) → Q (some (.int (iZ r))) h1) → Go l mX5_faultIn 16 [some (.ref 5), some (.ref t), some (.int (iZ av)), some (.int (iZ j)), none, none] [] h Q := by
  intro m0
  induction m0 using Nat.strongRecOn with
  | ind m0 ih =>
    intro h n f g av j hmz rn of og F0 F1 F2 F3 F4 F5 hav hj hP k
    refine g_iload_n 17 dX5_faultIn_16 rfl rfl ?_
    refine g_sipush (v := iZ (200)) 20 dX5_faultIn_17 (by decide +kernel) rfl ?_
    refine g_icZ_ge 106 23 dX5_faultIn_20 rfl rfl (by omega) (by decide) (fun c1 => ?_) (fun c1 => ?_)
    · refine g_aload_n 107 dX5_faultIn_106 rfl rfl ?_
      refine g_get 110 dX5_faultIn_107 faX5_9_X5 F0 rfl rfl ?_
      refine g_get 113 dX5_faultIn_110 faX5_15_X0 F1 rfl rfl ?_
      refine g_ifZ_ne 123 116 dX5_faultIn_113 rfl rfl (by omega) (fun c2 => ?_) (fun c2 => ?_)
      · refine g_bipush (v := iZ (-9)) 125 dX5_faultIn_123 (by decide +kernel) rfl ?_
        refine g_iret rfl dX5_faultIn_125 ?_
        exact k _ (n) (f) (g) (-9) (by omega) of og (by omega) (by have q9 := prI_end (prI_k (show (201 - j).toNat = (200 - j).toNat + 1 by omega) hP) (by omega); rw [if_neg (by omega)] at q9; exact q9) (Sm.refl [6, 7, 8] _) F1 F2 F3
      · refine g_aload_n 117 dX5_faultIn_116 rfl rfl ?_
        refine g_get 120 dX5_faultIn_117 faX5_27_X6 F4 rfl rfl ?_
        refine g_goto 125 dX5_faultIn_120 rfl ?_
        refine g_iret rfl dX5_faultIn_125 ?_
        exact k _ (n) (f) (g) (tn) (by omega) of og (by omega) (by have q9 := prI_end (prI_k (show (201 - j).toNat = (200 - j).toNat + 1 by omega) hP) (by omega); rw [if_pos (by omega)] at q9; exact q9) (Sm.refl [6, 7, 8] _) F1 F2 F3
    · refine g_iload_n 24 dX5_faultIn_23 rfl rfl ?_
      refine g_aload_n 25 dX5_faultIn_24 rfl rfl ?_
      refine g_get 28 dX5_faultIn_25 faX5_27_X6 F4 rfl rfl ?_
      refine g_icZ_ge 106 31 dX5_faultIn_28 rfl rfl (by omega) (by omega) (fun c3 => ?_) (fun c3 => ?_)
      · refine g_aload_n 107 dX5_faultIn_106 rfl rfl ?_
        refine g_get 110 dX5_faultIn_107 faX5_9_X5 F0 rfl rfl ?_
        refine g_get 113 dX5_faultIn_110 faX5_15_X0 F1 rfl rfl ?_
        refine g_ifZ_ne 123 116 dX5_faultIn_113 rfl rfl (by omega) (fun c4 => ?_) (fun c4 => ?_)
        · refine g_bipush (v := iZ (-9)) 125 dX5_faultIn_123 (by decide +kernel) rfl ?_
          refine g_iret rfl dX5_faultIn_125 ?_
          exact k _ (n) (f) (g) (-9) (by omega) of og (by omega) (by have q9 := prI_end (prI_k (show (201 - j).toNat = (200 - j).toNat + 1 by omega) hP) (by omega); rw [if_neg (by omega)] at q9; exact q9) (Sm.refl [6, 7, 8] _) F1 F2 F3
        · refine g_aload_n 117 dX5_faultIn_116 rfl rfl ?_
          refine g_get 120 dX5_faultIn_117 faX5_27_X6 F4 rfl rfl ?_
          refine g_goto 125 dX5_faultIn_120 rfl ?_
          refine g_iret rfl dX5_faultIn_125 ?_
          exact k _ (n) (f) (g) (tn) (by omega) of og (by omega) (by have q9 := prI_end (prI_k (show (201 - j).toNat = (200 - j).toNat + 1 by omega) hP) (by omega); rw [if_pos (by omega)] at q9; exact q9) (Sm.refl [6, 7, 8] _) F1 F2 F3
      · refine g_aload_n 32 dX5_faultIn_31 rfl rfl ?_
        refine g_iload_n 33 dX5_faultIn_32 rfl rfl ?_
        refine g_callV (z := mX6_at) (As := [.int (iZ av)]) 36 dX5_faultIn_33 mwX6_at ⟨by decide, by decide⟩ rfl wlX5_28 wiX6_at wsX6_at F4 rfl rfl rfl (nle rfl) (nle rfl) rfl ?_
        refine Go.to [some (.ref t), some (.int (iZ av))] [] rfl rfl ?_
        refine g_iload_n 1 dX6_at_0 rfl rfl ?_
        refine g_ifZ_lt 19 4 dX6_at_1 rfl rfl (by omega) (fun q => absurd q (by omega)) (fun _ => ?_)
        refine g_iload_n 5 dX6_at_4 rfl rfl ?_
        refine g_aload_n 6 dX6_at_5 rfl rfl ?_
        refine g_get 9 dX6_at_6 faX6_15_X6 F4 rfl rfl ?_
        refine g_icZ_ge 19 12 dX6_at_9 rfl rfl (by omega) (by omega) (fun q => absurd q (by omega)) (fun _ => ?_)
        refine g_iload_n 13 dX6_at_12 rfl rfl ?_
        refine g_sipush (v := iZ (200)) 16 dX6_at_13 (by decide +kernel) rfl ?_
        refine g_icZ_lt 23 19 dX6_at_16 rfl rfl (by omega) (by decide) (fun _ => ?_) (fun q => absurd q (by omega))
        refine g_aload_n 24 dX6_at_23 rfl rfl ?_
        refine g_get 27 dX6_at_24 faX6_9_X6 F4 rfl rfl ?_
        refine g_iload_n 28 dX6_at_27 rfl rfl ?_
        have b5 := otf ((av).toNat)
        refine g_ialdZ (v := iZ (tf av.toNat)) 29 dX6_at_28 F5 (by omega) (by omega) (by decide) rfl rfl ?_
        refine g_iret rfl dX6_at_29 ?_
        refine rI ?_
        refine g_callS (z := mX5_digit) (As := [.int (iZ (tf av.toNat))]) 39 dX5_faultIn_36 mwX5_digit ⟨by decide, by decide⟩ rfl wlX5_31 wtX5_digit rfl (nle rfl) (nle rfl) rfl ?_
        refine c_dig (by omega) (fun z6 rz6 => ?_)
        obtain ⟨ez6, bz6⟩ := rz6
        subst ez6
        refine rI ?_
        refine g_istore (L1 := [some (.ref 5), some (.ref t), some (.int (iZ av)), some (.int (iZ j)), some (.int (iZ (dgt (tf av.toNat)))), none]) 41 dX5_faultIn_39 (by decide) rfl rfl rfl ?_
        refine g_iload 43 dX5_faultIn_41 rfl rfl ?_
        refine g_bipush (v := iZ (-9)) 45 dX5_faultIn_43 (by decide +kernel) rfl ?_
        refine g_icZ_ne 50 48 dX5_faultIn_45 rfl rfl (by omega) (by decide) (fun c7 => ?_) (fun c7 => ?_)
        · refine g_aload_n 51 dX5_faultIn_50 rfl rfl ?_
          refine g_iload_n 52 dX5_faultIn_51 rfl rfl ?_
          refine g_iconst (v := iZ (1)) 53 dX5_faultIn_52 rfl rfl ?_
          refine g_iaddZ (av + 1) 54 dX5_faultIn_53 (by omega) rfl ?_
          refine g_callV (z := mX6_at) (As := [.int (iZ (av + 1))]) 57 dX5_faultIn_54 mwX6_at ⟨by decide, by decide⟩ rfl wlX5_28 wiX6_at wsX6_at F4 rfl rfl rfl (nle rfl) (nle rfl) rfl ?_
          refine Go.to [some (.ref t), some (.int (iZ (av + 1)))] [] rfl rfl ?_
          refine g_iload_n 1 dX6_at_0 rfl rfl ?_
          refine g_ifZ_lt 19 4 dX6_at_1 rfl rfl (by omega) (fun c8 => ?_) (fun c8 => ?_)
          · refine g_iconst (v := iZ (-1)) 20 dX6_at_19 rfl rfl ?_
            refine g_goto 29 dX6_at_20 rfl ?_
            refine g_iret rfl dX6_at_29 ?_
            refine rI ?_
            refine g_callS (z := mX5_digit) (As := [.int (iZ (-1))]) 60 dX5_faultIn_57 mwX5_digit ⟨by decide, by decide⟩ rfl wlX5_31 wtX5_digit rfl (nle rfl) (nle rfl) rfl ?_
            refine c_dig (by decide) (fun z9 rz9 => ?_)
            obtain rfl : z9 = -9 := rz9.1
            refine rI ?_
            refine g_istore (L1 := [some (.ref 5), some (.ref t), some (.int (iZ av)), some (.int (iZ j)), some (.int (iZ (dgt (tf av.toNat)))), some (.int (iZ (-9)))]) 62 dX5_faultIn_60 (by decide) rfl rfl rfl ?_
            refine g_iload 64 dX5_faultIn_62 rfl rfl ?_
            refine g_bipush (v := iZ (-9)) 66 dX5_faultIn_64 (by decide +kernel) rfl ?_
            refine g_icZ_eq 88 69 dX5_faultIn_66 rfl rfl (by decide) (by decide) (fun _ => ?_) (fun q => absurd q (by decide))
            refine g_iload_n 89 dX5_faultIn_88 rfl rfl ?_
            refine g_iconst (v := iZ (1)) 90 dX5_faultIn_89 rfl rfl ?_
            refine g_iaddZ (av + 1) 91 dX5_faultIn_90 (by omega) rfl ?_
            refine g_iret rfl dX5_faultIn_91 ?_
            exact k _ (n) (f) (g) (av + 1) (by omega) of og (by omega) (prI_b (prI_k (show (201 - j).toNat = (200 - j).toNat + 1 by omega) hP) (by omega) (by show dgt (tf av.toNat) ≠ -9; omega) (Or.inl (by omega))) (Sm.refl [6, 7, 8] _) F1 F2 F3
          · refine g_iload_n 5 dX6_at_4 rfl rfl ?_
            refine g_aload_n 6 dX6_at_5 rfl rfl ?_
            refine g_get 9 dX6_at_6 faX6_15_X6 F4 rfl rfl ?_
            refine g_icZ_ge 19 12 dX6_at_9 rfl rfl (by omega) (by omega) (fun c10 => ?_) (fun c10 => ?_)
            · refine g_iconst (v := iZ (-1)) 20 dX6_at_19 rfl rfl ?_
              refine g_goto 29 dX6_at_20 rfl ?_
              refine g_iret rfl dX6_at_29 ?_
              refine rI ?_
              refine g_callS (z := mX5_digit) (As := [.int (iZ (-1))]) 60 dX5_faultIn_57 mwX5_digit ⟨by decide, by decide⟩ rfl wlX5_31 wtX5_digit rfl (nle rfl) (nle rfl) rfl ?_
              refine c_dig (by decide) (fun z11 rz11 => ?_)
              obtain rfl : z11 = -9 := rz11.1
              refine rI ?_
              refine g_istore (L1 := [some (.ref 5), some (.ref t), some (.int (iZ av)), some (.int (iZ j)), some (.int (iZ (dgt (tf av.toNat)))), some (.int (iZ (-9)))]) 62 dX5_faultIn_60 (by decide) rfl rfl rfl ?_
              refine g_iload 64 dX5_faultIn_62 rfl rfl ?_
              refine g_bipush (v := iZ (-9)) 66 dX5_faultIn_64 (by decide +kernel) rfl ?_
              refine g_icZ_eq 88 69 dX5_faultIn_66 rfl rfl (by decide) (by decide) (fun _ => ?_) (fun q => absurd q (by decide))
              refine g_iload_n 89 dX5_faultIn_88 rfl rfl ?_
              refine g_iconst (v := iZ (1)) 90 dX5_faultIn_89 rfl rfl ?_
              refine g_iaddZ (av + 1) 91 dX5_faultIn_90 (by omega) rfl ?_
              refine g_iret rfl dX5_faultIn_91 ?_
              exact k _ (n) (f) (g) (av + 1) (by omega) of og (by omega) (prI_b (prI_k (show (201 - j).toNat = (200 - j).toNat + 1 by omega) hP) (by omega) (by show dgt (tf av.toNat) ≠ -9; omega) (Or.inl (by omega))) (Sm.refl [6, 7, 8] _) F1 F2 F3
            · refine g_iload_n 13 dX6_at_12 rfl rfl ?_
              refine g_sipush (v := iZ (200)) 16 dX6_at_13 (by decide +kernel) rfl ?_
              refine g_icZ_lt 23 19 dX6_at_16 rfl rfl (by omega) (by decide) (fun _ => ?_) (fun q => absurd q (by omega))
              refine g_aload_n 24 dX6_at_23 rfl rfl ?_
              refine g_get 27 dX6_at_24 faX6_9_X6 F4 rfl rfl ?_
              refine g_iload_n 28 dX6_at_27 rfl rfl ?_
              have b12 := otf ((av + 1).toNat)
              refine g_ialdZ (v := iZ (tf (av + 1).toNat)) 29 dX6_at_28 F5 (by omega) (by omega) (by decide) rfl rfl ?_
              refine g_iret rfl dX6_at_29 ?_
              refine rI ?_
              refine g_callS (z := mX5_digit) (As := [.int (iZ (tf (av + 1).toNat))]) 60 dX5_faultIn_57 mwX5_digit ⟨by decide, by decide⟩ rfl wlX5_31 wtX5_digit rfl (nle rfl) (nle rfl) rfl ?_
              refine c_dig (by omega) (fun z13 rz13 => ?_)
              obtain ⟨ez13, bz13⟩ := rz13
              subst ez13
              refine rI ?_
              refine g_istore (L1 := [some (.ref 5), some (.ref t), some (.int (iZ av)), some (.int (iZ j)), some (.int (iZ (dgt (tf av.toNat)))), some (.int (iZ (dgt (tf (av + 1).toNat))))]) 62 dX5_faultIn_60 (by decide) rfl rfl rfl ?_
              refine g_iload 64 dX5_faultIn_62 rfl rfl ?_
              refine g_bipush (v := iZ (-9)) 66 dX5_faultIn_64 (by decide +kernel) rfl ?_
              refine g_icZ_eq 88 69 dX5_faultIn_66 rfl rfl (by omega) (by decide) (fun c14 => ?_) (fun c14 => ?_)
              · refine g_iload_n 89 dX5_faultIn_88 rfl rfl ?_
                refine g_iconst (v := iZ (1)) 90 dX5_faultIn_89 rfl rfl ?_
                refine g_iaddZ (av + 1) 91 dX5_faultIn_90 (by omega) rfl ?_
                refine g_iret rfl dX5_faultIn_91 ?_
                exact k _ (n) (f) (g) (av + 1) (by omega) of og (by omega) (prI_b (prI_k (show (201 - j).toNat = (200 - j).toNat + 1 by omega) hP) (by omega) (by show dgt (tf av.toNat) ≠ -9; omega) (Or.inr (by show dgt (tf (av + 1).toNat) = -9; omega))) (Sm.refl [6, 7, 8] _) F1 F2 F3
              · refine g_aload_n 70 dX5_faultIn_69 rfl rfl ?_
                refine g_get 73 dX5_faultIn_70 faX5_9_X5 F0 rfl rfl ?_
                refine g_bipush (v := iZ (16)) 75 dX5_faultIn_73 (by decide +kernel) rfl ?_
                refine g_iload 77 dX5_faultIn_75 rfl rfl ?_
                refine g_imulZ (16 * (dgt (tf av.toNat))) 78 dX5_faultIn_77 (by omega) rfl ?_
                refine g_iload 80 dX5_faultIn_78 rfl rfl ?_
                refine g_iaddZ ((16 * (dgt (tf av.toNat))) + (dgt (tf (av + 1).toNat))) 81 dX5_faultIn_80 (by omega) rfl ?_
                refine g_iload_n 82 dX5_faultIn_81 rfl rfl ?_
                refine g_callV (z := mX0_add) (As := [.int (iZ ((16 * (dgt (tf av.toNat))) + (dgt (tf (av + 1).toNat)))), .int (iZ av)]) 85 dX5_faultIn_82 mwX0_add ⟨by decide, by decide⟩ rfl wlX5_34 wiX0_add wsX0_add F1 rfl rfl rfl (nle rfl) (nle rfl) rfl ?_
                refine Go.to [some (.ref 6), some (.int (iZ ((16 * (dgt (tf av.toNat))) + (dgt (tf (av + 1).toNat))))), some (.int (iZ av))] [] rfl rfl ?_
                refine g_aload_n 1 dX0_add_0 rfl rfl ?_
                refine g_get 4 dX0_add_1 faX0_9_X0 F1 rfl rfl ?_
                refine g_ifZ_lt 18 7 dX0_add_4 rfl rfl (by omega) (fun q => absurd q (by omega)) (fun _ => ?_)
                refine g_aload_n 8 dX0_add_7 rfl rfl ?_
                refine g_get 11 dX0_add_8 faX0_9_X0 F1 rfl rfl ?_
                refine g_aload_n 12 dX0_add_11 rfl rfl ?_
                refine g_get 15 dX0_add_12 faX0_21_X0 F1 rfl rfl ?_
                refine g_icZ_lt 20 18 dX0_add_15 rfl rfl (by omega) (by decide) (fun _ => ?_) (fun q => absurd q (by omega))
                refine g_aload_n 21 dX0_add_20 rfl rfl ?_
                refine g_get 24 dX0_add_21 faX0_24_X0 F1 rfl rfl ?_
                refine g_aload_n 25 dX0_add_24 rfl rfl ?_
                refine g_get 28 dX0_add_25 faX0_9_X0 F1 rfl rfl ?_
                refine g_iload_n 29 dX0_add_28 rfl rfl ?_
                refine g_iastFj (n.toNat) 30 dX0_add_29 F2 (by omega) (by omega) (by decide) rfl rfl (fun h15 s16 f17 => ?_)
                refine g_aload_n 31 dX0_add_30 rfl rfl ?_
                have f18 := (s16.get (by decide) F1)
                refine g_get 34 dX0_add_31 faX0_28_X0 f18 rfl rfl ?_
                refine g_aload_n 35 dX0_add_34 rfl rfl ?_
                refine g_get 38 dX0_add_35 faX0_9_X0 f18 rfl rfl ?_
                refine g_iload_n 39 dX0_add_38 rfl rfl ?_
                have f19 := (s16.get (by decide) F3)
                refine g_iastFj (n.toNat) 40 dX0_add_39 f19 (by omega) (by omega) (by decide) rfl rfl (fun h20 s21 f22 => ?_)
                refine g_aload_n 41 dX0_add_40 rfl rfl ?_
                refine g_dup 42 dX0_add_41 rfl rfl ?_
                have f23 := (s21.get (by decide) f18)
                refine g_get 45 dX0_add_42 faX0_9_X0 f23 rfl rfl ?_
                refine g_iconst (v := iZ (1)) 46 dX0_add_45 rfl rfl ?_
                refine g_iaddZ (n + 1) 47 dX0_add_46 (by omega) rfl ?_
                refine g_putC (fs1 := [.int (iZ 256), .ref 7, .ref 8, .int (iZ (n + 1))]) 50 dX0_add_47 fpX0_9_X0 f23 (nle rfl) (vI _) rfl rfl (fun h24 s25 f26 => ?_)
                refine g_iconst (v := iZ (1)) 51 dX0_add_50 rfl rfl ?_
                refine g_zret rfl z01_1 dX0_add_51 ?_
                refine rI ?_
                refine g_ifZ_ne 92 88 dX5_faultIn_85 rfl rfl (by decide) (fun _ => ?_) (fun q => absurd q (by decide))
                refine g_aload_n 93 dX5_faultIn_92 rfl rfl ?_
                refine g_iload_n 94 dX5_faultIn_93 rfl rfl ?_
                refine g_iconst (v := iZ (2)) 95 dX5_faultIn_94 rfl rfl ?_
                refine g_iaddZ (av + 2) 96 dX5_faultIn_95 (by omega) rfl ?_
                have f27 := (s25.get (by simp <;> omega) (s21.get (by simp <;> omega) (s16.get (by simp <;> omega) F4)))
                refine g_callV (z := mX6_pastGap) (As := [.int (iZ (av + 2))]) 99 dX5_faultIn_96 mwX6_pastGap ⟨by decide, by decide⟩ rfl wlX5_21 wiX6_pastGap wsX6_pastGap f27 rfl rfl rfl (nle rfl) (nle rfl) rfl ?_
                have f28 := (s25.get (by simp <;> omega) (s21.get (by simp <;> omega) (s16.get (by simp <;> omega) F5)))
                refine c_gap  f27 f28 otf (by omega) (by omega) (by omega) (fun z29 rz29 => ?_)
                refine rI ?_
                obtain ⟨gz29, bz29⟩ := rz29
                refine g_istore_n (L1 := [some (.ref 5), some (.ref t), some (.int (iZ z29)), some (.int (iZ j)), some (.int (iZ (dgt (tf av.toNat)))), some (.int (iZ (dgt (tf (av + 1).toNat))))]) 100 dX5_faultIn_99 (by decide) rfl rfl rfl ?_
                refine g_iincZ [some (.ref 5), some (.ref t), some (.int (iZ z29)), some (.int (iZ (j + 1))), some (.int (iZ (dgt (tf av.toNat)))), some (.int (iZ (dgt (tf (av + 1).toNat))))] 103 dX5_faultIn_100 rfl (by omega) (by decide) rfl rfl rfl ?_
                refine g_goto 16 dX5_faultIn_103 rfl ?_
                refine Go.fgt 4 ?_
                refine Go.fgt 5 ?_
                have f30 := (s25.get (by decide) (s21.get (by decide) (s16.get (by decide) F0)))
                have f31 := (s25.get (by decide) (s21.get (by decide) f17))
                have f32 := (s25.get (by decide) f22)
                exact ih _ (by omega) _ (n + 1) (va_up f n.toNat ((16 * (dgt (tf av.toNat))) + (dgt (tf (av + 1).toNat)))) (va_up g n.toNat av) (z29) (j + 1) rfl (by omega) (oki_up of _ (by omega)) (oki_up og _ (by omega)) f30 f26 f31 f32 f27 f28 (by omega) (by omega) (by have q9 := prI_c (prI_k (show (201 - j).toNat = (200 - j).toNat + 1 by omega) hP) (by omega) (by omega) (by show dgt (tf av.toNat) ≠ -9; omega) (by show dgt (tf (av + 1).toNat) ≠ -9; omega); rw [gz29]; exact prI_k (by omega) q9) (fun hQ xQ0 xQ1 xQ2 rQ yQ0 yQ1 yQ2 yQ3 pQ0 sQ uQ0 uQ1 uQ2 => k hQ xQ0 xQ1 xQ2 rQ yQ0 yQ1 yQ2 yQ3 pQ0 (((((Sm.refl [6, 7, 8] _).tr s16 (fun _ q => q) (by simp)).tr s21 (fun _ q => q) (by simp)).tr s25 (fun _ q => q) (by simp)).tr sQ (fun _ q => q) (fun _ q => q)) uQ0 uQ1 uQ2)
        · refine g_iload_n 49 dX5_faultIn_48 rfl rfl ?_
          refine g_iret rfl dX5_faultIn_49 ?_
          exact k _ (n) (f) (g) (av) (by omega) of og (by omega) (prI_a (prI_k (show (201 - j).toNat = (200 - j).toNat + 1 by omega) hP) (by omega) (by show dgt (tf av.toNat) = -9; omega)) (Sm.refl [6, 7, 8] _) F1 F2 F3
set_option maxRecDepth 100000 in
theorem c_pf {l : Launch} {h : MH} {Q : Option Value → MH → Prop} {n tn : Int} {t : Nat} {f g tf : Nat → Int} (F0 : h[5]? = some (.inr (4, [.ref 6]))) (F1 : h[6]? = some (.inr (0, [.int (iZ 256), .ref 7, .ref 8, .int (iZ n)]))) (F2 : h[7]? = some (.inl (0, 256, .inl (zA f)))) (F3 : h[8]? = some (.inl (0, 256, .inl (zA g)))) (F4 : h[t]? = some (.inr (5, [.ref (t + 1), .int (iZ tn)]))) (F5 : h[t + 1]? = some (.inl (0, 200, .inl (zA tf)))) (of : oki (0) (255) f) (og : oki (0) (300) g) (otf : oki (0) (255) tf) (rn : (0 ≤ n ∧ n ≤ 256)) (rtn : (0 ≤ tn ∧ tn ≤ 200)) (hT : 15 < t) (k : ∀ (h1 : MH) (n_1 : Int) (f_1 : Nat → Int) (g_1 : Nat → Int) (r : Int), (0 ≤ n_1 ∧ n_1 ≤ 256) → oki (0) (255) f_1 → oki (0) (300) g_1 → (r = -9 ∨ (0 ≤ r ∧ r ≤ 200)) → (prR (prsE tn (fun j => tf j.toNat)) r n_1 f_1 g_1) → Sm [6, 7, 8] h h1 → h1[6]? = some (.inr (0, [.int (iZ 256), .ref 7, .ref 8, .int (iZ n_1)])) → h1[7]? = some (.inl (0, 256, .inl (zA f_1))) → h1[8]? = some (.inl (0, 256, .inl (zA g_1))) → Q (some (.int (iZ r))) h1) : Go l mX5_faultIn 0 [some (.ref 5), some (.ref t), none, none, none, none] [] h Q := by
  refine g_aload_n 1 dX5_faultIn_0 rfl rfl ?_
  refine g_get 4 dX5_faultIn_1 faX5_9_X5 F0 rfl rfl ?_
  refine g_iconst (v := iZ (0)) 5 dX5_faultIn_4 rfl rfl ?_
  refine g_putC (fs1 := [.int (iZ 256), .ref 7, .ref 8, .int (iZ 0)]) 8 dX5_faultIn_5 fpX5_15_X0 F1 (nle rfl) (vI _) rfl rfl (fun h1 s2 f3 => ?_)
  refine g_aload_n 9 dX5_faultIn_8 rfl rfl ?_
  refine g_iconst (v := iZ (0)) 10 dX5_faultIn_9 rfl rfl ?_
  have f4 := (s2.get (by simp <;> omega) F4)
  refine g_callV (z := mX6_pastGap) (As := [.int (iZ 0)]) 13 dX5_faultIn_10 mwX6_pastGap ⟨by decide, by decide⟩ rfl wlX5_21 wiX6_pastGap wsX6_pastGap f4 rfl rfl rfl (nle rfl) (nle rfl) rfl ?_
  have f5 := (s2.get (by simp <;> omega) F5)
  refine c_gap  f4 f5 otf (by omega) (by omega) (by omega) (fun z6 rz6 => ?_)
  refine rI ?_
  obtain ⟨gz6, bz6⟩ := rz6
  refine g_istore_n (L1 := [some (.ref 5), some (.ref t), some (.int (iZ z6)), none, none, none]) 14 dX5_faultIn_13 (by decide) rfl rfl rfl ?_
  refine g_iconst (v := iZ (0)) 15 dX5_faultIn_14 rfl rfl ?_
  refine g_istore_n (L1 := [some (.ref 5), some (.ref t), some (.int (iZ z6)), some (.int (iZ 0)), none, none]) 16 dX5_faultIn_15 (by decide) rfl rfl rfl ?_
  have f7 := (s2.get (by decide) F0)
  have f8 := (s2.get (by decide) F2)
  have f9 := (s2.get (by decide) F3)
  exact c_pf_l otf rtn hT _ _ (0) (f) (g) (z6) (0) rfl (by omega) of og f7 f3 f8 f9 f4 f5 (by omega) (by omega) (by rw [gz6]; exact prI_0) (fun hQ xQ0 xQ1 xQ2 rQ yQ0 yQ1 yQ2 yQ3 pQ0 sQ uQ0 uQ1 uQ2 => k hQ xQ0 xQ1 xQ2 rQ yQ0 yQ1 yQ2 yQ3 pQ0 (((Sm.refl [6, 7, 8] _).tr s2 (fun _ q => q) (by simp)).tr sQ (fun _ q => q) (fun _ q => q)) uQ0 uQ1 uQ2)

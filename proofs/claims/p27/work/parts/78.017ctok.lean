set_option maxRecDepth 100000 in
theorem c_tokL {l : Launch} {Q : Option Value → MH → Prop} {t : Nat} {tn i u lo hi E : Int} {tf : Nat → Int} (otf : oki 0 255 tf) (rtn : 0 ≤ tn ∧ tn ≤ 200) (ri : 0 ≤ i ∧ i ≤ 200) (hu : (97 ≤ u ∧ u ≤ 122 ∧ lo = 97 ∧ hi = 122) ∨ (48 ≤ u ∧ u ≤ 57 ∧ lo = 48 ∧ hi = 57) ∨ (¬ (97 ≤ u ∧ u ≤ 122) ∧ ¬ (48 ≤ u ∧ u ≤ 57) ∧ lo = 1 ∧ hi = 0)) (ru : rg u) {h : MH} (F0 : h[t]? = some (.inr (5, [.ref (t + 1), .int (iZ tn)]))) (F1 : h[t + 1]? = some (.inl (0, 200, .inl (zA tf)))) (k : Q (some (.int (iZ (E - i)))) h) : ∀ (m0 : Nat) (j : Int), (tn - j).toNat = m0 → i ≤ j ∧ j ≤ tn → sqE tn (fun j => tf j.toNat) lo hi j = E → Go l mX4_tokenSigns 23 [some (.ref t), some (.int (iZ i)), some (.int (iZ u)), some (.int (iZ j))] [] h Q := by
  intro m0
  induction m0 using Nat.strongRecOn with
  | ind m0 ih =>
    intro j hmz hj hS
    refine g_iload_n 24 dX4_tokenSigns_23 rfl rfl ?_
    refine g_aload_n 25 dX4_tokenSigns_24 rfl rfl ?_
    refine g_get 28 dX4_tokenSigns_25 faX4_34_X6 F0 rfl rfl ?_
    refine g_icZ_ge 49 31 dX4_tokenSigns_28 rfl rfl (by omega) (by omega) (fun c1 => ?_) (fun c1 => ?_)
    · refine g_iload_n 50 dX4_tokenSigns_49 rfl rfl ?_
      refine g_iload_n 51 dX4_tokenSigns_50 rfl rfl ?_
      refine g_isubZ (j - i) 52 dX4_tokenSigns_51 (by omega) rfl ?_
      refine g_iret rfl dX4_tokenSigns_52 ?_
      have e9 : E = j := hS.symm.trans (sq_st (fun z => by omega))
      subst e9
      exact k
    · refine g_iload_n 32 dX4_tokenSigns_31 rfl rfl ?_
      refine g_aload_n 33 dX4_tokenSigns_32 rfl rfl ?_
      refine g_iload_n 34 dX4_tokenSigns_33 rfl rfl ?_
      refine g_callV (z := mX6_at) (As := [.int (iZ j)]) 37 dX4_tokenSigns_34 mwX6_at ⟨by decide, by decide⟩ rfl wlX4_56 wiX6_at wsX6_at F0 rfl rfl rfl (nle rfl) (nle rfl) rfl ?_
      refine Go.to [some (.ref t), some (.int (iZ j))] [] rfl rfl ?_
      refine g_iload_n 1 dX6_at_0 rfl rfl ?_
      refine g_ifZ_lt 19 4 dX6_at_1 rfl rfl (by omega) (fun q => absurd q (by omega)) (fun _ => ?_)
      refine g_iload_n 5 dX6_at_4 rfl rfl ?_
      refine g_aload_n 6 dX6_at_5 rfl rfl ?_
      refine g_get 9 dX6_at_6 faX6_15_X6 F0 rfl rfl ?_
      refine g_icZ_ge 19 12 dX6_at_9 rfl rfl (by omega) (by omega) (fun q => absurd q (by omega)) (fun _ => ?_)
      refine g_iload_n 13 dX6_at_12 rfl rfl ?_
      refine g_sipush (v := iZ (200)) 16 dX6_at_13 (by decide +kernel) rfl ?_
      refine g_icZ_lt 23 19 dX6_at_16 rfl rfl (by omega) (by decide) (fun _ => ?_) (fun q => absurd q (by omega))
      refine g_aload_n 24 dX6_at_23 rfl rfl ?_
      refine g_get 27 dX6_at_24 faX6_9_X6 F0 rfl rfl ?_
      refine g_iload_n 28 dX6_at_27 rfl rfl ?_
      have b2 := otf ((j).toNat)
      refine g_ialdZ (v := iZ (tf j.toNat)) 29 dX6_at_28 F1 (by omega) (by omega) (by decide) rfl rfl ?_
      refine g_iret rfl dX6_at_29 ?_
      refine rI ?_
      refine g_callS (z := mX4_isMoreOf) (As := [.int (iZ u), .int (iZ (tf j.toNat))]) 40 dX4_tokenSigns_37 mwX4_isMoreOf ⟨by decide, by decide⟩ rfl wlX4_63 wtX4_isMoreOf rfl (nle rfl) (nle rfl) rfl ?_
      refine Go.to [some (.int (iZ u)), some (.int (iZ (tf j.toNat)))] [] rfl rfl ?_
      refine g_iload_n 1 dX4_isMoreOf_0 rfl rfl ?_
      refine g_callS (z := mX4_isDigit) (As := [.int (iZ u)]) 4 dX4_isMoreOf_1 mwX4_isDigit ⟨by decide, by decide⟩ rfl wlX4_67 wtX4_isDigit rfl (nle rfl) (nle rfl) rfl ?_
      refine Go.to [some (.int (iZ u))] [] rfl rfl ?_
      refine g_iload_n 1 dX4_isDigit_0 rfl rfl ?_
      refine g_bipush (v := iZ (48)) 3 dX4_isDigit_1 (by decide +kernel) rfl ?_
      refine g_icZ_lt 16 6 dX4_isDigit_3 rfl rfl ru (by decide) (fun c3 => ?_) (fun c3 => ?_)
      · refine g_iconst (v := iZ (0)) 17 dX4_isDigit_16 rfl rfl ?_
        refine g_zret rfl z01_0 dX4_isDigit_17 ?_
        refine rI ?_
        refine g_ifZ_eq 14 7 dX4_isMoreOf_4 rfl rfl (by decide) (fun _ => ?_) (fun q => absurd q (by decide))
        refine g_iload_n 15 dX4_isMoreOf_14 rfl rfl ?_
        refine g_callS (z := mX4_isSmall) (As := [.int (iZ u)]) 18 dX4_isMoreOf_15 mwX4_isSmall ⟨by decide, by decide⟩ rfl wlX4_70 wtX4_isSmall rfl (nle rfl) (nle rfl) rfl ?_
        refine Go.to [some (.int (iZ u))] [] rfl rfl ?_
        refine g_iload_n 1 dX4_isSmall_0 rfl rfl ?_
        refine g_bipush (v := iZ (97)) 3 dX4_isSmall_1 (by decide +kernel) rfl ?_
        refine g_icZ_lt 16 6 dX4_isSmall_3 rfl rfl ru (by decide) (fun _ => ?_) (fun q => absurd q (by omega))
        refine g_iconst (v := iZ (0)) 17 dX4_isSmall_16 rfl rfl ?_
        refine g_zret rfl z01_0 dX4_isSmall_17 ?_
        refine rI ?_
        refine g_ifZ_eq 32 21 dX4_isMoreOf_18 rfl rfl (by decide) (fun _ => ?_) (fun q => absurd q (by decide))
        refine g_iconst (v := iZ (0)) 33 dX4_isMoreOf_32 rfl rfl ?_
        refine g_zret rfl z01_0 dX4_isMoreOf_33 ?_
        refine rI ?_
        refine g_ifZ_eq 49 43 dX4_tokenSigns_40 rfl rfl (by decide) (fun _ => ?_) (fun q => absurd q (by decide))
        refine g_iload_n 50 dX4_tokenSigns_49 rfl rfl ?_
        refine g_iload_n 51 dX4_tokenSigns_50 rfl rfl ?_
        refine g_isubZ (j - i) 52 dX4_tokenSigns_51 (by omega) rfl ?_
        refine g_iret rfl dX4_tokenSigns_52 ?_
        have e9 : E = j := hS.symm.trans (sq_st (fun z => by have z1 : lo ≤ tf j.toNat := z.2.1; have z2 : tf j.toNat ≤ hi := z.2.2; omega))
        subst e9
        exact k
      · refine g_iload_n 7 dX4_isDigit_6 rfl rfl ?_
        refine g_bipush (v := iZ (57)) 9 dX4_isDigit_7 (by decide +kernel) rfl ?_
        refine g_icZ_gt 16 12 dX4_isDigit_9 rfl rfl ru (by decide) (fun c4 => ?_) (fun c4 => ?_)
        · refine g_iconst (v := iZ (0)) 17 dX4_isDigit_16 rfl rfl ?_
          refine g_zret rfl z01_0 dX4_isDigit_17 ?_
          refine rI ?_
          refine g_ifZ_eq 14 7 dX4_isMoreOf_4 rfl rfl (by decide) (fun _ => ?_) (fun q => absurd q (by decide))
          refine g_iload_n 15 dX4_isMoreOf_14 rfl rfl ?_
          refine g_callS (z := mX4_isSmall) (As := [.int (iZ u)]) 18 dX4_isMoreOf_15 mwX4_isSmall ⟨by decide, by decide⟩ rfl wlX4_70 wtX4_isSmall rfl (nle rfl) (nle rfl) rfl ?_
          refine Go.to [some (.int (iZ u))] [] rfl rfl ?_
          refine g_iload_n 1 dX4_isSmall_0 rfl rfl ?_
          refine g_bipush (v := iZ (97)) 3 dX4_isSmall_1 (by decide +kernel) rfl ?_
          refine g_icZ_lt 16 6 dX4_isSmall_3 rfl rfl ru (by decide) (fun c5 => ?_) (fun c5 => ?_)
          · refine g_iconst (v := iZ (0)) 17 dX4_isSmall_16 rfl rfl ?_
            refine g_zret rfl z01_0 dX4_isSmall_17 ?_
            refine rI ?_
            refine g_ifZ_eq 32 21 dX4_isMoreOf_18 rfl rfl (by decide) (fun _ => ?_) (fun q => absurd q (by decide))
            refine g_iconst (v := iZ (0)) 33 dX4_isMoreOf_32 rfl rfl ?_
            refine g_zret rfl z01_0 dX4_isMoreOf_33 ?_
            refine rI ?_
            refine g_ifZ_eq 49 43 dX4_tokenSigns_40 rfl rfl (by decide) (fun _ => ?_) (fun q => absurd q (by decide))
            refine g_iload_n 50 dX4_tokenSigns_49 rfl rfl ?_
            refine g_iload_n 51 dX4_tokenSigns_50 rfl rfl ?_
            refine g_isubZ (j - i) 52 dX4_tokenSigns_51 (by omega) rfl ?_
            refine g_iret rfl dX4_tokenSigns_52 ?_
            have e9 : E = j := hS.symm.trans (sq_st (fun z => by have z1 : lo ≤ tf j.toNat := z.2.1; have z2 : tf j.toNat ≤ hi := z.2.2; omega))
            subst e9
            exact k
          · refine g_iload_n 7 dX4_isSmall_6 rfl rfl ?_
            refine g_bipush (v := iZ (122)) 9 dX4_isSmall_7 (by decide +kernel) rfl ?_
            refine g_icZ_gt 16 12 dX4_isSmall_9 rfl rfl ru (by decide) (fun c6 => ?_) (fun c6 => ?_)
            · refine g_iconst (v := iZ (0)) 17 dX4_isSmall_16 rfl rfl ?_
              refine g_zret rfl z01_0 dX4_isSmall_17 ?_
              refine rI ?_
              refine g_ifZ_eq 32 21 dX4_isMoreOf_18 rfl rfl (by decide) (fun _ => ?_) (fun q => absurd q (by decide))
              refine g_iconst (v := iZ (0)) 33 dX4_isMoreOf_32 rfl rfl ?_
              refine g_zret rfl z01_0 dX4_isMoreOf_33 ?_
              refine rI ?_
              refine g_ifZ_eq 49 43 dX4_tokenSigns_40 rfl rfl (by decide) (fun _ => ?_) (fun q => absurd q (by decide))
              refine g_iload_n 50 dX4_tokenSigns_49 rfl rfl ?_
              refine g_iload_n 51 dX4_tokenSigns_50 rfl rfl ?_
              refine g_isubZ (j - i) 52 dX4_tokenSigns_51 (by omega) rfl ?_
              refine g_iret rfl dX4_tokenSigns_52 ?_
              have e9 : E = j := hS.symm.trans (sq_st (fun z => by have z1 : lo ≤ tf j.toNat := z.2.1; have z2 : tf j.toNat ≤ hi := z.2.2; omega))
              subst e9
              exact k
            · refine g_iconst (v := iZ (1)) 13 dX4_isSmall_12 rfl rfl ?_
              refine g_goto 17 dX4_isSmall_13 rfl ?_
              refine g_zret rfl z01_1 dX4_isSmall_17 ?_
              refine rI ?_
              refine g_ifZ_eq 32 21 dX4_isMoreOf_18 rfl rfl (by decide) (fun q => absurd q (by decide)) (fun _ => ?_)
              refine g_iload_n 22 dX4_isMoreOf_21 rfl rfl ?_
              refine g_callS (z := mX4_isSmall) (As := [.int (iZ (tf j.toNat))]) 25 dX4_isMoreOf_22 mwX4_isSmall ⟨by decide, by decide⟩ rfl wlX4_70 wtX4_isSmall rfl (nle rfl) (nle rfl) rfl ?_
              refine Go.to [some (.int (iZ (tf j.toNat)))] [] rfl rfl ?_
              refine g_iload_n 1 dX4_isSmall_0 rfl rfl ?_
              refine g_bipush (v := iZ (97)) 3 dX4_isSmall_1 (by decide +kernel) rfl ?_
              refine g_icZ_lt 16 6 dX4_isSmall_3 rfl rfl (by omega) (by decide) (fun c7 => ?_) (fun c7 => ?_)
              · refine g_iconst (v := iZ (0)) 17 dX4_isSmall_16 rfl rfl ?_
                refine g_zret rfl z01_0 dX4_isSmall_17 ?_
                refine rI ?_
                refine g_ifZ_eq 32 28 dX4_isMoreOf_25 rfl rfl (by decide) (fun _ => ?_) (fun q => absurd q (by decide))
                refine g_iconst (v := iZ (0)) 33 dX4_isMoreOf_32 rfl rfl ?_
                refine g_zret rfl z01_0 dX4_isMoreOf_33 ?_
                refine rI ?_
                refine g_ifZ_eq 49 43 dX4_tokenSigns_40 rfl rfl (by decide) (fun _ => ?_) (fun q => absurd q (by decide))
                refine g_iload_n 50 dX4_tokenSigns_49 rfl rfl ?_
                refine g_iload_n 51 dX4_tokenSigns_50 rfl rfl ?_
                refine g_isubZ (j - i) 52 dX4_tokenSigns_51 (by omega) rfl ?_
                refine g_iret rfl dX4_tokenSigns_52 ?_
                have e9 : E = j := hS.symm.trans (sq_st (fun z => by have z1 : lo ≤ tf j.toNat := z.2.1; have z2 : tf j.toNat ≤ hi := z.2.2; omega))
                subst e9
                exact k
              · refine g_iload_n 7 dX4_isSmall_6 rfl rfl ?_
                refine g_bipush (v := iZ (122)) 9 dX4_isSmall_7 (by decide +kernel) rfl ?_
                refine g_icZ_gt 16 12 dX4_isSmall_9 rfl rfl (by omega) (by decide) (fun c8 => ?_) (fun c8 => ?_)
                · refine g_iconst (v := iZ (0)) 17 dX4_isSmall_16 rfl rfl ?_
                  refine g_zret rfl z01_0 dX4_isSmall_17 ?_
                  refine rI ?_
                  refine g_ifZ_eq 32 28 dX4_isMoreOf_25 rfl rfl (by decide) (fun _ => ?_) (fun q => absurd q (by decide))
                  refine g_iconst (v := iZ (0)) 33 dX4_isMoreOf_32 rfl rfl ?_
                  refine g_zret rfl z01_0 dX4_isMoreOf_33 ?_
                  refine rI ?_
                  refine g_ifZ_eq 49 43 dX4_tokenSigns_40 rfl rfl (by decide) (fun _ => ?_) (fun q => absurd q (by decide))
                  refine g_iload_n 50 dX4_tokenSigns_49 rfl rfl ?_
                  refine g_iload_n 51 dX4_tokenSigns_50 rfl rfl ?_
                  refine g_isubZ (j - i) 52 dX4_tokenSigns_51 (by omega) rfl ?_
                  refine g_iret rfl dX4_tokenSigns_52 ?_
                  have e9 : E = j := hS.symm.trans (sq_st (fun z => by have z1 : lo ≤ tf j.toNat := z.2.1; have z2 : tf j.toNat ≤ hi := z.2.2; omega))
                  subst e9
                  exact k
                · refine g_iconst (v := iZ (1)) 13 dX4_isSmall_12 rfl rfl ?_
                  refine g_goto 17 dX4_isSmall_13 rfl ?_
                  refine g_zret rfl z01_1 dX4_isSmall_17 ?_
                  refine rI ?_
                  refine g_ifZ_eq 32 28 dX4_isMoreOf_25 rfl rfl (by decide) (fun q => absurd q (by decide)) (fun _ => ?_)
                  refine g_iconst (v := iZ (1)) 29 dX4_isMoreOf_28 rfl rfl ?_
                  refine g_goto 33 dX4_isMoreOf_29 rfl ?_
                  refine g_zret rfl z01_1 dX4_isMoreOf_33 ?_
                  refine rI ?_
                  refine g_ifZ_eq 49 43 dX4_tokenSigns_40 rfl rfl (by decide) (fun q => absurd q (by decide)) (fun _ => ?_)
                  refine g_iincZ [some (.ref t), some (.int (iZ i)), some (.int (iZ u)), some (.int (iZ (j + 1)))] 46 dX4_tokenSigns_43 rfl (by omega) (by decide) rfl rfl rfl ?_
                  refine g_goto 23 dX4_tokenSigns_46 rfl ?_
                  exact ih _ (by omega) (j + 1) rfl (by omega) ((sq_on (by omega) (by show lo ≤ tf j.toNat; omega) (by show tf j.toNat ≤ hi; omega)).symm.trans hS)
        · refine g_iconst (v := iZ (1)) 13 dX4_isDigit_12 rfl rfl ?_
          refine g_goto 17 dX4_isDigit_13 rfl ?_
          refine g_zret rfl z01_1 dX4_isDigit_17 ?_
          refine rI ?_
          refine g_ifZ_eq 14 7 dX4_isMoreOf_4 rfl rfl (by decide) (fun q => absurd q (by decide)) (fun _ => ?_)
          refine g_iload_n 8 dX4_isMoreOf_7 rfl rfl ?_
          refine g_callS (z := mX4_isDigit) (As := [.int (iZ (tf j.toNat))]) 11 dX4_isMoreOf_8 mwX4_isDigit ⟨by decide, by decide⟩ rfl wlX4_67 wtX4_isDigit rfl (nle rfl) (nle rfl) rfl ?_
          refine Go.to [some (.int (iZ (tf j.toNat)))] [] rfl rfl ?_
          refine g_iload_n 1 dX4_isDigit_0 rfl rfl ?_
          refine g_bipush (v := iZ (48)) 3 dX4_isDigit_1 (by decide +kernel) rfl ?_
          refine g_icZ_lt 16 6 dX4_isDigit_3 rfl rfl (by omega) (by decide) (fun c9 => ?_) (fun c9 => ?_)
          · refine g_iconst (v := iZ (0)) 17 dX4_isDigit_16 rfl rfl ?_
            refine g_zret rfl z01_0 dX4_isDigit_17 ?_
            refine rI ?_
            refine g_ifZ_ne 28 14 dX4_isMoreOf_11 rfl rfl (by decide) (fun q => absurd q (by decide)) (fun _ => ?_)
            refine g_iload_n 15 dX4_isMoreOf_14 rfl rfl ?_
            refine g_callS (z := mX4_isSmall) (As := [.int (iZ u)]) 18 dX4_isMoreOf_15 mwX4_isSmall ⟨by decide, by decide⟩ rfl wlX4_70 wtX4_isSmall rfl (nle rfl) (nle rfl) rfl ?_
            refine Go.to [some (.int (iZ u))] [] rfl rfl ?_
            refine g_iload_n 1 dX4_isSmall_0 rfl rfl ?_
            refine g_bipush (v := iZ (97)) 3 dX4_isSmall_1 (by decide +kernel) rfl ?_
            refine g_icZ_lt 16 6 dX4_isSmall_3 rfl rfl ru (by decide) (fun _ => ?_) (fun q => absurd q (by omega))
            refine g_iconst (v := iZ (0)) 17 dX4_isSmall_16 rfl rfl ?_
            refine g_zret rfl z01_0 dX4_isSmall_17 ?_
            refine rI ?_
            refine g_ifZ_eq 32 21 dX4_isMoreOf_18 rfl rfl (by decide) (fun _ => ?_) (fun q => absurd q (by decide))
            refine g_iconst (v := iZ (0)) 33 dX4_isMoreOf_32 rfl rfl ?_
            refine g_zret rfl z01_0 dX4_isMoreOf_33 ?_
            refine rI ?_
            refine g_ifZ_eq 49 43 dX4_tokenSigns_40 rfl rfl (by decide) (fun _ => ?_) (fun q => absurd q (by decide))
            refine g_iload_n 50 dX4_tokenSigns_49 rfl rfl ?_
            refine g_iload_n 51 dX4_tokenSigns_50 rfl rfl ?_
            refine g_isubZ (j - i) 52 dX4_tokenSigns_51 (by omega) rfl ?_
            refine g_iret rfl dX4_tokenSigns_52 ?_
            have e9 : E = j := hS.symm.trans (sq_st (fun z => by have z1 : lo ≤ tf j.toNat := z.2.1; have z2 : tf j.toNat ≤ hi := z.2.2; omega))
            subst e9
            exact k
          · refine g_iload_n 7 dX4_isDigit_6 rfl rfl ?_
            refine g_bipush (v := iZ (57)) 9 dX4_isDigit_7 (by decide +kernel) rfl ?_
            refine g_icZ_gt 16 12 dX4_isDigit_9 rfl rfl (by omega) (by decide) (fun c10 => ?_) (fun c10 => ?_)
            · refine g_iconst (v := iZ (0)) 17 dX4_isDigit_16 rfl rfl ?_
              refine g_zret rfl z01_0 dX4_isDigit_17 ?_
              refine rI ?_
              refine g_ifZ_ne 28 14 dX4_isMoreOf_11 rfl rfl (by decide) (fun q => absurd q (by decide)) (fun _ => ?_)
              refine g_iload_n 15 dX4_isMoreOf_14 rfl rfl ?_
              refine g_callS (z := mX4_isSmall) (As := [.int (iZ u)]) 18 dX4_isMoreOf_15 mwX4_isSmall ⟨by decide, by decide⟩ rfl wlX4_70 wtX4_isSmall rfl (nle rfl) (nle rfl) rfl ?_
              refine Go.to [some (.int (iZ u))] [] rfl rfl ?_
              refine g_iload_n 1 dX4_isSmall_0 rfl rfl ?_
              refine g_bipush (v := iZ (97)) 3 dX4_isSmall_1 (by decide +kernel) rfl ?_
              refine g_icZ_lt 16 6 dX4_isSmall_3 rfl rfl ru (by decide) (fun _ => ?_) (fun q => absurd q (by omega))
              refine g_iconst (v := iZ (0)) 17 dX4_isSmall_16 rfl rfl ?_
              refine g_zret rfl z01_0 dX4_isSmall_17 ?_
              refine rI ?_
              refine g_ifZ_eq 32 21 dX4_isMoreOf_18 rfl rfl (by decide) (fun _ => ?_) (fun q => absurd q (by decide))
              refine g_iconst (v := iZ (0)) 33 dX4_isMoreOf_32 rfl rfl ?_
              refine g_zret rfl z01_0 dX4_isMoreOf_33 ?_
              refine rI ?_
              refine g_ifZ_eq 49 43 dX4_tokenSigns_40 rfl rfl (by decide) (fun _ => ?_) (fun q => absurd q (by decide))
              refine g_iload_n 50 dX4_tokenSigns_49 rfl rfl ?_
              refine g_iload_n 51 dX4_tokenSigns_50 rfl rfl ?_
              refine g_isubZ (j - i) 52 dX4_tokenSigns_51 (by omega) rfl ?_
              refine g_iret rfl dX4_tokenSigns_52 ?_
              have e9 : E = j := hS.symm.trans (sq_st (fun z => by have z1 : lo ≤ tf j.toNat := z.2.1; have z2 : tf j.toNat ≤ hi := z.2.2; omega))
              subst e9
              exact k
            · refine g_iconst (v := iZ (1)) 13 dX4_isDigit_12 rfl rfl ?_
              refine g_goto 17 dX4_isDigit_13 rfl ?_
              refine g_zret rfl z01_1 dX4_isDigit_17 ?_
              refine rI ?_
              refine g_ifZ_ne 28 14 dX4_isMoreOf_11 rfl rfl (by decide) (fun _ => ?_) (fun q => absurd q (by decide))
              refine g_iconst (v := iZ (1)) 29 dX4_isMoreOf_28 rfl rfl ?_
              refine g_goto 33 dX4_isMoreOf_29 rfl ?_
              refine g_zret rfl z01_1 dX4_isMoreOf_33 ?_
              refine rI ?_
              refine g_ifZ_eq 49 43 dX4_tokenSigns_40 rfl rfl (by decide) (fun q => absurd q (by decide)) (fun _ => ?_)
              refine g_iincZ [some (.ref t), some (.int (iZ i)), some (.int (iZ u)), some (.int (iZ (j + 1)))] 46 dX4_tokenSigns_43 rfl (by omega) (by decide) rfl rfl rfl ?_
              refine g_goto 23 dX4_tokenSigns_46 rfl ?_
              exact ih _ (by omega) (j + 1) rfl (by omega) ((sq_on (by omega) (by show lo ≤ tf j.toNat; omega) (by show tf j.toNat ≤ hi; omega)).symm.trans hS)
set_option maxRecDepth 100000 in
theorem c_tok {l : Launch} {h : MH} {Q : Option Value → MH → Prop} {t : Nat} {tn i : Int} {tf : Nat → Int} (F0 : h[t]? = some (.inr (5, [.ref (t + 1), .int (iZ tn)]))) (F1 : h[t + 1]? = some (.inl (0, 200, .inl (zA tf)))) (otf : oki (0) (255) tf) (rtn : (0 ≤ tn ∧ tn ≤ 200)) (ri : (0 ≤ i ∧ i ≤ 200)) (hin : i < tn) (k : ∀ (r : Int), (r = tkS tn (fun j => tf j.toNat) i) → Q (some (.int (iZ r))) h) : Go l mX4_tokenSigns 0 [some (.ref t), some (.int (iZ i)), none, none] [] h Q := by
  refine g_aload_n 1 dX4_tokenSigns_0 rfl rfl ?_
  refine g_iload_n 2 dX4_tokenSigns_1 rfl rfl ?_
  refine g_callV (z := mX6_at) (As := [.int (iZ i)]) 5 dX4_tokenSigns_2 mwX6_at ⟨by decide, by decide⟩ rfl wlX4_56 wiX6_at wsX6_at F0 rfl rfl rfl (nle rfl) (nle rfl) rfl ?_
  refine Go.to [some (.ref t), some (.int (iZ i))] [] rfl rfl ?_
  refine g_iload_n 1 dX6_at_0 rfl rfl ?_
  refine g_ifZ_lt 19 4 dX6_at_1 rfl rfl (by omega) (fun q => absurd q (by omega)) (fun _ => ?_)
  refine g_iload_n 5 dX6_at_4 rfl rfl ?_
  refine g_aload_n 6 dX6_at_5 rfl rfl ?_
  refine g_get 9 dX6_at_6 faX6_15_X6 F0 rfl rfl ?_
  refine g_icZ_ge 19 12 dX6_at_9 rfl rfl (by omega) (by omega) (fun q => absurd q (by omega)) (fun _ => ?_)
  refine g_iload_n 13 dX6_at_12 rfl rfl ?_
  refine g_sipush (v := iZ (200)) 16 dX6_at_13 (by decide +kernel) rfl ?_
  refine g_icZ_lt 23 19 dX6_at_16 rfl rfl (by omega) (by decide) (fun _ => ?_) (fun q => absurd q (by omega))
  refine g_aload_n 24 dX6_at_23 rfl rfl ?_
  refine g_get 27 dX6_at_24 faX6_9_X6 F0 rfl rfl ?_
  refine g_iload_n 28 dX6_at_27 rfl rfl ?_
  have b1 := otf ((i).toNat)
  refine g_ialdZ (v := iZ (tf i.toNat)) 29 dX6_at_28 F1 (by omega) (by omega) (by decide) rfl rfl ?_
  refine g_iret rfl dX6_at_29 ?_
  refine rI ?_
  refine g_istore_n (L1 := [some (.ref t), some (.int (iZ i)), some (.int (iZ (tf i.toNat))), none]) 6 dX4_tokenSigns_5 (by decide) rfl rfl rfl ?_
  refine g_iload_n 7 dX4_tokenSigns_6 rfl rfl ?_
  refine g_bipush (v := iZ (58)) 9 dX4_tokenSigns_7 (by decide +kernel) rfl ?_
  refine g_icZ_eq 19 12 dX4_tokenSigns_9 rfl rfl (by omega) (by decide) (fun c2 => ?_) (fun c2 => ?_)
  · refine g_iconst (v := iZ (1)) 20 dX4_tokenSigns_19 rfl rfl ?_
    refine g_iret rfl dX4_tokenSigns_20 ?_
    exact k 1 (by unfold tkS; rw [if_neg (show ¬ (97 ≤ tf i.toNat ∧ tf i.toNat ≤ 122) by omega), if_neg (show ¬ (48 ≤ tf i.toNat ∧ tf i.toNat ≤ 57) by omega), if_pos (show (65 ≤ tf i.toNat ∧ tf i.toNat ≤ 90) ∨ tf i.toNat = 58 by omega)])
  · refine g_iload_n 13 dX4_tokenSigns_12 rfl rfl ?_
    refine g_callS (z := mX4_isLetter) (As := [.int (iZ (tf i.toNat))]) 16 dX4_tokenSigns_13 mwX4_isLetter ⟨by decide, by decide⟩ rfl wlX4_59 wtX4_isLetter rfl (nle rfl) (nle rfl) rfl ?_
    refine Go.to [some (.int (iZ (tf i.toNat)))] [] rfl rfl ?_
    refine g_iload_n 1 dX4_isLetter_0 rfl rfl ?_
    refine g_bipush (v := iZ (65)) 3 dX4_isLetter_1 (by decide +kernel) rfl ?_
    refine g_icZ_lt 16 6 dX4_isLetter_3 rfl rfl (by omega) (by decide) (fun c3 => ?_) (fun c3 => ?_)
    · refine g_iconst (v := iZ (0)) 17 dX4_isLetter_16 rfl rfl ?_
      refine g_zret rfl z01_0 dX4_isLetter_17 ?_
      refine rI ?_
      refine g_ifZ_eq 21 19 dX4_tokenSigns_16 rfl rfl (by decide) (fun _ => ?_) (fun q => absurd q (by decide))
      refine g_iload_n 22 dX4_tokenSigns_21 rfl rfl ?_
      refine g_istore_n (L1 := [some (.ref t), some (.int (iZ i)), some (.int (iZ (tf i.toNat))), some (.int (iZ i))]) 23 dX4_tokenSigns_22 (by decide) rfl rfl rfl ?_
      by_cases cS : 97 ≤ tf i.toNat ∧ tf i.toNat ≤ 122
      · refine c_tokL (lo := 97) (hi := 122) (E := sqE tn (fun j => tf j.toNat) 97 122 i) otf (by omega) (by omega) (Or.inl ⟨by omega, by omega, rfl, rfl⟩) (by omega) F0 F1 ?_ _ i rfl (by omega) rfl
        exact k _ (by unfold tkS; rw [if_pos (show 97 ≤ tf i.toNat ∧ tf i.toNat ≤ 122 by omega)])
      · by_cases cD : 48 ≤ tf i.toNat ∧ tf i.toNat ≤ 57
        · refine c_tokL (lo := 48) (hi := 57) (E := sqE tn (fun j => tf j.toNat) 48 57 i) otf (by omega) (by omega) (Or.inr (Or.inl ⟨by omega, by omega, rfl, rfl⟩)) (by omega) F0 F1 ?_ _ i rfl (by omega) rfl
          exact k _ (by unfold tkS; rw [if_neg (show ¬ (97 ≤ tf i.toNat ∧ tf i.toNat ≤ 122) by omega), if_pos (show 48 ≤ tf i.toNat ∧ tf i.toNat ≤ 57 by omega)])
        · refine c_tokL (lo := 1) (hi := 0) (E := sqE tn (fun j => tf j.toNat) 1 0 i) otf (by omega) (by omega) (Or.inr (Or.inr ⟨cS, cD, rfl, rfl⟩)) (by omega) F0 F1 ?_ _ i rfl (by omega) rfl
          exact k _ (by unfold tkS; rw [if_neg (show ¬ (97 ≤ tf i.toNat ∧ tf i.toNat ≤ 122) by omega), if_neg (show ¬ (48 ≤ tf i.toNat ∧ tf i.toNat ≤ 57) by omega), if_neg (show ¬ ((65 ≤ tf i.toNat ∧ tf i.toNat ≤ 90) ∨ tf i.toNat = 58) by omega), sq_st (fun z => by have z1 : (1 : Int) ≤ tf i.toNat := z.2.1; have z2 : tf i.toNat ≤ 0 := z.2.2; omega)]; omega)
    · refine g_iload_n 7 dX4_isLetter_6 rfl rfl ?_
      refine g_bipush (v := iZ (90)) 9 dX4_isLetter_7 (by decide +kernel) rfl ?_
      refine g_icZ_gt 16 12 dX4_isLetter_9 rfl rfl (by omega) (by decide) (fun c4 => ?_) (fun c4 => ?_)
      · refine g_iconst (v := iZ (0)) 17 dX4_isLetter_16 rfl rfl ?_
        refine g_zret rfl z01_0 dX4_isLetter_17 ?_
        refine rI ?_
        refine g_ifZ_eq 21 19 dX4_tokenSigns_16 rfl rfl (by decide) (fun _ => ?_) (fun q => absurd q (by decide))
        refine g_iload_n 22 dX4_tokenSigns_21 rfl rfl ?_
        refine g_istore_n (L1 := [some (.ref t), some (.int (iZ i)), some (.int (iZ (tf i.toNat))), some (.int (iZ i))]) 23 dX4_tokenSigns_22 (by decide) rfl rfl rfl ?_
        by_cases cS : 97 ≤ tf i.toNat ∧ tf i.toNat ≤ 122
        · refine c_tokL (lo := 97) (hi := 122) (E := sqE tn (fun j => tf j.toNat) 97 122 i) otf (by omega) (by omega) (Or.inl ⟨by omega, by omega, rfl, rfl⟩) (by omega) F0 F1 ?_ _ i rfl (by omega) rfl
          exact k _ (by unfold tkS; rw [if_pos (show 97 ≤ tf i.toNat ∧ tf i.toNat ≤ 122 by omega)])
        · by_cases cD : 48 ≤ tf i.toNat ∧ tf i.toNat ≤ 57
          · refine c_tokL (lo := 48) (hi := 57) (E := sqE tn (fun j => tf j.toNat) 48 57 i) otf (by omega) (by omega) (Or.inr (Or.inl ⟨by omega, by omega, rfl, rfl⟩)) (by omega) F0 F1 ?_ _ i rfl (by omega) rfl
            exact k _ (by unfold tkS; rw [if_neg (show ¬ (97 ≤ tf i.toNat ∧ tf i.toNat ≤ 122) by omega), if_pos (show 48 ≤ tf i.toNat ∧ tf i.toNat ≤ 57 by omega)])
          · refine c_tokL (lo := 1) (hi := 0) (E := sqE tn (fun j => tf j.toNat) 1 0 i) otf (by omega) (by omega) (Or.inr (Or.inr ⟨cS, cD, rfl, rfl⟩)) (by omega) F0 F1 ?_ _ i rfl (by omega) rfl
            exact k _ (by unfold tkS; rw [if_neg (show ¬ (97 ≤ tf i.toNat ∧ tf i.toNat ≤ 122) by omega), if_neg (show ¬ (48 ≤ tf i.toNat ∧ tf i.toNat ≤ 57) by omega), if_neg (show ¬ ((65 ≤ tf i.toNat ∧ tf i.toNat ≤ 90) ∨ tf i.toNat = 58) by omega), sq_st (fun z => by have z1 : (1 : Int) ≤ tf i.toNat := z.2.1; have z2 : tf i.toNat ≤ 0 := z.2.2; omega)]; omega)
      · refine g_iconst (v := iZ (1)) 13 dX4_isLetter_12 rfl rfl ?_
        refine g_goto 17 dX4_isLetter_13 rfl ?_
        refine g_zret rfl z01_1 dX4_isLetter_17 ?_
        refine rI ?_
        refine g_ifZ_eq 21 19 dX4_tokenSigns_16 rfl rfl (by decide) (fun q => absurd q (by decide)) (fun _ => ?_)
        refine g_iconst (v := iZ (1)) 20 dX4_tokenSigns_19 rfl rfl ?_
        refine g_iret rfl dX4_tokenSigns_20 ?_
        exact k 1 (by unfold tkS; rw [if_neg (show ¬ (97 ≤ tf i.toNat ∧ tf i.toNat ≤ 122) by omega), if_neg (show ¬ (48 ≤ tf i.toNat ∧ tf i.toNat ≤ 57) by omega), if_pos (show (65 ≤ tf i.toNat ∧ tf i.toNat ≤ 90) ∨ tf i.toNat = 58 by omega)])
set_option maxRecDepth 100000 in
theorem c_val {l : Launch} {h : MH} {Q : Option Value → MH → Prop} {t : Nat} {tn i k0 : Int} {tf : Nat → Int} (F0 : h[t]? = some (.inr (5, [.ref (t + 1), .int (iZ tn)]))) (F1 : h[t + 1]? = some (.inl (0, 200, .inl (zA tf)))) (otf : oki (0) (255) tf) (rtn : (0 ≤ tn ∧ tn ≤ 200)) (ri : (0 ≤ i ∧ i ≤ 200)) (rk0 : (1 ≤ k0 ∧ k0 ≤ 200)) (hik : i + k0 ≤ tn) (hdg : ∀ j : Int, i ≤ j → j < i + k0 → 48 ≤ tf j.toNat ∧ tf j.toNat ≤ 57) (k : ∀ (r : Int), (r = nval (fun j => tf j.toNat) i k0 ∧ (r = -9 ∨ (0 ≤ r ∧ r ≤ 255))) → Q (some (.int (iZ r))) h) : Go l mX4_valueOf 0 [some (.ref t), some (.int (iZ i)), some (.int (iZ k0)), none, none] [] h Q := by
  have e9 : k0 = 1 ∨ k0 = 2 ∨ k0 = 3 ∨ 3 < k0 := by omega
  rcases e9 with rfl | rfl | rfl | e9
  · have d0 : 48 ≤ tf (i + 0).toNat ∧ tf (i + 0).toNat ≤ 57 := hdg (i + 0) (by omega) (by omega)
    have d00 : 48 ≤ tf i.toNat ∧ tf i.toNat ≤ 57 := hdg i (by omega) (by omega)
    have d01 : tf (i + 0).toNat = tf i.toNat := by rw [Int.add_zero]
    refine g_iload_n 1 dX4_valueOf_0 rfl rfl ?_
    refine g_iconst (v := iZ (3)) 2 dX4_valueOf_1 rfl rfl ?_
    refine g_icZ_gt 20 5 dX4_valueOf_2 rfl rfl (by decide) (by decide) (fun q => absurd q (by decide)) (fun _ => ?_)
    refine g_iload_n 6 dX4_valueOf_5 rfl rfl ?_
    refine g_iconst (v := iZ (1)) 7 dX4_valueOf_6 rfl rfl ?_
    refine g_icZ_le 23 10 dX4_valueOf_7 rfl rfl (by decide) (by decide) (fun _ => ?_) (fun q => absurd q (by decide))
    refine g_iconst (v := iZ (0)) 24 dX4_valueOf_23 rfl rfl ?_
    refine g_istore_n (L1 := [some (.ref t), some (.int (iZ i)), some (.int (iZ 1)), some (.int (iZ 0)), none]) 25 dX4_valueOf_24 (by decide) rfl rfl rfl ?_
    refine g_iconst (v := iZ (0)) 26 dX4_valueOf_25 rfl rfl ?_
    refine g_istore (L1 := [some (.ref t), some (.int (iZ i)), some (.int (iZ 1)), some (.int (iZ 0)), some (.int (iZ 0))]) 28 dX4_valueOf_26 (by decide) rfl rfl rfl ?_
    refine g_iload 30 dX4_valueOf_28 rfl rfl ?_
    refine g_iload_n 31 dX4_valueOf_30 rfl rfl ?_
    refine g_icZ_ge 57 34 dX4_valueOf_31 rfl rfl (by decide) (by decide) (fun q => absurd q (by decide)) (fun _ => ?_)
    refine g_bipush (v := iZ (10)) 36 dX4_valueOf_34 (by decide +kernel) rfl ?_
    refine g_iload_n 37 dX4_valueOf_36 rfl rfl ?_
    refine g_imulZ (0) 38 dX4_valueOf_37 (by decide) rfl ?_
    refine g_aload_n 39 dX4_valueOf_38 rfl rfl ?_
    refine g_iload_n 40 dX4_valueOf_39 rfl rfl ?_
    refine g_iload 42 dX4_valueOf_40 rfl rfl ?_
    refine g_iaddZ (i + 0) 43 dX4_valueOf_42 (by omega) rfl ?_
    refine g_callV (z := mX6_at) (As := [.int (iZ (i + 0))]) 46 dX4_valueOf_43 mwX6_at ⟨by decide, by decide⟩ rfl wlX4_56 wiX6_at wsX6_at F0 rfl rfl rfl (nle rfl) (nle rfl) rfl ?_
    refine Go.to [some (.ref t), some (.int (iZ (i + 0)))] [] rfl rfl ?_
    refine g_iload_n 1 dX6_at_0 rfl rfl ?_
    refine g_ifZ_lt 19 4 dX6_at_1 rfl rfl (by omega) (fun q => absurd q (by omega)) (fun _ => ?_)
    refine g_iload_n 5 dX6_at_4 rfl rfl ?_
    refine g_aload_n 6 dX6_at_5 rfl rfl ?_
    refine g_get 9 dX6_at_6 faX6_15_X6 F0 rfl rfl ?_
    refine g_icZ_ge 19 12 dX6_at_9 rfl rfl (by omega) (by omega) (fun q => absurd q (by omega)) (fun _ => ?_)
    refine g_iload_n 13 dX6_at_12 rfl rfl ?_
    refine g_sipush (v := iZ (200)) 16 dX6_at_13 (by decide +kernel) rfl ?_
    refine g_icZ_lt 23 19 dX6_at_16 rfl rfl (by omega) (by decide) (fun _ => ?_) (fun q => absurd q (by omega))
    refine g_aload_n 24 dX6_at_23 rfl rfl ?_
    refine g_get 27 dX6_at_24 faX6_9_X6 F0 rfl rfl ?_
    refine g_iload_n 28 dX6_at_27 rfl rfl ?_
    have b1 := otf ((i + 0).toNat)
    refine g_ialdZ (v := iZ (tf (i + 0).toNat)) 29 dX6_at_28 F1 (by omega) (by omega) (by decide) rfl rfl ?_
    refine g_iret rfl dX6_at_29 ?_
    refine rI ?_
    refine g_iaddZ (0 + (tf (i + 0).toNat)) 47 dX4_valueOf_46 (by omega) rfl ?_
    refine g_bipush (v := iZ (48)) 49 dX4_valueOf_47 (by decide +kernel) rfl ?_
    refine g_isubZ ((0 + (tf (i + 0).toNat)) - 48) 50 dX4_valueOf_49 (by omega) rfl ?_
    refine g_istore_n (L1 := [some (.ref t), some (.int (iZ i)), some (.int (iZ 1)), some (.int (iZ ((0 + (tf (i + 0).toNat)) - 48))), some (.int (iZ 0))]) 51 dX4_valueOf_50 (by decide) rfl rfl rfl ?_
    refine g_iincZ [some (.ref t), some (.int (iZ i)), some (.int (iZ 1)), some (.int (iZ ((0 + (tf (i + 0).toNat)) - 48))), some (.int (iZ 1))] 54 dX4_valueOf_51 rfl rfl (by decide) rfl rfl rfl ?_
    refine g_goto 28 dX4_valueOf_54 rfl ?_
    refine g_iload 30 dX4_valueOf_28 rfl rfl ?_
    refine g_iload_n 31 dX4_valueOf_30 rfl rfl ?_
    refine g_icZ_ge 57 34 dX4_valueOf_31 rfl rfl (by decide) (by decide) (fun _ => ?_) (fun q => absurd q (by decide))
    refine g_iload_n 58 dX4_valueOf_57 rfl rfl ?_
    refine g_sipush (v := iZ (255)) 61 dX4_valueOf_58 (by decide +kernel) rfl ?_
    refine g_icZ_le 69 64 dX4_valueOf_61 rfl rfl (by omega) (by decide) (fun c2 => ?_) (fun c2 => ?_)
    · refine g_iload_n 70 dX4_valueOf_69 rfl rfl ?_
      refine g_iret rfl dX4_valueOf_70 ?_
      have q9 : nval (fun j => tf j.toNat) i 1 = tf i.toNat - 48 := nval_1
      exact k ((0 + (tf (i + 0).toNat)) - 48) ⟨by omega, by omega⟩
    · refine g_bipush (v := iZ (-9)) 66 dX4_valueOf_64 (by decide +kernel) rfl ?_
      refine g_goto 70 dX4_valueOf_66 rfl ?_
      refine g_iret rfl dX4_valueOf_70 ?_
      have q9 : nval (fun j => tf j.toNat) i 1 = tf i.toNat - 48 := nval_1
      exact k (-9) ⟨by omega, by omega⟩
  · have d0 : 48 ≤ tf (i + 0).toNat ∧ tf (i + 0).toNat ≤ 57 := hdg (i + 0) (by omega) (by omega)
    have d1 : 48 ≤ tf (i + 1).toNat ∧ tf (i + 1).toNat ≤ 57 := hdg (i + 1) (by omega) (by omega)
    have d00 : 48 ≤ tf i.toNat ∧ tf i.toNat ≤ 57 := hdg i (by omega) (by omega)
    have d01 : tf (i + 0).toNat = tf i.toNat := by rw [Int.add_zero]
    refine g_iload_n 1 dX4_valueOf_0 rfl rfl ?_
    refine g_iconst (v := iZ (3)) 2 dX4_valueOf_1 rfl rfl ?_
    refine g_icZ_gt 20 5 dX4_valueOf_2 rfl rfl (by decide) (by decide) (fun q => absurd q (by decide)) (fun _ => ?_)
    refine g_iload_n 6 dX4_valueOf_5 rfl rfl ?_
    refine g_iconst (v := iZ (1)) 7 dX4_valueOf_6 rfl rfl ?_
    refine g_icZ_le 23 10 dX4_valueOf_7 rfl rfl (by decide) (by decide) (fun q => absurd q (by decide)) (fun _ => ?_)
    refine g_aload_n 11 dX4_valueOf_10 rfl rfl ?_
    refine g_iload_n 12 dX4_valueOf_11 rfl rfl ?_
    refine g_callV (z := mX6_at) (As := [.int (iZ i)]) 15 dX4_valueOf_12 mwX6_at ⟨by decide, by decide⟩ rfl wlX4_56 wiX6_at wsX6_at F0 rfl rfl rfl (nle rfl) (nle rfl) rfl ?_
    refine Go.to [some (.ref t), some (.int (iZ i))] [] rfl rfl ?_
    refine g_iload_n 1 dX6_at_0 rfl rfl ?_
    refine g_ifZ_lt 19 4 dX6_at_1 rfl rfl (by omega) (fun q => absurd q (by omega)) (fun _ => ?_)
    refine g_iload_n 5 dX6_at_4 rfl rfl ?_
    refine g_aload_n 6 dX6_at_5 rfl rfl ?_
    refine g_get 9 dX6_at_6 faX6_15_X6 F0 rfl rfl ?_
    refine g_icZ_ge 19 12 dX6_at_9 rfl rfl (by omega) (by omega) (fun q => absurd q (by omega)) (fun _ => ?_)
    refine g_iload_n 13 dX6_at_12 rfl rfl ?_
    refine g_sipush (v := iZ (200)) 16 dX6_at_13 (by decide +kernel) rfl ?_
    refine g_icZ_lt 23 19 dX6_at_16 rfl rfl (by omega) (by decide) (fun _ => ?_) (fun q => absurd q (by omega))
    refine g_aload_n 24 dX6_at_23 rfl rfl ?_
    refine g_get 27 dX6_at_24 faX6_9_X6 F0 rfl rfl ?_
    refine g_iload_n 28 dX6_at_27 rfl rfl ?_
    have b3 := otf ((i).toNat)
    refine g_ialdZ (v := iZ (tf i.toNat)) 29 dX6_at_28 F1 (by omega) (by omega) (by decide) rfl rfl ?_
    refine g_iret rfl dX6_at_29 ?_
    refine rI ?_
    refine g_bipush (v := iZ (48)) 17 dX4_valueOf_15 (by decide +kernel) rfl ?_
    refine g_icZ_ne 23 20 dX4_valueOf_17 rfl rfl (by omega) (by decide) (fun c4 => ?_) (fun c4 => ?_)
    · refine g_iconst (v := iZ (0)) 24 dX4_valueOf_23 rfl rfl ?_
      refine g_istore_n (L1 := [some (.ref t), some (.int (iZ i)), some (.int (iZ 2)), some (.int (iZ 0)), none]) 25 dX4_valueOf_24 (by decide) rfl rfl rfl ?_
      refine g_iconst (v := iZ (0)) 26 dX4_valueOf_25 rfl rfl ?_
      refine g_istore (L1 := [some (.ref t), some (.int (iZ i)), some (.int (iZ 2)), some (.int (iZ 0)), some (.int (iZ 0))]) 28 dX4_valueOf_26 (by decide) rfl rfl rfl ?_
      refine g_iload 30 dX4_valueOf_28 rfl rfl ?_
      refine g_iload_n 31 dX4_valueOf_30 rfl rfl ?_
      refine g_icZ_ge 57 34 dX4_valueOf_31 rfl rfl (by decide) (by decide) (fun q => absurd q (by decide)) (fun _ => ?_)
      refine g_bipush (v := iZ (10)) 36 dX4_valueOf_34 (by decide +kernel) rfl ?_
      refine g_iload_n 37 dX4_valueOf_36 rfl rfl ?_
      refine g_imulZ (0) 38 dX4_valueOf_37 (by decide) rfl ?_
      refine g_aload_n 39 dX4_valueOf_38 rfl rfl ?_
      refine g_iload_n 40 dX4_valueOf_39 rfl rfl ?_
      refine g_iload 42 dX4_valueOf_40 rfl rfl ?_
      refine g_iaddZ (i + 0) 43 dX4_valueOf_42 (by omega) rfl ?_
      refine g_callV (z := mX6_at) (As := [.int (iZ (i + 0))]) 46 dX4_valueOf_43 mwX6_at ⟨by decide, by decide⟩ rfl wlX4_56 wiX6_at wsX6_at F0 rfl rfl rfl (nle rfl) (nle rfl) rfl ?_
      refine Go.to [some (.ref t), some (.int (iZ (i + 0)))] [] rfl rfl ?_
      refine g_iload_n 1 dX6_at_0 rfl rfl ?_
      refine g_ifZ_lt 19 4 dX6_at_1 rfl rfl (by omega) (fun q => absurd q (by omega)) (fun _ => ?_)
      refine g_iload_n 5 dX6_at_4 rfl rfl ?_
      refine g_aload_n 6 dX6_at_5 rfl rfl ?_
      refine g_get 9 dX6_at_6 faX6_15_X6 F0 rfl rfl ?_
      refine g_icZ_ge 19 12 dX6_at_9 rfl rfl (by omega) (by omega) (fun q => absurd q (by omega)) (fun _ => ?_)
      refine g_iload_n 13 dX6_at_12 rfl rfl ?_
      refine g_sipush (v := iZ (200)) 16 dX6_at_13 (by decide +kernel) rfl ?_
      refine g_icZ_lt 23 19 dX6_at_16 rfl rfl (by omega) (by decide) (fun _ => ?_) (fun q => absurd q (by omega))
      refine g_aload_n 24 dX6_at_23 rfl rfl ?_
      refine g_get 27 dX6_at_24 faX6_9_X6 F0 rfl rfl ?_
      refine g_iload_n 28 dX6_at_27 rfl rfl ?_
      have b5 := otf ((i + 0).toNat)
      refine g_ialdZ (v := iZ (tf (i + 0).toNat)) 29 dX6_at_28 F1 (by omega) (by omega) (by decide) rfl rfl ?_
      refine g_iret rfl dX6_at_29 ?_
      refine rI ?_
      refine g_iaddZ (0 + (tf (i + 0).toNat)) 47 dX4_valueOf_46 (by omega) rfl ?_
      refine g_bipush (v := iZ (48)) 49 dX4_valueOf_47 (by decide +kernel) rfl ?_
      refine g_isubZ ((0 + (tf (i + 0).toNat)) - 48) 50 dX4_valueOf_49 (by omega) rfl ?_
      refine g_istore_n (L1 := [some (.ref t), some (.int (iZ i)), some (.int (iZ 2)), some (.int (iZ ((0 + (tf (i + 0).toNat)) - 48))), some (.int (iZ 0))]) 51 dX4_valueOf_50 (by decide) rfl rfl rfl ?_
      refine g_iincZ [some (.ref t), some (.int (iZ i)), some (.int (iZ 2)), some (.int (iZ ((0 + (tf (i + 0).toNat)) - 48))), some (.int (iZ 1))] 54 dX4_valueOf_51 rfl rfl (by decide) rfl rfl rfl ?_
      refine g_goto 28 dX4_valueOf_54 rfl ?_
      refine g_iload 30 dX4_valueOf_28 rfl rfl ?_
      refine g_iload_n 31 dX4_valueOf_30 rfl rfl ?_
      refine g_icZ_ge 57 34 dX4_valueOf_31 rfl rfl (by decide) (by decide) (fun q => absurd q (by decide)) (fun _ => ?_)
      refine g_bipush (v := iZ (10)) 36 dX4_valueOf_34 (by decide +kernel) rfl ?_
      refine g_iload_n 37 dX4_valueOf_36 rfl rfl ?_
      refine g_imulZ (10 * ((0 + (tf (i + 0).toNat)) - 48)) 38 dX4_valueOf_37 (by omega) rfl ?_
      refine g_aload_n 39 dX4_valueOf_38 rfl rfl ?_
      refine g_iload_n 40 dX4_valueOf_39 rfl rfl ?_
      refine g_iload 42 dX4_valueOf_40 rfl rfl ?_
      refine g_iaddZ (i + 1) 43 dX4_valueOf_42 (by omega) rfl ?_
      refine g_callV (z := mX6_at) (As := [.int (iZ (i + 1))]) 46 dX4_valueOf_43 mwX6_at ⟨by decide, by decide⟩ rfl wlX4_56 wiX6_at wsX6_at F0 rfl rfl rfl (nle rfl) (nle rfl) rfl ?_
      refine Go.to [some (.ref t), some (.int (iZ (i + 1)))] [] rfl rfl ?_
      refine g_iload_n 1 dX6_at_0 rfl rfl ?_
      refine g_ifZ_lt 19 4 dX6_at_1 rfl rfl (by omega) (fun q => absurd q (by omega)) (fun _ => ?_)
      refine g_iload_n 5 dX6_at_4 rfl rfl ?_
      refine g_aload_n 6 dX6_at_5 rfl rfl ?_
      refine g_get 9 dX6_at_6 faX6_15_X6 F0 rfl rfl ?_
      refine g_icZ_ge 19 12 dX6_at_9 rfl rfl (by omega) (by omega) (fun q => absurd q (by omega)) (fun _ => ?_)
      refine g_iload_n 13 dX6_at_12 rfl rfl ?_
      refine g_sipush (v := iZ (200)) 16 dX6_at_13 (by decide +kernel) rfl ?_
      refine g_icZ_lt 23 19 dX6_at_16 rfl rfl (by omega) (by decide) (fun _ => ?_) (fun q => absurd q (by omega))
      refine g_aload_n 24 dX6_at_23 rfl rfl ?_
      refine g_get 27 dX6_at_24 faX6_9_X6 F0 rfl rfl ?_
      refine g_iload_n 28 dX6_at_27 rfl rfl ?_
      have b6 := otf ((i + 1).toNat)
      refine g_ialdZ (v := iZ (tf (i + 1).toNat)) 29 dX6_at_28 F1 (by omega) (by omega) (by decide) rfl rfl ?_
      refine g_iret rfl dX6_at_29 ?_
      refine rI ?_
      refine g_iaddZ ((10 * ((0 + (tf (i + 0).toNat)) - 48)) + (tf (i + 1).toNat)) 47 dX4_valueOf_46 (by omega) rfl ?_
      refine g_bipush (v := iZ (48)) 49 dX4_valueOf_47 (by decide +kernel) rfl ?_
      refine g_isubZ (((10 * ((0 + (tf (i + 0).toNat)) - 48)) + (tf (i + 1).toNat)) - 48) 50 dX4_valueOf_49 (by omega) rfl ?_
      refine g_istore_n (L1 := [some (.ref t), some (.int (iZ i)), some (.int (iZ 2)), some (.int (iZ (((10 * ((0 + (tf (i + 0).toNat)) - 48)) + (tf (i + 1).toNat)) - 48))), some (.int (iZ 1))]) 51 dX4_valueOf_50 (by decide) rfl rfl rfl ?_
      refine g_iincZ [some (.ref t), some (.int (iZ i)), some (.int (iZ 2)), some (.int (iZ (((10 * ((0 + (tf (i + 0).toNat)) - 48)) + (tf (i + 1).toNat)) - 48))), some (.int (iZ 2))] 54 dX4_valueOf_51 rfl rfl (by decide) rfl rfl rfl ?_
      refine g_goto 28 dX4_valueOf_54 rfl ?_
      refine g_iload 30 dX4_valueOf_28 rfl rfl ?_
      refine g_iload_n 31 dX4_valueOf_30 rfl rfl ?_
      refine g_icZ_ge 57 34 dX4_valueOf_31 rfl rfl (by decide) (by decide) (fun _ => ?_) (fun q => absurd q (by decide))
      refine g_iload_n 58 dX4_valueOf_57 rfl rfl ?_
      refine g_sipush (v := iZ (255)) 61 dX4_valueOf_58 (by decide +kernel) rfl ?_
      refine g_icZ_le 69 64 dX4_valueOf_61 rfl rfl (by omega) (by decide) (fun c7 => ?_) (fun c7 => ?_)
      · refine g_iload_n 70 dX4_valueOf_69 rfl rfl ?_
        refine g_iret rfl dX4_valueOf_70 ?_
        have q9 : nval (fun j => tf j.toNat) i 2 = 10 * (tf i.toNat - 48) + (tf (i + 1).toNat - 48) := nval_2 (by show tf i.toNat ≠ 48; omega)
        exact k (((10 * ((0 + (tf (i + 0).toNat)) - 48)) + (tf (i + 1).toNat)) - 48) ⟨by omega, by omega⟩
      · refine g_bipush (v := iZ (-9)) 66 dX4_valueOf_64 (by decide +kernel) rfl ?_
        refine g_goto 70 dX4_valueOf_66 rfl ?_
        refine g_iret rfl dX4_valueOf_70 ?_
        have q9 : nval (fun j => tf j.toNat) i 2 = 10 * (tf i.toNat - 48) + (tf (i + 1).toNat - 48) := nval_2 (by show tf i.toNat ≠ 48; omega)
        exact k (-9) ⟨by omega, by omega⟩
    · refine g_bipush (v := iZ (-9)) 22 dX4_valueOf_20 (by decide +kernel) rfl ?_
      refine g_iret rfl dX4_valueOf_22 ?_
      exact k (-9) ⟨(nval_z (by decide) c4).symm, by omega⟩
  · have d0 : 48 ≤ tf (i + 0).toNat ∧ tf (i + 0).toNat ≤ 57 := hdg (i + 0) (by omega) (by omega)
    have d1 : 48 ≤ tf (i + 1).toNat ∧ tf (i + 1).toNat ≤ 57 := hdg (i + 1) (by omega) (by omega)
    have d2 : 48 ≤ tf (i + 2).toNat ∧ tf (i + 2).toNat ≤ 57 := hdg (i + 2) (by omega) (by omega)
    have d00 : 48 ≤ tf i.toNat ∧ tf i.toNat ≤ 57 := hdg i (by omega) (by omega)
    have d01 : tf (i + 0).toNat = tf i.toNat := by rw [Int.add_zero]
    refine g_iload_n 1 dX4_valueOf_0 rfl rfl ?_
    refine g_iconst (v := iZ (3)) 2 dX4_valueOf_1 rfl rfl ?_
    refine g_icZ_gt 20 5 dX4_valueOf_2 rfl rfl (by decide) (by decide) (fun q => absurd q (by decide)) (fun _ => ?_)
    refine g_iload_n 6 dX4_valueOf_5 rfl rfl ?_
    refine g_iconst (v := iZ (1)) 7 dX4_valueOf_6 rfl rfl ?_
    refine g_icZ_le 23 10 dX4_valueOf_7 rfl rfl (by decide) (by decide) (fun q => absurd q (by decide)) (fun _ => ?_)
    refine g_aload_n 11 dX4_valueOf_10 rfl rfl ?_
    refine g_iload_n 12 dX4_valueOf_11 rfl rfl ?_
    refine g_callV (z := mX6_at) (As := [.int (iZ i)]) 15 dX4_valueOf_12 mwX6_at ⟨by decide, by decide⟩ rfl wlX4_56 wiX6_at wsX6_at F0 rfl rfl rfl (nle rfl) (nle rfl) rfl ?_
    refine Go.to [some (.ref t), some (.int (iZ i))] [] rfl rfl ?_
    refine g_iload_n 1 dX6_at_0 rfl rfl ?_
    refine g_ifZ_lt 19 4 dX6_at_1 rfl rfl (by omega) (fun q => absurd q (by omega)) (fun _ => ?_)
    refine g_iload_n 5 dX6_at_4 rfl rfl ?_
    refine g_aload_n 6 dX6_at_5 rfl rfl ?_
    refine g_get 9 dX6_at_6 faX6_15_X6 F0 rfl rfl ?_
    refine g_icZ_ge 19 12 dX6_at_9 rfl rfl (by omega) (by omega) (fun q => absurd q (by omega)) (fun _ => ?_)
    refine g_iload_n 13 dX6_at_12 rfl rfl ?_
    refine g_sipush (v := iZ (200)) 16 dX6_at_13 (by decide +kernel) rfl ?_
    refine g_icZ_lt 23 19 dX6_at_16 rfl rfl (by omega) (by decide) (fun _ => ?_) (fun q => absurd q (by omega))
    refine g_aload_n 24 dX6_at_23 rfl rfl ?_
    refine g_get 27 dX6_at_24 faX6_9_X6 F0 rfl rfl ?_
    refine g_iload_n 28 dX6_at_27 rfl rfl ?_
    have b8 := otf ((i).toNat)
    refine g_ialdZ (v := iZ (tf i.toNat)) 29 dX6_at_28 F1 (by omega) (by omega) (by decide) rfl rfl ?_
    refine g_iret rfl dX6_at_29 ?_
    refine rI ?_
    refine g_bipush (v := iZ (48)) 17 dX4_valueOf_15 (by decide +kernel) rfl ?_
    refine g_icZ_ne 23 20 dX4_valueOf_17 rfl rfl (by omega) (by decide) (fun c9 => ?_) (fun c9 => ?_)
    · refine g_iconst (v := iZ (0)) 24 dX4_valueOf_23 rfl rfl ?_
      refine g_istore_n (L1 := [some (.ref t), some (.int (iZ i)), some (.int (iZ 3)), some (.int (iZ 0)), none]) 25 dX4_valueOf_24 (by decide) rfl rfl rfl ?_
      refine g_iconst (v := iZ (0)) 26 dX4_valueOf_25 rfl rfl ?_
      refine g_istore (L1 := [some (.ref t), some (.int (iZ i)), some (.int (iZ 3)), some (.int (iZ 0)), some (.int (iZ 0))]) 28 dX4_valueOf_26 (by decide) rfl rfl rfl ?_
      refine g_iload 30 dX4_valueOf_28 rfl rfl ?_
      refine g_iload_n 31 dX4_valueOf_30 rfl rfl ?_
      refine g_icZ_ge 57 34 dX4_valueOf_31 rfl rfl (by decide) (by decide) (fun q => absurd q (by decide)) (fun _ => ?_)
      refine g_bipush (v := iZ (10)) 36 dX4_valueOf_34 (by decide +kernel) rfl ?_
      refine g_iload_n 37 dX4_valueOf_36 rfl rfl ?_
      refine g_imulZ (0) 38 dX4_valueOf_37 (by decide) rfl ?_
      refine g_aload_n 39 dX4_valueOf_38 rfl rfl ?_
      refine g_iload_n 40 dX4_valueOf_39 rfl rfl ?_
      refine g_iload 42 dX4_valueOf_40 rfl rfl ?_
      refine g_iaddZ (i + 0) 43 dX4_valueOf_42 (by omega) rfl ?_
      refine g_callV (z := mX6_at) (As := [.int (iZ (i + 0))]) 46 dX4_valueOf_43 mwX6_at ⟨by decide, by decide⟩ rfl wlX4_56 wiX6_at wsX6_at F0 rfl rfl rfl (nle rfl) (nle rfl) rfl ?_
      refine Go.to [some (.ref t), some (.int (iZ (i + 0)))] [] rfl rfl ?_
      refine g_iload_n 1 dX6_at_0 rfl rfl ?_
      refine g_ifZ_lt 19 4 dX6_at_1 rfl rfl (by omega) (fun q => absurd q (by omega)) (fun _ => ?_)
      refine g_iload_n 5 dX6_at_4 rfl rfl ?_
      refine g_aload_n 6 dX6_at_5 rfl rfl ?_
      refine g_get 9 dX6_at_6 faX6_15_X6 F0 rfl rfl ?_
      refine g_icZ_ge 19 12 dX6_at_9 rfl rfl (by omega) (by omega) (fun q => absurd q (by omega)) (fun _ => ?_)
      refine g_iload_n 13 dX6_at_12 rfl rfl ?_
      refine g_sipush (v := iZ (200)) 16 dX6_at_13 (by decide +kernel) rfl ?_
      refine g_icZ_lt 23 19 dX6_at_16 rfl rfl (by omega) (by decide) (fun _ => ?_) (fun q => absurd q (by omega))
      refine g_aload_n 24 dX6_at_23 rfl rfl ?_
      refine g_get 27 dX6_at_24 faX6_9_X6 F0 rfl rfl ?_
      refine g_iload_n 28 dX6_at_27 rfl rfl ?_
      have b10 := otf ((i + 0).toNat)
      refine g_ialdZ (v := iZ (tf (i + 0).toNat)) 29 dX6_at_28 F1 (by omega) (by omega) (by decide) rfl rfl ?_
      refine g_iret rfl dX6_at_29 ?_
      refine rI ?_
      refine g_iaddZ (0 + (tf (i + 0).toNat)) 47 dX4_valueOf_46 (by omega) rfl ?_
      refine g_bipush (v := iZ (48)) 49 dX4_valueOf_47 (by decide +kernel) rfl ?_
      refine g_isubZ ((0 + (tf (i + 0).toNat)) - 48) 50 dX4_valueOf_49 (by omega) rfl ?_
      refine g_istore_n (L1 := [some (.ref t), some (.int (iZ i)), some (.int (iZ 3)), some (.int (iZ ((0 + (tf (i + 0).toNat)) - 48))), some (.int (iZ 0))]) 51 dX4_valueOf_50 (by decide) rfl rfl rfl ?_
      refine g_iincZ [some (.ref t), some (.int (iZ i)), some (.int (iZ 3)), some (.int (iZ ((0 + (tf (i + 0).toNat)) - 48))), some (.int (iZ 1))] 54 dX4_valueOf_51 rfl rfl (by decide) rfl rfl rfl ?_
      refine g_goto 28 dX4_valueOf_54 rfl ?_
      refine g_iload 30 dX4_valueOf_28 rfl rfl ?_
      refine g_iload_n 31 dX4_valueOf_30 rfl rfl ?_
      refine g_icZ_ge 57 34 dX4_valueOf_31 rfl rfl (by decide) (by decide) (fun q => absurd q (by decide)) (fun _ => ?_)
      refine g_bipush (v := iZ (10)) 36 dX4_valueOf_34 (by decide +kernel) rfl ?_
      refine g_iload_n 37 dX4_valueOf_36 rfl rfl ?_
      refine g_imulZ (10 * ((0 + (tf (i + 0).toNat)) - 48)) 38 dX4_valueOf_37 (by omega) rfl ?_
      refine g_aload_n 39 dX4_valueOf_38 rfl rfl ?_
      refine g_iload_n 40 dX4_valueOf_39 rfl rfl ?_
      refine g_iload 42 dX4_valueOf_40 rfl rfl ?_
      refine g_iaddZ (i + 1) 43 dX4_valueOf_42 (by omega) rfl ?_
      refine g_callV (z := mX6_at) (As := [.int (iZ (i + 1))]) 46 dX4_valueOf_43 mwX6_at ⟨by decide, by decide⟩ rfl wlX4_56 wiX6_at wsX6_at F0 rfl rfl rfl (nle rfl) (nle rfl) rfl ?_
      refine Go.to [some (.ref t), some (.int (iZ (i + 1)))] [] rfl rfl ?_
      refine g_iload_n 1 dX6_at_0 rfl rfl ?_
      refine g_ifZ_lt 19 4 dX6_at_1 rfl rfl (by omega) (fun q => absurd q (by omega)) (fun _ => ?_)
      refine g_iload_n 5 dX6_at_4 rfl rfl ?_
      refine g_aload_n 6 dX6_at_5 rfl rfl ?_
      refine g_get 9 dX6_at_6 faX6_15_X6 F0 rfl rfl ?_
      refine g_icZ_ge 19 12 dX6_at_9 rfl rfl (by omega) (by omega) (fun q => absurd q (by omega)) (fun _ => ?_)
      refine g_iload_n 13 dX6_at_12 rfl rfl ?_
      refine g_sipush (v := iZ (200)) 16 dX6_at_13 (by decide +kernel) rfl ?_
      refine g_icZ_lt 23 19 dX6_at_16 rfl rfl (by omega) (by decide) (fun _ => ?_) (fun q => absurd q (by omega))
      refine g_aload_n 24 dX6_at_23 rfl rfl ?_
      refine g_get 27 dX6_at_24 faX6_9_X6 F0 rfl rfl ?_
      refine g_iload_n 28 dX6_at_27 rfl rfl ?_
      have b11 := otf ((i + 1).toNat)
      refine g_ialdZ (v := iZ (tf (i + 1).toNat)) 29 dX6_at_28 F1 (by omega) (by omega) (by decide) rfl rfl ?_
      refine g_iret rfl dX6_at_29 ?_
      refine rI ?_
      refine g_iaddZ ((10 * ((0 + (tf (i + 0).toNat)) - 48)) + (tf (i + 1).toNat)) 47 dX4_valueOf_46 (by omega) rfl ?_
      refine g_bipush (v := iZ (48)) 49 dX4_valueOf_47 (by decide +kernel) rfl ?_
      refine g_isubZ (((10 * ((0 + (tf (i + 0).toNat)) - 48)) + (tf (i + 1).toNat)) - 48) 50 dX4_valueOf_49 (by omega) rfl ?_
      refine g_istore_n (L1 := [some (.ref t), some (.int (iZ i)), some (.int (iZ 3)), some (.int (iZ (((10 * ((0 + (tf (i + 0).toNat)) - 48)) + (tf (i + 1).toNat)) - 48))), some (.int (iZ 1))]) 51 dX4_valueOf_50 (by decide) rfl rfl rfl ?_
      refine g_iincZ [some (.ref t), some (.int (iZ i)), some (.int (iZ 3)), some (.int (iZ (((10 * ((0 + (tf (i + 0).toNat)) - 48)) + (tf (i + 1).toNat)) - 48))), some (.int (iZ 2))] 54 dX4_valueOf_51 rfl rfl (by decide) rfl rfl rfl ?_
      refine g_goto 28 dX4_valueOf_54 rfl ?_
      refine g_iload 30 dX4_valueOf_28 rfl rfl ?_
      refine g_iload_n 31 dX4_valueOf_30 rfl rfl ?_
      refine g_icZ_ge 57 34 dX4_valueOf_31 rfl rfl (by decide) (by decide) (fun q => absurd q (by decide)) (fun _ => ?_)
      refine g_bipush (v := iZ (10)) 36 dX4_valueOf_34 (by decide +kernel) rfl ?_
      refine g_iload_n 37 dX4_valueOf_36 rfl rfl ?_
      refine g_imulZ (10 * (((10 * ((0 + (tf (i + 0).toNat)) - 48)) + (tf (i + 1).toNat)) - 48)) 38 dX4_valueOf_37 (by omega) rfl ?_
      refine g_aload_n 39 dX4_valueOf_38 rfl rfl ?_
      refine g_iload_n 40 dX4_valueOf_39 rfl rfl ?_
      refine g_iload 42 dX4_valueOf_40 rfl rfl ?_
      refine g_iaddZ (i + 2) 43 dX4_valueOf_42 (by omega) rfl ?_
      refine g_callV (z := mX6_at) (As := [.int (iZ (i + 2))]) 46 dX4_valueOf_43 mwX6_at ⟨by decide, by decide⟩ rfl wlX4_56 wiX6_at wsX6_at F0 rfl rfl rfl (nle rfl) (nle rfl) rfl ?_
      refine Go.to [some (.ref t), some (.int (iZ (i + 2)))] [] rfl rfl ?_
      refine g_iload_n 1 dX6_at_0 rfl rfl ?_
      refine g_ifZ_lt 19 4 dX6_at_1 rfl rfl (by omega) (fun q => absurd q (by omega)) (fun _ => ?_)
      refine g_iload_n 5 dX6_at_4 rfl rfl ?_
      refine g_aload_n 6 dX6_at_5 rfl rfl ?_
      refine g_get 9 dX6_at_6 faX6_15_X6 F0 rfl rfl ?_
      refine g_icZ_ge 19 12 dX6_at_9 rfl rfl (by omega) (by omega) (fun q => absurd q (by omega)) (fun _ => ?_)
      refine g_iload_n 13 dX6_at_12 rfl rfl ?_
      refine g_sipush (v := iZ (200)) 16 dX6_at_13 (by decide +kernel) rfl ?_
      refine g_icZ_lt 23 19 dX6_at_16 rfl rfl (by omega) (by decide) (fun _ => ?_) (fun q => absurd q (by omega))
      refine g_aload_n 24 dX6_at_23 rfl rfl ?_
      refine g_get 27 dX6_at_24 faX6_9_X6 F0 rfl rfl ?_
      refine g_iload_n 28 dX6_at_27 rfl rfl ?_
      have b12 := otf ((i + 2).toNat)
      refine g_ialdZ (v := iZ (tf (i + 2).toNat)) 29 dX6_at_28 F1 (by omega) (by omega) (by decide) rfl rfl ?_
      refine g_iret rfl dX6_at_29 ?_
      refine rI ?_
      refine g_iaddZ ((10 * (((10 * ((0 + (tf (i + 0).toNat)) - 48)) + (tf (i + 1).toNat)) - 48)) + (tf (i + 2).toNat)) 47 dX4_valueOf_46 (by omega) rfl ?_
      refine g_bipush (v := iZ (48)) 49 dX4_valueOf_47 (by decide +kernel) rfl ?_
      refine g_isubZ (((10 * (((10 * ((0 + (tf (i + 0).toNat)) - 48)) + (tf (i + 1).toNat)) - 48)) + (tf (i + 2).toNat)) - 48) 50 dX4_valueOf_49 (by omega) rfl ?_
      refine g_istore_n (L1 := [some (.ref t), some (.int (iZ i)), some (.int (iZ 3)), some (.int (iZ (((10 * (((10 * ((0 + (tf (i + 0).toNat)) - 48)) + (tf (i + 1).toNat)) - 48)) + (tf (i + 2).toNat)) - 48))), some (.int (iZ 2))]) 51 dX4_valueOf_50 (by decide) rfl rfl rfl ?_
      refine g_iincZ [some (.ref t), some (.int (iZ i)), some (.int (iZ 3)), some (.int (iZ (((10 * (((10 * ((0 + (tf (i + 0).toNat)) - 48)) + (tf (i + 1).toNat)) - 48)) + (tf (i + 2).toNat)) - 48))), some (.int (iZ 3))] 54 dX4_valueOf_51 rfl rfl (by decide) rfl rfl rfl ?_
      refine g_goto 28 dX4_valueOf_54 rfl ?_
      refine g_iload 30 dX4_valueOf_28 rfl rfl ?_
      refine g_iload_n 31 dX4_valueOf_30 rfl rfl ?_
      refine g_icZ_ge 57 34 dX4_valueOf_31 rfl rfl (by decide) (by decide) (fun _ => ?_) (fun q => absurd q (by decide))
      refine g_iload_n 58 dX4_valueOf_57 rfl rfl ?_
      refine g_sipush (v := iZ (255)) 61 dX4_valueOf_58 (by decide +kernel) rfl ?_
      refine g_icZ_le 69 64 dX4_valueOf_61 rfl rfl (by omega) (by decide) (fun c13 => ?_) (fun c13 => ?_)
      · refine g_iload_n 70 dX4_valueOf_69 rfl rfl ?_
        refine g_iret rfl dX4_valueOf_70 ?_
        have q9 : nval (fun j => tf j.toNat) i 3 = 10 * (10 * (tf i.toNat - 48) + (tf (i + 1).toNat - 48)) + (tf (i + 2).toNat - 48) := nval_3a (by show tf i.toNat ≠ 48; omega) (by show 10 * (10 * (tf i.toNat - 48) + (tf (i + 1).toNat - 48)) + (tf (i + 2).toNat - 48) ≤ 255; omega)
        exact k (((10 * (((10 * ((0 + (tf (i + 0).toNat)) - 48)) + (tf (i + 1).toNat)) - 48)) + (tf (i + 2).toNat)) - 48) ⟨by omega, by omega⟩
      · refine g_bipush (v := iZ (-9)) 66 dX4_valueOf_64 (by decide +kernel) rfl ?_
        refine g_goto 70 dX4_valueOf_66 rfl ?_
        refine g_iret rfl dX4_valueOf_70 ?_
        have q9 : nval (fun j => tf j.toNat) i 3 = -9 := nval_3b (by show tf i.toNat ≠ 48; omega) (by show 255 < 10 * (10 * (tf i.toNat - 48) + (tf (i + 1).toNat - 48)) + (tf (i + 2).toNat - 48); omega)
        exact k (-9) ⟨by omega, by omega⟩
    · refine g_bipush (v := iZ (-9)) 22 dX4_valueOf_20 (by decide +kernel) rfl ?_
      refine g_iret rfl dX4_valueOf_22 ?_
      exact k (-9) ⟨(nval_z (by decide) c9).symm, by omega⟩
  · have hx : 0 ≤ i := by omega
    refine g_iload_n 1 dX4_valueOf_0 rfl rfl ?_
    refine g_iconst (v := iZ (3)) 2 dX4_valueOf_1 rfl rfl ?_
    refine g_icZ_gt 20 5 dX4_valueOf_2 rfl rfl (by omega) (by decide) (fun _ => ?_) (fun q => absurd q (by omega))
    refine g_bipush (v := iZ (-9)) 22 dX4_valueOf_20 (by decide +kernel) rfl ?_
    refine g_iret rfl dX4_valueOf_22 ?_
    exact k (-9) ⟨(nval_4 (by omega)).symm, by omega⟩

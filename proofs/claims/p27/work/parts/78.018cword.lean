set_option maxRecDepth 100000 in
theorem c_wI {l : Launch} {Q : Option Value → MH → Prop} {t : Nat} {tn i k0 : Int} {tf : Nat → Int} (otf : oki 0 255 tf) (rtn : 0 ≤ tn ∧ tn ≤ 200) (ri : 0 ≤ i ∧ i ≤ 200) (rk : 1 ≤ k0 ∧ k0 ≤ 5) (hik : i + k0 ≤ tn) {h : MH} (F0 : h[t]? = some (.inr (5, [.ref (t + 1), .int (iZ tn)]))) (F1 : h[t + 1]? = some (.inl (0, 200, .inl (zA tf)))) {w : Int} (hw : 0 ≤ w ∧ w < 17) (k : ∀ al j : Int, (al = 5 → wdm (fun j => tf j.toNat) i k0 w.toNat) → (al ≠ 5 → ¬ wdm (fun j => tf j.toNat) i k0 w.toNat) → 0 ≤ al ∧ al ≤ 5 → Go l mX4_wordOf 95 [some (.ref t), some (.int (iZ i)), some (.int (iZ k0)), some (.int (iZ w)), some (.int (iZ al)), some (.int (iZ j)), none, none] [] h Q) : ∀ (m0 : Nat) (al j : Int), (5 - j).toNat = m0 → 0 ≤ j ∧ j ≤ 5 → 0 ≤ al ∧ al ≤ j → wA (fun j => tf j.toNat) i k0 w al j → Go l mX4_wordOf 22 [some (.ref t), some (.int (iZ i)), some (.int (iZ k0)), some (.int (iZ w)), some (.int (iZ al)), some (.int (iZ j)), none, none] [] h Q := by
  intro m0
  induction m0 using Nat.strongRecOn with
  | ind m0 ih =>
    intro al j hmz hj hal hA
    refine g_iload 24 dX4_wordOf_22 rfl rfl ?_
    refine g_iconst (v := iZ (5)) 25 dX4_wordOf_24 rfl rfl ?_
    refine g_icZ_ge 95 28 dX4_wordOf_25 rfl rfl (by omega) (by decide) (fun c1 => ?_) (fun c1 => ?_)
    · exact k al j (fun e9 => wA_5 hA (by omega) e9) (fun e9 => wA_x hA (by omega) e9) (by omega)
    · refine g_iload 30 dX4_wordOf_28 rfl rfl ?_
      refine g_iload 32 dX4_wordOf_30 rfl rfl ?_
      refine g_icZ_ne 95 35 dX4_wordOf_32 rfl rfl (by omega) (by omega) (fun c2 => ?_) (fun c2 => ?_)
      · exact k al j (fun e9 => wA_5 hA (by omega) e9) (fun e9 => wA_x hA (by omega) e9) (by omega)
      · refine g_iconst (v := iZ (5)) 36 dX4_wordOf_35 rfl rfl ?_
        refine g_iload_n 37 dX4_wordOf_36 rfl rfl ?_
        refine g_imulZ (5 * w) 38 dX4_wordOf_37 (by omega) rfl ?_
        refine g_iload 40 dX4_wordOf_38 rfl rfl ?_
        refine g_iaddZ ((5 * w) + j) 41 dX4_wordOf_40 (by omega) rfl ?_
        refine g_istore (L1 := [some (.ref t), some (.int (iZ i)), some (.int (iZ k0)), some (.int (iZ w)), some (.int (iZ al)), some (.int (iZ j)), some (.int (iZ ((5 * w) + j))), none]) 43 dX4_wordOf_41 (by decide) rfl rfl rfl ?_
        refine g_iload 45 dX4_wordOf_43 rfl rfl ?_
        refine g_iload_n 46 dX4_wordOf_45 rfl rfl ?_
        refine g_icZ_ge 60 49 dX4_wordOf_46 rfl rfl (by omega) (by omega) (fun c3 => ?_) (fun c3 => ?_)
        · refine g_bipush (v := iZ (32)) 62 dX4_wordOf_60 (by decide +kernel) rfl ?_
          refine g_istore (L1 := [some (.ref t), some (.int (iZ i)), some (.int (iZ k0)), some (.int (iZ w)), some (.int (iZ al)), some (.int (iZ j)), some (.int (iZ ((5 * w) + j))), some (.int (iZ 32))]) 64 dX4_wordOf_62 (by decide) rfl rfl rfl ?_
          refine g_iload 66 dX4_wordOf_64 rfl rfl ?_
          refine g_slen 71 dX4_wordOf_66 dX4_wordOf_68 rfl ⟨by decide, by decide⟩ (nle rfl) rfl ?_
          refine g_icZ_ge 89 74 dX4_wordOf_71 rfl rfl (by omega) (by decide) (fun q => absurd q (by omega)) (fun _ => ?_)
          refine g_schr 81 dX4_wordOf_74 dX4_wordOf_76 dX4_wordOf_78 rfl (by omega) (by omega) rfl ⟨by decide, by decide⟩ (nle rfl) rfl ?_
          refine Go.zof ?_
          refine g_iload 83 dX4_wordOf_81 rfl rfl ?_
          refine g_icZ_ne 89 86 dX4_wordOf_83 rfl rfl (rg_toInt _) (by decide) (fun c4 => ?_) (fun c4 => ?_)
          · refine g_iincZ [some (.ref t), some (.int (iZ i)), some (.int (iZ k0)), some (.int (iZ w)), some (.int (iZ al)), some (.int (iZ (j + 1))), some (.int (iZ ((5 * w) + j))), some (.int (iZ 32))] 92 dX4_wordOf_89 rfl (by omega) (by decide) rfl rfl rfl ?_
            refine g_goto 22 dX4_wordOf_92 rfl ?_
            refine Go.fgt 6 ?_
            refine Go.fgt 7 ?_
            have e8 : ((5 * w) + j).toNat = 5 * w.toNat + j.toNat := by omega
            have e7 : pch (fun j => tf j.toNat) i k0 j.toNat = 32 := if_neg (by omega)
            exact ih _ (by omega) al (j + 1) rfl (by omega) (by omega) (wA_n (by omega) (by omega) (by omega) (by rw [e7, ← e8]; exact c4))
          · refine g_iincZ [some (.ref t), some (.int (iZ i)), some (.int (iZ k0)), some (.int (iZ w)), some (.int (iZ (al + 1))), some (.int (iZ j)), some (.int (iZ ((5 * w) + j))), some (.int (iZ 32))] 89 dX4_wordOf_86 rfl (by omega) (by decide) rfl rfl rfl ?_
            refine g_iincZ [some (.ref t), some (.int (iZ i)), some (.int (iZ k0)), some (.int (iZ w)), some (.int (iZ (al + 1))), some (.int (iZ (j + 1))), some (.int (iZ ((5 * w) + j))), some (.int (iZ 32))] 92 dX4_wordOf_89 rfl (by omega) (by decide) rfl rfl rfl ?_
            refine g_goto 22 dX4_wordOf_92 rfl ?_
            refine Go.fgt 6 ?_
            refine Go.fgt 7 ?_
            have e8 : ((5 * w) + j).toNat = 5 * w.toNat + j.toNat := by omega
            have e7 : pch (fun j => tf j.toNat) i k0 j.toNat = 32 := if_neg (by omega)
            exact ih _ (by omega) (al + 1) (j + 1) rfl (by omega) (by omega) (wA_y hA (by omega) (by omega) (by rw [e7, ← e8]; exact c4))
        · refine g_aload_n 50 dX4_wordOf_49 rfl rfl ?_
          refine g_iload_n 51 dX4_wordOf_50 rfl rfl ?_
          refine g_iload 53 dX4_wordOf_51 rfl rfl ?_
          refine g_iaddZ (i + j) 54 dX4_wordOf_53 (by omega) rfl ?_
          refine g_callV (z := mX6_at) (As := [.int (iZ (i + j))]) 57 dX4_wordOf_54 mwX6_at ⟨by decide, by decide⟩ rfl wlX4_56 wiX6_at wsX6_at F0 rfl rfl rfl (nle rfl) (nle rfl) rfl ?_
          refine Go.to [some (.ref t), some (.int (iZ (i + j)))] [] rfl rfl ?_
          refine g_iload_n 1 dX6_at_0 rfl rfl ?_
          refine g_ifZ_lt 19 4 dX6_at_1 rfl rfl (by omega) (fun q => absurd q (by omega)) (fun _ => ?_)
          refine g_iload_n 5 dX6_at_4 rfl rfl ?_
          refine g_aload_n 6 dX6_at_5 rfl rfl ?_
          refine g_get 9 dX6_at_6 faX6_15_X6 F0 rfl rfl ?_
          refine g_icZ_ge 19 12 dX6_at_9 rfl rfl (by omega) (by omega) (fun q => absurd q (by omega)) (fun _ => ?_)
          refine g_iload_n 13 dX6_at_12 rfl rfl ?_
          refine g_sipush (v := iZ (200)) 16 dX6_at_13 (by decide +kernel) rfl ?_
          refine g_icZ_lt 23 19 dX6_at_16 rfl rfl (by omega) (by decide) (fun _ => ?_) (fun q => absurd q (by omega))
          refine g_aload_n 24 dX6_at_23 rfl rfl ?_
          refine g_get 27 dX6_at_24 faX6_9_X6 F0 rfl rfl ?_
          refine g_iload_n 28 dX6_at_27 rfl rfl ?_
          have b5 := otf ((i + j).toNat)
          refine g_ialdZ (v := iZ (tf (i + j).toNat)) 29 dX6_at_28 F1 (by omega) (by omega) (by decide) rfl rfl ?_
          refine g_iret rfl dX6_at_29 ?_
          refine rI ?_
          refine g_goto 62 dX4_wordOf_57 rfl ?_
          refine g_istore (L1 := [some (.ref t), some (.int (iZ i)), some (.int (iZ k0)), some (.int (iZ w)), some (.int (iZ al)), some (.int (iZ j)), some (.int (iZ ((5 * w) + j))), some (.int (iZ (tf (i + j).toNat)))]) 64 dX4_wordOf_62 (by decide) rfl rfl rfl ?_
          refine g_iload 66 dX4_wordOf_64 rfl rfl ?_
          refine g_slen 71 dX4_wordOf_66 dX4_wordOf_68 rfl ⟨by decide, by decide⟩ (nle rfl) rfl ?_
          refine g_icZ_ge 89 74 dX4_wordOf_71 rfl rfl (by omega) (by decide) (fun q => absurd q (by omega)) (fun _ => ?_)
          refine g_schr 81 dX4_wordOf_74 dX4_wordOf_76 dX4_wordOf_78 rfl (by omega) (by omega) rfl ⟨by decide, by decide⟩ (nle rfl) rfl ?_
          refine Go.zof ?_
          refine g_iload 83 dX4_wordOf_81 rfl rfl ?_
          refine g_icZ_ne 89 86 dX4_wordOf_83 rfl rfl (rg_toInt _) (by omega) (fun c6 => ?_) (fun c6 => ?_)
          · refine g_iincZ [some (.ref t), some (.int (iZ i)), some (.int (iZ k0)), some (.int (iZ w)), some (.int (iZ al)), some (.int (iZ (j + 1))), some (.int (iZ ((5 * w) + j))), some (.int (iZ (tf (i + j).toNat)))] 92 dX4_wordOf_89 rfl (by omega) (by decide) rfl rfl rfl ?_
            refine g_goto 22 dX4_wordOf_92 rfl ?_
            refine Go.fgt 6 ?_
            refine Go.fgt 7 ?_
            have e8 : ((5 * w) + j).toNat = 5 * w.toNat + j.toNat := by omega
            have e7 : pch (fun j => tf j.toNat) i k0 j.toNat = tf (i + j).toNat := (if_pos (by omega)).trans (by show tf (i + (j.toNat : Int)).toNat = _; rw [Int.toNat_of_nonneg (by omega)])
            exact ih _ (by omega) al (j + 1) rfl (by omega) (by omega) (wA_n (by omega) (by omega) (by omega) (by rw [e7, ← e8]; exact c6))
          · refine g_iincZ [some (.ref t), some (.int (iZ i)), some (.int (iZ k0)), some (.int (iZ w)), some (.int (iZ (al + 1))), some (.int (iZ j)), some (.int (iZ ((5 * w) + j))), some (.int (iZ (tf (i + j).toNat)))] 89 dX4_wordOf_86 rfl (by omega) (by decide) rfl rfl rfl ?_
            refine g_iincZ [some (.ref t), some (.int (iZ i)), some (.int (iZ k0)), some (.int (iZ w)), some (.int (iZ (al + 1))), some (.int (iZ (j + 1))), some (.int (iZ ((5 * w) + j))), some (.int (iZ (tf (i + j).toNat)))] 92 dX4_wordOf_89 rfl (by omega) (by decide) rfl rfl rfl ?_
            refine g_goto 22 dX4_wordOf_92 rfl ?_
            refine Go.fgt 6 ?_
            refine Go.fgt 7 ?_
            have e8 : ((5 * w) + j).toNat = 5 * w.toNat + j.toNat := by omega
            have e7 : pch (fun j => tf j.toNat) i k0 j.toNat = tf (i + j).toNat := (if_pos (by omega)).trans (by show tf (i + (j.toNat : Int)).toNat = _; rw [Int.toNat_of_nonneg (by omega)])
            exact ih _ (by omega) (al + 1) (j + 1) rfl (by omega) (by omega) (wA_y hA (by omega) (by omega) (by rw [e7, ← e8]; exact c6))
set_option maxRecDepth 100000 in
theorem c_wO {l : Launch} {Q : Option Value → MH → Prop} {t : Nat} {tn i k0 : Int} {tf : Nat → Int} (otf : oki 0 255 tf) (rtn : 0 ≤ tn ∧ tn ≤ 200) (ri : 0 ≤ i ∧ i ≤ 200) (rk : 1 ≤ k0 ∧ k0 ≤ 5) (hik : i + k0 ≤ tn) {h : MH} (F0 : h[t]? = some (.inr (5, [.ref (t + 1), .int (iZ tn)]))) (F1 : h[t + 1]? = some (.inl (0, 200, .inl (zA tf)))) (k : Q (some (.int (iZ (wdx (fun j => tf j.toNat) i k0)))) h) : ∀ (m0 : Nat) (w : Int), (17 - w).toNat = m0 → 0 ≤ w ∧ w ≤ 17 → fst1 (wdm (fun j => tf j.toNat) i k0) w.toNat = -9 → Go l mX4_wordOf 10 [some (.ref t), some (.int (iZ i)), some (.int (iZ k0)), some (.int (iZ w)), none, none, none, none] [] h Q := by
  intro m0
  induction m0 using Nat.strongRecOn with
  | ind m0 ih =>
    intro w hmz hw hX
    have eD : wdx (fun j => tf j.toNat) i k0 = fst1 (wdm (fun j => tf j.toNat) i k0) 17 := if_neg (by omega)
    refine g_iload_n 11 dX4_wordOf_10 rfl rfl ?_
    refine g_bipush (v := iZ (17)) 13 dX4_wordOf_11 (by decide +kernel) rfl ?_
    refine g_icZ_ge 109 16 dX4_wordOf_13 rfl rfl (by omega) (by decide) (fun c1 => ?_) (fun c1 => ?_)
    · refine g_bipush (v := iZ (-9)) 111 dX4_wordOf_109 (by decide +kernel) rfl ?_
      refine g_iret rfl dX4_wordOf_111 ?_
      have e8 : w.toNat = 17 := by omega
      rw [e8] at hX
      rw [eD, hX] at k
      exact k
    · refine g_iconst (v := iZ (0)) 17 dX4_wordOf_16 rfl rfl ?_
      refine g_istore (L1 := [some (.ref t), some (.int (iZ i)), some (.int (iZ k0)), some (.int (iZ w)), some (.int (iZ 0)), none, none, none]) 19 dX4_wordOf_17 (by decide) rfl rfl rfl ?_
      refine g_iconst (v := iZ (0)) 20 dX4_wordOf_19 rfl rfl ?_
      refine g_istore (L1 := [some (.ref t), some (.int (iZ i)), some (.int (iZ k0)), some (.int (iZ w)), some (.int (iZ 0)), some (.int (iZ 0)), none, none]) 22 dX4_wordOf_20 (by decide) rfl rfl rfl ?_
      refine c_wI otf rtn ri rk hik F0 F1 (w := w) (by omega) (fun al2 j3 p4 p5 p6 => ?_) _ 0 0 rfl (by omega) (by omega) wA_0
      refine g_iload 97 dX4_wordOf_95 rfl rfl ?_
      refine g_iconst (v := iZ (5)) 98 dX4_wordOf_97 rfl rfl ?_
      refine g_icZ_ne 103 101 dX4_wordOf_98 rfl rfl (by omega) (by decide) (fun c7 => ?_) (fun c7 => ?_)
      · refine g_iincZ [some (.ref t), some (.int (iZ i)), some (.int (iZ k0)), some (.int (iZ (w + 1))), some (.int (iZ al2)), some (.int (iZ j3)), none, none] 106 dX4_wordOf_103 rfl (by omega) (by decide) rfl rfl rfl ?_
        refine g_goto 10 dX4_wordOf_106 rfl ?_
        refine Go.fgt 4 ?_
        refine Go.fgt 5 ?_
        exact ih _ (by omega) (w + 1) rfl (by omega) ((fstI_neg (by omega) (fun z => p5 (by omega) z.2)).trans hX)
      · refine g_iload_n 102 dX4_wordOf_101 rfl rfl ?_
        refine g_iret rfl dX4_wordOf_102 ?_
        have e7 : fst1 (wdm (fun j => tf j.toNat) i k0) 17 = w := fst1_eq (by omega) (by omega) (p4 (by omega)) (fun i2 hi2 => (((fst1_rg w.toNat).resolve_right (fun z => by omega)).2 i2 (by omega)))
        rw [eD, e7] at k
        exact k
set_option maxRecDepth 100000 in
theorem c_word {l : Launch} {h : MH} {Q : Option Value → MH → Prop} {t : Nat} {tn i k0 : Int} {tf : Nat → Int} (F0 : h[t]? = some (.inr (5, [.ref (t + 1), .int (iZ tn)]))) (F1 : h[t + 1]? = some (.inl (0, 200, .inl (zA tf)))) (otf : oki (0) (255) tf) (rtn : (0 ≤ tn ∧ tn ≤ 200)) (ri : (0 ≤ i ∧ i ≤ 200)) (rk0 : (1 ≤ k0 ∧ k0 ≤ 200)) (hik : i + k0 ≤ tn) (k : ∀ (r : Int), (r = wdx (fun j => tf j.toNat) i k0) → Q (some (.int (iZ r))) h) : Go l mX4_wordOf 0 [some (.ref t), some (.int (iZ i)), some (.int (iZ k0)), none, none, none, none, none] [] h Q := by
  refine g_iload_n 1 dX4_wordOf_0 rfl rfl ?_
  refine g_iconst (v := iZ (5)) 2 dX4_wordOf_1 rfl rfl ?_
  refine g_icZ_le 8 5 dX4_wordOf_2 rfl rfl (by omega) (by decide) (fun c1 => ?_) (fun c1 => ?_)
  · refine g_iconst (v := iZ (0)) 9 dX4_wordOf_8 rfl rfl ?_
    refine g_istore_n (L1 := [some (.ref t), some (.int (iZ i)), some (.int (iZ k0)), some (.int (iZ 0)), none, none, none, none]) 10 dX4_wordOf_9 (by decide) rfl rfl rfl ?_
    exact c_wO otf rtn ri (by omega) hik F0 F1 (k _ rfl) _ 0 rfl (by omega) rfl
  · refine g_bipush (v := iZ (-9)) 7 dX4_wordOf_5 (by decide +kernel) rfl ?_
    refine g_iret rfl dX4_wordOf_7 ?_
    exact k (-9) (if_pos (by omega)).symm

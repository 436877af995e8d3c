theorem fstI_pos {P : Nat → Prop} {o : Int} (h : 0 ≤ o) (hq : fst1 P o.toNat = -9) (hp : P o.toNat) : fst1 P (o + 1).toNat = o := by
  have : (o + 1).toNat = o.toNat + 1 := by omega
  rw [this, fst1_pos hq hp]
  omega
theorem fstI_neg {P : Nat → Prop} {o : Int} (h : 0 ≤ o) (hq : ¬ (fst1 P o.toNat = -9 ∧ P o.toNat)) : fst1 P (o + 1).toNat = fst1 P o.toNat := by
  have : (o + 1).toNat = o.toNat + 1 := by omega
  rw [this, fst1_neg hq]
theorem ndsI_pos {F : Int → Int} {u best few n : Int} (h0 : 0 ≤ u) (hN : nds F u.toNat = (best, few)) (hn : F (2 ^ u.toNat) = n) (h : n ≠ -9 ∧ (few = -9 ∨ n < few)) : nds F (u + 1).toNat = (u, n) := by
  have : (u + 1).toNat = u.toNat + 1 := by omega
  rw [this, nds_pos (by rw [hn, hN]; exact h), hn, Int.toNat_of_nonneg h0]
theorem ndsI_neg {F : Int → Int} {u best few n : Int} (h0 : 0 ≤ u) (hN : nds F u.toNat = (best, few)) (hn : F (2 ^ u.toNat) = n) (h : ¬ (n ≠ -9 ∧ (few = -9 ∨ n < few))) : nds F (u + 1).toNat = (best, few) := by
  have : (u + 1).toNat = u.toNat + 1 := by omega
  rw [this, nds_neg (by rw [hn, hN]; exact h), hN]
set_option maxRecDepth 100000 in
theorem ld_I {l : Launch} {Q : Option Value → MH → Prop} {tr : Int64} {w : Nat → Int} {B : Nat → Nat → Int} {a b k0 n : Int} (o68 : oki 0 65535 (B 68)) (o69 : oki 0 65535 (B 69)) (hen : 0 ≤ w 35 ∧ w 35 ≤ 12) {e s : Int} {g : Nat → Int} (og : ∀ j : Nat, (j : Int) < w 35 → -9 ≤ g j ∧ g j ≤ 12) (he : 0 ≤ e ∧ e < w 35) {h : MH} (f0 : h[50]? = some (.inr (8, [.long (tr), .ref 51, .int (iZ (w 2)), .ref 52, .ref 53, .int (iZ (w 5)), .ref 54, .ref 55, .ref 56, .ref 57, .ref 58, .ref 59, .ref 60, .int (iZ (w 13)), .int (iZ (w 14)), .int (iZ (w 15)), .int (iZ (w 16)), .int (iZ (w 17)), .int (iZ (w 18)), .int (iZ (w 19)), .int (iZ (w 20)), .ref 61, .ref 62, .ref 63, .ref 64, .int (iZ (w 25)), .int (iZ (w 26)), .int (iZ (w 27)), .int (iZ (w 28)), .int (iZ (w 29)), .int (iZ (w 30)), .int (iZ (w 31)), .ref 65, .ref 66, .ref 67, .int (iZ (w 35)), .ref 68, .ref 69, .ref 70]))) (f68 : h[68]? = some (.inl (0, 12, .inl (zA (B 68))))) (f69 : h[69]? = some (.inl (0, 12, .inl (zA (B 69))))) (f70 : h[70]? = some (.inl (0, 12, .inl (zA g)))) (k : Go l mX9_ladder 144 [some (.ref 50), some (.int (iZ a)), some (.int (iZ b)), some (.int (iZ k0)), some (.int (iZ n)), some (.int (iZ e)), some (.int (iZ s)), some (.int (iZ (fst1 (fun j => g j = g e.toNat - 1 ∧ cn (iZ (B 68 j)) (iZ (B 69 e.toNat))) (w 35).toNat))), none] [] h Q) : ∀ (m0 : Nat) (x o : Int), (12 - o).toNat = m0 → 0 ≤ o ∧ o ≤ w 35 → fst1 (fun j => g j = g e.toNat - 1 ∧ cn (iZ (B 68 j)) (iZ (B 69 e.toNat))) o.toNat = x → rg x → Go l mX9_ladder 74 [some (.ref 50), some (.int (iZ a)), some (.int (iZ b)), some (.int (iZ k0)), some (.int (iZ n)), some (.int (iZ e)), some (.int (iZ s)), some (.int (iZ x)), some (.int (iZ o))] [] h Q := by
  intro m0
  induction m0 using Nat.strongRecOn with
  | ind m0 ih =>
    intro x o hmz ho hX rx
    have ge := og e.toNat (by omega)
    refine g_iload 76 dX9_ladder_74 rfl rfl ?_
    refine g_aload_n 77 dX9_ladder_76 rfl rfl ?_
    refine g_get 80 dX9_ladder_77 faX9_236_X9 f0 rfl rfl ?_
    refine g_icZ_ge 144 83 dX9_ladder_80 rfl rfl (by omega) (by omega) (fun c1 => ?_) (fun c1 => ?_)
    · refine Go.fgt 8 ?_
      have e9 : o = w 35 := by omega
      rw [e9] at hX
      rw [hX] at k
      exact k
    · refine g_iload 85 dX9_ladder_83 rfl rfl ?_
      refine g_bipush (v := iZ (-9)) 87 dX9_ladder_85 (by decide +kernel) rfl ?_
      refine g_icZ_ne 134 90 dX9_ladder_87 rfl rfl rx (by decide) (fun c2 => ?_) (fun c2 => ?_)
      · refine g_iload 136 dX9_ladder_134 rfl rfl ?_
        refine g_istore (L1 := [some (.ref 50), some (.int (iZ a)), some (.int (iZ b)), some (.int (iZ k0)), some (.int (iZ n)), some (.int (iZ e)), some (.int (iZ s)), some (.int (iZ x)), some (.int (iZ o))]) 138 dX9_ladder_136 (by decide) rfl rfl rfl ?_
        refine g_iincZ [some (.ref 50), some (.int (iZ a)), some (.int (iZ b)), some (.int (iZ k0)), some (.int (iZ n)), some (.int (iZ e)), some (.int (iZ s)), some (.int (iZ x)), some (.int (iZ (o + 1)))] 141 dX9_ladder_138 rfl (by omega) (by decide) rfl rfl rfl ?_
        refine g_goto 74 dX9_ladder_141 rfl ?_
        exact ih _ (by omega) _ (o + 1) rfl (by omega) ((fstI_neg (by omega) (fun q => c2 (hX.symm.trans q.1))).trans hX) (by omega)
      · have go := og o.toNat (by omega)
        refine g_aload_n 91 dX9_ladder_90 rfl rfl ?_
        refine g_get 94 dX9_ladder_91 faX9_68_X9 f0 rfl rfl ?_
        refine g_iload 96 dX9_ladder_94 rfl rfl ?_
        refine g_ialdZ (v := iZ (g o.toNat)) 97 dX9_ladder_96 f70 (by omega) (by omega) (by decide) rfl rfl ?_
        refine g_aload_n 98 dX9_ladder_97 rfl rfl ?_
        refine g_get 101 dX9_ladder_98 faX9_68_X9 f0 rfl rfl ?_
        refine g_iload 103 dX9_ladder_101 rfl rfl ?_
        refine g_ialdZ (v := iZ (g e.toNat)) 104 dX9_ladder_103 f70 (by omega) (by omega) (by decide) rfl rfl ?_
        refine g_iconst (v := iZ (1)) 105 dX9_ladder_104 rfl rfl ?_
        refine g_isubZ ((g e.toNat) - 1) 106 dX9_ladder_105 (by omega) rfl ?_
        refine g_icZ_ne 134 109 dX9_ladder_106 rfl rfl (by omega) (by omega) (fun c3 => ?_) (fun c3 => ?_)
        · refine g_iload 136 dX9_ladder_134 rfl rfl ?_
          refine g_istore (L1 := [some (.ref 50), some (.int (iZ a)), some (.int (iZ b)), some (.int (iZ k0)), some (.int (iZ n)), some (.int (iZ e)), some (.int (iZ s)), some (.int (iZ x)), some (.int (iZ o))]) 138 dX9_ladder_136 (by decide) rfl rfl rfl ?_
          refine g_iincZ [some (.ref 50), some (.int (iZ a)), some (.int (iZ b)), some (.int (iZ k0)), some (.int (iZ n)), some (.int (iZ e)), some (.int (iZ s)), some (.int (iZ x)), some (.int (iZ (o + 1)))] 141 dX9_ladder_138 rfl (by omega) (by decide) rfl rfl rfl ?_
          refine g_goto 74 dX9_ladder_141 rfl ?_
          exact ih _ (by omega) _ (o + 1) rfl (by omega) ((fstI_neg (by omega) (fun q => c3 q.2.1)).trans hX) (by omega)
        · refine g_aload_n 110 dX9_ladder_109 rfl rfl ?_
          refine g_get 113 dX9_ladder_110 faX9_62_X9 f0 rfl rfl ?_
          refine g_iload 115 dX9_ladder_113 rfl rfl ?_
          have b4 := o68 ((o).toNat)
          refine g_ialdZ (v := iZ ((B 68) o.toNat)) 116 dX9_ladder_115 f68 (by omega) (by omega) (by decide) rfl rfl ?_
          refine g_aload_n 117 dX9_ladder_116 rfl rfl ?_
          refine g_get 120 dX9_ladder_117 faX9_65_X9 f0 rfl rfl ?_
          refine g_iload 122 dX9_ladder_120 rfl rfl ?_
          have b5 := o69 ((e).toNat)
          refine g_ialdZ (v := iZ ((B 69) e.toNat)) 123 dX9_ladder_122 f69 (by omega) (by omega) (by decide) rfl rfl ?_
          refine g_iconst (v := iZ (-1)) 124 dX9_ladder_123 rfl rfl ?_
          refine g_ixor 125 dX9_ladder_124 rfl ?_
          refine g_iand 126 dX9_ladder_125 rfl ?_
          refine Go.zof ?_
          refine g_ifZ_ne 134 129 dX9_ladder_126 rfl rfl (rg_toInt _) (fun c6 => ?_) (fun c6 => ?_)
          · refine g_iload 136 dX9_ladder_134 rfl rfl ?_
            refine g_istore (L1 := [some (.ref 50), some (.int (iZ a)), some (.int (iZ b)), some (.int (iZ k0)), some (.int (iZ n)), some (.int (iZ e)), some (.int (iZ s)), some (.int (iZ x)), some (.int (iZ o))]) 138 dX9_ladder_136 (by decide) rfl rfl rfl ?_
            refine g_iincZ [some (.ref 50), some (.int (iZ a)), some (.int (iZ b)), some (.int (iZ k0)), some (.int (iZ n)), some (.int (iZ e)), some (.int (iZ s)), some (.int (iZ x)), some (.int (iZ (o + 1)))] 141 dX9_ladder_138 rfl (by omega) (by decide) rfl rfl rfl ?_
            refine g_goto 74 dX9_ladder_141 rfl ?_
            exact ih _ (by omega) _ (o + 1) rfl (by omega) ((fstI_neg (by omega) (fun q => c6 q.2.2)).trans hX) (by omega)
          · refine g_iload 131 dX9_ladder_129 rfl rfl ?_
            refine g_goto 136 dX9_ladder_131 rfl ?_
            refine g_istore (L1 := [some (.ref 50), some (.int (iZ a)), some (.int (iZ b)), some (.int (iZ k0)), some (.int (iZ n)), some (.int (iZ e)), some (.int (iZ s)), some (.int (iZ o)), some (.int (iZ o))]) 138 dX9_ladder_136 (by decide) rfl rfl rfl ?_
            refine g_iincZ [some (.ref 50), some (.int (iZ a)), some (.int (iZ b)), some (.int (iZ k0)), some (.int (iZ n)), some (.int (iZ e)), some (.int (iZ s)), some (.int (iZ o)), some (.int (iZ (o + 1)))] 141 dX9_ladder_138 rfl (by omega) (by decide) rfl rfl rfl ?_
            refine g_goto 74 dX9_ladder_141 rfl ?_
            exact ih _ (by omega) _ (o + 1) rfl (by omega) (fstI_pos (by omega) (hX.trans c2) ⟨c3, c6⟩) (by omega)
set_option maxRecDepth 100000 in
theorem ld_O {l : Launch} {Q : Option Value → MH → Prop} {tr : Int64} {w : Nat → Int} {B : Nat → Nat → Int} {a b k0 n : Int} (o68 : oki 0 65535 (B 68)) (o69 : oki 0 65535 (B 69)) (hen : 0 ≤ w 35 ∧ w 35 ≤ 12) {g : Nat → Int} (rk0 : rg k0) (ha : 0 ≤ a ∧ a < w 35) (hb : 0 ≤ b ∧ b < w 35) (hG : ∀ j : Nat, (j : Int) < w 35 → g j = lvE (w 35) (B 68) (B 69) a b 0 j) (hk : 0 ≤ k0 ∧ k0 ≤ lvE (w 35) (B 68) (B 69) a b 0 a.toNat) {h : MH} (f0 : h[50]? = some (.inr (8, [.long (tr), .ref 51, .int (iZ (w 2)), .ref 52, .ref 53, .int (iZ (w 5)), .ref 54, .ref 55, .ref 56, .ref 57, .ref 58, .ref 59, .ref 60, .int (iZ (w 13)), .int (iZ (w 14)), .int (iZ (w 15)), .int (iZ (w 16)), .int (iZ (w 17)), .int (iZ (w 18)), .int (iZ (w 19)), .int (iZ (w 20)), .ref 61, .ref 62, .ref 63, .ref 64, .int (iZ (w 25)), .int (iZ (w 26)), .int (iZ (w 27)), .int (iZ (w 28)), .int (iZ (w 29)), .int (iZ (w 30)), .int (iZ (w 31)), .ref 65, .ref 66, .ref 67, .int (iZ (w 35)), .ref 68, .ref 69, .ref 70]))) (f68 : h[68]? = some (.inl (0, 12, .inl (zA (B 68))))) (f69 : h[69]? = some (.inl (0, 12, .inl (zA (B 69))))) (f70 : h[70]? = some (.inl (0, 12, .inl (zA g)))) (k : Q (some (.int (iZ (lds (w 35).toNat (lvE (w 35) (B 68) (B 69) a b 0) (fun o => iZ (B 68 o)) (fun o => iZ (B 69 o)) a k0.toNat)))) h) : ∀ (m0 : Nat) (e s : Int), (k0 - s).toNat = m0 → 0 ≤ s ∧ s ≤ k0 → lds (w 35).toNat (lvE (w 35) (B 68) (B 69) a b 0) (fun o => iZ (B 68 o)) (fun o => iZ (B 69 o)) a s.toNat = e → Go l mX9_ladder 61 [some (.ref 50), some (.int (iZ a)), some (.int (iZ b)), some (.int (iZ k0)), some (.int (iZ n)), some (.int (iZ e)), some (.int (iZ s)), none, none] [] h Q := by
  intro m0
  induction m0 using Nat.strongRecOn with
  | ind m0 ih =>
    intro e s hmz hs hE
    have le := lds_ok (en := w 35) (us := B 68) (kn := B 69) (a := a) (b := b) (by omega) ha s.toNat (by omega)
    rw [hE] at le
    have og : ∀ j : Nat, (j : Int) < w 35 → -9 ≤ g j ∧ g j ≤ 12 := fun j hj => by
      rw [hG j hj]
      have := lvE_rg (w 35) (B 68) (B 69) a b 0 j
      omega
    have rk := lvE_rg (w 35) (B 68) (B 69) a b 0 a.toNat
    refine g_iload 63 dX9_ladder_61 rfl rfl ?_
    refine g_iload_n 64 dX9_ladder_63 rfl rfl ?_
    refine g_icZ_ge 154 67 dX9_ladder_64 rfl rfl (by omega) rk0 (fun c1 => ?_) (fun c1 => ?_)
    · refine g_iload 156 dX9_ladder_154 rfl rfl ?_
      refine g_iret rfl dX9_ladder_156 ?_
      have e9 : s = k0 := by omega
      rw [← hE, e9]
      exact k
    · refine g_bipush (v := iZ (-9)) 69 dX9_ladder_67 (by decide +kernel) rfl ?_
      refine g_istore (L1 := [some (.ref 50), some (.int (iZ a)), some (.int (iZ b)), some (.int (iZ k0)), some (.int (iZ n)), some (.int (iZ e)), some (.int (iZ s)), some (.int (iZ (-9))), none]) 71 dX9_ladder_69 (by decide) rfl rfl rfl ?_
      refine g_iconst (v := iZ (0)) 72 dX9_ladder_71 rfl rfl ?_
      refine g_istore (L1 := [some (.ref 50), some (.int (iZ a)), some (.int (iZ b)), some (.int (iZ k0)), some (.int (iZ n)), some (.int (iZ e)), some (.int (iZ s)), some (.int (iZ (-9))), some (.int (iZ 0))]) 74 dX9_ladder_72 (by decide) rfl rfl rfl ?_
      refine ld_I o68 o69 hen og (by omega) f0 f68 f69 f70 ?_ _ (-9) 0 rfl (by omega) rfl (by decide)
      refine g_iload 146 dX9_ladder_144 rfl rfl ?_
      refine g_istore (L1 := [some (.ref 50), some (.int (iZ a)), some (.int (iZ b)), some (.int (iZ k0)), some (.int (iZ n)), some (.int (iZ (fst1 (fun j => g j = g e.toNat - 1 ∧ cn (iZ (B 68 j)) (iZ (B 69 e.toNat))) (w 35).toNat))), some (.int (iZ s)), some (.int (iZ (fst1 (fun j => g j = g e.toNat - 1 ∧ cn (iZ (B 68 j)) (iZ (B 69 e.toNat))) (w 35).toNat))), none]) 148 dX9_ladder_146 (by decide) rfl rfl rfl ?_
      refine g_iincZ [some (.ref 50), some (.int (iZ a)), some (.int (iZ b)), some (.int (iZ k0)), some (.int (iZ n)), some (.int (iZ (fst1 (fun j => g j = g e.toNat - 1 ∧ cn (iZ (B 68 j)) (iZ (B 69 e.toNat))) (w 35).toNat))), some (.int (iZ (s + 1))), some (.int (iZ (fst1 (fun j => g j = g e.toNat - 1 ∧ cn (iZ (B 68 j)) (iZ (B 69 e.toNat))) (w 35).toNat))), none] 151 dX9_ladder_148 rfl (by omega) (by decide) rfl rfl rfl ?_
      refine g_goto 61 dX9_ladder_151 rfl ?_
      refine Go.fgt 7 ?_
      refine ih _ (by omega) _ (s + 1) rfl (by omega) ?_
      have e9 : (s + 1).toNat = s.toNat + 1 := by omega
      rw [e9, lds, hE]
      exact fst1_cg (fun j hj => by rw [hG j (by omega), hG e.toNat (by omega)])
set_option maxRecDepth 100000 in
theorem m_ladder {l : Launch} {h : MH} {Q : Option Value → MH → Prop} {tr : Int64} {ty tx : Nat → Int32} {w : Nat → Int} {B : Nat → Nat → Int} {a b k0 : Int} (H : R9 h tr ty tx w B) (ra : rg a) (rb : rg b) (rk0 : rg k0) (k : ∀ (h1 : MH) (B1 : Nat → Nat → Int) (r : Int), (0 ≤ a ∧ a < w 35 ∧ 0 ≤ b ∧ b < w 35 ∧ -1 ≤ k0 → r = ldF (w 35) (B 68) (B 69) a b k0) → (¬ (0 ≤ a ∧ a < w 35 ∧ 0 ≤ b ∧ b < w 35 ∧ -1 ≤ k0) → r = -1) → R9 h1 tr ty tx w B1 → Ag w B w B1 → Sm [50, 51, 52, 53, 54, 55, 56, 57, 58, 59, 60, 61, 62, 63, 64, 65, 66, 67, 68, 69, 70] h h1 → Q (some (.int (iZ r))) h1) : Go l mX9_ladder 0 [some (.ref 50), some (.int (iZ a)), some (.int (iZ b)), some (.int (iZ k0)), none, none, none, none, none] [] h Q := by
  refine g_aload_n 1 dX9_ladder_0 rfl rfl ?_
  refine g_iload_n 2 dX9_ladder_1 rfl rfl ?_
  obtain ⟨F50_1, ⟨F51_1, F52_1, F53_1, F54_1, F55_1, F56_1, F57_1, F58_1, F59_1, F60_1, F61_1, F62_1, F63_1, F64_1, F65_1, F66_1, F67_1, F68_1, F69_1, F70_1⟩, ⟨r2_1, r5_1, r13_1, r14_1, r15_1, r16_1, r17_1, r18_1, r19_1, r20_1, r25_1, r26_1, r27_1, r28_1, r29_1, r30_1, r31_1, r35_1⟩, ⟨o53_1, o54_1, o55_1, o56_1, o57_1, o58_1, o59_1, o60_1, o61_1, o62_1, o63_1, o64_1, o65_1, o66_1, o67_1, o68_1, o69_1, o70_1⟩, hT_1⟩ := id H
  refine g_callV (z := mX9_isEdition) (As := [.int (iZ a)]) 5 dX9_ladder_2 mwX9_isEdition ⟨by decide, by decide⟩ rfl wlX9_239 wiX9_isEdition wsX9_isEdition F50_1 rfl rfl rfl (nle rfl) (nle rfl) rfl ?_
  refine m_isEd H ra (fun z2 rz2 => ?_)
  refine rI ?_
  refine g_ifZ_eq 21 8 dX9_ladder_5 rfl rfl (rg01 (by omega)) (fun c3 => ?_) (fun c3 => ?_)
  · refine g_iconst (v := iZ (-1)) 22 dX9_ladder_21 rfl rfl ?_
    refine g_iret rfl dX9_ladder_22 ?_
    exact k h B (-1) (fun q => by omega) (fun _ => rfl) H (Ag.refl _ _) (Sm.refl _ _)
  · refine g_aload_n 9 dX9_ladder_8 rfl rfl ?_
    refine g_iload_n 10 dX9_ladder_9 rfl rfl ?_
    refine g_callV (z := mX9_isEdition) (As := [.int (iZ b)]) 13 dX9_ladder_10 mwX9_isEdition ⟨by decide, by decide⟩ rfl wlX9_239 wiX9_isEdition wsX9_isEdition F50_1 rfl rfl rfl (nle rfl) (nle rfl) rfl ?_
    refine m_isEd H rb (fun z4 rz4 => ?_)
    refine rI ?_
    refine g_ifZ_eq 21 16 dX9_ladder_13 rfl rfl (rg01 (by omega)) (fun c5 => ?_) (fun c5 => ?_)
    · refine g_iconst (v := iZ (-1)) 22 dX9_ladder_21 rfl rfl ?_
      refine g_iret rfl dX9_ladder_22 ?_
      exact k h B (-1) (fun q => by omega) (fun _ => rfl) H (Ag.refl _ _) (Sm.refl _ _)
    · refine g_iload_n 17 dX9_ladder_16 rfl rfl ?_
      refine g_iconst (v := iZ (-1)) 18 dX9_ladder_17 rfl rfl ?_
      refine g_icZ_ge 23 21 dX9_ladder_18 rfl rfl rk0 (by decide) (fun c6 => ?_) (fun c6 => ?_)
      · refine g_aload_n 24 dX9_ladder_23 rfl rfl ?_
        refine g_iload_n 25 dX9_ladder_24 rfl rfl ?_
        refine g_iload_n 26 dX9_ladder_25 rfl rfl ?_
        refine g_iconst (v := iZ (0)) 27 dX9_ladder_26 rfl rfl ?_
        refine g_callV (z := mX9_climb) (As := [.int (iZ a), .int (iZ b), .int (iZ 0)]) 30 dX9_ladder_27 mwX9_climb ⟨by decide, by decide⟩ rfl wlX9_242 wiX9_climb wsX9_climb F50_1 rfl rfl rfl (nle rfl) (nle rfl) rfl ?_
        refine m_climb H (by omega) (by omega) (by decide) (fun h7 g8 e9 H10 s11 => ?_)
        have erg8 := e9 a.toNat (by omega)
        have l12 := lvE_rg (w 35) (B 68) (B 69) a b (0) a.toNat
        change g8 a.toNat = lvE (w 35) (B 68) (B 69) a b (0) a.toNat at erg8
        refine rI ?_
        refine g_istore (L1 := [some (.ref 50), some (.int (iZ a)), some (.int (iZ b)), some (.int (iZ k0)), some (.int (iZ (g8 a.toNat))), none, none, none, none]) 32 dX9_ladder_30 (by decide) rfl rfl rfl ?_
        refine g_iload 34 dX9_ladder_32 rfl rfl ?_
        refine g_bipush (v := iZ (-9)) 36 dX9_ladder_34 (by decide +kernel) rfl ?_
        refine g_icZ_eq 43 39 dX9_ladder_36 rfl rfl (by omega) (by decide) (fun c13 => ?_) (fun c13 => ?_)
        · refine g_iload 45 dX9_ladder_43 rfl rfl ?_
          refine g_iret rfl dX9_ladder_45 ?_
          refine k _ _ (g8 a.toNat) (fun q => ?_) (fun q => by omega) H10 ⟨⟨rfl, rfl, rfl⟩, ⟨rfl, rfl, rfl, rfl, rfl, rfl, rfl, rfl, rfl, rfl⟩, fun _ _ => rfl, fun _ _ => rfl⟩ ((Sm.refl [50, 51, 52, 53, 54, 55, 56, 57, 58, 59, 60, 61, 62, 63, 64, 65, 66, 67, 68, 69, 70] _).tr s11 (fun _ q => q) (by simp))
          unfold ldF
          rw [if_pos (by omega)]; omega
        · refine g_iload_n 40 dX9_ladder_39 rfl rfl ?_
          refine g_ifZ_ge 46 43 dX9_ladder_40 rfl rfl rk0 (fun c14 => ?_) (fun c14 => ?_)
          · refine g_iload_n 47 dX9_ladder_46 rfl rfl ?_
            refine g_iload 49 dX9_ladder_47 rfl rfl ?_
            refine g_icZ_le 55 52 dX9_ladder_49 rfl rfl rk0 (by omega) (fun c15 => ?_) (fun c15 => ?_)
            · refine g_iload_n 56 dX9_ladder_55 rfl rfl ?_
              refine g_istore (L1 := [some (.ref 50), some (.int (iZ a)), some (.int (iZ b)), some (.int (iZ k0)), some (.int (iZ (g8 a.toNat))), some (.int (iZ a)), none, none, none]) 58 dX9_ladder_56 (by decide) rfl rfl rfl ?_
              refine g_iconst (v := iZ (0)) 59 dX9_ladder_58 rfl rfl ?_
              refine g_istore (L1 := [some (.ref 50), some (.int (iZ a)), some (.int (iZ b)), some (.int (iZ k0)), some (.int (iZ (g8 a.toNat))), some (.int (iZ a)), some (.int (iZ 0)), none, none]) 61 dX9_ladder_59 (by decide) rfl rfl rfl ?_
              obtain ⟨F50_16, ⟨F51_16, F52_16, F53_16, F54_16, F55_16, F56_16, F57_16, F58_16, F59_16, F60_16, F61_16, F62_16, F63_16, F64_16, F65_16, F66_16, F67_16, F68_16, F69_16, F70_16⟩, ⟨r2_16, r5_16, r13_16, r14_16, r15_16, r16_16, r17_16, r18_16, r19_16, r20_16, r25_16, r26_16, r27_16, r28_16, r29_16, r30_16, r31_16, r35_16⟩, ⟨o53_16, o54_16, o55_16, o56_16, o57_16, o58_16, o59_16, o60_16, o61_16, o62_16, o63_16, o64_16, o65_16, o66_16, o67_16, o68_16, o69_16, o70_16⟩, hT_16⟩ := id H10
              refine ld_O (B := B) o68_16 o69_16 (by omega) rk0 (by omega) (by omega) e9 (by omega) F50_16 F68_16 F69_16 F70_16 ?_ _ a 0 rfl (by omega) rfl
              refine k _ _ _ (fun q => ?_) (fun q => by omega) H10 ⟨⟨rfl, rfl, rfl⟩, ⟨rfl, rfl, rfl, rfl, rfl, rfl, rfl, rfl, rfl, rfl⟩, fun _ _ => rfl, fun _ _ => rfl⟩ ((Sm.refl [50, 51, 52, 53, 54, 55, 56, 57, 58, 59, 60, 61, 62, 63, 64, 65, 66, 67, 68, 69, 70] _).tr s11 (fun _ q => q) (by simp))
              unfold ldF
              rw [if_neg (by omega), if_neg (by omega)]
            · refine g_bipush (v := iZ (-9)) 54 dX9_ladder_52 (by decide +kernel) rfl ?_
              refine g_iret rfl dX9_ladder_54 ?_
              refine k _ _ (-9) (fun q => ?_) (fun q => by omega) H10 ⟨⟨rfl, rfl, rfl⟩, ⟨rfl, rfl, rfl, rfl, rfl, rfl, rfl, rfl, rfl, rfl⟩, fun _ _ => rfl, fun _ _ => rfl⟩ ((Sm.refl [50, 51, 52, 53, 54, 55, 56, 57, 58, 59, 60, 61, 62, 63, 64, 65, 66, 67, 68, 69, 70] _).tr s11 (fun _ q => q) (by simp))
              unfold ldF
              rw [if_neg (by omega), if_pos (by omega)]
          · refine g_iload 45 dX9_ladder_43 rfl rfl ?_
            refine g_iret rfl dX9_ladder_45 ?_
            refine k _ _ (g8 a.toNat) (fun q => ?_) (fun q => by omega) H10 ⟨⟨rfl, rfl, rfl⟩, ⟨rfl, rfl, rfl, rfl, rfl, rfl, rfl, rfl, rfl, rfl⟩, fun _ _ => rfl, fun _ _ => rfl⟩ ((Sm.refl [50, 51, 52, 53, 54, 55, 56, 57, 58, 59, 60, 61, 62, 63, 64, 65, 66, 67, 68, 69, 70] _).tr s11 (fun _ q => q) (by simp))
            unfold ldF
            rw [if_pos (by omega)]; omega
      · refine g_iconst (v := iZ (-1)) 22 dX9_ladder_21 rfl rfl ?_
        refine g_iret rfl dX9_ladder_22 ?_
        exact k h B (-1) (fun q => by omega) (fun _ => rfl) H (Ag.refl _ _) (Sm.refl _ _)

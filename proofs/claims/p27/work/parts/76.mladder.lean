theorem fstI_pos {P : Nat → Prop} {o : Int} (h : 0 ≤ o) (hq : fst1 P o.toNat = -9) (hp : P o.toNat) : fst1 P (o + 1).toNat = o := by
  have : (o + 1).toNat = o.toNat + 1 := by omega
  rw [this, fst1_pos hq hp]
  omega
theorem fstI_neg {P : Nat → Prop} {o : Int} (h : 0 ≤ o) (hq : ¬ (fst1 P o.toNat = -9 ∧ P o.toNat)) : fst1 P (o + 1).toNat = fst1 P o.toNat := by
  have : (o + 1).toNat = o.toNat + 1 := by omega
  rw [this, fst1_neg hq]
theorem ndsI_pos {F : Int → Int} {u best few n : Int} (h0 : 0 ≤ u) (hN : nds F u.toNat = (best, few)) (hn : F (2 ^ u.toNat) = n) (h : n ≠ -9 ∧ (few = -9 ∨ n < few)) : nds F (u + 1).toNat = (u, n) := by
  have : (u + 1).toNat = u.toNat + 1 := by omega
  rw [this, nds_pos (by rw [hn, hN]; exact h), hn, Int.toNat_of_nonneg h0]
theorem ndsI_neg {F : Int → Int} {u best few n : Int} (h0 : 0 ≤ u) (hN : nds F u.toNat = (best, few)) (hn : F (2 ^ u.toNat) = n) (h : ¬ (n ≠ -9 ∧ (few = -9 ∨ n < few))) : nds F (u + 1).toNat = (best, few) := by
  have : (u + 1).toNat = u.toNat + 1 := by omega
  rw [this, nds_neg (by rw [hn, hN]; exact h), hN]
set_option maxRecDepth 100000 in
theorem ld_I {l : Launch} {Q : Option Value → MH → Prop} {tr : Int64} {w : Nat → Int} {B : Nat → Nat → Int} {a b k0 n : Int} (o68 : oki 0 65535 (B 68)) (o69 : oki 0 65535 (B 69)) (hen : 0 ≤ w 35 ∧ w 35 ≤ 12) {e s : Int} {g : Nat → Int} (og : ∀ j : Nat, (j : Int) < w 35 → -9 ≤ g j ∧ g j ≤ 12) (he : 0 ≤ e ∧ e < w 35) {h : MH} (f0 : h[50]? = some (.inr (8, [.long (tr), .ref 51, .int (iZ (w 2)), .ref 52, .ref 53, .int (iZ (w 5)), .ref 54, .ref 55, .ref 56, .ref 57, .ref 58, .ref 59, .ref 60, .int (iZ (w 13)), .int (iZ (w 14)), .int (iZ (w 15)), .int (iZ (w 16)), .int (iZ (w 17)), .int (iZ (w 18)), .int (iZ (w 19)), .int (iZ (w 20)), .ref 61, .ref 62, .ref 63, .ref 64, .int (iZ (w 25)), .int (iZ (w 26)), .int (iZ (w 27)), .int (iZ (w 28)), .int (iZ (w 29)), .int (iZ (w 30)), .int (iZ (w 31)), .ref 65, .ref 66, .ref 67, .int (iZ (w 35)), .ref 68, .ref 69, .ref 70]))) (f68 : h[68]? = some (.inl (0, 12, .inl (zA (B 68))))) (f69 : h[69]? = some (.inl (0, 12, .inl (zA (B 69))))) (f70 : h[70]? = some (.inl (0, 12, .inl (zA g)))) (k : Go l mX9_ladder 144 [some (.ref 50), some (.int (iZ a)), some (.int (iZ b)), some (.int (iZ k0)), some (.int (iZ n)), some (.int (iZ e)), some (.int (iZ s)), some (.int (iZ (fst1 (fun j => g j = g e.toNat - 1 ∧ cn (iZ (B 68 j)) (iZ (B 69 e.toNat))) (w 35).toNat))), none] [] h Q) : ∀ (m0 : Nat) (x o : Int), (12 - o).toNat = m0 → 0 ≤ o ∧ o ≤ w 35 → fst1 (fun j => g j = g e.toNat - 1 ∧ cn (iZ (B 68 j)) (iZ (B 69 e.toNat))) o.toNat = x → rg x → Go l mX9_ladder 74 [some (.ref 50), some (.int (iZ a)), some (.int (iZ b)), some (.int (iZ k0)), some (.int (iZ n)), some (.int (iZ e)), some (.int (iZ s)), some (.int (iZ x)), some (.int (iZ o))] [] h Q := by
  intro m0
  induction m0 using Nat.strongRecOn with
  | ind m0 ih =>
    intro x o hmz ho hX rx
    have ge := og e.toNat (by omega)
    refine g_iload 76 dX9_ladder_74 rfl rfl ?_
    refine g_aload_n 77 dX9_ladder_76 rfl rfl ?_
    refine g_get 80 dX9_ladder_77 faX9_236_X9 f0 rfl rfl ?_
    refine g_icZ_ge 144 83 dX9_ladder_80 rfl rfl (by omega) (by omega) (fun c1 => ?_) (fun c1 => ?_)
    · refine Go.fgt 8 ?_
      have e9 : o = w 35 := by omega
      rw [e9] at hX
      rw [hX] at k
      exact k
    · refine g_iload 85 dX9_ladder_83 rfl rfl ?_
      refine g_bipush (v := iZ (-9)) 87 dX9_ladder_85 (by decide +kernel) rfl ?_
      refine g_icZ_ne 134 90 dX9_ladder_87 rfl rfl rx (by decide) (fun c2 => ?_) (fun c2 => ?_)
      · refine g_iload 136 dX9_ladder_134 rfl rfl ?_
        refine g_istore (L1 := [some (.ref 50), some (.int (iZ a)), some (.int (iZ b)), some (.int (iZ k0)), some (.int (iZ n)), some (.int (iZ e)), some (.int (iZ s)), some (.int (iZ x)), some (.int (iZ o))]) 138 dX9_ladder_136 (by decide) rfl rfl rfl ?_
        refine g_iincZ [some (.ref 50), some (.int (iZ a)), some (.int (iZ b)), some (.int (iZ k0)), some (.int (iZ n)), some (.int (iZ e)), some (.int (iZ s)), some (.int (iZ x)), some (.int (iZ (o + 1)))] 141 dX9_ladder_138 rfl (by omega) (by decide) rfl rfl rfl ?_
        refine g_goto 74 dX9_ladder_141 rfl ?_
        exact ih _ (by omega) _ (o + 1) rfl (by omega) ((fstI_neg (by omega) (fun q => c2 (hX.symm.trans q.1))).trans hX) (by omega)
      · have go := og o.toNat (by omega)
        refine g_aload_n 91 dX9_ladder_90 rfl rfl ?_
        refine g_get 94 dX9_ladder_91 faX9_68_X9 f0 rfl rfl ?_
        refine g_iload 96 dX9_ladder_94 rfl rfl ?_
        refine g_ialdZ (v := iZ (g o.toNat)) 97 dX9_ladder_96 f70 (by omega) (by omega) (by decide) rfl rfl ?_
        refine g_aload_n 98 dX9_ladder_97 rfl rfl ?_
        refine g_get 101 dX9_ladder_98 faX9_68_X9 f0 rfl rfl ?_
        refine g_iload 103 dX9_ladder_101 rfl rfl ?_
        refine g_ialdZ (v := iZ (g e.toNat)) 104 dX9_ladder_103 f70 (by omega) (by omega) (by decide) rfl rfl ?_
        refine g_iconst (v := iZ (1)) 105 dX9_ladder_104 rfl rfl ?_
        refine g_isubZ ((g e.toNat) - 1) 106 dX9_ladder_105 (by omega) rfl ?_
        refine g_icZ_ne 134 109 dX9_ladder_106 rfl rfl (by omega) (by omega) (fun c3 => ?_) (fun c3 => ?_)
        · refine g_iload 136 dX9_ladder_134 rfl rfl ?_
          refine g_istore (L1 := [some (.ref 50), some (.int (iZ a)), some (.int (iZ b)), some (.int (iZ k0)), some (.int (iZ n)), some (.int (iZ e)), some (.int (iZ s)), some (.int (iZ x)), some (.int (iZ o))]) 138 dX9_ladder_136 (by decide) rfl rfl rfl ?_
          refine g_iincZ [some (.ref 50), some (.int (iZ a)), some (.int (iZ b)), some (.int (iZ k0)), some (.int (iZ n)), some (.int (iZ e)), some (.int (iZ s)), some (.int (iZ x)), some (.int (iZ (o + 1)))] 141 dX9_ladder_138 rfl (by omega) (by decide) rfl rfl rfl ?_
          refine g_goto 74 dX9_ladder_141 rfl ?_
          exact ih _ (by omega) _ (o + 1) rfl (by omega) ((fstI_neg (by omega) (fun q => c3 q.2.1)).trans hX) (by omega)
        · refine g_aload_n 110 dX9_ladder_109 rfl rfl ?_
          refine g_get 113 dX9_ladder_110 faX9_62_X9 f0 rfl rfl ?_
          refine g_iload 115 dX9_ladder_113 rfl rfl ?_
          have b4 := o68 ((o).toNat)
          refine g_ialdZ (v := iZ ((B 68) o.toNat)) 116 dX9_ladder_115 f68 (by omega) (by omega) (by decide) rfl rfl ?_
          refine g_aload_n 117 dX9_ladder_116 rfl rfl ?_
          refine g_get 120 dX9_ladder_117 faX9_65_X9 f0 rfl rfl ?_
          refine g_iload 122 dX9_ladder_120 rfl rfl ?_
          have b5 := o69 ((e).toNat)
          refine g_ialdZ (v := iZ ((B 69) e.toNat)) 123 dX9_ladder_122 f69 (by omega) (by omega) (by decide) rfl rfl ?_
          refine g_iconst (v := iZ (-1)) 124 dX9_ladder_123 rfl rfl ?_
          refine g_ixor 125 dX9_ladder_124 rfl ?_
          refine g_iand 126 dX9_ladder_125 rfl ?_
          refine Go.zof ?_
          refine g_ifZ_ne 134 129 dX9_ladder_126 rfl rfl (rg_toInt _) (fun c6 => ?_) (fun c6 => ?_)
          · refine g_iload 136 dX9_ladder_134 rfl rfl ?_
            refine g_istore (L1 := [some (.ref 50), some (.int (iZ a)), some (.int (iZ b)), some (.int (iZ k0)), some (.int (iZ n)), some (.int (iZ e)), some (.int (iZ s)), some (.int (iZ x)), some (.int (iZ o))]) 138 dX9_ladder_136 (by decide) rfl rfl rfl ?_
            refine g_iincZ [some (.ref 50), some (.int (iZ a)), some (.int (iZ b)), some (.int (iZ k0)), some (.int (iZ n)), some (.int (iZ e)), some (.int (iZ s)), some (.int (iZ x)), some (.int (iZ (o + 1)))] 141 dX9_ladder_138 rfl (by omega) (by decide) rfl rfl rfl ?_
            refine g_goto 74 dX9_ladder_141 rfl ?_
            exact ih _ (by omega) _ (o + 1) rfl (by omega) ((fstI_neg (by omega) (fun q => c6 q.2.2)).trans hX) (by omega)
          · refine g_iload 131 dX9_ladder_129 rfl rfl ?_
            refine g_goto 136 dX9_ladder_131 rfl ?_
            refine g_istore (L1 := [some (.ref 50), some (.int (iZ a)), some (.int (iZ b)), some (.int (iZ k0)), some (.int (iZ n)), some (.int (iZ e)), some (.int (iZ s)), some (.int (iZ o)), some (.int (iZ o))]) 138 dX9_ladder_136 (by decide) rfl rfl rfl ?_
            refine g_iincZ [some (.ref 50), some (.int (iZ a)), some (.int (iZ b)), some (.int (iZ k0)), some (.int (iZ n)), some (.int (iZ e)), some (.int (iZ s)), some (.int (iZ o)), some (.int (iZ (o + 1)))] 141 dX9_ladder_138 rfl (by omega) (by decide) rfl rfl rfl ?_
            refine g_goto 74 dX9_ladder_141 rfl ?_
            exact ih _ (by omega) _ (o + 1) rfl (by omega) (fstI_pos (by omega) (hX.trans c2) ⟨c3, c6⟩) (by omega)
set_option maxRecDepth 100000 in
theorem ld_O {l : Launch} {Q : Option Value → MH → Prop} {tr : Int64} {w : Nat → Int} {B : Nat → Nat → Int} {a b k0 n : Int} (o68 : oki 0 65535 (B 68)) (o69 : oki 0 65535 (B 69)) (hen : 0 ≤ w 35 ∧ w 35 ≤ 12) {g : Nat → Int} (rk0 : rg k0) (ha : 0 ≤ a ∧ a < w 35) (hb : 0 ≤ b ∧ b < w 35) (hG : ∀ j : Nat, (j : Int) < w 35 → g j = lvE (w 35) (B 68) (B 69) a b 0 j) (hk : 0 ≤ k0 ∧ k0 ≤ lvE (w 35) (B 68) (B 69) a b 0 a.toNat) {h : MH} (f0 : h[50]? = some (.inr (8, [.long (tr), .ref 51, .int (iZ (w 2)), .ref 52, .ref 53, .int (iZ (w 5)), .ref 54, .ref 55, .ref 56, .ref 57, .ref 58, .ref 59, .ref 60, .int (iZ (w 13)), .int (iZ (w 14)), .int (iZ (w 15)), .int (iZ (w 16)), .int (iZ (w 17)), .int (iZ (w 18)), .int (iZ (w 19)), .int (iZ (w 20)), .ref 61, .ref 62, .ref 63, .ref 64, .int (iZ (w 25)), .int (iZ (w 26)), .int (iZ (w 27)), .int (iZ (w 28)), .int (iZ (w 29)), .int (iZ (w 30)), .int (iZ (w 31)), .ref 65, .ref 66, .ref 67, .int (iZ (w 35)), .ref 68, .ref 69, .ref 70]))) (f68 : h[68]? = some (.inl (0, 12, .inl (zA (B 68))))) (f69 : h[69]? = some (.inl (0, 12, .inl (zA (B 69))))) (f70 : h[70]? = some (.inl (0, 12, .inl (zA g)))) (k : Q (some (.int (iZ (lds (w 35).toNat (lvE (w 35) (B 68) (B 69) a b 0) (fun o => iZ (B 68 o)) (fun o => iZ (B 69 o)) a k0.toNat)))) h) : ∀ (m0 : Nat) (e s : Int), (k0 - s).toNat = m0 → 0 ≤ s ∧ s ≤ k0 → lds (w 35).toNat (lvE (w 35) (B 68) (B 69) a b 0) (fun o => iZ (B 68 o)) (fun o => iZ (B 69 o)) a s.toNat = e → Go l mX9_ladder 61 [some (.ref 50), some (.int (iZ a)), some (.int (iZ b)), some (.int (iZ k0)), some (.int (iZ n)), some (.int (iZ e)), some (.int (iZ s)), none, none] [] h Q := by
  intro m0
  induction m0 using Nat.strongRecOn with
  | ind m0 ih =>
    intro e s hmz hs hE
    have le := lds_ok (en := w 35) (us := B 68) (kn := B 69) (a := a) (b := b) (by omega) ha s.toNat (by omega)
    rw [hE] at le
    have og : ∀ j : Nat, (j : Int) < w 35 → -9 ≤ g j ∧ g j ≤ 12 := fun j hj => by
      rw [hG j hj]
      have := lvE_rg (w 35) (B 68) (B 69) a b 0 j
      omega
    have rk := lvE_rg (w 35) (B 68) (B 69) a b 0 a.toNat
    refine g_iload 63 dX9_ladder_61 rfl rfl ?_
    refine g_iload_n 64 dX9_ladder_63 rfl rfl ?_
    refine g_icZ_ge 154 67 dX9_ladder_64 rfl rfl (by omega) rk0 (fun c1 => ?_) (fun c1 => ?_)
    · refine g_iload 156 dX9_ladder_154 rfl rfl ?_
      refine g_iret rfl dX9_ladder_156 ?_
      have e9 : s = k0 := by omega
      rw [← hE, e9]
      exact k
    · refine g_bipush (v := iZ (-9)) 69 dX9_ladder_67 (by decide +kernel) rfl ?_
      refine g_istore (L1 := [some (.ref 50), some (.int (iZ a)), some (.int (iZ b)), some (.int (iZ k0)), some (.int (iZ n)), some (.int (iZ e)), some (.int (iZ s)), some (.int (iZ (-9))), none]) 71 dX9_ladder_69 (by decide) rfl rfl rfl ?_
      refine g_iconst (v := iZ (0)) 72 dX9_ladder_71 rfl rfl ?_
      refine g_istore (L1 := [some (.ref 50), some (.int (iZ a)), some (.int (iZ b)), some (.int (iZ k0)), some (.int (iZ n)), some (.int (iZ e)), some (.int (iZ s)), some (.int (iZ (-9))), some (.int (iZ 0))]) 74 dX9_ladder_72 (by decide) rfl rfl rfl ?_
      refine ld_I o68 o69 hen og (by omega) f0 f68 f69 f70 ?_ _ (-9) 0 rfl (by omega) rfl (by decide)
      refine g_iload 146 dX9_ladder_144 rfl rfl ?_
      refine g_istore (L1 := [some (.ref 50), some (.int (iZ a)), some (.int (iZ b)), some (.int (iZ k0)), some (.int (iZ n)), some (.int (iZ (fst1 (fun j => g j = g e.toNat - 1 ∧ cn (iZ (B 68 j)) (iZ (B 69 e.toNat))) (w 35).toNat))), some (.int (iZ s)), some (.int (iZ (fst1 (fun j => g j = g e.toNat - 1 ∧ cn (iZ (B 68 j)) (iZ (B 69 e.toNat))) (w 35).toNat))), none]) 148 dX9_ladder_146 (by decide) rfl rfl rfl ?_
      refine g_iincZ [some (.ref 50), some (.int (iZ a)), some (.int (iZ b)), some (.int (iZ k0)), some (.int (iZ n)), some (.int (iZ (fst1 (fun j => g j = g e.toNat - 1 ∧ cn (iZ (B 68 j)) (iZ (B 69 e.toNat))) (w 35).toNat))), some (.int (iZ (s + 1))), some (.int (iZ (fst1 (fun j => g j = g e.toNat - 1 ∧ cn (iZ (B 68 j)) (iZ (B 69 e.toNat))) (w 35).toNat))), none] 151 dX9_ladder_148 rfl (by omega) (by decide) rfl rfl rfl ?_
      refine g_goto 61 dX9_ladder_151 rfl ?_
      refine Go.fgt 7 ?_
      refine ih _ (by omega) _ (s + 1) rfl (by omega) ?_
      have e9 : (s + 1).toNat = s.toNat + 1 := by omega
      rw [e9, lds, hE]
      exact fst1_cg (fun j hj => by rw [hG j (by omega), hG e.toNat (by omega)])

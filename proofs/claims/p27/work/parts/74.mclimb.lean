def is1 (c : Int) (P : Prop) : Prop := c = 1 ↔ P
theorem is1.mk {c : Int} {P : Prop} (a : c = 1 → P) (b : P → c = 1) : is1 c P := ⟨a, b⟩
theorem is1.mp {c : Int} {P : Prop} (h : is1 c P) : c = 1 → P := Iff.mp h
theorem is1.mpr {c : Int} {P : Prop} (h : is1 c P) : P → c = 1 := Iff.mpr h
set_option maxRecDepth 100000 in
theorem cl_I {l : Launch} {Q : Option Value → MH → Prop} {tr : Int64} {w : Nat → Int} {B : Nat → Nat → Int} {a b wd : Int} (o68 : oki 0 65535 (B 68)) (o69 : oki 0 65535 (B 69)) (hen : 0 ≤ w 35 ∧ w 35 ≤ 12) (ha : 0 ≤ a ∧ a < w 35) (hb : 0 ≤ b ∧ b < w 35) (rwd : rg wd) {n e : Int} {g : Nat → Int} (og : okr g) (hn : 1 ≤ n ∧ n ≤ 12) (he : 0 ≤ e ∧ e < w 35) {h : MH} (f0 : h[50]? = some (.inr (8, [.long (tr), .ref 51, .int (iZ (w 2)), .ref 52, .ref 53, .int (iZ (w 5)), .ref 54, .ref 55, .ref 56, .ref 57, .ref 58, .ref 59, .ref 60, .int (iZ (w 13)), .int (iZ (w 14)), .int (iZ (w 15)), .int (iZ (w 16)), .int (iZ (w 17)), .int (iZ (w 18)), .int (iZ (w 19)), .int (iZ (w 20)), .ref 61, .ref 62, .ref 63, .ref 64, .int (iZ (w 25)), .int (iZ (w 26)), .int (iZ (w 27)), .int (iZ (w 28)), .int (iZ (w 29)), .int (iZ (w 30)), .int (iZ (w 31)), .ref 65, .ref 66, .ref 67, .int (iZ (w 35)), .ref 68, .ref 69, .ref 70]))) (f68 : h[68]? = some (.inl (0, 12, .inl (zA (B 68))))) (f69 : h[69]? = some (.inl (0, 12, .inl (zA (B 69))))) (f70 : h[70]? = some (.inl (0, 12, .inl (zA g)))) (k : ∀ c1 : Int, (c1 = 0 ∨ c1 = 1) → is1 c1 (∃ j : Nat, (j : Int) < w 35 ∧ g j = n - 1 ∧ cn (iZ (B 68 j)) (Kf (B 69) a wd e.toNat)) → Go l mX9_climb 144 [some (.ref 50), some (.int (iZ a)), some (.int (iZ b)), some (.int (iZ wd)), some (.int (iZ n)), some (.int (iZ e)), some (.int (iZ c1)), none, none] [] h Q) : ∀ (m0 : Nat) (c o : Int), (12 - o).toNat = m0 → 0 ≤ o ∧ o ≤ w 35 → (c = 0 ∨ c = 1) → is1 c (∃ j : Nat, (j : Int) < o ∧ g j = n - 1 ∧ cn (iZ (B 68 j)) (Kf (B 69) a wd e.toNat)) → Go l mX9_climb 67 [some (.ref 50), some (.int (iZ a)), some (.int (iZ b)), some (.int (iZ wd)), some (.int (iZ n)), some (.int (iZ e)), some (.int (iZ c)), some (.int (iZ o)), none] [] h Q := by
  intro m0
  induction m0 using Nat.strongRecOn with
  | ind m0 ih =>
    intro c o hmz ho hc hE
    refine g_iload 69 dX9_climb_67 rfl rfl ?_
    refine g_aload_n 70 dX9_climb_69 rfl rfl ?_
    refine g_get 73 dX9_climb_70 faX9_236_X9 f0 rfl rfl ?_
    refine g_icZ_ge 144 76 dX9_climb_73 rfl rfl (by omega) (by omega) (fun c1 => ?_) (fun c1 => ?_)
    · refine Go.fgt 7 ?_
      have : o = w 35 := by omega
      rw [this] at hE
      exact k c hc hE
    · refine g_aload_n 77 dX9_climb_76 rfl rfl ?_
      refine g_get 80 dX9_climb_77 faX9_65_X9 f0 rfl rfl ?_
      refine g_iload 82 dX9_climb_80 rfl rfl ?_
      have b2 := o69 ((e).toNat)
      refine g_ialdZ (v := iZ ((B 69) e.toNat)) 83 dX9_climb_82 f69 (by omega) (by omega) (by decide) rfl rfl ?_
      refine g_iload 85 dX9_climb_83 rfl rfl ?_
      refine g_iload_n 86 dX9_climb_85 rfl rfl ?_
      refine g_icZ_ne 93 89 dX9_climb_86 rfl rfl (by omega) (by omega) (fun c3 => ?_) (fun c3 => ?_)
      · refine g_iconst (v := iZ (0)) 94 dX9_climb_93 rfl rfl ?_
        refine g_ior 95 dX9_climb_94 rfl ?_
        refine Go.eqI (Kf (B 69) a wd e.toNat) (by unfold Kf; rw [if_neg (by omega)]) ?_
        refine g_istore (L1 := [some (.ref 50), some (.int (iZ a)), some (.int (iZ b)), some (.int (iZ wd)), some (.int (iZ n)), some (.int (iZ e)), some (.int (iZ c)), some (.int (iZ o)), some (.int (Kf (B 69) a wd e.toNat))]) 97 dX9_climb_95 (by decide) rfl rfl rfl ?_
        refine g_iload 99 dX9_climb_97 rfl rfl ?_
        refine g_ifZ_ne 131 102 dX9_climb_99 rfl rfl (rg01 hc) (fun c4 => ?_) (fun c4 => ?_)
        · refine g_iconst (v := iZ (1)) 132 dX9_climb_131 rfl rfl ?_
          refine g_goto 136 dX9_climb_132 rfl ?_
          refine g_istore (L1 := [some (.ref 50), some (.int (iZ a)), some (.int (iZ b)), some (.int (iZ wd)), some (.int (iZ n)), some (.int (iZ e)), some (.int (iZ 1)), some (.int (iZ o)), some (.int (Kf (B 69) a wd e.toNat))]) 138 dX9_climb_136 (by decide) rfl rfl rfl ?_
          refine g_iincZ [some (.ref 50), some (.int (iZ a)), some (.int (iZ b)), some (.int (iZ wd)), some (.int (iZ n)), some (.int (iZ e)), some (.int (iZ 1)), some (.int (iZ (o + 1))), some (.int (Kf (B 69) a wd e.toNat))] 141 dX9_climb_138 rfl (by omega) (by decide) rfl rfl rfl ?_
          refine g_goto 67 dX9_climb_141 rfl ?_
          refine Go.fgt 8 ?_
          exact ih _ (by omega) (1) (o + 1) rfl (by omega) (by omega) (is1.mk (fun _ => (exS (by omega)).mpr (Or.inl (hE.mp (by omega)))) (fun _ => rfl))
        · refine g_aload_n 103 dX9_climb_102 rfl rfl ?_
          refine g_get 106 dX9_climb_103 faX9_68_X9 f0 rfl rfl ?_
          refine g_iload 108 dX9_climb_106 rfl rfl ?_
          refine g_ialdZ (v := iZ (g o.toNat)) 109 dX9_climb_108 f70 (by omega) (by omega) (by decide) rfl rfl ?_
          refine g_iload 111 dX9_climb_109 rfl rfl ?_
          refine g_iconst (v := iZ (1)) 112 dX9_climb_111 rfl rfl ?_
          refine g_isubZ (n - 1) 113 dX9_climb_112 (by omega) rfl ?_
          refine g_icZ_ne 135 116 dX9_climb_113 rfl rfl (og _) (by omega) (fun c5 => ?_) (fun c5 => ?_)
          · refine g_iconst (v := iZ (0)) 136 dX9_climb_135 rfl rfl ?_
            refine g_istore (L1 := [some (.ref 50), some (.int (iZ a)), some (.int (iZ b)), some (.int (iZ wd)), some (.int (iZ n)), some (.int (iZ e)), some (.int (iZ 0)), some (.int (iZ o)), some (.int (Kf (B 69) a wd e.toNat))]) 138 dX9_climb_136 (by decide) rfl rfl rfl ?_
            refine g_iincZ [some (.ref 50), some (.int (iZ a)), some (.int (iZ b)), some (.int (iZ wd)), some (.int (iZ n)), some (.int (iZ e)), some (.int (iZ 0)), some (.int (iZ (o + 1))), some (.int (Kf (B 69) a wd e.toNat))] 141 dX9_climb_138 rfl (by omega) (by decide) rfl rfl rfl ?_
            refine g_goto 67 dX9_climb_141 rfl ?_
            refine Go.fgt 8 ?_
            exact ih _ (by omega) (0) (o + 1) rfl (by omega) (by omega) (is1.mk (fun q => absurd q (by decide)) (fun q => ((exS (by omega)).mp q).elim (fun z => by have := hE.mpr z; omega) (fun q => absurd q.1 c5)))
          · refine g_aload_n 117 dX9_climb_116 rfl rfl ?_
            refine g_get 120 dX9_climb_117 faX9_62_X9 f0 rfl rfl ?_
            refine g_iload 122 dX9_climb_120 rfl rfl ?_
            have b6 := o68 ((o).toNat)
            refine g_ialdZ (v := iZ ((B 68) o.toNat)) 123 dX9_climb_122 f68 (by omega) (by omega) (by decide) rfl rfl ?_
            refine g_iload 125 dX9_climb_123 rfl rfl ?_
            refine g_iconst (v := iZ (-1)) 126 dX9_climb_125 rfl rfl ?_
            refine g_ixor 127 dX9_climb_126 rfl ?_
            refine g_iand 128 dX9_climb_127 rfl ?_
            refine Go.zof ?_
            refine g_ifZ_ne 135 131 dX9_climb_128 rfl rfl (rg_toInt _) (fun c7 => ?_) (fun c7 => ?_)
            · refine g_iconst (v := iZ (0)) 136 dX9_climb_135 rfl rfl ?_
              refine g_istore (L1 := [some (.ref 50), some (.int (iZ a)), some (.int (iZ b)), some (.int (iZ wd)), some (.int (iZ n)), some (.int (iZ e)), some (.int (iZ 0)), some (.int (iZ o)), some (.int (Kf (B 69) a wd e.toNat))]) 138 dX9_climb_136 (by decide) rfl rfl rfl ?_
              refine g_iincZ [some (.ref 50), some (.int (iZ a)), some (.int (iZ b)), some (.int (iZ wd)), some (.int (iZ n)), some (.int (iZ e)), some (.int (iZ 0)), some (.int (iZ (o + 1))), some (.int (Kf (B 69) a wd e.toNat))] 141 dX9_climb_138 rfl (by omega) (by decide) rfl rfl rfl ?_
              refine g_goto 67 dX9_climb_141 rfl ?_
              refine Go.fgt 8 ?_
              exact ih _ (by omega) (0) (o + 1) rfl (by omega) (by omega) (is1.mk (fun q => absurd q (by decide)) (fun q => ((exS (by omega)).mp q).elim (fun z => by have := hE.mpr z; omega) (fun q => absurd q.2 c7)))
            · refine g_iconst (v := iZ (1)) 132 dX9_climb_131 rfl rfl ?_
              refine g_goto 136 dX9_climb_132 rfl ?_
              refine g_istore (L1 := [some (.ref 50), some (.int (iZ a)), some (.int (iZ b)), some (.int (iZ wd)), some (.int (iZ n)), some (.int (iZ e)), some (.int (iZ 1)), some (.int (iZ o)), some (.int (Kf (B 69) a wd e.toNat))]) 138 dX9_climb_136 (by decide) rfl rfl rfl ?_
              refine g_iincZ [some (.ref 50), some (.int (iZ a)), some (.int (iZ b)), some (.int (iZ wd)), some (.int (iZ n)), some (.int (iZ e)), some (.int (iZ 1)), some (.int (iZ (o + 1))), some (.int (Kf (B 69) a wd e.toNat))] 141 dX9_climb_138 rfl (by omega) (by decide) rfl rfl rfl ?_
              refine g_goto 67 dX9_climb_141 rfl ?_
              refine Go.fgt 8 ?_
              exact ih _ (by omega) (1) (o + 1) rfl (by omega) (by omega) (is1.mk (fun _ => (exS (by omega)).mpr (Or.inr ⟨c5, c7⟩)) (fun _ => rfl))
      · refine g_iload_n 90 dX9_climb_89 rfl rfl ?_
        refine g_goto 94 dX9_climb_90 rfl ?_
        refine g_ior 95 dX9_climb_94 rfl ?_
        refine Go.eqI (Kf (B 69) a wd e.toNat) (by unfold Kf; rw [if_pos (by omega)]) ?_
        refine g_istore (L1 := [some (.ref 50), some (.int (iZ a)), some (.int (iZ b)), some (.int (iZ wd)), some (.int (iZ n)), some (.int (iZ e)), some (.int (iZ c)), some (.int (iZ o)), some (.int (Kf (B 69) a wd e.toNat))]) 97 dX9_climb_95 (by decide) rfl rfl rfl ?_
        refine g_iload 99 dX9_climb_97 rfl rfl ?_
        refine g_ifZ_ne 131 102 dX9_climb_99 rfl rfl (rg01 hc) (fun c8 => ?_) (fun c8 => ?_)
        · refine g_iconst (v := iZ (1)) 132 dX9_climb_131 rfl rfl ?_
          refine g_goto 136 dX9_climb_132 rfl ?_
          refine g_istore (L1 := [some (.ref 50), some (.int (iZ a)), some (.int (iZ b)), some (.int (iZ wd)), some (.int (iZ n)), some (.int (iZ e)), some (.int (iZ 1)), some (.int (iZ o)), some (.int (Kf (B 69) a wd e.toNat))]) 138 dX9_climb_136 (by decide) rfl rfl rfl ?_
          refine g_iincZ [some (.ref 50), some (.int (iZ a)), some (.int (iZ b)), some (.int (iZ wd)), some (.int (iZ n)), some (.int (iZ e)), some (.int (iZ 1)), some (.int (iZ (o + 1))), some (.int (Kf (B 69) a wd e.toNat))] 141 dX9_climb_138 rfl (by omega) (by decide) rfl rfl rfl ?_
          refine g_goto 67 dX9_climb_141 rfl ?_
          refine Go.fgt 8 ?_
          exact ih _ (by omega) (1) (o + 1) rfl (by omega) (by omega) (is1.mk (fun _ => (exS (by omega)).mpr (Or.inl (hE.mp (by omega)))) (fun _ => rfl))
        · refine g_aload_n 103 dX9_climb_102 rfl rfl ?_
          refine g_get 106 dX9_climb_103 faX9_68_X9 f0 rfl rfl ?_
          refine g_iload 108 dX9_climb_106 rfl rfl ?_
          refine g_ialdZ (v := iZ (g o.toNat)) 109 dX9_climb_108 f70 (by omega) (by omega) (by decide) rfl rfl ?_
          refine g_iload 111 dX9_climb_109 rfl rfl ?_
          refine g_iconst (v := iZ (1)) 112 dX9_climb_111 rfl rfl ?_
          refine g_isubZ (n - 1) 113 dX9_climb_112 (by omega) rfl ?_
          refine g_icZ_ne 135 116 dX9_climb_113 rfl rfl (og _) (by omega) (fun c9 => ?_) (fun c9 => ?_)
          · refine g_iconst (v := iZ (0)) 136 dX9_climb_135 rfl rfl ?_
            refine g_istore (L1 := [some (.ref 50), some (.int (iZ a)), some (.int (iZ b)), some (.int (iZ wd)), some (.int (iZ n)), some (.int (iZ e)), some (.int (iZ 0)), some (.int (iZ o)), some (.int (Kf (B 69) a wd e.toNat))]) 138 dX9_climb_136 (by decide) rfl rfl rfl ?_
            refine g_iincZ [some (.ref 50), some (.int (iZ a)), some (.int (iZ b)), some (.int (iZ wd)), some (.int (iZ n)), some (.int (iZ e)), some (.int (iZ 0)), some (.int (iZ (o + 1))), some (.int (Kf (B 69) a wd e.toNat))] 141 dX9_climb_138 rfl (by omega) (by decide) rfl rfl rfl ?_
            refine g_goto 67 dX9_climb_141 rfl ?_
            refine Go.fgt 8 ?_
            exact ih _ (by omega) (0) (o + 1) rfl (by omega) (by omega) (is1.mk (fun q => absurd q (by decide)) (fun q => ((exS (by omega)).mp q).elim (fun z => by have := hE.mpr z; omega) (fun q => absurd q.1 c9)))
          · refine g_aload_n 117 dX9_climb_116 rfl rfl ?_
            refine g_get 120 dX9_climb_117 faX9_62_X9 f0 rfl rfl ?_
            refine g_iload 122 dX9_climb_120 rfl rfl ?_
            have b10 := o68 ((o).toNat)
            refine g_ialdZ (v := iZ ((B 68) o.toNat)) 123 dX9_climb_122 f68 (by omega) (by omega) (by decide) rfl rfl ?_
            refine g_iload 125 dX9_climb_123 rfl rfl ?_
            refine g_iconst (v := iZ (-1)) 126 dX9_climb_125 rfl rfl ?_
            refine g_ixor 127 dX9_climb_126 rfl ?_
            refine g_iand 128 dX9_climb_127 rfl ?_
            refine Go.zof ?_
            refine g_ifZ_ne 135 131 dX9_climb_128 rfl rfl (rg_toInt _) (fun c11 => ?_) (fun c11 => ?_)
            · refine g_iconst (v := iZ (0)) 136 dX9_climb_135 rfl rfl ?_
              refine g_istore (L1 := [some (.ref 50), some (.int (iZ a)), some (.int (iZ b)), some (.int (iZ wd)), some (.int (iZ n)), some (.int (iZ e)), some (.int (iZ 0)), some (.int (iZ o)), some (.int (Kf (B 69) a wd e.toNat))]) 138 dX9_climb_136 (by decide) rfl rfl rfl ?_
              refine g_iincZ [some (.ref 50), some (.int (iZ a)), some (.int (iZ b)), some (.int (iZ wd)), some (.int (iZ n)), some (.int (iZ e)), some (.int (iZ 0)), some (.int (iZ (o + 1))), some (.int (Kf (B 69) a wd e.toNat))] 141 dX9_climb_138 rfl (by omega) (by decide) rfl rfl rfl ?_
              refine g_goto 67 dX9_climb_141 rfl ?_
              refine Go.fgt 8 ?_
              exact ih _ (by omega) (0) (o + 1) rfl (by omega) (by omega) (is1.mk (fun q => absurd q (by decide)) (fun q => ((exS (by omega)).mp q).elim (fun z => by have := hE.mpr z; omega) (fun q => absurd q.2 c11)))
            · refine g_iconst (v := iZ (1)) 132 dX9_climb_131 rfl rfl ?_
              refine g_goto 136 dX9_climb_132 rfl ?_
              refine g_istore (L1 := [some (.ref 50), some (.int (iZ a)), some (.int (iZ b)), some (.int (iZ wd)), some (.int (iZ n)), some (.int (iZ e)), some (.int (iZ 1)), some (.int (iZ o)), some (.int (Kf (B 69) a wd e.toNat))]) 138 dX9_climb_136 (by decide) rfl rfl rfl ?_
              refine g_iincZ [some (.ref 50), some (.int (iZ a)), some (.int (iZ b)), some (.int (iZ wd)), some (.int (iZ n)), some (.int (iZ e)), some (.int (iZ 1)), some (.int (iZ (o + 1))), some (.int (Kf (B 69) a wd e.toNat))] 141 dX9_climb_138 rfl (by omega) (by decide) rfl rfl rfl ?_
              refine g_goto 67 dX9_climb_141 rfl ?_
              refine Go.fgt 8 ?_
              exact ih _ (by omega) (1) (o + 1) rfl (by omega) (by omega) (is1.mk (fun _ => (exS (by omega)).mpr (Or.inr ⟨c9, c11⟩)) (fun _ => rfl))
set_option maxRecDepth 100000 in
theorem cl_M {l : Launch} {Q : Option Value → MH → Prop} {tr : Int64} {w : Nat → Int} {B : Nat → Nat → Int} {a b wd : Int} (o68 : oki 0 65535 (B 68)) (o69 : oki 0 65535 (B 69)) (hen : 0 ≤ w 35 ∧ w 35 ≤ 12) (ha : 0 ≤ a ∧ a < w 35) (hb : 0 ≤ b ∧ b < w 35) (rwd : rg wd) {n : Int} (hn : 1 ≤ n ∧ n ≤ 12) : ∀ (m0 : Nat) (h : MH) (g : Nat → Int) (e : Int), (12 - e).toNat = m0 → 0 ≤ e ∧ e ≤ w 35 → okr g → (∀ j : Nat, (j : Int) < e → g j = lv (w 35).toNat (fun o => iZ (B 68 o)) (Kf (B 69) a wd) b.toNat n.toNat j) → (∀ j : Nat, e ≤ j → (j : Int) < w 35 → g j = lv (w 35).toNat (fun o => iZ (B 68 o)) (Kf (B 69) a wd) b.toNat (n.toNat - 1) j) → h[50]? = some (.inr (8, [.long (tr), .ref 51, .int (iZ (w 2)), .ref 52, .ref 53, .int (iZ (w 5)), .ref 54, .ref 55, .ref 56, .ref 57, .ref 58, .ref 59, .ref 60, .int (iZ (w 13)), .int (iZ (w 14)), .int (iZ (w 15)), .int (iZ (w 16)), .int (iZ (w 17)), .int (iZ (w 18)), .int (iZ (w 19)), .int (iZ (w 20)), .ref 61, .ref 62, .ref 63, .ref 64, .int (iZ (w 25)), .int (iZ (w 26)), .int (iZ (w 27)), .int (iZ (w 28)), .int (iZ (w 29)), .int (iZ (w 30)), .int (iZ (w 31)), .ref 65, .ref 66, .ref 67, .int (iZ (w 35)), .ref 68, .ref 69, .ref 70])) → h[68]? = some (.inl (0, 12, .inl (zA (B 68)))) → h[69]? = some (.inl (0, 12, .inl (zA (B 69)))) → h[70]? = some (.inl (0, 12, .inl (zA g))) → (∀ (h1 : MH) (g1 : Nat → Int), okr g1 → (∀ j : Nat, (j : Int) < w 35 → g1 j = lv (w 35).toNat (fun o => iZ (B 68 o)) (Kf (B 69) a wd) b.toNat n.toNat j) → Sm [70] h h1 → h1[70]? = some (.inl (0, 12, .inl (zA g1))) → Go l mX9_climb 186 [some (.ref 50), some (.int (iZ a)), some (.int (iZ b)), some (.int (iZ wd)), some (.int (iZ n)), none, none, none, none] [] h1 Q) → Go l mX9_climb 52 [some (.ref 50), some (.int (iZ a)), some (.int (iZ b)), some (.int (iZ wd)), some (.int (iZ n)), some (.int (iZ e)), none, none, none] [] h Q := by
  intro m0
  induction m0 using Nat.strongRecOn with
  | ind m0 ih =>
    intro h g e hmz he og hA hB f0 f68 f69 f70 k
    refine g_iload 54 dX9_climb_52 rfl rfl ?_
    refine g_aload_n 55 dX9_climb_54 rfl rfl ?_
    refine g_get 58 dX9_climb_55 faX9_236_X9 f0 rfl rfl ?_
    refine g_icZ_ge 186 61 dX9_climb_58 rfl rfl (by omega) (by omega) (fun c1 => ?_) (fun c1 => ?_)
    · refine Go.fgt 5 ?_
      exact k h g og (fun j hj => hA j (by omega)) (Sm.refl _ _) f70
    · refine g_iconst (v := iZ (0)) 62 dX9_climb_61 rfl rfl ?_
      refine g_istore (L1 := [some (.ref 50), some (.int (iZ a)), some (.int (iZ b)), some (.int (iZ wd)), some (.int (iZ n)), some (.int (iZ e)), some (.int (iZ 0)), none, none]) 64 dX9_climb_62 (by decide) rfl rfl rfl ?_
      refine g_iconst (v := iZ (0)) 65 dX9_climb_64 rfl rfl ?_
      refine g_istore (L1 := [some (.ref 50), some (.int (iZ a)), some (.int (iZ b)), some (.int (iZ wd)), some (.int (iZ n)), some (.int (iZ e)), some (.int (iZ 0)), some (.int (iZ 0)), none]) 67 dX9_climb_65 (by decide) rfl rfl rfl ?_
      refine cl_I o68 o69 hen ha hb rwd og hn (by omega) f0 f68 f69 f70 (fun c2 hc2 ec2 => ?_) _ 0 0 rfl (by omega) (Or.inl rfl) (is1.mk (fun q => absurd q (by decide)) (fun ⟨j, q, _⟩ => by omega))
      refine g_aload_n 145 dX9_climb_144 rfl rfl ?_
      refine g_get 148 dX9_climb_145 faX9_68_X9 f0 rfl rfl ?_
      refine g_iload 150 dX9_climb_148 rfl rfl ?_
      refine g_aload_n 151 dX9_climb_150 rfl rfl ?_
      refine g_get 154 dX9_climb_151 faX9_68_X9 f0 rfl rfl ?_
      refine g_iload 156 dX9_climb_154 rfl rfl ?_
      refine g_ialdZ (v := iZ (g e.toNat)) 157 dX9_climb_156 f70 (by omega) (by omega) (by decide) rfl rfl ?_
      refine g_bipush (v := iZ (-9)) 159 dX9_climb_157 (by decide +kernel) rfl ?_
      refine g_icZ_ne 172 162 dX9_climb_159 rfl rfl (og _) (by decide) (fun c3 => ?_) (fun c3 => ?_)
      · refine g_aload_n 173 dX9_climb_172 rfl rfl ?_
        refine g_get 176 dX9_climb_173 faX9_68_X9 f0 rfl rfl ?_
        refine g_iload 178 dX9_climb_176 rfl rfl ?_
        refine g_ialdZ (v := iZ (g e.toNat)) 179 dX9_climb_178 f70 (by omega) (by omega) (by decide) rfl rfl ?_
        refine g_iastFj (e.toNat) 180 dX9_climb_179 f70 (by omega) (by omega) (by decide) rfl rfl (fun h4 s5 f6 => ?_)
        refine g_iincZ [some (.ref 50), some (.int (iZ a)), some (.int (iZ b)), some (.int (iZ wd)), some (.int (iZ n)), some (.int (iZ (e + 1))), some (.int (iZ c2)), none, none] 183 dX9_climb_180 rfl (by omega) (by decide) rfl rfl rfl ?_
        refine g_goto 52 dX9_climb_183 rfl ?_
        refine Go.fgt 6 ?_
        have hv := mid_c (v := (g e.toNat)) (c := c2) (by omega) (by omega) (by omega) hA hB ec2 (by omega)
        have f7 := (s5.get (by decide) f0)
        have f8 := (s5.get (by decide) f68)
        have f9 := (s5.get (by decide) f69)
        exact ih _ (by omega) _ _ (e + 1) rfl (by omega) (okr_up og _ (og _)) (upA (by omega) hA hv) (upB (by omega) hB) f7 f8 f9 f6 (fun h1 g1 o1 e1 s1 u1 => k h1 g1 o1 e1 (s5.tr s1 (fun _ q => q) (fun _ q => q)) u1)
      · refine g_iload 164 dX9_climb_162 rfl rfl ?_
        refine g_ifZ_eq 172 167 dX9_climb_164 rfl rfl (rg01 hc2) (fun c10 => ?_) (fun c10 => ?_)
        · refine g_aload_n 173 dX9_climb_172 rfl rfl ?_
          refine g_get 176 dX9_climb_173 faX9_68_X9 f0 rfl rfl ?_
          refine g_iload 178 dX9_climb_176 rfl rfl ?_
          refine g_ialdZ (v := iZ (g e.toNat)) 179 dX9_climb_178 f70 (by omega) (by omega) (by decide) rfl rfl ?_
          refine g_iastFj (e.toNat) 180 dX9_climb_179 f70 (by omega) (by omega) (by decide) rfl rfl (fun h11 s12 f13 => ?_)
          refine g_iincZ [some (.ref 50), some (.int (iZ a)), some (.int (iZ b)), some (.int (iZ wd)), some (.int (iZ n)), some (.int (iZ (e + 1))), some (.int (iZ c2)), none, none] 183 dX9_climb_180 rfl (by omega) (by decide) rfl rfl rfl ?_
          refine g_goto 52 dX9_climb_183 rfl ?_
          refine Go.fgt 6 ?_
          have hv := mid_c (v := (g e.toNat)) (c := c2) (by omega) (by omega) (by omega) hA hB ec2 (by omega)
          have f14 := (s12.get (by decide) f0)
          have f15 := (s12.get (by decide) f68)
          have f16 := (s12.get (by decide) f69)
          exact ih _ (by omega) _ _ (e + 1) rfl (by omega) (okr_up og _ (og _)) (upA (by omega) hA hv) (upB (by omega) hB) f14 f15 f16 f13 (fun h1 g1 o1 e1 s1 u1 => k h1 g1 o1 e1 (s12.tr s1 (fun _ q => q) (fun _ q => q)) u1)
        · refine g_iload 169 dX9_climb_167 rfl rfl ?_
          refine g_goto 179 dX9_climb_169 rfl ?_
          refine g_iastFj (e.toNat) 180 dX9_climb_179 f70 (by omega) (by omega) (by decide) rfl rfl (fun h17 s18 f19 => ?_)
          refine g_iincZ [some (.ref 50), some (.int (iZ a)), some (.int (iZ b)), some (.int (iZ wd)), some (.int (iZ n)), some (.int (iZ (e + 1))), some (.int (iZ c2)), none, none] 183 dX9_climb_180 rfl (by omega) (by decide) rfl rfl rfl ?_
          refine g_goto 52 dX9_climb_183 rfl ?_
          refine Go.fgt 6 ?_
          have hv := mid_c (v := n) (c := c2) (by omega) (by omega) (by omega) hA hB ec2 (by omega)
          have f20 := (s18.get (by decide) f0)
          have f21 := (s18.get (by decide) f68)
          have f22 := (s18.get (by decide) f69)
          exact ih _ (by omega) _ _ (e + 1) rfl (by omega) (okr_up og _ (by omega)) (upA (by omega) hA hv) (upB (by omega) hB) f20 f21 f22 f19 (fun h1 g1 o1 e1 s1 u1 => k h1 g1 o1 e1 (s18.tr s1 (fun _ q => q) (fun _ q => q)) u1)
set_option maxRecDepth 100000 in
theorem cl_O {l : Launch} {Q : Option Value → MH → Prop} {tr : Int64} {w : Nat → Int} {B : Nat → Nat → Int} {a b wd : Int} (o68 : oki 0 65535 (B 68)) (o69 : oki 0 65535 (B 69)) (hen : 0 ≤ w 35 ∧ w 35 ≤ 12) (ha : 0 ≤ a ∧ a < w 35) (hb : 0 ≤ b ∧ b < w 35) (rwd : rg wd) : ∀ (m0 : Nat) (h : MH) (g : Nat → Int) (n : Int), (12 - n).toNat = m0 → 1 ≤ n ∧ n ≤ w 35 → okr g → (∀ j : Nat, (j : Int) < w 35 → g j = lv (w 35).toNat (fun o => iZ (B 68 o)) (Kf (B 69) a wd) b.toNat (n.toNat - 1) j) → h[50]? = some (.inr (8, [.long (tr), .ref 51, .int (iZ (w 2)), .ref 52, .ref 53, .int (iZ (w 5)), .ref 54, .ref 55, .ref 56, .ref 57, .ref 58, .ref 59, .ref 60, .int (iZ (w 13)), .int (iZ (w 14)), .int (iZ (w 15)), .int (iZ (w 16)), .int (iZ (w 17)), .int (iZ (w 18)), .int (iZ (w 19)), .int (iZ (w 20)), .ref 61, .ref 62, .ref 63, .ref 64, .int (iZ (w 25)), .int (iZ (w 26)), .int (iZ (w 27)), .int (iZ (w 28)), .int (iZ (w 29)), .int (iZ (w 30)), .int (iZ (w 31)), .ref 65, .ref 66, .ref 67, .int (iZ (w 35)), .ref 68, .ref 69, .ref 70])) → h[68]? = some (.inl (0, 12, .inl (zA (B 68)))) → h[69]? = some (.inl (0, 12, .inl (zA (B 69)))) → h[70]? = some (.inl (0, 12, .inl (zA g))) → (∀ (h1 : MH) (g1 : Nat → Int), okr g1 → (∀ j : Nat, (j : Int) < w 35 → g1 j = lv (w 35).toNat (fun o => iZ (B 68 o)) (Kf (B 69) a wd) b.toNat ((w 35).toNat - 1) j) → Sm [70] h h1 → h1[70]? = some (.inl (0, 12, .inl (zA g1))) → Q (some (.int (iZ (g1 a.toNat)))) h1) → Go l mX9_climb 40 [some (.ref 50), some (.int (iZ a)), some (.int (iZ b)), some (.int (iZ wd)), some (.int (iZ n)), none, none, none, none] [] h Q := by
  intro m0
  induction m0 using Nat.strongRecOn with
  | ind m0 ih =>
    intro h g n hmz hn og hA f0 f68 f69 f70 k
    refine g_iload 42 dX9_climb_40 rfl rfl ?_
    refine g_aload_n 43 dX9_climb_42 rfl rfl ?_
    refine g_get 46 dX9_climb_43 faX9_236_X9 f0 rfl rfl ?_
    refine g_icZ_ge 192 49 dX9_climb_46 rfl rfl (by omega) (by omega) (fun c1 => ?_) (fun c1 => ?_)
    · refine g_aload_n 193 dX9_climb_192 rfl rfl ?_
      refine g_get 196 dX9_climb_193 faX9_68_X9 f0 rfl rfl ?_
      refine g_iload_n 197 dX9_climb_196 rfl rfl ?_
      refine g_ialdZ (v := iZ (g a.toNat)) 198 dX9_climb_197 f70 (by omega) (by omega) (by decide) rfl rfl ?_
      refine g_iret rfl dX9_climb_198 ?_
      have e9 : n = w 35 := by omega
      rw [e9] at hA
      exact k h g og hA (Sm.refl _ _) f70
    · refine g_iconst (v := iZ (0)) 50 dX9_climb_49 rfl rfl ?_
      refine g_istore (L1 := [some (.ref 50), some (.int (iZ a)), some (.int (iZ b)), some (.int (iZ wd)), some (.int (iZ n)), some (.int (iZ 0)), none, none, none]) 52 dX9_climb_50 (by decide) rfl rfl rfl ?_
      refine cl_M o68 o69 hen ha hb rwd (by omega) _ _ _ 0 rfl (by omega) og (fun j hj => by omega) (fun j _ hj => hA j hj) f0 f68 f69 f70 (fun h2 g3 og3 e4 s5 f6 => ?_)
      refine g_iincZ [some (.ref 50), some (.int (iZ a)), some (.int (iZ b)), some (.int (iZ wd)), some (.int (iZ (n + 1))), none, none, none, none] 189 dX9_climb_186 rfl (by omega) (by decide) rfl rfl rfl ?_
      refine g_goto 40 dX9_climb_189 rfl ?_
      have e9 : (n + 1).toNat - 1 = n.toNat := by omega
      have f7 := (s5.get (by decide) f0)
      have f8 := (s5.get (by decide) f68)
      have f9 := (s5.get (by decide) f69)
      exact ih _ (by omega) _ _ (n + 1) rfl (by omega) og3 (by rw [e9]; exact e4) f7 f8 f9 f6 (fun h1 g1 o1 e1 s1 u1 => k h1 g1 o1 e1 (s5.tr s1 (fun _ q => q) (fun _ q => q)) u1)
set_option maxRecDepth 100000 in
theorem cl_F {l : Launch} {Q : Option Value → MH → Prop} {tr : Int64} {w : Nat → Int} {B : Nat → Nat → Int} {a b wd : Int} (o68 : oki 0 65535 (B 68)) (o69 : oki 0 65535 (B 69)) (hen : 0 ≤ w 35 ∧ w 35 ≤ 12) (ha : 0 ≤ a ∧ a < w 35) (hb : 0 ≤ b ∧ b < w 35) (rwd : rg wd) : ∀ (m0 : Nat) (h : MH) (g : Nat → Int) (e : Int), (12 - e).toNat = m0 → 0 ≤ e ∧ e ≤ w 35 → okr g → (∀ j : Nat, (j : Int) < e → g j = lv (w 35).toNat (fun o => iZ (B 68 o)) (Kf (B 69) a wd) b.toNat 0 j) → h[50]? = some (.inr (8, [.long (tr), .ref 51, .int (iZ (w 2)), .ref 52, .ref 53, .int (iZ (w 5)), .ref 54, .ref 55, .ref 56, .ref 57, .ref 58, .ref 59, .ref 60, .int (iZ (w 13)), .int (iZ (w 14)), .int (iZ (w 15)), .int (iZ (w 16)), .int (iZ (w 17)), .int (iZ (w 18)), .int (iZ (w 19)), .int (iZ (w 20)), .ref 61, .ref 62, .ref 63, .ref 64, .int (iZ (w 25)), .int (iZ (w 26)), .int (iZ (w 27)), .int (iZ (w 28)), .int (iZ (w 29)), .int (iZ (w 30)), .int (iZ (w 31)), .ref 65, .ref 66, .ref 67, .int (iZ (w 35)), .ref 68, .ref 69, .ref 70])) → h[68]? = some (.inl (0, 12, .inl (zA (B 68)))) → h[69]? = some (.inl (0, 12, .inl (zA (B 69)))) → h[70]? = some (.inl (0, 12, .inl (zA g))) → (∀ (h1 : MH) (g1 : Nat → Int), okr g1 → (∀ j : Nat, (j : Int) < w 35 → g1 j = lv (w 35).toNat (fun o => iZ (B 68 o)) (Kf (B 69) a wd) b.toNat ((w 35).toNat - 1) j) → Sm [70] h h1 → h1[70]? = some (.inl (0, 12, .inl (zA g1))) → Q (some (.int (iZ (g1 a.toNat)))) h1) → Go l mX9_climb 3 [some (.ref 50), some (.int (iZ a)), some (.int (iZ b)), some (.int (iZ wd)), some (.int (iZ e)), none, none, none, none] [] h Q := by
  intro m0
  induction m0 using Nat.strongRecOn with
  | ind m0 ih =>
    intro h g e hmz he og hA f0 f68 f69 f70 k
    refine g_iload 5 dX9_climb_3 rfl rfl ?_
    refine g_aload_n 6 dX9_climb_5 rfl rfl ?_
    refine g_get 9 dX9_climb_6 faX9_236_X9 f0 rfl rfl ?_
    refine g_icZ_ge 37 12 dX9_climb_9 rfl rfl (by omega) (by omega) (fun c1 => ?_) (fun c1 => ?_)
    · refine g_iconst (v := iZ (1)) 38 dX9_climb_37 rfl rfl ?_
      refine g_istore (L1 := [some (.ref 50), some (.int (iZ a)), some (.int (iZ b)), some (.int (iZ wd)), some (.int (iZ 1)), none, none, none, none]) 40 dX9_climb_38 (by decide) rfl rfl rfl ?_
      exact cl_O o68 o69 hen ha hb rwd _ _ _ 1 rfl (by omega) og (fun j hj => hA j (by omega)) f0 f68 f69 f70 k
    · refine g_aload_n 13 dX9_climb_12 rfl rfl ?_
      refine g_get 16 dX9_climb_13 faX9_68_X9 f0 rfl rfl ?_
      refine g_iload 18 dX9_climb_16 rfl rfl ?_
      refine g_iload 20 dX9_climb_18 rfl rfl ?_
      refine g_iload_n 21 dX9_climb_20 rfl rfl ?_
      refine g_icZ_ne 28 24 dX9_climb_21 rfl rfl (by omega) (by omega) (fun c2 => ?_) (fun c2 => ?_)
      · refine g_bipush (v := iZ (-9)) 30 dX9_climb_28 (by decide +kernel) rfl ?_
        refine g_iastFj (e.toNat) 31 dX9_climb_30 f70 (by omega) (by omega) (by decide) rfl rfl (fun h3 s4 f5 => ?_)
        refine g_iincZ [some (.ref 50), some (.int (iZ a)), some (.int (iZ b)), some (.int (iZ wd)), some (.int (iZ (e + 1))), none, none, none, none] 34 dX9_climb_31 rfl (by omega) (by decide) rfl rfl rfl ?_
        refine g_goto 3 dX9_climb_34 rfl ?_
        have hv : (-9 : Int) = lv (w 35).toNat (fun o => iZ (B 68 o)) (Kf (B 69) a wd) b.toNat 0 e.toNat := by unfold lv; rw [if_neg (by omega)]
        have f6 := (s4.get (by decide) f0)
        have f7 := (s4.get (by decide) f68)
        have f8 := (s4.get (by decide) f69)
        exact ih _ (by omega) _ _ (e + 1) rfl (by omega) (okr_up og _ (by decide)) (upA (by omega) hA hv) f6 f7 f8 f5 (fun h1 g1 o1 e1 s1 u1 => k h1 g1 o1 e1 (s4.tr s1 (fun _ q => q) (fun _ q => q)) u1)
      · refine g_iconst (v := iZ (0)) 25 dX9_climb_24 rfl rfl ?_
        refine g_goto 30 dX9_climb_25 rfl ?_
        refine g_iastFj (e.toNat) 31 dX9_climb_30 f70 (by omega) (by omega) (by decide) rfl rfl (fun h9 s10 f11 => ?_)
        refine g_iincZ [some (.ref 50), some (.int (iZ a)), some (.int (iZ b)), some (.int (iZ wd)), some (.int (iZ (e + 1))), none, none, none, none] 34 dX9_climb_31 rfl (by omega) (by decide) rfl rfl rfl ?_
        refine g_goto 3 dX9_climb_34 rfl ?_
        have hv : (0 : Int) = lv (w 35).toNat (fun o => iZ (B 68 o)) (Kf (B 69) a wd) b.toNat 0 e.toNat := by unfold lv; rw [if_pos (by omega)]
        have f12 := (s10.get (by decide) f0)
        have f13 := (s10.get (by decide) f68)
        have f14 := (s10.get (by decide) f69)
        exact ih _ (by omega) _ _ (e + 1) rfl (by omega) (okr_up og _ (by decide)) (upA (by omega) hA hv) f12 f13 f14 f11 (fun h1 g1 o1 e1 s1 u1 => k h1 g1 o1 e1 (s10.tr s1 (fun _ q => q) (fun _ q => q)) u1)

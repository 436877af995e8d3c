set_option maxRecDepth 100000 in
theorem lp9_run {l : Launch} {Q : Option Value → MH → Prop} {tr : Int64} {w : Nat → Int} {mm ou : Nat → Int} {hm : Int} (hw : 0 ≤ w 25 ∧ w 25 ≤ 256) (hh : 0 ≤ hm ∧ hm ≤ 3) (omm : oki 0 255 mm) (oou : oki 0 255 ou) : ∀ (m0 : Nat) (h : MH) (f g : Nat → Int) (j : Int), (256 - j).toNat = m0 → 0 ≤ j ∧ j ≤ 256 → okr f → okr g → h[50]? = some (.inr (8, [.long (tr), .ref 51, .int (iZ (w 2)), .ref 52, .ref 53, .int (iZ (w 5)), .ref 54, .ref 55, .ref 56, .ref 57, .ref 58, .ref 59, .ref 60, .int (iZ (w 13)), .int (iZ (w 14)), .int (iZ (w 15)), .int (iZ (w 16)), .int (iZ (w 17)), .int (iZ (w 18)), .int (iZ (w 19)), .int (iZ (w 20)), .ref 61, .ref 62, .ref 63, .ref 64, .int (iZ (w 25)), .int (iZ (w 26)), .int (iZ (w 27)), .int (iZ (w 28)), .int (iZ (w 29)), .int (iZ (w 30)), .int (iZ (w 31)), .ref 65, .ref 66, .ref 67, .int (iZ (w 35)), .ref 68, .ref 69, .ref 70])) → h[62]? = some (.inl (0, 256, .inl (zA mm))) → h[63]? = some (.inl (0, 256, .inl (zA ou))) → h[66]? = some (.inl (0, 256, .inl (zA f))) → h[67]? = some (.inl (0, 256, .inl (zA g))) → (∀ q : Nat, (q : Int) < j → g q = mm q ∧ ((q : Int) < w 25 → f q = ou q)) → (∀ (h1 : MH) (f1 g1 : Nat → Int) (r : Int), rg r → okr f1 → okr g1 → agr 256 g1 mm → agr (w 25) f1 ou → Sm [66, 67] h h1 → h1[66]? = some (.inl (0, 256, .inl (zA f1))) → h1[67]? = some (.inl (0, 256, .inl (zA g1))) → Q (some (.int (iZ r))) h1) → Go l mX9_run 87 [some (.ref 50), none, none, some (.int (iZ hm)), some (.int (iZ j))] [] h Q := by
  intro m0
  induction m0 using Nat.strongRecOn with
  | ind m0 ih =>
    intro h f g j hmz hj of og f0 f62 f63 f66 f67 hE k
    refine g_iload 89 dX9_run_87 rfl rfl ?_
    refine g_sipush (v := iZ (256)) 92 dX9_run_89 (by decide +kernel) rfl ?_
    refine g_icZ_ge 142 95 dX9_run_92 rfl rfl (by omega) (by decide) (fun c1 => ?_) (fun c1 => ?_)
    · refine g_iload_n 143 dX9_run_142 rfl rfl ?_
      refine g_ifZ_ne 153 146 dX9_run_143 rfl rfl (by omega) (fun c2 => ?_) (fun c2 => ?_)
      · refine g_bipush (v := iZ (-10)) 155 dX9_run_153 (by decide +kernel) rfl ?_
        refine g_iload_n 156 dX9_run_155 rfl rfl ?_
        refine g_isubZ ((-10) - hm) 157 dX9_run_156 (by omega) rfl ?_
        refine g_iret rfl dX9_run_157 ?_
        exact k h f g ((-10) - hm) (by omega) of og (fun q hq => (hE q (by omega)).1) (fun q hq => (hE q (by omega)).2 hq) (Sm.refl _ _) f66 f67
      · refine g_aload_n 147 dX9_run_146 rfl rfl ?_
        refine g_get 150 dX9_run_147 faX9_184_X9 f0 rfl rfl ?_
        refine g_goto 157 dX9_run_150 rfl ?_
        refine g_iret rfl dX9_run_157 ?_
        exact k h f g (w 25) (by omega) of og (fun q hq => (hE q (by omega)).1) (fun q hq => (hE q (by omega)).2 hq) (Sm.refl _ _) f66 f67
    · refine g_aload_n 96 dX9_run_95 rfl rfl ?_
      refine g_get 99 dX9_run_96 faX9_56_X9 f0 rfl rfl ?_
      refine g_iload 101 dX9_run_99 rfl rfl ?_
      refine g_iload 103 dX9_run_101 rfl rfl ?_
      refine g_aload_n 104 dX9_run_103 rfl rfl ?_
      refine g_get 107 dX9_run_104 faX9_184_X9 f0 rfl rfl ?_
      refine g_icZ_ge 120 110 dX9_run_107 rfl rfl (by omega) (by omega) (fun c3 => ?_) (fun c3 => ?_)
      · refine g_iconst (v := iZ (0)) 121 dX9_run_120 rfl rfl ?_
        refine g_iastFj (j.toNat) 122 dX9_run_121 f66 (by omega) (by omega) (by decide) rfl rfl (fun h4 s5 f6 => ?_)
        refine g_aload_n 123 dX9_run_122 rfl rfl ?_
        have f7 := (s5.get (by decide) f0)
        refine g_get 126 dX9_run_123 faX9_59_X9 f7 rfl rfl ?_
        refine g_iload 128 dX9_run_126 rfl rfl ?_
        refine g_aload_n 129 dX9_run_128 rfl rfl ?_
        refine g_get 132 dX9_run_129 faX9_44_X9 f7 rfl rfl ?_
        refine g_iload 134 dX9_run_132 rfl rfl ?_
        have f8 := (s5.get (by decide) f62)
        have b9 := omm ((j).toNat)
        refine g_ialdZ (v := iZ (mm j.toNat)) 135 dX9_run_134 f8 (by omega) (by omega) (by decide) rfl rfl ?_
        have f10 := (s5.get (by decide) f67)
        refine g_iastFj (j.toNat) 136 dX9_run_135 f10 (by omega) (by omega) (by decide) rfl rfl (fun h11 s12 f13 => ?_)
        refine g_iincZ [some (.ref 50), none, none, some (.int (iZ hm)), some (.int (iZ (j + 1)))] 139 dX9_run_136 rfl (by omega) (by decide) rfl rfl rfl ?_
        refine g_goto 87 dX9_run_139 rfl ?_
        have f14 := (s12.get (by decide) f7)
        have f15 := (s12.get (by decide) f8)
        have f16 := (s12.get (by decide) (s5.get (by decide) f63))
        have f17 := (s12.get (by decide) f6)
        refine ih _ (by omega) _ _ _ (j + 1) rfl (by omega) (okr_up of _ (by decide)) (okr_up og _ (by omega)) f14 f15 f16 f17 f13 ?_ (fun h1 f1 g1 r rr o1 o2 e1 e2 s1 u1 u2 => k h1 f1 g1 r rr o1 o2 e1 e2 ((((Sm.refl [66, 67] _).tr s5 (fun _ q => q) (by simp)).tr s12 (fun _ q => q) (by simp)).tr s1 (fun _ q => q) (fun _ q => q)) u1 u2)
        intro q hq
        by_cases e : (q : Int) = j
        · have e2 : q = j.toNat := by omega
          subst e2
          rw [up_eq, up_eq]
          exact ⟨rfl, fun z => by first | rfl | (exfalso; omega)⟩
        · rw [up_ne (by omega), up_ne (by omega)]
          exact hE q (by omega)
      · refine g_aload_n 111 dX9_run_110 rfl rfl ?_
        refine g_get 114 dX9_run_111 faX9_47_X9 f0 rfl rfl ?_
        refine g_iload 116 dX9_run_114 rfl rfl ?_
        have b18 := oou ((j).toNat)
        refine g_ialdZ (v := iZ (ou j.toNat)) 117 dX9_run_116 f63 (by omega) (by omega) (by decide) rfl rfl ?_
        refine g_goto 121 dX9_run_117 rfl ?_
        refine g_iastFj (j.toNat) 122 dX9_run_121 f66 (by omega) (by omega) (by decide) rfl rfl (fun h19 s20 f21 => ?_)
        refine g_aload_n 123 dX9_run_122 rfl rfl ?_
        have f22 := (s20.get (by decide) f0)
        refine g_get 126 dX9_run_123 faX9_59_X9 f22 rfl rfl ?_
        refine g_iload 128 dX9_run_126 rfl rfl ?_
        refine g_aload_n 129 dX9_run_128 rfl rfl ?_
        refine g_get 132 dX9_run_129 faX9_44_X9 f22 rfl rfl ?_
        refine g_iload 134 dX9_run_132 rfl rfl ?_
        have f23 := (s20.get (by decide) f62)
        have b24 := omm ((j).toNat)
        refine g_ialdZ (v := iZ (mm j.toNat)) 135 dX9_run_134 f23 (by omega) (by omega) (by decide) rfl rfl ?_
        have f25 := (s20.get (by decide) f67)
        refine g_iastFj (j.toNat) 136 dX9_run_135 f25 (by omega) (by omega) (by decide) rfl rfl (fun h26 s27 f28 => ?_)
        refine g_iincZ [some (.ref 50), none, none, some (.int (iZ hm)), some (.int (iZ (j + 1)))] 139 dX9_run_136 rfl (by omega) (by decide) rfl rfl rfl ?_
        refine g_goto 87 dX9_run_139 rfl ?_
        have f29 := (s27.get (by decide) f22)
        have f30 := (s27.get (by decide) f23)
        have f31 := (s27.get (by decide) (s20.get (by decide) f63))
        have f32 := (s27.get (by decide) f21)
        refine ih _ (by omega) _ _ _ (j + 1) rfl (by omega) (okr_up of _ (by omega)) (okr_up og _ (by omega)) f29 f30 f31 f32 f28 ?_ (fun h1 f1 g1 r rr o1 o2 e1 e2 s1 u1 u2 => k h1 f1 g1 r rr o1 o2 e1 e2 ((((Sm.refl [66, 67] _).tr s20 (fun _ q => q) (by simp)).tr s27 (fun _ q => q) (by simp)).tr s1 (fun _ q => q) (fun _ q => q)) u1 u2)
        intro q hq
        by_cases e : (q : Int) = j
        · have e2 : q = j.toNat := by omega
          subst e2
          rw [up_eq, up_eq]
          exact ⟨rfl, fun z => by first | rfl | (exfalso; omega)⟩
        · rw [up_ne (by omega), up_ne (by omega)]
          exact hE q (by omega)
def AgR (w : Nat → Int) (B : Nat → Nat → Int) (w1 : Nat → Int) (B1 : Nat → Nat → Int) : Prop := w1 2 = w 2 ∧ w1 35 = w 35 ∧ w1 5 = w 5 ∧ B1 53 = B 53
theorem ru_ref {R : Int × MS} {hm a x p e d t c tc i0 t0 : Int} {m ou ol q lm lo q1 lm1 lo1 : Nat → Int} (h : rnR R hm a x p e d t c m ou ol) (hv : 0 ≤ t0 ∧ t0 < tc ∧ 0 ≤ i0 ∧ i0 ≤ 7) (e0 : q1 0 = d) (e1 : q1 1 = t) (e2 : q1 2 = a) (e3 : q1 3 = x) (e4 : q1 4 = p) (e5 : q1 5 = c) (em : agr 256 lm1 m) (eo : agr c lo1 ou) : ruP R tc q lm lo t0 i0 q1 lm1 lo1 := by
  obtain ⟨-, h1, h2, h3, -, h5, h6, h7, h8, h9, -⟩ := h
  refine ⟨fun _ => ⟨e0.trans h5.symm, e1.trans h6.symm, e2.trans h1.symm, e3.trans h2.symm, e4.trans h3.symm, e5.trans h7.symm, fun j hj => ?_, fun j hj => ?_⟩, fun z => absurd hv z⟩
  · rw [h8]
    exact em j hj
  · rw [e5] at hj
    exact (eo j hj).trans (h9 j hj).symm
set_option maxRecDepth 100000 in
theorem b_run {l : Launch} {h : MH} {Q : Option Value → MH → Prop} {tr : Int64} {ty tx : Nat → Int32} {w : Nat → Int} {B : Nat → Nat → Int} {t i : Int} (H : R9B h tr ty tx w B) (rt : rg t) (ri : rg i) (k : ∀ (h1 : MH) (w1 : Nat → Int) (B1 : Nat → Nat → Int) (r : Int), rg r → ruP (run0 (B 53 i.toNat) (fun j => hb tx (200 * i + j)) (B 56 t.toNat) (refB B t.toNat)) (w 5) (B 65) (B 67) (B 66) t i (B1 65) (B1 67) (B1 66) → R9B h1 tr ty tx w1 B1 → AgR w B w1 B1 → TR (w 5).toNat (refV B) (refB B) (refL B) (refV B1) (refB B1) (refL B1) → Sm [50, 51, 52, 53, 54, 55, 56, 57, 58, 59, 60, 61, 62, 63, 64, 65, 66, 67, 68, 69, 70] h h1 → Q (some (.int (iZ r))) h1) : Go l mX9_run 0 [some (.ref 50), some (.int (iZ t)), some (.int (iZ i)), none, none] [] h Q := by
  have n0 := H.2.2.1.2.1
  refine g_aload_n 1 dX9_run_0 rfl rfl ?_
  refine g_iload_n 2 dX9_run_1 rfl rfl ?_
  obtain ⟨F50_1, ⟨F51_1, F52_1, F53_1, F54_1, F55_1, F56_1, F57_1, F58_1, F59_1, F60_1, F61_1, F62_1, F63_1, F64_1, F65_1, F66_1, F67_1, F68_1, F69_1, F70_1, kty_1, ktx_1⟩, ⟨r2_1, r5_1, r13_1, r14_1, r15_1, r16_1, r17_1, r18_1, r19_1, r20_1, r25_1, r26_1, r27_1, r28_1, r29_1, r30_1, r31_1, r35_1⟩, ⟨o53_1, o54_1, o55_1, o56_1, o57_1, o58_1, o59_1, o60_1, o61_1, o62_1, o63_1, o64_1, o65_1, o66_1, o67_1, o68_1, o69_1, o70_1⟩, hT_1⟩ := id H
  refine g_callV (z := mX9_isTool) (As := [.int (iZ t)]) 5 dX9_run_2 mwX9_isTool ⟨by decide, by decide⟩ rfl wlX9_178 wiX9_isTool wsX9_isTool F50_1 rfl rfl rfl (nle rfl) (nle rfl) rfl ?_
  refine b_isTool H rt (fun z2 rz2 => ?_)
  refine rI ?_
  refine g_ifZ_eq 15 8 dX9_run_5 rfl rfl (rg01 (by omega)) (fun c3 => ?_) (fun c3 => ?_)
  · refine g_iconst (v := iZ (-1)) 16 dX9_run_15 rfl rfl ?_
    refine g_iret rfl dX9_run_16 ?_
    exact k _ w B (-1) (by decide) ⟨fun z => by omega, fun _ => ⟨⟨rfl, rfl, rfl, rfl, rfl, rfl⟩, fun _ _ => rfl, fun _ _ => rfl⟩⟩ H ⟨rfl, rfl, rfl, rfl⟩ (TR.refl _ _ _ _) (Sm.refl _ _)
  · refine g_iload_n 9 dX9_run_8 rfl rfl ?_
    refine g_callS (z := mX9_isText) (As := [.int (iZ i)]) 12 dX9_run_9 mwX9_isText ⟨by decide, by decide⟩ rfl wlX9_81 wtX9_isText rfl (nle rfl) (nle rfl) rfl ?_
    refine n_isText  ri (fun z4 rz4 => ?_)
    refine rI ?_
    refine g_ifZ_ne 17 15 dX9_run_12 rfl rfl (rg01 (by omega)) (fun c5 => ?_) (fun c5 => ?_)
    · refine g_aload_n 18 dX9_run_17 rfl rfl ?_
      refine g_iload_n 19 dX9_run_18 rfl rfl ?_
      refine g_iload_n 20 dX9_run_19 rfl rfl ?_
      refine g_callV (z := mX9_go) (As := [.int (iZ t), .int (iZ i)]) 23 dX9_run_20 mwX9_go ⟨by decide, by decide⟩ rfl wlX9_205 wiX9_go wsX9_go F50_1 rfl rfl rfl (nle rfl) (nle rfl) rfl ?_
      refine b_go H (by omega) (by omega) ((H.2.2.2.2.2 _ (by omega) (by omega)).1) (fun h9 w10 B11 z6 rz6 p7 p8 H12 a13 s14 => ?_)
      have e15 := a13.1
      have n16 := H12.2.2.1.2.1
      refine rI ?_
      refine g_istore_n (L1 := [some (.ref 50), some (.int (iZ t)), some (.int (iZ i)), some (.int (iZ z6)), none]) 24 dX9_run_23 (by decide) rfl rfl rfl ?_
      refine g_aload_n 25 dX9_run_24 rfl rfl ?_
      obtain ⟨F50_17, ⟨F51_17, F52_17, F53_17, F54_17, F55_17, F56_17, F57_17, F58_17, F59_17, F60_17, F61_17, F62_17, F63_17, F64_17, F65_17, F66_17, F67_17, F68_17, F69_17, F70_17, kty_17, ktx_17⟩, ⟨r2_17, r5_17, r13_17, r14_17, r15_17, r16_17, r17_17, r18_17, r19_17, r20_17, r25_17, r26_17, r27_17, r28_17, r29_17, r30_17, r31_17, r35_17⟩, ⟨o53_17, o54_17, o55_17, o56_17, o57_17, o58_17, o59_17, o60_17, o61_17, o62_17, o63_17, o64_17, o65_17, o66_17, o67_17, o68_17, o69_17, o70_17⟩, hT_17⟩ := id H12
      refine g_get 28 dX9_run_25 faX9_53_X9 F50_17 rfl rfl ?_
      refine g_iconst (v := iZ (0)) 29 dX9_run_28 rfl rfl ?_
      refine g_aload_n 30 dX9_run_29 rfl rfl ?_
      refine g_get 33 dX9_run_30 faX9_187_X9 F50_17 rfl rfl ?_
      refine g_iastFj (0) 34 dX9_run_33 F65_17 (by decide) (by decide) (by decide) rfl rfl (fun h18 s19 f20 => ?_)
      refine g_aload_n 35 dX9_run_34 rfl rfl ?_
      have f21 := (s19.get (by decide) F50_17)
      refine g_get 38 dX9_run_35 faX9_53_X9 f21 rfl rfl ?_
      refine g_iconst (v := iZ (1)) 39 dX9_run_38 rfl rfl ?_
      refine g_aload_n 40 dX9_run_39 rfl rfl ?_
      refine g_get 43 dX9_run_40 faX9_190_X9 f21 rfl rfl ?_
      refine g_iastFj (1) 44 dX9_run_43 f20 (by decide) (by decide) (by decide) rfl rfl (fun h22 s23 f24 => ?_)
      refine g_aload_n 45 dX9_run_44 rfl rfl ?_
      have f25 := (s23.get (by decide) f21)
      refine g_get 48 dX9_run_45 faX9_53_X9 f25 rfl rfl ?_
      refine g_iconst (v := iZ (2)) 49 dX9_run_48 rfl rfl ?_
      refine g_aload_n 50 dX9_run_49 rfl rfl ?_
      refine g_get 53 dX9_run_50 faX9_193_X9 f25 rfl rfl ?_
      refine g_iastFj (2) 54 dX9_run_53 f24 (by decide) (by decide) (by decide) rfl rfl (fun h26 s27 f28 => ?_)
      refine g_aload_n 55 dX9_run_54 rfl rfl ?_
      have f29 := (s27.get (by decide) f25)
      refine g_get 58 dX9_run_55 faX9_53_X9 f29 rfl rfl ?_
      refine g_iconst (v := iZ (3)) 59 dX9_run_58 rfl rfl ?_
      refine g_aload_n 60 dX9_run_59 rfl rfl ?_
      refine g_get 63 dX9_run_60 faX9_199_X9 f29 rfl rfl ?_
      refine g_iastFj (3) 64 dX9_run_63 f28 (by decide) (by decide) (by decide) rfl rfl (fun h30 s31 f32 => ?_)
      refine g_aload_n 65 dX9_run_64 rfl rfl ?_
      have f33 := (s31.get (by decide) f29)
      refine g_get 68 dX9_run_65 faX9_53_X9 f33 rfl rfl ?_
      refine g_iconst (v := iZ (4)) 69 dX9_run_68 rfl rfl ?_
      refine g_aload_n 70 dX9_run_69 rfl rfl ?_
      refine g_get 73 dX9_run_70 faX9_181_X9 f33 rfl rfl ?_
      refine g_iastFj (4) 74 dX9_run_73 f32 (by decide) (by decide) (by decide) rfl rfl (fun h34 s35 f36 => ?_)
      refine g_aload_n 75 dX9_run_74 rfl rfl ?_
      have f37 := (s35.get (by decide) f33)
      refine g_get 78 dX9_run_75 faX9_53_X9 f37 rfl rfl ?_
      refine g_iconst (v := iZ (5)) 79 dX9_run_78 rfl rfl ?_
      refine g_aload_n 80 dX9_run_79 rfl rfl ?_
      refine g_get 83 dX9_run_80 faX9_184_X9 f37 rfl rfl ?_
      refine g_iastFj (5) 84 dX9_run_83 f36 (by decide) (by decide) (by decide) rfl rfl (fun h38 s39 f40 => ?_)
      refine g_iconst (v := iZ (0)) 85 dX9_run_84 rfl rfl ?_
      refine g_istore (L1 := [some (.ref 50), some (.int (iZ t)), some (.int (iZ i)), some (.int (iZ z6)), some (.int (iZ 0))]) 87 dX9_run_85 (by decide) rfl rfl rfl ?_
      refine Go.fgt 1 ?_
      refine Go.fgt 2 ?_
      have f41 := (s39.get (by decide) f37)
      have f42 := (s39.get (by decide) (s35.get (by decide) (s31.get (by decide) (s27.get (by decide) (s23.get (by decide) (s19.get (by decide) F62_17))))))
      have f43 := (s39.get (by decide) (s35.get (by decide) (s31.get (by decide) (s27.get (by decide) (s23.get (by decide) (s19.get (by decide) F63_17))))))
      have f44 := (s39.get (by decide) (s35.get (by decide) (s31.get (by decide) (s27.get (by decide) (s23.get (by decide) (s19.get (by decide) F66_17))))))
      have f45 := (s39.get (by decide) (s35.get (by decide) (s31.get (by decide) (s27.get (by decide) (s23.get (by decide) (s19.get (by decide) F67_17))))))
      refine lp9_run (by omega) (by omega) o62_17 o63_17 _ _ _ _ 0 rfl (by omega) o66_17 o67_17 f41 f42 f43 f44 f45 (fun q hq => by omega) (fun h9 f9 g9 r9 y9 o1 o2 e1 e2 s9 u1 u2 => ?_)
      have f46 := (s39.get (by decide) (s35.get (by decide) (s31.get (by decide) (s27.get (by decide) (s23.get (by decide) (s19.get (by decide) F51_17))))))
      have f47 := (s39.get (by decide) (s35.get (by decide) (s31.get (by decide) (s27.get (by decide) (s23.get (by decide) (s19.get (by decide) F52_17))))))
      have f48 := (s39.get (by decide) (s35.get (by decide) (s31.get (by decide) (s27.get (by decide) (s23.get (by decide) (s19.get (by decide) F53_17))))))
      have f49 := (s39.get (by decide) (s35.get (by decide) (s31.get (by decide) (s27.get (by decide) (s23.get (by decide) (s19.get (by decide) F54_17))))))
      have f50 := (s39.get (by decide) (s35.get (by decide) (s31.get (by decide) (s27.get (by decide) (s23.get (by decide) (s19.get (by decide) F55_17))))))
      have f51 := (s39.get (by decide) (s35.get (by decide) (s31.get (by decide) (s27.get (by decide) (s23.get (by decide) (s19.get (by decide) F56_17))))))
      have f52 := (s39.get (by decide) (s35.get (by decide) (s31.get (by decide) (s27.get (by decide) (s23.get (by decide) (s19.get (by decide) F57_17))))))
      have f53 := (s39.get (by decide) (s35.get (by decide) (s31.get (by decide) (s27.get (by decide) (s23.get (by decide) (s19.get (by decide) F58_17))))))
      have f54 := (s39.get (by decide) (s35.get (by decide) (s31.get (by decide) (s27.get (by decide) (s23.get (by decide) (s19.get (by decide) F59_17))))))
      have f55 := (s39.get (by decide) (s35.get (by decide) (s31.get (by decide) (s27.get (by decide) (s23.get (by decide) (s19.get (by decide) F60_17))))))
      have f56 := (s39.get (by decide) (s35.get (by decide) (s31.get (by decide) (s27.get (by decide) (s23.get (by decide) (s19.get (by decide) F61_17))))))
      have f57 := (s39.get (by decide) (s35.get (by decide) (s31.get (by decide) (s27.get (by decide) (s23.get (by decide) (s19.get (by decide) F64_17))))))
      have f58 := (s39.get (by decide) (s35.get (by decide) (s31.get (by decide) (s27.get (by decide) (s23.get (by decide) (s19.get (by decide) F68_17))))))
      have f59 := (s39.get (by decide) (s35.get (by decide) (s31.get (by decide) (s27.get (by decide) (s23.get (by decide) (s19.get (by decide) F69_17))))))
      have f60 := (s39.get (by decide) (s35.get (by decide) (s31.get (by decide) (s27.get (by decide) (s23.get (by decide) (s19.get (by decide) F70_17))))))
      have hT9 : Tg w10 (va_up (va_up (va_up B11 65 (va_up (va_up (va_up (va_up (va_up (va_up (B11 65) 0 (w10 29)) 1 (w10 30)) 2 (w10 26)) 3 (w10 27)) 4 (w10 28)) 5 (w10 25))) 66 f9) 67 g9) := ⟨(by show 0 ≤ w10 25 ∧ w10 25 ≤ 256; omega), H12.2.2.2.2.2⟩
      have hR9 : R9B h9 tr ty tx w10 (va_up (va_up (va_up B11 65 (va_up (va_up (va_up (va_up (va_up (va_up (B11 65) 0 (w10 29)) 1 (w10 30)) 2 (w10 26)) 3 (w10 27)) 4 (w10 28)) 5 (w10 25))) 66 f9) 67 g9) := ⟨(s9.get (by decide) f41), ⟨(s9.get (by decide) f46), (s9.get (by decide) f47), (s9.get (by decide) f48), (s9.get (by decide) f49), (s9.get (by decide) f50), (s9.get (by decide) f51), (s9.get (by decide) f52), (s9.get (by decide) f53), (s9.get (by decide) f54), (s9.get (by decide) f55), (s9.get (by decide) f56), (s9.get (by decide) f42), (s9.get (by decide) f43), (s9.get (by decide) f57), (s9.get (by decide) f40), u1, u2, (s9.get (by decide) f58), (s9.get (by decide) f59), (s9.get (by decide) f60), kty_17, ktx_17⟩, H12.2.2.1, ⟨o53_17, o54_17, o55_17, o56_17, o57_17, o58_17, o59_17, o60_17, o61_17, o62_17, o63_17, o64_17, (okr_up (okr_up (okr_up (okr_up (okr_up (okr_up o65_17 _ (by omega)) _ (by omega)) _ (by omega)) _ (by omega)) _ (by omega)) _ (by omega)), o1, o2, o68_17, o69_17, o70_17⟩, hT9⟩
      have hT8 : TR (w 5).toNat (refV B) (refB B) (refL B) (refV (va_up (va_up (va_up B11 65 (va_up (va_up (va_up (va_up (va_up (va_up (B11 65) 0 (w10 29)) 1 (w10 30)) 2 (w10 26)) 3 (w10 27)) 4 (w10 28)) 5 (w10 25))) 66 f9) 67 g9)) (refB (va_up (va_up (va_up B11 65 (va_up (va_up (va_up (va_up (va_up (va_up (B11 65) 0 (w10 29)) 1 (w10 30)) 2 (w10 26)) 3 (w10 27)) 4 (w10 28)) 5 (w10 25))) 66 f9) 67 g9)) (refL (va_up (va_up (va_up B11 65 (va_up (va_up (va_up (va_up (va_up (va_up (B11 65) 0 (w10 29)) 1 (w10 30)) 2 (w10 26)) 3 (w10 27)) 4 (w10 28)) 5 (w10 25))) 66 f9) 67 g9)) := a13.T (by omega) H.2.2.2.1.2.2.2.1
      exact k h9 _ _ r9 y9 (ru_ref p7 (by omega) rfl rfl rfl rfl rfl rfl e1 e2) hR9 ⟨a13.1.1, a13.1.2.2, a13.1.2.1, a13.2.1.1⟩ hT8 (((((((((Sm.refl [50, 51, 52, 53, 54, 55, 56, 57, 58, 59, 60, 61, 62, 63, 64, 65, 66, 67, 68, 69, 70] _).tr s14 (fun _ q => q) (by simp)).tr s19 (fun _ q => q) (by simp)).tr s23 (fun _ q => q) (by simp)).tr s27 (fun _ q => q) (by simp)).tr s31 (fun _ q => q) (by simp)).tr s35 (fun _ q => q) (by simp)).tr s39 (fun _ q => q) (by simp)).tr (s9.mono (by simp)) (fun _ q => q) (fun _ q => q))
    · refine g_iconst (v := iZ (-1)) 16 dX9_run_15 rfl rfl ?_
      refine g_iret rfl dX9_run_16 ?_
      exact k _ w B (-1) (by decide) ⟨fun z => by omega, fun _ => ⟨⟨rfl, rfl, rfl, rfl, rfl, rfl⟩, fun _ _ => rfl, fun _ _ => rfl⟩⟩ H ⟨rfl, rfl, rfl, rfl⟩ (TR.refl _ _ _ _) (Sm.refl _ _)

set_option maxRecDepth 100000 in
theorem c_bga {l : Launch} {Q : Option Value → MH → Prop} {a b : Value} : ∀ (k : Nat) (h : MH) (g : Nat → Int) (i : Int), i = 26 - k → k ≤ 26 → okr g → (∀ j : Nat, (j : Int) < i → g j = -9) → h[9]? = some (.inr (3, [.ref 10, .ref 13, .ref 14, a, b])) → h[13]? = some (.inl (0, 26, .inl (zA g))) → (∀ h1 : MH, Sm [13] h h1 → h1[13]? = some (.inl (0, 26, .inl (zA (fun _ => -9)))) → Go l mX4_begin 41 [some (.ref 9), some (.int (iZ 26))] [] h1 Q) → Go l mX4_begin 21 [some (.ref 9), some (.int (iZ i))] [] h Q := by
  intro k
  induction k with
  | zero =>
    intro h g i hi hk og hA f0 f1 kk
    have : i = 26 := by omega
    subst this
    refine g_iload_n 22 dX4_begin_21 rfl rfl ?_
    refine g_bipush (v := iZ (26)) 24 dX4_begin_22 (by decide +kernel) rfl ?_
    refine g_icZ_ge 41 27 dX4_begin_24 rfl rfl (by decide) (by decide) (fun _ => ?_) (fun q => absurd q (by decide))
    exact Go.ext (f' := zA (fun _ => -9)) f1 (fun j hj => congrArg iZ (hA j (by omega))) (fun h1 s1 u1 => kk h1 s1 u1)
  | succ k ih =>
    intro h g i hi hk og hA f0 f1 kk
    have h0 : 0 ≤ i := by omega
    have h2 : i < 26 := by omega
    refine g_iload_n 22 dX4_begin_21 rfl rfl ?_
    refine g_bipush (v := iZ (26)) 24 dX4_begin_22 (by decide +kernel) rfl ?_
    refine g_icZ_ge 41 27 dX4_begin_24 rfl rfl (by omega) (by decide) (fun q => absurd q (by omega)) (fun _ => ?_)
    refine g_aload_n 28 dX4_begin_27 rfl rfl ?_
    refine g_get 31 dX4_begin_28 faX4_11_X4 f0 rfl rfl ?_
    refine g_iload_n 32 dX4_begin_31 rfl rfl ?_
    refine g_bipush (v := iZ (-9)) 34 dX4_begin_32 (by decide +kernel) rfl ?_
    refine g_iastFj (i.toNat) 35 dX4_begin_34 f1 (by omega) (by omega) (by decide) rfl rfl (fun h1 s2 f3 => ?_)
    refine g_iincZ [some (.ref 9), some (.int (iZ (i + 1)))] 38 dX4_begin_35 rfl (by omega) (by decide) rfl rfl rfl ?_
    refine g_goto 21 dX4_begin_38 rfl ?_
    have f4 := (s2.get (by decide) f0)
    exact ih _ _ _ (by omega) (by omega) (okr_up og _ (by decide)) (upA (f := (fun _ => -9)) (by omega) hA rfl) f4 f3 (fun h1 hs f1 => kk h1 (s2.tr hs (fun _ q => q) (fun _ q => q)) f1)
set_option maxRecDepth 100000 in
theorem c_bgb {l : Launch} {Q : Option Value → MH → Prop} {a b : Value} : ∀ (k : Nat) (h : MH) (g : Nat → Int) (i : Int), i = 256 - k → k ≤ 256 → okr g → (∀ j : Nat, (j : Int) < i → g j = -9) → h[9]? = some (.inr (3, [.ref 10, .ref 13, .ref 14, a, b])) → h[14]? = some (.inl (0, 256, .inl (zA g))) → (∀ h1 : MH, Sm [14] h h1 → h1[14]? = some (.inl (0, 256, .inl (zA (fun _ => -9)))) → Go l mX4_begin 64 [some (.ref 9), some (.int (iZ 256))] [] h1 Q) → Go l mX4_begin 43 [some (.ref 9), some (.int (iZ i))] [] h Q := by
  intro k
  induction k with
  | zero =>
    intro h g i hi hk og hA f0 f1 kk
    have : i = 256 := by omega
    subst this
    refine g_iload_n 44 dX4_begin_43 rfl rfl ?_
    refine g_sipush (v := iZ (256)) 47 dX4_begin_44 (by decide +kernel) rfl ?_
    refine g_icZ_ge 64 50 dX4_begin_47 rfl rfl (by decide) (by decide) (fun _ => ?_) (fun q => absurd q (by decide))
    exact Go.ext (f' := zA (fun _ => -9)) f1 (fun j hj => congrArg iZ (hA j (by omega))) (fun h1 s1 u1 => kk h1 s1 u1)
  | succ k ih =>
    intro h g i hi hk og hA f0 f1 kk
    have h0 : 0 ≤ i := by omega
    have h2 : i < 256 := by omega
    refine g_iload_n 44 dX4_begin_43 rfl rfl ?_
    refine g_sipush (v := iZ (256)) 47 dX4_begin_44 (by decide +kernel) rfl ?_
    refine g_icZ_ge 64 50 dX4_begin_47 rfl rfl (by omega) (by decide) (fun q => absurd q (by omega)) (fun _ => ?_)
    refine g_aload_n 51 dX4_begin_50 rfl rfl ?_
    refine g_get 54 dX4_begin_51 faX4_15_X4 f0 rfl rfl ?_
    refine g_iload_n 55 dX4_begin_54 rfl rfl ?_
    refine g_bipush (v := iZ (-9)) 57 dX4_begin_55 (by decide +kernel) rfl ?_
    refine g_iastFj (i.toNat) 58 dX4_begin_57 f1 (by omega) (by omega) (by decide) rfl rfl (fun h1 s2 f3 => ?_)
    refine g_iincZ [some (.ref 9), some (.int (iZ (i + 1)))] 61 dX4_begin_58 rfl (by omega) (by decide) rfl rfl rfl ?_
    refine g_goto 43 dX4_begin_61 rfl ?_
    have f4 := (s2.get (by decide) f0)
    exact ih _ _ _ (by omega) (by omega) (okr_up og _ (by decide)) (upA (f := (fun _ => -9)) (by omega) hA rfl) f4 f3 (fun h1 hs f1 => kk h1 (s2.tr hs (fun _ q => q) (fun _ q => q)) f1)
theorem oki_m9 {hi : Int} (h : -9 ≤ hi) : oki (-9) hi (fun _ => -9) := fun _ => ⟨Int.le_refl (-9), h⟩
theorem oki_r {lo hi : Int} {g : Nat → Int} (h1 : -2147483648 ≤ lo) (h2 : hi ≤ 2147483647) (h : oki lo hi g) : okr g := fun j => ⟨by have := h j; omega, by have := h j; omega⟩
set_option maxRecDepth 100000 in
theorem c_beg {l : Launch} {h : MH} {Q : Option Value → MH → Prop} {due la n : Int} {pl lu : Nat → Int} (F9 : h[9]? = some (.inr (3, [.ref 10, .ref 13, .ref 14, .int (iZ due), .int (iZ la)]))) (F10 : h[10]? = some (.inr (0, [.int (iZ 256), .ref 11, .ref 12, .int (iZ n)]))) (F13 : h[13]? = some (.inl (0, 26, .inl (zA pl)))) (F14 : h[14]? = some (.inl (0, 256, .inl (zA lu)))) (opl : oki (-9) 255 pl) (olu : oki (-9) 25 lu) (k : ∀ h1 : MH, Sm [9, 10, 13, 14] h h1 → h1[9]? = some (.inr (3, [.ref 10, .ref 13, .ref 14, .int (iZ 0), .int (iZ (-9))])) → h1[10]? = some (.inr (0, [.int (iZ 256), .ref 11, .ref 12, .int (iZ 0)])) → h1[13]? = some (.inl (0, 26, .inl (zA (fun _ => -9)))) → h1[14]? = some (.inl (0, 256, .inl (zA (fun _ => -9)))) → Q none h1) : Go l mX4_begin 0 [some (.ref 9), none] [] h Q := by
  refine g_aload_n 1 dX4_begin_0 rfl rfl ?_
  refine g_get 4 dX4_begin_1 faX4_45_X4 F9 rfl rfl ?_
  refine g_iconst (v := iZ (0)) 5 dX4_begin_4 rfl rfl ?_
  refine g_putC (fs1 := [.int (iZ 256), .ref 11, .ref 12, .int (iZ 0)]) 8 dX4_begin_5 fpX4_49_X0 F10 (nle rfl) (vI _) rfl rfl (fun h1 s2 f3 => ?_)
  refine g_aload_n 9 dX4_begin_8 rfl rfl ?_
  refine g_iconst (v := iZ (0)) 10 dX4_begin_9 rfl rfl ?_
  have f4 := (s2.get (by decide) F9)
  refine g_putC (fs1 := [.ref 10, .ref 13, .ref 14, .int (iZ 0), .int (iZ la)]) 13 dX4_begin_10 fpX4_18_X4 f4 (nle rfl) (vI _) rfl rfl (fun h5 s6 f7 => ?_)
  refine g_aload_n 14 dX4_begin_13 rfl rfl ?_
  refine g_bipush (v := iZ (-9)) 16 dX4_begin_14 (by decide +kernel) rfl ?_
  refine g_putC (fs1 := [.ref 10, .ref 13, .ref 14, .int (iZ 0), .int (iZ (-9))]) 19 dX4_begin_16 fpX4_22_X4 f7 (nle rfl) (vI _) rfl rfl (fun h8 s9 f10 => ?_)
  refine g_iconst (v := iZ (0)) 20 dX4_begin_19 rfl rfl ?_
  refine g_istore_n (L1 := [some (.ref 9), some (.int (iZ 0))]) 21 dX4_begin_20 (by decide) rfl rfl rfl ?_
  have f14 := (s9.get (by decide) (s6.get (by decide) (s2.get (by decide) F13)))
  refine c_bga 26 _ _ _ (by decide) (by decide) (oki_r (by decide) (by decide) opl) (fun j hj => by omega) f10 f14 (fun h11 s12 f13 => ?_)
  refine g_iconst (v := iZ (0)) 42 dX4_begin_41 rfl rfl ?_
  refine g_istore_n (L1 := [some (.ref 9), some (.int (iZ 0))]) 43 dX4_begin_42 (by decide) rfl rfl rfl ?_
  have f18 := (s12.get (by decide) f10)
  have f19 := (s12.get (by decide) (s9.get (by decide) (s6.get (by decide) (s2.get (by decide) F14))))
  refine c_bgb 256 _ _ _ (by decide) (by decide) (oki_r (by decide) (by decide) olu) (fun j hj => by omega) f18 f19 (fun h15 s16 f17 => ?_)
  refine g_vret rfl dX4_begin_64 ?_
  have f20 := (s16.get (by decide) f18)
  have f21 := (s16.get (by decide) (s12.get (by decide) (s9.get (by decide) (s6.get (by decide) f3))))
  have f22 := (s16.get (by decide) f13)
  exact k _ ((((((Sm.refl [9, 10, 13, 14] _).tr s2 (fun _ q => q) (by simp)).tr s6 (fun _ q => q) (by simp)).tr s9 (fun _ q => q) (by simp)).tr s12 (fun _ q => q) (by simp)).tr s16 (fun _ q => q) (by simp)) f20 f21 f22 f17
set_option maxRecDepth 100000 in
theorem c_putp_l {l : Launch} {Q : Option Value → MH → Prop} {due la n : Int} {pl lu g : Nat → Int} {RS : Int × (Nat → Int)} {LL : Nat → Int} (og : oki (0) (300) g) (opl : oki (-9) (255) pl) (olu : oki (-9) (25) lu) (rdue : (0 ≤ due ∧ due ≤ 2)) (rla : (-9 ≤ la ∧ la ≤ 200)) (rn : (0 ≤ n ∧ n ≤ 256)) (hn : n ≤ 200) (hok : okn pl) : ∀ (m0 : Nat) (h : MH) (f : Nat → Int) (j : Int), (256 - j).toNat = m0 → oki (0) (255) f → h[9]? = some (.inr (3, [.ref 10, .ref 13, .ref 14, .int (iZ due), .int (iZ la)])) → h[10]? = some (.inr (0, [.int (iZ 256), .ref 11, .ref 12, .int (iZ n)])) → h[11]? = some (.inl (0, 256, .inl (zA f))) → h[12]? = some (.inl (0, 256, .inl (zA g))) → h[13]? = some (.inl (0, 26, .inl (zA pl))) → h[14]? = some (.inl (0, 256, .inl (zA lu))) → 0 ≤ j ∧ j ≤ n → ppI RS LL j n f g lu pl → (∀ (h1 : MH) (f_1 : Nat → Int) (r : Int), oki (0) (255) f_1 → (r = -9 ∨ (0 ≤ r ∧ r ≤ 300)) → (RS.1 = r) → (r = -9 → agr n f_1 RS.2) → Sm [11] h h1 → h1[11]? = some (.inl (0, 256, .inl (zA f_1))) → Q (some (.int (iZ r))) h1) → Go l mX4_putPlaces 2 [some (.ref 9), some (.int (iZ j)), none] [] h Q := by
  intro m0
  induction m0 using Nat.strongRecOn with
  | ind m0 ih =>
    intro h f j hmz of F0 F1 F2 F3 F4 F5 hj hP k
    refine g_iload_n 3 dX4_putPlaces_2 rfl rfl ?_
    refine g_aload_n 4 dX4_putPlaces_3 rfl rfl ?_
    refine g_get 7 dX4_putPlaces_4 faX4_45_X4 F0 rfl rfl ?_
    refine g_get 10 dX4_putPlaces_7 faX4_49_X0 F1 rfl rfl ?_
    refine g_icZ_ge 77 13 dX4_putPlaces_10 rfl rfl (by omega) (by omega) (fun c1 => ?_) (fun c1 => ?_)
    · refine g_bipush (v := iZ (-9)) 79 dX4_putPlaces_77 (by decide +kernel) rfl ?_
      refine g_iret rfl dX4_putPlaces_79 ?_
      exact k _ (f) (-9) of (by omega) (pp_end hP (by omega) (by omega)).1 (fun _ => (pp_end hP (by omega) (by omega)).2) (Sm.refl [11] _) F2
    · refine g_iload_n 14 dX4_putPlaces_13 rfl rfl ?_
      refine g_sipush (v := iZ (256)) 17 dX4_putPlaces_14 (by decide +kernel) rfl ?_
      refine g_icZ_ge 77 20 dX4_putPlaces_17 rfl rfl (by omega) (by decide) (fun q => absurd q (by omega)) (fun _ => ?_)
      refine g_aload_n 21 dX4_putPlaces_20 rfl rfl ?_
      refine g_get 24 dX4_putPlaces_21 faX4_15_X4 F0 rfl rfl ?_
      refine g_iload_n 25 dX4_putPlaces_24 rfl rfl ?_
      have b2 := olu ((j).toNat)
      refine g_ialdZ (v := iZ (lu j.toNat)) 26 dX4_putPlaces_25 F5 (by omega) (by omega) (by decide) rfl rfl ?_
      refine g_istore_n (L1 := [some (.ref 9), some (.int (iZ j)), some (.int (iZ (lu j.toNat)))]) 27 dX4_putPlaces_26 (by decide) rfl rfl rfl ?_
      refine g_iload_n 28 dX4_putPlaces_27 rfl rfl ?_
      refine g_ifZ_lt 71 31 dX4_putPlaces_28 rfl rfl (by omega) (fun c3 => ?_) (fun c3 => ?_)
      · refine g_iincZ [some (.ref 9), some (.int (iZ (j + 1))), some (.int (iZ (lu j.toNat)))] 74 dX4_putPlaces_71 rfl (by omega) (by decide) rfl rfl rfl ?_
        refine g_goto 2 dX4_putPlaces_74 rfl ?_
        refine Go.fgt 2 ?_
        exact ih _ (by omega) _ (f) (j + 1) rfl of F0 F1 F2 F3 F4 F5 (by omega) (pp_n hP (by omega) (by omega) (by omega) (by omega)) k
      · refine g_iload_n 32 dX4_putPlaces_31 rfl rfl ?_
        refine g_bipush (v := iZ (26)) 34 dX4_putPlaces_32 (by decide +kernel) rfl ?_
        refine g_icZ_ge 71 37 dX4_putPlaces_34 rfl rfl (by omega) (by decide) (fun q => absurd q (by omega)) (fun _ => ?_)
        have hv9 := hok (lu j.toNat).toNat
        refine g_aload_n 38 dX4_putPlaces_37 rfl rfl ?_
        refine g_get 41 dX4_putPlaces_38 faX4_11_X4 F0 rfl rfl ?_
        refine g_iload_n 42 dX4_putPlaces_41 rfl rfl ?_
        have b4 := opl ((lu j.toNat).toNat)
        refine g_ialdZ (v := iZ (pl (lu j.toNat).toNat)) 43 dX4_putPlaces_42 F4 (by omega) (by omega) (by decide) rfl rfl ?_
        refine g_bipush (v := iZ (-9)) 45 dX4_putPlaces_43 (by decide +kernel) rfl ?_
        refine g_icZ_ne 57 48 dX4_putPlaces_45 rfl rfl (by omega) (by decide) (fun c5 => ?_) (fun c5 => ?_)
        · refine g_aload_n 58 dX4_putPlaces_57 rfl rfl ?_
          refine g_get 61 dX4_putPlaces_58 faX4_45_X4 F0 rfl rfl ?_
          refine g_iload_n 62 dX4_putPlaces_61 rfl rfl ?_
          refine g_aload_n 63 dX4_putPlaces_62 rfl rfl ?_
          refine g_get 66 dX4_putPlaces_63 faX4_11_X4 F0 rfl rfl ?_
          refine g_iload_n 67 dX4_putPlaces_66 rfl rfl ?_
          have b6 := opl ((lu j.toNat).toNat)
          refine g_ialdZ (v := iZ (pl (lu j.toNat).toNat)) 68 dX4_putPlaces_67 F4 (by omega) (by omega) (by decide) rfl rfl ?_
          refine g_callV (z := mX0_change) (As := [.int (iZ j), .int (iZ (pl (lu j.toNat).toNat))]) 71 dX4_putPlaces_68 mwX0_change ⟨by decide, by decide⟩ rfl wlX4_116 wiX0_change wsX0_change F1 rfl rfl rfl (nle rfl) (nle rfl) rfl ?_
          refine Go.to [some (.ref 10), some (.int (iZ j)), some (.int (iZ (pl (lu j.toNat).toNat)))] [] rfl rfl ?_
          refine g_iload_n 1 dX0_change_0 rfl rfl ?_
          refine g_ifZ_lt 27 4 dX0_change_1 rfl rfl (by omega) (fun q => absurd q (by omega)) (fun _ => ?_)
          refine g_iload_n 5 dX0_change_4 rfl rfl ?_
          refine g_aload_n 6 dX0_change_5 rfl rfl ?_
          refine g_get 9 dX0_change_6 faX0_9_X0 F1 rfl rfl ?_
          refine g_icZ_ge 27 12 dX0_change_9 rfl rfl (by omega) (by omega) (fun q => absurd q (by omega)) (fun _ => ?_)
          refine g_iload_n 13 dX0_change_12 rfl rfl ?_
          refine g_aload_n 14 dX0_change_13 rfl rfl ?_
          refine g_get 17 dX0_change_14 faX0_21_X0 F1 rfl rfl ?_
          refine g_icZ_ge 27 20 dX0_change_17 rfl rfl (by omega) (by decide) (fun q => absurd q (by omega)) (fun _ => ?_)
          refine g_aload_n 21 dX0_change_20 rfl rfl ?_
          refine g_get 24 dX0_change_21 faX0_24_X0 F1 rfl rfl ?_
          refine g_iload_n 25 dX0_change_24 rfl rfl ?_
          refine g_iload_n 26 dX0_change_25 rfl rfl ?_
          refine g_iastFj (j.toNat) 27 dX0_change_26 F2 (by omega) (by omega) (by decide) rfl rfl (fun h7 s8 f9 => ?_)
          refine g_vret rfl dX0_change_27 ?_
          refine rV ?_
          refine g_iincZ [some (.ref 9), some (.int (iZ (j + 1))), some (.int (iZ (lu j.toNat)))] 74 dX4_putPlaces_71 rfl (by omega) (by decide) rfl rfl rfl ?_
          refine g_goto 2 dX4_putPlaces_74 rfl ?_
          refine Go.fgt 2 ?_
          have f10 := (s8.get (by decide) F0)
          have f11 := (s8.get (by decide) F1)
          have f12 := (s8.get (by decide) F3)
          have f13 := (s8.get (by decide) F4)
          have f14 := (s8.get (by decide) F5)
          exact ih _ (by omega) _ (va_up f j.toNat (pl (lu j.toNat).toNat)) (j + 1) rfl (oki_up of _ (by omega)) f10 f11 f9 f12 f13 f14 (by omega) (pp_y hP (by omega) (by omega) (by omega) (by omega) (by omega) (by omega)) (fun hQ xQ0 rQ yQ0 yQ1 pQ0 pQ1 sQ uQ0 => k hQ xQ0 rQ yQ0 yQ1 pQ0 pQ1 (((Sm.refl [11] _).tr s8 (fun _ q => q) (by simp)).tr sQ (fun _ q => q) (fun _ q => q)) uQ0)
        · refine g_aload_n 49 dX4_putPlaces_48 rfl rfl ?_
          refine g_get 52 dX4_putPlaces_49 faX4_45_X4 F0 rfl rfl ?_
          refine g_iload_n 53 dX4_putPlaces_52 rfl rfl ?_
          refine g_callV (z := mX0_ledAt) (As := [.int (iZ j)]) 56 dX4_putPlaces_53 mwX0_ledAt ⟨by decide, by decide⟩ rfl wlX4_113 wiX0_ledAt wsX0_ledAt F1 rfl rfl rfl (nle rfl) (nle rfl) rfl ?_
          refine Go.to [some (.ref 10), some (.int (iZ j))] [] rfl rfl ?_
          refine g_iload_n 1 dX0_ledAt_0 rfl rfl ?_
          refine g_ifZ_lt 20 4 dX0_ledAt_1 rfl rfl (by omega) (fun q => absurd q (by omega)) (fun _ => ?_)
          refine g_iload_n 5 dX0_ledAt_4 rfl rfl ?_
          refine g_aload_n 6 dX0_ledAt_5 rfl rfl ?_
          refine g_get 9 dX0_ledAt_6 faX0_9_X0 F1 rfl rfl ?_
          refine g_icZ_ge 20 12 dX0_ledAt_9 rfl rfl (by omega) (by omega) (fun q => absurd q (by omega)) (fun _ => ?_)
          refine g_iload_n 13 dX0_ledAt_12 rfl rfl ?_
          refine g_aload_n 14 dX0_ledAt_13 rfl rfl ?_
          refine g_get 17 dX0_ledAt_14 faX0_21_X0 F1 rfl rfl ?_
          refine g_icZ_lt 24 20 dX0_ledAt_17 rfl rfl (by omega) (by decide) (fun _ => ?_) (fun q => absurd q (by omega))
          refine g_aload_n 25 dX0_ledAt_24 rfl rfl ?_
          refine g_get 28 dX0_ledAt_25 faX0_28_X0 F1 rfl rfl ?_
          refine g_iload_n 29 dX0_ledAt_28 rfl rfl ?_
          have b15 := og ((j).toNat)
          refine g_ialdZ (v := iZ (g j.toNat)) 30 dX0_ledAt_29 F3 (by omega) (by omega) (by decide) rfl rfl ?_
          refine g_iret rfl dX0_ledAt_30 ?_
          refine rI ?_
          refine g_iret rfl dX4_putPlaces_56 ?_
          exact k _ (f) (g j.toNat) of (by omega) (pp_f hP (by omega) (by omega) (by omega) (by omega) (by omega)) (fun q9 => by have := og j.toNat; omega) (Sm.refl [11] _) F2
set_option maxRecDepth 100000 in
theorem c_putp {l : Launch} {h : MH} {Q : Option Value → MH → Prop} {due la n : Int} {pl lu f g : Nat → Int} {RS : Int × (Nat → Int)} {LL : Nat → Int} (F0 : h[9]? = some (.inr (3, [.ref 10, .ref 13, .ref 14, .int (iZ due), .int (iZ la)]))) (F1 : h[10]? = some (.inr (0, [.int (iZ 256), .ref 11, .ref 12, .int (iZ n)]))) (F2 : h[11]? = some (.inl (0, 256, .inl (zA f)))) (F3 : h[12]? = some (.inl (0, 256, .inl (zA g)))) (F4 : h[13]? = some (.inl (0, 26, .inl (zA pl)))) (F5 : h[14]? = some (.inl (0, 256, .inl (zA lu)))) (of : oki (0) (255) f) (og : oki (0) (300) g) (opl : oki (-9) (255) pl) (olu : oki (-9) (25) lu) (rdue : (0 ≤ due ∧ due ≤ 2)) (rla : (-9 ≤ la ∧ la ≤ 200)) (rn : (0 ≤ n ∧ n ≤ 256)) (hn : n ≤ 200) (hok : okn pl) (hPP : ppI RS LL 0 n f g lu pl) (k : ∀ (h1 : MH) (f_1 : Nat → Int) (r : Int), oki (0) (255) f_1 → (r = -9 ∨ (0 ≤ r ∧ r ≤ 300)) → (RS.1 = r) → (r = -9 → agr n f_1 RS.2) → Sm [11] h h1 → h1[11]? = some (.inl (0, 256, .inl (zA f_1))) → Q (some (.int (iZ r))) h1) : Go l mX4_putPlaces 0 [some (.ref 9), none, none] [] h Q := by
  refine g_iconst (v := iZ (0)) 1 dX4_putPlaces_0 rfl rfl ?_
  refine g_istore_n (L1 := [some (.ref 9), some (.int (iZ 0)), none]) 2 dX4_putPlaces_1 (by decide) rfl rfl rfl ?_
  exact c_putp_l og opl olu rdue rla rn hn hok _ _ (f) (0) rfl of F0 F1 F2 F3 F4 F5 (by omega) hPP k

set_option maxRecDepth 100000 in
theorem c_stp_l {l : Launch} {Q : Option Value → MH → Prop} {en a b k0 : Int} {eu ek el : Nat → Int} (oeu : okr eu) (oek : okr ek) (oel : okr el) (ren : (0 ≤ en ∧ en ≤ 12)) (ra : (0 ≤ a ∧ a ≤ 11)) (rk0 : rg k0) (ha : a < en) (hL : ∀ j : Nat, (j : Int) < en → el j = lvE en eu ek a b 0 j) (hk : 0 ≤ k0 ∧ k0 ≤ lvE en eu ek a b 0 a.toNat) : ∀ (m0 : Nat) (h : MH) (c i : Int), (k0 - i).toNat = m0 → h[30]? = some (.inr (1, [.ref 31, .ref 32, .ref 33, .int (iZ en)])) → h[31]? = some (.inl (0, 12, .inl (zA eu))) → h[32]? = some (.inl (0, 12, .inl (zA ek))) → h[33]? = some (.inl (0, 12, .inl (zA el))) → 0 ≤ i ∧ i ≤ k0 → lds en.toNat (lvE en eu ek a b 0) (fun o => iZ (eu o)) (fun o => iZ (ek o)) a i.toNat = c → (∀ (r : Int), (r = lds en.toNat (lvE en eu ek a b 0) (fun o => iZ (eu o)) (fun o => iZ (ek o)) a k0.toNat ∧ -9 ≤ r ∧ r ≤ 12) → Q (some (.int (iZ r))) h) → Go l mX1_step 5 [some (.ref 30), none, some (.int (iZ k0)), some (.int (iZ c)), some (.int (iZ i))] [] h Q := by
  intro m0
  induction m0 using Nat.strongRecOn with
  | ind m0 ih =>
    intro h c i hmz F0 F1 F2 F3 hi hC k
    have le := lds_ok (en := en) (us := eu) (kn := ek) (a := a) (b := b) (by omega) ⟨by omega, ha⟩ i.toNat (by omega)
    rw [hC] at le
    have lr := lvE_rg en eu ek a b 0 a.toNat
    have hc9 := hL c.toNat (by omega)
    refine g_iload 7 dX1_step_5 rfl rfl ?_
    refine g_iload_n 8 dX1_step_7 rfl rfl ?_
    refine g_icZ_ge 51 11 dX1_step_8 rfl rfl (by omega) rk0 (fun c1 => ?_) (fun c1 => ?_)
    · refine g_iload_n 52 dX1_step_51 rfl rfl ?_
      refine g_iret rfl dX1_step_52 ?_
      exact k (c) (by rw [← (show i = k0 by omega)]; exact ⟨hC.symm, by omega, by omega⟩)
    · refine g_iload 13 dX1_step_11 rfl rfl ?_
      refine g_bipush (v := iZ (12)) 15 dX1_step_13 (by decide +kernel) rfl ?_
      refine g_icZ_ge 51 18 dX1_step_15 rfl rfl (by omega) (by decide) (fun c2 => ?_) (fun c2 => ?_)
      · refine g_iload_n 52 dX1_step_51 rfl rfl ?_
        refine g_iret rfl dX1_step_52 ?_
        exact k (c) (by rw [← (show i = k0 by omega)]; exact ⟨hC.symm, by omega, by omega⟩)
      · refine g_aload_n 19 dX1_step_18 rfl rfl ?_
        refine g_iload_n 20 dX1_step_19 rfl rfl ?_
        refine g_callV (z := mX1_has) (As := [.int (iZ c)]) 23 dX1_step_20 mwX1_has ⟨by decide, by decide⟩ rfl wlX1_25 wiX1_has wsX1_has F0 rfl rfl rfl (nle rfl) (nle rfl) rfl ?_
        refine c_has  F0 (by omega) (by omega) (fun z3 rz3 => ?_)
        refine rI ?_
        refine g_ifZ_eq 42 26 dX1_step_23 rfl rfl (rg01 (by omega)) (fun q => absurd q (by omega)) (fun _ => ?_)
        refine g_aload_n 27 dX1_step_26 rfl rfl ?_
        refine g_iload_n 28 dX1_step_27 rfl rfl ?_
        refine g_aload_n 29 dX1_step_28 rfl rfl ?_
        refine g_get 32 dX1_step_29 faX1_18_X1 F0 rfl rfl ?_
        refine g_iload_n 33 dX1_step_32 rfl rfl ?_
        refine g_ialdZ (v := iZ (el c.toNat)) 34 dX1_step_33 F3 (by omega) (by omega) (by decide) rfl rfl ?_
        refine g_iconst (v := iZ (1)) 35 dX1_step_34 rfl rfl ?_
        refine g_isubZ ((el c.toNat) - 1) 36 dX1_step_35 (by omega) rfl ?_
        refine g_callV (z := mX1_firstBuilt) (As := [.int (iZ c), .int (iZ ((el c.toNat) - 1))]) 39 dX1_step_36 mwX1_firstBuilt ⟨by decide, by decide⟩ rfl wlX1_33 wiX1_firstBuilt wsX1_firstBuilt F0 rfl rfl rfl (nle rfl) (nle rfl) rfl ?_
        refine c_fb  F0 F1 F2 F3 oeu oek oel (by omega) (by omega) (by omega) (by omega) (fun z4 rz4 => ?_)
        refine rI ?_
        refine g_goto 44 dX1_step_39 rfl ?_
        refine g_istore_n (L1 := [some (.ref 30), none, some (.int (iZ k0)), some (.int (iZ z4)), some (.int (iZ i))]) 45 dX1_step_44 (by decide) rfl rfl rfl ?_
        refine g_iincZ [some (.ref 30), none, some (.int (iZ k0)), some (.int (iZ z4)), some (.int (iZ (i + 1)))] 48 dX1_step_45 rfl (by omega) (by decide) rfl rfl rfl ?_
        refine g_goto 5 dX1_step_48 rfl ?_
        exact ih _ (by omega) _ (z4) (i + 1) rfl F0 F1 F2 F3 (by omega) (by rw [show (i + 1).toNat = i.toNat + 1 by omega, lds, hC]; exact (fst1_cg (fun j hj => by rw [hL j (by omega), hL c.toNat (by omega)])).trans rz4.1.symm) k
set_option maxRecDepth 100000 in
theorem c_stp {l : Launch} {h : MH} {Q : Option Value → MH → Prop} {en a b k0 : Int} {eu ek el : Nat → Int} (F0 : h[30]? = some (.inr (1, [.ref 31, .ref 32, .ref 33, .int (iZ en)]))) (F1 : h[31]? = some (.inl (0, 12, .inl (zA eu)))) (F2 : h[32]? = some (.inl (0, 12, .inl (zA ek)))) (F3 : h[33]? = some (.inl (0, 12, .inl (zA el)))) (oeu : okr eu) (oek : okr ek) (oel : okr el) (ren : (0 ≤ en ∧ en ≤ 12)) (ra : (0 ≤ a ∧ a ≤ 11)) (rk0 : rg k0) (ha : a < en) (hL : ∀ j : Nat, (j : Int) < en → el j = lvE en eu ek a b 0 j) (hk : 0 ≤ k0 ∧ k0 ≤ lvE en eu ek a b 0 a.toNat) (k : ∀ (r : Int), (r = lds en.toNat (lvE en eu ek a b 0) (fun o => iZ (eu o)) (fun o => iZ (ek o)) a k0.toNat ∧ -9 ≤ r ∧ r ≤ 12) → Q (some (.int (iZ r))) h) : Go l mX1_step 0 [some (.ref 30), some (.int (iZ a)), some (.int (iZ k0)), none, none] [] h Q := by
  refine g_iload_n 1 dX1_step_0 rfl rfl ?_
  refine g_istore_n (L1 := [some (.ref 30), some (.int (iZ a)), some (.int (iZ k0)), some (.int (iZ a)), none]) 2 dX1_step_1 (by decide) rfl rfl rfl ?_
  refine g_iconst (v := iZ (0)) 3 dX1_step_2 rfl rfl ?_
  refine g_istore (L1 := [some (.ref 30), some (.int (iZ a)), some (.int (iZ k0)), some (.int (iZ a)), some (.int (iZ 0))]) 5 dX1_step_3 (by decide) rfl rfl rfl ?_
  refine Go.fgt 1 ?_
  exact c_stp_l oeu oek oel ren ra rk0 ha hL hk _ _ (a) (0) rfl F0 F1 F2 F3 (by omega) rfl k
set_option maxRecDepth 100000 in
theorem c_lad {l : Launch} {h : MH} {Q : Option Value → MH → Prop} {tc : Nat} {tr : Int64} {en a b k0 : Int} {eu ek el : Nat → Int} (F0 : h[0]? = some (.inr (7, [.ref 1, .ref 3, .ref 4, .int (iZ ((tc : Int))), .ref 5, .ref 9, .ref 15, .ref 20, .ref 25, .ref 30, .long (tr)]))) (F1 : h[30]? = some (.inr (1, [.ref 31, .ref 32, .ref 33, .int (iZ en)]))) (F2 : h[31]? = some (.inl (0, 12, .inl (zA eu)))) (F3 : h[32]? = some (.inl (0, 12, .inl (zA ek)))) (F4 : h[33]? = some (.inl (0, 12, .inl (zA el)))) (oeu : okr eu) (oek : okr ek) (oel : okr el) (ren : (0 ≤ en ∧ en ≤ 12)) (ra : rg a) (rb : rg b) (rk0 : rg k0) (htc : tc ≤ 12) (k : ∀ (h1 : MH) (ek_1 : Nat → Int) (el_1 : Nat → Int) (r : Int), okr ek_1 → okr el_1 → (rg r) → (ek_1 = ek) → (0 ≤ a ∧ a < en ∧ 0 ≤ b ∧ b < en ∧ -1 ≤ k0 → r = ldF en eu ek a b k0) → (¬ (0 ≤ a ∧ a < en ∧ 0 ≤ b ∧ b < en ∧ -1 ≤ k0) → r = -1) → Sm [32, 33] h h1 → h1[32]? = some (.inl (0, 12, .inl (zA ek_1))) → h1[33]? = some (.inl (0, 12, .inl (zA el_1))) → Q (some (.int (iZ r))) h1) : Go l mX8_ladder 0 [some (.ref 0), some (.int (iZ a)), some (.int (iZ b)), some (.int (iZ k0)), none] [] h Q := by
  refine g_aload_n 1 dX8_ladder_0 rfl rfl ?_
  refine g_get 4 dX8_ladder_1 faX8_59_X8 F0 rfl rfl ?_
  refine g_iload_n 5 dX8_ladder_4 rfl rfl ?_
  refine g_callV (z := mX1_has) (As := [.int (iZ a)]) 8 dX8_ladder_5 mwX1_has ⟨by decide, by decide⟩ rfl wlX8_189 wiX1_has wsX1_has F1 rfl rfl rfl (nle rfl) (nle rfl) rfl ?_
  refine c_has  F1 (by omega) ra (fun z1 rz1 => ?_)
  refine rI ?_
  refine g_ifZ_eq 27 11 dX8_ladder_8 rfl rfl (rg01 (by omega)) (fun c2 => ?_) (fun c2 => ?_)
  · refine g_iconst (v := iZ (-1)) 28 dX8_ladder_27 rfl rfl ?_
    refine g_iret rfl dX8_ladder_28 ?_
    exact k _ (ek) (el) (-1) oek oel (by omega) rfl (fun q => by omega) (fun _ => rfl) (Sm.refl [32, 33] _) F3 F4
  · refine g_aload_n 12 dX8_ladder_11 rfl rfl ?_
    refine g_get 15 dX8_ladder_12 faX8_59_X8 F0 rfl rfl ?_
    refine g_iload_n 16 dX8_ladder_15 rfl rfl ?_
    refine g_callV (z := mX1_has) (As := [.int (iZ b)]) 19 dX8_ladder_16 mwX1_has ⟨by decide, by decide⟩ rfl wlX8_189 wiX1_has wsX1_has F1 rfl rfl rfl (nle rfl) (nle rfl) rfl ?_
    refine c_has  F1 (by omega) rb (fun z3 rz3 => ?_)
    refine rI ?_
    refine g_ifZ_eq 27 22 dX8_ladder_19 rfl rfl (rg01 (by omega)) (fun c4 => ?_) (fun c4 => ?_)
    · refine g_iconst (v := iZ (-1)) 28 dX8_ladder_27 rfl rfl ?_
      refine g_iret rfl dX8_ladder_28 ?_
      exact k _ (ek) (el) (-1) oek oel (by omega) rfl (fun q => by omega) (fun _ => rfl) (Sm.refl [32, 33] _) F3 F4
    · refine g_iload_n 23 dX8_ladder_22 rfl rfl ?_
      refine g_iconst (v := iZ (-1)) 24 dX8_ladder_23 rfl rfl ?_
      refine g_icZ_ge 29 27 dX8_ladder_24 rfl rfl rk0 (by decide) (fun c5 => ?_) (fun c5 => ?_)
      · refine g_aload_n 30 dX8_ladder_29 rfl rfl ?_
        refine g_get 33 dX8_ladder_30 faX8_59_X8 F0 rfl rfl ?_
        refine g_iload_n 34 dX8_ladder_33 rfl rfl ?_
        refine g_iload_n 35 dX8_ladder_34 rfl rfl ?_
        refine g_iconst (v := iZ (0)) 36 dX8_ladder_35 rfl rfl ?_
        refine g_callV (z := mX1_fewest) (As := [.int (iZ a), .int (iZ b), .int (iZ 0)]) 39 dX8_ladder_36 mwX1_fewest ⟨by decide, by decide⟩ rfl wlX8_193 wiX1_fewest wsX1_fewest F1 rfl rfl rfl (nle rfl) (nle rfl) rfl ?_
        refine c_few  F1 F2 F3 F4 oeu oek oel (by omega) (by omega) (by omega) (by decide) (by omega) (by omega) (fun h6 g8 g9 z10 og8 og9 rz10 p11 p12 s7 f13 f14 => ?_)
        refine rI ?_
        have f15 := f13
        rw [p11] at f15
        have lr16 := lvE_rg en eu ek a b (0) a.toNat
        refine g_istore (L1 := [some (.ref 0), some (.int (iZ a)), some (.int (iZ b)), some (.int (iZ k0)), some (.int (iZ z10))]) 41 dX8_ladder_39 (by decide) rfl rfl rfl ?_
        refine g_iload 43 dX8_ladder_41 rfl rfl ?_
        refine g_bipush (v := iZ (-9)) 45 dX8_ladder_43 (by decide +kernel) rfl ?_
        refine g_icZ_eq 54 48 dX8_ladder_45 rfl rfl (by omega) (by decide) (fun c17 => ?_) (fun c17 => ?_)
        · refine g_bipush (v := iZ (-9)) 56 dX8_ladder_54 (by decide +kernel) rfl ?_
          refine g_iret rfl dX8_ladder_56 ?_
          exact k _ (ek) (g9) (-9) oek og9 (by omega) rfl (fun _ => by unfold ldF; rw [if_pos (by omega)]; omega) (fun q => by omega) ((Sm.refl [32, 33] _).tr s7 (fun _ q => q) (by simp)) f15 f14
        · refine g_iload_n 49 dX8_ladder_48 rfl rfl ?_
          refine g_iload 51 dX8_ladder_49 rfl rfl ?_
          refine g_icZ_le 57 54 dX8_ladder_51 rfl rfl rk0 (by omega) (fun c18 => ?_) (fun c18 => ?_)
          · refine g_iload_n 58 dX8_ladder_57 rfl rfl ?_
            refine g_iconst (v := iZ (-1)) 59 dX8_ladder_58 rfl rfl ?_
            refine g_icZ_ne 67 62 dX8_ladder_59 rfl rfl rk0 (by decide) (fun c19 => ?_) (fun c19 => ?_)
            · refine g_aload_n 68 dX8_ladder_67 rfl rfl ?_
              have f20 := (s7.get (by decide) F0)
              refine g_get 71 dX8_ladder_68 faX8_59_X8 f20 rfl rfl ?_
              refine g_iload_n 72 dX8_ladder_71 rfl rfl ?_
              refine g_iload_n 73 dX8_ladder_72 rfl rfl ?_
              have f21 := (s7.get (by decide) F1)
              refine g_callV (z := mX1_step) (As := [.int (iZ a), .int (iZ k0)]) 76 dX8_ladder_73 mwX1_step ⟨by decide, by decide⟩ rfl wlX8_197 wiX1_step wsX1_step f21 rfl rfl rfl (nle rfl) (nle rfl) rfl ?_
              have f22 := (s7.get (by decide) F2)
              refine c_stp  f21 f22 f15 f14 oeu oek og9 (by omega) (by omega) rk0 (by omega) p12 (by omega) (fun z23 rz23 => ?_)
              refine rI ?_
              refine g_iret rfl dX8_ladder_76 ?_
              exact k _ (ek) (g9) (z23) oek og9 (by omega) rfl (fun _ => by unfold ldF; rw [if_neg (by omega), if_neg (by omega)]; exact rz23.1) (fun q => by omega) ((Sm.refl [32, 33] _).tr s7 (fun _ q => q) (by simp)) f15 f14
            · refine g_iload 64 dX8_ladder_62 rfl rfl ?_
              refine g_goto 76 dX8_ladder_64 rfl ?_
              refine g_iret rfl dX8_ladder_76 ?_
              exact k _ (ek) (g9) (z10) oek og9 (by omega) rfl (fun _ => by unfold ldF; rw [if_pos (by omega)]; omega) (fun q => by omega) ((Sm.refl [32, 33] _).tr s7 (fun _ q => q) (by simp)) f15 f14
          · refine g_bipush (v := iZ (-9)) 56 dX8_ladder_54 (by decide +kernel) rfl ?_
            refine g_iret rfl dX8_ladder_56 ?_
            exact k _ (ek) (g9) (-9) oek og9 (by omega) rfl (fun _ => by unfold ldF; rw [if_neg (by omega), if_pos (by omega)]) (fun q => by omega) ((Sm.refl [32, 33] _).tr s7 (fun _ q => q) (by simp)) f15 f14
      · refine g_iconst (v := iZ (-1)) 28 dX8_ladder_27 rfl rfl ?_
        refine g_iret rfl dX8_ladder_28 ?_
        exact k _ (ek) (el) (-1) oek oel (by omega) rfl (fun q => by omega) (fun _ => rfl) (Sm.refl [32, 33] _) F3 F4
set_option maxRecDepth 100000 in
theorem c_need_l {l : Launch} {Q : Option Value → MH → Prop} {tc : Nat} {tr : Int64} {en a b x : Int} {eu : Nat → Int} (oeu : okr eu) (ren : (0 ≤ en ∧ en ≤ 12)) (ra : rg a) (rb : rg b) (rx : rg x) (htc : tc ≤ 12) : ∀ (m0 : Nat) (h : MH) (ek : Nat → Int) (el : Nat → Int) (wd bs j : Int), (16 - j).toNat = m0 → okr ek → okr el → h[0]? = some (.inr (7, [.ref 1, .ref 3, .ref 4, .int (iZ ((tc : Int))), .ref 5, .ref 9, .ref 15, .ref 20, .ref 25, .ref 30, .long (tr)])) → h[30]? = some (.inr (1, [.ref 31, .ref 32, .ref 33, .int (iZ en)])) → h[31]? = some (.inl (0, 12, .inl (zA eu))) → h[32]? = some (.inl (0, 12, .inl (zA ek))) → h[33]? = some (.inl (0, 12, .inl (zA el))) → 0 ≤ j ∧ j ≤ 16 → 0 ≤ a ∧ a < en ∧ 0 ≤ b ∧ b < en ∧ 0 ≤ x ∧ x ≤ 1 → -9 ≤ wd ∧ wd ≤ 16 → -9 ≤ bs ∧ bs ≤ 12 → nds (fun w => lvE en eu ek a b w a.toNat) j.toNat = (wd, bs) → (∀ (h1 : MH) (ek_1 : Nat → Int) (el_1 : Nat → Int) (r : Int), okr ek_1 → okr el_1 → (rg r) → (ek_1 = ek) → (0 ≤ a ∧ a < en ∧ 0 ≤ b ∧ b < en ∧ 0 ≤ x ∧ x ≤ 1 → r = ndF en eu ek a b x) → (¬ (0 ≤ a ∧ a < en ∧ 0 ≤ b ∧ b < en ∧ 0 ≤ x ∧ x ≤ 1) → r = -1) → Sm [32, 33] h h1 → h1[32]? = some (.inl (0, 12, .inl (zA ek_1))) → h1[33]? = some (.inl (0, 12, .inl (zA el_1))) → Q (some (.int (iZ r))) h1) → Go l mX8_needed 52 [some (.ref 0), some (.int (iZ a)), some (.int (iZ b)), some (.int (iZ x)), some (.int (iZ wd)), some (.int (iZ bs)), some (.int (iZ j)), none] [] h Q := by
  intro m0
  induction m0 using Nat.strongRecOn with
  | ind m0 ih =>
    intro h ek el wd bs j hmz oek oel F0 F1 F2 F3 F4 hj hV hwd hbs hN k
    refine g_iload 54 dX8_needed_52 rfl rfl ?_
    refine g_bipush (v := iZ (16)) 56 dX8_needed_54 (by decide +kernel) rfl ?_
    refine g_icZ_ge 109 59 dX8_needed_56 rfl rfl (by omega) (by decide) (fun c1 => ?_) (fun c1 => ?_)
    · have e9 : j = 16 := by omega
      subst e9
      have hN2 : nds (fun w => lvE en eu ek a b w a.toNat) 16 = (wd, bs) := hN
      refine g_iload 111 dX8_needed_109 rfl rfl ?_
      refine g_bipush (v := iZ (-9)) 113 dX8_needed_111 (by decide +kernel) rfl ?_
      refine g_icZ_eq 120 116 dX8_needed_113 rfl rfl (by omega) (by decide) (fun c2 => ?_) (fun c2 => ?_)
      · refine g_iload 122 dX8_needed_120 rfl rfl ?_
        refine g_goto 127 dX8_needed_122 rfl ?_
        refine g_iret rfl dX8_needed_127 ?_
        exact k _ (ek) (el) (wd) oek oel (by omega) rfl (fun _ => by unfold ndF; rw [hN2]; show wd = if wd = -9 ∨ x = 0 then wd else bs; rw [if_pos (by omega)]) (fun q => by omega) (Sm.refl [32, 33] _) F3 F4
      · refine g_iload_n 117 dX8_needed_116 rfl rfl ?_
        refine g_ifZ_ne 125 120 dX8_needed_117 rfl rfl rx (fun c3 => ?_) (fun c3 => ?_)
        · refine g_iload 127 dX8_needed_125 rfl rfl ?_
          refine g_iret rfl dX8_needed_127 ?_
          exact k _ (ek) (el) (bs) oek oel (by omega) rfl (fun _ => by unfold ndF; rw [hN2]; show bs = if wd = -9 ∨ x = 0 then wd else bs; rw [if_neg (by omega)]) (fun q => by omega) (Sm.refl [32, 33] _) F3 F4
        · refine g_iload 122 dX8_needed_120 rfl rfl ?_
          refine g_goto 127 dX8_needed_122 rfl ?_
          refine g_iret rfl dX8_needed_127 ?_
          exact k _ (ek) (el) (wd) oek oel (by omega) rfl (fun _ => by unfold ndF; rw [hN2]; show wd = if wd = -9 ∨ x = 0 then wd else bs; rw [if_pos (by omega)]) (fun q => by omega) (Sm.refl [32, 33] _) F3 F4
    · refine g_aload_n 60 dX8_needed_59 rfl rfl ?_
      refine g_get 63 dX8_needed_60 faX8_59_X8 F0 rfl rfl ?_
      refine g_iload_n 64 dX8_needed_63 rfl rfl ?_
      refine g_iload_n 65 dX8_needed_64 rfl rfl ?_
      refine g_iconst (v := iZ (1)) 66 dX8_needed_65 rfl rfl ?_
      refine g_iload 68 dX8_needed_66 rfl rfl ?_
      refine g_ishlZ (2 ^ j.toNat) 69 dX8_needed_68 (by have q := shl16 j.toNat (by omega); rwa [Int.toNat_of_nonneg (by omega)] at q) rfl ?_
      refine g_callV (z := mX1_fewest) (As := [.int (iZ a), .int (iZ b), .int (iZ (2 ^ j.toNat))]) 72 dX8_needed_69 mwX1_fewest ⟨by decide, by decide⟩ rfl wlX8_193 wiX1_fewest wsX1_fewest F1 rfl rfl rfl (nle rfl) (nle rfl) rfl ?_
      refine c_few  F1 F2 F3 F4 oeu oek oel (by omega) (by omega) (by omega) (pow16 _ (by omega)) (by omega) (by omega) (fun h4 g6 g7 z8 og6 og7 rz8 p9 p10 s5 f11 f12 => ?_)
      refine rI ?_
      have f13 := f11
      rw [p9] at f13
      have lr14 := lvE_rg en eu ek a b (2 ^ j.toNat) a.toNat
      refine g_istore (L1 := [some (.ref 0), some (.int (iZ a)), some (.int (iZ b)), some (.int (iZ x)), some (.int (iZ wd)), some (.int (iZ bs)), some (.int (iZ j)), some (.int (iZ z8))]) 74 dX8_needed_72 (by decide) rfl rfl rfl ?_
      refine g_iload 76 dX8_needed_74 rfl rfl ?_
      refine g_bipush (v := iZ (-9)) 78 dX8_needed_76 (by decide +kernel) rfl ?_
      refine g_icZ_eq 103 81 dX8_needed_78 rfl rfl (by omega) (by decide) (fun c15 => ?_) (fun c15 => ?_)
      · refine g_iincZ [some (.ref 0), some (.int (iZ a)), some (.int (iZ b)), some (.int (iZ x)), some (.int (iZ wd)), some (.int (iZ bs)), some (.int (iZ (j + 1))), some (.int (iZ z8))] 106 dX8_needed_103 rfl (by omega) (by decide) rfl rfl rfl ?_
        refine g_goto 52 dX8_needed_106 rfl ?_
        refine Go.fgt 7 ?_
        have f16 := (s5.get (by decide) F0)
        have f17 := (s5.get (by decide) F1)
        have f18 := (s5.get (by decide) F2)
        exact ih _ (by omega) _ (ek) (g7) (wd) (bs) (j + 1) rfl oek og7 f16 f17 f18 f13 f12 (by omega) (by omega) (by omega) (by omega) (ndsI_neg (by omega) hN rz8.1.symm (by omega)) (fun hQ xQ0 xQ1 rQ yQ0 yQ1 yQ2 pQ0 pQ1 pQ2 sQ uQ0 uQ1 => k hQ xQ0 xQ1 rQ yQ0 yQ1 yQ2 pQ0 pQ1 pQ2 (((Sm.refl [32, 33] _).tr s5 (fun _ q => q) (by simp)).tr sQ (fun _ q => q) (fun _ q => q)) uQ0 uQ1)
      · refine g_iload 83 dX8_needed_81 rfl rfl ?_
        refine g_bipush (v := iZ (-9)) 85 dX8_needed_83 (by decide +kernel) rfl ?_
        refine g_icZ_eq 95 88 dX8_needed_85 rfl rfl (by omega) (by decide) (fun c19 => ?_) (fun c19 => ?_)
        · refine g_iload 97 dX8_needed_95 rfl rfl ?_
          refine g_istore (L1 := [some (.ref 0), some (.int (iZ a)), some (.int (iZ b)), some (.int (iZ x)), some (.int (iZ wd)), some (.int (iZ z8)), some (.int (iZ j)), some (.int (iZ z8))]) 99 dX8_needed_97 (by decide) rfl rfl rfl ?_
          refine g_iload 101 dX8_needed_99 rfl rfl ?_
          refine g_istore (L1 := [some (.ref 0), some (.int (iZ a)), some (.int (iZ b)), some (.int (iZ x)), some (.int (iZ j)), some (.int (iZ z8)), some (.int (iZ j)), some (.int (iZ z8))]) 103 dX8_needed_101 (by decide) rfl rfl rfl ?_
          refine g_iincZ [some (.ref 0), some (.int (iZ a)), some (.int (iZ b)), some (.int (iZ x)), some (.int (iZ j)), some (.int (iZ z8)), some (.int (iZ (j + 1))), some (.int (iZ z8))] 106 dX8_needed_103 rfl (by omega) (by decide) rfl rfl rfl ?_
          refine g_goto 52 dX8_needed_106 rfl ?_
          refine Go.fgt 7 ?_
          have f20 := (s5.get (by decide) F0)
          have f21 := (s5.get (by decide) F1)
          have f22 := (s5.get (by decide) F2)
          exact ih _ (by omega) _ (ek) (g7) (j) (z8) (j + 1) rfl oek og7 f20 f21 f22 f13 f12 (by omega) (by omega) (by omega) (by omega) (ndsI_pos (by omega) hN rz8.1.symm (by omega)) (fun hQ xQ0 xQ1 rQ yQ0 yQ1 yQ2 pQ0 pQ1 pQ2 sQ uQ0 uQ1 => k hQ xQ0 xQ1 rQ yQ0 yQ1 yQ2 pQ0 pQ1 pQ2 (((Sm.refl [32, 33] _).tr s5 (fun _ q => q) (by simp)).tr sQ (fun _ q => q) (fun _ q => q)) uQ0 uQ1)
        · refine g_iload 90 dX8_needed_88 rfl rfl ?_
          refine g_iload 92 dX8_needed_90 rfl rfl ?_
          refine g_icZ_ge 103 95 dX8_needed_92 rfl rfl (by omega) (by omega) (fun c23 => ?_) (fun c23 => ?_)
          · refine g_iincZ [some (.ref 0), some (.int (iZ a)), some (.int (iZ b)), some (.int (iZ x)), some (.int (iZ wd)), some (.int (iZ bs)), some (.int (iZ (j + 1))), some (.int (iZ z8))] 106 dX8_needed_103 rfl (by omega) (by decide) rfl rfl rfl ?_
            refine g_goto 52 dX8_needed_106 rfl ?_
            refine Go.fgt 7 ?_
            have f24 := (s5.get (by decide) F0)
            have f25 := (s5.get (by decide) F1)
            have f26 := (s5.get (by decide) F2)
            exact ih _ (by omega) _ (ek) (g7) (wd) (bs) (j + 1) rfl oek og7 f24 f25 f26 f13 f12 (by omega) (by omega) (by omega) (by omega) (ndsI_neg (by omega) hN rz8.1.symm (by omega)) (fun hQ xQ0 xQ1 rQ yQ0 yQ1 yQ2 pQ0 pQ1 pQ2 sQ uQ0 uQ1 => k hQ xQ0 xQ1 rQ yQ0 yQ1 yQ2 pQ0 pQ1 pQ2 (((Sm.refl [32, 33] _).tr s5 (fun _ q => q) (by simp)).tr sQ (fun _ q => q) (fun _ q => q)) uQ0 uQ1)
          · refine g_iload 97 dX8_needed_95 rfl rfl ?_
            refine g_istore (L1 := [some (.ref 0), some (.int (iZ a)), some (.int (iZ b)), some (.int (iZ x)), some (.int (iZ wd)), some (.int (iZ z8)), some (.int (iZ j)), some (.int (iZ z8))]) 99 dX8_needed_97 (by decide) rfl rfl rfl ?_
            refine g_iload 101 dX8_needed_99 rfl rfl ?_
            refine g_istore (L1 := [some (.ref 0), some (.int (iZ a)), some (.int (iZ b)), some (.int (iZ x)), some (.int (iZ j)), some (.int (iZ z8)), some (.int (iZ j)), some (.int (iZ z8))]) 103 dX8_needed_101 (by decide) rfl rfl rfl ?_
            refine g_iincZ [some (.ref 0), some (.int (iZ a)), some (.int (iZ b)), some (.int (iZ x)), some (.int (iZ j)), some (.int (iZ z8)), some (.int (iZ (j + 1))), some (.int (iZ z8))] 106 dX8_needed_103 rfl (by omega) (by decide) rfl rfl rfl ?_
            refine g_goto 52 dX8_needed_106 rfl ?_
            refine Go.fgt 7 ?_
            have f27 := (s5.get (by decide) F0)
            have f28 := (s5.get (by decide) F1)
            have f29 := (s5.get (by decide) F2)
            exact ih _ (by omega) _ (ek) (g7) (j) (z8) (j + 1) rfl oek og7 f27 f28 f29 f13 f12 (by omega) (by omega) (by omega) (by omega) (ndsI_pos (by omega) hN rz8.1.symm (by omega)) (fun hQ xQ0 xQ1 rQ yQ0 yQ1 yQ2 pQ0 pQ1 pQ2 sQ uQ0 uQ1 => k hQ xQ0 xQ1 rQ yQ0 yQ1 yQ2 pQ0 pQ1 pQ2 (((Sm.refl [32, 33] _).tr s5 (fun _ q => q) (by simp)).tr sQ (fun _ q => q) (fun _ q => q)) uQ0 uQ1)
set_option maxRecDepth 100000 in
theorem c_need {l : Launch} {h : MH} {Q : Option Value → MH → Prop} {tc : Nat} {tr : Int64} {en a b x : Int} {eu ek el : Nat → Int} (F0 : h[0]? = some (.inr (7, [.ref 1, .ref 3, .ref 4, .int (iZ ((tc : Int))), .ref 5, .ref 9, .ref 15, .ref 20, .ref 25, .ref 30, .long (tr)]))) (F1 : h[30]? = some (.inr (1, [.ref 31, .ref 32, .ref 33, .int (iZ en)]))) (F2 : h[31]? = some (.inl (0, 12, .inl (zA eu)))) (F3 : h[32]? = some (.inl (0, 12, .inl (zA ek)))) (F4 : h[33]? = some (.inl (0, 12, .inl (zA el)))) (oeu : okr eu) (oek : okr ek) (oel : okr el) (ren : (0 ≤ en ∧ en ≤ 12)) (ra : rg a) (rb : rg b) (rx : rg x) (htc : tc ≤ 12) (k : ∀ (h1 : MH) (ek_1 : Nat → Int) (el_1 : Nat → Int) (r : Int), okr ek_1 → okr el_1 → (rg r) → (ek_1 = ek) → (0 ≤ a ∧ a < en ∧ 0 ≤ b ∧ b < en ∧ 0 ≤ x ∧ x ≤ 1 → r = ndF en eu ek a b x) → (¬ (0 ≤ a ∧ a < en ∧ 0 ≤ b ∧ b < en ∧ 0 ≤ x ∧ x ≤ 1) → r = -1) → Sm [32, 33] h h1 → h1[32]? = some (.inl (0, 12, .inl (zA ek_1))) → h1[33]? = some (.inl (0, 12, .inl (zA el_1))) → Q (some (.int (iZ r))) h1) : Go l mX8_needed 0 [some (.ref 0), some (.int (iZ a)), some (.int (iZ b)), some (.int (iZ x)), none, none, none, none] [] h Q := by
  refine g_aload_n 1 dX8_needed_0 rfl rfl ?_
  refine g_get 4 dX8_needed_1 faX8_59_X8 F0 rfl rfl ?_
  refine g_iload_n 5 dX8_needed_4 rfl rfl ?_
  refine g_callV (z := mX1_has) (As := [.int (iZ a)]) 8 dX8_needed_5 mwX1_has ⟨by decide, by decide⟩ rfl wlX8_189 wiX1_has wsX1_has F1 rfl rfl rfl (nle rfl) (nle rfl) rfl ?_
  refine c_has  F1 (by omega) ra (fun z1 rz1 => ?_)
  refine rI ?_
  refine g_ifZ_eq 31 11 dX8_needed_8 rfl rfl (rg01 (by omega)) (fun c2 => ?_) (fun c2 => ?_)
  · refine g_iconst (v := iZ (-1)) 32 dX8_needed_31 rfl rfl ?_
    refine g_iret rfl dX8_needed_32 ?_
    exact k _ (ek) (el) (-1) oek oel (by omega) rfl (fun q => by omega) (fun _ => rfl) (Sm.refl [32, 33] _) F3 F4
  · refine g_aload_n 12 dX8_needed_11 rfl rfl ?_
    refine g_get 15 dX8_needed_12 faX8_59_X8 F0 rfl rfl ?_
    refine g_iload_n 16 dX8_needed_15 rfl rfl ?_
    refine g_callV (z := mX1_has) (As := [.int (iZ b)]) 19 dX8_needed_16 mwX1_has ⟨by decide, by decide⟩ rfl wlX8_189 wiX1_has wsX1_has F1 rfl rfl rfl (nle rfl) (nle rfl) rfl ?_
    refine c_has  F1 (by omega) rb (fun z3 rz3 => ?_)
    refine rI ?_
    refine g_ifZ_eq 31 22 dX8_needed_19 rfl rfl (rg01 (by omega)) (fun c4 => ?_) (fun c4 => ?_)
    · refine g_iconst (v := iZ (-1)) 32 dX8_needed_31 rfl rfl ?_
      refine g_iret rfl dX8_needed_32 ?_
      exact k _ (ek) (el) (-1) oek oel (by omega) rfl (fun q => by omega) (fun _ => rfl) (Sm.refl [32, 33] _) F3 F4
    · refine g_iload_n 23 dX8_needed_22 rfl rfl ?_
      refine g_ifZ_lt 31 26 dX8_needed_23 rfl rfl rx (fun c5 => ?_) (fun c5 => ?_)
      · refine g_iconst (v := iZ (-1)) 32 dX8_needed_31 rfl rfl ?_
        refine g_iret rfl dX8_needed_32 ?_
        exact k _ (ek) (el) (-1) oek oel (by omega) rfl (fun q => by omega) (fun _ => rfl) (Sm.refl [32, 33] _) F3 F4
      · refine g_iload_n 27 dX8_needed_26 rfl rfl ?_
        refine g_iconst (v := iZ (1)) 28 dX8_needed_27 rfl rfl ?_
        refine g_icZ_le 33 31 dX8_needed_28 rfl rfl rx (by decide) (fun c6 => ?_) (fun c6 => ?_)
        · refine g_bipush (v := iZ (-9)) 35 dX8_needed_33 (by decide +kernel) rfl ?_
          refine g_istore (L1 := [some (.ref 0), some (.int (iZ a)), some (.int (iZ b)), some (.int (iZ x)), some (.int (iZ (-9))), none, none, none]) 37 dX8_needed_35 (by decide) rfl rfl rfl ?_
          refine g_aload_n 38 dX8_needed_37 rfl rfl ?_
          refine g_get 41 dX8_needed_38 faX8_59_X8 F0 rfl rfl ?_
          refine g_iload_n 42 dX8_needed_41 rfl rfl ?_
          refine g_iload_n 43 dX8_needed_42 rfl rfl ?_
          refine g_iconst (v := iZ (0)) 44 dX8_needed_43 rfl rfl ?_
          refine g_callV (z := mX1_fewest) (As := [.int (iZ a), .int (iZ b), .int (iZ 0)]) 47 dX8_needed_44 mwX1_fewest ⟨by decide, by decide⟩ rfl wlX8_193 wiX1_fewest wsX1_fewest F1 rfl rfl rfl (nle rfl) (nle rfl) rfl ?_
          refine c_few  F1 F2 F3 F4 oeu oek oel (by omega) (by omega) (by omega) (by decide) (by omega) (by omega) (fun h7 g9 g10 z11 og9 og10 rz11 p12 p13 s8 f14 f15 => ?_)
          refine rI ?_
          have f16 := f14
          rw [p12] at f16
          have lr17 := lvE_rg en eu ek a b (0) a.toNat
          refine g_istore (L1 := [some (.ref 0), some (.int (iZ a)), some (.int (iZ b)), some (.int (iZ x)), some (.int (iZ (-9))), some (.int (iZ z11)), none, none]) 49 dX8_needed_47 (by decide) rfl rfl rfl ?_
          refine g_iconst (v := iZ (0)) 50 dX8_needed_49 rfl rfl ?_
          refine g_istore (L1 := [some (.ref 0), some (.int (iZ a)), some (.int (iZ b)), some (.int (iZ x)), some (.int (iZ (-9))), some (.int (iZ z11)), some (.int (iZ 0)), none]) 52 dX8_needed_50 (by decide) rfl rfl rfl ?_
          have f18 := (s8.get (by decide) F0)
          have f19 := (s8.get (by decide) F1)
          have f20 := (s8.get (by decide) F2)
          exact c_need_l oeu ren ra rb rx htc _ _ (ek) (g10) (-9) (z11) (0) rfl oek og10 f18 f19 f20 f16 f15 (by omega) (by omega) (by omega) (by omega) (by show ((-9 : Int), lvE en eu ek a b 0 a.toNat) = _; rw [← rz11.1]) (fun hQ xQ0 xQ1 rQ yQ0 yQ1 yQ2 pQ0 pQ1 pQ2 sQ uQ0 uQ1 => k hQ xQ0 xQ1 rQ yQ0 yQ1 yQ2 pQ0 pQ1 pQ2 (((Sm.refl [32, 33] _).tr s8 (fun _ q => q) (by simp)).tr sQ (fun _ q => q) (fun _ q => q)) uQ0 uQ1)
        · refine g_iconst (v := iZ (-1)) 32 dX8_needed_31 rfl rfl ?_
          refine g_iret rfl dX8_needed_32 ?_
          exact k _ (ek) (el) (-1) oek oel (by omega) rfl (fun q => by omega) (fun _ => rfl) (Sm.refl [32, 33] _) F3 F4
theorem a8_ladder {l : Launch} {h : MH} {Q : Option Value → MH → Prop} {tn : Int} {tf : Nat → Int} {xn : Nat → Int} {xf : Nat → Nat → Int} {en : Int} {eu ek : Nat → Int} {tc : Nat} {a b k0 : Int} (H : IX h tn tf xn xf en eu ek tc) (ra : rg a) (rb : rg b) (rk0 : rg k0) (k : ∀ (h1 : MH) (r : Int), (0 ≤ a ∧ a < en ∧ 0 ≤ b ∧ b < en ∧ -1 ≤ k0 → r = ldF en eu ek a b k0) → (¬ (0 ≤ a ∧ a < en ∧ 0 ≤ b ∧ b < en ∧ -1 ≤ k0) → r = -1) → IX h1 tn tf xn xf en eu ek tc → Mo h h1 → Q (some (.int (iZ r))) h1) : Go l mX8_ladder 0 [some (.ref 0), some (.int (iZ a)), some (.int (iZ b)), some (.int (iZ k0)), none] [] h Q := by
  obtain ⟨HC, HS, HY, HE, hlen, hmz⟩ := id H
  obtain ⟨⟨tr, F0⟩, F3, F4, htc, HT, HL⟩ := id HC
  obtain ⟨el, oeu, oek, oel, e1, e2, E0, E1, E2, E3⟩ := id HE
  refine c_lad F0 E0 E1 E2 E3 oeu oek oel ⟨by omega, by omega⟩ ra rb rk0 htc (fun h1 ek1 el1 r o1 o2 rr pE p1 p2 s f2 f3 => ?_)
  subst pE
  have zz := H.ed (en1 := en) s (by decide) ⟨el1, oeu, oek, o2, e1, e2, s.get (by decide) E0, s.get (by decide) E1, f2, f3⟩
  exact k _ r p1 p2 zz.1 zz.2
theorem a8_needed {l : Launch} {h : MH} {Q : Option Value → MH → Prop} {tn : Int} {tf : Nat → Int} {xn : Nat → Int} {xf : Nat → Nat → Int} {en : Int} {eu ek : Nat → Int} {tc : Nat} {a b x : Int} (H : IX h tn tf xn xf en eu ek tc) (ra : rg a) (rb : rg b) (rx : rg x) (k : ∀ (h1 : MH) (r : Int), (0 ≤ a ∧ a < en ∧ 0 ≤ b ∧ b < en ∧ 0 ≤ x ∧ x ≤ 1 → r = ndF en eu ek a b x) → (¬ (0 ≤ a ∧ a < en ∧ 0 ≤ b ∧ b < en ∧ 0 ≤ x ∧ x ≤ 1) → r = -1) → IX h1 tn tf xn xf en eu ek tc → Mo h h1 → Q (some (.int (iZ r))) h1) : Go l mX8_needed 0 [some (.ref 0), some (.int (iZ a)), some (.int (iZ b)), some (.int (iZ x)), none, none, none, none] [] h Q := by
  obtain ⟨HC, HS, HY, HE, hlen, hmz⟩ := id H
  obtain ⟨⟨tr, F0⟩, F3, F4, htc, HT, HL⟩ := id HC
  obtain ⟨el, oeu, oek, oel, e1, e2, E0, E1, E2, E3⟩ := id HE
  refine c_need F0 E0 E1 E2 E3 oeu oek oel ⟨by omega, by omega⟩ ra rb rx htc (fun h1 ek1 el1 r o1 o2 rr pE p1 p2 s f2 f3 => ?_)
  subst pE
  have zz := H.ed (en1 := en) s (by decide) ⟨el1, oeu, oek, o2, e1, e2, s.get (by decide) E0, s.get (by decide) E1, f2, f3⟩
  exact k _ r p1 p2 zz.1 zz.2

def a_type (z : Int) : Int := if 1 ≤ z ∧ z ≤ 8 then z else -1
def a_ix0 (z : Int) : Int := if 0 ≤ z ∧ z < 8 then 0 else -1
def a_ix10 (z : Int) : Int := if 0 ≤ z ∧ z < 8 then -10 else -1
def a_ran (z : Int) : Int := if 0 ≤ z ∧ z ≤ 5 then 0 else -1
def a_tape (a w : Int) : Int := if w = 1 ∧ 0 ≤ a ∧ a < 256 then 0 else -1
def a_least (z : Int) : Int := if z = 0 then 0 else -1
def a_edition (u k : Int) : Int := if 0 ≤ u ∧ u ≤ 65535 ∧ 0 ≤ k ∧ k ≤ 65535 then 0 else -1
def a_count (z : Int) : Int := if 0 ≤ z ∧ z ≤ 4 then 0 else -1
theorem lp8_type {l : Launch} {Q : Option Value → MH → Prop} (v : Int64) (z : Int) : ∀ (k : Nat) (h : MH) (f : Nat → Int32) (len i : Int), i = k - 1 → 0 ≤ len → len + k ≤ 200 → k ≤ 8 → h[0]? = some (.inr (7, [.ref 1, .ref 3, .ref 4, .int (iZ 0), .ref 5, .ref 9, .ref 15, .ref 20, .ref 25, .ref 30, .long (0)])) → h[1]? = some (.inr (5, [.ref 2, .int (iZ len)])) → h[2]? = some (.inl (0, 200, .inl f)) → (∀ (h1 : MH) (r : Int), r = len + k → Sx 50 h h1 → Q (some (.int (iZ r))) h1) → Go l mX8_type 36 [some (.ref 0), some (.long (v)), none, some (.int (iZ z)), some (.int (iZ i))] [] h Q := by
  intro k
  induction k with
  | zero =>
    intro h f len i hi h0 h2 h3 f0 f1 f2 k
    have : i = -1 := by omega
    subst this
    refine g_iload 38 dX8_type_36 rfl rfl ?_
    refine g_ifZ_lt 66 41 dX8_type_38 rfl rfl (by decide) (fun _ => ?_) (fun q => absurd q (by decide))
    refine g_aload_n 67 dX8_type_66 rfl rfl ?_
    refine g_get 70 dX8_type_67 faX8_10_X8 f0 rfl rfl ?_
    refine g_get 73 dX8_type_70 faX8_67_X6 f1 rfl rfl ?_
    refine g_iret rfl dX8_type_73 ?_
    exact k _ _ (by omega) (Sx.refl _ _)
  | succ k ih =>
    intro h f len i hi h0 h2 h3 f0 f1 f2 kf
    have : i = (k : Int) := by omega
    subst this
    refine g_iload 38 dX8_type_36 rfl rfl ?_
    refine g_ifZ_lt 66 41 dX8_type_38 rfl rfl (by omega) (fun q => absurd q (by omega)) (fun _ => ?_)
    refine g_aload_n 42 dX8_type_41 rfl rfl ?_
    refine g_get 45 dX8_type_42 faX8_10_X8 f0 rfl rfl ?_
    refine g_lload_n 46 dX8_type_45 rfl rfl ?_
    refine g_bipush (v := iZ (8)) 48 dX8_type_46 (by decide +kernel) rfl ?_
    refine g_iload 50 dX8_type_48 rfl rfl ?_
    refine g_imulZ (8 * ((k : Int))) 51 dX8_type_50 (by omega) rfl ?_
    refine g_lushr 52 dX8_type_51 rfl ?_
    refine g_l2i 53 dX8_type_52 rfl ?_
    refine Go.gen (fun w1 => ?_)
    refine g_sipush (v := iZ (255)) 56 dX8_type_53 (by decide +kernel) rfl ?_
    refine g_iand 57 dX8_type_56 rfl ?_
    refine Go.gen (fun w2 => ?_)
    refine g_callV (z := mX6_add) (As := [.int w2]) 60 dX8_type_57 mwX6_add ⟨by decide, by decide⟩ rfl wlX8_70 wiX6_add wsX6_add f1 rfl rfl rfl (nle rfl) (nle rfl) rfl ?_
    refine Go.to [some (.ref 1), some (.int w2)] [] rfl rfl ?_
    refine g_aload_n 1 dX6_add_0 rfl rfl ?_
    refine g_get 4 dX6_add_1 faX6_15_X6 f1 rfl rfl ?_
    refine g_ifZ_lt 37 7 dX6_add_4 rfl rfl (by omega) (fun q => absurd q (by omega)) (fun _ => ?_)
    refine g_aload_n 8 dX6_add_7 rfl rfl ?_
    refine g_get 11 dX6_add_8 faX6_15_X6 f1 rfl rfl ?_
    refine g_sipush (v := iZ (200)) 14 dX6_add_11 (by decide +kernel) rfl ?_
    refine g_icZ_ge 37 17 dX6_add_14 rfl rfl (by omega) (by decide) (fun q => absurd q (by omega)) (fun _ => ?_)
    refine g_aload_n 18 dX6_add_17 rfl rfl ?_
    refine g_get 21 dX6_add_18 faX6_9_X6 f1 rfl rfl ?_
    refine g_aload_n 22 dX6_add_21 rfl rfl ?_
    refine g_get 25 dX6_add_22 faX6_15_X6 f1 rfl rfl ?_
    refine g_iload_n 26 dX6_add_25 rfl rfl ?_
    refine g_iastZ (f1 := upd (f) (len).toNat w2) 27 dX6_add_26 f2 (by omega) (by omega) (by decide) rfl rfl (fun h3 s4 f5 => ?_)
    refine g_aload_n 28 dX6_add_27 rfl rfl ?_
    refine g_dup 29 dX6_add_28 rfl rfl ?_
    have f6 := (s4.get (by decide) f1)
    refine g_get 32 dX6_add_29 faX6_15_X6 f6 rfl rfl ?_
    refine g_iconst (v := iZ (1)) 33 dX6_add_32 rfl rfl ?_
    refine g_iaddZ (len + 1) 34 dX6_add_33 (by omega) rfl ?_
    refine g_putC (fs1 := [.ref 2, .int (iZ (len + 1))]) 37 dX6_add_34 fpX6_15_X6 f6 (nle rfl) (vI _) rfl rfl (fun h7 s8 f9 => ?_)
    refine g_vret rfl dX6_add_37 ?_
    refine rV ?_
    refine g_iincZ [some (.ref 0), some (.long (v)), none, some (.int (iZ z)), some (.int (iZ ((k : Int) - 1)))] 63 dX8_type_60 rfl (by omega) (by decide) rfl rfl rfl ?_
    refine g_goto 36 dX8_type_63 rfl ?_
    have f10 := (s8.get (by decide) (s4.get (by decide) f0))
    have f11 := (s8.get (by decide) f5)
    exact ih _ _ _ _ (by omega) (by omega) (by omega) (by omega) f10 f9 f11 (fun h1 r hr hs => kf h1 r (by omega) (((s4.X (by decide)).tr (s8.X (by decide))).tr hs))
theorem lp4_a {l : Launch} {Q : Option Value → MH → Prop} {a b : Value} : ∀ (k : Nat) (h : MH) (f : Nat → Int32) (i : Int), i = 26 - k → k ≤ 26 → h[9]? = some (.inr (3, [.ref 10, .ref 13, .ref 14, a, b])) → h[13]? = some (.inl (0, 26, .inl f)) → (∀ (h1 : MH), Sm [13] h h1 → Go l mX4_begin 41 [some (.ref 9), some (.int (iZ 26))] [] h1 Q) → Go l mX4_begin 21 [some (.ref 9), some (.int (iZ i))] [] h Q := by
  intro k
  induction k with
  | zero =>
    intro h f i hi hk f0 f1 kk
    have : i = 26 := by omega
    subst this
    refine g_iload_n 22 dX4_begin_21 rfl rfl ?_
    refine g_bipush (v := iZ (26)) 24 dX4_begin_22 (by decide +kernel) rfl ?_
    refine g_icZ_ge 41 27 dX4_begin_24 rfl rfl (by decide) (by decide) (fun _ => ?_) (fun q => absurd q (by decide))
    exact kk _ (Sm.refl _ _)
  | succ k ih =>
    intro h f i hi hk f0 f1 kk
    have h0 : 0 ≤ i := by omega
    have h2 : i < 26 := by omega
    refine g_iload_n 22 dX4_begin_21 rfl rfl ?_
    refine g_bipush (v := iZ (26)) 24 dX4_begin_22 (by decide +kernel) rfl ?_
    refine g_icZ_ge 41 27 dX4_begin_24 rfl rfl (by omega) (by decide) (fun q => absurd q (by omega)) (fun _ => ?_)
    refine g_aload_n 28 dX4_begin_27 rfl rfl ?_
    refine g_get 31 dX4_begin_28 faX4_11_X4 f0 rfl rfl ?_
    refine g_iload_n 32 dX4_begin_31 rfl rfl ?_
    refine g_bipush (v := iZ (-9)) 34 dX4_begin_32 (by decide +kernel) rfl ?_
    refine g_iastZ (f1 := upd (f) (i).toNat (iZ (-9))) 35 dX4_begin_34 f1 (by omega) (by omega) (by decide) rfl rfl (fun h1 s2 f3 => ?_)
    refine g_iincZ [some (.ref 9), some (.int (iZ (i + 1)))] 38 dX4_begin_35 rfl (by omega) (by decide) rfl rfl rfl ?_
    refine g_goto 21 dX4_begin_38 rfl ?_
    have f4 := (s2.get (by decide) f0)
    exact ih _ _ _ (by omega) (by omega) f4 f3 (fun h1 hs => kk h1 (s2.tr hs (fun _ q => q) (fun _ q => q)))
theorem lp4_b {l : Launch} {Q : Option Value → MH → Prop} {a b : Value} : ∀ (k : Nat) (h : MH) (f : Nat → Int32) (i : Int), i = 256 - k → k ≤ 256 → h[9]? = some (.inr (3, [.ref 10, .ref 13, .ref 14, a, b])) → h[14]? = some (.inl (0, 256, .inl f)) → (∀ (h1 : MH), Sm [14] h h1 → Go l mX4_begin 64 [some (.ref 9), some (.int (iZ 256))] [] h1 Q) → Go l mX4_begin 43 [some (.ref 9), some (.int (iZ i))] [] h Q := by
  intro k
  induction k with
  | zero =>
    intro h f i hi hk f0 f1 kk
    have : i = 256 := by omega
    subst this
    refine g_iload_n 44 dX4_begin_43 rfl rfl ?_
    refine g_sipush (v := iZ (256)) 47 dX4_begin_44 (by decide +kernel) rfl ?_
    refine g_icZ_ge 64 50 dX4_begin_47 rfl rfl (by decide) (by decide) (fun _ => ?_) (fun q => absurd q (by decide))
    exact kk _ (Sm.refl _ _)
  | succ k ih =>
    intro h f i hi hk f0 f1 kk
    have h0 : 0 ≤ i := by omega
    have h2 : i < 256 := by omega
    refine g_iload_n 44 dX4_begin_43 rfl rfl ?_
    refine g_sipush (v := iZ (256)) 47 dX4_begin_44 (by decide +kernel) rfl ?_
    refine g_icZ_ge 64 50 dX4_begin_47 rfl rfl (by omega) (by decide) (fun q => absurd q (by omega)) (fun _ => ?_)
    refine g_aload_n 51 dX4_begin_50 rfl rfl ?_
    refine g_get 54 dX4_begin_51 faX4_15_X4 f0 rfl rfl ?_
    refine g_iload_n 55 dX4_begin_54 rfl rfl ?_
    refine g_bipush (v := iZ (-9)) 57 dX4_begin_55 (by decide +kernel) rfl ?_
    refine g_iastZ (f1 := upd (f) (i).toNat (iZ (-9))) 58 dX4_begin_57 f1 (by omega) (by omega) (by decide) rfl rfl (fun h1 s2 f3 => ?_)
    refine g_iincZ [some (.ref 9), some (.int (iZ (i + 1)))] 61 dX4_begin_58 rfl (by omega) (by decide) rfl rfl rfl ?_
    refine g_goto 43 dX4_begin_61 rfl ?_
    have f4 := (s2.get (by decide) f0)
    exact ih _ _ _ (by omega) (by omega) f4 f3 (fun h1 hs => kk h1 (s2.tr hs (fun _ q => q) (fun _ q => q)))
set_option maxRecDepth 100000 in
theorem q8_type {l : Launch} {h : MH} (F : FX h) (v : Int64) (n : Int) (rn : rg n) {Q : Option Value → MH → Prop} (kq : ∀ (h1 : MH) (r : Int), r = a_type n → Sx 50 h h1 → Q (some (.int (iZ r))) h1) : Go l mX8_type 0 [some (.ref 0), some (.long (v)), none, some (.int (iZ n)), none] [] h Q := by
  refine g_iload_n 1 dX8_type_0 rfl rfl ?_
  refine g_iconst (v := iZ (1)) 2 dX8_type_1 rfl rfl ?_
  refine g_icZ_lt 11 5 dX8_type_2 rfl rfl rn (by decide) (fun c1 => ?_) (fun c1 => ?_)
  · refine g_iconst (v := iZ (-1)) 12 dX8_type_11 rfl rfl ?_
    refine g_iret rfl dX8_type_12 ?_
    exact kq _ _ (by unfold a_type; split <;> omega) (Sx.refl _ _)
  · refine g_iload_n 6 dX8_type_5 rfl rfl ?_
    refine g_bipush (v := iZ (8)) 8 dX8_type_6 (by decide +kernel) rfl ?_
    refine g_icZ_le 13 11 dX8_type_8 rfl rfl rn (by decide) (fun c2 => ?_) (fun c2 => ?_)
    · refine g_aload_n 14 dX8_type_13 rfl rfl ?_
      refine g_get 17 dX8_type_14 faX8_10_X8 F.1 rfl rfl ?_
      refine g_get 20 dX8_type_17 faX8_67_X6 F.2.1 rfl rfl ?_
      refine g_iload_n 21 dX8_type_20 rfl rfl ?_
      refine g_iaddZ (0 + n) 22 dX8_type_21 (by omega) rfl ?_
      refine g_sipush (v := iZ (200)) 25 dX8_type_22 (by decide +kernel) rfl ?_
      refine g_icZ_le 31 28 dX8_type_25 rfl rfl (by omega) (by decide) (fun c3 => ?_) (fun c3 => ?_)
      · refine g_iload_n 32 dX8_type_31 rfl rfl ?_
        refine g_iconst (v := iZ (1)) 33 dX8_type_32 rfl rfl ?_
        refine g_isubZ (n - 1) 34 dX8_type_33 (by omega) rfl ?_
        refine g_istore (L1 := [some (.ref 0), some (.long (v)), none, some (.int (iZ n)), some (.int (iZ (n - 1)))]) 36 dX8_type_34 (by decide) rfl rfl rfl ?_
        obtain ⟨j, hj⟩ : ∃ j : Nat, (j : Int) = n := ⟨n.toNat, by omega⟩
        exact lp8_type v n j _ _ 0 _ (by omega) (by omega) (by omega) (by omega) F.1 F.2.1 F.2.2.1 (fun h1 r hr hs => kq _ _ (by unfold a_type; split <;> omega) hs)
      · refine g_bipush (v := iZ (-3)) 30 dX8_type_28 (by decide +kernel) rfl ?_
        refine g_iret rfl dX8_type_30 ?_
        exact kq _ _ (by unfold a_type; split <;> omega) (Sx.refl _ _)
    · refine g_iconst (v := iZ (-1)) 12 dX8_type_11 rfl rfl ?_
      refine g_iret rfl dX8_type_12 ?_
      exact kq _ _ (by unfold a_type; split <;> omega) (Sx.refl _ _)
set_option maxRecDepth 100000 in
theorem q8_clear {l : Launch} {h : MH} (F : FX h)  {Q : Option Value → MH → Prop} (kq : ∀ (h1 : MH) (r : Int), r = 0 → Sx 50 h h1 → Q (some (.int (iZ r))) h1) : Go l mX8_clear 0 [some (.ref 0), none] [] h Q := by
  refine g_aload_n 1 dX8_clear_0 rfl rfl ?_
  refine g_get 4 dX8_clear_1 faX8_10_X8 F.1 rfl rfl ?_
  refine g_get 7 dX8_clear_4 faX8_67_X6 F.2.1 rfl rfl ?_
  refine g_istore_n (L1 := [some (.ref 0), some (.int (iZ 0))]) 8 dX8_clear_7 (by decide) rfl rfl rfl ?_
  refine g_aload_n 9 dX8_clear_8 rfl rfl ?_
  refine g_get 12 dX8_clear_9 faX8_10_X8 F.1 rfl rfl ?_
  refine g_iconst (v := iZ (0)) 13 dX8_clear_12 rfl rfl ?_
  refine g_putC (fs1 := [.ref 2, .int (iZ 0)]) 16 dX8_clear_13 fpX8_67_X6 F.2.1 (nle rfl) (vI _) rfl rfl (fun h1 s2 f3 => ?_)
  refine g_iload_n 17 dX8_clear_16 rfl rfl ?_
  refine g_iret rfl dX8_clear_17 ?_
  exact kq _ _ rfl (s2.X (by decide))
set_option maxRecDepth 100000 in
theorem q8_text {l : Launch} {h : MH} (F : FX h) (i : Int) (ri : rg i) {Q : Option Value → MH → Prop} (kq : ∀ (h1 : MH) (r : Int), r = a_ix0 i → Sx 50 h h1 → Q (some (.int (iZ r))) h1) : Go l mX8_text 0 [some (.ref 0), some (.int (iZ i)), none] [] h Q := by
  refine g_aload_n 1 dX8_text_0 rfl rfl ?_
  refine g_iload_n 2 dX8_text_1 rfl rfl ?_
  refine g_callV (z := mX8_textAt) (As := [.int (iZ i)]) 5 dX8_text_2 mwX8_textAt ⟨by decide, by decide⟩ rfl wlX8_74 wiX8_textAt wsX8_textAt F.1 rfl rfl rfl (nle rfl) (nle rfl) rfl ?_
  refine Go.to [some (.ref 0), some (.int (iZ i))] [] rfl rfl ?_
  refine g_iload_n 1 dX8_textAt_0 rfl rfl ?_
  refine g_ifZ_lt 10 4 dX8_textAt_1 rfl rfl ri (fun c1 => ?_) (fun c1 => ?_)
  · refine g_null 11 dX8_textAt_10 rfl ?_
    refine g_goto 20 dX8_textAt_11 rfl ?_
    refine g_aret rfl (Or.inl rfl) dX8_textAt_20 ?_
    refine rN ?_
    refine g_astore_nN (L1 := [some (.ref 0), some (.int (iZ i)), some (.null)]) 6 dX8_text_5 (by decide) rfl rfl rfl ?_
    refine g_aload_nN 7 dX8_text_6 rfl rfl ?_
    refine g_ifnonnullN 10 dX8_text_7 rfl ?_
    refine g_iconst (v := iZ (-1)) 11 dX8_text_10 rfl rfl ?_
    refine g_iret rfl dX8_text_11 ?_
    exact kq _ _ (by unfold a_ix0; split <;> omega) (Sx.refl _ _)
  · refine g_iload_n 5 dX8_textAt_4 rfl rfl ?_
    refine g_bipush (v := iZ (8)) 7 dX8_textAt_5 (by decide +kernel) rfl ?_
    refine g_icZ_lt 14 10 dX8_textAt_7 rfl rfl ri (by decide) (fun c2 => ?_) (fun c2 => ?_)
    · refine g_aload_n 15 dX8_textAt_14 rfl rfl ?_
      refine g_get 18 dX8_textAt_15 faX8_16_X8 F.1 rfl rfl ?_
      refine g_iload_n 19 dX8_textAt_18 rfl rfl ?_
      refine g_aaldZ 20 dX8_textAt_19 F.2.2.2.1 (by decide) (by omega) (by omega) (by decide) (txs_at (by omega) (by omega)) rfl ?_
      refine g_aret rfl (Or.inr ⟨_, rfl⟩) dX8_textAt_20 ?_
      refine rR ?_
      refine g_astore_n (L1 := [some (.ref 0), some (.int (iZ i)), some (.ref (34 + 2 * i.toNat))]) 6 dX8_text_5 (by decide) rfl rfl rfl ?_
      refine g_aload_n 7 dX8_text_6 rfl rfl ?_
      refine g_ifnonnull 12 dX8_text_7 rfl ?_
      refine g_aload_n 13 dX8_text_12 rfl rfl ?_
      refine g_aload_n 14 dX8_text_13 rfl rfl ?_
      refine g_get 17 dX8_text_14 faX8_10_X8 F.1 rfl rfl ?_
      refine g_callV (z := mX6_become) (As := [.ref 1]) 20 dX8_text_17 mwX6_become ⟨by decide, by decide⟩ rfl wlX8_78 wiX6_become wsX6_become (F.2.2.2.2.2.2.2.2.2.2.2.2.2.2.2.2.2.2.2.2.2.2.2.2.2.2.2.2.2.2.2.2.2.2 i (by omega) (by omega)) rfl rfl rfl (nle rfl) (nle rfl) rfl ?_
      refine Go.to [some (.ref (34 + 2 * i.toNat)), some (.ref 1), none] [] rfl rfl ?_
      refine g_aload_n 1 dX6_become_0 rfl rfl ?_
      refine g_iconst (v := iZ (0)) 2 dX6_become_1 rfl rfl ?_
      refine g_putC (fs1 := [.ref (34 + 2 * i.toNat + 1), .int (iZ 0)]) 5 dX6_become_2 fpX6_15_X6 (F.2.2.2.2.2.2.2.2.2.2.2.2.2.2.2.2.2.2.2.2.2.2.2.2.2.2.2.2.2.2.2.2.2.2 i (by omega) (by omega)) (nle rfl) (vI _) rfl rfl (fun h3 s4 f5 => ?_)
      refine g_iconst (v := iZ (0)) 6 dX6_become_5 rfl rfl ?_
      refine g_istore_n (L1 := [some (.ref (34 + 2 * i.toNat)), some (.ref 1), some (.int (iZ 0))]) 7 dX6_become_6 (by decide) rfl rfl rfl ?_
      refine g_iload_n 8 dX6_become_7 rfl rfl ?_
      refine g_aload_n 9 dX6_become_8 rfl rfl ?_
      have f6 := (s4.get (by simp; omega) F.2.1)
      refine g_get 12 dX6_become_9 faX6_15_X6 f6 rfl rfl ?_
      refine g_icZ_ge 30 15 dX6_become_12 rfl rfl (by decide) (by decide) (fun _ => ?_) (fun q => absurd q (by decide))
      refine g_vret rfl dX6_become_30 ?_
      refine rV ?_
      refine g_aload_n 21 dX8_text_20 rfl rfl ?_
      have f7 := (s4.get (by simp; omega) F.1)
      refine g_get 24 dX8_text_21 faX8_10_X8 f7 rfl rfl ?_
      refine g_iconst (v := iZ (0)) 25 dX8_text_24 rfl rfl ?_
      refine g_putC (fs1 := [.ref 2, .int (iZ 0)]) 28 dX8_text_25 fpX8_67_X6 f6 (nle rfl) (vI _) rfl rfl (fun h8 s9 f10 => ?_)
      refine g_aload_n 29 dX8_text_28 rfl rfl ?_
      have f11 := (s9.get (by simp; omega) f5)
      refine g_get 32 dX8_text_29 faX8_67_X6 f11 rfl rfl ?_
      refine g_iret rfl dX8_text_32 ?_
      exact kq _ _ (by unfold a_ix0; split <;> omega) ((s4.X (by simp; omega)).tr (s9.X (by decide)))
    · refine g_null 11 dX8_textAt_10 rfl ?_
      refine g_goto 20 dX8_textAt_11 rfl ?_
      refine g_aret rfl (Or.inl rfl) dX8_textAt_20 ?_
      refine rN ?_
      refine g_astore_nN (L1 := [some (.ref 0), some (.int (iZ i)), some (.null)]) 6 dX8_text_5 (by decide) rfl rfl rfl ?_
      refine g_aload_nN 7 dX8_text_6 rfl rfl ?_
      refine g_ifnonnullN 10 dX8_text_7 rfl ?_
      refine g_iconst (v := iZ (-1)) 11 dX8_text_10 rfl rfl ?_
      refine g_iret rfl dX8_text_11 ?_
      exact kq _ _ (by unfold a_ix0; split <;> omega) (Sx.refl _ _)
set_option maxRecDepth 100000 in
theorem q8_read {l : Launch} {h : MH} (F : FX h) (i : Int) (a : Int) (ri : rg i) (ra : rg a) {Q : Option Value → MH → Prop} (kq : ∀ (h1 : MH) (r : Int), r = -1 → Sx 50 h h1 → Q (some (.int (iZ r))) h1) : Go l mX8_read 0 [some (.ref 0), some (.int (iZ i)), some (.int (iZ a)), none] [] h Q := by
  refine g_aload_n 1 dX8_read_0 rfl rfl ?_
  refine g_iload_n 2 dX8_read_1 rfl rfl ?_
  refine g_callV (z := mX8_textAt) (As := [.int (iZ i)]) 5 dX8_read_2 mwX8_textAt ⟨by decide, by decide⟩ rfl wlX8_74 wiX8_textAt wsX8_textAt F.1 rfl rfl rfl (nle rfl) (nle rfl) rfl ?_
  refine Go.to [some (.ref 0), some (.int (iZ i))] [] rfl rfl ?_
  refine g_iload_n 1 dX8_textAt_0 rfl rfl ?_
  refine g_ifZ_lt 10 4 dX8_textAt_1 rfl rfl ri (fun c1 => ?_) (fun c1 => ?_)
  · refine g_null 11 dX8_textAt_10 rfl ?_
    refine g_goto 20 dX8_textAt_11 rfl ?_
    refine g_aret rfl (Or.inl rfl) dX8_textAt_20 ?_
    refine rN ?_
    refine g_astore_nN (L1 := [some (.ref 0), some (.int (iZ i)), some (.int (iZ a)), some (.null)]) 6 dX8_read_5 (by decide) rfl rfl rfl ?_
    refine g_aload_nN 7 dX8_read_6 rfl rfl ?_
    refine g_ifnonnullN 10 dX8_read_7 rfl ?_
    refine g_iconst (v := iZ (-1)) 11 dX8_read_10 rfl rfl ?_
    refine g_goto 19 dX8_read_11 rfl ?_
    refine g_iret rfl dX8_read_19 ?_
    exact kq _ _ rfl (Sx.refl _ _)
  · refine g_iload_n 5 dX8_textAt_4 rfl rfl ?_
    refine g_bipush (v := iZ (8)) 7 dX8_textAt_5 (by decide +kernel) rfl ?_
    refine g_icZ_lt 14 10 dX8_textAt_7 rfl rfl ri (by decide) (fun c2 => ?_) (fun c2 => ?_)
    · refine g_aload_n 15 dX8_textAt_14 rfl rfl ?_
      refine g_get 18 dX8_textAt_15 faX8_16_X8 F.1 rfl rfl ?_
      refine g_iload_n 19 dX8_textAt_18 rfl rfl ?_
      refine g_aaldZ 20 dX8_textAt_19 F.2.2.2.1 (by decide) (by omega) (by omega) (by decide) (txs_at (by omega) (by omega)) rfl ?_
      refine g_aret rfl (Or.inr ⟨_, rfl⟩) dX8_textAt_20 ?_
      refine rR ?_
      refine g_astore_n (L1 := [some (.ref 0), some (.int (iZ i)), some (.int (iZ a)), some (.ref (34 + 2 * i.toNat))]) 6 dX8_read_5 (by decide) rfl rfl rfl ?_
      refine g_aload_n 7 dX8_read_6 rfl rfl ?_
      refine g_ifnonnull 14 dX8_read_7 rfl ?_
      refine g_aload_n 15 dX8_read_14 rfl rfl ?_
      refine g_iload_n 16 dX8_read_15 rfl rfl ?_
      refine g_callV (z := mX6_at) (As := [.int (iZ a)]) 19 dX8_read_16 mwX6_at ⟨by decide, by decide⟩ rfl wlX8_82 wiX6_at wsX6_at (F.2.2.2.2.2.2.2.2.2.2.2.2.2.2.2.2.2.2.2.2.2.2.2.2.2.2.2.2.2.2.2.2.2.2 i (by omega) (by omega)) rfl rfl rfl (nle rfl) (nle rfl) rfl ?_
      refine Go.to [some (.ref (34 + 2 * i.toNat)), some (.int (iZ a))] [] rfl rfl ?_
      refine g_iload_n 1 dX6_at_0 rfl rfl ?_
      refine g_ifZ_lt 19 4 dX6_at_1 rfl rfl ra (fun c3 => ?_) (fun c3 => ?_)
      · refine g_iconst (v := iZ (-1)) 20 dX6_at_19 rfl rfl ?_
        refine g_goto 29 dX6_at_20 rfl ?_
        refine g_iret rfl dX6_at_29 ?_
        refine rI ?_
        refine g_iret rfl dX8_read_19 ?_
        exact kq _ _ rfl (Sx.refl _ _)
      · refine g_iload_n 5 dX6_at_4 rfl rfl ?_
        refine g_aload_n 6 dX6_at_5 rfl rfl ?_
        refine g_get 9 dX6_at_6 faX6_15_X6 (F.2.2.2.2.2.2.2.2.2.2.2.2.2.2.2.2.2.2.2.2.2.2.2.2.2.2.2.2.2.2.2.2.2.2 i (by omega) (by omega)) rfl rfl ?_
        refine g_icZ_ge 19 12 dX6_at_9 rfl rfl ra (by decide) (fun _ => ?_) (fun q => absurd q (by omega))
        refine g_iconst (v := iZ (-1)) 20 dX6_at_19 rfl rfl ?_
        refine g_goto 29 dX6_at_20 rfl ?_
        refine g_iret rfl dX6_at_29 ?_
        refine rI ?_
        refine g_iret rfl dX8_read_19 ?_
        exact kq _ _ rfl (Sx.refl _ _)
    · refine g_null 11 dX8_textAt_10 rfl ?_
      refine g_goto 20 dX8_textAt_11 rfl ?_
      refine g_aret rfl (Or.inl rfl) dX8_textAt_20 ?_
      refine rN ?_
      refine g_astore_nN (L1 := [some (.ref 0), some (.int (iZ i)), some (.int (iZ a)), some (.null)]) 6 dX8_read_5 (by decide) rfl rfl rfl ?_
      refine g_aload_nN 7 dX8_read_6 rfl rfl ?_
      refine g_ifnonnullN 10 dX8_read_7 rfl ?_
      refine g_iconst (v := iZ (-1)) 11 dX8_read_10 rfl rfl ?_
      refine g_goto 19 dX8_read_11 rfl ?_
      refine g_iret rfl dX8_read_19 ?_
      exact kq _ _ rfl (Sx.refl _ _)
set_option maxRecDepth 100000 in
theorem q8_pairs {l : Launch} {h : MH} (F : FX h) (i : Int) (ri : rg i) {Q : Option Value → MH → Prop} (kq : ∀ (h1 : MH) (r : Int), r = a_ix10 i → Sx 50 h h1 → Q (some (.int (iZ r))) h1) : Go l mX8_pairs 0 [some (.ref 0), some (.int (iZ i))] [] h Q := by
  refine g_aload_n 1 dX8_pairs_0 rfl rfl ?_
  refine g_iconst (v := iZ (0)) 2 dX8_pairs_1 rfl rfl ?_
  refine g_iload_n 3 dX8_pairs_2 rfl rfl ?_
  refine g_callV (z := mX8_make) (As := [.int (iZ 0), .int (iZ i)]) 6 dX8_pairs_3 mwX8_make ⟨by decide, by decide⟩ rfl wlX8_86 wiX8_make wsX8_make F.1 rfl rfl rfl (nle rfl) (nle rfl) rfl ?_
  refine Go.to [some (.ref 0), some (.int (iZ 0)), some (.int (iZ i)), none, none, none] [] rfl rfl ?_
  refine g_aload_n 1 dX8_make_0 rfl rfl ?_
  refine g_iload_n 2 dX8_make_1 rfl rfl ?_
  refine g_callV (z := mX8_textAt) (As := [.int (iZ i)]) 5 dX8_make_2 mwX8_textAt ⟨by decide, by decide⟩ rfl wlX8_74 wiX8_textAt wsX8_textAt F.1 rfl rfl rfl (nle rfl) (nle rfl) rfl ?_
  refine Go.to [some (.ref 0), some (.int (iZ i))] [] rfl rfl ?_
  refine g_iload_n 1 dX8_textAt_0 rfl rfl ?_
  refine g_ifZ_lt 10 4 dX8_textAt_1 rfl rfl ri (fun c1 => ?_) (fun c1 => ?_)
  · refine g_null 11 dX8_textAt_10 rfl ?_
    refine g_goto 20 dX8_textAt_11 rfl ?_
    refine g_aret rfl (Or.inl rfl) dX8_textAt_20 ?_
    refine rN ?_
    refine g_astore_nN (L1 := [some (.ref 0), some (.int (iZ 0)), some (.int (iZ i)), some (.null), none, none]) 6 dX8_make_5 (by decide) rfl rfl rfl ?_
    refine g_aload_nN 7 dX8_make_6 rfl rfl ?_
    refine g_ifnonnullN 10 dX8_make_7 rfl ?_
    refine g_iconst (v := iZ (-1)) 11 dX8_make_10 rfl rfl ?_
    refine g_iret rfl dX8_make_11 ?_
    refine rI ?_
    refine g_iret rfl dX8_pairs_6 ?_
    exact kq _ _ (by unfold a_ix10; split <;> omega) (Sx.refl _ _)
  · refine g_iload_n 5 dX8_textAt_4 rfl rfl ?_
    refine g_bipush (v := iZ (8)) 7 dX8_textAt_5 (by decide +kernel) rfl ?_
    refine g_icZ_lt 14 10 dX8_textAt_7 rfl rfl ri (by decide) (fun c2 => ?_) (fun c2 => ?_)
    · refine g_aload_n 15 dX8_textAt_14 rfl rfl ?_
      refine g_get 18 dX8_textAt_15 faX8_16_X8 F.1 rfl rfl ?_
      refine g_iload_n 19 dX8_textAt_18 rfl rfl ?_
      refine g_aaldZ 20 dX8_textAt_19 F.2.2.2.1 (by decide) (by omega) (by omega) (by decide) (txs_at (by omega) (by omega)) rfl ?_
      refine g_aret rfl (Or.inr ⟨_, rfl⟩) dX8_textAt_20 ?_
      refine rR ?_
      refine g_astore_n (L1 := [some (.ref 0), some (.int (iZ 0)), some (.int (iZ i)), some (.ref (34 + 2 * i.toNat)), none, none]) 6 dX8_make_5 (by decide) rfl rfl rfl ?_
      refine g_aload_n 7 dX8_make_6 rfl rfl ?_
      refine g_ifnonnull 12 dX8_make_7 rfl ?_
      refine g_aload_n 13 dX8_make_12 rfl rfl ?_
      refine g_iload_n 14 dX8_make_13 rfl rfl ?_
      refine g_callV (z := mX8_makerBy) (As := [.int (iZ 0)]) 17 dX8_make_14 mwX8_makerBy ⟨by decide, by decide⟩ rfl wlX8_228 wiX8_makerBy wsX8_makerBy F.1 rfl rfl rfl (nle rfl) (nle rfl) rfl ?_
      refine Go.to [some (.ref 0), some (.int (iZ 0))] [] rfl rfl ?_
      refine g_iload_n 1 dX8_makerBy_0 rfl rfl ?_
      refine g_ifZ_ne 11 4 dX8_makerBy_1 rfl rfl (by decide) (fun q => absurd q (by decide)) (fun _ => ?_)
      refine g_aload_n 5 dX8_makerBy_4 rfl rfl ?_
      refine g_get 8 dX8_makerBy_5 faX8_33_X8 F.1 rfl rfl ?_
      refine g_goto 15 dX8_makerBy_8 rfl ?_
      refine g_aret rfl (Or.inr ⟨_, rfl⟩) dX8_makerBy_15 ?_
      refine rR ?_
      refine g_astore (L1 := [some (.ref 0), some (.int (iZ 0)), some (.int (iZ i)), some (.ref (34 + 2 * i.toNat)), some (.ref 5), none]) 19 dX8_make_17 (by decide) rfl rfl rfl ?_
      refine g_aload 21 dX8_make_19 rfl rfl ?_
      refine g_aload_n 22 dX8_make_21 rfl rfl ?_
      refine g_callA (z := mX5_faultIn) (As := [.ref (34 + 2 * i.toNat)]) 25 dX8_make_22 mwX5_faultIn ⟨by decide, by decide⟩ rfl wlX8_232 wsmMk wiX5_faultIn wsaX5 wdMk (by decide) F.2.2.2.2.2.1 rfl rfl (nle rfl) (nle rfl) rfl ?_
      refine Go.to [some (.ref 5), some (.ref (34 + 2 * i.toNat)), none, none, none, none] [] rfl rfl ?_
      refine g_aload_n 1 dX5_faultIn_0 rfl rfl ?_
      refine g_get 4 dX5_faultIn_1 faX5_9_X5 F.2.2.2.2.2.1 rfl rfl ?_
      refine g_iconst (v := iZ (0)) 5 dX5_faultIn_4 rfl rfl ?_
      refine g_putC (fs1 := [.int (iZ 256), .ref 7, .ref 8, .int (iZ 0)]) 8 dX5_faultIn_5 fpX5_15_X0 F.2.2.2.2.2.2.1 (nle rfl) (vI _) rfl rfl (fun h3 s4 f5 => ?_)
      refine g_aload_n 9 dX5_faultIn_8 rfl rfl ?_
      refine g_iconst (v := iZ (0)) 10 dX5_faultIn_9 rfl rfl ?_
      have f6 := (s4.get (by simp; omega) (F.2.2.2.2.2.2.2.2.2.2.2.2.2.2.2.2.2.2.2.2.2.2.2.2.2.2.2.2.2.2.2.2.2.2 i (by omega) (by omega)))
      refine g_callV (z := mX6_pastGap) (As := [.int (iZ 0)]) 13 dX5_faultIn_10 mwX6_pastGap ⟨by decide, by decide⟩ rfl wlX5_21 wiX6_pastGap wsX6_pastGap f6 rfl rfl rfl (nle rfl) (nle rfl) rfl ?_
      refine Go.to [some (.ref (34 + 2 * i.toNat)), some (.int (iZ 0)), none, none, none] [] rfl rfl ?_
      refine g_iconst (v := iZ (0)) 1 dX6_pastGap_0 rfl rfl ?_
      refine g_istore_n (L1 := [some (.ref (34 + 2 * i.toNat)), some (.int (iZ 0)), some (.int (iZ 0)), none, none]) 2 dX6_pastGap_1 (by decide) rfl rfl rfl ?_
      refine g_iload_n 3 dX6_pastGap_2 rfl rfl ?_
      refine g_istore_n (L1 := [some (.ref (34 + 2 * i.toNat)), some (.int (iZ 0)), some (.int (iZ 0)), some (.int (iZ 0)), none]) 4 dX6_pastGap_3 (by decide) rfl rfl rfl ?_
      refine g_iload_n 5 dX6_pastGap_4 rfl rfl ?_
      refine g_aload_n 6 dX6_pastGap_5 rfl rfl ?_
      refine g_get 9 dX6_pastGap_6 faX6_15_X6 f6 rfl rfl ?_
      refine g_icZ_ge 62 12 dX6_pastGap_9 rfl rfl (by decide) (by decide) (fun _ => ?_) (fun q => absurd q (by decide))
      refine g_aload_n 63 dX6_pastGap_62 rfl rfl ?_
      refine g_get 66 dX6_pastGap_63 faX6_15_X6 f6 rfl rfl ?_
      refine g_iret rfl dX6_pastGap_66 ?_
      refine rI ?_
      refine g_istore_n (L1 := [some (.ref 5), some (.ref (34 + 2 * i.toNat)), some (.int (iZ 0)), none, none, none]) 14 dX5_faultIn_13 (by decide) rfl rfl rfl ?_
      refine g_iconst (v := iZ (0)) 15 dX5_faultIn_14 rfl rfl ?_
      refine g_istore_n (L1 := [some (.ref 5), some (.ref (34 + 2 * i.toNat)), some (.int (iZ 0)), some (.int (iZ 0)), none, none]) 16 dX5_faultIn_15 (by decide) rfl rfl rfl ?_
      refine g_iload_n 17 dX5_faultIn_16 rfl rfl ?_
      refine g_sipush (v := iZ (200)) 20 dX5_faultIn_17 (by decide +kernel) rfl ?_
      refine g_icZ_ge 106 23 dX5_faultIn_20 rfl rfl (by decide) (by decide) (fun q => absurd q (by decide)) (fun _ => ?_)
      refine g_iload_n 24 dX5_faultIn_23 rfl rfl ?_
      refine g_aload_n 25 dX5_faultIn_24 rfl rfl ?_
      refine g_get 28 dX5_faultIn_25 faX5_27_X6 f6 rfl rfl ?_
      refine g_icZ_ge 106 31 dX5_faultIn_28 rfl rfl (by decide) (by decide) (fun _ => ?_) (fun q => absurd q (by decide))
      refine g_aload_n 107 dX5_faultIn_106 rfl rfl ?_
      have f7 := (s4.get (by decide) F.2.2.2.2.2.1)
      refine g_get 110 dX5_faultIn_107 faX5_9_X5 f7 rfl rfl ?_
      refine g_get 113 dX5_faultIn_110 faX5_15_X0 f5 rfl rfl ?_
      refine g_ifZ_ne 123 116 dX5_faultIn_113 rfl rfl (by decide) (fun q => absurd q (by decide)) (fun _ => ?_)
      refine g_aload_n 117 dX5_faultIn_116 rfl rfl ?_
      refine g_get 120 dX5_faultIn_117 faX5_27_X6 f6 rfl rfl ?_
      refine g_goto 125 dX5_faultIn_120 rfl ?_
      refine g_iret rfl dX5_faultIn_125 ?_
      refine rI ?_
      refine g_istore (L1 := [some (.ref 0), some (.int (iZ 0)), some (.int (iZ i)), some (.ref (34 + 2 * i.toNat)), some (.ref 5), some (.int (iZ 0))]) 27 dX8_make_25 (by decide) rfl rfl rfl ?_
      refine g_iload 29 dX8_make_27 rfl rfl ?_
      refine g_bipush (v := iZ (-9)) 31 dX8_make_29 (by decide +kernel) rfl ?_
      refine g_icZ_ne 50 34 dX8_make_31 rfl rfl (by decide) (by decide) (fun _ => ?_) (fun q => absurd q (by decide))
      refine g_bipush (v := iZ (-10)) 52 dX8_make_50 (by decide +kernel) rfl ?_
      refine g_iload 54 dX8_make_52 rfl rfl ?_
      refine g_isubZ (-10) 55 dX8_make_54 (by decide) rfl ?_
      refine g_iret rfl dX8_make_55 ?_
      refine rI ?_
      refine g_iret rfl dX8_pairs_6 ?_
      exact kq _ _ (by unfold a_ix10; split <;> omega) (s4.X (by decide))
    · refine g_null 11 dX8_textAt_10 rfl ?_
      refine g_goto 20 dX8_textAt_11 rfl ?_
      refine g_aret rfl (Or.inl rfl) dX8_textAt_20 ?_
      refine rN ?_
      refine g_astore_nN (L1 := [some (.ref 0), some (.int (iZ 0)), some (.int (iZ i)), some (.null), none, none]) 6 dX8_make_5 (by decide) rfl rfl rfl ?_
      refine g_aload_nN 7 dX8_make_6 rfl rfl ?_
      refine g_ifnonnullN 10 dX8_make_7 rfl ?_
      refine g_iconst (v := iZ (-1)) 11 dX8_make_10 rfl rfl ?_
      refine g_iret rfl dX8_make_11 ?_
      refine rI ?_
      refine g_iret rfl dX8_pairs_6 ?_
      exact kq _ _ (by unfold a_ix10; split <;> omega) (Sx.refl _ _)
set_option maxRecDepth 100000 in
theorem q8_named {l : Launch} {h : MH} (F : FX h) (i : Int) (ri : rg i) {Q : Option Value → MH → Prop} (kq : ∀ (h1 : MH) (r : Int), r = a_ix10 i → Sx 50 h h1 → Q (some (.int (iZ r))) h1) : Go l mX8_named 0 [some (.ref 0), some (.int (iZ i))] [] h Q := by
  refine g_aload_n 1 dX8_named_0 rfl rfl ?_
  refine g_iconst (v := iZ (1)) 2 dX8_named_1 rfl rfl ?_
  refine g_iload_n 3 dX8_named_2 rfl rfl ?_
  refine g_callV (z := mX8_make) (As := [.int (iZ 1), .int (iZ i)]) 6 dX8_named_3 mwX8_make ⟨by decide, by decide⟩ rfl wlX8_86 wiX8_make wsX8_make F.1 rfl rfl rfl (nle rfl) (nle rfl) rfl ?_
  refine Go.to [some (.ref 0), some (.int (iZ 1)), some (.int (iZ i)), none, none, none] [] rfl rfl ?_
  refine g_aload_n 1 dX8_make_0 rfl rfl ?_
  refine g_iload_n 2 dX8_make_1 rfl rfl ?_
  refine g_callV (z := mX8_textAt) (As := [.int (iZ i)]) 5 dX8_make_2 mwX8_textAt ⟨by decide, by decide⟩ rfl wlX8_74 wiX8_textAt wsX8_textAt F.1 rfl rfl rfl (nle rfl) (nle rfl) rfl ?_
  refine Go.to [some (.ref 0), some (.int (iZ i))] [] rfl rfl ?_
  refine g_iload_n 1 dX8_textAt_0 rfl rfl ?_
  refine g_ifZ_lt 10 4 dX8_textAt_1 rfl rfl ri (fun c1 => ?_) (fun c1 => ?_)
  · refine g_null 11 dX8_textAt_10 rfl ?_
    refine g_goto 20 dX8_textAt_11 rfl ?_
    refine g_aret rfl (Or.inl rfl) dX8_textAt_20 ?_
    refine rN ?_
    refine g_astore_nN (L1 := [some (.ref 0), some (.int (iZ 1)), some (.int (iZ i)), some (.null), none, none]) 6 dX8_make_5 (by decide) rfl rfl rfl ?_
    refine g_aload_nN 7 dX8_make_6 rfl rfl ?_
    refine g_ifnonnullN 10 dX8_make_7 rfl ?_
    refine g_iconst (v := iZ (-1)) 11 dX8_make_10 rfl rfl ?_
    refine g_iret rfl dX8_make_11 ?_
    refine rI ?_
    refine g_iret rfl dX8_named_6 ?_
    exact kq _ _ (by unfold a_ix10; split <;> omega) (Sx.refl _ _)
  · refine g_iload_n 5 dX8_textAt_4 rfl rfl ?_
    refine g_bipush (v := iZ (8)) 7 dX8_textAt_5 (by decide +kernel) rfl ?_
    refine g_icZ_lt 14 10 dX8_textAt_7 rfl rfl ri (by decide) (fun c2 => ?_) (fun c2 => ?_)
    · refine g_aload_n 15 dX8_textAt_14 rfl rfl ?_
      refine g_get 18 dX8_textAt_15 faX8_16_X8 F.1 rfl rfl ?_
      refine g_iload_n 19 dX8_textAt_18 rfl rfl ?_
      refine g_aaldZ 20 dX8_textAt_19 F.2.2.2.1 (by decide) (by omega) (by omega) (by decide) (txs_at (by omega) (by omega)) rfl ?_
      refine g_aret rfl (Or.inr ⟨_, rfl⟩) dX8_textAt_20 ?_
      refine rR ?_
      refine g_astore_n (L1 := [some (.ref 0), some (.int (iZ 1)), some (.int (iZ i)), some (.ref (34 + 2 * i.toNat)), none, none]) 6 dX8_make_5 (by decide) rfl rfl rfl ?_
      refine g_aload_n 7 dX8_make_6 rfl rfl ?_
      refine g_ifnonnull 12 dX8_make_7 rfl ?_
      refine g_aload_n 13 dX8_make_12 rfl rfl ?_
      refine g_iload_n 14 dX8_make_13 rfl rfl ?_
      refine g_callV (z := mX8_makerBy) (As := [.int (iZ 1)]) 17 dX8_make_14 mwX8_makerBy ⟨by decide, by decide⟩ rfl wlX8_228 wiX8_makerBy wsX8_makerBy F.1 rfl rfl rfl (nle rfl) (nle rfl) rfl ?_
      refine Go.to [some (.ref 0), some (.int (iZ 1))] [] rfl rfl ?_
      refine g_iload_n 1 dX8_makerBy_0 rfl rfl ?_
      refine g_ifZ_ne 11 4 dX8_makerBy_1 rfl rfl (by decide) (fun _ => ?_) (fun q => absurd q (by decide))
      refine g_aload_n 12 dX8_makerBy_11 rfl rfl ?_
      refine g_get 15 dX8_makerBy_12 faX8_40_X8 F.1 rfl rfl ?_
      refine g_aret rfl (Or.inr ⟨_, rfl⟩) dX8_makerBy_15 ?_
      refine rR ?_
      refine g_astore (L1 := [some (.ref 0), some (.int (iZ 1)), some (.int (iZ i)), some (.ref (34 + 2 * i.toNat)), some (.ref 9), none]) 19 dX8_make_17 (by decide) rfl rfl rfl ?_
      refine g_aload 21 dX8_make_19 rfl rfl ?_
      refine g_aload_n 22 dX8_make_21 rfl rfl ?_
      refine g_callA (z := mX4_faultIn) (As := [.ref (34 + 2 * i.toNat)]) 25 dX8_make_22 mwX4_faultIn ⟨by decide, by decide⟩ rfl wlX8_232 wsmMk wiX4_faultIn wsaX4 wdMk (by decide) F.2.2.2.2.2.2.2.2.2.1 rfl rfl (nle rfl) (nle rfl) rfl ?_
      refine Go.to [some (.ref 9), some (.ref (34 + 2 * i.toNat)), none, none, none] [] rfl rfl ?_
      refine g_aload_n 1 dX4_faultIn_0 rfl rfl ?_
      refine g_callV (z := mX4_begin) (As := []) 4 dX4_faultIn_1 mwX4_begin ⟨by decide, by decide⟩ rfl wlX4_25 wiX4_begin wsX4_begin F.2.2.2.2.2.2.2.2.2.1 rfl rfl rfl (nle rfl) (nle rfl) rfl ?_
      refine Go.to [some (.ref 9), none] [] rfl rfl ?_
      refine g_aload_n 1 dX4_begin_0 rfl rfl ?_
      refine g_get 4 dX4_begin_1 faX4_45_X4 F.2.2.2.2.2.2.2.2.2.1 rfl rfl ?_
      refine g_iconst (v := iZ (0)) 5 dX4_begin_4 rfl rfl ?_
      refine g_putC (fs1 := [.int (iZ 256), .ref 11, .ref 12, .int (iZ 0)]) 8 dX4_begin_5 fpX4_49_X0 F.2.2.2.2.2.2.2.2.2.2.1 (nle rfl) (vI _) rfl rfl (fun h3 s4 f5 => ?_)
      refine g_aload_n 9 dX4_begin_8 rfl rfl ?_
      refine g_iconst (v := iZ (0)) 10 dX4_begin_9 rfl rfl ?_
      have f6 := (s4.get (by decide) F.2.2.2.2.2.2.2.2.2.1)
      refine g_putC (fs1 := [.ref 10, .ref 13, .ref 14, .int (iZ 0), .int (iZ (-9))]) 13 dX4_begin_10 fpX4_18_X4 f6 (nle rfl) (vI _) rfl rfl (fun h7 s8 f9 => ?_)
      refine g_aload_n 14 dX4_begin_13 rfl rfl ?_
      refine g_bipush (v := iZ (-9)) 16 dX4_begin_14 (by decide +kernel) rfl ?_
      refine g_putC (fs1 := [.ref 10, .ref 13, .ref 14, .int (iZ 0), .int (iZ (-9))]) 19 dX4_begin_16 fpX4_22_X4 f9 (nle rfl) (vI _) rfl rfl (fun h10 s11 f12 => ?_)
      refine g_iconst (v := iZ (0)) 20 dX4_begin_19 rfl rfl ?_
      refine g_istore_n (L1 := [some (.ref 9), some (.int (iZ 0))]) 21 dX4_begin_20 (by decide) rfl rfl rfl ?_
      have f13 := (s11.get (by decide) (s8.get (by decide) (s4.get (by decide) F.2.2.2.2.2.2.2.2.2.2.2.2.2.1)))
      refine lp4_a 26 _ _ _ (by decide) (by decide) f12 f13 ?_
      intro h14 s15
      refine g_iconst (v := iZ (0)) 42 dX4_begin_41 rfl rfl ?_
      refine g_istore_n (L1 := [some (.ref 9), some (.int (iZ 0))]) 43 dX4_begin_42 (by decide) rfl rfl rfl ?_
      have f16 := (s15.get (by decide) f12)
      have f17 := (s15.get (by decide) (s11.get (by decide) (s8.get (by decide) (s4.get (by decide) F.2.2.2.2.2.2.2.2.2.2.2.2.2.2.1))))
      refine lp4_b 256 _ _ _ (by decide) (by decide) f16 f17 ?_
      intro h18 s19
      refine g_vret rfl dX4_begin_64 ?_
      refine rV ?_
      refine g_aload_n 5 dX4_faultIn_4 rfl rfl ?_
      refine g_iconst (v := iZ (0)) 6 dX4_faultIn_5 rfl rfl ?_
      have f20 := (s19.get (by simp; omega) (s15.get (by simp; omega) (s11.get (by simp; omega) (s8.get (by simp; omega) (s4.get (by simp; omega) (F.2.2.2.2.2.2.2.2.2.2.2.2.2.2.2.2.2.2.2.2.2.2.2.2.2.2.2.2.2.2.2.2.2.2 i (by omega) (by omega)))))))
      refine g_callV (z := mX6_pastGap) (As := [.int (iZ 0)]) 9 dX4_faultIn_6 mwX6_pastGap ⟨by decide, by decide⟩ rfl wlX4_28 wiX6_pastGap wsX6_pastGap f20 rfl rfl rfl (nle rfl) (nle rfl) rfl ?_
      refine Go.to [some (.ref (34 + 2 * i.toNat)), some (.int (iZ 0)), none, none, none] [] rfl rfl ?_
      refine g_iconst (v := iZ (0)) 1 dX6_pastGap_0 rfl rfl ?_
      refine g_istore_n (L1 := [some (.ref (34 + 2 * i.toNat)), some (.int (iZ 0)), some (.int (iZ 0)), none, none]) 2 dX6_pastGap_1 (by decide) rfl rfl rfl ?_
      refine g_iload_n 3 dX6_pastGap_2 rfl rfl ?_
      refine g_istore_n (L1 := [some (.ref (34 + 2 * i.toNat)), some (.int (iZ 0)), some (.int (iZ 0)), some (.int (iZ 0)), none]) 4 dX6_pastGap_3 (by decide) rfl rfl rfl ?_
      refine g_iload_n 5 dX6_pastGap_4 rfl rfl ?_
      refine g_aload_n 6 dX6_pastGap_5 rfl rfl ?_
      refine g_get 9 dX6_pastGap_6 faX6_15_X6 f20 rfl rfl ?_
      refine g_icZ_ge 62 12 dX6_pastGap_9 rfl rfl (by decide) (by decide) (fun _ => ?_) (fun q => absurd q (by decide))
      refine g_aload_n 63 dX6_pastGap_62 rfl rfl ?_
      refine g_get 66 dX6_pastGap_63 faX6_15_X6 f20 rfl rfl ?_
      refine g_iret rfl dX6_pastGap_66 ?_
      refine rI ?_
      refine g_istore_n (L1 := [some (.ref 9), some (.ref (34 + 2 * i.toNat)), some (.int (iZ 0)), none, none]) 10 dX4_faultIn_9 (by decide) rfl rfl rfl ?_
      refine g_iconst (v := iZ (0)) 11 dX4_faultIn_10 rfl rfl ?_
      refine g_istore_n (L1 := [some (.ref 9), some (.ref (34 + 2 * i.toNat)), some (.int (iZ 0)), some (.int (iZ 0)), none]) 12 dX4_faultIn_11 (by decide) rfl rfl rfl ?_
      refine g_iload_n 13 dX4_faultIn_12 rfl rfl ?_
      refine g_sipush (v := iZ (200)) 16 dX4_faultIn_13 (by decide +kernel) rfl ?_
      refine g_icZ_ge 67 19 dX4_faultIn_16 rfl rfl (by decide) (by decide) (fun q => absurd q (by decide)) (fun _ => ?_)
      refine g_iload_n 20 dX4_faultIn_19 rfl rfl ?_
      refine g_aload_n 21 dX4_faultIn_20 rfl rfl ?_
      refine g_get 24 dX4_faultIn_21 faX4_34_X6 f20 rfl rfl ?_
      refine g_icZ_ge 67 27 dX4_faultIn_24 rfl rfl (by decide) (by decide) (fun _ => ?_) (fun q => absurd q (by decide))
      refine g_aload_n 68 dX4_faultIn_67 rfl rfl ?_
      have f21 := (s19.get (by decide) f16)
      refine g_get 71 dX4_faultIn_68 faX4_18_X4 f21 rfl rfl ?_
      refine g_ifZ_ne 84 74 dX4_faultIn_71 rfl rfl (by decide) (fun q => absurd q (by decide)) (fun _ => ?_)
      refine g_aload_n 75 dX4_faultIn_74 rfl rfl ?_
      refine g_get 78 dX4_faultIn_75 faX4_45_X4 f21 rfl rfl ?_
      have f22 := (s19.get (by decide) (s15.get (by decide) (s11.get (by decide) (s8.get (by decide) f5))))
      refine g_get 81 dX4_faultIn_78 faX4_49_X0 f22 rfl rfl ?_
      refine g_ifZ_ne 89 84 dX4_faultIn_81 rfl rfl (by decide) (fun q => absurd q (by decide)) (fun _ => ?_)
      refine g_aload_n 85 dX4_faultIn_84 rfl rfl ?_
      refine g_get 88 dX4_faultIn_85 faX4_34_X6 f20 rfl rfl ?_
      refine g_iret rfl dX4_faultIn_88 ?_
      refine rI ?_
      refine g_istore (L1 := [some (.ref 0), some (.int (iZ 1)), some (.int (iZ i)), some (.ref (34 + 2 * i.toNat)), some (.ref 9), some (.int (iZ 0))]) 27 dX8_make_25 (by decide) rfl rfl rfl ?_
      refine g_iload 29 dX8_make_27 rfl rfl ?_
      refine g_bipush (v := iZ (-9)) 31 dX8_make_29 (by decide +kernel) rfl ?_
      refine g_icZ_ne 50 34 dX8_make_31 rfl rfl (by decide) (by decide) (fun _ => ?_) (fun q => absurd q (by decide))
      refine g_bipush (v := iZ (-10)) 52 dX8_make_50 (by decide +kernel) rfl ?_
      refine g_iload 54 dX8_make_52 rfl rfl ?_
      refine g_isubZ (-10) 55 dX8_make_54 (by decide) rfl ?_
      refine g_iret rfl dX8_make_55 ?_
      refine rI ?_
      refine g_iret rfl dX8_named_6 ?_
      exact kq _ _ (by unfold a_ix10; split <;> omega) (((((s4.X (by decide)).tr (s8.X (by decide))).tr (s11.X (by decide))).tr (s15.X (by decide))).tr (s19.X (by decide)))
    · refine g_null 11 dX8_textAt_10 rfl ?_
      refine g_goto 20 dX8_textAt_11 rfl ?_
      refine g_aret rfl (Or.inl rfl) dX8_textAt_20 ?_
      refine rN ?_
      refine g_astore_nN (L1 := [some (.ref 0), some (.int (iZ 1)), some (.int (iZ i)), some (.null), none, none]) 6 dX8_make_5 (by decide) rfl rfl rfl ?_
      refine g_aload_nN 7 dX8_make_6 rfl rfl ?_
      refine g_ifnonnullN 10 dX8_make_7 rfl ?_
      refine g_iconst (v := iZ (-1)) 11 dX8_make_10 rfl rfl ?_
      refine g_iret rfl dX8_make_11 ?_
      refine rI ?_
      refine g_iret rfl dX8_named_6 ?_
      exact kq _ _ (by unfold a_ix10; split <;> omega) (Sx.refl _ _)
set_option maxRecDepth 100000 in
theorem q8_build {l : Launch} {h : MH} (F : FX h) (t : Int) (i : Int) (rt : rg t) (ri : rg i) {Q : Option Value → MH → Prop} (kq : ∀ (h1 : MH) (r : Int), r = -1 → Sx 50 h h1 → Q (some (.int (iZ r))) h1) : Go l mX8_build 0 [some (.ref 0), some (.int (iZ t)), some (.int (iZ i)), none, none] [] h Q := by
  refine g_aload_n 1 dX8_build_0 rfl rfl ?_
  refine g_iload_n 2 dX8_build_1 rfl rfl ?_
  refine g_callV (z := mX8_toolAt) (As := [.int (iZ t)]) 5 dX8_build_2 mwX8_toolAt ⟨by decide, by decide⟩ rfl wlX8_90 wiX8_toolAt wsX8_toolAt F.1 rfl rfl rfl (nle rfl) (nle rfl) rfl ?_
  refine Go.to [some (.ref 0), some (.int (iZ t))] [] rfl rfl ?_
  refine g_iload_n 1 dX8_toolAt_0 rfl rfl ?_
  refine g_ifZ_lt 18 4 dX8_toolAt_1 rfl rfl rt (fun c1 => ?_) (fun c1 => ?_)
  · refine g_null 19 dX8_toolAt_18 rfl ?_
    refine g_goto 28 dX8_toolAt_19 rfl ?_
    refine g_aret rfl (Or.inl rfl) dX8_toolAt_28 ?_
    refine rN ?_
    refine g_astore_nN (L1 := [some (.ref 0), some (.int (iZ t)), some (.int (iZ i)), some (.null), none]) 6 dX8_build_5 (by decide) rfl rfl rfl ?_
    refine g_aload_n 7 dX8_build_6 rfl rfl ?_
    refine g_iload_n 8 dX8_build_7 rfl rfl ?_
    refine g_callV (z := mX8_textAt) (As := [.int (iZ i)]) 11 dX8_build_8 mwX8_textAt ⟨by decide, by decide⟩ rfl wlX8_74 wiX8_textAt wsX8_textAt F.1 rfl rfl rfl (nle rfl) (nle rfl) rfl ?_
    refine Go.to [some (.ref 0), some (.int (iZ i))] [] rfl rfl ?_
    refine g_iload_n 1 dX8_textAt_0 rfl rfl ?_
    refine g_ifZ_lt 10 4 dX8_textAt_1 rfl rfl ri (fun c2 => ?_) (fun c2 => ?_)
    · refine g_null 11 dX8_textAt_10 rfl ?_
      refine g_goto 20 dX8_textAt_11 rfl ?_
      refine g_aret rfl (Or.inl rfl) dX8_textAt_20 ?_
      refine rN ?_
      refine g_astoreN (L1 := [some (.ref 0), some (.int (iZ t)), some (.int (iZ i)), some (.null), some (.null)]) 13 dX8_build_11 (by decide) rfl rfl rfl ?_
      refine g_aload_nN 14 dX8_build_13 rfl rfl ?_
      refine g_ifnullN 22 dX8_build_14 rfl ?_
      refine g_iconst (v := iZ (-1)) 23 dX8_build_22 rfl rfl ?_
      refine g_iret rfl dX8_build_23 ?_
      exact kq _ _ rfl (Sx.refl _ _)
    · refine g_iload_n 5 dX8_textAt_4 rfl rfl ?_
      refine g_bipush (v := iZ (8)) 7 dX8_textAt_5 (by decide +kernel) rfl ?_
      refine g_icZ_lt 14 10 dX8_textAt_7 rfl rfl ri (by decide) (fun c3 => ?_) (fun c3 => ?_)
      · refine g_aload_n 15 dX8_textAt_14 rfl rfl ?_
        refine g_get 18 dX8_textAt_15 faX8_16_X8 F.1 rfl rfl ?_
        refine g_iload_n 19 dX8_textAt_18 rfl rfl ?_
        refine g_aaldZ 20 dX8_textAt_19 F.2.2.2.1 (by decide) (by omega) (by omega) (by decide) (txs_at (by omega) (by omega)) rfl ?_
        refine g_aret rfl (Or.inr ⟨_, rfl⟩) dX8_textAt_20 ?_
        refine rR ?_
        refine g_astore (L1 := [some (.ref 0), some (.int (iZ t)), some (.int (iZ i)), some (.null), some (.ref (34 + 2 * i.toNat))]) 13 dX8_build_11 (by decide) rfl rfl rfl ?_
        refine g_aload_nN 14 dX8_build_13 rfl rfl ?_
        refine g_ifnullN 22 dX8_build_14 rfl ?_
        refine g_iconst (v := iZ (-1)) 23 dX8_build_22 rfl rfl ?_
        refine g_iret rfl dX8_build_23 ?_
        exact kq _ _ rfl (Sx.refl _ _)
      · refine g_null 11 dX8_textAt_10 rfl ?_
        refine g_goto 20 dX8_textAt_11 rfl ?_
        refine g_aret rfl (Or.inl rfl) dX8_textAt_20 ?_
        refine rN ?_
        refine g_astoreN (L1 := [some (.ref 0), some (.int (iZ t)), some (.int (iZ i)), some (.null), some (.null)]) 13 dX8_build_11 (by decide) rfl rfl rfl ?_
        refine g_aload_nN 14 dX8_build_13 rfl rfl ?_
        refine g_ifnullN 22 dX8_build_14 rfl ?_
        refine g_iconst (v := iZ (-1)) 23 dX8_build_22 rfl rfl ?_
        refine g_iret rfl dX8_build_23 ?_
        exact kq _ _ rfl (Sx.refl _ _)
  · refine g_iload_n 5 dX8_toolAt_4 rfl rfl ?_
    refine g_aload_n 6 dX8_toolAt_5 rfl rfl ?_
    refine g_get 9 dX8_toolAt_6 faX8_26_X8 F.1 rfl rfl ?_
    refine g_icZ_ge 18 12 dX8_toolAt_9 rfl rfl rt (by decide) (fun _ => ?_) (fun q => absurd q (by omega))
    refine g_null 19 dX8_toolAt_18 rfl ?_
    refine g_goto 28 dX8_toolAt_19 rfl ?_
    refine g_aret rfl (Or.inl rfl) dX8_toolAt_28 ?_
    refine rN ?_
    refine g_astore_nN (L1 := [some (.ref 0), some (.int (iZ t)), some (.int (iZ i)), some (.null), none]) 6 dX8_build_5 (by decide) rfl rfl rfl ?_
    refine g_aload_n 7 dX8_build_6 rfl rfl ?_
    refine g_iload_n 8 dX8_build_7 rfl rfl ?_
    refine g_callV (z := mX8_textAt) (As := [.int (iZ i)]) 11 dX8_build_8 mwX8_textAt ⟨by decide, by decide⟩ rfl wlX8_74 wiX8_textAt wsX8_textAt F.1 rfl rfl rfl (nle rfl) (nle rfl) rfl ?_
    refine Go.to [some (.ref 0), some (.int (iZ i))] [] rfl rfl ?_
    refine g_iload_n 1 dX8_textAt_0 rfl rfl ?_
    refine g_ifZ_lt 10 4 dX8_textAt_1 rfl rfl ri (fun c4 => ?_) (fun c4 => ?_)
    · refine g_null 11 dX8_textAt_10 rfl ?_
      refine g_goto 20 dX8_textAt_11 rfl ?_
      refine g_aret rfl (Or.inl rfl) dX8_textAt_20 ?_
      refine rN ?_
      refine g_astoreN (L1 := [some (.ref 0), some (.int (iZ t)), some (.int (iZ i)), some (.null), some (.null)]) 13 dX8_build_11 (by decide) rfl rfl rfl ?_
      refine g_aload_nN 14 dX8_build_13 rfl rfl ?_
      refine g_ifnullN 22 dX8_build_14 rfl ?_
      refine g_iconst (v := iZ (-1)) 23 dX8_build_22 rfl rfl ?_
      refine g_iret rfl dX8_build_23 ?_
      exact kq _ _ rfl (Sx.refl _ _)
    · refine g_iload_n 5 dX8_textAt_4 rfl rfl ?_
      refine g_bipush (v := iZ (8)) 7 dX8_textAt_5 (by decide +kernel) rfl ?_
      refine g_icZ_lt 14 10 dX8_textAt_7 rfl rfl ri (by decide) (fun c5 => ?_) (fun c5 => ?_)
      · refine g_aload_n 15 dX8_textAt_14 rfl rfl ?_
        refine g_get 18 dX8_textAt_15 faX8_16_X8 F.1 rfl rfl ?_
        refine g_iload_n 19 dX8_textAt_18 rfl rfl ?_
        refine g_aaldZ 20 dX8_textAt_19 F.2.2.2.1 (by decide) (by omega) (by omega) (by decide) (txs_at (by omega) (by omega)) rfl ?_
        refine g_aret rfl (Or.inr ⟨_, rfl⟩) dX8_textAt_20 ?_
        refine rR ?_
        refine g_astore (L1 := [some (.ref 0), some (.int (iZ t)), some (.int (iZ i)), some (.null), some (.ref (34 + 2 * i.toNat))]) 13 dX8_build_11 (by decide) rfl rfl rfl ?_
        refine g_aload_nN 14 dX8_build_13 rfl rfl ?_
        refine g_ifnullN 22 dX8_build_14 rfl ?_
        refine g_iconst (v := iZ (-1)) 23 dX8_build_22 rfl rfl ?_
        refine g_iret rfl dX8_build_23 ?_
        exact kq _ _ rfl (Sx.refl _ _)
      · refine g_null 11 dX8_textAt_10 rfl ?_
        refine g_goto 20 dX8_textAt_11 rfl ?_
        refine g_aret rfl (Or.inl rfl) dX8_textAt_20 ?_
        refine rN ?_
        refine g_astoreN (L1 := [some (.ref 0), some (.int (iZ t)), some (.int (iZ i)), some (.null), some (.null)]) 13 dX8_build_11 (by decide) rfl rfl rfl ?_
        refine g_aload_nN 14 dX8_build_13 rfl rfl ?_
        refine g_ifnullN 22 dX8_build_14 rfl ?_
        refine g_iconst (v := iZ (-1)) 23 dX8_build_22 rfl rfl ?_
        refine g_iret rfl dX8_build_23 ?_
        exact kq _ _ rfl (Sx.refl _ _)
set_option maxRecDepth 100000 in
theorem q8_tool {l : Launch} {h : MH} (F : FX h) (t : Int) (w : Int) (rt : rg t) (rw : rg w) {Q : Option Value → MH → Prop} (kq : ∀ (h1 : MH) (r : Int), r = -1 → Sx 50 h h1 → Q (some (.int (iZ r))) h1) : Go l mX8_tool 0 [some (.ref 0), some (.int (iZ t)), some (.int (iZ w)), none] [] h Q := by
  refine g_aload_n 1 dX8_tool_0 rfl rfl ?_
  refine g_iload_n 2 dX8_tool_1 rfl rfl ?_
  refine g_callV (z := mX8_toolAt) (As := [.int (iZ t)]) 5 dX8_tool_2 mwX8_toolAt ⟨by decide, by decide⟩ rfl wlX8_90 wiX8_toolAt wsX8_toolAt F.1 rfl rfl rfl (nle rfl) (nle rfl) rfl ?_
  refine Go.to [some (.ref 0), some (.int (iZ t))] [] rfl rfl ?_
  refine g_iload_n 1 dX8_toolAt_0 rfl rfl ?_
  refine g_ifZ_lt 18 4 dX8_toolAt_1 rfl rfl rt (fun c1 => ?_) (fun c1 => ?_)
  · refine g_null 19 dX8_toolAt_18 rfl ?_
    refine g_goto 28 dX8_toolAt_19 rfl ?_
    refine g_aret rfl (Or.inl rfl) dX8_toolAt_28 ?_
    refine rN ?_
    refine g_astore_nN (L1 := [some (.ref 0), some (.int (iZ t)), some (.int (iZ w)), some (.null)]) 6 dX8_tool_5 (by decide) rfl rfl rfl ?_
    refine g_aload_nN 7 dX8_tool_6 rfl rfl ?_
    refine g_ifnonnullN 10 dX8_tool_7 rfl ?_
    refine g_iconst (v := iZ (-1)) 11 dX8_tool_10 rfl rfl ?_
    refine g_iret rfl dX8_tool_11 ?_
    exact kq _ _ rfl (Sx.refl _ _)
  · refine g_iload_n 5 dX8_toolAt_4 rfl rfl ?_
    refine g_aload_n 6 dX8_toolAt_5 rfl rfl ?_
    refine g_get 9 dX8_toolAt_6 faX8_26_X8 F.1 rfl rfl ?_
    refine g_icZ_ge 18 12 dX8_toolAt_9 rfl rfl rt (by decide) (fun _ => ?_) (fun q => absurd q (by omega))
    refine g_null 19 dX8_toolAt_18 rfl ?_
    refine g_goto 28 dX8_toolAt_19 rfl ?_
    refine g_aret rfl (Or.inl rfl) dX8_toolAt_28 ?_
    refine rN ?_
    refine g_astore_nN (L1 := [some (.ref 0), some (.int (iZ t)), some (.int (iZ w)), some (.null)]) 6 dX8_tool_5 (by decide) rfl rfl rfl ?_
    refine g_aload_nN 7 dX8_tool_6 rfl rfl ?_
    refine g_ifnonnullN 10 dX8_tool_7 rfl ?_
    refine g_iconst (v := iZ (-1)) 11 dX8_tool_10 rfl rfl ?_
    refine g_iret rfl dX8_tool_11 ?_
    exact kq _ _ rfl (Sx.refl _ _)
set_option maxRecDepth 100000 in
theorem q8_code {l : Launch} {h : MH} (F : FX h) (t : Int) (a : Int) (w : Int) (rt : rg t) (ra : rg a) (rw : rg w) {Q : Option Value → MH → Prop} (kq : ∀ (h1 : MH) (r : Int), r = -1 → Sx 50 h h1 → Q (some (.int (iZ r))) h1) : Go l mX8_code 0 [some (.ref 0), some (.int (iZ t)), some (.int (iZ a)), some (.int (iZ w)), none] [] h Q := by
  refine g_aload_n 1 dX8_code_0 rfl rfl ?_
  refine g_iload_n 2 dX8_code_1 rfl rfl ?_
  refine g_callV (z := mX8_toolAt) (As := [.int (iZ t)]) 5 dX8_code_2 mwX8_toolAt ⟨by decide, by decide⟩ rfl wlX8_90 wiX8_toolAt wsX8_toolAt F.1 rfl rfl rfl (nle rfl) (nle rfl) rfl ?_
  refine Go.to [some (.ref 0), some (.int (iZ t))] [] rfl rfl ?_
  refine g_iload_n 1 dX8_toolAt_0 rfl rfl ?_
  refine g_ifZ_lt 18 4 dX8_toolAt_1 rfl rfl rt (fun c1 => ?_) (fun c1 => ?_)
  · refine g_null 19 dX8_toolAt_18 rfl ?_
    refine g_goto 28 dX8_toolAt_19 rfl ?_
    refine g_aret rfl (Or.inl rfl) dX8_toolAt_28 ?_
    refine rN ?_
    refine g_astoreN (L1 := [some (.ref 0), some (.int (iZ t)), some (.int (iZ a)), some (.int (iZ w)), some (.null)]) 7 dX8_code_5 (by decide) rfl rfl rfl ?_
    refine g_aloadN 9 dX8_code_7 rfl rfl ?_
    refine g_ifnullN 21 dX8_code_9 rfl ?_
    refine g_iconst (v := iZ (-1)) 22 dX8_code_21 rfl rfl ?_
    refine g_iret rfl dX8_code_22 ?_
    exact kq _ _ rfl (Sx.refl _ _)
  · refine g_iload_n 5 dX8_toolAt_4 rfl rfl ?_
    refine g_aload_n 6 dX8_toolAt_5 rfl rfl ?_
    refine g_get 9 dX8_toolAt_6 faX8_26_X8 F.1 rfl rfl ?_
    refine g_icZ_ge 18 12 dX8_toolAt_9 rfl rfl rt (by decide) (fun _ => ?_) (fun q => absurd q (by omega))
    refine g_null 19 dX8_toolAt_18 rfl ?_
    refine g_goto 28 dX8_toolAt_19 rfl ?_
    refine g_aret rfl (Or.inl rfl) dX8_toolAt_28 ?_
    refine rN ?_
    refine g_astoreN (L1 := [some (.ref 0), some (.int (iZ t)), some (.int (iZ a)), some (.int (iZ w)), some (.null)]) 7 dX8_code_5 (by decide) rfl rfl rfl ?_
    refine g_aloadN 9 dX8_code_7 rfl rfl ?_
    refine g_ifnullN 21 dX8_code_9 rfl ?_
    refine g_iconst (v := iZ (-1)) 22 dX8_code_21 rfl rfl ?_
    refine g_iret rfl dX8_code_22 ?_
    exact kq _ _ rfl (Sx.refl _ _)
set_option maxRecDepth 100000 in
theorem q8_run {l : Launch} {h : MH} (F : FX h) (t : Int) (i : Int) (rt : rg t) (ri : rg i) {Q : Option Value → MH → Prop} (kq : ∀ (h1 : MH) (r : Int), r = -1 → Sx 50 h h1 → Q (some (.int (iZ r))) h1) : Go l mX8_run 0 [some (.ref 0), some (.int (iZ t)), some (.int (iZ i)), none, none] [] h Q := by
  refine g_aload_n 1 dX8_run_0 rfl rfl ?_
  refine g_iload_n 2 dX8_run_1 rfl rfl ?_
  refine g_callV (z := mX8_toolAt) (As := [.int (iZ t)]) 5 dX8_run_2 mwX8_toolAt ⟨by decide, by decide⟩ rfl wlX8_90 wiX8_toolAt wsX8_toolAt F.1 rfl rfl rfl (nle rfl) (nle rfl) rfl ?_
  refine Go.to [some (.ref 0), some (.int (iZ t))] [] rfl rfl ?_
  refine g_iload_n 1 dX8_toolAt_0 rfl rfl ?_
  refine g_ifZ_lt 18 4 dX8_toolAt_1 rfl rfl rt (fun c1 => ?_) (fun c1 => ?_)
  · refine g_null 19 dX8_toolAt_18 rfl ?_
    refine g_goto 28 dX8_toolAt_19 rfl ?_
    refine g_aret rfl (Or.inl rfl) dX8_toolAt_28 ?_
    refine rN ?_
    refine g_astore_nN (L1 := [some (.ref 0), some (.int (iZ t)), some (.int (iZ i)), some (.null), none]) 6 dX8_run_5 (by decide) rfl rfl rfl ?_
    refine g_aload_n 7 dX8_run_6 rfl rfl ?_
    refine g_iload_n 8 dX8_run_7 rfl rfl ?_
    refine g_callV (z := mX8_textAt) (As := [.int (iZ i)]) 11 dX8_run_8 mwX8_textAt ⟨by decide, by decide⟩ rfl wlX8_74 wiX8_textAt wsX8_textAt F.1 rfl rfl rfl (nle rfl) (nle rfl) rfl ?_
    refine Go.to [some (.ref 0), some (.int (iZ i))] [] rfl rfl ?_
    refine g_iload_n 1 dX8_textAt_0 rfl rfl ?_
    refine g_ifZ_lt 10 4 dX8_textAt_1 rfl rfl ri (fun c2 => ?_) (fun c2 => ?_)
    · refine g_null 11 dX8_textAt_10 rfl ?_
      refine g_goto 20 dX8_textAt_11 rfl ?_
      refine g_aret rfl (Or.inl rfl) dX8_textAt_20 ?_
      refine rN ?_
      refine g_astoreN (L1 := [some (.ref 0), some (.int (iZ t)), some (.int (iZ i)), some (.null), some (.null)]) 13 dX8_run_11 (by decide) rfl rfl rfl ?_
      refine g_aload_nN 14 dX8_run_13 rfl rfl ?_
      refine g_ifnullN 22 dX8_run_14 rfl ?_
      refine g_iconst (v := iZ (-1)) 23 dX8_run_22 rfl rfl ?_
      refine g_iret rfl dX8_run_23 ?_
      exact kq _ _ rfl (Sx.refl _ _)
    · refine g_iload_n 5 dX8_textAt_4 rfl rfl ?_
      refine g_bipush (v := iZ (8)) 7 dX8_textAt_5 (by decide +kernel) rfl ?_
      refine g_icZ_lt 14 10 dX8_textAt_7 rfl rfl ri (by decide) (fun c3 => ?_) (fun c3 => ?_)
      · refine g_aload_n 15 dX8_textAt_14 rfl rfl ?_
        refine g_get 18 dX8_textAt_15 faX8_16_X8 F.1 rfl rfl ?_
        refine g_iload_n 19 dX8_textAt_18 rfl rfl ?_
        refine g_aaldZ 20 dX8_textAt_19 F.2.2.2.1 (by decide) (by omega) (by omega) (by decide) (txs_at (by omega) (by omega)) rfl ?_
        refine g_aret rfl (Or.inr ⟨_, rfl⟩) dX8_textAt_20 ?_
        refine rR ?_
        refine g_astore (L1 := [some (.ref 0), some (.int (iZ t)), some (.int (iZ i)), some (.null), some (.ref (34 + 2 * i.toNat))]) 13 dX8_run_11 (by decide) rfl rfl rfl ?_
        refine g_aload_nN 14 dX8_run_13 rfl rfl ?_
        refine g_ifnullN 22 dX8_run_14 rfl ?_
        refine g_iconst (v := iZ (-1)) 23 dX8_run_22 rfl rfl ?_
        refine g_iret rfl dX8_run_23 ?_
        exact kq _ _ rfl (Sx.refl _ _)
      · refine g_null 11 dX8_textAt_10 rfl ?_
        refine g_goto 20 dX8_textAt_11 rfl ?_
        refine g_aret rfl (Or.inl rfl) dX8_textAt_20 ?_
        refine rN ?_
        refine g_astoreN (L1 := [some (.ref 0), some (.int (iZ t)), some (.int (iZ i)), some (.null), some (.null)]) 13 dX8_run_11 (by decide) rfl rfl rfl ?_
        refine g_aload_nN 14 dX8_run_13 rfl rfl ?_
        refine g_ifnullN 22 dX8_run_14 rfl ?_
        refine g_iconst (v := iZ (-1)) 23 dX8_run_22 rfl rfl ?_
        refine g_iret rfl dX8_run_23 ?_
        exact kq _ _ rfl (Sx.refl _ _)
  · refine g_iload_n 5 dX8_toolAt_4 rfl rfl ?_
    refine g_aload_n 6 dX8_toolAt_5 rfl rfl ?_
    refine g_get 9 dX8_toolAt_6 faX8_26_X8 F.1 rfl rfl ?_
    refine g_icZ_ge 18 12 dX8_toolAt_9 rfl rfl rt (by decide) (fun _ => ?_) (fun q => absurd q (by omega))
    refine g_null 19 dX8_toolAt_18 rfl ?_
    refine g_goto 28 dX8_toolAt_19 rfl ?_
    refine g_aret rfl (Or.inl rfl) dX8_toolAt_28 ?_
    refine rN ?_
    refine g_astore_nN (L1 := [some (.ref 0), some (.int (iZ t)), some (.int (iZ i)), some (.null), none]) 6 dX8_run_5 (by decide) rfl rfl rfl ?_
    refine g_aload_n 7 dX8_run_6 rfl rfl ?_
    refine g_iload_n 8 dX8_run_7 rfl rfl ?_
    refine g_callV (z := mX8_textAt) (As := [.int (iZ i)]) 11 dX8_run_8 mwX8_textAt ⟨by decide, by decide⟩ rfl wlX8_74 wiX8_textAt wsX8_textAt F.1 rfl rfl rfl (nle rfl) (nle rfl) rfl ?_
    refine Go.to [some (.ref 0), some (.int (iZ i))] [] rfl rfl ?_
    refine g_iload_n 1 dX8_textAt_0 rfl rfl ?_
    refine g_ifZ_lt 10 4 dX8_textAt_1 rfl rfl ri (fun c4 => ?_) (fun c4 => ?_)
    · refine g_null 11 dX8_textAt_10 rfl ?_
      refine g_goto 20 dX8_textAt_11 rfl ?_
      refine g_aret rfl (Or.inl rfl) dX8_textAt_20 ?_
      refine rN ?_
      refine g_astoreN (L1 := [some (.ref 0), some (.int (iZ t)), some (.int (iZ i)), some (.null), some (.null)]) 13 dX8_run_11 (by decide) rfl rfl rfl ?_
      refine g_aload_nN 14 dX8_run_13 rfl rfl ?_
      refine g_ifnullN 22 dX8_run_14 rfl ?_
      refine g_iconst (v := iZ (-1)) 23 dX8_run_22 rfl rfl ?_
      refine g_iret rfl dX8_run_23 ?_
      exact kq _ _ rfl (Sx.refl _ _)
    · refine g_iload_n 5 dX8_textAt_4 rfl rfl ?_
      refine g_bipush (v := iZ (8)) 7 dX8_textAt_5 (by decide +kernel) rfl ?_
      refine g_icZ_lt 14 10 dX8_textAt_7 rfl rfl ri (by decide) (fun c5 => ?_) (fun c5 => ?_)
      · refine g_aload_n 15 dX8_textAt_14 rfl rfl ?_
        refine g_get 18 dX8_textAt_15 faX8_16_X8 F.1 rfl rfl ?_
        refine g_iload_n 19 dX8_textAt_18 rfl rfl ?_
        refine g_aaldZ 20 dX8_textAt_19 F.2.2.2.1 (by decide) (by omega) (by omega) (by decide) (txs_at (by omega) (by omega)) rfl ?_
        refine g_aret rfl (Or.inr ⟨_, rfl⟩) dX8_textAt_20 ?_
        refine rR ?_
        refine g_astore (L1 := [some (.ref 0), some (.int (iZ t)), some (.int (iZ i)), some (.null), some (.ref (34 + 2 * i.toNat))]) 13 dX8_run_11 (by decide) rfl rfl rfl ?_
        refine g_aload_nN 14 dX8_run_13 rfl rfl ?_
        refine g_ifnullN 22 dX8_run_14 rfl ?_
        refine g_iconst (v := iZ (-1)) 23 dX8_run_22 rfl rfl ?_
        refine g_iret rfl dX8_run_23 ?_
        exact kq _ _ rfl (Sx.refl _ _)
      · refine g_null 11 dX8_textAt_10 rfl ?_
        refine g_goto 20 dX8_textAt_11 rfl ?_
        refine g_aret rfl (Or.inl rfl) dX8_textAt_20 ?_
        refine rN ?_
        refine g_astoreN (L1 := [some (.ref 0), some (.int (iZ t)), some (.int (iZ i)), some (.null), some (.null)]) 13 dX8_run_11 (by decide) rfl rfl rfl ?_
        refine g_aload_nN 14 dX8_run_13 rfl rfl ?_
        refine g_ifnullN 22 dX8_run_14 rfl ?_
        refine g_iconst (v := iZ (-1)) 23 dX8_run_22 rfl rfl ?_
        refine g_iret rfl dX8_run_23 ?_
        exact kq _ _ rfl (Sx.refl _ _)
set_option maxRecDepth 100000 in
theorem q8_ran {l : Launch} {h : MH} (F : FX h) (w : Int) (rw : rg w) {Q : Option Value → MH → Prop} (kq : ∀ (h1 : MH) (r : Int), r = a_ran w → Sx 50 h h1 → Q (some (.int (iZ r))) h1) : Go l mX8_ran 0 [some (.ref 0), some (.int (iZ w))] [] h Q := by
  refine g_iload_n 1 dX8_ran_0 rfl rfl ?_
  by_cases c1 : w < 0 ∨ 5 < w
  · refine g_tabZO 91 dX8_ran_1 rw c1 rfl ?_
    refine g_iconst (v := iZ (-1)) 92 dX8_ran_91 rfl rfl ?_
    refine g_iret rfl dX8_ran_92 ?_
    exact kq _ _ (by unfold a_ran; split <;> omega) (Sx.refl _ _)
  · have c2 : w = 0 ∨ w = 1 ∨ w = 2 ∨ w = 3 ∨ w = 4 ∨ w = 5 := by omega
    rcases c2 with c2 | c2 | c2 | c2 | c2 | c2
    · refine g_tabZI (0) 40 dX8_ran_1 rw c2 (by decide) (by decide) rfl rfl ?_
      refine g_aload_n 41 dX8_ran_40 rfl rfl ?_
      refine g_get 44 dX8_ran_41 faX8_46_X8 F.1 rfl rfl ?_
      refine g_get 47 dX8_ran_44 faX8_136_X2 F.2.2.2.2.2.2.2.2.2.2.2.2.2.2.2.1 rfl rfl ?_
      refine g_iret rfl dX8_ran_47 ?_
      exact kq _ _ (by unfold a_ran; split <;> omega) (Sx.refl _ _)
    · refine g_tabZI (1) 48 dX8_ran_1 rw c2 (by decide) (by decide) rfl rfl ?_
      refine g_aload_n 49 dX8_ran_48 rfl rfl ?_
      refine g_get 52 dX8_ran_49 faX8_46_X8 F.1 rfl rfl ?_
      refine g_get 55 dX8_ran_52 faX8_139_X2 F.2.2.2.2.2.2.2.2.2.2.2.2.2.2.2.1 rfl rfl ?_
      refine g_iret rfl dX8_ran_55 ?_
      exact kq _ _ (by unfold a_ran; split <;> omega) (Sx.refl _ _)
    · refine g_tabZI (2) 56 dX8_ran_1 rw c2 (by decide) (by decide) rfl rfl ?_
      refine g_aload_n 57 dX8_ran_56 rfl rfl ?_
      refine g_get 60 dX8_ran_57 faX8_46_X8 F.1 rfl rfl ?_
      refine g_get 63 dX8_ran_60 faX8_142_X2 F.2.2.2.2.2.2.2.2.2.2.2.2.2.2.2.1 rfl rfl ?_
      refine g_iret rfl dX8_ran_63 ?_
      exact kq _ _ (by unfold a_ran; split <;> omega) (Sx.refl _ _)
    · refine g_tabZI (3) 64 dX8_ran_1 rw c2 (by decide) (by decide) rfl rfl ?_
      refine g_aload_n 65 dX8_ran_64 rfl rfl ?_
      refine g_get 68 dX8_ran_65 faX8_46_X8 F.1 rfl rfl ?_
      refine g_get 71 dX8_ran_68 faX8_145_X2 F.2.2.2.2.2.2.2.2.2.2.2.2.2.2.2.1 rfl rfl ?_
      refine g_iret rfl dX8_ran_71 ?_
      exact kq _ _ (by unfold a_ran; split <;> omega) (Sx.refl _ _)
    · refine g_tabZI (4) 72 dX8_ran_1 rw c2 (by decide) (by decide) rfl rfl ?_
      refine g_aload_n 73 dX8_ran_72 rfl rfl ?_
      refine g_get 76 dX8_ran_73 faX8_46_X8 F.1 rfl rfl ?_
      refine g_get 79 dX8_ran_76 faX8_148_X2 F.2.2.2.2.2.2.2.2.2.2.2.2.2.2.2.1 rfl rfl ?_
      refine g_iret rfl dX8_ran_79 ?_
      exact kq _ _ (by unfold a_ran; split <;> omega) (Sx.refl _ _)
    · refine g_tabZI (5) 80 dX8_ran_1 rw c2 (by decide) (by decide) rfl rfl ?_
      refine g_aload_n 81 dX8_ran_80 rfl rfl ?_
      refine g_get 84 dX8_ran_81 faX8_46_X8 F.1 rfl rfl ?_
      refine g_get 87 dX8_ran_84 faX8_102_X2 F.2.2.2.2.2.2.2.2.2.2.2.2.2.2.2.1 rfl rfl ?_
      refine g_get 90 dX8_ran_87 faX8_109_X0 F.2.2.2.2.2.2.2.2.2.2.2.2.2.2.2.2.2.1 rfl rfl ?_
      refine g_iret rfl dX8_ran_90 ?_
      exact kq _ _ (by unfold a_ran; split <;> omega) (Sx.refl _ _)
set_option maxRecDepth 100000 in
theorem q8_tape {l : Launch} {h : MH} (F : FX h) (a : Int) (w : Int) (ra : rg a) (rw : rg w) {Q : Option Value → MH → Prop} (kq : ∀ (h1 : MH) (r : Int), r = a_tape a w → Sx 50 h h1 → Q (some (.int (iZ r))) h1) : Go l mX8_tape 0 [some (.ref 0), some (.int (iZ a)), some (.int (iZ w))] [] h Q := by
  refine g_iload_n 1 dX8_tape_0 rfl rfl ?_
  refine g_ifZ_ne 16 4 dX8_tape_1 rfl rfl rw (fun c1 => ?_) (fun c1 => ?_)
  · refine g_iload_n 17 dX8_tape_16 rfl rfl ?_
    refine g_iconst (v := iZ (1)) 18 dX8_tape_17 rfl rfl ?_
    refine g_icZ_ne 32 21 dX8_tape_18 rfl rfl rw (by decide) (fun c2 => ?_) (fun c2 => ?_)
    · refine g_iconst (v := iZ (-1)) 33 dX8_tape_32 rfl rfl ?_
      refine g_iret rfl dX8_tape_33 ?_
      exact kq _ _ (by unfold a_tape; split <;> omega) (Sx.refl _ _)
    · refine g_aload_n 22 dX8_tape_21 rfl rfl ?_
      refine g_get 25 dX8_tape_22 faX8_46_X8 F.1 rfl rfl ?_
      refine g_iload_n 26 dX8_tape_25 rfl rfl ?_
      refine g_callV (z := mX2_memoryAt) (As := [.int (iZ a)]) 29 dX8_tape_26 mwX2_memoryAt ⟨by decide, by decide⟩ rfl wlX8_151 wiX2_memoryAt wsX2_memoryAt F.2.2.2.2.2.2.2.2.2.2.2.2.2.2.2.1 rfl rfl rfl (nle rfl) (nle rfl) rfl ?_
      refine Go.to [some (.ref 15), some (.int (iZ a))] [] rfl rfl ?_
      refine g_iload_n 1 dX2_memoryAt_0 rfl rfl ?_
      refine g_ifZ_lt 11 4 dX2_memoryAt_1 rfl rfl ra (fun c3 => ?_) (fun c3 => ?_)
      · refine g_iconst (v := iZ (-1)) 12 dX2_memoryAt_11 rfl rfl ?_
        refine g_goto 21 dX2_memoryAt_12 rfl ?_
        refine g_iret rfl dX2_memoryAt_21 ?_
        refine rI ?_
        refine g_goto 33 dX8_tape_29 rfl ?_
        refine g_iret rfl dX8_tape_33 ?_
        exact kq _ _ (by unfold a_tape; split <;> omega) (Sx.refl _ _)
      · refine g_iload_n 5 dX2_memoryAt_4 rfl rfl ?_
        refine g_sipush (v := iZ (256)) 8 dX2_memoryAt_5 (by decide +kernel) rfl ?_
        refine g_icZ_lt 15 11 dX2_memoryAt_8 rfl rfl ra (by decide) (fun c4 => ?_) (fun c4 => ?_)
        · refine g_aload_n 16 dX2_memoryAt_15 rfl rfl ?_
          refine g_get 19 dX2_memoryAt_16 faX2_9_X2 F.2.2.2.2.2.2.2.2.2.2.2.2.2.2.2.1 rfl rfl ?_
          refine g_iload_n 20 dX2_memoryAt_19 rfl rfl ?_
          refine g_ialdZ 21 dX2_memoryAt_20 F.2.2.2.2.2.2.2.2.2.2.2.2.2.2.2.2.1 (by omega) (by omega) (by decide) iZ_0 rfl ?_
          refine g_iret rfl dX2_memoryAt_21 ?_
          refine rI ?_
          refine g_goto 33 dX8_tape_29 rfl ?_
          refine g_iret rfl dX8_tape_33 ?_
          exact kq _ _ (by unfold a_tape; split <;> omega) (Sx.refl _ _)
        · refine g_iconst (v := iZ (-1)) 12 dX2_memoryAt_11 rfl rfl ?_
          refine g_goto 21 dX2_memoryAt_12 rfl ?_
          refine g_iret rfl dX2_memoryAt_21 ?_
          refine rI ?_
          refine g_goto 33 dX8_tape_29 rfl ?_
          refine g_iret rfl dX8_tape_33 ?_
          exact kq _ _ (by unfold a_tape; split <;> omega) (Sx.refl _ _)
  · refine g_aload_n 5 dX8_tape_4 rfl rfl ?_
    refine g_get 8 dX8_tape_5 faX8_46_X8 F.1 rfl rfl ?_
    refine g_get 11 dX8_tape_8 faX8_102_X2 F.2.2.2.2.2.2.2.2.2.2.2.2.2.2.2.1 rfl rfl ?_
    refine g_iload_n 12 dX8_tape_11 rfl rfl ?_
    refine g_callV (z := mX0_at) (As := [.int (iZ a)]) 15 dX8_tape_12 mwX0_at ⟨by decide, by decide⟩ rfl wlX8_125 wiX0_at wsX0_at F.2.2.2.2.2.2.2.2.2.2.2.2.2.2.2.2.2.1 rfl rfl rfl (nle rfl) (nle rfl) rfl ?_
    refine Go.to [some (.ref 17), some (.int (iZ a))] [] rfl rfl ?_
    refine g_iload_n 1 dX0_at_0 rfl rfl ?_
    refine g_ifZ_lt 20 4 dX0_at_1 rfl rfl ra (fun c5 => ?_) (fun c5 => ?_)
    · refine g_iconst (v := iZ (-1)) 21 dX0_at_20 rfl rfl ?_
      refine g_goto 30 dX0_at_21 rfl ?_
      refine g_iret rfl dX0_at_30 ?_
      refine rI ?_
      refine g_iret rfl dX8_tape_15 ?_
      exact kq _ _ (by unfold a_tape; split <;> omega) (Sx.refl _ _)
    · refine g_iload_n 5 dX0_at_4 rfl rfl ?_
      refine g_aload_n 6 dX0_at_5 rfl rfl ?_
      refine g_get 9 dX0_at_6 faX0_9_X0 F.2.2.2.2.2.2.2.2.2.2.2.2.2.2.2.2.2.1 rfl rfl ?_
      refine g_icZ_ge 20 12 dX0_at_9 rfl rfl ra (by decide) (fun _ => ?_) (fun q => absurd q (by omega))
      refine g_iconst (v := iZ (-1)) 21 dX0_at_20 rfl rfl ?_
      refine g_goto 30 dX0_at_21 rfl ?_
      refine g_iret rfl dX0_at_30 ?_
      refine rI ?_
      refine g_iret rfl dX8_tape_15 ?_
      exact kq _ _ (by unfold a_tape; split <;> omega) (Sx.refl _ _)
set_option maxRecDepth 100000 in
theorem q8_rebuilt {l : Launch} {h : MH} (F : FX h) (t : Int) (rt : rg t) {Q : Option Value → MH → Prop} (kq : ∀ (h1 : MH) (r : Int), r = -1 → Sx 50 h h1 → Q (some (.int (iZ r))) h1) : Go l mX8_rebuilt 0 [some (.ref 0), some (.int (iZ t)), none] [] h Q := by
  refine g_aload_n 1 dX8_rebuilt_0 rfl rfl ?_
  refine g_iload_n 2 dX8_rebuilt_1 rfl rfl ?_
  refine g_callV (z := mX8_toolAt) (As := [.int (iZ t)]) 5 dX8_rebuilt_2 mwX8_toolAt ⟨by decide, by decide⟩ rfl wlX8_90 wiX8_toolAt wsX8_toolAt F.1 rfl rfl rfl (nle rfl) (nle rfl) rfl ?_
  refine Go.to [some (.ref 0), some (.int (iZ t))] [] rfl rfl ?_
  refine g_iload_n 1 dX8_toolAt_0 rfl rfl ?_
  refine g_ifZ_lt 18 4 dX8_toolAt_1 rfl rfl rt (fun c1 => ?_) (fun c1 => ?_)
  · refine g_null 19 dX8_toolAt_18 rfl ?_
    refine g_goto 28 dX8_toolAt_19 rfl ?_
    refine g_aret rfl (Or.inl rfl) dX8_toolAt_28 ?_
    refine rN ?_
    refine g_astore_nN (L1 := [some (.ref 0), some (.int (iZ t)), some (.null)]) 6 dX8_rebuilt_5 (by decide) rfl rfl rfl ?_
    refine g_aload_nN 7 dX8_rebuilt_6 rfl rfl ?_
    refine g_ifnonnullN 10 dX8_rebuilt_7 rfl ?_
    refine g_iconst (v := iZ (-1)) 11 dX8_rebuilt_10 rfl rfl ?_
    refine g_goto 19 dX8_rebuilt_11 rfl ?_
    refine g_iret rfl dX8_rebuilt_19 ?_
    exact kq _ _ rfl (Sx.refl _ _)
  · refine g_iload_n 5 dX8_toolAt_4 rfl rfl ?_
    refine g_aload_n 6 dX8_toolAt_5 rfl rfl ?_
    refine g_get 9 dX8_toolAt_6 faX8_26_X8 F.1 rfl rfl ?_
    refine g_icZ_ge 18 12 dX8_toolAt_9 rfl rfl rt (by decide) (fun _ => ?_) (fun q => absurd q (by omega))
    refine g_null 19 dX8_toolAt_18 rfl ?_
    refine g_goto 28 dX8_toolAt_19 rfl ?_
    refine g_aret rfl (Or.inl rfl) dX8_toolAt_28 ?_
    refine rN ?_
    refine g_astore_nN (L1 := [some (.ref 0), some (.int (iZ t)), some (.null)]) 6 dX8_rebuilt_5 (by decide) rfl rfl rfl ?_
    refine g_aload_nN 7 dX8_rebuilt_6 rfl rfl ?_
    refine g_ifnonnullN 10 dX8_rebuilt_7 rfl ?_
    refine g_iconst (v := iZ (-1)) 11 dX8_rebuilt_10 rfl rfl ?_
    refine g_goto 19 dX8_rebuilt_11 rfl ?_
    refine g_iret rfl dX8_rebuilt_19 ?_
    exact kq _ _ rfl (Sx.refl _ _)
set_option maxRecDepth 100000 in
theorem q8_stale {l : Launch} {h : MH} (F : FX h)  {Q : Option Value → MH → Prop} (kq : ∀ (h1 : MH) (r : Int), r = 0 → Sx 50 h h1 → Q (some (.int (iZ r))) h1) : Go l mX8_stale 0 [some (.ref 0)] [] h Q := by
  refine g_aload_n 1 dX8_stale_0 rfl rfl ?_
  refine g_callV (z := mX8_staleBits) (As := []) 4 dX8_stale_1 mwX8_staleBits ⟨by decide, by decide⟩ rfl wlX8_158 wiX8_staleBits wsX8_staleBits F.1 rfl rfl rfl (nle rfl) (nle rfl) rfl ?_
  refine Go.to [some (.ref 0), none, none, none] [] rfl rfl ?_
  refine g_iconst (v := iZ (0)) 1 dX8_staleBits_0 rfl rfl ?_
  refine g_istore_n (L1 := [some (.ref 0), some (.int (iZ 0)), none, none]) 2 dX8_staleBits_1 (by decide) rfl rfl rfl ?_
  refine g_iconst (v := iZ (0)) 3 dX8_staleBits_2 rfl rfl ?_
  refine g_istore_n (L1 := [some (.ref 0), some (.int (iZ 0)), some (.int (iZ 0)), none]) 4 dX8_staleBits_3 (by decide) rfl rfl rfl ?_
  refine g_iload_n 5 dX8_staleBits_4 rfl rfl ?_
  refine g_aload_n 6 dX8_staleBits_5 rfl rfl ?_
  refine g_get 9 dX8_staleBits_6 faX8_26_X8 F.1 rfl rfl ?_
  refine g_icZ_ge 50 12 dX8_staleBits_9 rfl rfl (by decide) (by decide) (fun _ => ?_) (fun q => absurd q (by decide))
  refine g_iload_n 51 dX8_staleBits_50 rfl rfl ?_
  refine g_iret rfl dX8_staleBits_51 ?_
  refine rI ?_
  refine g_iret rfl dX8_stale_4 ?_
  exact kq _ _ rfl (Sx.refl _ _)
set_option maxRecDepth 100000 in
theorem q8_settles {l : Launch} {h : MH} (F : FX h) (t : Int) (i : Int) (rt : rg t) (ri : rg i) {Q : Option Value → MH → Prop} (kq : ∀ (h1 : MH) (r : Int), r = -1 → Sx 50 h h1 → Q (some (.int (iZ r))) h1) : Go l mX8_settles 0 [some (.ref 0), some (.int (iZ t)), some (.int (iZ i)), none, none, none, none, none] [] h Q := by
  refine g_aload_n 1 dX8_settles_0 rfl rfl ?_
  refine g_iload_n 2 dX8_settles_1 rfl rfl ?_
  refine g_callV (z := mX8_toolAt) (As := [.int (iZ t)]) 5 dX8_settles_2 mwX8_toolAt ⟨by decide, by decide⟩ rfl wlX8_90 wiX8_toolAt wsX8_toolAt F.1 rfl rfl rfl (nle rfl) (nle rfl) rfl ?_
  refine Go.to [some (.ref 0), some (.int (iZ t))] [] rfl rfl ?_
  refine g_iload_n 1 dX8_toolAt_0 rfl rfl ?_
  refine g_ifZ_lt 18 4 dX8_toolAt_1 rfl rfl rt (fun c1 => ?_) (fun c1 => ?_)
  · refine g_null 19 dX8_toolAt_18 rfl ?_
    refine g_goto 28 dX8_toolAt_19 rfl ?_
    refine g_aret rfl (Or.inl rfl) dX8_toolAt_28 ?_
    refine rN ?_
    refine g_astore_nN (L1 := [some (.ref 0), some (.int (iZ t)), some (.int (iZ i)), some (.null), none, none, none, none]) 6 dX8_settles_5 (by decide) rfl rfl rfl ?_
    refine g_aload_n 7 dX8_settles_6 rfl rfl ?_
    refine g_iload_n 8 dX8_settles_7 rfl rfl ?_
    refine g_callV (z := mX8_textAt) (As := [.int (iZ i)]) 11 dX8_settles_8 mwX8_textAt ⟨by decide, by decide⟩ rfl wlX8_74 wiX8_textAt wsX8_textAt F.1 rfl rfl rfl (nle rfl) (nle rfl) rfl ?_
    refine Go.to [some (.ref 0), some (.int (iZ i))] [] rfl rfl ?_
    refine g_iload_n 1 dX8_textAt_0 rfl rfl ?_
    refine g_ifZ_lt 10 4 dX8_textAt_1 rfl rfl ri (fun c2 => ?_) (fun c2 => ?_)
    · refine g_null 11 dX8_textAt_10 rfl ?_
      refine g_goto 20 dX8_textAt_11 rfl ?_
      refine g_aret rfl (Or.inl rfl) dX8_textAt_20 ?_
      refine rN ?_
      refine g_astoreN (L1 := [some (.ref 0), some (.int (iZ t)), some (.int (iZ i)), some (.null), some (.null), none, none, none]) 13 dX8_settles_11 (by decide) rfl rfl rfl ?_
      refine g_aload_nN 14 dX8_settles_13 rfl rfl ?_
      refine g_ifnullN 22 dX8_settles_14 rfl ?_
      refine g_iconst (v := iZ (-1)) 23 dX8_settles_22 rfl rfl ?_
      refine g_iret rfl dX8_settles_23 ?_
      exact kq _ _ rfl (Sx.refl _ _)
    · refine g_iload_n 5 dX8_textAt_4 rfl rfl ?_
      refine g_bipush (v := iZ (8)) 7 dX8_textAt_5 (by decide +kernel) rfl ?_
      refine g_icZ_lt 14 10 dX8_textAt_7 rfl rfl ri (by decide) (fun c3 => ?_) (fun c3 => ?_)
      · refine g_aload_n 15 dX8_textAt_14 rfl rfl ?_
        refine g_get 18 dX8_textAt_15 faX8_16_X8 F.1 rfl rfl ?_
        refine g_iload_n 19 dX8_textAt_18 rfl rfl ?_
        refine g_aaldZ 20 dX8_textAt_19 F.2.2.2.1 (by decide) (by omega) (by omega) (by decide) (txs_at (by omega) (by omega)) rfl ?_
        refine g_aret rfl (Or.inr ⟨_, rfl⟩) dX8_textAt_20 ?_
        refine rR ?_
        refine g_astore (L1 := [some (.ref 0), some (.int (iZ t)), some (.int (iZ i)), some (.null), some (.ref (34 + 2 * i.toNat)), none, none, none]) 13 dX8_settles_11 (by decide) rfl rfl rfl ?_
        refine g_aload_nN 14 dX8_settles_13 rfl rfl ?_
        refine g_ifnullN 22 dX8_settles_14 rfl ?_
        refine g_iconst (v := iZ (-1)) 23 dX8_settles_22 rfl rfl ?_
        refine g_iret rfl dX8_settles_23 ?_
        exact kq _ _ rfl (Sx.refl _ _)
      · refine g_null 11 dX8_textAt_10 rfl ?_
        refine g_goto 20 dX8_textAt_11 rfl ?_
        refine g_aret rfl (Or.inl rfl) dX8_textAt_20 ?_
        refine rN ?_
        refine g_astoreN (L1 := [some (.ref 0), some (.int (iZ t)), some (.int (iZ i)), some (.null), some (.null), none, none, none]) 13 dX8_settles_11 (by decide) rfl rfl rfl ?_
        refine g_aload_nN 14 dX8_settles_13 rfl rfl ?_
        refine g_ifnullN 22 dX8_settles_14 rfl ?_
        refine g_iconst (v := iZ (-1)) 23 dX8_settles_22 rfl rfl ?_
        refine g_iret rfl dX8_settles_23 ?_
        exact kq _ _ rfl (Sx.refl _ _)
  · refine g_iload_n 5 dX8_toolAt_4 rfl rfl ?_
    refine g_aload_n 6 dX8_toolAt_5 rfl rfl ?_
    refine g_get 9 dX8_toolAt_6 faX8_26_X8 F.1 rfl rfl ?_
    refine g_icZ_ge 18 12 dX8_toolAt_9 rfl rfl rt (by decide) (fun _ => ?_) (fun q => absurd q (by omega))
    refine g_null 19 dX8_toolAt_18 rfl ?_
    refine g_goto 28 dX8_toolAt_19 rfl ?_
    refine g_aret rfl (Or.inl rfl) dX8_toolAt_28 ?_
    refine rN ?_
    refine g_astore_nN (L1 := [some (.ref 0), some (.int (iZ t)), some (.int (iZ i)), some (.null), none, none, none, none]) 6 dX8_settles_5 (by decide) rfl rfl rfl ?_
    refine g_aload_n 7 dX8_settles_6 rfl rfl ?_
    refine g_iload_n 8 dX8_settles_7 rfl rfl ?_
    refine g_callV (z := mX8_textAt) (As := [.int (iZ i)]) 11 dX8_settles_8 mwX8_textAt ⟨by decide, by decide⟩ rfl wlX8_74 wiX8_textAt wsX8_textAt F.1 rfl rfl rfl (nle rfl) (nle rfl) rfl ?_
    refine Go.to [some (.ref 0), some (.int (iZ i))] [] rfl rfl ?_
    refine g_iload_n 1 dX8_textAt_0 rfl rfl ?_
    refine g_ifZ_lt 10 4 dX8_textAt_1 rfl rfl ri (fun c4 => ?_) (fun c4 => ?_)
    · refine g_null 11 dX8_textAt_10 rfl ?_
      refine g_goto 20 dX8_textAt_11 rfl ?_
      refine g_aret rfl (Or.inl rfl) dX8_textAt_20 ?_
      refine rN ?_
      refine g_astoreN (L1 := [some (.ref 0), some (.int (iZ t)), some (.int (iZ i)), some (.null), some (.null), none, none, none]) 13 dX8_settles_11 (by decide) rfl rfl rfl ?_
      refine g_aload_nN 14 dX8_settles_13 rfl rfl ?_
      refine g_ifnullN 22 dX8_settles_14 rfl ?_
      refine g_iconst (v := iZ (-1)) 23 dX8_settles_22 rfl rfl ?_
      refine g_iret rfl dX8_settles_23 ?_
      exact kq _ _ rfl (Sx.refl _ _)
    · refine g_iload_n 5 dX8_textAt_4 rfl rfl ?_
      refine g_bipush (v := iZ (8)) 7 dX8_textAt_5 (by decide +kernel) rfl ?_
      refine g_icZ_lt 14 10 dX8_textAt_7 rfl rfl ri (by decide) (fun c5 => ?_) (fun c5 => ?_)
      · refine g_aload_n 15 dX8_textAt_14 rfl rfl ?_
        refine g_get 18 dX8_textAt_15 faX8_16_X8 F.1 rfl rfl ?_
        refine g_iload_n 19 dX8_textAt_18 rfl rfl ?_
        refine g_aaldZ 20 dX8_textAt_19 F.2.2.2.1 (by decide) (by omega) (by omega) (by decide) (txs_at (by omega) (by omega)) rfl ?_
        refine g_aret rfl (Or.inr ⟨_, rfl⟩) dX8_textAt_20 ?_
        refine rR ?_
        refine g_astore (L1 := [some (.ref 0), some (.int (iZ t)), some (.int (iZ i)), some (.null), some (.ref (34 + 2 * i.toNat)), none, none, none]) 13 dX8_settles_11 (by decide) rfl rfl rfl ?_
        refine g_aload_nN 14 dX8_settles_13 rfl rfl ?_
        refine g_ifnullN 22 dX8_settles_14 rfl ?_
        refine g_iconst (v := iZ (-1)) 23 dX8_settles_22 rfl rfl ?_
        refine g_iret rfl dX8_settles_23 ?_
        exact kq _ _ rfl (Sx.refl _ _)
      · refine g_null 11 dX8_textAt_10 rfl ?_
        refine g_goto 20 dX8_textAt_11 rfl ?_
        refine g_aret rfl (Or.inl rfl) dX8_textAt_20 ?_
        refine rN ?_
        refine g_astoreN (L1 := [some (.ref 0), some (.int (iZ t)), some (.int (iZ i)), some (.null), some (.null), none, none, none]) 13 dX8_settles_11 (by decide) rfl rfl rfl ?_
        refine g_aload_nN 14 dX8_settles_13 rfl rfl ?_
        refine g_ifnullN 22 dX8_settles_14 rfl ?_
        refine g_iconst (v := iZ (-1)) 23 dX8_settles_22 rfl rfl ?_
        refine g_iret rfl dX8_settles_23 ?_
        exact kq _ _ rfl (Sx.refl _ _)
set_option maxRecDepth 100000 in
theorem q8_round {l : Launch} {h : MH} (F : FX h) (a : Int) (b : Int) (i : Int) (ra : rg a) (rb : rg b) (ri : rg i) {Q : Option Value → MH → Prop} (kq : ∀ (h1 : MH) (r : Int), r = -1 → Sx 50 h h1 → Q (some (.int (iZ r))) h1) : Go l mX8_round 0 [some (.ref 0), some (.int (iZ a)), some (.int (iZ b)), some (.int (iZ i)), none, none, none] [] h Q := by
  refine g_aload_n 1 dX8_round_0 rfl rfl ?_
  refine g_iload_n 2 dX8_round_1 rfl rfl ?_
  refine g_callV (z := mX8_toolAt) (As := [.int (iZ a)]) 5 dX8_round_2 mwX8_toolAt ⟨by decide, by decide⟩ rfl wlX8_90 wiX8_toolAt wsX8_toolAt F.1 rfl rfl rfl (nle rfl) (nle rfl) rfl ?_
  refine Go.to [some (.ref 0), some (.int (iZ a))] [] rfl rfl ?_
  refine g_iload_n 1 dX8_toolAt_0 rfl rfl ?_
  refine g_ifZ_lt 18 4 dX8_toolAt_1 rfl rfl ra (fun c1 => ?_) (fun c1 => ?_)
  · refine g_null 19 dX8_toolAt_18 rfl ?_
    refine g_goto 28 dX8_toolAt_19 rfl ?_
    refine g_aret rfl (Or.inl rfl) dX8_toolAt_28 ?_
    refine rN ?_
    refine g_astoreN (L1 := [some (.ref 0), some (.int (iZ a)), some (.int (iZ b)), some (.int (iZ i)), some (.null), none, none]) 7 dX8_round_5 (by decide) rfl rfl rfl ?_
    refine g_aload_n 8 dX8_round_7 rfl rfl ?_
    refine g_iload_n 9 dX8_round_8 rfl rfl ?_
    refine g_callV (z := mX8_toolAt) (As := [.int (iZ b)]) 12 dX8_round_9 mwX8_toolAt ⟨by decide, by decide⟩ rfl wlX8_90 wiX8_toolAt wsX8_toolAt F.1 rfl rfl rfl (nle rfl) (nle rfl) rfl ?_
    refine Go.to [some (.ref 0), some (.int (iZ b))] [] rfl rfl ?_
    refine g_iload_n 1 dX8_toolAt_0 rfl rfl ?_
    refine g_ifZ_lt 18 4 dX8_toolAt_1 rfl rfl rb (fun c2 => ?_) (fun c2 => ?_)
    · refine g_null 19 dX8_toolAt_18 rfl ?_
      refine g_goto 28 dX8_toolAt_19 rfl ?_
      refine g_aret rfl (Or.inl rfl) dX8_toolAt_28 ?_
      refine rN ?_
      refine g_astoreN (L1 := [some (.ref 0), some (.int (iZ a)), some (.int (iZ b)), some (.int (iZ i)), some (.null), some (.null), none]) 14 dX8_round_12 (by decide) rfl rfl rfl ?_
      refine g_aload_n 15 dX8_round_14 rfl rfl ?_
      refine g_iload_n 16 dX8_round_15 rfl rfl ?_
      refine g_callV (z := mX8_textAt) (As := [.int (iZ i)]) 19 dX8_round_16 mwX8_textAt ⟨by decide, by decide⟩ rfl wlX8_74 wiX8_textAt wsX8_textAt F.1 rfl rfl rfl (nle rfl) (nle rfl) rfl ?_
      refine Go.to [some (.ref 0), some (.int (iZ i))] [] rfl rfl ?_
      refine g_iload_n 1 dX8_textAt_0 rfl rfl ?_
      refine g_ifZ_lt 10 4 dX8_textAt_1 rfl rfl ri (fun c3 => ?_) (fun c3 => ?_)
      · refine g_null 11 dX8_textAt_10 rfl ?_
        refine g_goto 20 dX8_textAt_11 rfl ?_
        refine g_aret rfl (Or.inl rfl) dX8_textAt_20 ?_
        refine rN ?_
        refine g_astoreN (L1 := [some (.ref 0), some (.int (iZ a)), some (.int (iZ b)), some (.int (iZ i)), some (.null), some (.null), some (.null)]) 21 dX8_round_19 (by decide) rfl rfl rfl ?_
        refine g_aloadN 23 dX8_round_21 rfl rfl ?_
        refine g_ifnullN 36 dX8_round_23 rfl ?_
        refine g_iconst (v := iZ (-1)) 37 dX8_round_36 rfl rfl ?_
        refine g_iret rfl dX8_round_37 ?_
        exact kq _ _ rfl (Sx.refl _ _)
      · refine g_iload_n 5 dX8_textAt_4 rfl rfl ?_
        refine g_bipush (v := iZ (8)) 7 dX8_textAt_5 (by decide +kernel) rfl ?_
        refine g_icZ_lt 14 10 dX8_textAt_7 rfl rfl ri (by decide) (fun c4 => ?_) (fun c4 => ?_)
        · refine g_aload_n 15 dX8_textAt_14 rfl rfl ?_
          refine g_get 18 dX8_textAt_15 faX8_16_X8 F.1 rfl rfl ?_
          refine g_iload_n 19 dX8_textAt_18 rfl rfl ?_
          refine g_aaldZ 20 dX8_textAt_19 F.2.2.2.1 (by decide) (by omega) (by omega) (by decide) (txs_at (by omega) (by omega)) rfl ?_
          refine g_aret rfl (Or.inr ⟨_, rfl⟩) dX8_textAt_20 ?_
          refine rR ?_
          refine g_astore (L1 := [some (.ref 0), some (.int (iZ a)), some (.int (iZ b)), some (.int (iZ i)), some (.null), some (.null), some (.ref (34 + 2 * i.toNat))]) 21 dX8_round_19 (by decide) rfl rfl rfl ?_
          refine g_aloadN 23 dX8_round_21 rfl rfl ?_
          refine g_ifnullN 36 dX8_round_23 rfl ?_
          refine g_iconst (v := iZ (-1)) 37 dX8_round_36 rfl rfl ?_
          refine g_iret rfl dX8_round_37 ?_
          exact kq _ _ rfl (Sx.refl _ _)
        · refine g_null 11 dX8_textAt_10 rfl ?_
          refine g_goto 20 dX8_textAt_11 rfl ?_
          refine g_aret rfl (Or.inl rfl) dX8_textAt_20 ?_
          refine rN ?_
          refine g_astoreN (L1 := [some (.ref 0), some (.int (iZ a)), some (.int (iZ b)), some (.int (iZ i)), some (.null), some (.null), some (.null)]) 21 dX8_round_19 (by decide) rfl rfl rfl ?_
          refine g_aloadN 23 dX8_round_21 rfl rfl ?_
          refine g_ifnullN 36 dX8_round_23 rfl ?_
          refine g_iconst (v := iZ (-1)) 37 dX8_round_36 rfl rfl ?_
          refine g_iret rfl dX8_round_37 ?_
          exact kq _ _ rfl (Sx.refl _ _)
    · refine g_iload_n 5 dX8_toolAt_4 rfl rfl ?_
      refine g_aload_n 6 dX8_toolAt_5 rfl rfl ?_
      refine g_get 9 dX8_toolAt_6 faX8_26_X8 F.1 rfl rfl ?_
      refine g_icZ_ge 18 12 dX8_toolAt_9 rfl rfl rb (by decide) (fun _ => ?_) (fun q => absurd q (by omega))
      refine g_null 19 dX8_toolAt_18 rfl ?_
      refine g_goto 28 dX8_toolAt_19 rfl ?_
      refine g_aret rfl (Or.inl rfl) dX8_toolAt_28 ?_
      refine rN ?_
      refine g_astoreN (L1 := [some (.ref 0), some (.int (iZ a)), some (.int (iZ b)), some (.int (iZ i)), some (.null), some (.null), none]) 14 dX8_round_12 (by decide) rfl rfl rfl ?_
      refine g_aload_n 15 dX8_round_14 rfl rfl ?_
      refine g_iload_n 16 dX8_round_15 rfl rfl ?_
      refine g_callV (z := mX8_textAt) (As := [.int (iZ i)]) 19 dX8_round_16 mwX8_textAt ⟨by decide, by decide⟩ rfl wlX8_74 wiX8_textAt wsX8_textAt F.1 rfl rfl rfl (nle rfl) (nle rfl) rfl ?_
      refine Go.to [some (.ref 0), some (.int (iZ i))] [] rfl rfl ?_
      refine g_iload_n 1 dX8_textAt_0 rfl rfl ?_
      refine g_ifZ_lt 10 4 dX8_textAt_1 rfl rfl ri (fun c5 => ?_) (fun c5 => ?_)
      · refine g_null 11 dX8_textAt_10 rfl ?_
        refine g_goto 20 dX8_textAt_11 rfl ?_
        refine g_aret rfl (Or.inl rfl) dX8_textAt_20 ?_
        refine rN ?_
        refine g_astoreN (L1 := [some (.ref 0), some (.int (iZ a)), some (.int (iZ b)), some (.int (iZ i)), some (.null), some (.null), some (.null)]) 21 dX8_round_19 (by decide) rfl rfl rfl ?_
        refine g_aloadN 23 dX8_round_21 rfl rfl ?_
        refine g_ifnullN 36 dX8_round_23 rfl ?_
        refine g_iconst (v := iZ (-1)) 37 dX8_round_36 rfl rfl ?_
        refine g_iret rfl dX8_round_37 ?_
        exact kq _ _ rfl (Sx.refl _ _)
      · refine g_iload_n 5 dX8_textAt_4 rfl rfl ?_
        refine g_bipush (v := iZ (8)) 7 dX8_textAt_5 (by decide +kernel) rfl ?_
        refine g_icZ_lt 14 10 dX8_textAt_7 rfl rfl ri (by decide) (fun c6 => ?_) (fun c6 => ?_)
        · refine g_aload_n 15 dX8_textAt_14 rfl rfl ?_
          refine g_get 18 dX8_textAt_15 faX8_16_X8 F.1 rfl rfl ?_
          refine g_iload_n 19 dX8_textAt_18 rfl rfl ?_
          refine g_aaldZ 20 dX8_textAt_19 F.2.2.2.1 (by decide) (by omega) (by omega) (by decide) (txs_at (by omega) (by omega)) rfl ?_
          refine g_aret rfl (Or.inr ⟨_, rfl⟩) dX8_textAt_20 ?_
          refine rR ?_
          refine g_astore (L1 := [some (.ref 0), some (.int (iZ a)), some (.int (iZ b)), some (.int (iZ i)), some (.null), some (.null), some (.ref (34 + 2 * i.toNat))]) 21 dX8_round_19 (by decide) rfl rfl rfl ?_
          refine g_aloadN 23 dX8_round_21 rfl rfl ?_
          refine g_ifnullN 36 dX8_round_23 rfl ?_
          refine g_iconst (v := iZ (-1)) 37 dX8_round_36 rfl rfl ?_
          refine g_iret rfl dX8_round_37 ?_
          exact kq _ _ rfl (Sx.refl _ _)
        · refine g_null 11 dX8_textAt_10 rfl ?_
          refine g_goto 20 dX8_textAt_11 rfl ?_
          refine g_aret rfl (Or.inl rfl) dX8_textAt_20 ?_
          refine rN ?_
          refine g_astoreN (L1 := [some (.ref 0), some (.int (iZ a)), some (.int (iZ b)), some (.int (iZ i)), some (.null), some (.null), some (.null)]) 21 dX8_round_19 (by decide) rfl rfl rfl ?_
          refine g_aloadN 23 dX8_round_21 rfl rfl ?_
          refine g_ifnullN 36 dX8_round_23 rfl ?_
          refine g_iconst (v := iZ (-1)) 37 dX8_round_36 rfl rfl ?_
          refine g_iret rfl dX8_round_37 ?_
          exact kq _ _ rfl (Sx.refl _ _)
  · refine g_iload_n 5 dX8_toolAt_4 rfl rfl ?_
    refine g_aload_n 6 dX8_toolAt_5 rfl rfl ?_
    refine g_get 9 dX8_toolAt_6 faX8_26_X8 F.1 rfl rfl ?_
    refine g_icZ_ge 18 12 dX8_toolAt_9 rfl rfl ra (by decide) (fun _ => ?_) (fun q => absurd q (by omega))
    refine g_null 19 dX8_toolAt_18 rfl ?_
    refine g_goto 28 dX8_toolAt_19 rfl ?_
    refine g_aret rfl (Or.inl rfl) dX8_toolAt_28 ?_
    refine rN ?_
    refine g_astoreN (L1 := [some (.ref 0), some (.int (iZ a)), some (.int (iZ b)), some (.int (iZ i)), some (.null), none, none]) 7 dX8_round_5 (by decide) rfl rfl rfl ?_
    refine g_aload_n 8 dX8_round_7 rfl rfl ?_
    refine g_iload_n 9 dX8_round_8 rfl rfl ?_
    refine g_callV (z := mX8_toolAt) (As := [.int (iZ b)]) 12 dX8_round_9 mwX8_toolAt ⟨by decide, by decide⟩ rfl wlX8_90 wiX8_toolAt wsX8_toolAt F.1 rfl rfl rfl (nle rfl) (nle rfl) rfl ?_
    refine Go.to [some (.ref 0), some (.int (iZ b))] [] rfl rfl ?_
    refine g_iload_n 1 dX8_toolAt_0 rfl rfl ?_
    refine g_ifZ_lt 18 4 dX8_toolAt_1 rfl rfl rb (fun c7 => ?_) (fun c7 => ?_)
    · refine g_null 19 dX8_toolAt_18 rfl ?_
      refine g_goto 28 dX8_toolAt_19 rfl ?_
      refine g_aret rfl (Or.inl rfl) dX8_toolAt_28 ?_
      refine rN ?_
      refine g_astoreN (L1 := [some (.ref 0), some (.int (iZ a)), some (.int (iZ b)), some (.int (iZ i)), some (.null), some (.null), none]) 14 dX8_round_12 (by decide) rfl rfl rfl ?_
      refine g_aload_n 15 dX8_round_14 rfl rfl ?_
      refine g_iload_n 16 dX8_round_15 rfl rfl ?_
      refine g_callV (z := mX8_textAt) (As := [.int (iZ i)]) 19 dX8_round_16 mwX8_textAt ⟨by decide, by decide⟩ rfl wlX8_74 wiX8_textAt wsX8_textAt F.1 rfl rfl rfl (nle rfl) (nle rfl) rfl ?_
      refine Go.to [some (.ref 0), some (.int (iZ i))] [] rfl rfl ?_
      refine g_iload_n 1 dX8_textAt_0 rfl rfl ?_
      refine g_ifZ_lt 10 4 dX8_textAt_1 rfl rfl ri (fun c8 => ?_) (fun c8 => ?_)
      · refine g_null 11 dX8_textAt_10 rfl ?_
        refine g_goto 20 dX8_textAt_11 rfl ?_
        refine g_aret rfl (Or.inl rfl) dX8_textAt_20 ?_
        refine rN ?_
        refine g_astoreN (L1 := [some (.ref 0), some (.int (iZ a)), some (.int (iZ b)), some (.int (iZ i)), some (.null), some (.null), some (.null)]) 21 dX8_round_19 (by decide) rfl rfl rfl ?_
        refine g_aloadN 23 dX8_round_21 rfl rfl ?_
        refine g_ifnullN 36 dX8_round_23 rfl ?_
        refine g_iconst (v := iZ (-1)) 37 dX8_round_36 rfl rfl ?_
        refine g_iret rfl dX8_round_37 ?_
        exact kq _ _ rfl (Sx.refl _ _)
      · refine g_iload_n 5 dX8_textAt_4 rfl rfl ?_
        refine g_bipush (v := iZ (8)) 7 dX8_textAt_5 (by decide +kernel) rfl ?_
        refine g_icZ_lt 14 10 dX8_textAt_7 rfl rfl ri (by decide) (fun c9 => ?_) (fun c9 => ?_)
        · refine g_aload_n 15 dX8_textAt_14 rfl rfl ?_
          refine g_get 18 dX8_textAt_15 faX8_16_X8 F.1 rfl rfl ?_
          refine g_iload_n 19 dX8_textAt_18 rfl rfl ?_
          refine g_aaldZ 20 dX8_textAt_19 F.2.2.2.1 (by decide) (by omega) (by omega) (by decide) (txs_at (by omega) (by omega)) rfl ?_
          refine g_aret rfl (Or.inr ⟨_, rfl⟩) dX8_textAt_20 ?_
          refine rR ?_
          refine g_astore (L1 := [some (.ref 0), some (.int (iZ a)), some (.int (iZ b)), some (.int (iZ i)), some (.null), some (.null), some (.ref (34 + 2 * i.toNat))]) 21 dX8_round_19 (by decide) rfl rfl rfl ?_
          refine g_aloadN 23 dX8_round_21 rfl rfl ?_
          refine g_ifnullN 36 dX8_round_23 rfl ?_
          refine g_iconst (v := iZ (-1)) 37 dX8_round_36 rfl rfl ?_
          refine g_iret rfl dX8_round_37 ?_
          exact kq _ _ rfl (Sx.refl _ _)
        · refine g_null 11 dX8_textAt_10 rfl ?_
          refine g_goto 20 dX8_textAt_11 rfl ?_
          refine g_aret rfl (Or.inl rfl) dX8_textAt_20 ?_
          refine rN ?_
          refine g_astoreN (L1 := [some (.ref 0), some (.int (iZ a)), some (.int (iZ b)), some (.int (iZ i)), some (.null), some (.null), some (.null)]) 21 dX8_round_19 (by decide) rfl rfl rfl ?_
          refine g_aloadN 23 dX8_round_21 rfl rfl ?_
          refine g_ifnullN 36 dX8_round_23 rfl ?_
          refine g_iconst (v := iZ (-1)) 37 dX8_round_36 rfl rfl ?_
          refine g_iret rfl dX8_round_37 ?_
          exact kq _ _ rfl (Sx.refl _ _)
    · refine g_iload_n 5 dX8_toolAt_4 rfl rfl ?_
      refine g_aload_n 6 dX8_toolAt_5 rfl rfl ?_
      refine g_get 9 dX8_toolAt_6 faX8_26_X8 F.1 rfl rfl ?_
      refine g_icZ_ge 18 12 dX8_toolAt_9 rfl rfl rb (by decide) (fun _ => ?_) (fun q => absurd q (by omega))
      refine g_null 19 dX8_toolAt_18 rfl ?_
      refine g_goto 28 dX8_toolAt_19 rfl ?_
      refine g_aret rfl (Or.inl rfl) dX8_toolAt_28 ?_
      refine rN ?_
      refine g_astoreN (L1 := [some (.ref 0), some (.int (iZ a)), some (.int (iZ b)), some (.int (iZ i)), some (.null), some (.null), none]) 14 dX8_round_12 (by decide) rfl rfl rfl ?_
      refine g_aload_n 15 dX8_round_14 rfl rfl ?_
      refine g_iload_n 16 dX8_round_15 rfl rfl ?_
      refine g_callV (z := mX8_textAt) (As := [.int (iZ i)]) 19 dX8_round_16 mwX8_textAt ⟨by decide, by decide⟩ rfl wlX8_74 wiX8_textAt wsX8_textAt F.1 rfl rfl rfl (nle rfl) (nle rfl) rfl ?_
      refine Go.to [some (.ref 0), some (.int (iZ i))] [] rfl rfl ?_
      refine g_iload_n 1 dX8_textAt_0 rfl rfl ?_
      refine g_ifZ_lt 10 4 dX8_textAt_1 rfl rfl ri (fun c10 => ?_) (fun c10 => ?_)
      · refine g_null 11 dX8_textAt_10 rfl ?_
        refine g_goto 20 dX8_textAt_11 rfl ?_
        refine g_aret rfl (Or.inl rfl) dX8_textAt_20 ?_
        refine rN ?_
        refine g_astoreN (L1 := [some (.ref 0), some (.int (iZ a)), some (.int (iZ b)), some (.int (iZ i)), some (.null), some (.null), some (.null)]) 21 dX8_round_19 (by decide) rfl rfl rfl ?_
        refine g_aloadN 23 dX8_round_21 rfl rfl ?_
        refine g_ifnullN 36 dX8_round_23 rfl ?_
        refine g_iconst (v := iZ (-1)) 37 dX8_round_36 rfl rfl ?_
        refine g_iret rfl dX8_round_37 ?_
        exact kq _ _ rfl (Sx.refl _ _)
      · refine g_iload_n 5 dX8_textAt_4 rfl rfl ?_
        refine g_bipush (v := iZ (8)) 7 dX8_textAt_5 (by decide +kernel) rfl ?_
        refine g_icZ_lt 14 10 dX8_textAt_7 rfl rfl ri (by decide) (fun c11 => ?_) (fun c11 => ?_)
        · refine g_aload_n 15 dX8_textAt_14 rfl rfl ?_
          refine g_get 18 dX8_textAt_15 faX8_16_X8 F.1 rfl rfl ?_
          refine g_iload_n 19 dX8_textAt_18 rfl rfl ?_
          refine g_aaldZ 20 dX8_textAt_19 F.2.2.2.1 (by decide) (by omega) (by omega) (by decide) (txs_at (by omega) (by omega)) rfl ?_
          refine g_aret rfl (Or.inr ⟨_, rfl⟩) dX8_textAt_20 ?_
          refine rR ?_
          refine g_astore (L1 := [some (.ref 0), some (.int (iZ a)), some (.int (iZ b)), some (.int (iZ i)), some (.null), some (.null), some (.ref (34 + 2 * i.toNat))]) 21 dX8_round_19 (by decide) rfl rfl rfl ?_
          refine g_aloadN 23 dX8_round_21 rfl rfl ?_
          refine g_ifnullN 36 dX8_round_23 rfl ?_
          refine g_iconst (v := iZ (-1)) 37 dX8_round_36 rfl rfl ?_
          refine g_iret rfl dX8_round_37 ?_
          exact kq _ _ rfl (Sx.refl _ _)
        · refine g_null 11 dX8_textAt_10 rfl ?_
          refine g_goto 20 dX8_textAt_11 rfl ?_
          refine g_aret rfl (Or.inl rfl) dX8_textAt_20 ?_
          refine rN ?_
          refine g_astoreN (L1 := [some (.ref 0), some (.int (iZ a)), some (.int (iZ b)), some (.int (iZ i)), some (.null), some (.null), some (.null)]) 21 dX8_round_19 (by decide) rfl rfl rfl ?_
          refine g_aloadN 23 dX8_round_21 rfl rfl ?_
          refine g_ifnullN 36 dX8_round_23 rfl ?_
          refine g_iconst (v := iZ (-1)) 37 dX8_round_36 rfl rfl ?_
          refine g_iret rfl dX8_round_37 ?_
          exact kq _ _ rfl (Sx.refl _ _)
set_option maxRecDepth 100000 in
theorem q8_hides {l : Launch} {h : MH} (F : FX h) (a : Int) (b : Int) (i : Int) (ra : rg a) (rb : rg b) (ri : rg i) {Q : Option Value → MH → Prop} (kq : ∀ (h1 : MH) (r : Int), r = -1 → Sx 50 h h1 → Q (some (.int (iZ r))) h1) : Go l mX8_hides 0 [some (.ref 0), some (.int (iZ a)), some (.int (iZ b)), some (.int (iZ i)), none, none, none, none] [] h Q := by
  refine g_aload_n 1 dX8_hides_0 rfl rfl ?_
  refine g_iload_n 2 dX8_hides_1 rfl rfl ?_
  refine g_callV (z := mX8_toolAt) (As := [.int (iZ a)]) 5 dX8_hides_2 mwX8_toolAt ⟨by decide, by decide⟩ rfl wlX8_90 wiX8_toolAt wsX8_toolAt F.1 rfl rfl rfl (nle rfl) (nle rfl) rfl ?_
  refine Go.to [some (.ref 0), some (.int (iZ a))] [] rfl rfl ?_
  refine g_iload_n 1 dX8_toolAt_0 rfl rfl ?_
  refine g_ifZ_lt 18 4 dX8_toolAt_1 rfl rfl ra (fun c1 => ?_) (fun c1 => ?_)
  · refine g_null 19 dX8_toolAt_18 rfl ?_
    refine g_goto 28 dX8_toolAt_19 rfl ?_
    refine g_aret rfl (Or.inl rfl) dX8_toolAt_28 ?_
    refine rN ?_
    refine g_astoreN (L1 := [some (.ref 0), some (.int (iZ a)), some (.int (iZ b)), some (.int (iZ i)), some (.null), none, none, none]) 7 dX8_hides_5 (by decide) rfl rfl rfl ?_
    refine g_aload_n 8 dX8_hides_7 rfl rfl ?_
    refine g_iload_n 9 dX8_hides_8 rfl rfl ?_
    refine g_callV (z := mX8_toolAt) (As := [.int (iZ b)]) 12 dX8_hides_9 mwX8_toolAt ⟨by decide, by decide⟩ rfl wlX8_90 wiX8_toolAt wsX8_toolAt F.1 rfl rfl rfl (nle rfl) (nle rfl) rfl ?_
    refine Go.to [some (.ref 0), some (.int (iZ b))] [] rfl rfl ?_
    refine g_iload_n 1 dX8_toolAt_0 rfl rfl ?_
    refine g_ifZ_lt 18 4 dX8_toolAt_1 rfl rfl rb (fun c2 => ?_) (fun c2 => ?_)
    · refine g_null 19 dX8_toolAt_18 rfl ?_
      refine g_goto 28 dX8_toolAt_19 rfl ?_
      refine g_aret rfl (Or.inl rfl) dX8_toolAt_28 ?_
      refine rN ?_
      refine g_astoreN (L1 := [some (.ref 0), some (.int (iZ a)), some (.int (iZ b)), some (.int (iZ i)), some (.null), some (.null), none, none]) 14 dX8_hides_12 (by decide) rfl rfl rfl ?_
      refine g_aload_n 15 dX8_hides_14 rfl rfl ?_
      refine g_iload_n 16 dX8_hides_15 rfl rfl ?_
      refine g_callV (z := mX8_textAt) (As := [.int (iZ i)]) 19 dX8_hides_16 mwX8_textAt ⟨by decide, by decide⟩ rfl wlX8_74 wiX8_textAt wsX8_textAt F.1 rfl rfl rfl (nle rfl) (nle rfl) rfl ?_
      refine Go.to [some (.ref 0), some (.int (iZ i))] [] rfl rfl ?_
      refine g_iload_n 1 dX8_textAt_0 rfl rfl ?_
      refine g_ifZ_lt 10 4 dX8_textAt_1 rfl rfl ri (fun c3 => ?_) (fun c3 => ?_)
      · refine g_null 11 dX8_textAt_10 rfl ?_
        refine g_goto 20 dX8_textAt_11 rfl ?_
        refine g_aret rfl (Or.inl rfl) dX8_textAt_20 ?_
        refine rN ?_
        refine g_astoreN (L1 := [some (.ref 0), some (.int (iZ a)), some (.int (iZ b)), some (.int (iZ i)), some (.null), some (.null), some (.null), none]) 21 dX8_hides_19 (by decide) rfl rfl rfl ?_
        refine g_aloadN 23 dX8_hides_21 rfl rfl ?_
        refine g_ifnullN 36 dX8_hides_23 rfl ?_
        refine g_iconst (v := iZ (-1)) 37 dX8_hides_36 rfl rfl ?_
        refine g_iret rfl dX8_hides_37 ?_
        exact kq _ _ rfl (Sx.refl _ _)
      · refine g_iload_n 5 dX8_textAt_4 rfl rfl ?_
        refine g_bipush (v := iZ (8)) 7 dX8_textAt_5 (by decide +kernel) rfl ?_
        refine g_icZ_lt 14 10 dX8_textAt_7 rfl rfl ri (by decide) (fun c4 => ?_) (fun c4 => ?_)
        · refine g_aload_n 15 dX8_textAt_14 rfl rfl ?_
          refine g_get 18 dX8_textAt_15 faX8_16_X8 F.1 rfl rfl ?_
          refine g_iload_n 19 dX8_textAt_18 rfl rfl ?_
          refine g_aaldZ 20 dX8_textAt_19 F.2.2.2.1 (by decide) (by omega) (by omega) (by decide) (txs_at (by omega) (by omega)) rfl ?_
          refine g_aret rfl (Or.inr ⟨_, rfl⟩) dX8_textAt_20 ?_
          refine rR ?_
          refine g_astore (L1 := [some (.ref 0), some (.int (iZ a)), some (.int (iZ b)), some (.int (iZ i)), some (.null), some (.null), some (.ref (34 + 2 * i.toNat)), none]) 21 dX8_hides_19 (by decide) rfl rfl rfl ?_
          refine g_aloadN 23 dX8_hides_21 rfl rfl ?_
          refine g_ifnullN 36 dX8_hides_23 rfl ?_
          refine g_iconst (v := iZ (-1)) 37 dX8_hides_36 rfl rfl ?_
          refine g_iret rfl dX8_hides_37 ?_
          exact kq _ _ rfl (Sx.refl _ _)
        · refine g_null 11 dX8_textAt_10 rfl ?_
          refine g_goto 20 dX8_textAt_11 rfl ?_
          refine g_aret rfl (Or.inl rfl) dX8_textAt_20 ?_
          refine rN ?_
          refine g_astoreN (L1 := [some (.ref 0), some (.int (iZ a)), some (.int (iZ b)), some (.int (iZ i)), some (.null), some (.null), some (.null), none]) 21 dX8_hides_19 (by decide) rfl rfl rfl ?_
          refine g_aloadN 23 dX8_hides_21 rfl rfl ?_
          refine g_ifnullN 36 dX8_hides_23 rfl ?_
          refine g_iconst (v := iZ (-1)) 37 dX8_hides_36 rfl rfl ?_
          refine g_iret rfl dX8_hides_37 ?_
          exact kq _ _ rfl (Sx.refl _ _)
    · refine g_iload_n 5 dX8_toolAt_4 rfl rfl ?_
      refine g_aload_n 6 dX8_toolAt_5 rfl rfl ?_
      refine g_get 9 dX8_toolAt_6 faX8_26_X8 F.1 rfl rfl ?_
      refine g_icZ_ge 18 12 dX8_toolAt_9 rfl rfl rb (by decide) (fun _ => ?_) (fun q => absurd q (by omega))
      refine g_null 19 dX8_toolAt_18 rfl ?_
      refine g_goto 28 dX8_toolAt_19 rfl ?_
      refine g_aret rfl (Or.inl rfl) dX8_toolAt_28 ?_
      refine rN ?_
      refine g_astoreN (L1 := [some (.ref 0), some (.int (iZ a)), some (.int (iZ b)), some (.int (iZ i)), some (.null), some (.null), none, none]) 14 dX8_hides_12 (by decide) rfl rfl rfl ?_
      refine g_aload_n 15 dX8_hides_14 rfl rfl ?_
      refine g_iload_n 16 dX8_hides_15 rfl rfl ?_
      refine g_callV (z := mX8_textAt) (As := [.int (iZ i)]) 19 dX8_hides_16 mwX8_textAt ⟨by decide, by decide⟩ rfl wlX8_74 wiX8_textAt wsX8_textAt F.1 rfl rfl rfl (nle rfl) (nle rfl) rfl ?_
      refine Go.to [some (.ref 0), some (.int (iZ i))] [] rfl rfl ?_
      refine g_iload_n 1 dX8_textAt_0 rfl rfl ?_
      refine g_ifZ_lt 10 4 dX8_textAt_1 rfl rfl ri (fun c5 => ?_) (fun c5 => ?_)
      · refine g_null 11 dX8_textAt_10 rfl ?_
        refine g_goto 20 dX8_textAt_11 rfl ?_
        refine g_aret rfl (Or.inl rfl) dX8_textAt_20 ?_
        refine rN ?_
        refine g_astoreN (L1 := [some (.ref 0), some (.int (iZ a)), some (.int (iZ b)), some (.int (iZ i)), some (.null), some (.null), some (.null), none]) 21 dX8_hides_19 (by decide) rfl rfl rfl ?_
        refine g_aloadN 23 dX8_hides_21 rfl rfl ?_
        refine g_ifnullN 36 dX8_hides_23 rfl ?_
        refine g_iconst (v := iZ (-1)) 37 dX8_hides_36 rfl rfl ?_
        refine g_iret rfl dX8_hides_37 ?_
        exact kq _ _ rfl (Sx.refl _ _)
      · refine g_iload_n 5 dX8_textAt_4 rfl rfl ?_
        refine g_bipush (v := iZ (8)) 7 dX8_textAt_5 (by decide +kernel) rfl ?_
        refine g_icZ_lt 14 10 dX8_textAt_7 rfl rfl ri (by decide) (fun c6 => ?_) (fun c6 => ?_)
        · refine g_aload_n 15 dX8_textAt_14 rfl rfl ?_
          refine g_get 18 dX8_textAt_15 faX8_16_X8 F.1 rfl rfl ?_
          refine g_iload_n 19 dX8_textAt_18 rfl rfl ?_
          refine g_aaldZ 20 dX8_textAt_19 F.2.2.2.1 (by decide) (by omega) (by omega) (by decide) (txs_at (by omega) (by omega)) rfl ?_
          refine g_aret rfl (Or.inr ⟨_, rfl⟩) dX8_textAt_20 ?_
          refine rR ?_
          refine g_astore (L1 := [some (.ref 0), some (.int (iZ a)), some (.int (iZ b)), some (.int (iZ i)), some (.null), some (.null), some (.ref (34 + 2 * i.toNat)), none]) 21 dX8_hides_19 (by decide) rfl rfl rfl ?_
          refine g_aloadN 23 dX8_hides_21 rfl rfl ?_
          refine g_ifnullN 36 dX8_hides_23 rfl ?_
          refine g_iconst (v := iZ (-1)) 37 dX8_hides_36 rfl rfl ?_
          refine g_iret rfl dX8_hides_37 ?_
          exact kq _ _ rfl (Sx.refl _ _)
        · refine g_null 11 dX8_textAt_10 rfl ?_
          refine g_goto 20 dX8_textAt_11 rfl ?_
          refine g_aret rfl (Or.inl rfl) dX8_textAt_20 ?_
          refine rN ?_
          refine g_astoreN (L1 := [some (.ref 0), some (.int (iZ a)), some (.int (iZ b)), some (.int (iZ i)), some (.null), some (.null), some (.null), none]) 21 dX8_hides_19 (by decide) rfl rfl rfl ?_
          refine g_aloadN 23 dX8_hides_21 rfl rfl ?_
          refine g_ifnullN 36 dX8_hides_23 rfl ?_
          refine g_iconst (v := iZ (-1)) 37 dX8_hides_36 rfl rfl ?_
          refine g_iret rfl dX8_hides_37 ?_
          exact kq _ _ rfl (Sx.refl _ _)
  · refine g_iload_n 5 dX8_toolAt_4 rfl rfl ?_
    refine g_aload_n 6 dX8_toolAt_5 rfl rfl ?_
    refine g_get 9 dX8_toolAt_6 faX8_26_X8 F.1 rfl rfl ?_
    refine g_icZ_ge 18 12 dX8_toolAt_9 rfl rfl ra (by decide) (fun _ => ?_) (fun q => absurd q (by omega))
    refine g_null 19 dX8_toolAt_18 rfl ?_
    refine g_goto 28 dX8_toolAt_19 rfl ?_
    refine g_aret rfl (Or.inl rfl) dX8_toolAt_28 ?_
    refine rN ?_
    refine g_astoreN (L1 := [some (.ref 0), some (.int (iZ a)), some (.int (iZ b)), some (.int (iZ i)), some (.null), none, none, none]) 7 dX8_hides_5 (by decide) rfl rfl rfl ?_
    refine g_aload_n 8 dX8_hides_7 rfl rfl ?_
    refine g_iload_n 9 dX8_hides_8 rfl rfl ?_
    refine g_callV (z := mX8_toolAt) (As := [.int (iZ b)]) 12 dX8_hides_9 mwX8_toolAt ⟨by decide, by decide⟩ rfl wlX8_90 wiX8_toolAt wsX8_toolAt F.1 rfl rfl rfl (nle rfl) (nle rfl) rfl ?_
    refine Go.to [some (.ref 0), some (.int (iZ b))] [] rfl rfl ?_
    refine g_iload_n 1 dX8_toolAt_0 rfl rfl ?_
    refine g_ifZ_lt 18 4 dX8_toolAt_1 rfl rfl rb (fun c7 => ?_) (fun c7 => ?_)
    · refine g_null 19 dX8_toolAt_18 rfl ?_
      refine g_goto 28 dX8_toolAt_19 rfl ?_
      refine g_aret rfl (Or.inl rfl) dX8_toolAt_28 ?_
      refine rN ?_
      refine g_astoreN (L1 := [some (.ref 0), some (.int (iZ a)), some (.int (iZ b)), some (.int (iZ i)), some (.null), some (.null), none, none]) 14 dX8_hides_12 (by decide) rfl rfl rfl ?_
      refine g_aload_n 15 dX8_hides_14 rfl rfl ?_
      refine g_iload_n 16 dX8_hides_15 rfl rfl ?_
      refine g_callV (z := mX8_textAt) (As := [.int (iZ i)]) 19 dX8_hides_16 mwX8_textAt ⟨by decide, by decide⟩ rfl wlX8_74 wiX8_textAt wsX8_textAt F.1 rfl rfl rfl (nle rfl) (nle rfl) rfl ?_
      refine Go.to [some (.ref 0), some (.int (iZ i))] [] rfl rfl ?_
      refine g_iload_n 1 dX8_textAt_0 rfl rfl ?_
      refine g_ifZ_lt 10 4 dX8_textAt_1 rfl rfl ri (fun c8 => ?_) (fun c8 => ?_)
      · refine g_null 11 dX8_textAt_10 rfl ?_
        refine g_goto 20 dX8_textAt_11 rfl ?_
        refine g_aret rfl (Or.inl rfl) dX8_textAt_20 ?_
        refine rN ?_
        refine g_astoreN (L1 := [some (.ref 0), some (.int (iZ a)), some (.int (iZ b)), some (.int (iZ i)), some (.null), some (.null), some (.null), none]) 21 dX8_hides_19 (by decide) rfl rfl rfl ?_
        refine g_aloadN 23 dX8_hides_21 rfl rfl ?_
        refine g_ifnullN 36 dX8_hides_23 rfl ?_
        refine g_iconst (v := iZ (-1)) 37 dX8_hides_36 rfl rfl ?_
        refine g_iret rfl dX8_hides_37 ?_
        exact kq _ _ rfl (Sx.refl _ _)
      · refine g_iload_n 5 dX8_textAt_4 rfl rfl ?_
        refine g_bipush (v := iZ (8)) 7 dX8_textAt_5 (by decide +kernel) rfl ?_
        refine g_icZ_lt 14 10 dX8_textAt_7 rfl rfl ri (by decide) (fun c9 => ?_) (fun c9 => ?_)
        · refine g_aload_n 15 dX8_textAt_14 rfl rfl ?_
          refine g_get 18 dX8_textAt_15 faX8_16_X8 F.1 rfl rfl ?_
          refine g_iload_n 19 dX8_textAt_18 rfl rfl ?_
          refine g_aaldZ 20 dX8_textAt_19 F.2.2.2.1 (by decide) (by omega) (by omega) (by decide) (txs_at (by omega) (by omega)) rfl ?_
          refine g_aret rfl (Or.inr ⟨_, rfl⟩) dX8_textAt_20 ?_
          refine rR ?_
          refine g_astore (L1 := [some (.ref 0), some (.int (iZ a)), some (.int (iZ b)), some (.int (iZ i)), some (.null), some (.null), some (.ref (34 + 2 * i.toNat)), none]) 21 dX8_hides_19 (by decide) rfl rfl rfl ?_
          refine g_aloadN 23 dX8_hides_21 rfl rfl ?_
          refine g_ifnullN 36 dX8_hides_23 rfl ?_
          refine g_iconst (v := iZ (-1)) 37 dX8_hides_36 rfl rfl ?_
          refine g_iret rfl dX8_hides_37 ?_
          exact kq _ _ rfl (Sx.refl _ _)
        · refine g_null 11 dX8_textAt_10 rfl ?_
          refine g_goto 20 dX8_textAt_11 rfl ?_
          refine g_aret rfl (Or.inl rfl) dX8_textAt_20 ?_
          refine rN ?_
          refine g_astoreN (L1 := [some (.ref 0), some (.int (iZ a)), some (.int (iZ b)), some (.int (iZ i)), some (.null), some (.null), some (.null), none]) 21 dX8_hides_19 (by decide) rfl rfl rfl ?_
          refine g_aloadN 23 dX8_hides_21 rfl rfl ?_
          refine g_ifnullN 36 dX8_hides_23 rfl ?_
          refine g_iconst (v := iZ (-1)) 37 dX8_hides_36 rfl rfl ?_
          refine g_iret rfl dX8_hides_37 ?_
          exact kq _ _ rfl (Sx.refl _ _)
    · refine g_iload_n 5 dX8_toolAt_4 rfl rfl ?_
      refine g_aload_n 6 dX8_toolAt_5 rfl rfl ?_
      refine g_get 9 dX8_toolAt_6 faX8_26_X8 F.1 rfl rfl ?_
      refine g_icZ_ge 18 12 dX8_toolAt_9 rfl rfl rb (by decide) (fun _ => ?_) (fun q => absurd q (by omega))
      refine g_null 19 dX8_toolAt_18 rfl ?_
      refine g_goto 28 dX8_toolAt_19 rfl ?_
      refine g_aret rfl (Or.inl rfl) dX8_toolAt_28 ?_
      refine rN ?_
      refine g_astoreN (L1 := [some (.ref 0), some (.int (iZ a)), some (.int (iZ b)), some (.int (iZ i)), some (.null), some (.null), none, none]) 14 dX8_hides_12 (by decide) rfl rfl rfl ?_
      refine g_aload_n 15 dX8_hides_14 rfl rfl ?_
      refine g_iload_n 16 dX8_hides_15 rfl rfl ?_
      refine g_callV (z := mX8_textAt) (As := [.int (iZ i)]) 19 dX8_hides_16 mwX8_textAt ⟨by decide, by decide⟩ rfl wlX8_74 wiX8_textAt wsX8_textAt F.1 rfl rfl rfl (nle rfl) (nle rfl) rfl ?_
      refine Go.to [some (.ref 0), some (.int (iZ i))] [] rfl rfl ?_
      refine g_iload_n 1 dX8_textAt_0 rfl rfl ?_
      refine g_ifZ_lt 10 4 dX8_textAt_1 rfl rfl ri (fun c10 => ?_) (fun c10 => ?_)
      · refine g_null 11 dX8_textAt_10 rfl ?_
        refine g_goto 20 dX8_textAt_11 rfl ?_
        refine g_aret rfl (Or.inl rfl) dX8_textAt_20 ?_
        refine rN ?_
        refine g_astoreN (L1 := [some (.ref 0), some (.int (iZ a)), some (.int (iZ b)), some (.int (iZ i)), some (.null), some (.null), some (.null), none]) 21 dX8_hides_19 (by decide) rfl rfl rfl ?_
        refine g_aloadN 23 dX8_hides_21 rfl rfl ?_
        refine g_ifnullN 36 dX8_hides_23 rfl ?_
        refine g_iconst (v := iZ (-1)) 37 dX8_hides_36 rfl rfl ?_
        refine g_iret rfl dX8_hides_37 ?_
        exact kq _ _ rfl (Sx.refl _ _)
      · refine g_iload_n 5 dX8_textAt_4 rfl rfl ?_
        refine g_bipush (v := iZ (8)) 7 dX8_textAt_5 (by decide +kernel) rfl ?_
        refine g_icZ_lt 14 10 dX8_textAt_7 rfl rfl ri (by decide) (fun c11 => ?_) (fun c11 => ?_)
        · refine g_aload_n 15 dX8_textAt_14 rfl rfl ?_
          refine g_get 18 dX8_textAt_15 faX8_16_X8 F.1 rfl rfl ?_
          refine g_iload_n 19 dX8_textAt_18 rfl rfl ?_
          refine g_aaldZ 20 dX8_textAt_19 F.2.2.2.1 (by decide) (by omega) (by omega) (by decide) (txs_at (by omega) (by omega)) rfl ?_
          refine g_aret rfl (Or.inr ⟨_, rfl⟩) dX8_textAt_20 ?_
          refine rR ?_
          refine g_astore (L1 := [some (.ref 0), some (.int (iZ a)), some (.int (iZ b)), some (.int (iZ i)), some (.null), some (.null), some (.ref (34 + 2 * i.toNat)), none]) 21 dX8_hides_19 (by decide) rfl rfl rfl ?_
          refine g_aloadN 23 dX8_hides_21 rfl rfl ?_
          refine g_ifnullN 36 dX8_hides_23 rfl ?_
          refine g_iconst (v := iZ (-1)) 37 dX8_hides_36 rfl rfl ?_
          refine g_iret rfl dX8_hides_37 ?_
          exact kq _ _ rfl (Sx.refl _ _)
        · refine g_null 11 dX8_textAt_10 rfl ?_
          refine g_goto 20 dX8_textAt_11 rfl ?_
          refine g_aret rfl (Or.inl rfl) dX8_textAt_20 ?_
          refine rN ?_
          refine g_astoreN (L1 := [some (.ref 0), some (.int (iZ a)), some (.int (iZ b)), some (.int (iZ i)), some (.null), some (.null), some (.null), none]) 21 dX8_hides_19 (by decide) rfl rfl rfl ?_
          refine g_aloadN 23 dX8_hides_21 rfl rfl ?_
          refine g_ifnullN 36 dX8_hides_23 rfl ?_
          refine g_iconst (v := iZ (-1)) 37 dX8_hides_36 rfl rfl ?_
          refine g_iret rfl dX8_hides_37 ?_
          exact kq _ _ rfl (Sx.refl _ _)
set_option maxRecDepth 100000 in
theorem q8_check {l : Launch} {h : MH} (F : FX h) (t : Int) (i : Int) (rt : rg t) (ri : rg i) {Q : Option Value → MH → Prop} (kq : ∀ (h1 : MH) (r : Int), r = -1 → Sx 50 h h1 → Q (some (.int (iZ r))) h1) : Go l mX8_check 0 [some (.ref 0), some (.int (iZ t)), some (.int (iZ i)), none, none] [] h Q := by
  refine g_aload_n 1 dX8_check_0 rfl rfl ?_
  refine g_iload_n 2 dX8_check_1 rfl rfl ?_
  refine g_callV (z := mX8_toolAt) (As := [.int (iZ t)]) 5 dX8_check_2 mwX8_toolAt ⟨by decide, by decide⟩ rfl wlX8_90 wiX8_toolAt wsX8_toolAt F.1 rfl rfl rfl (nle rfl) (nle rfl) rfl ?_
  refine Go.to [some (.ref 0), some (.int (iZ t))] [] rfl rfl ?_
  refine g_iload_n 1 dX8_toolAt_0 rfl rfl ?_
  refine g_ifZ_lt 18 4 dX8_toolAt_1 rfl rfl rt (fun c1 => ?_) (fun c1 => ?_)
  · refine g_null 19 dX8_toolAt_18 rfl ?_
    refine g_goto 28 dX8_toolAt_19 rfl ?_
    refine g_aret rfl (Or.inl rfl) dX8_toolAt_28 ?_
    refine rN ?_
    refine g_astore_nN (L1 := [some (.ref 0), some (.int (iZ t)), some (.int (iZ i)), some (.null), none]) 6 dX8_check_5 (by decide) rfl rfl rfl ?_
    refine g_aload_nN 7 dX8_check_6 rfl rfl ?_
    refine g_ifnullN 19 dX8_check_7 rfl ?_
    refine g_iconst (v := iZ (-1)) 20 dX8_check_19 rfl rfl ?_
    refine g_iret rfl dX8_check_20 ?_
    exact kq _ _ rfl (Sx.refl _ _)
  · refine g_iload_n 5 dX8_toolAt_4 rfl rfl ?_
    refine g_aload_n 6 dX8_toolAt_5 rfl rfl ?_
    refine g_get 9 dX8_toolAt_6 faX8_26_X8 F.1 rfl rfl ?_
    refine g_icZ_ge 18 12 dX8_toolAt_9 rfl rfl rt (by decide) (fun _ => ?_) (fun q => absurd q (by omega))
    refine g_null 19 dX8_toolAt_18 rfl ?_
    refine g_goto 28 dX8_toolAt_19 rfl ?_
    refine g_aret rfl (Or.inl rfl) dX8_toolAt_28 ?_
    refine rN ?_
    refine g_astore_nN (L1 := [some (.ref 0), some (.int (iZ t)), some (.int (iZ i)), some (.null), none]) 6 dX8_check_5 (by decide) rfl rfl rfl ?_
    refine g_aload_nN 7 dX8_check_6 rfl rfl ?_
    refine g_ifnullN 19 dX8_check_7 rfl ?_
    refine g_iconst (v := iZ (-1)) 20 dX8_check_19 rfl rfl ?_
    refine g_iret rfl dX8_check_20 ?_
    exact kq _ _ rfl (Sx.refl _ _)
set_option maxRecDepth 100000 in
theorem q8_chain {l : Launch} {h : MH} (F : FX h) (t : Int) (k : Int) (rt : rg t) (rk : rg k) {Q : Option Value → MH → Prop} (kq : ∀ (h1 : MH) (r : Int), r = -1 → Sx 50 h h1 → Q (some (.int (iZ r))) h1) : Go l mX8_chain 0 [some (.ref 0), some (.int (iZ t)), some (.int (iZ k)), none] [] h Q := by
  refine g_aload_n 1 dX8_chain_0 rfl rfl ?_
  refine g_iload_n 2 dX8_chain_1 rfl rfl ?_
  refine g_callV (z := mX8_toolAt) (As := [.int (iZ t)]) 5 dX8_chain_2 mwX8_toolAt ⟨by decide, by decide⟩ rfl wlX8_90 wiX8_toolAt wsX8_toolAt F.1 rfl rfl rfl (nle rfl) (nle rfl) rfl ?_
  refine Go.to [some (.ref 0), some (.int (iZ t))] [] rfl rfl ?_
  refine g_iload_n 1 dX8_toolAt_0 rfl rfl ?_
  refine g_ifZ_lt 18 4 dX8_toolAt_1 rfl rfl rt (fun c1 => ?_) (fun c1 => ?_)
  · refine g_null 19 dX8_toolAt_18 rfl ?_
    refine g_goto 28 dX8_toolAt_19 rfl ?_
    refine g_aret rfl (Or.inl rfl) dX8_toolAt_28 ?_
    refine rN ?_
    refine g_ifnonnullN 8 dX8_chain_5 rfl ?_
    refine g_iconst (v := iZ (-1)) 9 dX8_chain_8 rfl rfl ?_
    refine g_iret rfl dX8_chain_9 ?_
    exact kq _ _ rfl (Sx.refl _ _)
  · refine g_iload_n 5 dX8_toolAt_4 rfl rfl ?_
    refine g_aload_n 6 dX8_toolAt_5 rfl rfl ?_
    refine g_get 9 dX8_toolAt_6 faX8_26_X8 F.1 rfl rfl ?_
    refine g_icZ_ge 18 12 dX8_toolAt_9 rfl rfl rt (by decide) (fun _ => ?_) (fun q => absurd q (by omega))
    refine g_null 19 dX8_toolAt_18 rfl ?_
    refine g_goto 28 dX8_toolAt_19 rfl ?_
    refine g_aret rfl (Or.inl rfl) dX8_toolAt_28 ?_
    refine rN ?_
    refine g_ifnonnullN 8 dX8_chain_5 rfl ?_
    refine g_iconst (v := iZ (-1)) 9 dX8_chain_8 rfl rfl ?_
    refine g_iret rfl dX8_chain_9 ?_
    exact kq _ _ rfl (Sx.refl _ _)
set_option maxRecDepth 100000 in
theorem q8_sealed {l : Launch} {h : MH} (F : FX h) (t : Int) (rt : rg t) {Q : Option Value → MH → Prop} (kq : ∀ (h1 : MH) (r : Int), r = -1 → Sx 50 h h1 → Q (some (.int (iZ r))) h1) : Go l mX8_sealed 0 [some (.ref 0), some (.int (iZ t))] [] h Q := by
  refine g_aload_n 1 dX8_sealed_0 rfl rfl ?_
  refine g_iload_n 2 dX8_sealed_1 rfl rfl ?_
  refine g_callV (z := mX8_toolAt) (As := [.int (iZ t)]) 5 dX8_sealed_2 mwX8_toolAt ⟨by decide, by decide⟩ rfl wlX8_90 wiX8_toolAt wsX8_toolAt F.1 rfl rfl rfl (nle rfl) (nle rfl) rfl ?_
  refine Go.to [some (.ref 0), some (.int (iZ t))] [] rfl rfl ?_
  refine g_iload_n 1 dX8_toolAt_0 rfl rfl ?_
  refine g_ifZ_lt 18 4 dX8_toolAt_1 rfl rfl rt (fun c1 => ?_) (fun c1 => ?_)
  · refine g_null 19 dX8_toolAt_18 rfl ?_
    refine g_goto 28 dX8_toolAt_19 rfl ?_
    refine g_aret rfl (Or.inl rfl) dX8_toolAt_28 ?_
    refine rN ?_
    refine g_ifnonnullN 8 dX8_sealed_5 rfl ?_
    refine g_iconst (v := iZ (-1)) 9 dX8_sealed_8 rfl rfl ?_
    refine g_iret rfl dX8_sealed_9 ?_
    exact kq _ _ rfl (Sx.refl _ _)
  · refine g_iload_n 5 dX8_toolAt_4 rfl rfl ?_
    refine g_aload_n 6 dX8_toolAt_5 rfl rfl ?_
    refine g_get 9 dX8_toolAt_6 faX8_26_X8 F.1 rfl rfl ?_
    refine g_icZ_ge 18 12 dX8_toolAt_9 rfl rfl rt (by decide) (fun _ => ?_) (fun q => absurd q (by omega))
    refine g_null 19 dX8_toolAt_18 rfl ?_
    refine g_goto 28 dX8_toolAt_19 rfl ?_
    refine g_aret rfl (Or.inl rfl) dX8_toolAt_28 ?_
    refine rN ?_
    refine g_ifnonnullN 8 dX8_sealed_5 rfl ?_
    refine g_iconst (v := iZ (-1)) 9 dX8_sealed_8 rfl rfl ?_
    refine g_iret rfl dX8_sealed_9 ?_
    exact kq _ _ rfl (Sx.refl _ _)
set_option maxRecDepth 100000 in
theorem q8_least {l : Launch} {h : MH} (F : FX h) (z : Int) (rz : rg z) {Q : Option Value → MH → Prop} (kq : ∀ (h1 : MH) (r : Int), r = a_least z → Sx 50 h h1 → Q (some (.int (iZ r))) h1) : Go l mX8_least 0 [some (.ref 0), some (.int (iZ z)), none, none, none, none, none] [] h Q := by
  refine g_iload_n 1 dX8_least_0 rfl rfl ?_
  refine g_ifZ_lt 14 4 dX8_least_1 rfl rfl rz (fun c1 => ?_) (fun c1 => ?_)
  · refine g_iconst (v := iZ (-1)) 15 dX8_least_14 rfl rfl ?_
    refine g_iret rfl dX8_least_15 ?_
    exact kq _ _ (by unfold a_least; split <;> omega) (Sx.refl _ _)
  · refine g_iload_n 5 dX8_least_4 rfl rfl ?_
    refine g_iconst (v := iZ (1)) 6 dX8_least_5 rfl rfl ?_
    refine g_aload_n 7 dX8_least_6 rfl rfl ?_
    refine g_get 10 dX8_least_7 faX8_26_X8 F.1 rfl rfl ?_
    refine g_ishlZ (1) 11 dX8_least_10 (by decide +kernel) rfl ?_
    refine g_icZ_lt 16 14 dX8_least_11 rfl rfl rz (by decide) (fun c2 => ?_) (fun c2 => ?_)
    · have hz0 : z = 0 := by omega
      subst hz0
      refine g_iload_n 17 dX8_least_16 rfl rfl ?_
      refine g_aload_n 18 dX8_least_17 rfl rfl ?_
      refine g_callV (z := mX8_staleBits) (As := []) 21 dX8_least_18 mwX8_staleBits ⟨by decide, by decide⟩ rfl wlX8_158 wiX8_staleBits wsX8_staleBits F.1 rfl rfl rfl (nle rfl) (nle rfl) rfl ?_
      refine Go.to [some (.ref 0), none, none, none] [] rfl rfl ?_
      refine g_iconst (v := iZ (0)) 1 dX8_staleBits_0 rfl rfl ?_
      refine g_istore_n (L1 := [some (.ref 0), some (.int (iZ 0)), none, none]) 2 dX8_staleBits_1 (by decide) rfl rfl rfl ?_
      refine g_iconst (v := iZ (0)) 3 dX8_staleBits_2 rfl rfl ?_
      refine g_istore_n (L1 := [some (.ref 0), some (.int (iZ 0)), some (.int (iZ 0)), none]) 4 dX8_staleBits_3 (by decide) rfl rfl rfl ?_
      refine g_iload_n 5 dX8_staleBits_4 rfl rfl ?_
      refine g_aload_n 6 dX8_staleBits_5 rfl rfl ?_
      refine g_get 9 dX8_staleBits_6 faX8_26_X8 F.1 rfl rfl ?_
      refine g_icZ_ge 50 12 dX8_staleBits_9 rfl rfl (by decide) (by decide) (fun _ => ?_) (fun q => absurd q (by decide))
      refine g_iload_n 51 dX8_staleBits_50 rfl rfl ?_
      refine g_iret rfl dX8_staleBits_51 ?_
      refine rI ?_
      refine g_iconst (v := iZ (-1)) 22 dX8_least_21 rfl rfl ?_
      refine g_ixorZ (-1) 23 dX8_least_22 (by decide +kernel) rfl ?_
      refine g_iandZ (0) 24 dX8_least_23 (by decide +kernel) rfl ?_
      refine g_istore_n (L1 := [some (.ref 0), some (.int (iZ 0)), some (.int (iZ 0)), none, none, none, none]) 25 dX8_least_24 (by decide) rfl rfl rfl ?_
      refine g_iconst (v := iZ (0)) 26 dX8_least_25 rfl rfl ?_
      refine g_istore_n (L1 := [some (.ref 0), some (.int (iZ 0)), some (.int (iZ 0)), some (.int (iZ 0)), none, none, none]) 27 dX8_least_26 (by decide) rfl rfl rfl ?_
      refine g_iconst (v := iZ (0)) 28 dX8_least_27 rfl rfl ?_
      refine g_istore (L1 := [some (.ref 0), some (.int (iZ 0)), some (.int (iZ 0)), some (.int (iZ 0)), some (.int (iZ 0)), none, none]) 30 dX8_least_28 (by decide) rfl rfl rfl ?_
      refine g_iload 32 dX8_least_30 rfl rfl ?_
      refine g_bipush (v := iZ (12)) 34 dX8_least_32 (by decide +kernel) rfl ?_
      refine g_icZ_ge 96 37 dX8_least_34 rfl rfl (by decide) (by decide) (fun q => absurd q (by decide)) (fun _ => ?_)
      refine g_iload_n 38 dX8_least_37 rfl rfl ?_
      refine g_iload 40 dX8_least_38 rfl rfl ?_
      refine g_callS (z := mX8_hasBit) (As := [.int (iZ 0), .int (iZ 0)]) 43 dX8_least_40 mwX8_hasBit ⟨by decide, by decide⟩ rfl wlX8_180 wtX8_hasBit rfl (nle rfl) (nle rfl) rfl ?_
      refine Go.to [some (.int (iZ 0)), some (.int (iZ 0))] [] rfl rfl ?_
      refine g_iload_n 1 dX8_hasBit_0 rfl rfl ?_
      refine g_iload_n 2 dX8_hasBit_1 rfl rfl ?_
      refine g_ishrZ (0) 3 dX8_hasBit_2 (by decide +kernel) rfl ?_
      refine g_iconst (v := iZ (1)) 4 dX8_hasBit_3 rfl rfl ?_
      refine g_iandZ (0) 5 dX8_hasBit_4 (by decide +kernel) rfl ?_
      refine g_iconst (v := iZ (1)) 6 dX8_hasBit_5 rfl rfl ?_
      refine g_icZ_ne 13 9 dX8_hasBit_6 rfl rfl (by decide) (by decide) (fun _ => ?_) (fun q => absurd q (by decide))
      refine g_iconst (v := iZ (0)) 14 dX8_hasBit_13 rfl rfl ?_
      refine g_zret rfl z01_0 dX8_hasBit_14 ?_
      refine rI ?_
      refine g_ifZ_eq 90 46 dX8_least_43 rfl rfl (by decide) (fun _ => ?_) (fun q => absurd q (by decide))
      refine g_iincZ [some (.ref 0), some (.int (iZ 0)), some (.int (iZ 0)), some (.int (iZ 0)), some (.int (iZ 1)), none, none] 93 dX8_least_90 rfl rfl (by decide) rfl rfl rfl ?_
      refine g_goto 30 dX8_least_93 rfl ?_
      refine g_iload 32 dX8_least_30 rfl rfl ?_
      refine g_bipush (v := iZ (12)) 34 dX8_least_32 (by decide +kernel) rfl ?_
      refine g_icZ_ge 96 37 dX8_least_34 rfl rfl (by decide) (by decide) (fun q => absurd q (by decide)) (fun _ => ?_)
      refine g_iload_n 38 dX8_least_37 rfl rfl ?_
      refine g_iload 40 dX8_least_38 rfl rfl ?_
      refine g_callS (z := mX8_hasBit) (As := [.int (iZ 0), .int (iZ 1)]) 43 dX8_least_40 mwX8_hasBit ⟨by decide, by decide⟩ rfl wlX8_180 wtX8_hasBit rfl (nle rfl) (nle rfl) rfl ?_
      refine Go.to [some (.int (iZ 0)), some (.int (iZ 1))] [] rfl rfl ?_
      refine g_iload_n 1 dX8_hasBit_0 rfl rfl ?_
      refine g_iload_n 2 dX8_hasBit_1 rfl rfl ?_
      refine g_ishrZ (0) 3 dX8_hasBit_2 (by decide +kernel) rfl ?_
      refine g_iconst (v := iZ (1)) 4 dX8_hasBit_3 rfl rfl ?_
      refine g_iandZ (0) 5 dX8_hasBit_4 (by decide +kernel) rfl ?_
      refine g_iconst (v := iZ (1)) 6 dX8_hasBit_5 rfl rfl ?_
      refine g_icZ_ne 13 9 dX8_hasBit_6 rfl rfl (by decide) (by decide) (fun _ => ?_) (fun q => absurd q (by decide))
      refine g_iconst (v := iZ (0)) 14 dX8_hasBit_13 rfl rfl ?_
      refine g_zret rfl z01_0 dX8_hasBit_14 ?_
      refine rI ?_
      refine g_ifZ_eq 90 46 dX8_least_43 rfl rfl (by decide) (fun _ => ?_) (fun q => absurd q (by decide))
      refine g_iincZ [some (.ref 0), some (.int (iZ 0)), some (.int (iZ 0)), some (.int (iZ 0)), some (.int (iZ 2)), none, none] 93 dX8_least_90 rfl rfl (by decide) rfl rfl rfl ?_
      refine g_goto 30 dX8_least_93 rfl ?_
      refine g_iload 32 dX8_least_30 rfl rfl ?_
      refine g_bipush (v := iZ (12)) 34 dX8_least_32 (by decide +kernel) rfl ?_
      refine g_icZ_ge 96 37 dX8_least_34 rfl rfl (by decide) (by decide) (fun q => absurd q (by decide)) (fun _ => ?_)
      refine g_iload_n 38 dX8_least_37 rfl rfl ?_
      refine g_iload 40 dX8_least_38 rfl rfl ?_
      refine g_callS (z := mX8_hasBit) (As := [.int (iZ 0), .int (iZ 2)]) 43 dX8_least_40 mwX8_hasBit ⟨by decide, by decide⟩ rfl wlX8_180 wtX8_hasBit rfl (nle rfl) (nle rfl) rfl ?_
      refine Go.to [some (.int (iZ 0)), some (.int (iZ 2))] [] rfl rfl ?_
      refine g_iload_n 1 dX8_hasBit_0 rfl rfl ?_
      refine g_iload_n 2 dX8_hasBit_1 rfl rfl ?_
      refine g_ishrZ (0) 3 dX8_hasBit_2 (by decide +kernel) rfl ?_
      refine g_iconst (v := iZ (1)) 4 dX8_hasBit_3 rfl rfl ?_
      refine g_iandZ (0) 5 dX8_hasBit_4 (by decide +kernel) rfl ?_
      refine g_iconst (v := iZ (1)) 6 dX8_hasBit_5 rfl rfl ?_
      refine g_icZ_ne 13 9 dX8_hasBit_6 rfl rfl (by decide) (by decide) (fun _ => ?_) (fun q => absurd q (by decide))
      refine g_iconst (v := iZ (0)) 14 dX8_hasBit_13 rfl rfl ?_
      refine g_zret rfl z01_0 dX8_hasBit_14 ?_
      refine rI ?_
      refine g_ifZ_eq 90 46 dX8_least_43 rfl rfl (by decide) (fun _ => ?_) (fun q => absurd q (by decide))
      refine g_iincZ [some (.ref 0), some (.int (iZ 0)), some (.int (iZ 0)), some (.int (iZ 0)), some (.int (iZ 3)), none, none] 93 dX8_least_90 rfl rfl (by decide) rfl rfl rfl ?_
      refine g_goto 30 dX8_least_93 rfl ?_
      refine g_iload 32 dX8_least_30 rfl rfl ?_
      refine g_bipush (v := iZ (12)) 34 dX8_least_32 (by decide +kernel) rfl ?_
      refine g_icZ_ge 96 37 dX8_least_34 rfl rfl (by decide) (by decide) (fun q => absurd q (by decide)) (fun _ => ?_)
      refine g_iload_n 38 dX8_least_37 rfl rfl ?_
      refine g_iload 40 dX8_least_38 rfl rfl ?_
      refine g_callS (z := mX8_hasBit) (As := [.int (iZ 0), .int (iZ 3)]) 43 dX8_least_40 mwX8_hasBit ⟨by decide, by decide⟩ rfl wlX8_180 wtX8_hasBit rfl (nle rfl) (nle rfl) rfl ?_
      refine Go.to [some (.int (iZ 0)), some (.int (iZ 3))] [] rfl rfl ?_
      refine g_iload_n 1 dX8_hasBit_0 rfl rfl ?_
      refine g_iload_n 2 dX8_hasBit_1 rfl rfl ?_
      refine g_ishrZ (0) 3 dX8_hasBit_2 (by decide +kernel) rfl ?_
      refine g_iconst (v := iZ (1)) 4 dX8_hasBit_3 rfl rfl ?_
      refine g_iandZ (0) 5 dX8_hasBit_4 (by decide +kernel) rfl ?_
      refine g_iconst (v := iZ (1)) 6 dX8_hasBit_5 rfl rfl ?_
      refine g_icZ_ne 13 9 dX8_hasBit_6 rfl rfl (by decide) (by decide) (fun _ => ?_) (fun q => absurd q (by decide))
      refine g_iconst (v := iZ (0)) 14 dX8_hasBit_13 rfl rfl ?_
      refine g_zret rfl z01_0 dX8_hasBit_14 ?_
      refine rI ?_
      refine g_ifZ_eq 90 46 dX8_least_43 rfl rfl (by decide) (fun _ => ?_) (fun q => absurd q (by decide))
      refine g_iincZ [some (.ref 0), some (.int (iZ 0)), some (.int (iZ 0)), some (.int (iZ 0)), some (.int (iZ 4)), none, none] 93 dX8_least_90 rfl rfl (by decide) rfl rfl rfl ?_
      refine g_goto 30 dX8_least_93 rfl ?_
      refine g_iload 32 dX8_least_30 rfl rfl ?_
      refine g_bipush (v := iZ (12)) 34 dX8_least_32 (by decide +kernel) rfl ?_
      refine g_icZ_ge 96 37 dX8_least_34 rfl rfl (by decide) (by decide) (fun q => absurd q (by decide)) (fun _ => ?_)
      refine g_iload_n 38 dX8_least_37 rfl rfl ?_
      refine g_iload 40 dX8_least_38 rfl rfl ?_
      refine g_callS (z := mX8_hasBit) (As := [.int (iZ 0), .int (iZ 4)]) 43 dX8_least_40 mwX8_hasBit ⟨by decide, by decide⟩ rfl wlX8_180 wtX8_hasBit rfl (nle rfl) (nle rfl) rfl ?_
      refine Go.to [some (.int (iZ 0)), some (.int (iZ 4))] [] rfl rfl ?_
      refine g_iload_n 1 dX8_hasBit_0 rfl rfl ?_
      refine g_iload_n 2 dX8_hasBit_1 rfl rfl ?_
      refine g_ishrZ (0) 3 dX8_hasBit_2 (by decide +kernel) rfl ?_
      refine g_iconst (v := iZ (1)) 4 dX8_hasBit_3 rfl rfl ?_
      refine g_iandZ (0) 5 dX8_hasBit_4 (by decide +kernel) rfl ?_
      refine g_iconst (v := iZ (1)) 6 dX8_hasBit_5 rfl rfl ?_
      refine g_icZ_ne 13 9 dX8_hasBit_6 rfl rfl (by decide) (by decide) (fun _ => ?_) (fun q => absurd q (by decide))
      refine g_iconst (v := iZ (0)) 14 dX8_hasBit_13 rfl rfl ?_
      refine g_zret rfl z01_0 dX8_hasBit_14 ?_
      refine rI ?_
      refine g_ifZ_eq 90 46 dX8_least_43 rfl rfl (by decide) (fun _ => ?_) (fun q => absurd q (by decide))
      refine g_iincZ [some (.ref 0), some (.int (iZ 0)), some (.int (iZ 0)), some (.int (iZ 0)), some (.int (iZ 5)), none, none] 93 dX8_least_90 rfl rfl (by decide) rfl rfl rfl ?_
      refine g_goto 30 dX8_least_93 rfl ?_
      refine g_iload 32 dX8_least_30 rfl rfl ?_
      refine g_bipush (v := iZ (12)) 34 dX8_least_32 (by decide +kernel) rfl ?_
      refine g_icZ_ge 96 37 dX8_least_34 rfl rfl (by decide) (by decide) (fun q => absurd q (by decide)) (fun _ => ?_)
      refine g_iload_n 38 dX8_least_37 rfl rfl ?_
      refine g_iload 40 dX8_least_38 rfl rfl ?_
      refine g_callS (z := mX8_hasBit) (As := [.int (iZ 0), .int (iZ 5)]) 43 dX8_least_40 mwX8_hasBit ⟨by decide, by decide⟩ rfl wlX8_180 wtX8_hasBit rfl (nle rfl) (nle rfl) rfl ?_
      refine Go.to [some (.int (iZ 0)), some (.int (iZ 5))] [] rfl rfl ?_
      refine g_iload_n 1 dX8_hasBit_0 rfl rfl ?_
      refine g_iload_n 2 dX8_hasBit_1 rfl rfl ?_
      refine g_ishrZ (0) 3 dX8_hasBit_2 (by decide +kernel) rfl ?_
      refine g_iconst (v := iZ (1)) 4 dX8_hasBit_3 rfl rfl ?_
      refine g_iandZ (0) 5 dX8_hasBit_4 (by decide +kernel) rfl ?_
      refine g_iconst (v := iZ (1)) 6 dX8_hasBit_5 rfl rfl ?_
      refine g_icZ_ne 13 9 dX8_hasBit_6 rfl rfl (by decide) (by decide) (fun _ => ?_) (fun q => absurd q (by decide))
      refine g_iconst (v := iZ (0)) 14 dX8_hasBit_13 rfl rfl ?_
      refine g_zret rfl z01_0 dX8_hasBit_14 ?_
      refine rI ?_
      refine g_ifZ_eq 90 46 dX8_least_43 rfl rfl (by decide) (fun _ => ?_) (fun q => absurd q (by decide))
      refine g_iincZ [some (.ref 0), some (.int (iZ 0)), some (.int (iZ 0)), some (.int (iZ 0)), some (.int (iZ 6)), none, none] 93 dX8_least_90 rfl rfl (by decide) rfl rfl rfl ?_
      refine g_goto 30 dX8_least_93 rfl ?_
      refine g_iload 32 dX8_least_30 rfl rfl ?_
      refine g_bipush (v := iZ (12)) 34 dX8_least_32 (by decide +kernel) rfl ?_
      refine g_icZ_ge 96 37 dX8_least_34 rfl rfl (by decide) (by decide) (fun q => absurd q (by decide)) (fun _ => ?_)
      refine g_iload_n 38 dX8_least_37 rfl rfl ?_
      refine g_iload 40 dX8_least_38 rfl rfl ?_
      refine g_callS (z := mX8_hasBit) (As := [.int (iZ 0), .int (iZ 6)]) 43 dX8_least_40 mwX8_hasBit ⟨by decide, by decide⟩ rfl wlX8_180 wtX8_hasBit rfl (nle rfl) (nle rfl) rfl ?_
      refine Go.to [some (.int (iZ 0)), some (.int (iZ 6))] [] rfl rfl ?_
      refine g_iload_n 1 dX8_hasBit_0 rfl rfl ?_
      refine g_iload_n 2 dX8_hasBit_1 rfl rfl ?_
      refine g_ishrZ (0) 3 dX8_hasBit_2 (by decide +kernel) rfl ?_
      refine g_iconst (v := iZ (1)) 4 dX8_hasBit_3 rfl rfl ?_
      refine g_iandZ (0) 5 dX8_hasBit_4 (by decide +kernel) rfl ?_
      refine g_iconst (v := iZ (1)) 6 dX8_hasBit_5 rfl rfl ?_
      refine g_icZ_ne 13 9 dX8_hasBit_6 rfl rfl (by decide) (by decide) (fun _ => ?_) (fun q => absurd q (by decide))
      refine g_iconst (v := iZ (0)) 14 dX8_hasBit_13 rfl rfl ?_
      refine g_zret rfl z01_0 dX8_hasBit_14 ?_
      refine rI ?_
      refine g_ifZ_eq 90 46 dX8_least_43 rfl rfl (by decide) (fun _ => ?_) (fun q => absurd q (by decide))
      refine g_iincZ [some (.ref 0), some (.int (iZ 0)), some (.int (iZ 0)), some (.int (iZ 0)), some (.int (iZ 7)), none, none] 93 dX8_least_90 rfl rfl (by decide) rfl rfl rfl ?_
      refine g_goto 30 dX8_least_93 rfl ?_
      refine g_iload 32 dX8_least_30 rfl rfl ?_
      refine g_bipush (v := iZ (12)) 34 dX8_least_32 (by decide +kernel) rfl ?_
      refine g_icZ_ge 96 37 dX8_least_34 rfl rfl (by decide) (by decide) (fun q => absurd q (by decide)) (fun _ => ?_)
      refine g_iload_n 38 dX8_least_37 rfl rfl ?_
      refine g_iload 40 dX8_least_38 rfl rfl ?_
      refine g_callS (z := mX8_hasBit) (As := [.int (iZ 0), .int (iZ 7)]) 43 dX8_least_40 mwX8_hasBit ⟨by decide, by decide⟩ rfl wlX8_180 wtX8_hasBit rfl (nle rfl) (nle rfl) rfl ?_
      refine Go.to [some (.int (iZ 0)), some (.int (iZ 7))] [] rfl rfl ?_
      refine g_iload_n 1 dX8_hasBit_0 rfl rfl ?_
      refine g_iload_n 2 dX8_hasBit_1 rfl rfl ?_
      refine g_ishrZ (0) 3 dX8_hasBit_2 (by decide +kernel) rfl ?_
      refine g_iconst (v := iZ (1)) 4 dX8_hasBit_3 rfl rfl ?_
      refine g_iandZ (0) 5 dX8_hasBit_4 (by decide +kernel) rfl ?_
      refine g_iconst (v := iZ (1)) 6 dX8_hasBit_5 rfl rfl ?_
      refine g_icZ_ne 13 9 dX8_hasBit_6 rfl rfl (by decide) (by decide) (fun _ => ?_) (fun q => absurd q (by decide))
      refine g_iconst (v := iZ (0)) 14 dX8_hasBit_13 rfl rfl ?_
      refine g_zret rfl z01_0 dX8_hasBit_14 ?_
      refine rI ?_
      refine g_ifZ_eq 90 46 dX8_least_43 rfl rfl (by decide) (fun _ => ?_) (fun q => absurd q (by decide))
      refine g_iincZ [some (.ref 0), some (.int (iZ 0)), some (.int (iZ 0)), some (.int (iZ 0)), some (.int (iZ 8)), none, none] 93 dX8_least_90 rfl rfl (by decide) rfl rfl rfl ?_
      refine g_goto 30 dX8_least_93 rfl ?_
      refine g_iload 32 dX8_least_30 rfl rfl ?_
      refine g_bipush (v := iZ (12)) 34 dX8_least_32 (by decide +kernel) rfl ?_
      refine g_icZ_ge 96 37 dX8_least_34 rfl rfl (by decide) (by decide) (fun q => absurd q (by decide)) (fun _ => ?_)
      refine g_iload_n 38 dX8_least_37 rfl rfl ?_
      refine g_iload 40 dX8_least_38 rfl rfl ?_
      refine g_callS (z := mX8_hasBit) (As := [.int (iZ 0), .int (iZ 8)]) 43 dX8_least_40 mwX8_hasBit ⟨by decide, by decide⟩ rfl wlX8_180 wtX8_hasBit rfl (nle rfl) (nle rfl) rfl ?_
      refine Go.to [some (.int (iZ 0)), some (.int (iZ 8))] [] rfl rfl ?_
      refine g_iload_n 1 dX8_hasBit_0 rfl rfl ?_
      refine g_iload_n 2 dX8_hasBit_1 rfl rfl ?_
      refine g_ishrZ (0) 3 dX8_hasBit_2 (by decide +kernel) rfl ?_
      refine g_iconst (v := iZ (1)) 4 dX8_hasBit_3 rfl rfl ?_
      refine g_iandZ (0) 5 dX8_hasBit_4 (by decide +kernel) rfl ?_
      refine g_iconst (v := iZ (1)) 6 dX8_hasBit_5 rfl rfl ?_
      refine g_icZ_ne 13 9 dX8_hasBit_6 rfl rfl (by decide) (by decide) (fun _ => ?_) (fun q => absurd q (by decide))
      refine g_iconst (v := iZ (0)) 14 dX8_hasBit_13 rfl rfl ?_
      refine g_zret rfl z01_0 dX8_hasBit_14 ?_
      refine rI ?_
      refine g_ifZ_eq 90 46 dX8_least_43 rfl rfl (by decide) (fun _ => ?_) (fun q => absurd q (by decide))
      refine g_iincZ [some (.ref 0), some (.int (iZ 0)), some (.int (iZ 0)), some (.int (iZ 0)), some (.int (iZ 9)), none, none] 93 dX8_least_90 rfl rfl (by decide) rfl rfl rfl ?_
      refine g_goto 30 dX8_least_93 rfl ?_
      refine g_iload 32 dX8_least_30 rfl rfl ?_
      refine g_bipush (v := iZ (12)) 34 dX8_least_32 (by decide +kernel) rfl ?_
      refine g_icZ_ge 96 37 dX8_least_34 rfl rfl (by decide) (by decide) (fun q => absurd q (by decide)) (fun _ => ?_)
      refine g_iload_n 38 dX8_least_37 rfl rfl ?_
      refine g_iload 40 dX8_least_38 rfl rfl ?_
      refine g_callS (z := mX8_hasBit) (As := [.int (iZ 0), .int (iZ 9)]) 43 dX8_least_40 mwX8_hasBit ⟨by decide, by decide⟩ rfl wlX8_180 wtX8_hasBit rfl (nle rfl) (nle rfl) rfl ?_
      refine Go.to [some (.int (iZ 0)), some (.int (iZ 9))] [] rfl rfl ?_
      refine g_iload_n 1 dX8_hasBit_0 rfl rfl ?_
      refine g_iload_n 2 dX8_hasBit_1 rfl rfl ?_
      refine g_ishrZ (0) 3 dX8_hasBit_2 (by decide +kernel) rfl ?_
      refine g_iconst (v := iZ (1)) 4 dX8_hasBit_3 rfl rfl ?_
      refine g_iandZ (0) 5 dX8_hasBit_4 (by decide +kernel) rfl ?_
      refine g_iconst (v := iZ (1)) 6 dX8_hasBit_5 rfl rfl ?_
      refine g_icZ_ne 13 9 dX8_hasBit_6 rfl rfl (by decide) (by decide) (fun _ => ?_) (fun q => absurd q (by decide))
      refine g_iconst (v := iZ (0)) 14 dX8_hasBit_13 rfl rfl ?_
      refine g_zret rfl z01_0 dX8_hasBit_14 ?_
      refine rI ?_
      refine g_ifZ_eq 90 46 dX8_least_43 rfl rfl (by decide) (fun _ => ?_) (fun q => absurd q (by decide))
      refine g_iincZ [some (.ref 0), some (.int (iZ 0)), some (.int (iZ 0)), some (.int (iZ 0)), some (.int (iZ 10)), none, none] 93 dX8_least_90 rfl rfl (by decide) rfl rfl rfl ?_
      refine g_goto 30 dX8_least_93 rfl ?_
      refine g_iload 32 dX8_least_30 rfl rfl ?_
      refine g_bipush (v := iZ (12)) 34 dX8_least_32 (by decide +kernel) rfl ?_
      refine g_icZ_ge 96 37 dX8_least_34 rfl rfl (by decide) (by decide) (fun q => absurd q (by decide)) (fun _ => ?_)
      refine g_iload_n 38 dX8_least_37 rfl rfl ?_
      refine g_iload 40 dX8_least_38 rfl rfl ?_
      refine g_callS (z := mX8_hasBit) (As := [.int (iZ 0), .int (iZ 10)]) 43 dX8_least_40 mwX8_hasBit ⟨by decide, by decide⟩ rfl wlX8_180 wtX8_hasBit rfl (nle rfl) (nle rfl) rfl ?_
      refine Go.to [some (.int (iZ 0)), some (.int (iZ 10))] [] rfl rfl ?_
      refine g_iload_n 1 dX8_hasBit_0 rfl rfl ?_
      refine g_iload_n 2 dX8_hasBit_1 rfl rfl ?_
      refine g_ishrZ (0) 3 dX8_hasBit_2 (by decide +kernel) rfl ?_
      refine g_iconst (v := iZ (1)) 4 dX8_hasBit_3 rfl rfl ?_
      refine g_iandZ (0) 5 dX8_hasBit_4 (by decide +kernel) rfl ?_
      refine g_iconst (v := iZ (1)) 6 dX8_hasBit_5 rfl rfl ?_
      refine g_icZ_ne 13 9 dX8_hasBit_6 rfl rfl (by decide) (by decide) (fun _ => ?_) (fun q => absurd q (by decide))
      refine g_iconst (v := iZ (0)) 14 dX8_hasBit_13 rfl rfl ?_
      refine g_zret rfl z01_0 dX8_hasBit_14 ?_
      refine rI ?_
      refine g_ifZ_eq 90 46 dX8_least_43 rfl rfl (by decide) (fun _ => ?_) (fun q => absurd q (by decide))
      refine g_iincZ [some (.ref 0), some (.int (iZ 0)), some (.int (iZ 0)), some (.int (iZ 0)), some (.int (iZ 11)), none, none] 93 dX8_least_90 rfl rfl (by decide) rfl rfl rfl ?_
      refine g_goto 30 dX8_least_93 rfl ?_
      refine g_iload 32 dX8_least_30 rfl rfl ?_
      refine g_bipush (v := iZ (12)) 34 dX8_least_32 (by decide +kernel) rfl ?_
      refine g_icZ_ge 96 37 dX8_least_34 rfl rfl (by decide) (by decide) (fun q => absurd q (by decide)) (fun _ => ?_)
      refine g_iload_n 38 dX8_least_37 rfl rfl ?_
      refine g_iload 40 dX8_least_38 rfl rfl ?_
      refine g_callS (z := mX8_hasBit) (As := [.int (iZ 0), .int (iZ 11)]) 43 dX8_least_40 mwX8_hasBit ⟨by decide, by decide⟩ rfl wlX8_180 wtX8_hasBit rfl (nle rfl) (nle rfl) rfl ?_
      refine Go.to [some (.int (iZ 0)), some (.int (iZ 11))] [] rfl rfl ?_
      refine g_iload_n 1 dX8_hasBit_0 rfl rfl ?_
      refine g_iload_n 2 dX8_hasBit_1 rfl rfl ?_
      refine g_ishrZ (0) 3 dX8_hasBit_2 (by decide +kernel) rfl ?_
      refine g_iconst (v := iZ (1)) 4 dX8_hasBit_3 rfl rfl ?_
      refine g_iandZ (0) 5 dX8_hasBit_4 (by decide +kernel) rfl ?_
      refine g_iconst (v := iZ (1)) 6 dX8_hasBit_5 rfl rfl ?_
      refine g_icZ_ne 13 9 dX8_hasBit_6 rfl rfl (by decide) (by decide) (fun _ => ?_) (fun q => absurd q (by decide))
      refine g_iconst (v := iZ (0)) 14 dX8_hasBit_13 rfl rfl ?_
      refine g_zret rfl z01_0 dX8_hasBit_14 ?_
      refine rI ?_
      refine g_ifZ_eq 90 46 dX8_least_43 rfl rfl (by decide) (fun _ => ?_) (fun q => absurd q (by decide))
      refine g_iincZ [some (.ref 0), some (.int (iZ 0)), some (.int (iZ 0)), some (.int (iZ 0)), some (.int (iZ 12)), none, none] 93 dX8_least_90 rfl rfl (by decide) rfl rfl rfl ?_
      refine g_goto 30 dX8_least_93 rfl ?_
      refine g_iload 32 dX8_least_30 rfl rfl ?_
      refine g_bipush (v := iZ (12)) 34 dX8_least_32 (by decide +kernel) rfl ?_
      refine g_icZ_ge 96 37 dX8_least_34 rfl rfl (by decide) (by decide) (fun _ => ?_) (fun q => absurd q (by decide))
      refine g_iload_n 97 dX8_least_96 rfl rfl ?_
      refine g_iret rfl dX8_least_97 ?_
      exact kq _ _ (by unfold a_least; split <;> omega) (Sx.refl _ _)
    · refine g_iconst (v := iZ (-1)) 15 dX8_least_14 rfl rfl ?_
      refine g_iret rfl dX8_least_15 ?_
      exact kq _ _ (by unfold a_least; split <;> omega) (Sx.refl _ _)
set_option maxRecDepth 100000 in
theorem q8_same {l : Launch} {h : MH} (F : FX h) (a : Int) (b : Int) (ra : rg a) (rb : rg b) {Q : Option Value → MH → Prop} (kq : ∀ (h1 : MH) (r : Int), r = -1 → Sx 50 h h1 → Q (some (.int (iZ r))) h1) : Go l mX8_same 0 [some (.ref 0), some (.int (iZ a)), some (.int (iZ b)), none, none] [] h Q := by
  refine g_aload_n 1 dX8_same_0 rfl rfl ?_
  refine g_iload_n 2 dX8_same_1 rfl rfl ?_
  refine g_callV (z := mX8_toolAt) (As := [.int (iZ a)]) 5 dX8_same_2 mwX8_toolAt ⟨by decide, by decide⟩ rfl wlX8_90 wiX8_toolAt wsX8_toolAt F.1 rfl rfl rfl (nle rfl) (nle rfl) rfl ?_
  refine Go.to [some (.ref 0), some (.int (iZ a))] [] rfl rfl ?_
  refine g_iload_n 1 dX8_toolAt_0 rfl rfl ?_
  refine g_ifZ_lt 18 4 dX8_toolAt_1 rfl rfl ra (fun c1 => ?_) (fun c1 => ?_)
  · refine g_null 19 dX8_toolAt_18 rfl ?_
    refine g_goto 28 dX8_toolAt_19 rfl ?_
    refine g_aret rfl (Or.inl rfl) dX8_toolAt_28 ?_
    refine rN ?_
    refine g_astore_nN (L1 := [some (.ref 0), some (.int (iZ a)), some (.int (iZ b)), some (.null), none]) 6 dX8_same_5 (by decide) rfl rfl rfl ?_
    refine g_aload_n 7 dX8_same_6 rfl rfl ?_
    refine g_iload_n 8 dX8_same_7 rfl rfl ?_
    refine g_callV (z := mX8_toolAt) (As := [.int (iZ b)]) 11 dX8_same_8 mwX8_toolAt ⟨by decide, by decide⟩ rfl wlX8_90 wiX8_toolAt wsX8_toolAt F.1 rfl rfl rfl (nle rfl) (nle rfl) rfl ?_
    refine Go.to [some (.ref 0), some (.int (iZ b))] [] rfl rfl ?_
    refine g_iload_n 1 dX8_toolAt_0 rfl rfl ?_
    refine g_ifZ_lt 18 4 dX8_toolAt_1 rfl rfl rb (fun c2 => ?_) (fun c2 => ?_)
    · refine g_null 19 dX8_toolAt_18 rfl ?_
      refine g_goto 28 dX8_toolAt_19 rfl ?_
      refine g_aret rfl (Or.inl rfl) dX8_toolAt_28 ?_
      refine rN ?_
      refine g_astoreN (L1 := [some (.ref 0), some (.int (iZ a)), some (.int (iZ b)), some (.null), some (.null)]) 13 dX8_same_11 (by decide) rfl rfl rfl ?_
      refine g_aload_nN 14 dX8_same_13 rfl rfl ?_
      refine g_ifnullN 22 dX8_same_14 rfl ?_
      refine g_iconst (v := iZ (-1)) 23 dX8_same_22 rfl rfl ?_
      refine g_goto 38 dX8_same_23 rfl ?_
      refine g_iret rfl dX8_same_38 ?_
      exact kq _ _ rfl (Sx.refl _ _)
    · refine g_iload_n 5 dX8_toolAt_4 rfl rfl ?_
      refine g_aload_n 6 dX8_toolAt_5 rfl rfl ?_
      refine g_get 9 dX8_toolAt_6 faX8_26_X8 F.1 rfl rfl ?_
      refine g_icZ_ge 18 12 dX8_toolAt_9 rfl rfl rb (by decide) (fun _ => ?_) (fun q => absurd q (by omega))
      refine g_null 19 dX8_toolAt_18 rfl ?_
      refine g_goto 28 dX8_toolAt_19 rfl ?_
      refine g_aret rfl (Or.inl rfl) dX8_toolAt_28 ?_
      refine rN ?_
      refine g_astoreN (L1 := [some (.ref 0), some (.int (iZ a)), some (.int (iZ b)), some (.null), some (.null)]) 13 dX8_same_11 (by decide) rfl rfl rfl ?_
      refine g_aload_nN 14 dX8_same_13 rfl rfl ?_
      refine g_ifnullN 22 dX8_same_14 rfl ?_
      refine g_iconst (v := iZ (-1)) 23 dX8_same_22 rfl rfl ?_
      refine g_goto 38 dX8_same_23 rfl ?_
      refine g_iret rfl dX8_same_38 ?_
      exact kq _ _ rfl (Sx.refl _ _)
  · refine g_iload_n 5 dX8_toolAt_4 rfl rfl ?_
    refine g_aload_n 6 dX8_toolAt_5 rfl rfl ?_
    refine g_get 9 dX8_toolAt_6 faX8_26_X8 F.1 rfl rfl ?_
    refine g_icZ_ge 18 12 dX8_toolAt_9 rfl rfl ra (by decide) (fun _ => ?_) (fun q => absurd q (by omega))
    refine g_null 19 dX8_toolAt_18 rfl ?_
    refine g_goto 28 dX8_toolAt_19 rfl ?_
    refine g_aret rfl (Or.inl rfl) dX8_toolAt_28 ?_
    refine rN ?_
    refine g_astore_nN (L1 := [some (.ref 0), some (.int (iZ a)), some (.int (iZ b)), some (.null), none]) 6 dX8_same_5 (by decide) rfl rfl rfl ?_
    refine g_aload_n 7 dX8_same_6 rfl rfl ?_
    refine g_iload_n 8 dX8_same_7 rfl rfl ?_
    refine g_callV (z := mX8_toolAt) (As := [.int (iZ b)]) 11 dX8_same_8 mwX8_toolAt ⟨by decide, by decide⟩ rfl wlX8_90 wiX8_toolAt wsX8_toolAt F.1 rfl rfl rfl (nle rfl) (nle rfl) rfl ?_
    refine Go.to [some (.ref 0), some (.int (iZ b))] [] rfl rfl ?_
    refine g_iload_n 1 dX8_toolAt_0 rfl rfl ?_
    refine g_ifZ_lt 18 4 dX8_toolAt_1 rfl rfl rb (fun c3 => ?_) (fun c3 => ?_)
    · refine g_null 19 dX8_toolAt_18 rfl ?_
      refine g_goto 28 dX8_toolAt_19 rfl ?_
      refine g_aret rfl (Or.inl rfl) dX8_toolAt_28 ?_
      refine rN ?_
      refine g_astoreN (L1 := [some (.ref 0), some (.int (iZ a)), some (.int (iZ b)), some (.null), some (.null)]) 13 dX8_same_11 (by decide) rfl rfl rfl ?_
      refine g_aload_nN 14 dX8_same_13 rfl rfl ?_
      refine g_ifnullN 22 dX8_same_14 rfl ?_
      refine g_iconst (v := iZ (-1)) 23 dX8_same_22 rfl rfl ?_
      refine g_goto 38 dX8_same_23 rfl ?_
      refine g_iret rfl dX8_same_38 ?_
      exact kq _ _ rfl (Sx.refl _ _)
    · refine g_iload_n 5 dX8_toolAt_4 rfl rfl ?_
      refine g_aload_n 6 dX8_toolAt_5 rfl rfl ?_
      refine g_get 9 dX8_toolAt_6 faX8_26_X8 F.1 rfl rfl ?_
      refine g_icZ_ge 18 12 dX8_toolAt_9 rfl rfl rb (by decide) (fun _ => ?_) (fun q => absurd q (by omega))
      refine g_null 19 dX8_toolAt_18 rfl ?_
      refine g_goto 28 dX8_toolAt_19 rfl ?_
      refine g_aret rfl (Or.inl rfl) dX8_toolAt_28 ?_
      refine rN ?_
      refine g_astoreN (L1 := [some (.ref 0), some (.int (iZ a)), some (.int (iZ b)), some (.null), some (.null)]) 13 dX8_same_11 (by decide) rfl rfl rfl ?_
      refine g_aload_nN 14 dX8_same_13 rfl rfl ?_
      refine g_ifnullN 22 dX8_same_14 rfl ?_
      refine g_iconst (v := iZ (-1)) 23 dX8_same_22 rfl rfl ?_
      refine g_goto 38 dX8_same_23 rfl ?_
      refine g_iret rfl dX8_same_38 ?_
      exact kq _ _ rfl (Sx.refl _ _)
set_option maxRecDepth 100000 in
theorem q8_edition {l : Launch} {h : MH} (F : FX h) (u : Int) (k : Int) (ru : rg u) (rk : rg k) {Q : Option Value → MH → Prop} (kq : ∀ (h1 : MH) (r : Int), r = a_edition u k → Sx 50 h h1 → Q (some (.int (iZ r))) h1) : Go l mX8_edition 0 [some (.ref 0), some (.int (iZ u)), some (.int (iZ k))] [] h Q := by
  refine g_iload_n 1 dX8_edition_0 rfl rfl ?_
  refine g_ifZ_lt 20 4 dX8_edition_1 rfl rfl ru (fun c1 => ?_) (fun c1 => ?_)
  · refine g_iconst (v := iZ (-1)) 21 dX8_edition_20 rfl rfl ?_
    refine g_iret rfl dX8_edition_21 ?_
    exact kq _ _ (by unfold a_edition; split <;> omega) (Sx.refl _ _)
  · refine g_iload_n 5 dX8_edition_4 rfl rfl ?_
    refine g_ldc (v := iZ (65535)) 7 dX8_edition_5 wnX8_186 rfl ?_
    refine g_icZ_gt 20 10 dX8_edition_7 rfl rfl ru (by decide) (fun c2 => ?_) (fun c2 => ?_)
    · refine g_iconst (v := iZ (-1)) 21 dX8_edition_20 rfl rfl ?_
      refine g_iret rfl dX8_edition_21 ?_
      exact kq _ _ (by unfold a_edition; split <;> omega) (Sx.refl _ _)
    · refine g_iload_n 11 dX8_edition_10 rfl rfl ?_
      refine g_ifZ_lt 20 14 dX8_edition_11 rfl rfl rk (fun c3 => ?_) (fun c3 => ?_)
      · refine g_iconst (v := iZ (-1)) 21 dX8_edition_20 rfl rfl ?_
        refine g_iret rfl dX8_edition_21 ?_
        exact kq _ _ (by unfold a_edition; split <;> omega) (Sx.refl _ _)
      · refine g_iload_n 15 dX8_edition_14 rfl rfl ?_
        refine g_ldc (v := iZ (65535)) 17 dX8_edition_15 wnX8_186 rfl ?_
        refine g_icZ_le 22 20 dX8_edition_17 rfl rfl rk (by decide) (fun c4 => ?_) (fun c4 => ?_)
        · refine g_aload_n 23 dX8_edition_22 rfl rfl ?_
          refine g_get 26 dX8_edition_23 faX8_59_X8 F.1 rfl rfl ?_
          refine g_iload_n 27 dX8_edition_26 rfl rfl ?_
          refine g_iload_n 28 dX8_edition_27 rfl rfl ?_
          refine g_callV (z := mX1_add) (As := [.int (iZ u), .int (iZ k)]) 31 dX8_edition_28 mwX1_add ⟨by decide, by decide⟩ rfl wlX8_187 wiX1_add wsX1_add F.2.2.2.2.2.2.2.2.2.2.2.2.2.2.2.2.2.2.2.2.2.2.2.2.2.2.2.2.2.2.1 rfl rfl rfl (nle rfl) (nle rfl) rfl ?_
          refine Go.to [some (.ref 30), some (.int (iZ u)), some (.int (iZ k))] [] rfl rfl ?_
          refine g_aload_n 1 dX1_add_0 rfl rfl ?_
          refine g_get 4 dX1_add_1 faX1_21_X1 F.2.2.2.2.2.2.2.2.2.2.2.2.2.2.2.2.2.2.2.2.2.2.2.2.2.2.2.2.2.2.1 rfl rfl ?_
          refine g_ifZ_lt 16 7 dX1_add_4 rfl rfl (by decide) (fun q => absurd q (by decide)) (fun _ => ?_)
          refine g_aload_n 8 dX1_add_7 rfl rfl ?_
          refine g_get 11 dX1_add_8 faX1_21_X1 F.2.2.2.2.2.2.2.2.2.2.2.2.2.2.2.2.2.2.2.2.2.2.2.2.2.2.2.2.2.2.1 rfl rfl ?_
          refine g_bipush (v := iZ (12)) 13 dX1_add_11 (by decide +kernel) rfl ?_
          refine g_icZ_lt 19 16 dX1_add_13 rfl rfl (by decide) (by decide) (fun _ => ?_) (fun q => absurd q (by decide))
          refine g_aload_n 20 dX1_add_19 rfl rfl ?_
          refine g_get 23 dX1_add_20 faX1_9_X1 F.2.2.2.2.2.2.2.2.2.2.2.2.2.2.2.2.2.2.2.2.2.2.2.2.2.2.2.2.2.2.1 rfl rfl ?_
          refine g_aload_n 24 dX1_add_23 rfl rfl ?_
          refine g_get 27 dX1_add_24 faX1_21_X1 F.2.2.2.2.2.2.2.2.2.2.2.2.2.2.2.2.2.2.2.2.2.2.2.2.2.2.2.2.2.2.1 rfl rfl ?_
          refine g_iload_n 28 dX1_add_27 rfl rfl ?_
          refine g_iastZ (f1 := upd (fun _ => 0) 0 (iZ u)) 29 dX1_add_28 F.2.2.2.2.2.2.2.2.2.2.2.2.2.2.2.2.2.2.2.2.2.2.2.2.2.2.2.2.2.2.2.1 (by decide) (by decide) (by decide) rfl rfl (fun h5 s6 f7 => ?_)
          refine g_aload_n 30 dX1_add_29 rfl rfl ?_
          have f8 := (s6.get (by decide) F.2.2.2.2.2.2.2.2.2.2.2.2.2.2.2.2.2.2.2.2.2.2.2.2.2.2.2.2.2.2.1)
          refine g_get 33 dX1_add_30 faX1_15_X1 f8 rfl rfl ?_
          refine g_aload_n 34 dX1_add_33 rfl rfl ?_
          refine g_get 37 dX1_add_34 faX1_21_X1 f8 rfl rfl ?_
          refine g_iload_n 38 dX1_add_37 rfl rfl ?_
          have f9 := (s6.get (by decide) F.2.2.2.2.2.2.2.2.2.2.2.2.2.2.2.2.2.2.2.2.2.2.2.2.2.2.2.2.2.2.2.2.1)
          refine g_iastZ (f1 := upd (fun _ => 0) 0 (iZ k)) 39 dX1_add_38 f9 (by decide) (by decide) (by decide) rfl rfl (fun h10 s11 f12 => ?_)
          refine g_aload_n 40 dX1_add_39 rfl rfl ?_
          refine g_dup 41 dX1_add_40 rfl rfl ?_
          have f13 := (s11.get (by decide) f8)
          refine g_get 44 dX1_add_41 faX1_21_X1 f13 rfl rfl ?_
          refine g_iconst (v := iZ (1)) 45 dX1_add_44 rfl rfl ?_
          refine g_iaddZ (1) 46 dX1_add_45 (by decide) rfl ?_
          refine g_putC (fs1 := [.ref 31, .ref 32, .ref 33, .int (iZ 1)]) 49 dX1_add_46 fpX1_21_X1 f13 (nle rfl) (vI _) rfl rfl (fun h14 s15 f16 => ?_)
          refine g_aload_n 50 dX1_add_49 rfl rfl ?_
          refine g_get 53 dX1_add_50 faX1_21_X1 f16 rfl rfl ?_
          refine g_iconst (v := iZ (1)) 54 dX1_add_53 rfl rfl ?_
          refine g_isubZ (0) 55 dX1_add_54 (by decide) rfl ?_
          refine g_iret rfl dX1_add_55 ?_
          refine rI ?_
          refine g_iret rfl dX8_edition_31 ?_
          exact kq _ _ (by unfold a_edition; split <;> omega) (((s6.X (by decide)).tr (s11.X (by decide))).tr (s15.X (by decide)))
        · refine g_iconst (v := iZ (-1)) 21 dX8_edition_20 rfl rfl ?_
          refine g_iret rfl dX8_edition_21 ?_
          exact kq _ _ (by unfold a_edition; split <;> omega) (Sx.refl _ _)
set_option maxRecDepth 100000 in
theorem q8_ladder {l : Launch} {h : MH} (F : FX h) (a : Int) (b : Int) (k : Int) (ra : rg a) (rb : rg b) (rk : rg k) {Q : Option Value → MH → Prop} (kq : ∀ (h1 : MH) (r : Int), r = -1 → Sx 50 h h1 → Q (some (.int (iZ r))) h1) : Go l mX8_ladder 0 [some (.ref 0), some (.int (iZ a)), some (.int (iZ b)), some (.int (iZ k)), none] [] h Q := by
  refine g_aload_n 1 dX8_ladder_0 rfl rfl ?_
  refine g_get 4 dX8_ladder_1 faX8_59_X8 F.1 rfl rfl ?_
  refine g_iload_n 5 dX8_ladder_4 rfl rfl ?_
  refine g_callV (z := mX1_has) (As := [.int (iZ a)]) 8 dX8_ladder_5 mwX1_has ⟨by decide, by decide⟩ rfl wlX8_189 wiX1_has wsX1_has F.2.2.2.2.2.2.2.2.2.2.2.2.2.2.2.2.2.2.2.2.2.2.2.2.2.2.2.2.2.2.1 rfl rfl rfl (nle rfl) (nle rfl) rfl ?_
  refine Go.to [some (.ref 30), some (.int (iZ a))] [] rfl rfl ?_
  refine g_iload_n 1 dX1_has_0 rfl rfl ?_
  refine g_ifZ_lt 22 4 dX1_has_1 rfl rfl ra (fun c1 => ?_) (fun c1 => ?_)
  · refine g_iconst (v := iZ (0)) 23 dX1_has_22 rfl rfl ?_
    refine g_zret rfl z01_0 dX1_has_23 ?_
    refine rI ?_
    refine g_ifZ_eq 27 11 dX8_ladder_8 rfl rfl (by decide) (fun _ => ?_) (fun q => absurd q (by decide))
    refine g_iconst (v := iZ (-1)) 28 dX8_ladder_27 rfl rfl ?_
    refine g_iret rfl dX8_ladder_28 ?_
    exact kq _ _ rfl (Sx.refl _ _)
  · refine g_iload_n 5 dX1_has_4 rfl rfl ?_
    refine g_aload_n 6 dX1_has_5 rfl rfl ?_
    refine g_get 9 dX1_has_6 faX1_21_X1 F.2.2.2.2.2.2.2.2.2.2.2.2.2.2.2.2.2.2.2.2.2.2.2.2.2.2.2.2.2.2.1 rfl rfl ?_
    refine g_icZ_ge 22 12 dX1_has_9 rfl rfl ra (by decide) (fun _ => ?_) (fun q => absurd q (by omega))
    refine g_iconst (v := iZ (0)) 23 dX1_has_22 rfl rfl ?_
    refine g_zret rfl z01_0 dX1_has_23 ?_
    refine rI ?_
    refine g_ifZ_eq 27 11 dX8_ladder_8 rfl rfl (by decide) (fun _ => ?_) (fun q => absurd q (by decide))
    refine g_iconst (v := iZ (-1)) 28 dX8_ladder_27 rfl rfl ?_
    refine g_iret rfl dX8_ladder_28 ?_
    exact kq _ _ rfl (Sx.refl _ _)
set_option maxRecDepth 100000 in
theorem q8_needed {l : Launch} {h : MH} (F : FX h) (a : Int) (b : Int) (w : Int) (ra : rg a) (rb : rg b) (rw : rg w) {Q : Option Value → MH → Prop} (kq : ∀ (h1 : MH) (r : Int), r = -1 → Sx 50 h h1 → Q (some (.int (iZ r))) h1) : Go l mX8_needed 0 [some (.ref 0), some (.int (iZ a)), some (.int (iZ b)), some (.int (iZ w)), none, none, none, none] [] h Q := by
  refine g_aload_n 1 dX8_needed_0 rfl rfl ?_
  refine g_get 4 dX8_needed_1 faX8_59_X8 F.1 rfl rfl ?_
  refine g_iload_n 5 dX8_needed_4 rfl rfl ?_
  refine g_callV (z := mX1_has) (As := [.int (iZ a)]) 8 dX8_needed_5 mwX1_has ⟨by decide, by decide⟩ rfl wlX8_189 wiX1_has wsX1_has F.2.2.2.2.2.2.2.2.2.2.2.2.2.2.2.2.2.2.2.2.2.2.2.2.2.2.2.2.2.2.1 rfl rfl rfl (nle rfl) (nle rfl) rfl ?_
  refine Go.to [some (.ref 30), some (.int (iZ a))] [] rfl rfl ?_
  refine g_iload_n 1 dX1_has_0 rfl rfl ?_
  refine g_ifZ_lt 22 4 dX1_has_1 rfl rfl ra (fun c1 => ?_) (fun c1 => ?_)
  · refine g_iconst (v := iZ (0)) 23 dX1_has_22 rfl rfl ?_
    refine g_zret rfl z01_0 dX1_has_23 ?_
    refine rI ?_
    refine g_ifZ_eq 31 11 dX8_needed_8 rfl rfl (by decide) (fun _ => ?_) (fun q => absurd q (by decide))
    refine g_iconst (v := iZ (-1)) 32 dX8_needed_31 rfl rfl ?_
    refine g_iret rfl dX8_needed_32 ?_
    exact kq _ _ rfl (Sx.refl _ _)
  · refine g_iload_n 5 dX1_has_4 rfl rfl ?_
    refine g_aload_n 6 dX1_has_5 rfl rfl ?_
    refine g_get 9 dX1_has_6 faX1_21_X1 F.2.2.2.2.2.2.2.2.2.2.2.2.2.2.2.2.2.2.2.2.2.2.2.2.2.2.2.2.2.2.1 rfl rfl ?_
    refine g_icZ_ge 22 12 dX1_has_9 rfl rfl ra (by decide) (fun _ => ?_) (fun q => absurd q (by omega))
    refine g_iconst (v := iZ (0)) 23 dX1_has_22 rfl rfl ?_
    refine g_zret rfl z01_0 dX1_has_23 ?_
    refine rI ?_
    refine g_ifZ_eq 31 11 dX8_needed_8 rfl rfl (by decide) (fun _ => ?_) (fun q => absurd q (by decide))
    refine g_iconst (v := iZ (-1)) 32 dX8_needed_31 rfl rfl ?_
    refine g_iret rfl dX8_needed_32 ?_
    exact kq _ _ rfl (Sx.refl _ _)
set_option maxRecDepth 100000 in
theorem q8_weight {l : Launch} {h : MH} (F : FX h) (k : Int) (t : Int) (rk : rg k) (rt : rg t) {Q : Option Value → MH → Prop} (kq : ∀ (h1 : MH) (r : Int), r = -1 → Sx 50 h h1 → Q (some (.int (iZ r))) h1) : Go l mX8_weight 0 [some (.ref 0), some (.int (iZ k)), some (.int (iZ t)), none] [] h Q := by
  refine g_aload_n 1 dX8_weight_0 rfl rfl ?_
  refine g_iload_n 2 dX8_weight_1 rfl rfl ?_
  refine g_callV (z := mX8_toolAt) (As := [.int (iZ t)]) 5 dX8_weight_2 mwX8_toolAt ⟨by decide, by decide⟩ rfl wlX8_90 wiX8_toolAt wsX8_toolAt F.1 rfl rfl rfl (nle rfl) (nle rfl) rfl ?_
  refine Go.to [some (.ref 0), some (.int (iZ t))] [] rfl rfl ?_
  refine g_iload_n 1 dX8_toolAt_0 rfl rfl ?_
  refine g_ifZ_lt 18 4 dX8_toolAt_1 rfl rfl rt (fun c1 => ?_) (fun c1 => ?_)
  · refine g_null 19 dX8_toolAt_18 rfl ?_
    refine g_goto 28 dX8_toolAt_19 rfl ?_
    refine g_aret rfl (Or.inl rfl) dX8_toolAt_28 ?_
    refine rN ?_
    refine g_astore_nN (L1 := [some (.ref 0), some (.int (iZ k)), some (.int (iZ t)), some (.null)]) 6 dX8_weight_5 (by decide) rfl rfl rfl ?_
    refine g_aload_nN 7 dX8_weight_6 rfl rfl ?_
    refine g_ifnonnullN 10 dX8_weight_7 rfl ?_
    refine g_iconst (v := iZ (-1)) 11 dX8_weight_10 rfl rfl ?_
    refine g_iret rfl dX8_weight_11 ?_
    exact kq _ _ rfl (Sx.refl _ _)
  · refine g_iload_n 5 dX8_toolAt_4 rfl rfl ?_
    refine g_aload_n 6 dX8_toolAt_5 rfl rfl ?_
    refine g_get 9 dX8_toolAt_6 faX8_26_X8 F.1 rfl rfl ?_
    refine g_icZ_ge 18 12 dX8_toolAt_9 rfl rfl rt (by decide) (fun _ => ?_) (fun q => absurd q (by omega))
    refine g_null 19 dX8_toolAt_18 rfl ?_
    refine g_goto 28 dX8_toolAt_19 rfl ?_
    refine g_aret rfl (Or.inl rfl) dX8_toolAt_28 ?_
    refine rN ?_
    refine g_astore_nN (L1 := [some (.ref 0), some (.int (iZ k)), some (.int (iZ t)), some (.null)]) 6 dX8_weight_5 (by decide) rfl rfl rfl ?_
    refine g_aload_nN 7 dX8_weight_6 rfl rfl ?_
    refine g_ifnonnullN 10 dX8_weight_7 rfl ?_
    refine g_iconst (v := iZ (-1)) 11 dX8_weight_10 rfl rfl ?_
    refine g_iret rfl dX8_weight_11 ?_
    exact kq _ _ rfl (Sx.refl _ _)
set_option maxRecDepth 100000 in
theorem q8_count {l : Launch} {h : MH} (F : FX h) (w : Int) (rw : rg w) {Q : Option Value → MH → Prop} (kq : ∀ (h1 : MH) (r : Int), r = a_count w → Sx 50 h h1 → Q (some (.int (iZ r))) h1) : Go l mX8_count 0 [some (.ref 0), some (.int (iZ w))] [] h Q := by
  refine g_iload_n 1 dX8_count_0 rfl rfl ?_
  by_cases c1 : w < 0 ∨ 4 < w
  · refine g_tabZO 71 dX8_count_1 rw c1 rfl ?_
    refine g_iconst (v := iZ (-1)) 72 dX8_count_71 rfl rfl ?_
    refine g_iret rfl dX8_count_72 ?_
    exact kq _ _ (by unfold a_count; split <;> omega) (Sx.refl _ _)
  · have c2 : w = 0 ∨ w = 1 ∨ w = 2 ∨ w = 3 ∨ w = 4 := by omega
    rcases c2 with c2 | c2 | c2 | c2 | c2
    · refine g_tabZI (0) 36 dX8_count_1 rw c2 (by decide) (by decide) rfl rfl ?_
      refine g_aload_n 37 dX8_count_36 rfl rfl ?_
      refine g_get 40 dX8_count_37 faX8_26_X8 F.1 rfl rfl ?_
      refine g_iret rfl dX8_count_40 ?_
      exact kq _ _ (by unfold a_count; split <;> omega) (Sx.refl _ _)
    · refine g_tabZI (1) 41 dX8_count_1 rw c2 (by decide) (by decide) rfl rfl ?_
      refine g_aload_n 42 dX8_count_41 rfl rfl ?_
      refine g_get 45 dX8_count_42 faX8_59_X8 F.1 rfl rfl ?_
      refine g_get 48 dX8_count_45 faX8_219_X1 F.2.2.2.2.2.2.2.2.2.2.2.2.2.2.2.2.2.2.2.2.2.2.2.2.2.2.2.2.2.2.1 rfl rfl ?_
      refine g_iret rfl dX8_count_48 ?_
      exact kq _ _ (by unfold a_count; split <;> omega) (Sx.refl _ _)
    · refine g_tabZI (2) 49 dX8_count_1 rw c2 (by decide) (by decide) rfl rfl ?_
      refine g_aload_n 50 dX8_count_49 rfl rfl ?_
      refine g_get 53 dX8_count_50 faX8_10_X8 F.1 rfl rfl ?_
      refine g_get 56 dX8_count_53 faX8_67_X6 F.2.1 rfl rfl ?_
      refine g_iret rfl dX8_count_56 ?_
      exact kq _ _ (by unfold a_count; split <;> omega) (Sx.refl _ _)
    · refine g_tabZI (3) 57 dX8_count_1 rw c2 (by decide) (by decide) rfl rfl ?_
      refine g_aload_n 58 dX8_count_57 rfl rfl ?_
      refine g_callV (z := mX8_checkedTools) (As := []) 61 dX8_count_58 mwX8_checkedTools ⟨by decide, by decide⟩ rfl wlX8_222 wiX8_checkedTools wsX8_checkedTools F.1 rfl rfl rfl (nle rfl) (nle rfl) rfl ?_
      refine Go.to [some (.ref 0), none, none, none] [] rfl rfl ?_
      refine g_iconst (v := iZ (0)) 1 dX8_checkedTools_0 rfl rfl ?_
      refine g_istore_n (L1 := [some (.ref 0), some (.int (iZ 0)), none, none]) 2 dX8_checkedTools_1 (by decide) rfl rfl rfl ?_
      refine g_iconst (v := iZ (0)) 3 dX8_checkedTools_2 rfl rfl ?_
      refine g_istore_n (L1 := [some (.ref 0), some (.int (iZ 0)), some (.int (iZ 0)), none]) 4 dX8_checkedTools_3 (by decide) rfl rfl rfl ?_
      refine g_iload_n 5 dX8_checkedTools_4 rfl rfl ?_
      refine g_aload_n 6 dX8_checkedTools_5 rfl rfl ?_
      refine g_get 9 dX8_checkedTools_6 faX8_26_X8 F.1 rfl rfl ?_
      refine g_icZ_ge 38 12 dX8_checkedTools_9 rfl rfl (by decide) (by decide) (fun _ => ?_) (fun q => absurd q (by decide))
      refine g_iload_n 39 dX8_checkedTools_38 rfl rfl ?_
      refine g_iret rfl dX8_checkedTools_39 ?_
      refine rI ?_
      refine g_iret rfl dX8_count_61 ?_
      exact kq _ _ (by unfold a_count; split <;> omega) (Sx.refl _ _)
    · refine g_tabZI (4) 62 dX8_count_1 rw c2 (by decide) (by decide) rfl rfl ?_
      refine g_aload_n 63 dX8_count_62 rfl rfl ?_
      refine g_aload_n 64 dX8_count_63 rfl rfl ?_
      refine g_callV (z := mX8_staleBits) (As := []) 67 dX8_count_64 mwX8_staleBits ⟨by decide, by decide⟩ rfl wlX8_158 wiX8_staleBits wsX8_staleBits F.1 rfl rfl rfl (nle rfl) (nle rfl) rfl ?_
      refine Go.to [some (.ref 0), none, none, none] [] rfl rfl ?_
      refine g_iconst (v := iZ (0)) 1 dX8_staleBits_0 rfl rfl ?_
      refine g_istore_n (L1 := [some (.ref 0), some (.int (iZ 0)), none, none]) 2 dX8_staleBits_1 (by decide) rfl rfl rfl ?_
      refine g_iconst (v := iZ (0)) 3 dX8_staleBits_2 rfl rfl ?_
      refine g_istore_n (L1 := [some (.ref 0), some (.int (iZ 0)), some (.int (iZ 0)), none]) 4 dX8_staleBits_3 (by decide) rfl rfl rfl ?_
      refine g_iload_n 5 dX8_staleBits_4 rfl rfl ?_
      refine g_aload_n 6 dX8_staleBits_5 rfl rfl ?_
      refine g_get 9 dX8_staleBits_6 faX8_26_X8 F.1 rfl rfl ?_
      refine g_icZ_ge 50 12 dX8_staleBits_9 rfl rfl (by decide) (by decide) (fun _ => ?_) (fun q => absurd q (by decide))
      refine g_iload_n 51 dX8_staleBits_50 rfl rfl ?_
      refine g_iret rfl dX8_staleBits_51 ?_
      refine rI ?_
      refine g_callV (z := mX8_sealedTools) (As := [.int (iZ 0)]) 70 dX8_count_67 mwX8_sealedTools ⟨by decide, by decide⟩ rfl wlX8_225 wiX8_sealedTools wsX8_sealedTools F.1 rfl rfl rfl (nle rfl) (nle rfl) rfl ?_
      refine Go.to [some (.ref 0), some (.int (iZ 0)), none, none] [] rfl rfl ?_
      refine g_iconst (v := iZ (0)) 1 dX8_sealedTools_0 rfl rfl ?_
      refine g_istore_n (L1 := [some (.ref 0), some (.int (iZ 0)), some (.int (iZ 0)), none]) 2 dX8_sealedTools_1 (by decide) rfl rfl rfl ?_
      refine g_iconst (v := iZ (0)) 3 dX8_sealedTools_2 rfl rfl ?_
      refine g_istore_n (L1 := [some (.ref 0), some (.int (iZ 0)), some (.int (iZ 0)), some (.int (iZ 0))]) 4 dX8_sealedTools_3 (by decide) rfl rfl rfl ?_
      refine g_iload_n 5 dX8_sealedTools_4 rfl rfl ?_
      refine g_aload_n 6 dX8_sealedTools_5 rfl rfl ?_
      refine g_get 9 dX8_sealedTools_6 faX8_26_X8 F.1 rfl rfl ?_
      refine g_icZ_ge 30 12 dX8_sealedTools_9 rfl rfl (by decide) (by decide) (fun _ => ?_) (fun q => absurd q (by decide))
      refine g_iload_n 31 dX8_sealedTools_30 rfl rfl ?_
      refine g_iret rfl dX8_sealedTools_31 ?_
      refine rI ?_
      refine g_iret rfl dX8_count_70 ?_
      exact kq _ _ (by unfold a_count; split <;> omega) (Sx.refl _ _)
set_option maxRecDepth 100000 in
theorem q8_trace {l : Launch} {h : MH} (F : FX h)  {Q : Option Value → MH → Prop} (kq : ∀ h1, Sx 50 h h1 → Q (some (.long 0)) h1) : Go l mX8_trace 0 [some (.ref 0)] [] h Q := by
  refine g_aload_n 1 dX8_trace_0 rfl rfl ?_
  refine g_get 4 dX8_trace_1 faX8_63_X8 F.1 rfl rfl ?_
  refine g_lret rfl dX8_trace_4 ?_
  exact kq _ (Sx.refl _ _)

set_option maxRecDepth 100000 in
theorem b_len_l {l : Launch} {h : MH} {Q : Option Value → MH → Prop} {tr : Int64} {ty tx : Nat → Int32} {w : Nat → Int} {B : Nat → Nat → Int} {t : Int} (H : R9B h tr ty tx w B) (rt : (0 ≤ t ∧ t ≤ 11)) (ht : t < w 5) (k : ∀ r : Int, ((∀ n : Nat, (n : Int) < r → 0 ≤ itB (B 59) t n ∧ itB (B 59) t n ≤ t) ∧ 1 ≤ r ∧ r ≤ 12 ∧ itB (B 59) t r.toNat = -9) → Q (some (.int (iZ r))) h) : ∀ (m0 : Nat) (n : Int) (c : Int), (c + 9).toNat = m0 → (0 ≤ n ∧ (c = -9 ∧ 1 ≤ n ∧ n ≤ t + 1 ∨ (0 ≤ c ∧ c ≤ t - n))) → (∀ m : Nat, (m : Int) < n → 0 ≤ itB (B 59) t m ∧ itB (B 59) t m ≤ t) → (itB (B 59) t n.toNat = c) → Go l mX9_lengthOf 4 [some (.ref 50), none, some (.int (iZ n)), some (.int (iZ c))] [] h Q := by
  intro m0
  induction m0 using Nat.strongRecOn with
  | ind m0 ih =>
    intro n c hmz hn hI hC
    have n0 := H.2.2.1.2.1
    refine g_iload_n 5 dX9_lengthOf_4 rfl rfl ?_
    refine g_bipush (v := iZ (-9)) 7 dX9_lengthOf_5 (by decide +kernel) rfl ?_
    refine g_icZ_eq 23 10 dX9_lengthOf_7 rfl rfl (by omega) (by decide) (fun c1 => ?_) (fun c1 => ?_)
    · refine g_iload_n 24 dX9_lengthOf_23 rfl rfl ?_
      refine g_iret rfl dX9_lengthOf_24 ?_
      exact k (n) ⟨fun n hn => hI n (by omega), by omega, by omega, by rw [hC]; omega⟩ 
    · refine g_iincZ [some (.ref 50), none, some (.int (iZ (n + 1))), some (.int (iZ c))] 13 dX9_lengthOf_10 rfl (by omega) (by decide) rfl rfl rfl ?_
      have q1 := (H.2.2.2.2.2 c (by omega) (by omega)).2.1
      refine g_aload_n 14 dX9_lengthOf_13 rfl rfl ?_
      obtain ⟨F50_2, ⟨F51_2, F52_2, F53_2, F54_2, F55_2, F56_2, F57_2, F58_2, F59_2, F60_2, F61_2, F62_2, F63_2, F64_2, F65_2, F66_2, F67_2, F68_2, F69_2, F70_2, kty_2, ktx_2⟩, ⟨r2_2, r5_2, r13_2, r14_2, r15_2, r16_2, r17_2, r18_2, r19_2, r20_2, r25_2, r26_2, r27_2, r28_2, r29_2, r30_2, r31_2, r35_2⟩, ⟨o53_2, o54_2, o55_2, o56_2, o57_2, o58_2, o59_2, o60_2, o61_2, o62_2, o63_2, o64_2, o65_2, o66_2, o67_2, o68_2, o69_2, o70_2⟩, hT_2⟩ := id H
      refine g_get 17 dX9_lengthOf_14 faX9_35_X9 F50_2 rfl rfl ?_
      refine g_iload_n 18 dX9_lengthOf_17 rfl rfl ?_
      have b3 := o59_2 ((c).toNat)
      refine g_ialdZ (v := iZ ((B 59) c.toNat)) 19 dX9_lengthOf_18 F59_2 (by omega) (by omega) (by decide) rfl rfl ?_
      refine g_istore_n (L1 := [some (.ref 50), none, some (.int (iZ (n + 1))), some (.int (iZ ((B 59) c.toNat)))]) 20 dX9_lengthOf_19 (by decide) rfl rfl rfl ?_
      refine g_goto 4 dX9_lengthOf_20 rfl ?_
      exact ih _ (by omega) (n + 1) ((B 59) c.toNat) rfl (by omega) (itB_s (by omega) (by omega) (by omega) hC hI) (itB_n (by omega) hC)
set_option maxRecDepth 100000 in
theorem b_len {l : Launch} {h : MH} {Q : Option Value → MH → Prop} {tr : Int64} {ty tx : Nat → Int32} {w : Nat → Int} {B : Nat → Nat → Int} {t : Int} (H : R9B h tr ty tx w B) (rt : (0 ≤ t ∧ t ≤ 11)) (ht : t < w 5) (k : ∀ r : Int, ((∀ n : Nat, (n : Int) < r → 0 ≤ itB (B 59) t n ∧ itB (B 59) t n ≤ t) ∧ 1 ≤ r ∧ r ≤ 12 ∧ itB (B 59) t r.toNat = -9) → Q (some (.int (iZ r))) h) : Go l mX9_lengthOf 0 [some (.ref 50), some (.int (iZ t)), none, none] [] h Q := by
  have n0 := H.2.2.1.2.1
  refine g_iconst (v := iZ (0)) 1 dX9_lengthOf_0 rfl rfl ?_
  refine g_istore_n (L1 := [some (.ref 50), some (.int (iZ t)), some (.int (iZ 0)), none]) 2 dX9_lengthOf_1 (by decide) rfl rfl rfl ?_
  refine g_iload_n 3 dX9_lengthOf_2 rfl rfl ?_
  refine g_istore_n (L1 := [some (.ref 50), some (.int (iZ t)), some (.int (iZ 0)), some (.int (iZ t))]) 4 dX9_lengthOf_3 (by decide) rfl rfl rfl ?_
  refine Go.fgt 1 ?_
  exact b_len_l H rt ht k _ (0) (t) rfl (by omega) (fun m hm => by omega) rfl
set_option maxRecDepth 100000 in
theorem b_last_l {l : Launch} {h : MH} {Q : Option Value → MH → Prop} {tr : Int64} {ty tx : Nat → Int32} {w : Nat → Int} {B : Nat → Nat → Int} {t : Int} (H : R9B h tr ty tx w B) (rt : (0 ≤ t ∧ t ≤ 11)) (ht : t < w 5) (k : ∀ r : Int, (0 ≤ r ∧ r ≤ t) → Q (some (.int (iZ r))) h) : ∀ (m0 : Nat) (c : Int), c.toNat = m0 → (0 ≤ c ∧ c ≤ t) → Go l mX9_last 2 [some (.ref 50), none, some (.int (iZ c))] [] h Q := by
  intro m0
  induction m0 using Nat.strongRecOn with
  | ind m0 ih =>
    intro c hmz hc
    have n0 := H.2.2.1.2.1
    refine g_aload_n 3 dX9_last_2 rfl rfl ?_
    obtain ⟨F50_1, ⟨F51_1, F52_1, F53_1, F54_1, F55_1, F56_1, F57_1, F58_1, F59_1, F60_1, F61_1, F62_1, F63_1, F64_1, F65_1, F66_1, F67_1, F68_1, F69_1, F70_1, kty_1, ktx_1⟩, ⟨r2_1, r5_1, r13_1, r14_1, r15_1, r16_1, r17_1, r18_1, r19_1, r20_1, r25_1, r26_1, r27_1, r28_1, r29_1, r30_1, r31_1, r35_1⟩, ⟨o53_1, o54_1, o55_1, o56_1, o57_1, o58_1, o59_1, o60_1, o61_1, o62_1, o63_1, o64_1, o65_1, o66_1, o67_1, o68_1, o69_1, o70_1⟩, hT_1⟩ := id H
    refine g_get 6 dX9_last_3 faX9_35_X9 F50_1 rfl rfl ?_
    refine g_iload_n 7 dX9_last_6 rfl rfl ?_
    have b2 := o59_1 ((c).toNat)
    refine g_ialdZ (v := iZ ((B 59) c.toNat)) 8 dX9_last_7 F59_1 (by omega) (by omega) (by decide) rfl rfl ?_
    refine g_bipush (v := iZ (-9)) 10 dX9_last_8 (by decide +kernel) rfl ?_
    refine g_icZ_eq 23 13 dX9_last_10 rfl rfl (by omega) (by decide) (fun c3 => ?_) (fun c3 => ?_)
    · refine g_iload_n 24 dX9_last_23 rfl rfl ?_
      refine g_iret rfl dX9_last_24 ?_
      exact k (c) (by omega) 
    · have q1 := (H.2.2.2.2.2 c (by omega) (by omega)).2.1
      refine g_aload_n 14 dX9_last_13 rfl rfl ?_
      refine g_get 17 dX9_last_14 faX9_35_X9 F50_1 rfl rfl ?_
      refine g_iload_n 18 dX9_last_17 rfl rfl ?_
      have b4 := o59_1 ((c).toNat)
      refine g_ialdZ (v := iZ ((B 59) c.toNat)) 19 dX9_last_18 F59_1 (by omega) (by omega) (by decide) rfl rfl ?_
      refine g_istore_n (L1 := [some (.ref 50), none, some (.int (iZ ((B 59) c.toNat)))]) 20 dX9_last_19 (by decide) rfl rfl rfl ?_
      refine g_goto 2 dX9_last_20 rfl ?_
      exact ih _ (by omega) ((B 59) c.toNat) rfl (by omega)
set_option maxRecDepth 100000 in
theorem b_last {l : Launch} {h : MH} {Q : Option Value → MH → Prop} {tr : Int64} {ty tx : Nat → Int32} {w : Nat → Int} {B : Nat → Nat → Int} {t : Int} (H : R9B h tr ty tx w B) (rt : (0 ≤ t ∧ t ≤ 11)) (ht : t < w 5) (k : ∀ r : Int, (0 ≤ r ∧ r ≤ t) → Q (some (.int (iZ r))) h) : Go l mX9_last 0 [some (.ref 50), some (.int (iZ t)), none] [] h Q := by
  have n0 := H.2.2.1.2.1
  refine g_iload_n 1 dX9_last_0 rfl rfl ?_
  refine g_istore_n (L1 := [some (.ref 50), some (.int (iZ t)), some (.int (iZ t))]) 2 dX9_last_1 (by decide) rfl rfl rfl ?_
  refine Go.fgt 1 ?_
  exact b_last_l H rt ht k _ (t) rfl (by omega)

theorem agr_set {j n2 : Int} {f2 f : Nat → Int} (h0 : 0 ≤ j) (e : n2 = j) (h : agr j f2 f) : agr (j + 1) (va_up f2 n2.toNat (f j.toNat)) f := by
  subst e
  intro q hq
  by_cases z : q = n2.toNat
  · rw [z, up_eq]
  · rw [up_ne z]
    exact h q (by omega)
set_option maxRecDepth 100000 in
theorem c_cpl_l {l : Launch} {Q : Option Value → MH → Prop} {c M d N : Nat} {n : Int} {f g : Nat → Int} (of : oki (0) (255) f) (og : oki (0) (300) g) (rn : (0 ≤ n ∧ n ≤ 256)) (hM : M ≤ 256) (hN : (N : Int) = n) (hnM : n ≤ M) (hcd : c + 2 < d) : ∀ (m0 : Nat) (h : MH) (n2 : Int) (f2 : Nat → Int) (g2 : Nat → Int) (j : Int), (n - j).toNat = m0 → (0 ≤ n2 ∧ n2 ≤ 256) → oki (0) (255) f2 → oki (0) (300) g2 → h[c]? = some (.inr (0, [.int (iZ ((M : Int))), .ref (c + 1), .ref (c + 2), .int (iZ n)])) → h[c + 1]? = some (.inl (0, M, .inl (zA f))) → h[c + 2]? = some (.inl (0, M, .inl (zA g))) → h[d]? = some (.inr (0, [.int (iZ ((N : Int))), .ref (d + 1), .ref (d + 2), .int (iZ n2)])) → h[d + 1]? = some (.inl (0, N, .inl (zA f2))) → h[d + 2]? = some (.inl (0, N, .inl (zA g2))) → 0 ≤ j ∧ j ≤ n → n2 = j → agr j f2 f → agr j g2 g → (∀ (h1 : MH) (n2_1 : Int) (f2_1 : Nat → Int) (g2_1 : Nat → Int), (0 ≤ n2_1 ∧ n2_1 ≤ 256) → oki (0) (255) f2_1 → oki (0) (300) g2_1 → (n2_1 = n) → (agr n f2_1 f) → (agr n g2_1 g) → Sm [d, d + 1, d + 2] h h1 → h1[d]? = some (.inr (0, [.int (iZ ((N : Int))), .ref (d + 1), .ref (d + 2), .int (iZ n2_1)])) → h1[d + 1]? = some (.inl (0, N, .inl (zA f2_1))) → h1[d + 2]? = some (.inl (0, N, .inl (zA g2_1))) → Q (some (.ref (d))) h1) → Go l mX0_copied 14 [some (.ref c), some (.ref d), some (.int (iZ j))] [] h Q := by
  intro m0
  induction m0 using Nat.strongRecOn with
  | ind m0 ih =>
    intro h n2 f2 g2 j hmz rn2 of2 og2 F0 F1 F2 F3 F4 F5 hj hn2 hf hg k
    refine g_iload_n 15 dX0_copied_14 rfl rfl ?_
    refine g_aload_n 16 dX0_copied_15 rfl rfl ?_
    refine g_get 19 dX0_copied_16 faX0_9_X0 F0 rfl rfl ?_
    refine g_icZ_ge 43 22 dX0_copied_19 rfl rfl (by omega) (by omega) (fun c1 => ?_) (fun c1 => ?_)
    · refine g_aload_n 44 dX0_copied_43 rfl rfl ?_
      refine g_aret rfl (Or.inr ⟨_, rfl⟩) dX0_copied_44 ?_
      exact k _ (n2) (f2) (g2) (by omega) of2 og2 (by omega) (fun q hq => hf q (by omega)) (fun q hq => hg q (by omega)) (Sm.refl [d, d + 1, d + 2] _) F3 F4 F5
    · refine g_aload_n 23 dX0_copied_22 rfl rfl ?_
      refine g_aload_n 24 dX0_copied_23 rfl rfl ?_
      refine g_iload_n 25 dX0_copied_24 rfl rfl ?_
      refine g_callV (z := mX0_at) (As := [.int (iZ j)]) 28 dX0_copied_25 mwX0_at ⟨by decide, by decide⟩ rfl wlX0_31 wiX0_at wsX0_at F0 rfl rfl rfl (nle rfl) (nle rfl) rfl ?_
      refine Go.to [some (.ref c), some (.int (iZ j))] [] rfl rfl ?_
      refine g_iload_n 1 dX0_at_0 rfl rfl ?_
      refine g_ifZ_lt 20 4 dX0_at_1 rfl rfl (by omega) (fun q => absurd q (by omega)) (fun _ => ?_)
      refine g_iload_n 5 dX0_at_4 rfl rfl ?_
      refine g_aload_n 6 dX0_at_5 rfl rfl ?_
      refine g_get 9 dX0_at_6 faX0_9_X0 F0 rfl rfl ?_
      refine g_icZ_ge 20 12 dX0_at_9 rfl rfl (by omega) (by omega) (fun q => absurd q (by omega)) (fun _ => ?_)
      refine g_iload_n 13 dX0_at_12 rfl rfl ?_
      refine g_aload_n 14 dX0_at_13 rfl rfl ?_
      refine g_get 17 dX0_at_14 faX0_21_X0 F0 rfl rfl ?_
      refine g_icZ_lt 24 20 dX0_at_17 rfl rfl (by omega) (by omega) (fun _ => ?_) (fun q => absurd q (by omega))
      refine g_aload_n 25 dX0_at_24 rfl rfl ?_
      refine g_get 28 dX0_at_25 faX0_24_X0 F0 rfl rfl ?_
      refine g_iload_n 29 dX0_at_28 rfl rfl ?_
      have b2 := of ((j).toNat)
      refine g_ialdZ (v := iZ (f j.toNat)) 30 dX0_at_29 F1 (by omega) (by omega) (by omega) rfl rfl ?_
      refine g_iret rfl dX0_at_30 ?_
      refine rI ?_
      refine g_aload_n 29 dX0_copied_28 rfl rfl ?_
      refine g_iload_n 30 dX0_copied_29 rfl rfl ?_
      refine g_callV (z := mX0_ledAt) (As := [.int (iZ j)]) 33 dX0_copied_30 mwX0_ledAt ⟨by decide, by decide⟩ rfl wlX0_40 wiX0_ledAt wsX0_ledAt F0 rfl rfl rfl (nle rfl) (nle rfl) rfl ?_
      refine Go.to [some (.ref c), some (.int (iZ j))] [] rfl rfl ?_
      refine g_iload_n 1 dX0_ledAt_0 rfl rfl ?_
      refine g_ifZ_lt 20 4 dX0_ledAt_1 rfl rfl (by omega) (fun q => absurd q (by omega)) (fun _ => ?_)
      refine g_iload_n 5 dX0_ledAt_4 rfl rfl ?_
      refine g_aload_n 6 dX0_ledAt_5 rfl rfl ?_
      refine g_get 9 dX0_ledAt_6 faX0_9_X0 F0 rfl rfl ?_
      refine g_icZ_ge 20 12 dX0_ledAt_9 rfl rfl (by omega) (by omega) (fun q => absurd q (by omega)) (fun _ => ?_)
      refine g_iload_n 13 dX0_ledAt_12 rfl rfl ?_
      refine g_aload_n 14 dX0_ledAt_13 rfl rfl ?_
      refine g_get 17 dX0_ledAt_14 faX0_21_X0 F0 rfl rfl ?_
      refine g_icZ_lt 24 20 dX0_ledAt_17 rfl rfl (by omega) (by omega) (fun _ => ?_) (fun q => absurd q (by omega))
      refine g_aload_n 25 dX0_ledAt_24 rfl rfl ?_
      refine g_get 28 dX0_ledAt_25 faX0_28_X0 F0 rfl rfl ?_
      refine g_iload_n 29 dX0_ledAt_28 rfl rfl ?_
      have b3 := og ((j).toNat)
      refine g_ialdZ (v := iZ (g j.toNat)) 30 dX0_ledAt_29 F2 (by omega) (by omega) (by omega) rfl rfl ?_
      refine g_iret rfl dX0_ledAt_30 ?_
      refine rI ?_
      refine g_callV (z := mX0_add) (As := [.int (iZ (f j.toNat)), .int (iZ (g j.toNat))]) 36 dX0_copied_33 mwX0_add ⟨by decide, by decide⟩ rfl wlX0_43 wiX0_add wsX0_add F3 rfl rfl rfl (nle rfl) (nle rfl) rfl ?_
      refine Go.to [some (.ref d), some (.int (iZ (f j.toNat))), some (.int (iZ (g j.toNat)))] [] rfl rfl ?_
      refine g_aload_n 1 dX0_add_0 rfl rfl ?_
      refine g_get 4 dX0_add_1 faX0_9_X0 F3 rfl rfl ?_
      refine g_ifZ_lt 18 7 dX0_add_4 rfl rfl (by omega) (fun q => absurd q (by omega)) (fun _ => ?_)
      refine g_aload_n 8 dX0_add_7 rfl rfl ?_
      refine g_get 11 dX0_add_8 faX0_9_X0 F3 rfl rfl ?_
      refine g_aload_n 12 dX0_add_11 rfl rfl ?_
      refine g_get 15 dX0_add_12 faX0_21_X0 F3 rfl rfl ?_
      refine g_icZ_lt 20 18 dX0_add_15 rfl rfl (by omega) (by omega) (fun _ => ?_) (fun q => absurd q (by omega))
      refine g_aload_n 21 dX0_add_20 rfl rfl ?_
      refine g_get 24 dX0_add_21 faX0_24_X0 F3 rfl rfl ?_
      refine g_aload_n 25 dX0_add_24 rfl rfl ?_
      refine g_get 28 dX0_add_25 faX0_9_X0 F3 rfl rfl ?_
      refine g_iload_n 29 dX0_add_28 rfl rfl ?_
      refine g_iastFj (n2.toNat) 30 dX0_add_29 F4 (by omega) (by omega) (by omega) rfl rfl (fun h4 s5 f6 => ?_)
      refine g_aload_n 31 dX0_add_30 rfl rfl ?_
      have f7 := (s5.get (by simp <;> omega) F3)
      refine g_get 34 dX0_add_31 faX0_28_X0 f7 rfl rfl ?_
      refine g_aload_n 35 dX0_add_34 rfl rfl ?_
      refine g_get 38 dX0_add_35 faX0_9_X0 f7 rfl rfl ?_
      refine g_iload_n 39 dX0_add_38 rfl rfl ?_
      have f8 := (s5.get (by simp <;> omega) F5)
      refine g_iastFj (n2.toNat) 40 dX0_add_39 f8 (by omega) (by omega) (by omega) rfl rfl (fun h9 s10 f11 => ?_)
      refine g_aload_n 41 dX0_add_40 rfl rfl ?_
      refine g_dup 42 dX0_add_41 rfl rfl ?_
      have f12 := (s10.get (by simp <;> omega) f7)
      refine g_get 45 dX0_add_42 faX0_9_X0 f12 rfl rfl ?_
      refine g_iconst (v := iZ (1)) 46 dX0_add_45 rfl rfl ?_
      refine g_iaddZ (n2 + 1) 47 dX0_add_46 (by omega) rfl ?_
      refine g_putC (fs1 := [.int (iZ ((N : Int))), .ref (d + 1), .ref (d + 2), .int (iZ (n2 + 1))]) 50 dX0_add_47 fpX0_9_X0 f12 (nle rfl) (vI _) rfl rfl (fun h13 s14 f15 => ?_)
      refine g_iconst (v := iZ (1)) 51 dX0_add_50 rfl rfl ?_
      refine g_zret rfl z01_1 dX0_add_51 ?_
      refine rI ?_
      refine g_pop 37 dX0_copied_36 rfl rfl ?_
      refine g_iincZ [some (.ref c), some (.ref d), some (.int (iZ (j + 1)))] 40 dX0_copied_37 rfl (by omega) (by decide) rfl rfl rfl ?_
      refine g_goto 14 dX0_copied_40 rfl ?_
      have f16 := (s14.get (by simp <;> omega) (s10.get (by simp <;> omega) (s5.get (by simp <;> omega) F0)))
      have f17 := (s14.get (by simp <;> omega) (s10.get (by simp <;> omega) (s5.get (by simp <;> omega) F1)))
      have f18 := (s14.get (by simp <;> omega) (s10.get (by simp <;> omega) (s5.get (by simp <;> omega) F2)))
      have f19 := (s14.get (by simp <;> omega) (s10.get (by simp <;> omega) f6))
      have f20 := (s14.get (by simp <;> omega) f11)
      exact ih _ (by omega) _ (n2 + 1) (va_up f2 n2.toNat (f j.toNat)) (va_up g2 n2.toNat (g j.toNat)) (j + 1) rfl (by omega) (oki_up of2 _ (by omega)) (oki_up og2 _ (by omega)) f16 f17 f18 f15 f19 f20 (by omega) (by omega) (agr_set (by omega) hn2 hf) (agr_set (by omega) hn2 hg) (fun hQ xQ0 xQ1 xQ2 yQ0 yQ1 yQ2 pQ0 pQ1 pQ2 sQ uQ0 uQ1 uQ2 => k hQ xQ0 xQ1 xQ2 yQ0 yQ1 yQ2 pQ0 pQ1 pQ2 (((((Sm.refl [d, d + 1, d + 2] _).tr s5 (fun _ q => q) (by simp)).tr s10 (fun _ q => q) (by simp)).tr s14 (fun _ q => q) (by simp)).tr sQ (fun _ q => q) (fun _ q => q)) uQ0 uQ1 uQ2)

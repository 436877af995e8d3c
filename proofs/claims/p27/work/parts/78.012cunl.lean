set_option maxRecDepth 100000 in
theorem c_unl_l {l : Launch} {Q : Option Value → MH → Prop} {c M d N : Nat} {n k0 : Int} {f g f2 g2 : Nat → Int} (of : oki (0) (255) f) (og : oki (0) (300) g) (of2 : oki (0) (255) f2) (og2 : oki (0) (300) g2) (rn : (0 ≤ n ∧ n ≤ 256)) (rk0 : (0 ≤ k0 ∧ k0 ≤ 256)) (hM : M ≤ 256) (hN : N ≤ 256) (hnM : n ≤ M) (hnN : k0 ≤ N) : ∀ (m0 : Nat) (h : MH) (u j : Int), (u - j).toNat = m0 → h[c]? = some (.inr (0, [.int (iZ ((M : Int))), .ref (c + 1), .ref (c + 2), .int (iZ n)])) → h[c + 1]? = some (.inl (0, M, .inl (zA f))) → h[c + 2]? = some (.inl (0, M, .inl (zA g))) → h[d]? = some (.inr (0, [.int (iZ ((N : Int))), .ref (d + 1), .ref (d + 2), .int (iZ k0)])) → h[d + 1]? = some (.inl (0, N, .inl (zA f2))) → h[d + 2]? = some (.inl (0, N, .inl (zA g2))) → u = min n k0 → 0 ≤ j ∧ j ≤ min n k0 → fst1 (fun j => f j ≠ f2 j) j.toNat = -9 → (∀ (r : Int), (r = ulk n f k0 f2 ∧ 0 ≤ r ∧ r ≤ 257) → Q (some (.int (iZ r))) h) → Go l mX0_unlike 14 [some (.ref c), some (.ref d), some (.int (iZ u)), some (.int (iZ j))] [] h Q := by
  intro m0
  induction m0 using Nat.strongRecOn with
  | ind m0 ih =>
    intro h u j hmz F0 F1 F2 F3 F4 F5 hu hj hX k
    refine g_iload_n 15 dX0_unlike_14 rfl rfl ?_
    refine g_iload_n 16 dX0_unlike_15 rfl rfl ?_
    refine g_icZ_ge 42 19 dX0_unlike_16 rfl rfl (by omega) (by omega) (fun c1 => ?_) (fun c1 => ?_)
    · refine g_aload_n 43 dX0_unlike_42 rfl rfl ?_
      refine g_get 46 dX0_unlike_43 faX0_9_X0 F0 rfl rfl ?_
      refine g_aload_n 47 dX0_unlike_46 rfl rfl ?_
      refine g_get 50 dX0_unlike_47 faX0_9_X0 F3 rfl rfl ?_
      refine g_icZ_ne 57 53 dX0_unlike_50 rfl rfl (by omega) (by omega) (fun c2 => ?_) (fun c2 => ?_)
      · refine g_iconst (v := iZ (1)) 58 dX0_unlike_57 rfl rfl ?_
        refine g_iload_n 59 dX0_unlike_58 rfl rfl ?_
        refine g_iaddZ (1 + u) 60 dX0_unlike_59 (by omega) rfl ?_
        refine g_iret rfl dX0_unlike_60 ?_
        have e9 : j = min n k0 := by omega
        rw [e9] at hX
        exact k (1 + u) ⟨by rw [ulk_no hX, if_neg (by omega)]; omega, by omega, by omega⟩
      · refine g_iconst (v := iZ (0)) 54 dX0_unlike_53 rfl rfl ?_
        refine g_goto 60 dX0_unlike_54 rfl ?_
        refine g_iret rfl dX0_unlike_60 ?_
        have e9 : j = min n k0 := by omega
        rw [e9] at hX
        exact k (0) ⟨by rw [ulk_no hX, if_pos (by omega)], by omega, by omega⟩
    · refine g_aload_n 20 dX0_unlike_19 rfl rfl ?_
      refine g_iload_n 21 dX0_unlike_20 rfl rfl ?_
      refine g_callV (z := mX0_at) (As := [.int (iZ j)]) 24 dX0_unlike_21 mwX0_at ⟨by decide, by decide⟩ rfl wlX0_31 wiX0_at wsX0_at F0 rfl rfl rfl (nle rfl) (nle rfl) rfl ?_
      refine Go.to [some (.ref c), some (.int (iZ j))] [] rfl rfl ?_
      refine g_iload_n 1 dX0_at_0 rfl rfl ?_
      refine g_ifZ_lt 20 4 dX0_at_1 rfl rfl (by omega) (fun q => absurd q (by omega)) (fun _ => ?_)
      refine g_iload_n 5 dX0_at_4 rfl rfl ?_
      refine g_aload_n 6 dX0_at_5 rfl rfl ?_
      refine g_get 9 dX0_at_6 faX0_9_X0 F0 rfl rfl ?_
      refine g_icZ_ge 20 12 dX0_at_9 rfl rfl (by omega) (by omega) (fun q => absurd q (by omega)) (fun _ => ?_)
      refine g_iload_n 13 dX0_at_12 rfl rfl ?_
      refine g_aload_n 14 dX0_at_13 rfl rfl ?_
      refine g_get 17 dX0_at_14 faX0_21_X0 F0 rfl rfl ?_
      refine g_icZ_lt 24 20 dX0_at_17 rfl rfl (by omega) (by omega) (fun _ => ?_) (fun q => absurd q (by omega))
      refine g_aload_n 25 dX0_at_24 rfl rfl ?_
      refine g_get 28 dX0_at_25 faX0_24_X0 F0 rfl rfl ?_
      refine g_iload_n 29 dX0_at_28 rfl rfl ?_
      have b3 := of ((j).toNat)
      refine g_ialdZ (v := iZ (f j.toNat)) 30 dX0_at_29 F1 (by omega) (by omega) (by omega) rfl rfl ?_
      refine g_iret rfl dX0_at_30 ?_
      refine rI ?_
      refine g_aload_n 25 dX0_unlike_24 rfl rfl ?_
      refine g_iload_n 26 dX0_unlike_25 rfl rfl ?_
      refine g_callV (z := mX0_at) (As := [.int (iZ j)]) 29 dX0_unlike_26 mwX0_at ⟨by decide, by decide⟩ rfl wlX0_31 wiX0_at wsX0_at F3 rfl rfl rfl (nle rfl) (nle rfl) rfl ?_
      refine Go.to [some (.ref d), some (.int (iZ j))] [] rfl rfl ?_
      refine g_iload_n 1 dX0_at_0 rfl rfl ?_
      refine g_ifZ_lt 20 4 dX0_at_1 rfl rfl (by omega) (fun q => absurd q (by omega)) (fun _ => ?_)
      refine g_iload_n 5 dX0_at_4 rfl rfl ?_
      refine g_aload_n 6 dX0_at_5 rfl rfl ?_
      refine g_get 9 dX0_at_6 faX0_9_X0 F3 rfl rfl ?_
      refine g_icZ_ge 20 12 dX0_at_9 rfl rfl (by omega) (by omega) (fun q => absurd q (by omega)) (fun _ => ?_)
      refine g_iload_n 13 dX0_at_12 rfl rfl ?_
      refine g_aload_n 14 dX0_at_13 rfl rfl ?_
      refine g_get 17 dX0_at_14 faX0_21_X0 F3 rfl rfl ?_
      refine g_icZ_lt 24 20 dX0_at_17 rfl rfl (by omega) (by omega) (fun _ => ?_) (fun q => absurd q (by omega))
      refine g_aload_n 25 dX0_at_24 rfl rfl ?_
      refine g_get 28 dX0_at_25 faX0_24_X0 F3 rfl rfl ?_
      refine g_iload_n 29 dX0_at_28 rfl rfl ?_
      have b4 := of2 ((j).toNat)
      refine g_ialdZ (v := iZ (f2 j.toNat)) 30 dX0_at_29 F4 (by omega) (by omega) (by omega) rfl rfl ?_
      refine g_iret rfl dX0_at_30 ?_
      refine rI ?_
      refine g_icZ_eq 36 32 dX0_unlike_29 rfl rfl (by omega) (by omega) (fun c5 => ?_) (fun c5 => ?_)
      · refine g_iincZ [some (.ref c), some (.ref d), some (.int (iZ u)), some (.int (iZ (j + 1)))] 39 dX0_unlike_36 rfl (by omega) (by decide) rfl rfl rfl ?_
        refine g_goto 14 dX0_unlike_39 rfl ?_
        exact ih _ (by omega) _ (u) (j + 1) rfl F0 F1 F2 F3 F4 F5 hu (by omega) ((fstI_neg (P := (fun j => f j ≠ f2 j)) (by omega) (fun q => q.2 c5)).trans hX) k
      · refine g_iconst (v := iZ (1)) 33 dX0_unlike_32 rfl rfl ?_
        refine g_iload_n 34 dX0_unlike_33 rfl rfl ?_
        refine g_iaddZ (1 + j) 35 dX0_unlike_34 (by omega) rfl ?_
        refine g_iret rfl dX0_unlike_35 ?_
        exact k (1 + j) ⟨(ulk_at (by omega) (by omega) hX (by assumption)).symm, by omega, by omega⟩
set_option maxRecDepth 100000 in
theorem c_unl {l : Launch} {h : MH} {Q : Option Value → MH → Prop} {c M d N : Nat} {n k0 : Int} {f g f2 g2 : Nat → Int} (F0 : h[c]? = some (.inr (0, [.int (iZ ((M : Int))), .ref (c + 1), .ref (c + 2), .int (iZ n)]))) (F1 : h[c + 1]? = some (.inl (0, M, .inl (zA f)))) (F2 : h[c + 2]? = some (.inl (0, M, .inl (zA g)))) (F3 : h[d]? = some (.inr (0, [.int (iZ ((N : Int))), .ref (d + 1), .ref (d + 2), .int (iZ k0)]))) (F4 : h[d + 1]? = some (.inl (0, N, .inl (zA f2)))) (F5 : h[d + 2]? = some (.inl (0, N, .inl (zA g2)))) (of : oki (0) (255) f) (og : oki (0) (300) g) (of2 : oki (0) (255) f2) (og2 : oki (0) (300) g2) (rn : (0 ≤ n ∧ n ≤ 256)) (rk0 : (0 ≤ k0 ∧ k0 ≤ 256)) (hM : M ≤ 256) (hN : N ≤ 256) (hnM : n ≤ M) (hnN : k0 ≤ N) (k : ∀ (r : Int), (r = ulk n f k0 f2 ∧ 0 ≤ r ∧ r ≤ 257) → Q (some (.int (iZ r))) h) : Go l mX0_unlike 0 [some (.ref c), some (.ref d), none, none] [] h Q := by
  refine g_aload_n 1 dX0_unlike_0 rfl rfl ?_
  refine g_get 4 dX0_unlike_1 faX0_9_X0 F0 rfl rfl ?_
  refine g_aload_n 5 dX0_unlike_4 rfl rfl ?_
  refine g_get 8 dX0_unlike_5 faX0_9_X0 F3 rfl rfl ?_
  refine g_minT 11 dX0_unlike_8 wlX0_15 wmin1 wMath wmin2 (by decide) (nle rfl) (by omega) (by omega) rfl ?_
  refine g_istore_n (L1 := [some (.ref c), some (.ref d), some (.int (iZ (min n k0))), none]) 12 dX0_unlike_11 (by decide) rfl rfl rfl ?_
  refine g_iconst (v := iZ (0)) 13 dX0_unlike_12 rfl rfl ?_
  refine g_istore_n (L1 := [some (.ref c), some (.ref d), some (.int (iZ (min n k0))), some (.int (iZ 0))]) 14 dX0_unlike_13 (by decide) rfl rfl rfl ?_
  exact c_unl_l of og of2 og2 rn rk0 hM hN hnM hnN _ _ (min n k0) (0) rfl F0 F1 F2 F3 F4 F5 rfl (by omega) rfl k

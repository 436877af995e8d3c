/-- k new cells of at most w fields and elements; of the old ones those of A may have changed -/
def Ex (k w : Nat) (A : List Nat) (h h1 : MH) : Prop := h1.length = h.length + k ∧ msz h1 ≤ msz h + w ∧ ∀ (q : Nat) (x : va_E), q ∉ A → h[q]? = some x → h1[q]? = some x
theorem Ex.get {k w : Nat} {A : List Nat} {h h1 : MH} {q : Nat} {x : va_E} (s : Ex k w A h h1) (hq : q ∉ A) (ha : h[q]? = some x) : h1[q]? = some x := s.2.2 q x hq ha
theorem Nw.ma {h h' : MH} {kd N : Nat} {c : (Nat → Int32) ⊕ (Nat → Int64) ⊕ (Nat → UInt32) ⊕ (Nat → UInt64) ⊕ (Nat → Option Nat)} (s : Nw h h' (.inl (kd, N, c))) : msz h' = msz h + N := s.2.1
theorem Nw.mo {h h' : MH} {ci : Nat} {fs : List Value} (s : Nw h h' (.inr (ci, fs))) : msz h' = msz h + fs.length := s.2.1
set_option maxRecDepth 100000 in
theorem w_cinit {l : Launch} {h : MH} {Q : Option Value → MH → Prop} {a : Nat} {n : Int} (F0 : h[a]? = some (.inr (0, [.int 0, .null, .null, .int 0]))) (rn : rg n) (hl : h.length = a + 1) (k : ∀ (h1 : MH) (M : Nat), M ≤ 256 → Ex 2 512 [a] h h1 → h1[a]? = some (.inr (0, [.int (iZ (M : Int)), .ref (a + 1), .ref (a + 2), .int (iZ 0)])) → h1[a + 1]? = some (.inl (0, M, .inl (zA (fun _ => 0)))) → h1[a + 2]? = some (.inl (0, M, .inl (zA (fun _ => 0)))) → Q none h1) : Go l mX0_init 0 [some (.ref a), some (.int (iZ n))] [] h Q := by
  refine g_aload_n 1 dX0_init_0 rfl rfl ?_
  refine g_obj 4 dX0_init_1 wlX0_3 wObj1 wObj2 (by decide) (nle rfl) rfl ?_
  refine g_aload_n 5 dX0_init_4 rfl rfl ?_
  refine g_iconst (v := iZ (0)) 6 dX0_init_5 rfl rfl ?_
  refine g_putC (fs1 := [.int 0, .null, .null, .int (iZ 0)]) 9 dX0_init_6 fpX0_9_X0 F0 (nle rfl) (vI _) rfl rfl (fun h1 s2 f3 => ?_)
  refine g_aload_n 10 dX0_init_9 rfl rfl ?_
  refine g_iload_n 11 dX0_init_10 rfl rfl ?_
  refine g_ifZ_ge 18 14 dX0_init_11 rfl rfl rn (fun c4 => ?_) (fun c4 => ?_)
  · refine g_iload_n 19 dX0_init_18 rfl rfl ?_
    refine g_sipush (v := iZ (256)) 22 dX0_init_19 (by decide +kernel) rfl ?_
    refine g_minT 25 dX0_init_22 wlX0_15 wmin1 wMath wmin2 (by decide) (nle rfl) rn (by decide) rfl ?_
    obtain ⟨M, eM, hM⟩ : ∃ M : Nat, min n 256 = (M : Int) ∧ M ≤ 256 := ⟨(min n 256).toNat, by omega, by omega⟩
    rw [eM]
    refine g_putFN (fs1 := [.int (iZ ((M : Int))), .null, .null, .int (iZ 0)]) 28 dX0_init_25 ffX0_21_X0 rfl f3 (nle rfl) (vI _) rfl rfl (fun h5 s6 f7 => ?_)
    refine g_aload_n 29 dX0_init_28 rfl rfl ?_
    refine g_aload_n 30 dX0_init_29 rfl rfl ?_
    refine g_get 33 dX0_init_30 faX0_21_X0 f7 rfl rfl ?_
    refine g_newarrN (N := M) (a + 1) 35 dX0_init_33 (by omega) (by omega) (by omega) rfl (s6.1.trans (s2.1.trans hl)) (fun h8 s9 f10 => ?_)
    have f11 := (s9.get f7)
    refine g_putFN (fs1 := [.int (iZ ((M : Int))), .ref (a + 1), .null, .int (iZ 0)]) 38 dX0_init_35 ffX0_24_X0 rfl f11 (nle rfl) (vA _ _) rfl rfl (fun h12 s13 f14 => ?_)
    refine g_aload_n 39 dX0_init_38 rfl rfl ?_
    refine g_aload_n 40 dX0_init_39 rfl rfl ?_
    refine g_get 43 dX0_init_40 faX0_21_X0 f14 rfl rfl ?_
    refine g_newarrN (N := M) (a + 1 + 1) 45 dX0_init_43 (by omega) (by omega) (by omega) rfl (s13.1.trans (s9.1.trans (congrArg (· + 1) (s6.1.trans (s2.1.trans hl))))) (fun h15 s16 f17 => ?_)
    have f18 := (s16.get f14)
    refine g_putFN (fs1 := [.int (iZ ((M : Int))), .ref (a + 1), .ref (a + 1 + 1), .int (iZ 0)]) 48 dX0_init_45 ffX0_28_X0 rfl f18 (nle rfl) (vA _ _) rfl rfl (fun h19 s20 f21 => ?_)
    refine g_vret rfl dX0_init_48 ?_
    have mz22 := s2.2.1
    have ln23 := s2.1
    have mz24 := s6.2.1
    have ln25 := s6.1
    have mz26 := s9.ma
    have ln27 := s9.1
    have mz28 := s13.2.1
    have ln29 := s13.1
    have mz30 := s16.ma
    have ln31 := s16.1
    have mz32 := s20.2.1
    have ln33 := s20.1
    have f34 := (s20.get (by simp <;> omega) (s16.get (s13.get (by simp <;> omega) f10)))
    have f35 := (s20.get (by simp <;> omega) f17)
    refine k _ M hM ⟨by omega, by omega, fun q x hq hx => ?_⟩ f21 f34 f35
    have hlt := (List.getElem?_eq_some_iff.mp hx).1
    exact (s20.get (by simp at hq hlt ⊢ <;> omega) (s16.get (s13.get (by simp at hq hlt ⊢ <;> omega) (s9.get (s6.get (by simp at hq hlt ⊢ <;> omega) (s2.get (by simp at hq hlt ⊢ <;> omega) hx))))))
  · refine g_iconst (v := iZ (0)) 15 dX0_init_14 rfl rfl ?_
    refine g_goto 25 dX0_init_15 rfl ?_
    have hM : (0 : Nat) ≤ 256 := by decide
    refine g_putFN (fs1 := [.int (iZ 0), .null, .null, .int (iZ 0)]) 28 dX0_init_25 ffX0_21_X0 rfl f3 (nle rfl) (vI _) rfl rfl (fun h36 s37 f38 => ?_)
    refine g_aload_n 29 dX0_init_28 rfl rfl ?_
    refine g_aload_n 30 dX0_init_29 rfl rfl ?_
    refine g_get 33 dX0_init_30 faX0_21_X0 f38 rfl rfl ?_
    refine g_newarrN (N := 0) (a + 1) 35 dX0_init_33 (by omega) (by omega) (by omega) rfl (s37.1.trans (s2.1.trans hl)) (fun h39 s40 f41 => ?_)
    have f42 := (s40.get f38)
    refine g_putFN (fs1 := [.int (iZ 0), .ref (a + 1), .null, .int (iZ 0)]) 38 dX0_init_35 ffX0_24_X0 rfl f42 (nle rfl) (vA _ _) rfl rfl (fun h43 s44 f45 => ?_)
    refine g_aload_n 39 dX0_init_38 rfl rfl ?_
    refine g_aload_n 40 dX0_init_39 rfl rfl ?_
    refine g_get 43 dX0_init_40 faX0_21_X0 f45 rfl rfl ?_
    refine g_newarrN (N := 0) (a + 1 + 1) 45 dX0_init_43 (by omega) (by omega) (by omega) rfl (s44.1.trans (s40.1.trans (congrArg (· + 1) (s37.1.trans (s2.1.trans hl))))) (fun h46 s47 f48 => ?_)
    have f49 := (s47.get f45)
    refine g_putFN (fs1 := [.int (iZ 0), .ref (a + 1), .ref (a + 1 + 1), .int (iZ 0)]) 48 dX0_init_45 ffX0_28_X0 rfl f49 (nle rfl) (vA _ _) rfl rfl (fun h50 s51 f52 => ?_)
    refine g_vret rfl dX0_init_48 ?_
    have mz53 := s2.2.1
    have ln54 := s2.1
    have mz55 := s37.2.1
    have ln56 := s37.1
    have mz57 := s40.ma
    have ln58 := s40.1
    have mz59 := s44.2.1
    have ln60 := s44.1
    have mz61 := s47.ma
    have ln62 := s47.1
    have mz63 := s51.2.1
    have ln64 := s51.1
    have f65 := (s51.get (by simp <;> omega) (s47.get (s44.get (by simp <;> omega) f41)))
    have f66 := (s51.get (by simp <;> omega) f48)
    refine k _ 0 hM ⟨by omega, by omega, fun q x hq hx => ?_⟩ f52 f65 f66
    have hlt := (List.getElem?_eq_some_iff.mp hx).1
    exact (s51.get (by simp at hq hlt ⊢ <;> omega) (s47.get (s44.get (by simp at hq hlt ⊢ <;> omega) (s40.get (s37.get (by simp at hq hlt ⊢ <;> omega) (s2.get (by simp at hq hlt ⊢ <;> omega) hx))))))
set_option maxRecDepth 100000 in
theorem w_cpl_l {l : Launch} {Q : Option Value → MH → Prop} {c d M N : Nat} {n : Int} {f g : Nat → Int} (of : okr f) (og : okr g) (rn : rg n) (hM : M ≤ 256) (hN : N ≤ 256) (hcd : c + 2 < d) : ∀ (m0 : Nat) (h : MH) (n2 : Int) (f2 g2 : Nat → Int) (j : Int), (n - j).toNat = m0 → rg n2 → okr f2 → okr g2 → h[c]? = some (.inr (0, [.int (iZ ((M : Int))), .ref (c + 1), .ref (c + 2), .int (iZ n)])) → h[c + 1]? = some (.inl (0, M, .inl (zA f))) → h[c + 2]? = some (.inl (0, M, .inl (zA g))) → h[d]? = some (.inr (0, [.int (iZ ((N : Int))), .ref (d + 1), .ref (d + 2), .int (iZ n2)])) → h[d + 1]? = some (.inl (0, N, .inl (zA f2))) → h[d + 2]? = some (.inl (0, N, .inl (zA g2))) → rg j → (∀ (h1 : MH) (n2_1 : Int) (f2_1 g2_1 : Nat → Int), rg n2_1 → okr f2_1 → okr g2_1 → Sm [d, d + 1, d + 2] h h1 → h1[d]? = some (.inr (0, [.int (iZ ((N : Int))), .ref (d + 1), .ref (d + 2), .int (iZ n2_1)])) → h1[d + 1]? = some (.inl (0, N, .inl (zA f2_1))) → h1[d + 2]? = some (.inl (0, N, .inl (zA g2_1))) → Q (some (.ref (d))) h1) → Go l mX0_copied 14 [some (.ref c), some (.ref d), some (.int (iZ j))] [] h Q := by
  intro m0
  induction m0 using Nat.strongRecOn with
  | ind m0 ih =>
    intro h n2 f2 g2 j hmz rn2 of2 og2 F0 F1 F2 F3 F4 F5 rj k
    refine g_iload_n 15 dX0_copied_14 rfl rfl ?_
    refine g_aload_n 16 dX0_copied_15 rfl rfl ?_
    refine g_get 19 dX0_copied_16 faX0_9_X0 F0 rfl rfl ?_
    refine g_icZ_ge 43 22 dX0_copied_19 rfl rfl rj rn (fun c1 => ?_) (fun c1 => ?_)
    · refine g_aload_n 44 dX0_copied_43 rfl rfl ?_
      refine g_aret rfl (Or.inr ⟨_, rfl⟩) dX0_copied_44 ?_
      exact k _ (n2) (f2) (g2) rn2 of2 og2 (Sm.refl [d, d + 1, d + 2] _) F3 F4 F5
    · refine g_aload_n 23 dX0_copied_22 rfl rfl ?_
      refine g_aload_n 24 dX0_copied_23 rfl rfl ?_
      refine g_iload_n 25 dX0_copied_24 rfl rfl ?_
      refine g_callV (z := mX0_at) (As := [.int (iZ j)]) 28 dX0_copied_25 mwX0_at ⟨by decide, by decide⟩ rfl wlX0_31 wiX0_at wsX0_at F0 rfl rfl rfl (nle rfl) (nle rfl) rfl ?_
      refine w_cat (M := M) F0 F1 F2 of og rn rj (by omega) (fun z2 rz2 => ?_)
      refine rI ?_
      refine g_aload_n 29 dX0_copied_28 rfl rfl ?_
      refine g_iload_n 30 dX0_copied_29 rfl rfl ?_
      refine g_callV (z := mX0_ledAt) (As := [.int (iZ j)]) 33 dX0_copied_30 mwX0_ledAt ⟨by decide, by decide⟩ rfl wlX0_40 wiX0_ledAt wsX0_ledAt F0 rfl rfl rfl (nle rfl) (nle rfl) rfl ?_
      refine w_led (M := M) F0 F1 F2 of og rn rj (by omega) (fun z3 rz3 => ?_)
      refine rI ?_
      refine g_callV (z := mX0_add) (As := [.int (iZ z2), .int (iZ z3)]) 36 dX0_copied_33 mwX0_add ⟨by decide, by decide⟩ rfl wlX0_43 wiX0_add wsX0_add F3 rfl rfl rfl (nle rfl) (nle rfl) rfl ?_
      refine w_cadd (M := N) F3 F4 F5 of2 og2 rn2 rz2 rz3 (by omega) (fun h4 z6 g7 g8 z9 rz6 og7 og8 rz9 s5 f10 f11 f12 => ?_)
      refine rI ?_
      refine g_pop 37 dX0_copied_36 rfl rfl ?_
      refine g_iincZ [some (.ref c), some (.ref d), some (.int (iZ (j + 1)))] 40 dX0_copied_37 rfl (by omega) (by decide) rfl rfl rfl ?_
      refine g_goto 14 dX0_copied_40 rfl ?_
      have f13 := (s5.get (by simp <;> omega) F0)
      have f14 := (s5.get (by simp <;> omega) F1)
      have f15 := (s5.get (by simp <;> omega) F2)
      exact ih _ (by omega) _ (z6) (g7) (g8) (j + 1) rfl rz6 og7 og8 f13 f14 f15 f10 f11 f12 (by omega) (fun hQ xQ0 xQ1 xQ2 yQ0 yQ1 yQ2 sQ uQ0 uQ1 uQ2 => k hQ xQ0 xQ1 xQ2 yQ0 yQ1 yQ2 (((Sm.refl [d, d + 1, d + 2] _).tr s5 (fun _ q => q) (by simp)).tr sQ (fun _ q => q) (fun _ q => q)) uQ0 uQ1 uQ2)
set_option maxRecDepth 100000 in
theorem w_copied {l : Launch} {h : MH} {Q : Option Value → MH → Prop} {a c M : Nat} {n : Int} {f g : Nat → Int} (C0 : h[c]? = some (.inr (0, [.int (iZ (M : Int)), .ref (c + 1), .ref (c + 2), .int (iZ n)]))) (C1 : h[c + 1]? = some (.inl (0, M, .inl (zA f)))) (C2 : h[c + 2]? = some (.inl (0, M, .inl (zA g)))) (of : okr f) (og : okr g) (rn : rg n) (hM : M ≤ 256) (hl : h.length = a) (k : ∀ (h1 : MH) (N : Nat) (n1 : Int) (f1 g1 : Nat → Int), N ≤ 256 → rg n1 → okr f1 → okr g1 → Ex 3 516 [] h h1 → h1[a]? = some (.inr (0, [.int (iZ (N : Int)), .ref (a + 1), .ref (a + 2), .int (iZ n1)])) → h1[a + 1]? = some (.inl (0, N, .inl (zA f1))) → h1[a + 2]? = some (.inl (0, N, .inl (zA g1))) → Q (some (.ref a)) h1) : Go l mX0_copied 0 [some (.ref c), none, none] [] h Q := by
  have hca := (List.getElem?_eq_some_iff.mp C2).1
  rw [hl] at hca
  refine g_newN (a) 3 dX0_copied_0 fnX0_10 rfl hl (fun h1 s2 f3 => ?_)
  refine g_dup 4 dX0_copied_3 rfl rfl ?_
  refine g_aload_n 5 dX0_copied_4 rfl rfl ?_
  have f4 := (s2.get C0)
  refine g_get 8 dX0_copied_5 faX0_9_X0 f4 rfl rfl ?_
  refine g_callI (z := mX0_init) (As := [.int (iZ n)]) 11 dX0_copied_8 mwX0_init rfl ⟨by decide, by decide⟩ rfl wlX0_37 wiX0_init rfl rfl (nle rfl) (nle rfl) rfl ?_
  refine w_cinit f3 rn (s2.1.trans (congrArg (· + 1) hl)) (fun h5 M6 hM6 s7 f8 f9 f10 => ?_)
  refine rV ?_
  refine g_astore_n (L1 := [some (.ref c), some (.ref a), none]) 12 dX0_copied_11 (by decide) rfl rfl rfl ?_
  refine g_iconst (v := iZ (0)) 13 dX0_copied_12 rfl rfl ?_
  refine g_istore_n (L1 := [some (.ref c), some (.ref a), some (.int (iZ 0))]) 14 dX0_copied_13 (by decide) rfl rfl rfl ?_
  have f11 := (s7.get (by simp <;> omega) f4)
  have f12 := (s7.get (by simp <;> omega) (s2.get C1))
  have f13 := (s7.get (by simp <;> omega) (s2.get C2))
  refine w_cpl_l of og rn hM hM6 (by omega) _ _ _ _ _ _ rfl rg_0 okr_0 okr_0 f11 f12 f13 f8 f9 f10 rg_0 (fun h9 n9 f9 g9 r9 p9 q9 s9 u0 u1 u2 => ?_)
  have mz14 := s2.mo
  simp only [List.length_cons, List.length_nil] at mz14
  have ln15 := s2.1
  have mz16 := s7.2.1
  have ln17 := s7.1
  have mzz := s9.2.1
  have lnz := s9.1
  refine k _ M6 n9 f9 g9 hM6 r9 p9 q9 ⟨by omega, by omega, fun q x hq hx => ?_⟩ u0 u1 u2
  have hlt := (List.getElem?_eq_some_iff.mp hx).1
  rw [hl] at hlt
  exact s9.get (by simp <;> omega) (s7.get (by simp at hq hlt ⊢ <;> omega) (s2.get hx))

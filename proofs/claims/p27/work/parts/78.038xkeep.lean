set_option maxRecDepth 100000 in
theorem x_cinit {l : Launch} {h : MH} {Q : Option Value → MH → Prop} {a : Nat} {n : Int} (F0 : h[a]? = some (.inr (0, [.int 0, .null, .null, .int 0]))) (rn : 0 ≤ n ∧ n ≤ 256) (hl : h.length = a + 1) (k : ∀ (h1 : MH) (M : Nat), (M : Int) = n → Ex 2 512 [a] h h1 → h1[a]? = some (.inr (0, [.int (iZ (M : Int)), .ref (a + 1), .ref (a + 2), .int (iZ 0)])) → h1[a + 1]? = some (.inl (0, M, .inl (zA (fun _ => 0)))) → h1[a + 2]? = some (.inl (0, M, .inl (zA (fun _ => 0)))) → Q none h1) : Go l mX0_init 0 [some (.ref a), some (.int (iZ n))] [] h Q := by
  refine g_aload_n 1 dX0_init_0 rfl rfl ?_
  refine g_obj 4 dX0_init_1 wlX0_3 wObj1 wObj2 (by decide) (nle rfl) rfl ?_
  refine g_aload_n 5 dX0_init_4 rfl rfl ?_
  refine g_iconst (v := iZ (0)) 6 dX0_init_5 rfl rfl ?_
  refine g_putC (fs1 := [.int 0, .null, .null, .int (iZ 0)]) 9 dX0_init_6 fpX0_9_X0 F0 (nle rfl) (vI _) rfl rfl (fun h1 s2 f3 => ?_)
  refine g_aload_n 10 dX0_init_9 rfl rfl ?_
  refine g_iload_n 11 dX0_init_10 rfl rfl ?_
  refine g_ifZ_ge 18 14 dX0_init_11 rfl rfl (by omega) (fun _ => ?_) (fun q => absurd q (by omega))
  refine g_iload_n 19 dX0_init_18 rfl rfl ?_
  refine g_sipush (v := iZ (256)) 22 dX0_init_19 (by decide +kernel) rfl ?_
  refine g_minT 25 dX0_init_22 wlX0_15 wmin1 wMath wmin2 (by decide) (nle rfl) (by omega) (by decide) rfl ?_
  obtain ⟨M, eM, hM⟩ : ∃ M : Nat, min n 256 = (M : Int) ∧ M ≤ 256 := ⟨(min n 256).toNat, by omega, by omega⟩
  rw [eM]
  refine g_putFN (fs1 := [.int (iZ ((M : Int))), .null, .null, .int (iZ 0)]) 28 dX0_init_25 ffX0_21_X0 rfl f3 (nle rfl) (vI _) rfl rfl (fun h4 s5 f6 => ?_)
  refine g_aload_n 29 dX0_init_28 rfl rfl ?_
  refine g_aload_n 30 dX0_init_29 rfl rfl ?_
  refine g_get 33 dX0_init_30 faX0_21_X0 f6 rfl rfl ?_
  refine g_newarrN (N := M) (a + 1) 35 dX0_init_33 (by omega) (by omega) (by omega) rfl (s5.1.trans (s2.1.trans hl)) (fun h7 s8 f9 => ?_)
  have f10 := (s8.get f6)
  refine g_putFN (fs1 := [.int (iZ ((M : Int))), .ref (a + 1), .null, .int (iZ 0)]) 38 dX0_init_35 ffX0_24_X0 rfl f10 (nle rfl) (vA _ _) rfl rfl (fun h11 s12 f13 => ?_)
  refine g_aload_n 39 dX0_init_38 rfl rfl ?_
  refine g_aload_n 40 dX0_init_39 rfl rfl ?_
  refine g_get 43 dX0_init_40 faX0_21_X0 f13 rfl rfl ?_
  refine g_newarrN (N := M) (a + 1 + 1) 45 dX0_init_43 (by omega) (by omega) (by omega) rfl (s12.1.trans (s8.1.trans (congrArg (· + 1) (s5.1.trans (s2.1.trans hl))))) (fun h14 s15 f16 => ?_)
  have f17 := (s15.get f13)
  refine g_putFN (fs1 := [.int (iZ ((M : Int))), .ref (a + 1), .ref (a + 1 + 1), .int (iZ 0)]) 48 dX0_init_45 ffX0_28_X0 rfl f17 (nle rfl) (vA _ _) rfl rfl (fun h18 s19 f20 => ?_)
  refine g_vret rfl dX0_init_48 ?_
  have mz21 := s2.2.1
  have ln22 := s2.1
  have mz23 := s5.2.1
  have ln24 := s5.1
  have mz25 := s8.ma
  have ln26 := s8.1
  have mz27 := s12.2.1
  have ln28 := s12.1
  have mz29 := s15.ma
  have ln30 := s15.1
  have mz31 := s19.2.1
  have ln32 := s19.1
  have f33 := (s19.get (by simp <;> omega) (s15.get (s12.get (by simp <;> omega) f9)))
  have f34 := (s19.get (by simp <;> omega) f16)
  refine k _ M (by omega) ⟨by omega, by omega, fun q x hq hx => ?_⟩ f20 f33 f34
  have hlt := (List.getElem?_eq_some_iff.mp hx).1
  exact (s19.get (by simp at hq hlt ⊢ <;> omega) (s15.get (s12.get (by simp at hq hlt ⊢ <;> omega) (s8.get (s5.get (by simp at hq hlt ⊢ <;> omega) (s2.get (by simp at hq hlt ⊢ <;> omega) hx))))))
theorem oki_z {lo hi : Int} (a : lo ≤ 0) (b : 0 ≤ hi) : oki lo hi (fun _ => 0) := fun _ => ⟨a, b⟩
set_option maxRecDepth 100000 in
theorem x_copied {l : Launch} {h : MH} {Q : Option Value → MH → Prop} {a c M : Nat} {n : Int} {f g : Nat → Int} (C0 : h[c]? = some (.inr (0, [.int (iZ (M : Int)), .ref (c + 1), .ref (c + 2), .int (iZ n)]))) (C1 : h[c + 1]? = some (.inl (0, M, .inl (zA f)))) (C2 : h[c + 2]? = some (.inl (0, M, .inl (zA g)))) (of : oki 0 255 f) (og : oki 0 300 g) (rn : 0 ≤ n ∧ n ≤ 256) (hM : M ≤ 256) (hnM : n ≤ M) (hl : h.length = a) (k : ∀ (h1 : MH) (N : Nat) (f1 g1 : Nat → Int), (N : Int) = n → agr n f1 f → agr n g1 g → oki 0 255 f1 → oki 0 300 g1 → Ex 3 516 [] h h1 → h1[a]? = some (.inr (0, [.int (iZ (N : Int)), .ref (a + 1), .ref (a + 2), .int (iZ n)])) → h1[a + 1]? = some (.inl (0, N, .inl (zA f1))) → h1[a + 2]? = some (.inl (0, N, .inl (zA g1))) → Q (some (.ref a)) h1) : Go l mX0_copied 0 [some (.ref c), none, none] [] h Q := by
  have hca := (List.getElem?_eq_some_iff.mp C2).1
  rw [hl] at hca
  refine g_newN (a) 3 dX0_copied_0 fnX0_10 rfl hl (fun h1 s2 f3 => ?_)
  refine g_dup 4 dX0_copied_3 rfl rfl ?_
  refine g_aload_n 5 dX0_copied_4 rfl rfl ?_
  have f4 := (s2.get C0)
  refine g_get 8 dX0_copied_5 faX0_9_X0 f4 rfl rfl ?_
  refine g_callI (z := mX0_init) (As := [.int (iZ n)]) 11 dX0_copied_8 mwX0_init rfl ⟨by decide, by decide⟩ rfl wlX0_37 wiX0_init rfl rfl (nle rfl) (nle rfl) rfl ?_
  refine x_cinit f3 (by omega) (s2.1.trans (congrArg (· + 1) hl)) (fun h5 M6 hM6 s7 f8 f9 f10 => ?_)
  refine rV ?_
  refine g_astore_n (L1 := [some (.ref c), some (.ref a), none]) 12 dX0_copied_11 (by decide) rfl rfl rfl ?_
  refine g_iconst (v := iZ (0)) 13 dX0_copied_12 rfl rfl ?_
  refine g_istore_n (L1 := [some (.ref c), some (.ref a), some (.int (iZ 0))]) 14 dX0_copied_13 (by decide) rfl rfl rfl ?_
  have f11 := (s7.get (by simp <;> omega) f4)
  have f12 := (s7.get (by simp <;> omega) (s2.get C1))
  have f13 := (s7.get (by simp <;> omega) (s2.get C2))
  refine c_cpl_l of og rn hM hM6 hnM (by omega) _ _ 0 (fun _ => 0) (fun _ => 0) 0 rfl (by omega) (oki_z (by decide) (by decide)) (oki_z (by decide) (by decide)) f11 f12 f13 f8 f9 f10 (by omega) rfl (fun q hq => by omega) (fun q hq => by omega) (fun h9 n9 f9 g9 r9 p9 q9 e9 ef eg s9 u0 u1 u2 => ?_)
  have mz14 := s2.mo
  simp only [List.length_cons, List.length_nil] at mz14
  have ln15 := s2.1
  have mz16 := s7.2.1
  have ln17 := s7.1
  have mzz := s9.2.1
  have lnz := s9.1
  subst e9
  refine k _ M6 f9 g9 hM6 ef eg p9 q9 ⟨by omega, by omega, fun q x hq hx => ?_⟩ u0 u1 u2
  have hlt := (List.getElem?_eq_some_iff.mp hx).1
  rw [hl] at hlt
  exact s9.get (by simp <;> omega) (s7.get (by simp at hq hlt ⊢ <;> omega) (s2.get hx))
/-- the rows with a new one -/
def ntV (V : Nat → Nat → Int) (tc : Nat) (n hw tx bd : Int) : Nat → Nat → Int := fun k j => if j = tc then (if k = 0 then n else if k = 1 then hw else if k = 2 then tx else if k = 3 then bd else 0) else V k j
theorem ntV_ne {V : Nat → Nat → Int} {tc j k : Nat} {n hw tx bd : Int} (hj : j ≠ tc) : ntV V tc n hw tx bd k j = V k j := if_neg hj
theorem ntV_0 {V : Nat → Nat → Int} {tc : Nat} {n hw tx bd : Int} : ntV V tc n hw tx bd 0 tc = n := if_pos rfl
theorem ntV_1 {V : Nat → Nat → Int} {tc : Nat} {n hw tx bd : Int} : ntV V tc n hw tx bd 1 tc = hw := if_pos rfl
theorem ntV_2 {V : Nat → Nat → Int} {tc : Nat} {n hw tx bd : Int} : ntV V tc n hw tx bd 2 tc = tx := if_pos rfl
theorem ntV_3 {V : Nat → Nat → Int} {tc : Nat} {n hw tx bd : Int} : ntV V tc n hw tx bd 3 tc = bd := if_pos rfl
theorem ntV_4 {V : Nat → Nat → Int} {tc : Nat} {n hw tx bd : Int} : ntV V tc n hw tx bd 4 tc = 0 := if_pos rfl
theorem TR_new {tc : Nat} {V Bf Lf : Nat → Nat → Int} {n hw tx bd : Int} {f g : Nat → Int} : TR tc V Bf Lf (ntV V tc n hw tx bd) (va_up Bf tc f) (va_up Lf tc g) := fun j hj => ⟨⟨ntV_ne (by omega), ntV_ne (by omega), ntV_ne (by omega), ntV_ne (by omega), ntV_ne (by omega)⟩, fun q _ => by rw [up_ne (by omega)], fun q _ => by rw [up_ne (by omega)]⟩
theorem TL_new {h : MH} {tc N : Nat} {V : Nat → Nat → Int} {n hw tx bd : Int} {f g : Nat → Int} (hN : (N : Int) = n) (rn : 0 ≤ n ∧ n ≤ 256) (rh : 0 ≤ hw ∧ hw ≤ 2) (rt : 0 ≤ tx ∧ tx ≤ 7) (rb : bd = -9 ∨ (0 ≤ bd ∧ bd < tc)) (x1 : hw = 2 → bd ≠ -9) (x2 : hw ≠ 2 → bd = -9) (of : oki 0 255 f) (og : oki 0 300 g) (b0 : h[71 + 4 * tc]? = some (.inr (6, [.ref (71 + 4 * tc + 1), .int (iZ hw), .int (iZ tx), .int (iZ bd), .int (iZ 0)]))) (b1 : h[71 + 4 * tc + 1]? = some (.inr (0, [.int (iZ (N : Int)), .ref (71 + 4 * tc + 1 + 1), .ref (71 + 4 * tc + 1 + 2), .int (iZ n)]))) (b2 : h[71 + 4 * tc + 1 + 1]? = some (.inl (0, N, .inl (zA f)))) (b3 : h[71 + 4 * tc + 1 + 2]? = some (.inl (0, N, .inl (zA g)))) : TL h tc (ntV V tc n hw tx bd) f g := by
  have e : n.toNat = N := by omega
  unfold TL
  rw [ntV_0, ntV_1, ntV_2, ntV_3, ntV_4, e]
  exact ⟨rn, rh, rt, rb, x1, x2, Or.inl rfl, of, og, b0, b1, b2, b3⟩
set_option maxRecDepth 100000 in
theorem x_keep {l : Launch} {h : MH} {Q : Option Value → MH → Prop} {tc c : Nat} {tr : Int64} {xn : Nat → Int} {xf V Bf Lf : Nat → Nat → Int} {n hw tx bd : Int} {f g : Nat → Int} (HC : CORE2 h tc tr xn xf V Bf Lf) (hlen : h.length = 71 + 4 * tc) (C0 : h[c]? = some (.inr (0, [.int (iZ 256), .ref (c + 1), .ref (c + 2), .int (iZ n)]))) (C1 : h[c + 1]? = some (.inl (0, 256, .inl (zA f)))) (C2 : h[c + 2]? = some (.inl (0, 256, .inl (zA g)))) (of : oki 0 255 f) (og : oki 0 300 g) (rn : 0 ≤ n ∧ n ≤ 256) (hc : 5 ≤ c ∧ c + 2 ≤ 29) (rhw : 0 ≤ hw ∧ hw ≤ 2) (rtx : 0 ≤ tx ∧ tx ≤ 7) (rbd : bd = -9 ∨ (0 ≤ bd ∧ bd < tc)) (x1 : hw = 2 → bd ≠ -9) (x2 : hw ≠ 2 → bd = -9) (k : ∀ (h1 : MH) (tc1 : Nat) (V1 Bf1 Lf1 : Nat → Nat → Int) (r : Int), (-3 ≤ r ∧ r ≤ 12) → kpP tc V Bf Lf n f g hw tx bd r tc1 V1 Bf1 Lf1 → CORE2 h1 tc1 tr xn xf V1 Bf1 Lf1 → KP tc tc1 h h1 → Q (some (.int (iZ r))) h1) : Go l mX8_keep 0 [some (.ref 0), some (.ref c), some (.int (iZ hw)), some (.int (iZ tx)), some (.int (iZ bd))] [] h Q := by
  obtain ⟨F0, F3, F4, htc, HT, HL⟩ := id HC
  refine g_aload_n 1 dX8_keep_0 rfl rfl ?_
  refine g_get 4 dX8_keep_1 faX8_26_X8 F0 rfl rfl ?_
  refine g_ifZ_lt 16 7 dX8_keep_4 rfl rfl (by omega) (fun c1 => ?_) (fun c1 => ?_)
  · refine g_bipush (v := iZ (-3)) 18 dX8_keep_16 (by decide +kernel) rfl ?_
    refine g_iret rfl dX8_keep_18 ?_
    exact k _ tc V Bf Lf (-3) (by omega) ⟨fun z => by omega, fun z => ⟨rfl, rfl⟩, TR.refl _ _ _ _⟩ HC (KP.refl tc h)
  · refine g_aload_n 8 dX8_keep_7 rfl rfl ?_
    refine g_get 11 dX8_keep_8 faX8_26_X8 F0 rfl rfl ?_
    refine g_bipush (v := iZ (12)) 13 dX8_keep_11 (by decide +kernel) rfl ?_
    refine g_icZ_lt 19 16 dX8_keep_13 rfl rfl (by omega) (by decide) (fun c2 => ?_) (fun c2 => ?_)
    · refine g_aload_n 20 dX8_keep_19 rfl rfl ?_
      refine g_get 23 dX8_keep_20 faX8_22_X8 F0 rfl rfl ?_
      refine g_aload_n 24 dX8_keep_23 rfl rfl ?_
      refine g_get 27 dX8_keep_24 faX8_26_X8 F0 rfl rfl ?_
      refine g_newN (71 + 4 * tc) 30 dX8_keep_27 fnX8_20 rfl hlen (fun h3 s4 f5 => ?_)
      refine g_dup 31 dX8_keep_30 rfl rfl ?_
      refine g_aload_n 32 dX8_keep_31 rfl rfl ?_
      have f6 := (s4.get C0)
      refine g_callV (z := mX0_copied) (As := []) 35 dX8_keep_32 mwX0_copied ⟨by decide, by decide⟩ rfl wlX8_241 wiX0_copied wsX0_copied f6 rfl rfl rfl (nle rfl) (nle rfl) rfl ?_
      have f7 := (s4.get C1)
      have f8 := (s4.get C2)
      refine x_copied (M := 256) f6 f7 f8 of og rn (by decide) (by omega) (s4.1.trans (congrArg (· + 1) hlen)) (fun h9 N10 f11 g12 hN10 e14 e15 of11 og12 s13 f16 f17 f18 => ?_)
      refine rR ?_
      refine g_iload_n 36 dX8_keep_35 rfl rfl ?_
      refine g_iload_n 37 dX8_keep_36 rfl rfl ?_
      refine g_iload 39 dX8_keep_37 rfl rfl ?_
      refine g_callI (z := mX7_init) (As := [.ref (71 + 4 * tc + 1), .int (iZ hw), .int (iZ tx), .int (iZ bd)]) 42 dX8_keep_39 mwX7_init rfl ⟨by decide, by decide⟩ rfl wlX8_245 wiX7_init rfl rfl (nle rfl) (nle rfl) rfl ?_
      refine Go.to [some (.ref (71 + 4 * tc)), some (.ref (71 + 4 * tc + 1)), some (.int (iZ hw)), some (.int (iZ tx)), some (.int (iZ bd))] [] rfl rfl ?_
      refine g_aload_n 1 dX7_init_0 rfl rfl ?_
      refine g_obj 4 dX7_init_1 wlX7_1 wObj1 wObj2 (by decide) (nle rfl) rfl ?_
      refine g_aload_n 5 dX7_init_4 rfl rfl ?_
      refine g_iconst (v := iZ (0)) 6 dX7_init_5 rfl rfl ?_
      have f19 := (s13.get (by simp) f5)
      refine g_putC (fs1 := [.null, .int 0, .int 0, .int 0, .int (iZ 0)]) 9 dX7_init_6 fpX7_7_X7 f19 (nle rfl) vZ0 rfl rfl (fun h20 s21 f22 => ?_)
      refine g_aload_n 10 dX7_init_9 rfl rfl ?_
      refine g_aload_n 11 dX7_init_10 rfl rfl ?_
      refine g_putFN (fs1 := [.ref (71 + 4 * tc + 1), .int 0, .int 0, .int 0, .int (iZ 0)]) 14 dX7_init_11 ffX7_13_X7 rfl f22 (nle rfl) (vR _ _) rfl rfl (fun h23 s24 f25 => ?_)
      refine g_aload_n 15 dX7_init_14 rfl rfl ?_
      refine g_iload_n 16 dX7_init_15 rfl rfl ?_
      refine g_putFN (fs1 := [.ref (71 + 4 * tc + 1), .int (iZ hw), .int 0, .int 0, .int (iZ 0)]) 19 dX7_init_16 ffX7_17_X7 rfl f25 (nle rfl) (vI _) rfl rfl (fun h26 s27 f28 => ?_)
      refine g_aload_n 20 dX7_init_19 rfl rfl ?_
      refine g_iload_n 21 dX7_init_20 rfl rfl ?_
      refine g_putFN (fs1 := [.ref (71 + 4 * tc + 1), .int (iZ hw), .int (iZ tx), .int 0, .int (iZ 0)]) 24 dX7_init_21 ffX7_21_X7 rfl f28 (nle rfl) (vI _) rfl rfl (fun h29 s30 f31 => ?_)
      refine g_aload_n 25 dX7_init_24 rfl rfl ?_
      refine g_iload 27 dX7_init_25 rfl rfl ?_
      refine g_putFN (fs1 := [.ref (71 + 4 * tc + 1), .int (iZ hw), .int (iZ tx), .int (iZ bd), .int (iZ 0)]) 30 dX7_init_27 ffX7_24_X7 rfl f31 (nle rfl) (vI _) rfl rfl (fun h32 s33 f34 => ?_)
      refine g_vret rfl dX7_init_30 ?_
      refine rV ?_
      have f35 := (s33.get (by simp <;> omega) (s30.get (by simp <;> omega) (s27.get (by simp <;> omega) (s24.get (by simp <;> omega) (s21.get (by simp <;> omega) (s13.get (by simp) (s4.get F4)))))))
      refine g_aast (r := (RX7, TX7, 5)) 43 dX8_keep_42 f35 (by decide) f34 rfl rfl (iZ_inI (by omega) (by omega) (by decide)) (f1 := tls (tc + 1)) (by rw [iZ_cl (by omega) (by omega)]; exact tls_up tc) rfl ?_
      refine Go.hnew f35 rfl (fun h36 s37 f38 => ?_)
      refine g_aload_n 44 dX8_keep_43 rfl rfl ?_
      refine g_dup 45 dX8_keep_44 rfl rfl ?_
      have f39 := (s37.get (by decide) (s33.get (by simp <;> omega) (s30.get (by simp <;> omega) (s27.get (by simp <;> omega) (s24.get (by simp <;> omega) (s21.get (by simp <;> omega) (s13.get (by simp) (s4.get F0))))))))
      refine g_get 48 dX8_keep_45 faX8_26_X8 f39 rfl rfl ?_
      refine g_iconst (v := iZ (1)) 49 dX8_keep_48 rfl rfl ?_
      refine g_iaddZ (((tc : Int)) + 1) 50 dX8_keep_49 (by omega) rfl ?_
      refine g_putC (fs1 := [.ref 1, .ref 3, .ref 4, .int (iZ (((tc : Int)) + 1)), .ref 5, .ref 9, .ref 15, .ref 20, .ref 25, .ref 30, .long (tr)]) 53 dX8_keep_50 fpX8_26_X8 f39 (nle rfl) (vI _) rfl rfl (fun h40 s41 f42 => ?_)
      refine g_aload_n 54 dX8_keep_53 rfl rfl ?_
      refine g_get 57 dX8_keep_54 faX8_26_X8 f42 rfl rfl ?_
      refine g_iconst (v := iZ (1)) 58 dX8_keep_57 rfl rfl ?_
      refine g_isubZ ((((tc : Int)) + 1) - 1) 59 dX8_keep_58 (by omega) rfl ?_
      refine g_iret rfl dX8_keep_59 ?_
      have mz43 := s4.mo
      simp only [List.length_cons, List.length_nil] at mz43
      have ln44 := s4.1
      have mz45 := s13.2.1
      have ln46 := s13.1
      have mz47 := s21.2.1
      have ln48 := s21.1
      have mz49 := s24.2.1
      have ln50 := s24.1
      have mz51 := s27.2.1
      have ln52 := s27.1
      have mz53 := s30.2.1
      have ln54 := s30.1
      have mz55 := s33.2.1
      have ln56 := s33.1
      have mz57 := s37.2.1
      have ln58 := s37.1
      have mz59 := s41.2.1
      have ln60 := s41.1
      have hold : ∀ (q : Nat) (x : va_E), q ≠ 0 → q ≠ 4 → h[q]? = some x → h40[q]? = some x := by
        intro q x q0 q4 hx
        have hlt := (List.getElem?_eq_some_iff.mp hx).1
        rw [hlen] at hlt
        exact (s41.get (by simp <;> omega) (s37.get (by simp <;> omega) (s33.get (by simp <;> omega) (s30.get (by simp <;> omega) (s27.get (by simp <;> omega) (s24.get (by simp <;> omega) (s21.get (by simp <;> omega) (s13.get (by simp <;> omega) (s4.get hx)))))))))
      have hkp : KP tc (tc + 1) h h40 := ⟨by omega, by omega, by omega, hold⟩
      have f61 := (s41.get (by decide) f38)
      have f62 := (s41.get (by simp <;> omega) (s37.get (by simp <;> omega) f34))
      have f63 := (s41.get (by simp <;> omega) (s37.get (by simp <;> omega) (s33.get (by simp <;> omega) (s30.get (by simp <;> omega) (s27.get (by simp <;> omega) (s24.get (by simp <;> omega) (s21.get (by simp <;> omega) f16)))))))
      have f64 := (s41.get (by simp <;> omega) (s37.get (by simp <;> omega) (s33.get (by simp <;> omega) (s30.get (by simp <;> omega) (s27.get (by simp <;> omega) (s24.get (by simp <;> omega) (s21.get (by simp <;> omega) f17)))))))
      have f65 := (s41.get (by simp <;> omega) (s37.get (by simp <;> omega) (s33.get (by simp <;> omega) (s30.get (by simp <;> omega) (s27.get (by simp <;> omega) (s24.get (by simp <;> omega) (s21.get (by simp <;> omega) f18)))))))
      refine k _ (tc + 1) (ntV V tc n hw tx bd) (va_up Bf tc f11) (va_up Lf tc g12) ((((tc : Int)) + 1) - 1) (by omega) ⟨fun z => ⟨by omega, rfl, ⟨ntV_0, ntV_1, ntV_2, ntV_3, ntV_4⟩, by rw [up_eq]; exact e14, by rw [up_eq]; exact e15⟩, fun z => by omega, TR_new⟩ ⟨f42, hkp.get (by omega) F3, f61, by omega, fun j hj => (HT j hj).kp hkp (by omega), fun j hj => ?_⟩ hkp
      by_cases hj2 : j < tc
      · rw [up_ne (by omega), up_ne (by omega)]
        exact TL.cg (ntV_ne (by omega)) (ntV_ne (by omega)) (ntV_ne (by omega)) (ntV_ne (by omega)) (ntV_ne (by omega)) ((HL j hj2).kp (fun q _ _ y => hkp.get (by omega)))
      have : j = tc := by omega
      subst this
      rw [up_eq, up_eq]
      exact TL_new hN10 rn rhw rtx rbd x1 x2 of11 og12 f62 f63 f64 f65
    · refine g_bipush (v := iZ (-3)) 18 dX8_keep_16 (by decide +kernel) rfl ?_
      refine g_iret rfl dX8_keep_18 ?_
      exact k _ tc V Bf Lf (-3) (by omega) ⟨fun z => by omega, fun z => ⟨rfl, rfl⟩, TR.refl _ _ _ _⟩ HC (KP.refl tc h)

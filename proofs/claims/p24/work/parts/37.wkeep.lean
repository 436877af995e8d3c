set_option maxRecDepth 100000 in
theorem w_keep {l : Launch} {h : MH} {Q : Option Value → MH → Prop} {tc c : Nat} {xn : Nat → Int} {xf : Nat → Nat → Int} {n hw tx bd : Int} {f g : Nat → Int} (HC : CORE h tc xn xf) (HS : SC h) (hlen : h.length = 71 + 4 * tc) (C0 : h[c]? = some (.inr (0, [.int (iZ 256), .ref (c + 1), .ref (c + 2), .int (iZ n)]))) (C1 : h[c + 1]? = some (.inl (0, 256, .inl (zA f)))) (C2 : h[c + 2]? = some (.inl (0, 256, .inl (zA g)))) (of : okr f) (og : okr g) (rn : rg n) (hc : 5 ≤ c ∧ c + 2 ≤ 29) (rhw : rg hw) (rtx : rg tx) (rbd : rg bd) (k : ∀ (h1 : MH) (tc1 : Nat) (r : Int), rg r → CORE h1 tc1 xn xf → SC h1 → KP tc tc1 h h1 → Q (some (.int (iZ r))) h1) : Go l mX8_keep 0 [some (.ref 0), some (.ref c), some (.int (iZ hw)), some (.int (iZ tx)), some (.int (iZ bd))] [] h Q := by
  obtain ⟨⟨tr, F0⟩, F3, F4, htc, HT, HL⟩ := id HC
  refine g_aload_n 1 dX8_keep_0 rfl rfl ?_
  refine g_get 4 dX8_keep_1 faX8_26_X8 F0 rfl rfl ?_
  refine g_ifZ_lt 16 7 dX8_keep_4 rfl rfl (by omega) (fun c1 => ?_) (fun c1 => ?_)
  · refine g_bipush (v := iZ (-3)) 18 dX8_keep_16 (by decide +kernel) rfl ?_
    refine g_iret rfl dX8_keep_18 ?_
    exact k _ tc (-3) (by decide) HC HS (KP.refl tc h)
  · refine g_aload_n 8 dX8_keep_7 rfl rfl ?_
    refine g_get 11 dX8_keep_8 faX8_26_X8 F0 rfl rfl ?_
    refine g_bipush (v := iZ (12)) 13 dX8_keep_11 (by decide +kernel) rfl ?_
    refine g_icZ_lt 19 16 dX8_keep_13 rfl rfl (by omega) (by decide) (fun c2 => ?_) (fun c2 => ?_)
    · refine g_aload_n 20 dX8_keep_19 rfl rfl ?_
      refine g_get 23 dX8_keep_20 faX8_22_X8 F0 rfl rfl ?_
      refine g_aload_n 24 dX8_keep_23 rfl rfl ?_
      refine g_get 27 dX8_keep_24 faX8_26_X8 F0 rfl rfl ?_
      refine g_newN (71 + 4 * tc) 30 dX8_keep_27 fnX8_20 rfl hlen (fun h3 s4 f5 => ?_)
      refine g_dup 31 dX8_keep_30 rfl rfl ?_
      refine g_aload_n 32 dX8_keep_31 rfl rfl ?_
      have f6 := (s4.get C0)
      refine g_callV (z := mX0_copied) (As := []) 35 dX8_keep_32 mwX0_copied ⟨by decide, by decide⟩ rfl wlX8_241 wiX0_copied wsX0_copied f6 rfl rfl rfl (nle rfl) (nle rfl) rfl ?_
      have f7 := (s4.get C1)
      have f8 := (s4.get C2)
      refine w_copied (M := 256) f6 f7 f8 of og rn (by decide) (s4.1.trans (congrArg (· + 1) hlen)) (fun h9 N10 n11 f12 g13 hN10 rn11 of12 og13 s14 f15 f16 f17 => ?_)
      refine rR ?_
      refine g_iload_n 36 dX8_keep_35 rfl rfl ?_
      refine g_iload_n 37 dX8_keep_36 rfl rfl ?_
      refine g_iload 39 dX8_keep_37 rfl rfl ?_
      refine g_callI (z := mX7_init) (As := [.ref (71 + 4 * tc + 1), .int (iZ hw), .int (iZ tx), .int (iZ bd)]) 42 dX8_keep_39 mwX7_init rfl ⟨by decide, by decide⟩ rfl wlX8_245 wiX7_init rfl rfl (nle rfl) (nle rfl) rfl ?_
      refine Go.to [some (.ref (71 + 4 * tc)), some (.ref (71 + 4 * tc + 1)), some (.int (iZ hw)), some (.int (iZ tx)), some (.int (iZ bd))] [] rfl rfl ?_
      refine g_aload_n 1 dX7_init_0 rfl rfl ?_
      refine g_obj 4 dX7_init_1 wlX7_1 wObj1 wObj2 (by decide) (nle rfl) rfl ?_
      refine g_aload_n 5 dX7_init_4 rfl rfl ?_
      refine g_iconst (v := iZ (0)) 6 dX7_init_5 rfl rfl ?_
      have f18 := (s14.get (by simp) f5)
      refine g_putC (fs1 := [.null, .int 0, .int 0, .int 0, .int (iZ 0)]) 9 dX7_init_6 fpX7_7_X7 f18 (nle rfl) vZ0 rfl rfl (fun h19 s20 f21 => ?_)
      refine g_aload_n 10 dX7_init_9 rfl rfl ?_
      refine g_aload_n 11 dX7_init_10 rfl rfl ?_
      refine g_putFN (fs1 := [.ref (71 + 4 * tc + 1), .int 0, .int 0, .int 0, .int (iZ 0)]) 14 dX7_init_11 ffX7_13_X7 rfl f21 (nle rfl) (vR _ _) rfl rfl (fun h22 s23 f24 => ?_)
      refine g_aload_n 15 dX7_init_14 rfl rfl ?_
      refine g_iload_n 16 dX7_init_15 rfl rfl ?_
      refine g_putFN (fs1 := [.ref (71 + 4 * tc + 1), .int (iZ hw), .int 0, .int 0, .int (iZ 0)]) 19 dX7_init_16 ffX7_17_X7 rfl f24 (nle rfl) (vI _) rfl rfl (fun h25 s26 f27 => ?_)
      refine g_aload_n 20 dX7_init_19 rfl rfl ?_
      refine g_iload_n 21 dX7_init_20 rfl rfl ?_
      refine g_putFN (fs1 := [.ref (71 + 4 * tc + 1), .int (iZ hw), .int (iZ tx), .int 0, .int (iZ 0)]) 24 dX7_init_21 ffX7_21_X7 rfl f27 (nle rfl) (vI _) rfl rfl (fun h28 s29 f30 => ?_)
      refine g_aload_n 25 dX7_init_24 rfl rfl ?_
      refine g_iload 27 dX7_init_25 rfl rfl ?_
      refine g_putFN (fs1 := [.ref (71 + 4 * tc + 1), .int (iZ hw), .int (iZ tx), .int (iZ bd), .int (iZ 0)]) 30 dX7_init_27 ffX7_24_X7 rfl f30 (nle rfl) (vI _) rfl rfl (fun h31 s32 f33 => ?_)
      refine g_vret rfl dX7_init_30 ?_
      refine rV ?_
      have f34 := (s32.get (by simp <;> omega) (s29.get (by simp <;> omega) (s26.get (by simp <;> omega) (s23.get (by simp <;> omega) (s20.get (by simp <;> omega) (s14.get (by simp) (s4.get F4)))))))
      refine g_aast (r := (RX7, TX7, 5)) 43 dX8_keep_42 f34 (by decide) f33 rfl rfl (iZ_inI (by omega) (by omega) (by decide)) (f1 := tls (tc + 1)) (by rw [iZ_cl (by omega) (by omega)]; exact tls_up tc) rfl ?_
      refine Go.hnew f34 rfl (fun h35 s36 f37 => ?_)
      refine g_aload_n 44 dX8_keep_43 rfl rfl ?_
      refine g_dup 45 dX8_keep_44 rfl rfl ?_
      have f38 := (s36.get (by decide) (s32.get (by simp <;> omega) (s29.get (by simp <;> omega) (s26.get (by simp <;> omega) (s23.get (by simp <;> omega) (s20.get (by simp <;> omega) (s14.get (by simp) (s4.get F0))))))))
      refine g_get 48 dX8_keep_45 faX8_26_X8 f38 rfl rfl ?_
      refine g_iconst (v := iZ (1)) 49 dX8_keep_48 rfl rfl ?_
      refine g_iaddZ (((tc : Int)) + 1) 50 dX8_keep_49 (by omega) rfl ?_
      refine g_putC (fs1 := [.ref 1, .ref 3, .ref 4, .int (iZ (((tc : Int)) + 1)), .ref 5, .ref 9, .ref 15, .ref 20, .ref 25, .ref 30, .long (tr)]) 53 dX8_keep_50 fpX8_26_X8 f38 (nle rfl) (vI _) rfl rfl (fun h39 s40 f41 => ?_)
      refine g_aload_n 54 dX8_keep_53 rfl rfl ?_
      refine g_get 57 dX8_keep_54 faX8_26_X8 f41 rfl rfl ?_
      refine g_iconst (v := iZ (1)) 58 dX8_keep_57 rfl rfl ?_
      refine g_isubZ ((((tc : Int)) + 1) - 1) 59 dX8_keep_58 (by omega) rfl ?_
      refine g_iret rfl dX8_keep_59 ?_
      have mz42 := s4.mo
      simp only [List.length_cons, List.length_nil] at mz42
      have ln43 := s4.1
      have mz44 := s14.2.1
      have ln45 := s14.1
      have mz46 := s20.2.1
      have ln47 := s20.1
      have mz48 := s23.2.1
      have ln49 := s23.1
      have mz50 := s26.2.1
      have ln51 := s26.1
      have mz52 := s29.2.1
      have ln53 := s29.1
      have mz54 := s32.2.1
      have ln55 := s32.1
      have mz56 := s36.2.1
      have ln57 := s36.1
      have mz58 := s40.2.1
      have ln59 := s40.1
      have hold : ∀ (q : Nat) (x : va_E), q ≠ 0 → q ≠ 4 → h[q]? = some x → h39[q]? = some x := by
        intro q x q0 q4 hx
        have hlt := (List.getElem?_eq_some_iff.mp hx).1
        rw [hlen] at hlt
        exact (s40.get (by simp <;> omega) (s36.get (by simp <;> omega) (s32.get (by simp <;> omega) (s29.get (by simp <;> omega) (s26.get (by simp <;> omega) (s23.get (by simp <;> omega) (s20.get (by simp <;> omega) (s14.get (by simp <;> omega) (s4.get hx)))))))))
      have hkp : KP tc (tc + 1) h h39 := ⟨by omega, by omega, by omega, hold⟩
      have f60 := (s40.get (by decide) f37)
      have f61 := (s40.get (by simp <;> omega) (s36.get (by simp <;> omega) f33))
      have f62 := (s40.get (by simp <;> omega) (s36.get (by simp <;> omega) (s32.get (by simp <;> omega) (s29.get (by simp <;> omega) (s26.get (by simp <;> omega) (s23.get (by simp <;> omega) (s20.get (by simp <;> omega) f15)))))))
      have f63 := (s40.get (by simp <;> omega) (s36.get (by simp <;> omega) (s32.get (by simp <;> omega) (s29.get (by simp <;> omega) (s26.get (by simp <;> omega) (s23.get (by simp <;> omega) (s20.get (by simp <;> omega) f16)))))))
      have f64 := (s40.get (by simp <;> omega) (s36.get (by simp <;> omega) (s32.get (by simp <;> omega) (s29.get (by simp <;> omega) (s26.get (by simp <;> omega) (s23.get (by simp <;> omega) (s20.get (by simp <;> omega) f17)))))))
      refine k _ (tc + 1) ((((tc : Int)) + 1) - 1) (by omega) ⟨⟨tr, f41⟩, hkp.get (by omega) F3, f60, by omega, fun j hj => (HT j hj).kp hkp (by omega), fun j hj => ?_⟩ (HS.kp hkp) hkp
      by_cases hj2 : j < tc
      · exact (HL j hj2).kp hkp (by omega)
      have : j = tc := by omega
      subst this
      exact ⟨N10, n11, hw, tx, bd, 0, f12, g13, hN10, rn11, rhw, rtx, rbd, Or.inl rfl, of12, og13, f61, f62, f63, f64⟩
    · refine g_bipush (v := iZ (-3)) 18 dX8_keep_16 (by decide +kernel) rfl ?_
      refine g_iret rfl dX8_keep_18 ?_
      exact k _ tc (-3) (by decide) HC HS (KP.refl tc h)

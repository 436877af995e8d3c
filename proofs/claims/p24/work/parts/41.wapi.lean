theorem a8_tool {l : Launch} {h : MH} {Q : Option Value → MH → Prop} {tn : Int} {tf : Nat → Int} {xn : Nat → Int} {xf : Nat → Nat → Int} {en : Int} {tc : Nat} {i w : Int} (H : IX h tn tf xn xf en tc) (ri : rg i) (rw : rg w) (k : ∀ (h1 : MH) (tc1 : Nat) (r : Int), rg r → IX h1 tn tf xn xf en tc1 → Mo h h1 → Q (some (.int (iZ r))) h1) : Go l mX8_tool 0 [some (.ref 0), some (.int (iZ i)), some (.int (iZ w)), none] [] h Q :=
  p_tool H.1 ri rw (fun r rr => k h tc r rr H (fun _ _ _ => rfl))
theorem a8_code {l : Launch} {h : MH} {Q : Option Value → MH → Prop} {tn : Int} {tf : Nat → Int} {xn : Nat → Int} {xf : Nat → Nat → Int} {en : Int} {tc : Nat} {i a w : Int} (H : IX h tn tf xn xf en tc) (ri : rg i) (ra : rg a) (rw : rg w) (k : ∀ (h1 : MH) (tc1 : Nat) (r : Int), rg r → IX h1 tn tf xn xf en tc1 → Mo h h1 → Q (some (.int (iZ r))) h1) : Go l mX8_code 0 [some (.ref 0), some (.int (iZ i)), some (.int (iZ a)), some (.int (iZ w)), none] [] h Q :=
  p_code H.1 ri ra rw (fun r rr => k h tc r rr H (fun _ _ _ => rfl))
theorem a8_same {l : Launch} {h : MH} {Q : Option Value → MH → Prop} {tn : Int} {tf : Nat → Int} {xn : Nat → Int} {xf : Nat → Nat → Int} {en : Int} {tc : Nat} {a b : Int} (H : IX h tn tf xn xf en tc) (ra : rg a) (rb : rg b) (k : ∀ (h1 : MH) (tc1 : Nat) (r : Int), rg r → IX h1 tn tf xn xf en tc1 → Mo h h1 → Q (some (.int (iZ r))) h1) : Go l mX8_same 0 [some (.ref 0), some (.int (iZ a)), some (.int (iZ b)), none, none] [] h Q :=
  p_same H.1 ra rb (fun r rr => k h tc r rr H (fun _ _ _ => rfl))
theorem a8_chain {l : Launch} {h : MH} {Q : Option Value → MH → Prop} {tn : Int} {tf : Nat → Int} {xn : Nat → Int} {xf : Nat → Nat → Int} {en : Int} {tc : Nat} {i k0 : Int} (H : IX h tn tf xn xf en tc) (ri : rg i) (rk0 : rg k0) (k : ∀ (h1 : MH) (tc1 : Nat) (r : Int), rg r → IX h1 tn tf xn xf en tc1 → Mo h h1 → Q (some (.int (iZ r))) h1) : Go l mX8_chain 0 [some (.ref 0), some (.int (iZ i)), some (.int (iZ k0)), none] [] h Q :=
  p_chain H.1 ri rk0 (fun r rr => k h tc r rr H (fun _ _ _ => rfl))
theorem a8_run {l : Launch} {h : MH} {Q : Option Value → MH → Prop} {tn : Int} {tf : Nat → Int} {xn : Nat → Int} {xf : Nat → Nat → Int} {en : Int} {tc : Nat} {t i : Int} (H : IX h tn tf xn xf en tc) (rt : rg t) (ri : rg i) (k : ∀ (h1 : MH) (tc1 : Nat) (r : Int), rg r → IX h1 tn tf xn xf en tc1 → Mo h h1 → Q (some (.int (iZ r))) h1) : Go l mX8_run 0 [some (.ref 0), some (.int (iZ t)), some (.int (iZ i)), none, none] [] h Q :=
  p_run H.1 H.2.1 rt ri (fun h1 r rr S1 s => k h1 tc r rr (H.scr s S1).1 (H.scr s S1).2)
theorem a8_ran {l : Launch} {h : MH} {Q : Option Value → MH → Prop} {tn : Int} {tf : Nat → Int} {xn : Nat → Int} {xf : Nat → Nat → Int} {en : Int} {tc : Nat} {w : Int} (H : IX h tn tf xn xf en tc) (rw : rg w) (k : ∀ (h1 : MH) (tc1 : Nat) (r : Int), rg r → IX h1 tn tf xn xf en tc1 → Mo h h1 → Q (some (.int (iZ r))) h1) : Go l mX8_ran 0 [some (.ref 0), some (.int (iZ w))] [] h Q :=
  p_ran H.1 H.2.1 rw (fun h1 r rr S1 s => k h1 tc r rr (H.scr s S1).1 (H.scr s S1).2)
theorem a8_tape {l : Launch} {h : MH} {Q : Option Value → MH → Prop} {tn : Int} {tf : Nat → Int} {xn : Nat → Int} {xf : Nat → Nat → Int} {en : Int} {tc : Nat} {a w : Int} (H : IX h tn tf xn xf en tc) (ra : rg a) (rw : rg w) (k : ∀ (h1 : MH) (tc1 : Nat) (r : Int), rg r → IX h1 tn tf xn xf en tc1 → Mo h h1 → Q (some (.int (iZ r))) h1) : Go l mX8_tape 0 [some (.ref 0), some (.int (iZ a)), some (.int (iZ w))] [] h Q :=
  p_tape H.1 H.2.1 ra rw (fun h1 r rr S1 s => k h1 tc r rr (H.scr s S1).1 (H.scr s S1).2)
theorem a8_rebuilt {l : Launch} {h : MH} {Q : Option Value → MH → Prop} {tn : Int} {tf : Nat → Int} {xn : Nat → Int} {xf : Nat → Nat → Int} {en : Int} {tc : Nat} {t : Int} (H : IX h tn tf xn xf en tc) (rt : rg t) (k : ∀ (h1 : MH) (tc1 : Nat) (r : Int), rg r → IX h1 tn tf xn xf en tc1 → Mo h h1 → Q (some (.int (iZ r))) h1) : Go l mX8_rebuilt 0 [some (.ref 0), some (.int (iZ t)), none] [] h Q :=
  p_rebuilt H.1 H.2.1 rt (fun h1 r rr S1 s => k h1 tc r rr (H.scr s S1).1 (H.scr s S1).2)
theorem a8_stale {l : Launch} {h : MH} {Q : Option Value → MH → Prop} {tn : Int} {tf : Nat → Int} {xn : Nat → Int} {xf : Nat → Nat → Int} {en : Int} {tc : Nat}  (H : IX h tn tf xn xf en tc)  (k : ∀ (h1 : MH) (tc1 : Nat) (r : Int), rg r → IX h1 tn tf xn xf en tc1 → Mo h h1 → Q (some (.int (iZ r))) h1) : Go l mX8_stale 0 [some (.ref 0)] [] h Q :=
  p_stale H.1 H.2.1  (fun h1 r rr S1 s => k h1 tc r rr (H.scr s S1).1 (H.scr s S1).2)
theorem a8_settles {l : Launch} {h : MH} {Q : Option Value → MH → Prop} {tn : Int} {tf : Nat → Int} {xn : Nat → Int} {xf : Nat → Nat → Int} {en : Int} {tc : Nat} {t i : Int} (H : IX h tn tf xn xf en tc) (rt : rg t) (ri : rg i) (k : ∀ (h1 : MH) (tc1 : Nat) (r : Int), rg r → IX h1 tn tf xn xf en tc1 → Mo h h1 → Q (some (.int (iZ r))) h1) : Go l mX8_settles 0 [some (.ref 0), some (.int (iZ t)), some (.int (iZ i)), none, none, none, none, none] [] h Q :=
  p_settles H.1 H.2.1 rt ri (fun h1 r rr S1 s => k h1 tc r rr (H.scr s S1).1 (H.scr s S1).2)
theorem a8_round {l : Launch} {h : MH} {Q : Option Value → MH → Prop} {tn : Int} {tf : Nat → Int} {xn : Nat → Int} {xf : Nat → Nat → Int} {en : Int} {tc : Nat} {a b i : Int} (H : IX h tn tf xn xf en tc) (ra : rg a) (rb : rg b) (ri : rg i) (k : ∀ (h1 : MH) (tc1 : Nat) (r : Int), rg r → IX h1 tn tf xn xf en tc1 → Mo h h1 → Q (some (.int (iZ r))) h1) : Go l mX8_round 0 [some (.ref 0), some (.int (iZ a)), some (.int (iZ b)), some (.int (iZ i)), none, none, none] [] h Q :=
  p_round H.1 H.2.1 ra rb ri (fun h1 r rr S1 s => k h1 tc r rr (H.scr s S1).1 (H.scr s S1).2)
theorem a8_hides {l : Launch} {h : MH} {Q : Option Value → MH → Prop} {tn : Int} {tf : Nat → Int} {xn : Nat → Int} {xf : Nat → Nat → Int} {en : Int} {tc : Nat} {a b i : Int} (H : IX h tn tf xn xf en tc) (ra : rg a) (rb : rg b) (ri : rg i) (k : ∀ (h1 : MH) (tc1 : Nat) (r : Int), rg r → IX h1 tn tf xn xf en tc1 → Mo h h1 → Q (some (.int (iZ r))) h1) : Go l mX8_hides 0 [some (.ref 0), some (.int (iZ a)), some (.int (iZ b)), some (.int (iZ i)), none, none, none, none] [] h Q :=
  p_hides H.1 H.2.1 ra rb ri (fun h1 r rr S1 s => k h1 tc r rr (H.scr s S1).1 (H.scr s S1).2)
theorem a8_sealed {l : Launch} {h : MH} {Q : Option Value → MH → Prop} {tn : Int} {tf : Nat → Int} {xn : Nat → Int} {xf : Nat → Nat → Int} {en : Int} {tc : Nat} {t : Int} (H : IX h tn tf xn xf en tc) (rt : rg t) (k : ∀ (h1 : MH) (tc1 : Nat) (r : Int), rg r → IX h1 tn tf xn xf en tc1 → Mo h h1 → Q (some (.int (iZ r))) h1) : Go l mX8_sealed 0 [some (.ref 0), some (.int (iZ t))] [] h Q :=
  p_sealed H.1 H.2.1 rt (fun h1 r rr S1 s => k h1 tc r rr (H.scr s S1).1 (H.scr s S1).2)
theorem a8_least {l : Launch} {h : MH} {Q : Option Value → MH → Prop} {tn : Int} {tf : Nat → Int} {xn : Nat → Int} {xf : Nat → Nat → Int} {en : Int} {tc : Nat} {z0 : Int} (H : IX h tn tf xn xf en tc) (rz0 : rg z0) (k : ∀ (h1 : MH) (tc1 : Nat) (r : Int), rg r → IX h1 tn tf xn xf en tc1 → Mo h h1 → Q (some (.int (iZ r))) h1) : Go l mX8_least 0 [some (.ref 0), some (.int (iZ z0)), none, none, none, none, none] [] h Q :=
  p_least H.1 H.2.1 rz0 (fun h1 r rr S1 s => k h1 tc r rr (H.scr s S1).1 (H.scr s S1).2)
set_option maxRecDepth 100000 in
theorem a8_pairs {l : Launch} {h : MH} {Q : Option Value → MH → Prop} {tn : Int} {tf : Nat → Int} {xn : Nat → Int} {xf : Nat → Nat → Int} {en : Int} {tc : Nat} {i : Int} (H : IX h tn tf xn xf en tc) (ri : rg i) (k : ∀ (h1 : MH) (tc1 : Nat) (r : Int), rg r → IX h1 tn tf xn xf en tc1 → Mo h h1 → Q (some (.int (iZ r))) h1) : Go l mX8_pairs 0 [some (.ref 0), some (.int (iZ i))] [] h Q := by
  obtain ⟨HC, HS, HY, HE, hlen, hmz⟩ := id H
  obtain ⟨⟨tr, F0⟩, F3, F4, htc, HT, HL⟩ := id HC
  refine g_aload_n 1 dX8_pairs_0 rfl rfl ?_
  refine g_iconst (v := iZ (0)) 2 dX8_pairs_1 rfl rfl ?_
  refine g_iload_n 3 dX8_pairs_2 rfl rfl ?_
  refine g_callV (z := mX8_make) (As := [.int (iZ 0), .int (iZ i)]) 6 dX8_pairs_3 mwX8_make ⟨by decide, by decide⟩ rfl wlX8_86 wiX8_make wsX8_make F0 rfl rfl rfl (nle rfl) (nle rfl) rfl ?_
  refine Go.to [some (.ref 0), some (.int (iZ 0)), some (.int (iZ i)), none, none, none] [] rfl rfl ?_
  refine g_aload_n 1 dX8_make_0 rfl rfl ?_
  refine g_iload_n 2 dX8_make_1 rfl rfl ?_
  refine g_callV (z := mX8_textAt) (As := [.int (iZ i)]) 5 dX8_make_2 mwX8_textAt ⟨by decide, by decide⟩ rfl wlX8_74 wiX8_textAt wsX8_textAt F0 rfl rfl rfl (nle rfl) (nle rfl) rfl ?_
  refine Go.to [some (.ref 0), some (.int (iZ i))] [] rfl rfl ?_
  refine g_iload_n 1 dX8_textAt_0 rfl rfl ?_
  refine g_ifZ_lt 10 4 dX8_textAt_1 rfl rfl ri (fun c1 => ?_) (fun c1 => ?_)
  · refine g_null 11 dX8_textAt_10 rfl ?_
    refine g_goto 20 dX8_textAt_11 rfl ?_
    refine g_aret rfl (Or.inl rfl) dX8_textAt_20 ?_
    refine rN ?_
    refine g_astore_nN (L1 := [some (.ref 0), some (.int (iZ 0)), some (.int (iZ i)), some (.null), none, none]) 6 dX8_make_5 (by decide) rfl rfl rfl ?_
    refine g_aload_nN 7 dX8_make_6 rfl rfl ?_
    refine g_ifnonnullN 10 dX8_make_7 rfl ?_
    refine g_iconst (v := iZ (-1)) 11 dX8_make_10 rfl rfl ?_
    refine g_iret rfl dX8_make_11 ?_
    refine rI ?_
    refine g_iret rfl dX8_pairs_6 ?_
    have zz := H.scr (Scr.refl _) HS
    exact k _ tc (-1) (by decide) zz.1 zz.2
  · refine g_iload_n 5 dX8_textAt_4 rfl rfl ?_
    refine g_bipush (v := iZ (8)) 7 dX8_textAt_5 (by decide +kernel) rfl ?_
    refine g_icZ_lt 14 10 dX8_textAt_7 rfl rfl ri (by decide) (fun c2 => ?_) (fun c2 => ?_)
    · refine g_aload_n 15 dX8_textAt_14 rfl rfl ?_
      refine g_get 18 dX8_textAt_15 faX8_16_X8 F0 rfl rfl ?_
      refine g_iload_n 19 dX8_textAt_18 rfl rfl ?_
      refine g_aaldZ 20 dX8_textAt_19 F3 (by decide) (by omega) (by omega) (by decide) (txs_at (by omega) (by omega)) rfl ?_
      refine g_aret rfl (Or.inr ⟨_, rfl⟩) dX8_textAt_20 ?_
      refine rR ?_
      refine g_astore_n (L1 := [some (.ref 0), some (.int (iZ 0)), some (.int (iZ i)), some (.ref (34 + 2 * i.toNat)), none, none]) 6 dX8_make_5 (by decide) rfl rfl rfl ?_
      refine g_aload_n 7 dX8_make_6 rfl rfl ?_
      refine g_ifnonnull 12 dX8_make_7 rfl ?_
      refine g_aload_n 13 dX8_make_12 rfl rfl ?_
      refine g_iload_n 14 dX8_make_13 rfl rfl ?_
      refine g_callV (z := mX8_makerBy) (As := [.int (iZ 0)]) 17 dX8_make_14 mwX8_makerBy ⟨by decide, by decide⟩ rfl wlX8_228 wiX8_makerBy wsX8_makerBy F0 rfl rfl rfl (nle rfl) (nle rfl) rfl ?_
      refine Go.to [some (.ref 0), some (.int (iZ 0))] [] rfl rfl ?_
      refine g_iload_n 1 dX8_makerBy_0 rfl rfl ?_
      refine g_ifZ_ne 11 4 dX8_makerBy_1 rfl rfl (by decide) (fun q => absurd q (by decide)) (fun _ => ?_)
      refine g_aload_n 5 dX8_makerBy_4 rfl rfl ?_
      refine g_get 8 dX8_makerBy_5 faX8_33_X8 F0 rfl rfl ?_
      refine g_goto 15 dX8_makerBy_8 rfl ?_
      refine g_aret rfl (Or.inr ⟨_, rfl⟩) dX8_makerBy_15 ?_
      refine rR ?_
      refine g_astore (L1 := [some (.ref 0), some (.int (iZ 0)), some (.int (iZ i)), some (.ref (34 + 2 * i.toNat)), some (.ref 5), none]) 19 dX8_make_17 (by decide) rfl rfl rfl ?_
      refine g_aload 21 dX8_make_19 rfl rfl ?_
      refine g_aload_n 22 dX8_make_21 rfl rfl ?_
      obtain ⟨n_3, f_3, g_3, rn_3, of_3, og_3, e0_3, e1_3, e2_3, e3_3⟩ := HS.1
      refine g_callA (z := mX5_faultIn) (As := [.ref (34 + 2 * i.toNat)]) 25 dX8_make_22 mwX5_faultIn ⟨by decide, by decide⟩ rfl wlX8_232 wsmMk wiX5_faultIn wsaX5 wdMk (by decide) e0_3 rfl rfl (nle rfl) (nle rfl) rfl ?_
      obtain ⟨t0_4, t1_4, t2_4, t3_4, t4_4⟩ := HT (i.toNat) (by omega)
      refine sc_pf HS t0_4 t1_4 (okb_okr t4_4) (by omega) (by omega) (fun h5 z6 rz6 H7 s8 => ?_)
      refine rI ?_
      refine g_istore (L1 := [some (.ref 0), some (.int (iZ 0)), some (.int (iZ i)), some (.ref (34 + 2 * i.toNat)), some (.ref 5), some (.int (iZ z6))]) 27 dX8_make_25 (by decide) rfl rfl rfl ?_
      refine g_iload 29 dX8_make_27 rfl rfl ?_
      refine g_bipush (v := iZ (-9)) 31 dX8_make_29 (by decide +kernel) rfl ?_
      refine g_icZ_ne 50 34 dX8_make_31 rfl rfl rz6 (by decide) (fun c9 => ?_) (fun c9 => ?_)
      · refine g_bipush (v := iZ (-10)) 52 dX8_make_50 (by decide +kernel) rfl ?_
        refine g_iload 54 dX8_make_52 rfl rfl ?_
        refine g_isub 55 dX8_make_54 rfl ?_
        refine Go.genZ (fun z10 rz10 => ?_)
        refine g_iret rfl dX8_make_55 ?_
        refine rI ?_
        refine g_iret rfl dX8_pairs_6 ?_
        have zz := H.scr s8 H7
        exact k _ tc (z10) rz10 zz.1 zz.2
      · refine g_aload_n 35 dX8_make_34 rfl rfl ?_
        refine g_aload 37 dX8_make_35 rfl rfl ?_
        obtain ⟨n_11, f_11, g_11, rn_11, of_11, og_11, e0_11, e1_11, e2_11, e3_11⟩ := H7.1
        refine g_get 40 dX8_make_37 faX8_238_X5 e0_11 rfl rfl ?_
        refine g_iload_n 41 dX8_make_40 rfl rfl ?_
        refine g_iload_n 42 dX8_make_41 rfl rfl ?_
        refine g_bipush (v := iZ (-9)) 44 dX8_make_42 (by decide +kernel) rfl ?_
        have f12 := (s8.get (by omega) F0)
        refine g_callV (z := mX8_keep) (As := [.ref 6, .int (iZ 0), .int (iZ i), .int (iZ (-9))]) 47 dX8_make_44 mwX8_keep ⟨by decide, by decide⟩ rfl wlX8_105 wiX8_keep wsX8_keep f12 rfl rfl rfl (nle rfl) (nle rfl) rfl ?_
        refine w_keep (HC.scr s8) H7 (s8.1.trans hlen) e1_11 e2_11 e3_11 of_11 og_11 rn_11 (by decide) (by decide) ri (by decide) (fun h13 t14 z15 rz15 C16 H17 k18 => ?_)
        refine rI ?_
        refine g_goto 55 dX8_make_47 rfl ?_
        refine g_iret rfl dX8_make_55 ?_
        refine rI ?_
        refine g_iret rfl dX8_pairs_6 ?_
        have zz := H.scr s8 H7
        have z2 := zz.1.kp C16 H17 k18
        exact k _ t14 (z15) rz15 z2.1 (zz.2.tr z2.2)
    · refine g_null 11 dX8_textAt_10 rfl ?_
      refine g_goto 20 dX8_textAt_11 rfl ?_
      refine g_aret rfl (Or.inl rfl) dX8_textAt_20 ?_
      refine rN ?_
      refine g_astore_nN (L1 := [some (.ref 0), some (.int (iZ 0)), some (.int (iZ i)), some (.null), none, none]) 6 dX8_make_5 (by decide) rfl rfl rfl ?_
      refine g_aload_nN 7 dX8_make_6 rfl rfl ?_
      refine g_ifnonnullN 10 dX8_make_7 rfl ?_
      refine g_iconst (v := iZ (-1)) 11 dX8_make_10 rfl rfl ?_
      refine g_iret rfl dX8_make_11 ?_
      refine rI ?_
      refine g_iret rfl dX8_pairs_6 ?_
      have zz := H.scr (Scr.refl _) HS
      exact k _ tc (-1) (by decide) zz.1 zz.2
set_option maxRecDepth 100000 in
theorem a8_named {l : Launch} {h : MH} {Q : Option Value → MH → Prop} {tn : Int} {tf : Nat → Int} {xn : Nat → Int} {xf : Nat → Nat → Int} {en : Int} {tc : Nat} {i : Int} (H : IX h tn tf xn xf en tc) (ri : rg i) (k : ∀ (h1 : MH) (tc1 : Nat) (r : Int), rg r → IX h1 tn tf xn xf en tc1 → Mo h h1 → Q (some (.int (iZ r))) h1) : Go l mX8_named 0 [some (.ref 0), some (.int (iZ i))] [] h Q := by
  obtain ⟨HC, HS, HY, HE, hlen, hmz⟩ := id H
  obtain ⟨⟨tr, F0⟩, F3, F4, htc, HT, HL⟩ := id HC
  refine g_aload_n 1 dX8_named_0 rfl rfl ?_
  refine g_iconst (v := iZ (1)) 2 dX8_named_1 rfl rfl ?_
  refine g_iload_n 3 dX8_named_2 rfl rfl ?_
  refine g_callV (z := mX8_make) (As := [.int (iZ 1), .int (iZ i)]) 6 dX8_named_3 mwX8_make ⟨by decide, by decide⟩ rfl wlX8_86 wiX8_make wsX8_make F0 rfl rfl rfl (nle rfl) (nle rfl) rfl ?_
  refine Go.to [some (.ref 0), some (.int (iZ 1)), some (.int (iZ i)), none, none, none] [] rfl rfl ?_
  refine g_aload_n 1 dX8_make_0 rfl rfl ?_
  refine g_iload_n 2 dX8_make_1 rfl rfl ?_
  refine g_callV (z := mX8_textAt) (As := [.int (iZ i)]) 5 dX8_make_2 mwX8_textAt ⟨by decide, by decide⟩ rfl wlX8_74 wiX8_textAt wsX8_textAt F0 rfl rfl rfl (nle rfl) (nle rfl) rfl ?_
  refine Go.to [some (.ref 0), some (.int (iZ i))] [] rfl rfl ?_
  refine g_iload_n 1 dX8_textAt_0 rfl rfl ?_
  refine g_ifZ_lt 10 4 dX8_textAt_1 rfl rfl ri (fun c1 => ?_) (fun c1 => ?_)
  · refine g_null 11 dX8_textAt_10 rfl ?_
    refine g_goto 20 dX8_textAt_11 rfl ?_
    refine g_aret rfl (Or.inl rfl) dX8_textAt_20 ?_
    refine rN ?_
    refine g_astore_nN (L1 := [some (.ref 0), some (.int (iZ 1)), some (.int (iZ i)), some (.null), none, none]) 6 dX8_make_5 (by decide) rfl rfl rfl ?_
    refine g_aload_nN 7 dX8_make_6 rfl rfl ?_
    refine g_ifnonnullN 10 dX8_make_7 rfl ?_
    refine g_iconst (v := iZ (-1)) 11 dX8_make_10 rfl rfl ?_
    refine g_iret rfl dX8_make_11 ?_
    refine rI ?_
    refine g_iret rfl dX8_named_6 ?_
    have zz := H.scr (Scr.refl _) HS
    exact k _ tc (-1) (by decide) zz.1 zz.2
  · refine g_iload_n 5 dX8_textAt_4 rfl rfl ?_
    refine g_bipush (v := iZ (8)) 7 dX8_textAt_5 (by decide +kernel) rfl ?_
    refine g_icZ_lt 14 10 dX8_textAt_7 rfl rfl ri (by decide) (fun c2 => ?_) (fun c2 => ?_)
    · refine g_aload_n 15 dX8_textAt_14 rfl rfl ?_
      refine g_get 18 dX8_textAt_15 faX8_16_X8 F0 rfl rfl ?_
      refine g_iload_n 19 dX8_textAt_18 rfl rfl ?_
      refine g_aaldZ 20 dX8_textAt_19 F3 (by decide) (by omega) (by omega) (by decide) (txs_at (by omega) (by omega)) rfl ?_
      refine g_aret rfl (Or.inr ⟨_, rfl⟩) dX8_textAt_20 ?_
      refine rR ?_
      refine g_astore_n (L1 := [some (.ref 0), some (.int (iZ 1)), some (.int (iZ i)), some (.ref (34 + 2 * i.toNat)), none, none]) 6 dX8_make_5 (by decide) rfl rfl rfl ?_
      refine g_aload_n 7 dX8_make_6 rfl rfl ?_
      refine g_ifnonnull 12 dX8_make_7 rfl ?_
      refine g_aload_n 13 dX8_make_12 rfl rfl ?_
      refine g_iload_n 14 dX8_make_13 rfl rfl ?_
      refine g_callV (z := mX8_makerBy) (As := [.int (iZ 1)]) 17 dX8_make_14 mwX8_makerBy ⟨by decide, by decide⟩ rfl wlX8_228 wiX8_makerBy wsX8_makerBy F0 rfl rfl rfl (nle rfl) (nle rfl) rfl ?_
      refine Go.to [some (.ref 0), some (.int (iZ 1))] [] rfl rfl ?_
      refine g_iload_n 1 dX8_makerBy_0 rfl rfl ?_
      refine g_ifZ_ne 11 4 dX8_makerBy_1 rfl rfl (by decide) (fun _ => ?_) (fun q => absurd q (by decide))
      refine g_aload_n 12 dX8_makerBy_11 rfl rfl ?_
      refine g_get 15 dX8_makerBy_12 faX8_40_X8 F0 rfl rfl ?_
      refine g_aret rfl (Or.inr ⟨_, rfl⟩) dX8_makerBy_15 ?_
      refine rR ?_
      refine g_astore (L1 := [some (.ref 0), some (.int (iZ 1)), some (.int (iZ i)), some (.ref (34 + 2 * i.toNat)), some (.ref 9), none]) 19 dX8_make_17 (by decide) rfl rfl rfl ?_
      refine g_aload 21 dX8_make_19 rfl rfl ?_
      refine g_aload_n 22 dX8_make_21 rfl rfl ?_
      obtain ⟨due_3, la_3, n_3, pl_3, lu_3, f_3, g_3, rdue_3, rla_3, rn_3, opl_3, olu_3, of_3, og_3, e0_3, e1_3, e2_3, e3_3, e4_3, e5_3⟩ := HS.2.1
      refine g_callA (z := mX4_faultIn) (As := [.ref (34 + 2 * i.toNat)]) 25 dX8_make_22 mwX4_faultIn ⟨by decide, by decide⟩ rfl wlX8_232 wsmMk wiX4_faultIn wsaX4 wdMk (by decide) e0_3 rfl rfl (nle rfl) (nle rfl) rfl ?_
      obtain ⟨t0_4, t1_4, t2_4, t3_4, t4_4⟩ := HT (i.toNat) (by omega)
      refine sc_nf HS t0_4 t1_4 (okb_okr t4_4) (by omega) (by omega) (fun h5 z6 rz6 H7 s8 => ?_)
      refine rI ?_
      refine g_istore (L1 := [some (.ref 0), some (.int (iZ 1)), some (.int (iZ i)), some (.ref (34 + 2 * i.toNat)), some (.ref 9), some (.int (iZ z6))]) 27 dX8_make_25 (by decide) rfl rfl rfl ?_
      refine g_iload 29 dX8_make_27 rfl rfl ?_
      refine g_bipush (v := iZ (-9)) 31 dX8_make_29 (by decide +kernel) rfl ?_
      refine g_icZ_ne 50 34 dX8_make_31 rfl rfl rz6 (by decide) (fun c9 => ?_) (fun c9 => ?_)
      · refine g_bipush (v := iZ (-10)) 52 dX8_make_50 (by decide +kernel) rfl ?_
        refine g_iload 54 dX8_make_52 rfl rfl ?_
        refine g_isub 55 dX8_make_54 rfl ?_
        refine Go.genZ (fun z10 rz10 => ?_)
        refine g_iret rfl dX8_make_55 ?_
        refine rI ?_
        refine g_iret rfl dX8_named_6 ?_
        have zz := H.scr s8 H7
        exact k _ tc (z10) rz10 zz.1 zz.2
      · refine g_aload_n 35 dX8_make_34 rfl rfl ?_
        refine g_aload 37 dX8_make_35 rfl rfl ?_
        obtain ⟨due_11, la_11, n_11, pl_11, lu_11, f_11, g_11, rdue_11, rla_11, rn_11, opl_11, olu_11, of_11, og_11, e0_11, e1_11, e2_11, e3_11, e4_11, e5_11⟩ := H7.2.1
        refine g_get 40 dX8_make_37 faX8_238_X4 e0_11 rfl rfl ?_
        refine g_iload_n 41 dX8_make_40 rfl rfl ?_
        refine g_iload_n 42 dX8_make_41 rfl rfl ?_
        refine g_bipush (v := iZ (-9)) 44 dX8_make_42 (by decide +kernel) rfl ?_
        have f12 := (s8.get (by omega) F0)
        refine g_callV (z := mX8_keep) (As := [.ref 10, .int (iZ 1), .int (iZ i), .int (iZ (-9))]) 47 dX8_make_44 mwX8_keep ⟨by decide, by decide⟩ rfl wlX8_105 wiX8_keep wsX8_keep f12 rfl rfl rfl (nle rfl) (nle rfl) rfl ?_
        refine w_keep (HC.scr s8) H7 (s8.1.trans hlen) e1_11 e2_11 e3_11 of_11 og_11 rn_11 (by decide) (by decide) ri (by decide) (fun h13 t14 z15 rz15 C16 H17 k18 => ?_)
        refine rI ?_
        refine g_goto 55 dX8_make_47 rfl ?_
        refine g_iret rfl dX8_make_55 ?_
        refine rI ?_
        refine g_iret rfl dX8_named_6 ?_
        have zz := H.scr s8 H7
        have z2 := zz.1.kp C16 H17 k18
        exact k _ t14 (z15) rz15 z2.1 (zz.2.tr z2.2)
    · refine g_null 11 dX8_textAt_10 rfl ?_
      refine g_goto 20 dX8_textAt_11 rfl ?_
      refine g_aret rfl (Or.inl rfl) dX8_textAt_20 ?_
      refine rN ?_
      refine g_astore_nN (L1 := [some (.ref 0), some (.int (iZ 1)), some (.int (iZ i)), some (.null), none, none]) 6 dX8_make_5 (by decide) rfl rfl rfl ?_
      refine g_aload_nN 7 dX8_make_6 rfl rfl ?_
      refine g_ifnonnullN 10 dX8_make_7 rfl ?_
      refine g_iconst (v := iZ (-1)) 11 dX8_make_10 rfl rfl ?_
      refine g_iret rfl dX8_make_11 ?_
      refine rI ?_
      refine g_iret rfl dX8_named_6 ?_
      have zz := H.scr (Scr.refl _) HS
      exact k _ tc (-1) (by decide) zz.1 zz.2
set_option maxRecDepth 100000 in
theorem a8_build {l : Launch} {h : MH} {Q : Option Value → MH → Prop} {tn : Int} {tf : Nat → Int} {xn : Nat → Int} {xf : Nat → Nat → Int} {en : Int} {tc : Nat} {t i : Int} (H : IX h tn tf xn xf en tc) (rt : rg t) (ri : rg i) (k : ∀ (h1 : MH) (tc1 : Nat) (r : Int), rg r → IX h1 tn tf xn xf en tc1 → Mo h h1 → Q (some (.int (iZ r))) h1) : Go l mX8_build 0 [some (.ref 0), some (.int (iZ t)), some (.int (iZ i)), none, none] [] h Q := by
  obtain ⟨HC, HS, HY, HE, hlen, hmz⟩ := id H
  obtain ⟨⟨tr, F0⟩, F3, F4, htc, HT, HL⟩ := id HC
  refine g_aload_n 1 dX8_build_0 rfl rfl ?_
  refine g_iload_n 2 dX8_build_1 rfl rfl ?_
  refine g_callV (z := mX8_toolAt) (As := [.int (iZ t)]) 5 dX8_build_2 mwX8_toolAt ⟨by decide, by decide⟩ rfl wlX8_90 wiX8_toolAt wsX8_toolAt F0 rfl rfl rfl (nle rfl) (nle rfl) rfl ?_
  refine Go.to [some (.ref 0), some (.int (iZ t))] [] rfl rfl ?_
  refine g_iload_n 1 dX8_toolAt_0 rfl rfl ?_
  refine g_ifZ_lt 18 4 dX8_toolAt_1 rfl rfl rt (fun c1 => ?_) (fun c1 => ?_)
  · refine g_null 19 dX8_toolAt_18 rfl ?_
    refine g_goto 28 dX8_toolAt_19 rfl ?_
    refine g_aret rfl (Or.inl rfl) dX8_toolAt_28 ?_
    refine rN ?_
    refine g_astore_nN (L1 := [some (.ref 0), some (.int (iZ t)), some (.int (iZ i)), some (.null), none]) 6 dX8_build_5 (by decide) rfl rfl rfl ?_
    refine g_aload_n 7 dX8_build_6 rfl rfl ?_
    refine g_iload_n 8 dX8_build_7 rfl rfl ?_
    refine g_callV (z := mX8_textAt) (As := [.int (iZ i)]) 11 dX8_build_8 mwX8_textAt ⟨by decide, by decide⟩ rfl wlX8_74 wiX8_textAt wsX8_textAt F0 rfl rfl rfl (nle rfl) (nle rfl) rfl ?_
    refine Go.to [some (.ref 0), some (.int (iZ i))] [] rfl rfl ?_
    refine g_iload_n 1 dX8_textAt_0 rfl rfl ?_
    refine g_ifZ_lt 10 4 dX8_textAt_1 rfl rfl ri (fun c2 => ?_) (fun c2 => ?_)
    · refine g_null 11 dX8_textAt_10 rfl ?_
      refine g_goto 20 dX8_textAt_11 rfl ?_
      refine g_aret rfl (Or.inl rfl) dX8_textAt_20 ?_
      refine rN ?_
      refine g_astoreN (L1 := [some (.ref 0), some (.int (iZ t)), some (.int (iZ i)), some (.null), some (.null)]) 13 dX8_build_11 (by decide) rfl rfl rfl ?_
      refine g_aload_nN 14 dX8_build_13 rfl rfl ?_
      refine g_ifnullN 22 dX8_build_14 rfl ?_
      refine g_iconst (v := iZ (-1)) 23 dX8_build_22 rfl rfl ?_
      refine g_iret rfl dX8_build_23 ?_
      have zz := H.scr (Scr.refl _) HS
      exact k _ tc (-1) (by decide) zz.1 zz.2
    · refine g_iload_n 5 dX8_textAt_4 rfl rfl ?_
      refine g_bipush (v := iZ (8)) 7 dX8_textAt_5 (by decide +kernel) rfl ?_
      refine g_icZ_lt 14 10 dX8_textAt_7 rfl rfl ri (by decide) (fun c3 => ?_) (fun c3 => ?_)
      · refine g_aload_n 15 dX8_textAt_14 rfl rfl ?_
        refine g_get 18 dX8_textAt_15 faX8_16_X8 F0 rfl rfl ?_
        refine g_iload_n 19 dX8_textAt_18 rfl rfl ?_
        refine g_aaldZ 20 dX8_textAt_19 F3 (by decide) (by omega) (by omega) (by decide) (txs_at (by omega) (by omega)) rfl ?_
        refine g_aret rfl (Or.inr ⟨_, rfl⟩) dX8_textAt_20 ?_
        refine rR ?_
        refine g_astore (L1 := [some (.ref 0), some (.int (iZ t)), some (.int (iZ i)), some (.null), some (.ref (34 + 2 * i.toNat))]) 13 dX8_build_11 (by decide) rfl rfl rfl ?_
        refine g_aload_nN 14 dX8_build_13 rfl rfl ?_
        refine g_ifnullN 22 dX8_build_14 rfl ?_
        refine g_iconst (v := iZ (-1)) 23 dX8_build_22 rfl rfl ?_
        refine g_iret rfl dX8_build_23 ?_
        have zz := H.scr (Scr.refl _) HS
        exact k _ tc (-1) (by decide) zz.1 zz.2
      · refine g_null 11 dX8_textAt_10 rfl ?_
        refine g_goto 20 dX8_textAt_11 rfl ?_
        refine g_aret rfl (Or.inl rfl) dX8_textAt_20 ?_
        refine rN ?_
        refine g_astoreN (L1 := [some (.ref 0), some (.int (iZ t)), some (.int (iZ i)), some (.null), some (.null)]) 13 dX8_build_11 (by decide) rfl rfl rfl ?_
        refine g_aload_nN 14 dX8_build_13 rfl rfl ?_
        refine g_ifnullN 22 dX8_build_14 rfl ?_
        refine g_iconst (v := iZ (-1)) 23 dX8_build_22 rfl rfl ?_
        refine g_iret rfl dX8_build_23 ?_
        have zz := H.scr (Scr.refl _) HS
        exact k _ tc (-1) (by decide) zz.1 zz.2
  · refine g_iload_n 5 dX8_toolAt_4 rfl rfl ?_
    refine g_aload_n 6 dX8_toolAt_5 rfl rfl ?_
    refine g_get 9 dX8_toolAt_6 faX8_26_X8 F0 rfl rfl ?_
    refine g_icZ_ge 18 12 dX8_toolAt_9 rfl rfl rt (by omega) (fun c4 => ?_) (fun c4 => ?_)
    · refine g_null 19 dX8_toolAt_18 rfl ?_
      refine g_goto 28 dX8_toolAt_19 rfl ?_
      refine g_aret rfl (Or.inl rfl) dX8_toolAt_28 ?_
      refine rN ?_
      refine g_astore_nN (L1 := [some (.ref 0), some (.int (iZ t)), some (.int (iZ i)), some (.null), none]) 6 dX8_build_5 (by decide) rfl rfl rfl ?_
      refine g_aload_n 7 dX8_build_6 rfl rfl ?_
      refine g_iload_n 8 dX8_build_7 rfl rfl ?_
      refine g_callV (z := mX8_textAt) (As := [.int (iZ i)]) 11 dX8_build_8 mwX8_textAt ⟨by decide, by decide⟩ rfl wlX8_74 wiX8_textAt wsX8_textAt F0 rfl rfl rfl (nle rfl) (nle rfl) rfl ?_
      refine Go.to [some (.ref 0), some (.int (iZ i))] [] rfl rfl ?_
      refine g_iload_n 1 dX8_textAt_0 rfl rfl ?_
      refine g_ifZ_lt 10 4 dX8_textAt_1 rfl rfl ri (fun c5 => ?_) (fun c5 => ?_)
      · refine g_null 11 dX8_textAt_10 rfl ?_
        refine g_goto 20 dX8_textAt_11 rfl ?_
        refine g_aret rfl (Or.inl rfl) dX8_textAt_20 ?_
        refine rN ?_
        refine g_astoreN (L1 := [some (.ref 0), some (.int (iZ t)), some (.int (iZ i)), some (.null), some (.null)]) 13 dX8_build_11 (by decide) rfl rfl rfl ?_
        refine g_aload_nN 14 dX8_build_13 rfl rfl ?_
        refine g_ifnullN 22 dX8_build_14 rfl ?_
        refine g_iconst (v := iZ (-1)) 23 dX8_build_22 rfl rfl ?_
        refine g_iret rfl dX8_build_23 ?_
        have zz := H.scr (Scr.refl _) HS
        exact k _ tc (-1) (by decide) zz.1 zz.2
      · refine g_iload_n 5 dX8_textAt_4 rfl rfl ?_
        refine g_bipush (v := iZ (8)) 7 dX8_textAt_5 (by decide +kernel) rfl ?_
        refine g_icZ_lt 14 10 dX8_textAt_7 rfl rfl ri (by decide) (fun c6 => ?_) (fun c6 => ?_)
        · refine g_aload_n 15 dX8_textAt_14 rfl rfl ?_
          refine g_get 18 dX8_textAt_15 faX8_16_X8 F0 rfl rfl ?_
          refine g_iload_n 19 dX8_textAt_18 rfl rfl ?_
          refine g_aaldZ 20 dX8_textAt_19 F3 (by decide) (by omega) (by omega) (by decide) (txs_at (by omega) (by omega)) rfl ?_
          refine g_aret rfl (Or.inr ⟨_, rfl⟩) dX8_textAt_20 ?_
          refine rR ?_
          refine g_astore (L1 := [some (.ref 0), some (.int (iZ t)), some (.int (iZ i)), some (.null), some (.ref (34 + 2 * i.toNat))]) 13 dX8_build_11 (by decide) rfl rfl rfl ?_
          refine g_aload_nN 14 dX8_build_13 rfl rfl ?_
          refine g_ifnullN 22 dX8_build_14 rfl ?_
          refine g_iconst (v := iZ (-1)) 23 dX8_build_22 rfl rfl ?_
          refine g_iret rfl dX8_build_23 ?_
          have zz := H.scr (Scr.refl _) HS
          exact k _ tc (-1) (by decide) zz.1 zz.2
        · refine g_null 11 dX8_textAt_10 rfl ?_
          refine g_goto 20 dX8_textAt_11 rfl ?_
          refine g_aret rfl (Or.inl rfl) dX8_textAt_20 ?_
          refine rN ?_
          refine g_astoreN (L1 := [some (.ref 0), some (.int (iZ t)), some (.int (iZ i)), some (.null), some (.null)]) 13 dX8_build_11 (by decide) rfl rfl rfl ?_
          refine g_aload_nN 14 dX8_build_13 rfl rfl ?_
          refine g_ifnullN 22 dX8_build_14 rfl ?_
          refine g_iconst (v := iZ (-1)) 23 dX8_build_22 rfl rfl ?_
          refine g_iret rfl dX8_build_23 ?_
          have zz := H.scr (Scr.refl _) HS
          exact k _ tc (-1) (by decide) zz.1 zz.2
    · refine g_iload_n 13 dX8_toolAt_12 rfl rfl ?_
      refine g_bipush (v := iZ (12)) 15 dX8_toolAt_13 (by decide +kernel) rfl ?_
      refine g_icZ_lt 22 18 dX8_toolAt_15 rfl rfl rt (by decide) (fun c7 => ?_) (fun c7 => ?_)
      · refine g_aload_n 23 dX8_toolAt_22 rfl rfl ?_
        refine g_get 26 dX8_toolAt_23 faX8_22_X8 F0 rfl rfl ?_
        refine g_iload_n 27 dX8_toolAt_26 rfl rfl ?_
        refine g_aaldZ 28 dX8_toolAt_27 F4 (by decide) (by omega) (by omega) (by decide) (tls_at (by omega) (by omega)) rfl ?_
        refine g_aret rfl (Or.inr ⟨_, rfl⟩) dX8_toolAt_28 ?_
        refine rR ?_
        refine g_astore_n (L1 := [some (.ref 0), some (.int (iZ t)), some (.int (iZ i)), some (.ref (71 + 4 * t.toNat)), none]) 6 dX8_build_5 (by decide) rfl rfl rfl ?_
        refine g_aload_n 7 dX8_build_6 rfl rfl ?_
        refine g_iload_n 8 dX8_build_7 rfl rfl ?_
        refine g_callV (z := mX8_textAt) (As := [.int (iZ i)]) 11 dX8_build_8 mwX8_textAt ⟨by decide, by decide⟩ rfl wlX8_74 wiX8_textAt wsX8_textAt F0 rfl rfl rfl (nle rfl) (nle rfl) rfl ?_
        refine Go.to [some (.ref 0), some (.int (iZ i))] [] rfl rfl ?_
        refine g_iload_n 1 dX8_textAt_0 rfl rfl ?_
        refine g_ifZ_lt 10 4 dX8_textAt_1 rfl rfl ri (fun c8 => ?_) (fun c8 => ?_)
        · refine g_null 11 dX8_textAt_10 rfl ?_
          refine g_goto 20 dX8_textAt_11 rfl ?_
          refine g_aret rfl (Or.inl rfl) dX8_textAt_20 ?_
          refine rN ?_
          refine g_astoreN (L1 := [some (.ref 0), some (.int (iZ t)), some (.int (iZ i)), some (.ref (71 + 4 * t.toNat)), some (.null)]) 13 dX8_build_11 (by decide) rfl rfl rfl ?_
          refine g_aload_n 14 dX8_build_13 rfl rfl ?_
          refine g_ifnull 17 dX8_build_14 rfl ?_
          refine g_aloadN 19 dX8_build_17 rfl rfl ?_
          refine g_ifnonnullN 22 dX8_build_19 rfl ?_
          refine g_iconst (v := iZ (-1)) 23 dX8_build_22 rfl rfl ?_
          refine g_iret rfl dX8_build_23 ?_
          have zz := H.scr (Scr.refl _) HS
          exact k _ tc (-1) (by decide) zz.1 zz.2
        · refine g_iload_n 5 dX8_textAt_4 rfl rfl ?_
          refine g_bipush (v := iZ (8)) 7 dX8_textAt_5 (by decide +kernel) rfl ?_
          refine g_icZ_lt 14 10 dX8_textAt_7 rfl rfl ri (by decide) (fun c9 => ?_) (fun c9 => ?_)
          · refine g_aload_n 15 dX8_textAt_14 rfl rfl ?_
            refine g_get 18 dX8_textAt_15 faX8_16_X8 F0 rfl rfl ?_
            refine g_iload_n 19 dX8_textAt_18 rfl rfl ?_
            refine g_aaldZ 20 dX8_textAt_19 F3 (by decide) (by omega) (by omega) (by decide) (txs_at (by omega) (by omega)) rfl ?_
            refine g_aret rfl (Or.inr ⟨_, rfl⟩) dX8_textAt_20 ?_
            refine rR ?_
            refine g_astore (L1 := [some (.ref 0), some (.int (iZ t)), some (.int (iZ i)), some (.ref (71 + 4 * t.toNat)), some (.ref (34 + 2 * i.toNat))]) 13 dX8_build_11 (by decide) rfl rfl rfl ?_
            refine g_aload_n 14 dX8_build_13 rfl rfl ?_
            refine g_ifnull 17 dX8_build_14 rfl ?_
            refine g_aload 19 dX8_build_17 rfl rfl ?_
            refine g_ifnonnull 24 dX8_build_19 rfl ?_
            refine g_aload_n 25 dX8_build_24 rfl rfl ?_
            refine g_get 28 dX8_build_25 faX8_50_X8 F0 rfl rfl ?_
            refine g_aload_n 29 dX8_build_28 rfl rfl ?_
            obtain ⟨M_10, n_10, hw_10, tx_10, bd_10, ck_10, f_10, g_10, hM_10, rn_10, rhw_10, rtx_10, rbd_10, rck_10, of_10, og_10, e0_10, e1_10, e2_10, e3_10⟩ := HL (t.toNat) (by omega)
            refine g_get 32 dX8_build_29 faX8_94_X7 e0_10 rfl rfl ?_
            refine g_aload 34 dX8_build_32 rfl rfl ?_
            obtain ⟨a_11, x_11, p_11, en_11, dn_11, tk_11, hm_11, on_11, mm_11, of_11, og_11, ra_11, rx_11, rp_11, ren_11, rdn_11, rtk_11, rhm_11, ron_11, omm_11, oof_11, oog_11, e0_11, e1_11, e2_11, e3_11, e4_11⟩ := SC.m (m := 20) (by decide) HS
            refine g_callV (z := mX2_builds) (As := [.ref (71 + 4 * t.toNat + 1), .ref (34 + 2 * i.toNat)]) 37 dX8_build_34 mwX2_builds ⟨by decide, by decide⟩ rfl wlX8_98 wiX2_builds wsX2_builds e0_11 rfl rfl rfl (nle rfl) (nle rfl) rfl ?_
            obtain ⟨t0_12, t1_12, t2_12, t3_12, t4_12⟩ := HT (i.toNat) (by omega)
            refine sc_bl (M := M_10) (by decide) HS e1_10 e2_10 e3_10 of_10 og_10 rn_10 (by omega) (by omega) t0_12 t1_12 (okb_okr t4_12) (by omega) (by omega) (fun h13 z14 rz14 H15 s16 => ?_)
            refine rI ?_
            refine g_ifZ_ne 43 40 dX8_build_37 rfl rfl (rg01 rz14) (fun c17 => ?_) (fun c17 => ?_)
            · refine g_aload_n 44 dX8_build_43 rfl rfl ?_
              refine g_aload_n 45 dX8_build_44 rfl rfl ?_
              have f18 := (s16.get (by omega) F0)
              refine g_get 48 dX8_build_45 faX8_50_X8 f18 rfl rfl ?_
              obtain ⟨a_19, x_19, p_19, en_19, dn_19, tk_19, hm_19, on_19, mm_19, of_19, og_19, ra_19, rx_19, rp_19, ren_19, rdn_19, rtk_19, rhm_19, ron_19, omm_19, oof_19, oog_19, e0_19, e1_19, e2_19, e3_19, e4_19⟩ := SC.m (m := 20) (by decide) H15
              refine g_get 51 dX8_build_48 faX8_102_X2 e0_19 rfl rfl ?_
              refine g_iconst (v := iZ (2)) 52 dX8_build_51 rfl rfl ?_
              refine g_iload_n 53 dX8_build_52 rfl rfl ?_
              refine g_iload_n 54 dX8_build_53 rfl rfl ?_
              refine g_callV (z := mX8_keep) (As := [.ref 22, .int (iZ 2), .int (iZ i), .int (iZ t)]) 57 dX8_build_54 mwX8_keep ⟨by decide, by decide⟩ rfl wlX8_105 wiX8_keep wsX8_keep f18 rfl rfl rfl (nle rfl) (nle rfl) rfl ?_
              refine w_keep (HC.scr s16) H15 (s16.1.trans hlen) e2_19 e3_19 e4_19 oof_19 oog_19 ron_19 (by decide) (by decide) ri rt (fun h20 t21 z22 rz22 C23 H24 k25 => ?_)
              refine rI ?_
              refine g_iret rfl dX8_build_57 ?_
              have zz := H.scr s16 H15
              have z2 := zz.1.kp C23 H24 k25
              exact k _ t21 (z22) rz22 z2.1 (zz.2.tr z2.2)
            · refine g_bipush (v := iZ (-2)) 42 dX8_build_40 (by decide +kernel) rfl ?_
              refine g_iret rfl dX8_build_42 ?_
              have zz := H.scr s16 H15
              exact k _ tc (-2) (by decide) zz.1 zz.2
          · refine g_null 11 dX8_textAt_10 rfl ?_
            refine g_goto 20 dX8_textAt_11 rfl ?_
            refine g_aret rfl (Or.inl rfl) dX8_textAt_20 ?_
            refine rN ?_
            refine g_astoreN (L1 := [some (.ref 0), some (.int (iZ t)), some (.int (iZ i)), some (.ref (71 + 4 * t.toNat)), some (.null)]) 13 dX8_build_11 (by decide) rfl rfl rfl ?_
            refine g_aload_n 14 dX8_build_13 rfl rfl ?_
            refine g_ifnull 17 dX8_build_14 rfl ?_
            refine g_aloadN 19 dX8_build_17 rfl rfl ?_
            refine g_ifnonnullN 22 dX8_build_19 rfl ?_
            refine g_iconst (v := iZ (-1)) 23 dX8_build_22 rfl rfl ?_
            refine g_iret rfl dX8_build_23 ?_
            have zz := H.scr (Scr.refl _) HS
            exact k _ tc (-1) (by decide) zz.1 zz.2
      · refine g_null 19 dX8_toolAt_18 rfl ?_
        refine g_goto 28 dX8_toolAt_19 rfl ?_
        refine g_aret rfl (Or.inl rfl) dX8_toolAt_28 ?_
        refine rN ?_
        refine g_astore_nN (L1 := [some (.ref 0), some (.int (iZ t)), some (.int (iZ i)), some (.null), none]) 6 dX8_build_5 (by decide) rfl rfl rfl ?_
        refine g_aload_n 7 dX8_build_6 rfl rfl ?_
        refine g_iload_n 8 dX8_build_7 rfl rfl ?_
        refine g_callV (z := mX8_textAt) (As := [.int (iZ i)]) 11 dX8_build_8 mwX8_textAt ⟨by decide, by decide⟩ rfl wlX8_74 wiX8_textAt wsX8_textAt F0 rfl rfl rfl (nle rfl) (nle rfl) rfl ?_
        refine Go.to [some (.ref 0), some (.int (iZ i))] [] rfl rfl ?_
        refine g_iload_n 1 dX8_textAt_0 rfl rfl ?_
        refine g_ifZ_lt 10 4 dX8_textAt_1 rfl rfl ri (fun c26 => ?_) (fun c26 => ?_)
        · refine g_null 11 dX8_textAt_10 rfl ?_
          refine g_goto 20 dX8_textAt_11 rfl ?_
          refine g_aret rfl (Or.inl rfl) dX8_textAt_20 ?_
          refine rN ?_
          refine g_astoreN (L1 := [some (.ref 0), some (.int (iZ t)), some (.int (iZ i)), some (.null), some (.null)]) 13 dX8_build_11 (by decide) rfl rfl rfl ?_
          refine g_aload_nN 14 dX8_build_13 rfl rfl ?_
          refine g_ifnullN 22 dX8_build_14 rfl ?_
          refine g_iconst (v := iZ (-1)) 23 dX8_build_22 rfl rfl ?_
          refine g_iret rfl dX8_build_23 ?_
          have zz := H.scr (Scr.refl _) HS
          exact k _ tc (-1) (by decide) zz.1 zz.2
        · refine g_iload_n 5 dX8_textAt_4 rfl rfl ?_
          refine g_bipush (v := iZ (8)) 7 dX8_textAt_5 (by decide +kernel) rfl ?_
          refine g_icZ_lt 14 10 dX8_textAt_7 rfl rfl ri (by decide) (fun c27 => ?_) (fun c27 => ?_)
          · refine g_aload_n 15 dX8_textAt_14 rfl rfl ?_
            refine g_get 18 dX8_textAt_15 faX8_16_X8 F0 rfl rfl ?_
            refine g_iload_n 19 dX8_textAt_18 rfl rfl ?_
            refine g_aaldZ 20 dX8_textAt_19 F3 (by decide) (by omega) (by omega) (by decide) (txs_at (by omega) (by omega)) rfl ?_
            refine g_aret rfl (Or.inr ⟨_, rfl⟩) dX8_textAt_20 ?_
            refine rR ?_
            refine g_astore (L1 := [some (.ref 0), some (.int (iZ t)), some (.int (iZ i)), some (.null), some (.ref (34 + 2 * i.toNat))]) 13 dX8_build_11 (by decide) rfl rfl rfl ?_
            refine g_aload_nN 14 dX8_build_13 rfl rfl ?_
            refine g_ifnullN 22 dX8_build_14 rfl ?_
            refine g_iconst (v := iZ (-1)) 23 dX8_build_22 rfl rfl ?_
            refine g_iret rfl dX8_build_23 ?_
            have zz := H.scr (Scr.refl _) HS
            exact k _ tc (-1) (by decide) zz.1 zz.2
          · refine g_null 11 dX8_textAt_10 rfl ?_
            refine g_goto 20 dX8_textAt_11 rfl ?_
            refine g_aret rfl (Or.inl rfl) dX8_textAt_20 ?_
            refine rN ?_
            refine g_astoreN (L1 := [some (.ref 0), some (.int (iZ t)), some (.int (iZ i)), some (.null), some (.null)]) 13 dX8_build_11 (by decide) rfl rfl rfl ?_
            refine g_aload_nN 14 dX8_build_13 rfl rfl ?_
            refine g_ifnullN 22 dX8_build_14 rfl ?_
            refine g_iconst (v := iZ (-1)) 23 dX8_build_22 rfl rfl ?_
            refine g_iret rfl dX8_build_23 ?_
            have zz := H.scr (Scr.refl _) HS
            exact k _ tc (-1) (by decide) zz.1 zz.2
set_option maxRecDepth 100000 in
theorem a8_check {l : Launch} {h : MH} {Q : Option Value → MH → Prop} {tn : Int} {tf : Nat → Int} {xn : Nat → Int} {xf : Nat → Nat → Int} {en : Int} {tc : Nat} {t i : Int} (H : IX h tn tf xn xf en tc) (rt : rg t) (ri : rg i) (k : ∀ (h1 : MH) (tc1 : Nat) (r : Int), rg r → IX h1 tn tf xn xf en tc1 → Mo h h1 → Q (some (.int (iZ r))) h1) : Go l mX8_check 0 [some (.ref 0), some (.int (iZ t)), some (.int (iZ i)), none, none] [] h Q := by
  obtain ⟨HC, HS, HY, HE, hlen, hmz⟩ := id H
  obtain ⟨⟨tr, F0⟩, F3, F4, htc, HT, HL⟩ := id HC
  refine g_aload_n 1 dX8_check_0 rfl rfl ?_
  refine g_iload_n 2 dX8_check_1 rfl rfl ?_
  refine g_callV (z := mX8_toolAt) (As := [.int (iZ t)]) 5 dX8_check_2 mwX8_toolAt ⟨by decide, by decide⟩ rfl wlX8_90 wiX8_toolAt wsX8_toolAt F0 rfl rfl rfl (nle rfl) (nle rfl) rfl ?_
  refine Go.to [some (.ref 0), some (.int (iZ t))] [] rfl rfl ?_
  refine g_iload_n 1 dX8_toolAt_0 rfl rfl ?_
  refine g_ifZ_lt 18 4 dX8_toolAt_1 rfl rfl rt (fun c1 => ?_) (fun c1 => ?_)
  · refine g_null 19 dX8_toolAt_18 rfl ?_
    refine g_goto 28 dX8_toolAt_19 rfl ?_
    refine g_aret rfl (Or.inl rfl) dX8_toolAt_28 ?_
    refine rN ?_
    refine g_astore_nN (L1 := [some (.ref 0), some (.int (iZ t)), some (.int (iZ i)), some (.null), none]) 6 dX8_check_5 (by decide) rfl rfl rfl ?_
    refine g_aload_nN 7 dX8_check_6 rfl rfl ?_
    refine g_ifnullN 19 dX8_check_7 rfl ?_
    refine g_iconst (v := iZ (-1)) 20 dX8_check_19 rfl rfl ?_
    refine g_iret rfl dX8_check_20 ?_
    have zz := H.scr (Scr.refl _) HS
    exact k _ tc (-1) (by decide) zz.1 zz.2
  · refine g_iload_n 5 dX8_toolAt_4 rfl rfl ?_
    refine g_aload_n 6 dX8_toolAt_5 rfl rfl ?_
    refine g_get 9 dX8_toolAt_6 faX8_26_X8 F0 rfl rfl ?_
    refine g_icZ_ge 18 12 dX8_toolAt_9 rfl rfl rt (by omega) (fun c2 => ?_) (fun c2 => ?_)
    · refine g_null 19 dX8_toolAt_18 rfl ?_
      refine g_goto 28 dX8_toolAt_19 rfl ?_
      refine g_aret rfl (Or.inl rfl) dX8_toolAt_28 ?_
      refine rN ?_
      refine g_astore_nN (L1 := [some (.ref 0), some (.int (iZ t)), some (.int (iZ i)), some (.null), none]) 6 dX8_check_5 (by decide) rfl rfl rfl ?_
      refine g_aload_nN 7 dX8_check_6 rfl rfl ?_
      refine g_ifnullN 19 dX8_check_7 rfl ?_
      refine g_iconst (v := iZ (-1)) 20 dX8_check_19 rfl rfl ?_
      refine g_iret rfl dX8_check_20 ?_
      have zz := H.scr (Scr.refl _) HS
      exact k _ tc (-1) (by decide) zz.1 zz.2
    · refine g_iload_n 13 dX8_toolAt_12 rfl rfl ?_
      refine g_bipush (v := iZ (12)) 15 dX8_toolAt_13 (by decide +kernel) rfl ?_
      refine g_icZ_lt 22 18 dX8_toolAt_15 rfl rfl rt (by decide) (fun c3 => ?_) (fun c3 => ?_)
      · refine g_aload_n 23 dX8_toolAt_22 rfl rfl ?_
        refine g_get 26 dX8_toolAt_23 faX8_22_X8 F0 rfl rfl ?_
        refine g_iload_n 27 dX8_toolAt_26 rfl rfl ?_
        refine g_aaldZ 28 dX8_toolAt_27 F4 (by decide) (by omega) (by omega) (by decide) (tls_at (by omega) (by omega)) rfl ?_
        refine g_aret rfl (Or.inr ⟨_, rfl⟩) dX8_toolAt_28 ?_
        refine rR ?_
        refine g_astore_n (L1 := [some (.ref 0), some (.int (iZ t)), some (.int (iZ i)), some (.ref (71 + 4 * t.toNat)), none]) 6 dX8_check_5 (by decide) rfl rfl rfl ?_
        refine g_aload_n 7 dX8_check_6 rfl rfl ?_
        refine g_ifnull 10 dX8_check_7 rfl ?_
        refine g_iload_n 11 dX8_check_10 rfl rfl ?_
        refine g_ifZ_lt 19 14 dX8_check_11 rfl rfl ri (fun c4 => ?_) (fun c4 => ?_)
        · refine g_iconst (v := iZ (-1)) 20 dX8_check_19 rfl rfl ?_
          refine g_iret rfl dX8_check_20 ?_
          have zz := H.scr (Scr.refl _) HS
          exact k _ tc (-1) (by decide) zz.1 zz.2
        · refine g_iload_n 15 dX8_check_14 rfl rfl ?_
          refine g_iconst (v := iZ (1)) 16 dX8_check_15 rfl rfl ?_
          refine g_icZ_le 21 19 dX8_check_16 rfl rfl ri (by decide) (fun c5 => ?_) (fun c5 => ?_)
          · refine g_aload_n 22 dX8_check_21 rfl rfl ?_
            obtain ⟨M_6, n_6, hw_6, tx_6, bd_6, ck_6, f_6, g_6, hM_6, rn_6, rhw_6, rtx_6, rbd_6, rck_6, of_6, og_6, e0_6, e1_6, e2_6, e3_6⟩ := HL (t.toNat) (by omega)
            refine g_get 25 dX8_check_22 faX8_112_X7 e0_6 rfl rfl ?_
            refine g_ifZ_eq 31 28 dX8_check_25 rfl rfl rhw_6 (fun c7 => ?_) (fun c7 => ?_)
            · refine g_aload_n 32 dX8_check_31 rfl rfl ?_
              refine g_get 35 dX8_check_32 faX8_121_X7 e0_6 rfl rfl ?_
              refine g_ifZ_eq 42 38 dX8_check_35 rfl rfl (rg01 rck_6) (fun c8 => ?_) (fun c8 => ?_)
              · refine g_iconst (v := iZ (0)) 43 dX8_check_42 rfl rfl ?_
                refine g_istore (L1 := [some (.ref 0), some (.int (iZ t)), some (.int (iZ i)), some (.ref (71 + 4 * t.toNat)), some (.int (iZ 0))]) 45 dX8_check_43 (by decide) rfl rfl rfl ?_
                refine g_aload_n 46 dX8_check_45 rfl rfl ?_
                refine g_iload_n 47 dX8_check_46 rfl rfl ?_
                refine g_iconst (v := iZ (1)) 48 dX8_check_47 rfl rfl ?_
                refine g_icZ_ne 55 51 dX8_check_48 rfl rfl ri (by decide) (fun c9 => ?_) (fun c9 => ?_)
                · refine g_iconst (v := iZ (0)) 56 dX8_check_55 rfl rfl ?_
                  refine g_putC (fs1 := [.ref (71 + 4 * t.toNat + 1), .int (iZ hw_6), .int (iZ tx_6), .int (iZ bd_6), .int (iZ 0)]) 59 dX8_check_56 fpX8_121_X7 e0_6 (nle rfl) vZ0 rfl rfl (fun h10 s11 f12 => ?_)
                  refine g_iload 61 dX8_check_59 rfl rfl ?_
                  refine g_iret rfl dX8_check_61 ?_
                  have f13 := (s11.get (by simp <;> omega) e1_6)
                  have f14 := (s11.get (by simp <;> omega) e2_6)
                  have f15 := (s11.get (by simp <;> omega) e3_6)
                  have zz := H.tool (j := t.toNat) (by omega) ((Sm.refl [71 + 4 * t.toNat] _).tr s11 (fun _ q => q) (by simp)) ⟨M_6, n_6, hw_6, tx_6, bd_6, 0, f_6, g_6, by omega, rn_6, rhw_6, rtx_6, rbd_6, (Or.inl rfl), of_6, og_6, f12, f13, f14, f15⟩
                  exact k _ tc (0) (by decide) zz.1 zz.2
                · refine g_iconst (v := iZ (1)) 52 dX8_check_51 rfl rfl ?_
                  refine g_goto 56 dX8_check_52 rfl ?_
                  refine g_putC (fs1 := [.ref (71 + 4 * t.toNat + 1), .int (iZ hw_6), .int (iZ tx_6), .int (iZ bd_6), .int (iZ 1)]) 59 dX8_check_56 fpX8_121_X7 e0_6 (nle rfl) vZ1 rfl rfl (fun h16 s17 f18 => ?_)
                  refine g_iload 61 dX8_check_59 rfl rfl ?_
                  refine g_iret rfl dX8_check_61 ?_
                  have f19 := (s17.get (by simp <;> omega) e1_6)
                  have f20 := (s17.get (by simp <;> omega) e2_6)
                  have f21 := (s17.get (by simp <;> omega) e3_6)
                  have zz := H.tool (j := t.toNat) (by omega) ((Sm.refl [71 + 4 * t.toNat] _).tr s17 (fun _ q => q) (by simp)) ⟨M_6, n_6, hw_6, tx_6, bd_6, 1, f_6, g_6, by omega, rn_6, rhw_6, rtx_6, rbd_6, (Or.inr rfl), of_6, og_6, f18, f19, f20, f21⟩
                  exact k _ tc (0) (by decide) zz.1 zz.2
              · refine g_iconst (v := iZ (1)) 39 dX8_check_38 rfl rfl ?_
                refine g_goto 43 dX8_check_39 rfl ?_
                refine g_istore (L1 := [some (.ref 0), some (.int (iZ t)), some (.int (iZ i)), some (.ref (71 + 4 * t.toNat)), some (.int (iZ 1))]) 45 dX8_check_43 (by decide) rfl rfl rfl ?_
                refine g_aload_n 46 dX8_check_45 rfl rfl ?_
                refine g_iload_n 47 dX8_check_46 rfl rfl ?_
                refine g_iconst (v := iZ (1)) 48 dX8_check_47 rfl rfl ?_
                refine g_icZ_ne 55 51 dX8_check_48 rfl rfl ri (by decide) (fun c22 => ?_) (fun c22 => ?_)
                · refine g_iconst (v := iZ (0)) 56 dX8_check_55 rfl rfl ?_
                  refine g_putC (fs1 := [.ref (71 + 4 * t.toNat + 1), .int (iZ hw_6), .int (iZ tx_6), .int (iZ bd_6), .int (iZ 0)]) 59 dX8_check_56 fpX8_121_X7 e0_6 (nle rfl) vZ0 rfl rfl (fun h23 s24 f25 => ?_)
                  refine g_iload 61 dX8_check_59 rfl rfl ?_
                  refine g_iret rfl dX8_check_61 ?_
                  have f26 := (s24.get (by simp <;> omega) e1_6)
                  have f27 := (s24.get (by simp <;> omega) e2_6)
                  have f28 := (s24.get (by simp <;> omega) e3_6)
                  have zz := H.tool (j := t.toNat) (by omega) ((Sm.refl [71 + 4 * t.toNat] _).tr s24 (fun _ q => q) (by simp)) ⟨M_6, n_6, hw_6, tx_6, bd_6, 0, f_6, g_6, by omega, rn_6, rhw_6, rtx_6, rbd_6, (Or.inl rfl), of_6, og_6, f25, f26, f27, f28⟩
                  exact k _ tc (1) (by decide) zz.1 zz.2
                · refine g_iconst (v := iZ (1)) 52 dX8_check_51 rfl rfl ?_
                  refine g_goto 56 dX8_check_52 rfl ?_
                  refine g_putC (fs1 := [.ref (71 + 4 * t.toNat + 1), .int (iZ hw_6), .int (iZ tx_6), .int (iZ bd_6), .int (iZ 1)]) 59 dX8_check_56 fpX8_121_X7 e0_6 (nle rfl) vZ1 rfl rfl (fun h29 s30 f31 => ?_)
                  refine g_iload 61 dX8_check_59 rfl rfl ?_
                  refine g_iret rfl dX8_check_61 ?_
                  have f32 := (s30.get (by simp <;> omega) e1_6)
                  have f33 := (s30.get (by simp <;> omega) e2_6)
                  have f34 := (s30.get (by simp <;> omega) e3_6)
                  have zz := H.tool (j := t.toNat) (by omega) ((Sm.refl [71 + 4 * t.toNat] _).tr s30 (fun _ q => q) (by simp)) ⟨M_6, n_6, hw_6, tx_6, bd_6, 1, f_6, g_6, by omega, rn_6, rhw_6, rtx_6, rbd_6, (Or.inr rfl), of_6, og_6, f31, f32, f33, f34⟩
                  exact k _ tc (1) (by decide) zz.1 zz.2
            · refine g_bipush (v := iZ (-2)) 30 dX8_check_28 (by decide +kernel) rfl ?_
              refine g_iret rfl dX8_check_30 ?_
              have zz := H.scr (Scr.refl _) HS
              exact k _ tc (-2) (by decide) zz.1 zz.2
          · refine g_iconst (v := iZ (-1)) 20 dX8_check_19 rfl rfl ?_
            refine g_iret rfl dX8_check_20 ?_
            have zz := H.scr (Scr.refl _) HS
            exact k _ tc (-1) (by decide) zz.1 zz.2
      · refine g_null 19 dX8_toolAt_18 rfl ?_
        refine g_goto 28 dX8_toolAt_19 rfl ?_
        refine g_aret rfl (Or.inl rfl) dX8_toolAt_28 ?_
        refine rN ?_
        refine g_astore_nN (L1 := [some (.ref 0), some (.int (iZ t)), some (.int (iZ i)), some (.null), none]) 6 dX8_check_5 (by decide) rfl rfl rfl ?_
        refine g_aload_nN 7 dX8_check_6 rfl rfl ?_
        refine g_ifnullN 19 dX8_check_7 rfl ?_
        refine g_iconst (v := iZ (-1)) 20 dX8_check_19 rfl rfl ?_
        refine g_iret rfl dX8_check_20 ?_
        have zz := H.scr (Scr.refl _) HS
        exact k _ tc (-1) (by decide) zz.1 zz.2
set_option maxRecDepth 100000 in
theorem a8_ladder {l : Launch} {h : MH} {Q : Option Value → MH → Prop} {tn : Int} {tf : Nat → Int} {xn : Nat → Int} {xf : Nat → Nat → Int} {en : Int} {tc : Nat} {a b k0 : Int} (H : IX h tn tf xn xf en tc) (ra : rg a) (rb : rg b) (rk0 : rg k0) (k : ∀ (h1 : MH) (tc1 : Nat) (r : Int), rg r → IX h1 tn tf xn xf en tc1 → Mo h h1 → Q (some (.int (iZ r))) h1) : Go l mX8_ladder 0 [some (.ref 0), some (.int (iZ a)), some (.int (iZ b)), some (.int (iZ k0)), none] [] h Q := by
  obtain ⟨HC, HS, HY, HE, hlen, hmz⟩ := id H
  obtain ⟨⟨tr, F0⟩, F3, F4, htc, HT, HL⟩ := id HC
  refine g_aload_n 1 dX8_ladder_0 rfl rfl ?_
  refine g_get 4 dX8_ladder_1 faX8_59_X8 F0 rfl rfl ?_
  refine g_iload_n 5 dX8_ladder_4 rfl rfl ?_
  obtain ⟨eu, ek, el, oeu, oek, oel, e1, e2, E0, E1, E2, E3⟩ := id HE
  refine g_callV (z := mX1_has) (As := [.int (iZ a)]) 8 dX8_ladder_5 mwX1_has ⟨by decide, by decide⟩ rfl wlX8_189 wiX1_has wsX1_has E0 rfl rfl rfl (nle rfl) (nle rfl) rfl ?_
  refine Go.to [some (.ref 30), some (.int (iZ a))] [] rfl rfl ?_
  refine g_iload_n 1 dX1_has_0 rfl rfl ?_
  refine g_ifZ_lt 22 4 dX1_has_1 rfl rfl ra (fun c1 => ?_) (fun c1 => ?_)
  · refine g_iconst (v := iZ (0)) 23 dX1_has_22 rfl rfl ?_
    refine g_zret rfl z01_0 dX1_has_23 ?_
    refine rI ?_
    refine g_ifZ_eq 27 11 dX8_ladder_8 rfl rfl (by decide) (fun _ => ?_) (fun q => absurd q (by decide))
    refine g_iconst (v := iZ (-1)) 28 dX8_ladder_27 rfl rfl ?_
    refine g_iret rfl dX8_ladder_28 ?_
    have zz := H.scr (Scr.refl _) HS
    exact k _ tc (-1) (by decide) zz.1 zz.2
  · refine g_iload_n 5 dX1_has_4 rfl rfl ?_
    refine g_aload_n 6 dX1_has_5 rfl rfl ?_
    refine g_get 9 dX1_has_6 faX1_21_X1 E0 rfl rfl ?_
    refine g_icZ_ge 22 12 dX1_has_9 rfl rfl ra (by omega) (fun c2 => ?_) (fun c2 => ?_)
    · refine g_iconst (v := iZ (0)) 23 dX1_has_22 rfl rfl ?_
      refine g_zret rfl z01_0 dX1_has_23 ?_
      refine rI ?_
      refine g_ifZ_eq 27 11 dX8_ladder_8 rfl rfl (by decide) (fun _ => ?_) (fun q => absurd q (by decide))
      refine g_iconst (v := iZ (-1)) 28 dX8_ladder_27 rfl rfl ?_
      refine g_iret rfl dX8_ladder_28 ?_
      have zz := H.scr (Scr.refl _) HS
      exact k _ tc (-1) (by decide) zz.1 zz.2
    · refine g_iload_n 13 dX1_has_12 rfl rfl ?_
      refine g_bipush (v := iZ (12)) 15 dX1_has_13 (by decide +kernel) rfl ?_
      refine g_icZ_ge 22 18 dX1_has_15 rfl rfl ra (by decide) (fun c3 => ?_) (fun c3 => ?_)
      · refine g_iconst (v := iZ (0)) 23 dX1_has_22 rfl rfl ?_
        refine g_zret rfl z01_0 dX1_has_23 ?_
        refine rI ?_
        refine g_ifZ_eq 27 11 dX8_ladder_8 rfl rfl (by decide) (fun _ => ?_) (fun q => absurd q (by decide))
        refine g_iconst (v := iZ (-1)) 28 dX8_ladder_27 rfl rfl ?_
        refine g_iret rfl dX8_ladder_28 ?_
        have zz := H.scr (Scr.refl _) HS
        exact k _ tc (-1) (by decide) zz.1 zz.2
      · refine g_iconst (v := iZ (1)) 19 dX1_has_18 rfl rfl ?_
        refine g_goto 23 dX1_has_19 rfl ?_
        refine g_zret rfl z01_1 dX1_has_23 ?_
        refine rI ?_
        refine g_ifZ_eq 27 11 dX8_ladder_8 rfl rfl (by decide) (fun q => absurd q (by decide)) (fun _ => ?_)
        refine g_aload_n 12 dX8_ladder_11 rfl rfl ?_
        refine g_get 15 dX8_ladder_12 faX8_59_X8 F0 rfl rfl ?_
        refine g_iload_n 16 dX8_ladder_15 rfl rfl ?_
        refine g_callV (z := mX1_has) (As := [.int (iZ b)]) 19 dX8_ladder_16 mwX1_has ⟨by decide, by decide⟩ rfl wlX8_189 wiX1_has wsX1_has E0 rfl rfl rfl (nle rfl) (nle rfl) rfl ?_
        refine Go.to [some (.ref 30), some (.int (iZ b))] [] rfl rfl ?_
        refine g_iload_n 1 dX1_has_0 rfl rfl ?_
        refine g_ifZ_lt 22 4 dX1_has_1 rfl rfl rb (fun c4 => ?_) (fun c4 => ?_)
        · refine g_iconst (v := iZ (0)) 23 dX1_has_22 rfl rfl ?_
          refine g_zret rfl z01_0 dX1_has_23 ?_
          refine rI ?_
          refine g_ifZ_eq 27 22 dX8_ladder_19 rfl rfl (by decide) (fun _ => ?_) (fun q => absurd q (by decide))
          refine g_iconst (v := iZ (-1)) 28 dX8_ladder_27 rfl rfl ?_
          refine g_iret rfl dX8_ladder_28 ?_
          have zz := H.scr (Scr.refl _) HS
          exact k _ tc (-1) (by decide) zz.1 zz.2
        · refine g_iload_n 5 dX1_has_4 rfl rfl ?_
          refine g_aload_n 6 dX1_has_5 rfl rfl ?_
          refine g_get 9 dX1_has_6 faX1_21_X1 E0 rfl rfl ?_
          refine g_icZ_ge 22 12 dX1_has_9 rfl rfl rb (by omega) (fun c5 => ?_) (fun c5 => ?_)
          · refine g_iconst (v := iZ (0)) 23 dX1_has_22 rfl rfl ?_
            refine g_zret rfl z01_0 dX1_has_23 ?_
            refine rI ?_
            refine g_ifZ_eq 27 22 dX8_ladder_19 rfl rfl (by decide) (fun _ => ?_) (fun q => absurd q (by decide))
            refine g_iconst (v := iZ (-1)) 28 dX8_ladder_27 rfl rfl ?_
            refine g_iret rfl dX8_ladder_28 ?_
            have zz := H.scr (Scr.refl _) HS
            exact k _ tc (-1) (by decide) zz.1 zz.2
          · refine g_iload_n 13 dX1_has_12 rfl rfl ?_
            refine g_bipush (v := iZ (12)) 15 dX1_has_13 (by decide +kernel) rfl ?_
            refine g_icZ_ge 22 18 dX1_has_15 rfl rfl rb (by decide) (fun c6 => ?_) (fun c6 => ?_)
            · refine g_iconst (v := iZ (0)) 23 dX1_has_22 rfl rfl ?_
              refine g_zret rfl z01_0 dX1_has_23 ?_
              refine rI ?_
              refine g_ifZ_eq 27 22 dX8_ladder_19 rfl rfl (by decide) (fun _ => ?_) (fun q => absurd q (by decide))
              refine g_iconst (v := iZ (-1)) 28 dX8_ladder_27 rfl rfl ?_
              refine g_iret rfl dX8_ladder_28 ?_
              have zz := H.scr (Scr.refl _) HS
              exact k _ tc (-1) (by decide) zz.1 zz.2
            · refine g_iconst (v := iZ (1)) 19 dX1_has_18 rfl rfl ?_
              refine g_goto 23 dX1_has_19 rfl ?_
              refine g_zret rfl z01_1 dX1_has_23 ?_
              refine rI ?_
              refine g_ifZ_eq 27 22 dX8_ladder_19 rfl rfl (by decide) (fun q => absurd q (by decide)) (fun _ => ?_)
              refine g_iload_n 23 dX8_ladder_22 rfl rfl ?_
              refine g_iconst (v := iZ (-1)) 24 dX8_ladder_23 rfl rfl ?_
              refine g_icZ_ge 29 27 dX8_ladder_24 rfl rfl rk0 (by decide) (fun c7 => ?_) (fun c7 => ?_)
              · refine g_aload_n 30 dX8_ladder_29 rfl rfl ?_
                refine g_get 33 dX8_ladder_30 faX8_59_X8 F0 rfl rfl ?_
                refine g_iload_n 34 dX8_ladder_33 rfl rfl ?_
                refine g_iload_n 35 dX8_ladder_34 rfl rfl ?_
                refine g_iconst (v := iZ (0)) 36 dX8_ladder_35 rfl rfl ?_
                refine g_callV (z := mX1_fewest) (As := [.int (iZ a), .int (iZ b), .int (iZ 0)]) 39 dX8_ladder_36 mwX1_fewest ⟨by decide, by decide⟩ rfl wlX8_193 wiX1_fewest wsX1_fewest E0 rfl rfl rfl (nle rfl) (nle rfl) rfl ?_
                refine w_few  E0 E1 E2 E3 oeu oek oel (by omega) ra rb (by decide) (fun h8 g10 g11 z12 og10 og11 rz12 s9 f13 f14 => ?_)
                refine rI ?_
                refine g_istore (L1 := [some (.ref 0), some (.int (iZ a)), some (.int (iZ b)), some (.int (iZ k0)), some (.int (iZ z12))]) 41 dX8_ladder_39 (by decide) rfl rfl rfl ?_
                refine g_iload 43 dX8_ladder_41 rfl rfl ?_
                refine g_bipush (v := iZ (-9)) 45 dX8_ladder_43 (by decide +kernel) rfl ?_
                refine g_icZ_eq 54 48 dX8_ladder_45 rfl rfl rz12 (by decide) (fun c15 => ?_) (fun c15 => ?_)
                · refine g_bipush (v := iZ (-9)) 56 dX8_ladder_54 (by decide +kernel) rfl ?_
                  refine g_iret rfl dX8_ladder_56 ?_
                  have f16 := (s9.get (by decide) E0)
                  have f17 := (s9.get (by decide) E1)
                  have zz := H.ed (en1 := en) ((Sm.refl [30, 31, 32, 33] _).tr s9 (fun _ q => q) (by simp)) (by decide) ⟨eu, g10, g11, oeu, og10, og11, e1, e2, f16, f17, f13, f14⟩
                  exact k _ tc (-9) (by decide) zz.1 zz.2
                · refine g_iload_n 49 dX8_ladder_48 rfl rfl ?_
                  refine g_iload 51 dX8_ladder_49 rfl rfl ?_
                  refine g_icZ_le 57 54 dX8_ladder_51 rfl rfl rk0 rz12 (fun c18 => ?_) (fun c18 => ?_)
                  · refine g_iload_n 58 dX8_ladder_57 rfl rfl ?_
                    refine g_iconst (v := iZ (-1)) 59 dX8_ladder_58 rfl rfl ?_
                    refine g_icZ_ne 67 62 dX8_ladder_59 rfl rfl rk0 (by decide) (fun c19 => ?_) (fun c19 => ?_)
                    · refine g_aload_n 68 dX8_ladder_67 rfl rfl ?_
                      have f20 := (s9.get (by decide) F0)
                      refine g_get 71 dX8_ladder_68 faX8_59_X8 f20 rfl rfl ?_
                      refine g_iload_n 72 dX8_ladder_71 rfl rfl ?_
                      refine g_iload_n 73 dX8_ladder_72 rfl rfl ?_
                      have f21 := (s9.get (by decide) E0)
                      refine g_callV (z := mX1_step) (As := [.int (iZ a), .int (iZ k0)]) 76 dX8_ladder_73 mwX1_step ⟨by decide, by decide⟩ rfl wlX8_197 wiX1_step wsX1_step f21 rfl rfl rfl (nle rfl) (nle rfl) rfl ?_
                      have f22 := (s9.get (by decide) E1)
                      refine w_step  f21 f22 f13 f14 oeu og10 og11 (by omega) ra rk0 (fun z23 rz23 => ?_)
                      refine rI ?_
                      refine g_iret rfl dX8_ladder_76 ?_
                      have zz := H.ed (en1 := en) ((Sm.refl [30, 31, 32, 33] _).tr s9 (fun _ q => q) (by simp)) (by decide) ⟨eu, g10, g11, oeu, og10, og11, e1, e2, f21, f22, f13, f14⟩
                      exact k _ tc (z23) rz23 zz.1 zz.2
                    · refine g_iload 64 dX8_ladder_62 rfl rfl ?_
                      refine g_goto 76 dX8_ladder_64 rfl ?_
                      refine g_iret rfl dX8_ladder_76 ?_
                      have f24 := (s9.get (by decide) E0)
                      have f25 := (s9.get (by decide) E1)
                      have zz := H.ed (en1 := en) ((Sm.refl [30, 31, 32, 33] _).tr s9 (fun _ q => q) (by simp)) (by decide) ⟨eu, g10, g11, oeu, og10, og11, e1, e2, f24, f25, f13, f14⟩
                      exact k _ tc (z12) rz12 zz.1 zz.2
                  · refine g_bipush (v := iZ (-9)) 56 dX8_ladder_54 (by decide +kernel) rfl ?_
                    refine g_iret rfl dX8_ladder_56 ?_
                    have f26 := (s9.get (by decide) E0)
                    have f27 := (s9.get (by decide) E1)
                    have zz := H.ed (en1 := en) ((Sm.refl [30, 31, 32, 33] _).tr s9 (fun _ q => q) (by simp)) (by decide) ⟨eu, g10, g11, oeu, og10, og11, e1, e2, f26, f27, f13, f14⟩
                    exact k _ tc (-9) (by decide) zz.1 zz.2
              · refine g_iconst (v := iZ (-1)) 28 dX8_ladder_27 rfl rfl ?_
                refine g_iret rfl dX8_ladder_28 ?_
                have zz := H.scr (Scr.refl _) HS
                exact k _ tc (-1) (by decide) zz.1 zz.2
set_option maxRecDepth 100000 in
theorem a8_weight {l : Launch} {h : MH} {Q : Option Value → MH → Prop} {tn : Int} {tf : Nat → Int} {xn : Nat → Int} {xf : Nat → Nat → Int} {en : Int} {tc : Nat} {w t : Int} (H : IX h tn tf xn xf en tc) (rw : rg w) (rt : rg t) (k : ∀ (h1 : MH) (tc1 : Nat) (r : Int), rg r → IX h1 tn tf xn xf en tc1 → Mo h h1 → Q (some (.int (iZ r))) h1) : Go l mX8_weight 0 [some (.ref 0), some (.int (iZ w)), some (.int (iZ t)), none] [] h Q := by
  obtain ⟨HC, HS, HY, HE, hlen, hmz⟩ := id H
  obtain ⟨⟨tr, F0⟩, F3, F4, htc, HT, HL⟩ := id HC
  refine g_aload_n 1 dX8_weight_0 rfl rfl ?_
  refine g_iload_n 2 dX8_weight_1 rfl rfl ?_
  refine g_callV (z := mX8_toolAt) (As := [.int (iZ t)]) 5 dX8_weight_2 mwX8_toolAt ⟨by decide, by decide⟩ rfl wlX8_90 wiX8_toolAt wsX8_toolAt F0 rfl rfl rfl (nle rfl) (nle rfl) rfl ?_
  refine Go.to [some (.ref 0), some (.int (iZ t))] [] rfl rfl ?_
  refine g_iload_n 1 dX8_toolAt_0 rfl rfl ?_
  refine g_ifZ_lt 18 4 dX8_toolAt_1 rfl rfl rt (fun c1 => ?_) (fun c1 => ?_)
  · refine g_null 19 dX8_toolAt_18 rfl ?_
    refine g_goto 28 dX8_toolAt_19 rfl ?_
    refine g_aret rfl (Or.inl rfl) dX8_toolAt_28 ?_
    refine rN ?_
    refine g_astore_nN (L1 := [some (.ref 0), some (.int (iZ w)), some (.int (iZ t)), some (.null)]) 6 dX8_weight_5 (by decide) rfl rfl rfl ?_
    refine g_aload_nN 7 dX8_weight_6 rfl rfl ?_
    refine g_ifnonnullN 10 dX8_weight_7 rfl ?_
    refine g_iconst (v := iZ (-1)) 11 dX8_weight_10 rfl rfl ?_
    refine g_iret rfl dX8_weight_11 ?_
    have zz := H.scr (Scr.refl _) HS
    exact k _ tc (-1) (by decide) zz.1 zz.2
  · refine g_iload_n 5 dX8_toolAt_4 rfl rfl ?_
    refine g_aload_n 6 dX8_toolAt_5 rfl rfl ?_
    refine g_get 9 dX8_toolAt_6 faX8_26_X8 F0 rfl rfl ?_
    refine g_icZ_ge 18 12 dX8_toolAt_9 rfl rfl rt (by omega) (fun c2 => ?_) (fun c2 => ?_)
    · refine g_null 19 dX8_toolAt_18 rfl ?_
      refine g_goto 28 dX8_toolAt_19 rfl ?_
      refine g_aret rfl (Or.inl rfl) dX8_toolAt_28 ?_
      refine rN ?_
      refine g_astore_nN (L1 := [some (.ref 0), some (.int (iZ w)), some (.int (iZ t)), some (.null)]) 6 dX8_weight_5 (by decide) rfl rfl rfl ?_
      refine g_aload_nN 7 dX8_weight_6 rfl rfl ?_
      refine g_ifnonnullN 10 dX8_weight_7 rfl ?_
      refine g_iconst (v := iZ (-1)) 11 dX8_weight_10 rfl rfl ?_
      refine g_iret rfl dX8_weight_11 ?_
      have zz := H.scr (Scr.refl _) HS
      exact k _ tc (-1) (by decide) zz.1 zz.2
    · refine g_iload_n 13 dX8_toolAt_12 rfl rfl ?_
      refine g_bipush (v := iZ (12)) 15 dX8_toolAt_13 (by decide +kernel) rfl ?_
      refine g_icZ_lt 22 18 dX8_toolAt_15 rfl rfl rt (by decide) (fun c3 => ?_) (fun c3 => ?_)
      · refine g_aload_n 23 dX8_toolAt_22 rfl rfl ?_
        refine g_get 26 dX8_toolAt_23 faX8_22_X8 F0 rfl rfl ?_
        refine g_iload_n 27 dX8_toolAt_26 rfl rfl ?_
        refine g_aaldZ 28 dX8_toolAt_27 F4 (by decide) (by omega) (by omega) (by decide) (tls_at (by omega) (by omega)) rfl ?_
        refine g_aret rfl (Or.inr ⟨_, rfl⟩) dX8_toolAt_28 ?_
        refine rR ?_
        refine g_astore_n (L1 := [some (.ref 0), some (.int (iZ w)), some (.int (iZ t)), some (.ref (71 + 4 * t.toNat))]) 6 dX8_weight_5 (by decide) rfl rfl rfl ?_
        refine g_aload_n 7 dX8_weight_6 rfl rfl ?_
        refine g_ifnonnull 12 dX8_weight_7 rfl ?_
        refine g_iload_n 13 dX8_weight_12 rfl rfl ?_
        by_cases c4 : w < 0 ∨ 5 < w
        · refine g_tabZO 90 dX8_weight_13 rw c4 rfl ?_
          refine g_iconst (v := iZ (-1)) 91 dX8_weight_90 rfl rfl ?_
          refine g_iret rfl dX8_weight_91 ?_
          have zz := H.scr (Scr.refl _) HS
          exact k _ tc (-1) (by decide) zz.1 zz.2
        · have c5 : w = 0 ∨ w = 1 ∨ w = 2 ∨ w = 3 ∨ w = 4 ∨ w = 5 := by omega
          rcases c5 with c5 | c5 | c5 | c5 | c5 | c5
          · refine g_tabZI (0) 52 dX8_weight_13 rw c5 (by decide) (by decide) rfl rfl ?_
            refine g_aload_n 53 dX8_weight_52 rfl rfl ?_
            refine g_aload_n 54 dX8_weight_53 rfl rfl ?_
            refine g_callV (z := mX8_asTool) (As := [.ref (71 + 4 * t.toNat)]) 57 dX8_weight_54 mwX8_asTool ⟨by decide, by decide⟩ rfl wlX8_200 wiX8_asTool wsX8_asTool F0 rfl rfl rfl (nle rfl) (nle rfl) rfl ?_
            refine Go.to [some (.ref 0), some (.ref (71 + 4 * t.toNat))] [] rfl rfl ?_
            refine g_aload_n 1 dX8_asTool_0 rfl rfl ?_
            refine g_dup 2 dX8_asTool_1 rfl rfl ?_
            refine g_get 5 dX8_asTool_2 faX8_63_X8 F0 rfl rfl ?_
            refine g_lconst (v := 1) 6 dX8_asTool_5 rfl rfl ?_
            refine g_ladd 7 dX8_asTool_6 rfl ?_
            refine g_putC (fs1 := [.ref 1, .ref 3, .ref 4, .int (iZ ((tc : Int))), .ref 5, .ref 9, .ref 15, .ref 20, .ref 25, .ref 30, .long ((tr) + (1))]) 10 dX8_asTool_7 fpX8_63_X8 F0 (nle rfl) (vL _) rfl rfl (fun h6 s7 f8 => ?_)
            refine g_aload_n 11 dX8_asTool_10 rfl rfl ?_
            obtain ⟨M_9, n_9, hw_9, tx_9, bd_9, ck_9, f_9, g_9, hM_9, rn_9, rhw_9, rtx_9, rbd_9, rck_9, of_9, og_9, e0_9, e1_9, e2_9, e3_9⟩ := HL (t.toNat) (by omega)
            have f10 := (s7.get (by simp <;> omega) e0_9)
            refine g_get 14 dX8_asTool_11 faX8_94_X7 f10 rfl rfl ?_
            have f11 := (s7.get (by simp <;> omega) e1_9)
            refine g_get 17 dX8_asTool_14 faX8_109_X0 f11 rfl rfl ?_
            refine g_iret rfl dX8_asTool_17 ?_
            refine rI ?_
            refine g_iret rfl dX8_weight_57 ?_
            have zz := H.c0 ((Sm.refl [0] _).tr s7 (fun _ q => q) (by simp)) f8
            exact k _ tc (n_9) rn_9 zz.1 zz.2
          · refine g_tabZI (1) 58 dX8_weight_13 rw c5 (by decide) (by decide) rfl rfl ?_
            refine g_aload_n 59 dX8_weight_58 rfl rfl ?_
            refine g_aload_n 60 dX8_weight_59 rfl rfl ?_
            refine g_callV (z := mX8_asPaired) (As := [.ref (71 + 4 * t.toNat)]) 63 dX8_weight_60 mwX8_asPaired ⟨by decide, by decide⟩ rfl wlX8_203 wiX8_asPaired wsX8_asPaired F0 rfl rfl rfl (nle rfl) (nle rfl) rfl ?_
            refine Go.to [some (.ref 0), some (.ref (71 + 4 * t.toNat))] [] rfl rfl ?_
            refine g_aload_n 1 dX8_asPaired_0 rfl rfl ?_
            refine g_dup 2 dX8_asPaired_1 rfl rfl ?_
            refine g_get 5 dX8_asPaired_2 faX8_63_X8 F0 rfl rfl ?_
            refine g_ldc2 8 dX8_asPaired_5 wnX8_256 rfl ?_
            refine g_ladd 9 dX8_asPaired_8 rfl ?_
            refine g_putC (fs1 := [.ref 1, .ref 3, .ref 4, .int (iZ ((tc : Int))), .ref 5, .ref 9, .ref 15, .ref 20, .ref 25, .ref 30, .long ((tr) + (10))]) 12 dX8_asPaired_9 fpX8_63_X8 F0 (nle rfl) (vL _) rfl rfl (fun h12 s13 f14 => ?_)
            refine g_aload_n 13 dX8_asPaired_12 rfl rfl ?_
            refine g_aload_n 14 dX8_asPaired_13 rfl rfl ?_
            refine g_callV (z := mX8_asTool) (As := [.ref (71 + 4 * t.toNat)]) 17 dX8_asPaired_14 mwX8_asTool ⟨by decide, by decide⟩ rfl wlX8_200 wiX8_asTool wsX8_asTool f14 rfl rfl rfl (nle rfl) (nle rfl) rfl ?_
            refine Go.to [some (.ref 0), some (.ref (71 + 4 * t.toNat))] [] rfl rfl ?_
            refine g_aload_n 1 dX8_asTool_0 rfl rfl ?_
            refine g_dup 2 dX8_asTool_1 rfl rfl ?_
            refine g_get 5 dX8_asTool_2 faX8_63_X8 f14 rfl rfl ?_
            refine g_lconst (v := 1) 6 dX8_asTool_5 rfl rfl ?_
            refine g_ladd 7 dX8_asTool_6 rfl ?_
            refine g_putC (fs1 := [.ref 1, .ref 3, .ref 4, .int (iZ ((tc : Int))), .ref 5, .ref 9, .ref 15, .ref 20, .ref 25, .ref 30, .long (((tr) + (10)) + (1))]) 10 dX8_asTool_7 fpX8_63_X8 f14 (nle rfl) (vL _) rfl rfl (fun h15 s16 f17 => ?_)
            refine g_aload_n 11 dX8_asTool_10 rfl rfl ?_
            obtain ⟨M_18, n_18, hw_18, tx_18, bd_18, ck_18, f_18, g_18, hM_18, rn_18, rhw_18, rtx_18, rbd_18, rck_18, of_18, og_18, e0_18, e1_18, e2_18, e3_18⟩ := HL (t.toNat) (by omega)
            have f19 := (s16.get (by simp <;> omega) (s13.get (by simp <;> omega) e0_18))
            refine g_get 14 dX8_asTool_11 faX8_94_X7 f19 rfl rfl ?_
            have f20 := (s16.get (by simp <;> omega) (s13.get (by simp <;> omega) e1_18))
            refine g_get 17 dX8_asTool_14 faX8_109_X0 f20 rfl rfl ?_
            refine g_iret rfl dX8_asTool_17 ?_
            refine rI ?_
            refine g_aload_n 18 dX8_asPaired_17 rfl rfl ?_
            refine g_get 21 dX8_asPaired_18 faX8_121_X7 f19 rfl rfl ?_
            refine g_ifZ_eq 29 24 dX8_asPaired_21 rfl rfl (rg01 rck_18) (fun c21 => ?_) (fun c21 => ?_)
            · refine g_iconst (v := iZ (0)) 30 dX8_asPaired_29 rfl rfl ?_
              refine g_iadd 31 dX8_asPaired_30 rfl ?_
              refine Go.genZ (fun z22 rz22 => ?_)
              refine g_iret rfl dX8_asPaired_31 ?_
              refine rI ?_
              refine g_iret rfl dX8_weight_63 ?_
              have zz := H.c0 (((Sm.refl [0] _).tr s13 (fun _ q => q) (by simp)).tr s16 (fun _ q => q) (by simp)) f17
              exact k _ tc (z22) rz22 zz.1 zz.2
            · refine g_bipush (v := iZ (9)) 26 dX8_asPaired_24 (by decide +kernel) rfl ?_
              refine g_goto 30 dX8_asPaired_26 rfl ?_
              refine g_iadd 31 dX8_asPaired_30 rfl ?_
              refine Go.genZ (fun z23 rz23 => ?_)
              refine g_iret rfl dX8_asPaired_31 ?_
              refine rI ?_
              refine g_iret rfl dX8_weight_63 ?_
              have zz := H.c0 (((Sm.refl [0] _).tr s13 (fun _ q => q) (by simp)).tr s16 (fun _ q => q) (by simp)) f17
              exact k _ tc (z23) rz23 zz.1 zz.2
          · refine g_tabZI (2) 64 dX8_weight_13 rw c5 (by decide) (by decide) rfl rfl ?_
            refine g_aload_n 65 dX8_weight_64 rfl rfl ?_
            refine g_aload_n 66 dX8_weight_65 rfl rfl ?_
            refine g_callV (z := mX8_asNamed) (As := [.ref (71 + 4 * t.toNat)]) 69 dX8_weight_66 mwX8_asNamed ⟨by decide, by decide⟩ rfl wlX8_206 wiX8_asNamed wsX8_asNamed F0 rfl rfl rfl (nle rfl) (nle rfl) rfl ?_
            refine Go.to [some (.ref 0), some (.ref (71 + 4 * t.toNat))] [] rfl rfl ?_
            refine g_aload_n 1 dX8_asNamed_0 rfl rfl ?_
            refine g_dup 2 dX8_asNamed_1 rfl rfl ?_
            refine g_get 5 dX8_asNamed_2 faX8_63_X8 F0 rfl rfl ?_
            refine g_ldc2 8 dX8_asNamed_5 wnX8_258 rfl ?_
            refine g_ladd 9 dX8_asNamed_8 rfl ?_
            refine g_putC (fs1 := [.ref 1, .ref 3, .ref 4, .int (iZ ((tc : Int))), .ref 5, .ref 9, .ref 15, .ref 20, .ref 25, .ref 30, .long ((tr) + (100))]) 12 dX8_asNamed_9 fpX8_63_X8 F0 (nle rfl) (vL _) rfl rfl (fun h24 s25 f26 => ?_)
            refine g_aload_n 13 dX8_asNamed_12 rfl rfl ?_
            refine g_aload_n 14 dX8_asNamed_13 rfl rfl ?_
            refine g_callV (z := mX8_asTool) (As := [.ref (71 + 4 * t.toNat)]) 17 dX8_asNamed_14 mwX8_asTool ⟨by decide, by decide⟩ rfl wlX8_200 wiX8_asTool wsX8_asTool f26 rfl rfl rfl (nle rfl) (nle rfl) rfl ?_
            refine Go.to [some (.ref 0), some (.ref (71 + 4 * t.toNat))] [] rfl rfl ?_
            refine g_aload_n 1 dX8_asTool_0 rfl rfl ?_
            refine g_dup 2 dX8_asTool_1 rfl rfl ?_
            refine g_get 5 dX8_asTool_2 faX8_63_X8 f26 rfl rfl ?_
            refine g_lconst (v := 1) 6 dX8_asTool_5 rfl rfl ?_
            refine g_ladd 7 dX8_asTool_6 rfl ?_
            refine g_putC (fs1 := [.ref 1, .ref 3, .ref 4, .int (iZ ((tc : Int))), .ref 5, .ref 9, .ref 15, .ref 20, .ref 25, .ref 30, .long (((tr) + (100)) + (1))]) 10 dX8_asTool_7 fpX8_63_X8 f26 (nle rfl) (vL _) rfl rfl (fun h27 s28 f29 => ?_)
            refine g_aload_n 11 dX8_asTool_10 rfl rfl ?_
            obtain ⟨M_30, n_30, hw_30, tx_30, bd_30, ck_30, f_30, g_30, hM_30, rn_30, rhw_30, rtx_30, rbd_30, rck_30, of_30, og_30, e0_30, e1_30, e2_30, e3_30⟩ := HL (t.toNat) (by omega)
            have f31 := (s28.get (by simp <;> omega) (s25.get (by simp <;> omega) e0_30))
            refine g_get 14 dX8_asTool_11 faX8_94_X7 f31 rfl rfl ?_
            have f32 := (s28.get (by simp <;> omega) (s25.get (by simp <;> omega) e1_30))
            refine g_get 17 dX8_asTool_14 faX8_109_X0 f32 rfl rfl ?_
            refine g_iret rfl dX8_asTool_17 ?_
            refine rI ?_
            refine g_iconst (v := iZ (2)) 18 dX8_asNamed_17 rfl rfl ?_
            refine g_aload_n 19 dX8_asNamed_18 rfl rfl ?_
            refine g_get 22 dX8_asNamed_19 faX8_94_X7 f31 rfl rfl ?_
            refine g_callV (z := mX0_beyondOrders) (As := []) 25 dX8_asNamed_22 mwX0_beyondOrders ⟨by decide, by decide⟩ rfl wlX8_260 wiX0_beyondOrders wsX0_beyondOrders f32 rfl rfl rfl (nle rfl) (nle rfl) rfl ?_
            have f33 := (s28.get (by simp <;> omega) (s25.get (by simp <;> omega) e2_30))
            have f34 := (s28.get (by simp <;> omega) (s25.get (by simp <;> omega) e3_30))
            refine w_bey (M := M_30) f32 f33 f34 of_30 og_30 rn_30 (by omega) (fun z35 rz35 => ?_)
            refine rI ?_
            refine g_imul 26 dX8_asNamed_25 rfl ?_
            refine Go.genZ (fun z36 rz36 => ?_)
            refine g_iadd 27 dX8_asNamed_26 rfl ?_
            refine Go.genZ (fun z37 rz37 => ?_)
            refine g_iret rfl dX8_asNamed_27 ?_
            refine rI ?_
            refine g_iret rfl dX8_weight_69 ?_
            have zz := H.c0 (((Sm.refl [0] _).tr s25 (fun _ q => q) (by simp)).tr s28 (fun _ q => q) (by simp)) f29
            exact k _ tc (z37) rz37 zz.1 zz.2
          · refine g_tabZI (3) 70 dX8_weight_13 rw c5 (by decide) (by decide) rfl rfl ?_
            refine g_aload_n 71 dX8_weight_70 rfl rfl ?_
            refine g_aload_n 72 dX8_weight_71 rfl rfl ?_
            refine g_iload_n 73 dX8_weight_72 rfl rfl ?_
            refine g_callV (z := mX8_asBuilt) (As := [.ref (71 + 4 * t.toNat), .int (iZ t)]) 76 dX8_weight_73 mwX8_asBuilt ⟨by decide, by decide⟩ rfl wlX8_209 wiX8_asBuilt wsX8_asBuilt F0 rfl rfl rfl (nle rfl) (nle rfl) rfl ?_
            refine Go.to [some (.ref 0), some (.ref (71 + 4 * t.toNat)), some (.int (iZ t))] [] rfl rfl ?_
            refine g_aload_n 1 dX8_asBuilt_0 rfl rfl ?_
            refine g_dup 2 dX8_asBuilt_1 rfl rfl ?_
            refine g_get 5 dX8_asBuilt_2 faX8_63_X8 F0 rfl rfl ?_
            refine g_ldc2 8 dX8_asBuilt_5 wnX8_263 rfl ?_
            refine g_ladd 9 dX8_asBuilt_8 rfl ?_
            refine g_putC (fs1 := [.ref 1, .ref 3, .ref 4, .int (iZ ((tc : Int))), .ref 5, .ref 9, .ref 15, .ref 20, .ref 25, .ref 30, .long ((tr) + (1000))]) 12 dX8_asBuilt_9 fpX8_63_X8 F0 (nle rfl) (vL _) rfl rfl (fun h38 s39 f40 => ?_)
            refine g_aload_n 13 dX8_asBuilt_12 rfl rfl ?_
            refine g_aload_n 14 dX8_asBuilt_13 rfl rfl ?_
            refine g_callV (z := mX8_asNamed) (As := [.ref (71 + 4 * t.toNat)]) 17 dX8_asBuilt_14 mwX8_asNamed ⟨by decide, by decide⟩ rfl wlX8_206 wiX8_asNamed wsX8_asNamed f40 rfl rfl rfl (nle rfl) (nle rfl) rfl ?_
            refine Go.to [some (.ref 0), some (.ref (71 + 4 * t.toNat))] [] rfl rfl ?_
            refine g_aload_n 1 dX8_asNamed_0 rfl rfl ?_
            refine g_dup 2 dX8_asNamed_1 rfl rfl ?_
            refine g_get 5 dX8_asNamed_2 faX8_63_X8 f40 rfl rfl ?_
            refine g_ldc2 8 dX8_asNamed_5 wnX8_258 rfl ?_
            refine g_ladd 9 dX8_asNamed_8 rfl ?_
            refine g_putC (fs1 := [.ref 1, .ref 3, .ref 4, .int (iZ ((tc : Int))), .ref 5, .ref 9, .ref 15, .ref 20, .ref 25, .ref 30, .long (((tr) + (1000)) + (100))]) 12 dX8_asNamed_9 fpX8_63_X8 f40 (nle rfl) (vL _) rfl rfl (fun h41 s42 f43 => ?_)
            refine g_aload_n 13 dX8_asNamed_12 rfl rfl ?_
            refine g_aload_n 14 dX8_asNamed_13 rfl rfl ?_
            refine g_callV (z := mX8_asTool) (As := [.ref (71 + 4 * t.toNat)]) 17 dX8_asNamed_14 mwX8_asTool ⟨by decide, by decide⟩ rfl wlX8_200 wiX8_asTool wsX8_asTool f43 rfl rfl rfl (nle rfl) (nle rfl) rfl ?_
            refine Go.to [some (.ref 0), some (.ref (71 + 4 * t.toNat))] [] rfl rfl ?_
            refine g_aload_n 1 dX8_asTool_0 rfl rfl ?_
            refine g_dup 2 dX8_asTool_1 rfl rfl ?_
            refine g_get 5 dX8_asTool_2 faX8_63_X8 f43 rfl rfl ?_
            refine g_lconst (v := 1) 6 dX8_asTool_5 rfl rfl ?_
            refine g_ladd 7 dX8_asTool_6 rfl ?_
            refine g_putC (fs1 := [.ref 1, .ref 3, .ref 4, .int (iZ ((tc : Int))), .ref 5, .ref 9, .ref 15, .ref 20, .ref 25, .ref 30, .long ((((tr) + (1000)) + (100)) + (1))]) 10 dX8_asTool_7 fpX8_63_X8 f43 (nle rfl) (vL _) rfl rfl (fun h44 s45 f46 => ?_)
            refine g_aload_n 11 dX8_asTool_10 rfl rfl ?_
            obtain ⟨M_47, n_47, hw_47, tx_47, bd_47, ck_47, f_47, g_47, hM_47, rn_47, rhw_47, rtx_47, rbd_47, rck_47, of_47, og_47, e0_47, e1_47, e2_47, e3_47⟩ := HL (t.toNat) (by omega)
            have f48 := (s45.get (by simp <;> omega) (s42.get (by simp <;> omega) (s39.get (by simp <;> omega) e0_47)))
            refine g_get 14 dX8_asTool_11 faX8_94_X7 f48 rfl rfl ?_
            have f49 := (s45.get (by simp <;> omega) (s42.get (by simp <;> omega) (s39.get (by simp <;> omega) e1_47)))
            refine g_get 17 dX8_asTool_14 faX8_109_X0 f49 rfl rfl ?_
            refine g_iret rfl dX8_asTool_17 ?_
            refine rI ?_
            refine g_iconst (v := iZ (2)) 18 dX8_asNamed_17 rfl rfl ?_
            refine g_aload_n 19 dX8_asNamed_18 rfl rfl ?_
            refine g_get 22 dX8_asNamed_19 faX8_94_X7 f48 rfl rfl ?_
            refine g_callV (z := mX0_beyondOrders) (As := []) 25 dX8_asNamed_22 mwX0_beyondOrders ⟨by decide, by decide⟩ rfl wlX8_260 wiX0_beyondOrders wsX0_beyondOrders f49 rfl rfl rfl (nle rfl) (nle rfl) rfl ?_
            have f50 := (s45.get (by simp <;> omega) (s42.get (by simp <;> omega) (s39.get (by simp <;> omega) e2_47)))
            have f51 := (s45.get (by simp <;> omega) (s42.get (by simp <;> omega) (s39.get (by simp <;> omega) e3_47)))
            refine w_bey (M := M_47) f49 f50 f51 of_47 og_47 rn_47 (by omega) (fun z52 rz52 => ?_)
            refine rI ?_
            refine g_imul 26 dX8_asNamed_25 rfl ?_
            refine Go.genZ (fun z53 rz53 => ?_)
            refine g_iadd 27 dX8_asNamed_26 rfl ?_
            refine Go.genZ (fun z54 rz54 => ?_)
            refine g_iret rfl dX8_asNamed_27 ?_
            refine rI ?_
            refine g_aload_n 18 dX8_asBuilt_17 rfl rfl ?_
            refine g_iload_n 19 dX8_asBuilt_18 rfl rfl ?_
            refine g_callV (z := mX8_chainLength) (As := [.int (iZ t)]) 22 dX8_asBuilt_19 mwX8_chainLength ⟨by decide, by decide⟩ rfl wlX8_170 wiX8_chainLength wsX8_chainLength f46 rfl rfl rfl (nle rfl) (nle rfl) rfl ?_
            refine w_chl (((HC.c0 s39 f40).c0 s42 f43).c0 s45 f46) rt  (fun z55 rz55 => ?_)
            refine rI ?_
            refine g_iadd 23 dX8_asBuilt_22 rfl ?_
            refine Go.genZ (fun z56 rz56 => ?_)
            refine g_iret rfl dX8_asBuilt_23 ?_
            refine rI ?_
            refine g_iret rfl dX8_weight_76 ?_
            have zz := H.c0 ((((Sm.refl [0] _).tr s39 (fun _ q => q) (by simp)).tr s42 (fun _ q => q) (by simp)).tr s45 (fun _ q => q) (by simp)) f46
            exact k _ tc (z56) rz56 zz.1 zz.2
          · refine g_tabZI (4) 77 dX8_weight_13 rw c5 (by decide) (by decide) rfl rfl ?_
            refine g_aload_n 78 dX8_weight_77 rfl rfl ?_
            refine g_aload_n 79 dX8_weight_78 rfl rfl ?_
            refine g_iload_n 80 dX8_weight_79 rfl rfl ?_
            refine g_callV (z := mX8_asSealed) (As := [.ref (71 + 4 * t.toNat), .int (iZ t)]) 83 dX8_weight_80 mwX8_asSealed ⟨by decide, by decide⟩ rfl wlX8_213 wiX8_asSealed wsX8_asSealed F0 rfl rfl rfl (nle rfl) (nle rfl) rfl ?_
            refine Go.to [some (.ref 0), some (.ref (71 + 4 * t.toNat)), some (.int (iZ t))] [] rfl rfl ?_
            refine g_aload_n 1 dX8_asSealed_0 rfl rfl ?_
            refine g_dup 2 dX8_asSealed_1 rfl rfl ?_
            refine g_get 5 dX8_asSealed_2 faX8_63_X8 F0 rfl rfl ?_
            refine g_ldc2 8 dX8_asSealed_5 wnX8_265 rfl ?_
            refine g_ladd 9 dX8_asSealed_8 rfl ?_
            refine g_putC (fs1 := [.ref 1, .ref 3, .ref 4, .int (iZ ((tc : Int))), .ref 5, .ref 9, .ref 15, .ref 20, .ref 25, .ref 30, .long ((tr) + (10000))]) 12 dX8_asSealed_9 fpX8_63_X8 F0 (nle rfl) (vL _) rfl rfl (fun h57 s58 f59 => ?_)
            refine g_aload_n 13 dX8_asSealed_12 rfl rfl ?_
            refine g_aload_n 14 dX8_asSealed_13 rfl rfl ?_
            refine g_iload_n 15 dX8_asSealed_14 rfl rfl ?_
            refine g_callV (z := mX8_asBuilt) (As := [.ref (71 + 4 * t.toNat), .int (iZ t)]) 18 dX8_asSealed_15 mwX8_asBuilt ⟨by decide, by decide⟩ rfl wlX8_209 wiX8_asBuilt wsX8_asBuilt f59 rfl rfl rfl (nle rfl) (nle rfl) rfl ?_
            refine Go.to [some (.ref 0), some (.ref (71 + 4 * t.toNat)), some (.int (iZ t))] [] rfl rfl ?_
            refine g_aload_n 1 dX8_asBuilt_0 rfl rfl ?_
            refine g_dup 2 dX8_asBuilt_1 rfl rfl ?_
            refine g_get 5 dX8_asBuilt_2 faX8_63_X8 f59 rfl rfl ?_
            refine g_ldc2 8 dX8_asBuilt_5 wnX8_263 rfl ?_
            refine g_ladd 9 dX8_asBuilt_8 rfl ?_
            refine g_putC (fs1 := [.ref 1, .ref 3, .ref 4, .int (iZ ((tc : Int))), .ref 5, .ref 9, .ref 15, .ref 20, .ref 25, .ref 30, .long (((tr) + (10000)) + (1000))]) 12 dX8_asBuilt_9 fpX8_63_X8 f59 (nle rfl) (vL _) rfl rfl (fun h60 s61 f62 => ?_)
            refine g_aload_n 13 dX8_asBuilt_12 rfl rfl ?_
            refine g_aload_n 14 dX8_asBuilt_13 rfl rfl ?_
            refine g_callV (z := mX8_asNamed) (As := [.ref (71 + 4 * t.toNat)]) 17 dX8_asBuilt_14 mwX8_asNamed ⟨by decide, by decide⟩ rfl wlX8_206 wiX8_asNamed wsX8_asNamed f62 rfl rfl rfl (nle rfl) (nle rfl) rfl ?_
            refine Go.to [some (.ref 0), some (.ref (71 + 4 * t.toNat))] [] rfl rfl ?_
            refine g_aload_n 1 dX8_asNamed_0 rfl rfl ?_
            refine g_dup 2 dX8_asNamed_1 rfl rfl ?_
            refine g_get 5 dX8_asNamed_2 faX8_63_X8 f62 rfl rfl ?_
            refine g_ldc2 8 dX8_asNamed_5 wnX8_258 rfl ?_
            refine g_ladd 9 dX8_asNamed_8 rfl ?_
            refine g_putC (fs1 := [.ref 1, .ref 3, .ref 4, .int (iZ ((tc : Int))), .ref 5, .ref 9, .ref 15, .ref 20, .ref 25, .ref 30, .long ((((tr) + (10000)) + (1000)) + (100))]) 12 dX8_asNamed_9 fpX8_63_X8 f62 (nle rfl) (vL _) rfl rfl (fun h63 s64 f65 => ?_)
            refine g_aload_n 13 dX8_asNamed_12 rfl rfl ?_
            refine g_aload_n 14 dX8_asNamed_13 rfl rfl ?_
            refine g_callV (z := mX8_asTool) (As := [.ref (71 + 4 * t.toNat)]) 17 dX8_asNamed_14 mwX8_asTool ⟨by decide, by decide⟩ rfl wlX8_200 wiX8_asTool wsX8_asTool f65 rfl rfl rfl (nle rfl) (nle rfl) rfl ?_
            refine Go.to [some (.ref 0), some (.ref (71 + 4 * t.toNat))] [] rfl rfl ?_
            refine g_aload_n 1 dX8_asTool_0 rfl rfl ?_
            refine g_dup 2 dX8_asTool_1 rfl rfl ?_
            refine g_get 5 dX8_asTool_2 faX8_63_X8 f65 rfl rfl ?_
            refine g_lconst (v := 1) 6 dX8_asTool_5 rfl rfl ?_
            refine g_ladd 7 dX8_asTool_6 rfl ?_
            refine g_putC (fs1 := [.ref 1, .ref 3, .ref 4, .int (iZ ((tc : Int))), .ref 5, .ref 9, .ref 15, .ref 20, .ref 25, .ref 30, .long (((((tr) + (10000)) + (1000)) + (100)) + (1))]) 10 dX8_asTool_7 fpX8_63_X8 f65 (nle rfl) (vL _) rfl rfl (fun h66 s67 f68 => ?_)
            refine g_aload_n 11 dX8_asTool_10 rfl rfl ?_
            obtain ⟨M_69, n_69, hw_69, tx_69, bd_69, ck_69, f_69, g_69, hM_69, rn_69, rhw_69, rtx_69, rbd_69, rck_69, of_69, og_69, e0_69, e1_69, e2_69, e3_69⟩ := HL (t.toNat) (by omega)
            have f70 := (s67.get (by simp <;> omega) (s64.get (by simp <;> omega) (s61.get (by simp <;> omega) (s58.get (by simp <;> omega) e0_69))))
            refine g_get 14 dX8_asTool_11 faX8_94_X7 f70 rfl rfl ?_
            have f71 := (s67.get (by simp <;> omega) (s64.get (by simp <;> omega) (s61.get (by simp <;> omega) (s58.get (by simp <;> omega) e1_69))))
            refine g_get 17 dX8_asTool_14 faX8_109_X0 f71 rfl rfl ?_
            refine g_iret rfl dX8_asTool_17 ?_
            refine rI ?_
            refine g_iconst (v := iZ (2)) 18 dX8_asNamed_17 rfl rfl ?_
            refine g_aload_n 19 dX8_asNamed_18 rfl rfl ?_
            refine g_get 22 dX8_asNamed_19 faX8_94_X7 f70 rfl rfl ?_
            refine g_callV (z := mX0_beyondOrders) (As := []) 25 dX8_asNamed_22 mwX0_beyondOrders ⟨by decide, by decide⟩ rfl wlX8_260 wiX0_beyondOrders wsX0_beyondOrders f71 rfl rfl rfl (nle rfl) (nle rfl) rfl ?_
            have f72 := (s67.get (by simp <;> omega) (s64.get (by simp <;> omega) (s61.get (by simp <;> omega) (s58.get (by simp <;> omega) e2_69))))
            have f73 := (s67.get (by simp <;> omega) (s64.get (by simp <;> omega) (s61.get (by simp <;> omega) (s58.get (by simp <;> omega) e3_69))))
            refine w_bey (M := M_69) f71 f72 f73 of_69 og_69 rn_69 (by omega) (fun z74 rz74 => ?_)
            refine rI ?_
            refine g_imul 26 dX8_asNamed_25 rfl ?_
            refine Go.genZ (fun z75 rz75 => ?_)
            refine g_iadd 27 dX8_asNamed_26 rfl ?_
            refine Go.genZ (fun z76 rz76 => ?_)
            refine g_iret rfl dX8_asNamed_27 ?_
            refine rI ?_
            refine g_aload_n 18 dX8_asBuilt_17 rfl rfl ?_
            refine g_iload_n 19 dX8_asBuilt_18 rfl rfl ?_
            refine g_callV (z := mX8_chainLength) (As := [.int (iZ t)]) 22 dX8_asBuilt_19 mwX8_chainLength ⟨by decide, by decide⟩ rfl wlX8_170 wiX8_chainLength wsX8_chainLength f68 rfl rfl rfl (nle rfl) (nle rfl) rfl ?_
            refine w_chl ((((HC.c0 s58 f59).c0 s61 f62).c0 s64 f65).c0 s67 f68) rt  (fun z77 rz77 => ?_)
            refine rI ?_
            refine g_iadd 23 dX8_asBuilt_22 rfl ?_
            refine Go.genZ (fun z78 rz78 => ?_)
            refine g_iret rfl dX8_asBuilt_23 ?_
            refine rI ?_
            refine g_iconst (v := iZ (3)) 19 dX8_asSealed_18 rfl rfl ?_
            refine g_imul 20 dX8_asSealed_19 rfl ?_
            refine Go.genZ (fun z79 rz79 => ?_)
            refine g_sipush (v := iZ (251)) 23 dX8_asSealed_20 (by decide +kernel) rfl ?_
            refine g_irem 24 dX8_asSealed_23 (by decide +kernel) rfl ?_
            refine Go.genZ (fun z80 rz80 => ?_)
            refine g_iret rfl dX8_asSealed_24 ?_
            refine rI ?_
            refine g_iret rfl dX8_weight_83 ?_
            have zz := H.c0 (((((Sm.refl [0] _).tr s58 (fun _ q => q) (by simp)).tr s61 (fun _ q => q) (by simp)).tr s64 (fun _ q => q) (by simp)).tr s67 (fun _ q => q) (by simp)) f68
            exact k _ tc (z80) rz80 zz.1 zz.2
          · refine g_tabZI (5) 84 dX8_weight_13 rw c5 (by decide) (by decide) rfl rfl ?_
            refine g_aload_n 85 dX8_weight_84 rfl rfl ?_
            refine g_aload_n 86 dX8_weight_85 rfl rfl ?_
            refine g_callV (z := mX8_asDoubted) (As := [.ref (71 + 4 * t.toNat)]) 89 dX8_weight_86 mwX8_asDoubted ⟨by decide, by decide⟩ rfl wlX8_216 wiX8_asDoubted wsX8_asDoubted F0 rfl rfl rfl (nle rfl) (nle rfl) rfl ?_
            refine Go.to [some (.ref 0), some (.ref (71 + 4 * t.toNat))] [] rfl rfl ?_
            refine g_aload_n 1 dX8_asDoubted_0 rfl rfl ?_
            refine g_dup 2 dX8_asDoubted_1 rfl rfl ?_
            refine g_get 5 dX8_asDoubted_2 faX8_63_X8 F0 rfl rfl ?_
            refine g_ldc2 8 dX8_asDoubted_5 wnX8_267 rfl ?_
            refine g_ladd 9 dX8_asDoubted_8 rfl ?_
            refine g_putC (fs1 := [.ref 1, .ref 3, .ref 4, .int (iZ ((tc : Int))), .ref 5, .ref 9, .ref 15, .ref 20, .ref 25, .ref 30, .long ((tr) + (100000))]) 12 dX8_asDoubted_9 fpX8_63_X8 F0 (nle rfl) (vL _) rfl rfl (fun h81 s82 f83 => ?_)
            refine g_aload_n 13 dX8_asDoubted_12 rfl rfl ?_
            refine g_aload_n 14 dX8_asDoubted_13 rfl rfl ?_
            refine g_callV (z := mX8_asTool) (As := [.ref (71 + 4 * t.toNat)]) 17 dX8_asDoubted_14 mwX8_asTool ⟨by decide, by decide⟩ rfl wlX8_200 wiX8_asTool wsX8_asTool f83 rfl rfl rfl (nle rfl) (nle rfl) rfl ?_
            refine Go.to [some (.ref 0), some (.ref (71 + 4 * t.toNat))] [] rfl rfl ?_
            refine g_aload_n 1 dX8_asTool_0 rfl rfl ?_
            refine g_dup 2 dX8_asTool_1 rfl rfl ?_
            refine g_get 5 dX8_asTool_2 faX8_63_X8 f83 rfl rfl ?_
            refine g_lconst (v := 1) 6 dX8_asTool_5 rfl rfl ?_
            refine g_ladd 7 dX8_asTool_6 rfl ?_
            refine g_putC (fs1 := [.ref 1, .ref 3, .ref 4, .int (iZ ((tc : Int))), .ref 5, .ref 9, .ref 15, .ref 20, .ref 25, .ref 30, .long (((tr) + (100000)) + (1))]) 10 dX8_asTool_7 fpX8_63_X8 f83 (nle rfl) (vL _) rfl rfl (fun h84 s85 f86 => ?_)
            refine g_aload_n 11 dX8_asTool_10 rfl rfl ?_
            obtain ⟨M_87, n_87, hw_87, tx_87, bd_87, ck_87, f_87, g_87, hM_87, rn_87, rhw_87, rtx_87, rbd_87, rck_87, of_87, og_87, e0_87, e1_87, e2_87, e3_87⟩ := HL (t.toNat) (by omega)
            have f88 := (s85.get (by simp <;> omega) (s82.get (by simp <;> omega) e0_87))
            refine g_get 14 dX8_asTool_11 faX8_94_X7 f88 rfl rfl ?_
            have f89 := (s85.get (by simp <;> omega) (s82.get (by simp <;> omega) e1_87))
            refine g_get 17 dX8_asTool_14 faX8_109_X0 f89 rfl rfl ?_
            refine g_iret rfl dX8_asTool_17 ?_
            refine rI ?_
            refine g_iconst (v := iZ (3)) 18 dX8_asDoubted_17 rfl rfl ?_
            refine g_idiv 19 dX8_asDoubted_18 (by decide +kernel) rfl ?_
            refine Go.genZ (fun z90 rz90 => ?_)
            refine g_iret rfl dX8_asDoubted_19 ?_
            refine rI ?_
            refine g_iret rfl dX8_weight_89 ?_
            have zz := H.c0 (((Sm.refl [0] _).tr s82 (fun _ q => q) (by simp)).tr s85 (fun _ q => q) (by simp)) f86
            exact k _ tc (z90) rz90 zz.1 zz.2
      · refine g_null 19 dX8_toolAt_18 rfl ?_
        refine g_goto 28 dX8_toolAt_19 rfl ?_
        refine g_aret rfl (Or.inl rfl) dX8_toolAt_28 ?_
        refine rN ?_
        refine g_astore_nN (L1 := [some (.ref 0), some (.int (iZ w)), some (.int (iZ t)), some (.null)]) 6 dX8_weight_5 (by decide) rfl rfl rfl ?_
        refine g_aload_nN 7 dX8_weight_6 rfl rfl ?_
        refine g_ifnonnullN 10 dX8_weight_7 rfl ?_
        refine g_iconst (v := iZ (-1)) 11 dX8_weight_10 rfl rfl ?_
        refine g_iret rfl dX8_weight_11 ?_
        have zz := H.scr (Scr.refl _) HS
        exact k _ tc (-1) (by decide) zz.1 zz.2
set_option maxRecDepth 100000 in
theorem a8_count {l : Launch} {h : MH} {Q : Option Value → MH → Prop} {tn : Int} {tf : Nat → Int} {xn : Nat → Int} {xf : Nat → Nat → Int} {en : Int} {tc : Nat} {w : Int} (H : IX h tn tf xn xf en tc) (rw : rg w) (k : ∀ (h1 : MH) (tc1 : Nat) (r : Int), rg r → IX h1 tn tf xn xf en tc1 → Mo h h1 → Q (some (.int (iZ r))) h1) : Go l mX8_count 0 [some (.ref 0), some (.int (iZ w))] [] h Q := by
  obtain ⟨HC, HS, HY, HE, hlen, hmz⟩ := id H
  obtain ⟨⟨tr, F0⟩, F3, F4, htc, HT, HL⟩ := id HC
  refine g_iload_n 1 dX8_count_0 rfl rfl ?_
  by_cases c1 : w < 0 ∨ 4 < w
  · refine g_tabZO 71 dX8_count_1 rw c1 rfl ?_
    refine g_iconst (v := iZ (-1)) 72 dX8_count_71 rfl rfl ?_
    refine g_iret rfl dX8_count_72 ?_
    have zz := H.scr (Scr.refl _) HS
    exact k _ tc (-1) (by decide) zz.1 zz.2
  · have c2 : w = 0 ∨ w = 1 ∨ w = 2 ∨ w = 3 ∨ w = 4 := by omega
    rcases c2 with c2 | c2 | c2 | c2 | c2
    · refine g_tabZI (0) 36 dX8_count_1 rw c2 (by decide) (by decide) rfl rfl ?_
      refine g_aload_n 37 dX8_count_36 rfl rfl ?_
      refine g_get 40 dX8_count_37 faX8_26_X8 F0 rfl rfl ?_
      refine g_iret rfl dX8_count_40 ?_
      have zz := H.scr (Scr.refl _) HS
      exact k _ tc ((tc : Int)) (by omega) zz.1 zz.2
    · refine g_tabZI (1) 41 dX8_count_1 rw c2 (by decide) (by decide) rfl rfl ?_
      refine g_aload_n 42 dX8_count_41 rfl rfl ?_
      refine g_get 45 dX8_count_42 faX8_59_X8 F0 rfl rfl ?_
      obtain ⟨eu, ek, el, oeu, oek, oel, e1, e2, E0, E1, E2, E3⟩ := id HE
      refine g_get 48 dX8_count_45 faX8_219_X1 E0 rfl rfl ?_
      refine g_iret rfl dX8_count_48 ?_
      have zz := H.scr (Scr.refl _) HS
      exact k _ tc (en) (by omega) zz.1 zz.2
    · refine g_tabZI (2) 49 dX8_count_1 rw c2 (by decide) (by decide) rfl rfl ?_
      refine g_aload_n 50 dX8_count_49 rfl rfl ?_
      refine g_get 53 dX8_count_50 faX8_10_X8 F0 rfl rfl ?_
      obtain ⟨y0, y1, y2, y3, y4⟩ := id HY
      refine g_get 56 dX8_count_53 faX8_67_X6 y0 rfl rfl ?_
      refine g_iret rfl dX8_count_56 ?_
      have zz := H.scr (Scr.refl _) HS
      exact k _ tc (tn) (by omega) zz.1 zz.2
    · refine g_tabZI (3) 57 dX8_count_1 rw c2 (by decide) (by decide) rfl rfl ?_
      refine g_aload_n 58 dX8_count_57 rfl rfl ?_
      refine g_callV (z := mX8_checkedTools) (As := []) 61 dX8_count_58 mwX8_checkedTools ⟨by decide, by decide⟩ rfl wlX8_222 wiX8_checkedTools wsX8_checkedTools F0 rfl rfl rfl (nle rfl) (nle rfl) rfl ?_
      refine w_chk HC   (fun z3 rz3 => ?_)
      refine rI ?_
      refine g_iret rfl dX8_count_61 ?_
      have zz := H.scr (Scr.refl _) HS
      exact k _ tc (z3) rz3 zz.1 zz.2
    · refine g_tabZI (4) 62 dX8_count_1 rw c2 (by decide) (by decide) rfl rfl ?_
      refine g_aload_n 63 dX8_count_62 rfl rfl ?_
      refine g_aload_n 64 dX8_count_63 rfl rfl ?_
      refine g_callV (z := mX8_staleBits) (As := []) 67 dX8_count_64 mwX8_staleBits ⟨by decide, by decide⟩ rfl wlX8_158 wiX8_staleBits wsX8_staleBits F0 rfl rfl rfl (nle rfl) (nle rfl) rfl ?_
      refine w_stale HC HS   (fun h5 z4 rz4 H6 s7 => ?_)
      refine rI ?_
      have f8 := (s7.get (by omega) F0)
      refine g_callV (z := mX8_sealedTools) (As := [.int (iZ z4)]) 70 dX8_count_67 mwX8_sealedTools ⟨by decide, by decide⟩ rfl wlX8_225 wiX8_sealedTools wsX8_sealedTools f8 rfl rfl rfl (nle rfl) (nle rfl) rfl ?_
      refine w_sls (HC.scr s7) rz4  (fun z9 rz9 => ?_)
      refine rI ?_
      refine g_iret rfl dX8_count_70 ?_
      have zz := H.scr s7 H6
      exact k _ tc (z9) rz9 zz.1 zz.2
set_option maxRecDepth 100000 in
theorem a8_edition {l : Launch} {h : MH} {Q : Option Value → MH → Prop} {tn : Int} {tf : Nat → Int} {xn : Nat → Int} {xf : Nat → Nat → Int} {en : Int} {tc : Nat} {i j : Int} (H : IX h tn tf xn xf en tc) (ri : rg i) (rj : rg j) (k : ∀ (h1 : MH) (r en1 : Int), (0 ≤ i ∧ i ≤ 65535 ∧ 0 ≤ j ∧ j ≤ 65535 ∧ en < 12 → r = en ∧ en1 = en + 1) → (0 ≤ i ∧ i ≤ 65535 ∧ 0 ≤ j ∧ j ≤ 65535 ∧ en = 12 → r = -3 ∧ en1 = en) → (¬ (0 ≤ i ∧ i ≤ 65535 ∧ 0 ≤ j ∧ j ≤ 65535) → r = -1 ∧ en1 = en) → IX h1 tn tf xn xf en1 tc → Mo h h1 → Q (some (.int (iZ r))) h1) : Go l mX8_edition 0 [some (.ref 0), some (.int (iZ i)), some (.int (iZ j))] [] h Q := by
  obtain ⟨HC, HS, HY, HE, hlen, hmz⟩ := id H
  obtain ⟨⟨tr, F0⟩, F3, F4, htc, HT, HL⟩ := id HC
  refine g_iload_n 1 dX8_edition_0 rfl rfl ?_
  refine g_ifZ_lt 20 4 dX8_edition_1 rfl rfl ri (fun c1 => ?_) (fun c1 => ?_)
  · refine g_iconst (v := iZ (-1)) 21 dX8_edition_20 rfl rfl ?_
    refine g_iret rfl dX8_edition_21 ?_
    exact k _ (-1) en (by omega) (by omega) (by omega) H (fun _ _ _ => rfl)
  · refine g_iload_n 5 dX8_edition_4 rfl rfl ?_
    refine g_ldc (v := iZ (65535)) 7 dX8_edition_5 wnX8_186 rfl ?_
    refine g_icZ_gt 20 10 dX8_edition_7 rfl rfl ri (by decide) (fun c2 => ?_) (fun c2 => ?_)
    · refine g_iconst (v := iZ (-1)) 21 dX8_edition_20 rfl rfl ?_
      refine g_iret rfl dX8_edition_21 ?_
      exact k _ (-1) en (by omega) (by omega) (by omega) H (fun _ _ _ => rfl)
    · refine g_iload_n 11 dX8_edition_10 rfl rfl ?_
      refine g_ifZ_lt 20 14 dX8_edition_11 rfl rfl rj (fun c3 => ?_) (fun c3 => ?_)
      · refine g_iconst (v := iZ (-1)) 21 dX8_edition_20 rfl rfl ?_
        refine g_iret rfl dX8_edition_21 ?_
        exact k _ (-1) en (by omega) (by omega) (by omega) H (fun _ _ _ => rfl)
      · refine g_iload_n 15 dX8_edition_14 rfl rfl ?_
        refine g_ldc (v := iZ (65535)) 17 dX8_edition_15 wnX8_186 rfl ?_
        refine g_icZ_le 22 20 dX8_edition_17 rfl rfl rj (by decide) (fun c4 => ?_) (fun c4 => ?_)
        · refine g_aload_n 23 dX8_edition_22 rfl rfl ?_
          refine g_get 26 dX8_edition_23 faX8_59_X8 F0 rfl rfl ?_
          refine g_iload_n 27 dX8_edition_26 rfl rfl ?_
          refine g_iload_n 28 dX8_edition_27 rfl rfl ?_
          obtain ⟨eu, ek, el, oeu, oek, oel, e1, e2, E0, E1, E2, E3⟩ := id HE
          refine g_callV (z := mX1_add) (As := [.int (iZ i), .int (iZ j)]) 31 dX8_edition_28 mwX1_add ⟨by decide, by decide⟩ rfl wlX8_187 wiX1_add wsX1_add E0 rfl rfl rfl (nle rfl) (nle rfl) rfl ?_
          refine Go.to [some (.ref 30), some (.int (iZ i)), some (.int (iZ j))] [] rfl rfl ?_
          refine g_aload_n 1 dX1_add_0 rfl rfl ?_
          refine g_get 4 dX1_add_1 faX1_21_X1 E0 rfl rfl ?_
          refine g_ifZ_lt 16 7 dX1_add_4 rfl rfl (by omega) (fun c5 => ?_) (fun c5 => ?_)
          · refine g_bipush (v := iZ (-3)) 18 dX1_add_16 (by decide +kernel) rfl ?_
            refine g_iret rfl dX1_add_18 ?_
            refine rI ?_
            refine g_iret rfl dX8_edition_31 ?_
            exact k _ (-3) en (by omega) (by omega) (by omega) H (fun _ _ _ => rfl)
          · refine g_aload_n 8 dX1_add_7 rfl rfl ?_
            refine g_get 11 dX1_add_8 faX1_21_X1 E0 rfl rfl ?_
            refine g_bipush (v := iZ (12)) 13 dX1_add_11 (by decide +kernel) rfl ?_
            refine g_icZ_lt 19 16 dX1_add_13 rfl rfl (by omega) (by decide) (fun c6 => ?_) (fun c6 => ?_)
            · refine g_aload_n 20 dX1_add_19 rfl rfl ?_
              refine g_get 23 dX1_add_20 faX1_9_X1 E0 rfl rfl ?_
              refine g_aload_n 24 dX1_add_23 rfl rfl ?_
              refine g_get 27 dX1_add_24 faX1_21_X1 E0 rfl rfl ?_
              refine g_iload_n 28 dX1_add_27 rfl rfl ?_
              refine g_iastW 29 dX1_add_28 E1 oeu ri (by omega) (by omega) (by decide) rfl (fun h8 g7 og7 s9 f10 => ?_)
              refine g_aload_n 30 dX1_add_29 rfl rfl ?_
              have f11 := (s9.get (by decide) E0)
              refine g_get 33 dX1_add_30 faX1_15_X1 f11 rfl rfl ?_
              refine g_aload_n 34 dX1_add_33 rfl rfl ?_
              refine g_get 37 dX1_add_34 faX1_21_X1 f11 rfl rfl ?_
              refine g_iload_n 38 dX1_add_37 rfl rfl ?_
              have f12 := (s9.get (by decide) E2)
              refine g_iastW 39 dX1_add_38 f12 oek rj (by omega) (by omega) (by decide) rfl (fun h14 g13 og13 s15 f16 => ?_)
              refine g_aload_n 40 dX1_add_39 rfl rfl ?_
              refine g_dup 41 dX1_add_40 rfl rfl ?_
              have f17 := (s15.get (by decide) f11)
              refine g_get 44 dX1_add_41 faX1_21_X1 f17 rfl rfl ?_
              refine g_iconst (v := iZ (1)) 45 dX1_add_44 rfl rfl ?_
              refine g_iaddZ (en + 1) 46 dX1_add_45 (by omega) rfl ?_
              refine g_putC (fs1 := [.ref 31, .ref 32, .ref 33, .int (iZ (en + 1))]) 49 dX1_add_46 fpX1_21_X1 f17 (nle rfl) (vI _) rfl rfl (fun h18 s19 f20 => ?_)
              refine g_aload_n 50 dX1_add_49 rfl rfl ?_
              refine g_get 53 dX1_add_50 faX1_21_X1 f20 rfl rfl ?_
              refine g_iconst (v := iZ (1)) 54 dX1_add_53 rfl rfl ?_
              refine g_isubZ (en) 55 dX1_add_54 (by omega) rfl ?_
              refine g_iret rfl dX1_add_55 ?_
              refine rI ?_
              refine g_iret rfl dX8_edition_31 ?_
              have f21 := (s19.get (by decide) (s15.get (by decide) f10))
              have f22 := (s19.get (by decide) f16)
              have f23 := (s19.get (by decide) (s15.get (by decide) (s9.get (by decide) E3)))
              have zz := H.ed (en1 := en + 1) ((((Sm.refl [30, 31, 32, 33] _).tr s9 (fun _ q => q) (by simp)).tr s15 (fun _ q => q) (by simp)).tr s19 (fun _ q => q) (by simp)) (by decide) ⟨g7, g13, el, og7, og13, oel, by omega, by omega, f20, f21, f22, f23⟩
              exact k _ (en) (en + 1) (by omega) (by omega) (by omega) zz.1 zz.2
            · refine g_bipush (v := iZ (-3)) 18 dX1_add_16 (by decide +kernel) rfl ?_
              refine g_iret rfl dX1_add_18 ?_
              refine rI ?_
              refine g_iret rfl dX8_edition_31 ?_
              exact k _ (-3) en (by omega) (by omega) (by omega) H (fun _ _ _ => rfl)
        · refine g_iconst (v := iZ (-1)) 21 dX8_edition_20 rfl rfl ?_
          refine g_iret rfl dX8_edition_21 ?_
          exact k _ (-1) en (by omega) (by omega) (by omega) H (fun _ _ _ => rfl)
set_option maxRecDepth 100000 in
theorem a8_clear {l : Launch} {h : MH} {Q : Option Value → MH → Prop} {tn : Int} {tf : Nat → Int} {xn : Nat → Int} {xf : Nat → Nat → Int} {en : Int} {tc : Nat}  (H : IX h tn tf xn xf en tc)  (k : ∀ (h1 : MH), IX h1 0 tf xn xf en tc → Mo h h1 → Q (some (.int (iZ tn))) h1) : Go l mX8_clear 0 [some (.ref 0), none] [] h Q := by
  obtain ⟨HC, HS, HY, HE, hlen, hmz⟩ := id H
  obtain ⟨⟨tr, F0⟩, F3, F4, htc, HT, HL⟩ := id HC
  refine g_aload_n 1 dX8_clear_0 rfl rfl ?_
  refine g_get 4 dX8_clear_1 faX8_10_X8 F0 rfl rfl ?_
  obtain ⟨y0, y1, y2, y3, y4⟩ := id HY
  refine g_get 7 dX8_clear_4 faX8_67_X6 y0 rfl rfl ?_
  refine g_istore_n (L1 := [some (.ref 0), some (.int (iZ tn))]) 8 dX8_clear_7 (by decide) rfl rfl rfl ?_
  refine g_aload_n 9 dX8_clear_8 rfl rfl ?_
  refine g_get 12 dX8_clear_9 faX8_10_X8 F0 rfl rfl ?_
  refine g_iconst (v := iZ (0)) 13 dX8_clear_12 rfl rfl ?_
  refine g_putC (fs1 := [.ref 2, .int (iZ 0)]) 16 dX8_clear_13 fpX8_67_X6 y0 (nle rfl) (vI _) rfl rfl (fun h1 s2 f3 => ?_)
  refine g_iload_n 17 dX8_clear_16 rfl rfl ?_
  refine g_iret rfl dX8_clear_17 ?_
  have f4 := (s2.get (by decide) y1)
  have zz := H.ty (tn1 := 0) (tf1 := tf) ((Sm.refl [1, 2] _).tr s2 (fun _ q => q) (by simp)) (by decide) ⟨f3, f4, by decide, by decide, y4⟩
  exact k _ zz.1 zz.2
set_option maxRecDepth 100000 in
theorem a8_trace {l : Launch} {h : MH} {Q : Option Value → MH → Prop} {tn : Int} {tf : Nat → Int} {xn : Nat → Int} {xf : Nat → Nat → Int} {en : Int} {tc : Nat}  (H : IX h tn tf xn xf en tc)  (k : ∀ (r : Int64), Q (some (.long r)) h) : Go l mX8_trace 0 [some (.ref 0)] [] h Q := by
  obtain ⟨HC, HS, HY, HE, hlen, hmz⟩ := id H
  obtain ⟨⟨tr, F0⟩, F3, F4, htc, HT, HL⟩ := id HC
  refine g_aload_n 1 dX8_trace_0 rfl rfl ?_
  refine g_get 4 dX8_trace_1 faX8_63_X8 F0 rfl rfl ?_
  refine g_lret rfl dX8_trace_4 ?_
  exact k _

set_option maxRecDepth 100000 in
theorem b_same {l : Launch} {h : MH} {Q : Option Value → MH → Prop} {tr : Int64} {ty tx : Nat → Int32} {w : Nat → Int} {B : Nat → Nat → Int} {t u : Int} (H : R9B h tr ty tx w B) (rt : rg t) (ru : rg u)  (k : ∀ r : Int, (smP (w 5) (refV B) (refB B) t u r) → Q (some (.int (iZ r))) h) : Go l mX9_same 0 [some (.ref 50), some (.int (iZ t)), some (.int (iZ u))] [] h Q := by
  have n0 := H.2.2.1.2.1
  refine g_aload_n 1 dX9_same_0 rfl rfl ?_
  refine g_iload_n 2 dX9_same_1 rfl rfl ?_
  obtain ⟨F50_1, ⟨F51_1, F52_1, F53_1, F54_1, F55_1, F56_1, F57_1, F58_1, F59_1, F60_1, F61_1, F62_1, F63_1, F64_1, F65_1, F66_1, F67_1, F68_1, F69_1, F70_1, kty_1, ktx_1⟩, ⟨r2_1, r5_1, r13_1, r14_1, r15_1, r16_1, r17_1, r18_1, r19_1, r20_1, r25_1, r26_1, r27_1, r28_1, r29_1, r30_1, r31_1, r35_1⟩, ⟨o53_1, o54_1, o55_1, o56_1, o57_1, o58_1, o59_1, o60_1, o61_1, o62_1, o63_1, o64_1, o65_1, o66_1, o67_1, o68_1, o69_1, o70_1⟩, hT_1⟩ := id H
  refine g_callV (z := mX9_isTool) (As := [.int (iZ t)]) 5 dX9_same_2 mwX9_isTool ⟨by decide, by decide⟩ rfl wlX9_178 wiX9_isTool wsX9_isTool F50_1 rfl rfl rfl (nle rfl) (nle rfl) rfl ?_
  refine b_isTool H rt (fun z2 rz2 => ?_)
  refine rI ?_
  refine g_ifZ_eq 25 8 dX9_same_5 rfl rfl (rg01 (by omega)) (fun c3 => ?_) (fun c3 => ?_)
  · refine g_iconst (v := iZ (-1)) 26 dX9_same_25 rfl rfl ?_
    refine g_iret rfl dX9_same_26 ?_
    exact k (-1) ⟨fun q => by omega, fun _ => rfl⟩ 
  · refine g_aload_n 9 dX9_same_8 rfl rfl ?_
    refine g_iload_n 10 dX9_same_9 rfl rfl ?_
    refine g_callV (z := mX9_isTool) (As := [.int (iZ u)]) 13 dX9_same_10 mwX9_isTool ⟨by decide, by decide⟩ rfl wlX9_178 wiX9_isTool wsX9_isTool F50_1 rfl rfl rfl (nle rfl) (nle rfl) rfl ?_
    refine b_isTool H ru (fun z4 rz4 => ?_)
    refine rI ?_
    refine g_ifZ_eq 25 16 dX9_same_13 rfl rfl (rg01 (by omega)) (fun c5 => ?_) (fun c5 => ?_)
    · refine g_iconst (v := iZ (-1)) 26 dX9_same_25 rfl rfl ?_
      refine g_iret rfl dX9_same_26 ?_
      exact k (-1) ⟨fun q => by omega, fun _ => rfl⟩ 
    · refine g_aload_n 17 dX9_same_16 rfl rfl ?_
      refine g_iload_n 18 dX9_same_17 rfl rfl ?_
      refine g_iload_n 19 dX9_same_18 rfl rfl ?_
      refine g_callV (z := mX9_unlike) (As := [.int (iZ t), .int (iZ u)]) 22 dX9_same_19 mwX9_unlike ⟨by decide, by decide⟩ rfl wlX9_214 wiX9_unlike wsX9_unlike F50_1 rfl rfl rfl (nle rfl) (nle rfl) rfl ?_
      refine b_unl H (by omega) (by omega) (fun z6 rz6 => ?_)
      refine rI ?_
      refine g_goto 26 dX9_same_22 rfl ?_
      refine g_iret rfl dX9_same_26 ?_
      exact k (z6) ⟨fun _ => rz6.1, fun q => by omega⟩ 

set_option maxRecDepth 100000 in
theorem f_more {l : Launch} {h : MH} {Q : Option Value → MH → Prop} {v c : Int} (rc : rg c) (k : Q (some (.long (iL (mor v c)))) h) : Go l mX9_more 0 [some (.long (iL v)), none, some (.int (iZ c))] [] h Q := by
  refine g_iload_n 1 dX9_more_0 rfl rfl ?_
  refine g_ifZ_ne 8 4 dX9_more_1 rfl rfl rc (fun c1 => ?_) (fun c1 => ?_)
  · refine g_lload_n 9 dX9_more_8 rfl rfl ?_
    refine g_ldc2 12 dX9_more_9 wnX9_119 rfl ?_
    have q2 : ((27 : Int64)) = iL 27 := by decide +kernel
    rw [q2]
    refine g_lmul 13 dX9_more_12 rfl ?_
    rw [iL_mul]
    refine g_iload_n 14 dX9_more_13 rfl rfl ?_
    refine g_i2l 15 dX9_more_14 rfl ?_
    rw [iL_wide rc]
    refine g_ladd 16 dX9_more_15 rfl ?_
    rw [iL_add]
    refine g_ldc2 19 dX9_more_16 wnX9_121 rfl ?_
    have q3 : ((97 : Int64)) = iL 97 := by decide +kernel
    rw [q3]
    refine g_lsub 20 dX9_more_19 rfl ?_
    rw [iL_sub]
    refine g_lconst (v := iL 1) 21 dX9_more_20 (by decide +kernel) rfl ?_
    refine g_ladd 22 dX9_more_21 rfl ?_
    rw [iL_add]
    refine g_lret rfl dX9_more_22 ?_
    have e9 : mor v c = (((v * 27) + c) - 97) + 1 := (if_neg (by omega)).trans (by omega)
    rw [e9] at k
    exact k
  · refine g_lload_n 5 dX9_more_4 rfl rfl ?_
    refine g_goto 22 dX9_more_5 rfl ?_
    refine g_lret rfl dX9_more_22 ?_
    have e9 : mor v c = v := if_pos (by omega)
    rw [e9] at k
    exact k
set_option maxRecDepth 100000 in
theorem f_spell {l : Launch} {h : MH} {Q : Option Value → MH → Prop} {a b c d e : Int} (ra : rg a) (rb : rg b) (rc : rg c) (rd : rg d) (re : rg e) (k : Q (some (.long (iL (spv a b c d e)))) h) : Go l mX9_spelled 0 [some (.int (iZ a)), some (.int (iZ b)), some (.int (iZ c)), some (.int (iZ d)), some (.int (iZ e))] [] h Q := by
  refine g_lconst (v := iL 0) 1 dX9_spelled_0 (by decide +kernel) rfl ?_
  refine g_iload_n 2 dX9_spelled_1 rfl rfl ?_
  refine g_callS (z := mX9_more) (As := [.long (iL (0)), .int (iZ a)]) 5 dX9_spelled_2 mwX9_more ⟨by decide, by decide⟩ rfl wlX9_123 wtX9_more rfl (nle rfl) (nle rfl) rfl ?_
  refine f_more ra ?_
  refine rL ?_
  refine g_iload_n 6 dX9_spelled_5 rfl rfl ?_
  refine g_callS (z := mX9_more) (As := [.long (iL (mor (0) (a))), .int (iZ b)]) 9 dX9_spelled_6 mwX9_more ⟨by decide, by decide⟩ rfl wlX9_123 wtX9_more rfl (nle rfl) (nle rfl) rfl ?_
  refine f_more rb ?_
  refine rL ?_
  refine g_iload_n 10 dX9_spelled_9 rfl rfl ?_
  refine g_callS (z := mX9_more) (As := [.long (iL (mor (mor (0) (a)) (b))), .int (iZ c)]) 13 dX9_spelled_10 mwX9_more ⟨by decide, by decide⟩ rfl wlX9_123 wtX9_more rfl (nle rfl) (nle rfl) rfl ?_
  refine f_more rc ?_
  refine rL ?_
  refine g_iload_n 14 dX9_spelled_13 rfl rfl ?_
  refine g_callS (z := mX9_more) (As := [.long (iL (mor (mor (mor (0) (a)) (b)) (c))), .int (iZ d)]) 17 dX9_spelled_14 mwX9_more ⟨by decide, by decide⟩ rfl wlX9_123 wtX9_more rfl (nle rfl) (nle rfl) rfl ?_
  refine f_more rd ?_
  refine rL ?_
  refine g_iload 19 dX9_spelled_17 rfl rfl ?_
  refine g_callS (z := mX9_more) (As := [.long (iL (mor (mor (mor (mor (0) (a)) (b)) (c)) (d))), .int (iZ e)]) 22 dX9_spelled_19 mwX9_more ⟨by decide, by decide⟩ rfl wlX9_123 wtX9_more rfl (nle rfl) (nle rfl) rfl ?_
  refine f_more re ?_
  refine rL ?_
  refine g_lret rfl dX9_spelled_22 ?_
  exact k
set_option maxRecDepth 100000 in
theorem f_wo17 {l : Launch} {h : MH} {Q : Option Value → MH → Prop} {e x1 x2 fo : Int} (r1 : 0 ≤ x1 ∧ x1 ≤ 200) (r2 : 0 ≤ x2 ∧ x2 ≤ 200) (he : 0 ≤ e ∧ e < 387420489) (hfo : fo = fow e 17) (rfo : rg fo) (k : Q (some (.int (iZ (if 5 < x2 - x1 then -9 else fow e 17)))) h) : Go l mX9_wordOf 474 [some (.ref 50), some (.int (iZ x1)), some (.int (iZ x2)), some (.long (iL (e))), none, some (.int (iZ fo))] [] h Q := by
  refine g_iload_n 475 dX9_wordOf_474 rfl rfl ?_
  refine g_iload_n 476 dX9_wordOf_475 rfl rfl ?_
  refine g_isubZ (x2 - x1) 477 dX9_wordOf_476 (by omega) rfl ?_
  refine g_iconst (v := iZ (5)) 478 dX9_wordOf_477 rfl rfl ?_
  refine g_icZ_le 486 481 dX9_wordOf_478 rfl rfl (by omega) (by decide) (fun c1 => ?_) (fun c1 => ?_)
  · refine g_iload 488 dX9_wordOf_486 rfl rfl ?_
    refine g_iret rfl dX9_wordOf_488 ?_
    have e9 : (if 5 < x2 - x1 then (-9 : Int) else fow e 17) = fo := (if_neg (by omega)).trans hfo.symm
    rw [e9] at k
    exact k
  · refine g_bipush (v := iZ (-9)) 483 dX9_wordOf_481 (by decide +kernel) rfl ?_
    refine g_goto 488 dX9_wordOf_483 rfl ?_
    refine g_iret rfl dX9_wordOf_488 ?_
    have e9 : (if 5 < x2 - x1 then (-9 : Int) else fow e 17) = -9 := if_pos (by omega)
    rw [e9] at k
    exact k
set_option maxRecDepth 100000 in
theorem f_wo16 {l : Launch} {h : MH} {Q : Option Value → MH → Prop} {e x1 x2 fo : Int} (r1 : 0 ≤ x1 ∧ x1 ≤ 200) (r2 : 0 ≤ x2 ∧ x2 ≤ 200) (he : 0 ≤ e ∧ e < 387420489) (hfo : fo = fow e 16) (rfo : rg fo) (k : Q (some (.int (iZ (if 5 < x2 - x1 then -9 else fow e 17)))) h) : Go l mX9_wordOf 448 [some (.ref 50), some (.int (iZ x1)), some (.int (iZ x2)), some (.long (iL (e))), none, some (.int (iZ fo))] [] h Q := by
  refine g_lload_n 449 dX9_wordOf_448 rfl rfl ?_
  refine g_bipush (v := iZ (98)) 451 dX9_wordOf_449 (by decide +kernel) rfl ?_
  refine g_bipush (v := iZ (121)) 453 dX9_wordOf_451 (by decide +kernel) rfl ?_
  refine g_bipush (v := iZ (116)) 455 dX9_wordOf_453 (by decide +kernel) rfl ?_
  refine g_bipush (v := iZ (101)) 457 dX9_wordOf_455 (by decide +kernel) rfl ?_
  refine g_iconst (v := iZ (0)) 458 dX9_wordOf_457 rfl rfl ?_
  refine g_callS (z := mX9_spelled) (As := [.int (iZ 98), .int (iZ 121), .int (iZ 116), .int (iZ 101), .int (iZ 0)]) 461 dX9_wordOf_458 mwX9_spelled ⟨by decide, by decide⟩ rfl wlX9_127 wtX9_spelled rfl (nle rfl) (nle rfl) rfl ?_
  refine f_spell (by decide) (by decide) (by decide) (by decide) (by decide) ?_
  refine rL ?_
  have kc1 : cdw 16 = spv (98) (121) (116) (101) (0) := by decide +kernel
  by_cases c1 : e = cdw 16
  · refine g_lcmp 462 dX9_wordOf_461 rfl ?_
    refine Go.eqI (iZ 0) (lcm_eq (c1.trans kc1)) ?_
    refine g_ifZ_ne 470 465 dX9_wordOf_462 rfl rfl (by decide) (fun q => absurd q (by decide)) (fun _ => ?_)
    refine g_bipush (v := iZ (16)) 467 dX9_wordOf_465 (by decide +kernel) rfl ?_
    refine g_goto 472 dX9_wordOf_467 rfl ?_
    refine g_istore (L1 := [some (.ref 50), some (.int (iZ x1)), some (.int (iZ x2)), some (.long (iL (e))), none, some (.int (iZ 16))]) 474 dX9_wordOf_472 (by decide) rfl rfl rfl ?_
    exact f_wo17 r1 r2 he (by rw [fow, if_pos c1]; rfl) (by decide) k
  · obtain ⟨z2, hz2, ez2⟩ := lcm_ne (a := e) (b := spv (98) (121) (116) (101) (0)) ⟨by omega, by omega⟩ (by rw [← kc1]; decide +kernel) (fun q9 => c1 (q9.trans kc1.symm))
    refine g_lcmp 462 dX9_wordOf_461 rfl ?_
    refine Go.eqI (iZ z2) ez2 ?_
    refine g_ifZ_ne 470 465 dX9_wordOf_462 rfl rfl (by omega) (fun _ => ?_) (fun q => absurd q (by omega))
    refine g_iload 472 dX9_wordOf_470 rfl rfl ?_
    refine g_istore (L1 := [some (.ref 50), some (.int (iZ x1)), some (.int (iZ x2)), some (.long (iL (e))), none, some (.int (iZ fo))]) 474 dX9_wordOf_472 (by decide) rfl rfl rfl ?_
    exact f_wo17 r1 r2 he (by rw [fow, if_neg c1]; exact hfo) rfo k
set_option maxRecDepth 100000 in
theorem f_wo15 {l : Launch} {h : MH} {Q : Option Value → MH → Prop} {e x1 x2 fo : Int} (r1 : 0 ≤ x1 ∧ x1 ≤ 200) (r2 : 0 ≤ x2 ∧ x2 ≤ 200) (he : 0 ≤ e ∧ e < 387420489) (hfo : fo = fow e 15) (rfo : rg fo) (k : Q (some (.int (iZ (if 5 < x2 - x1 then -9 else fow e 17)))) h) : Go l mX9_wordOf 421 [some (.ref 50), some (.int (iZ x1)), some (.int (iZ x2)), some (.long (iL (e))), none, some (.int (iZ fo))] [] h Q := by
  refine g_lload_n 422 dX9_wordOf_421 rfl rfl ?_
  refine g_bipush (v := iZ (109)) 424 dX9_wordOf_422 (by decide +kernel) rfl ?_
  refine g_bipush (v := iZ (105)) 426 dX9_wordOf_424 (by decide +kernel) rfl ?_
  refine g_bipush (v := iZ (110)) 428 dX9_wordOf_426 (by decide +kernel) rfl ?_
  refine g_bipush (v := iZ (117)) 430 dX9_wordOf_428 (by decide +kernel) rfl ?_
  refine g_bipush (v := iZ (115)) 432 dX9_wordOf_430 (by decide +kernel) rfl ?_
  refine g_callS (z := mX9_spelled) (As := [.int (iZ 109), .int (iZ 105), .int (iZ 110), .int (iZ 117), .int (iZ 115)]) 435 dX9_wordOf_432 mwX9_spelled ⟨by decide, by decide⟩ rfl wlX9_127 wtX9_spelled rfl (nle rfl) (nle rfl) rfl ?_
  refine f_spell (by decide) (by decide) (by decide) (by decide) (by decide) ?_
  refine rL ?_
  have kc1 : cdw 15 = spv (109) (105) (110) (117) (115) := by decide +kernel
  by_cases c1 : e = cdw 15
  · refine g_lcmp 436 dX9_wordOf_435 rfl ?_
    refine Go.eqI (iZ 0) (lcm_eq (c1.trans kc1)) ?_
    refine g_ifZ_ne 444 439 dX9_wordOf_436 rfl rfl (by decide) (fun q => absurd q (by decide)) (fun _ => ?_)
    refine g_bipush (v := iZ (15)) 441 dX9_wordOf_439 (by decide +kernel) rfl ?_
    refine g_goto 446 dX9_wordOf_441 rfl ?_
    refine g_istore (L1 := [some (.ref 50), some (.int (iZ x1)), some (.int (iZ x2)), some (.long (iL (e))), none, some (.int (iZ 15))]) 448 dX9_wordOf_446 (by decide) rfl rfl rfl ?_
    exact f_wo16 r1 r2 he (by rw [fow, if_pos c1]; rfl) (by decide) k
  · obtain ⟨z2, hz2, ez2⟩ := lcm_ne (a := e) (b := spv (109) (105) (110) (117) (115)) ⟨by omega, by omega⟩ (by rw [← kc1]; decide +kernel) (fun q9 => c1 (q9.trans kc1.symm))
    refine g_lcmp 436 dX9_wordOf_435 rfl ?_
    refine Go.eqI (iZ z2) ez2 ?_
    refine g_ifZ_ne 444 439 dX9_wordOf_436 rfl rfl (by omega) (fun _ => ?_) (fun q => absurd q (by omega))
    refine g_iload 446 dX9_wordOf_444 rfl rfl ?_
    refine g_istore (L1 := [some (.ref 50), some (.int (iZ x1)), some (.int (iZ x2)), some (.long (iL (e))), none, some (.int (iZ fo))]) 448 dX9_wordOf_446 (by decide) rfl rfl rfl ?_
    exact f_wo16 r1 r2 he (by rw [fow, if_neg c1]; exact hfo) rfo k
set_option maxRecDepth 100000 in
theorem f_wo14 {l : Launch} {h : MH} {Q : Option Value → MH → Prop} {e x1 x2 fo : Int} (r1 : 0 ≤ x1 ∧ x1 ≤ 200) (r2 : 0 ≤ x2 ∧ x2 ≤ 200) (he : 0 ≤ e ∧ e < 387420489) (hfo : fo = fow e 14) (rfo : rg fo) (k : Q (some (.int (iZ (if 5 < x2 - x1 then -9 else fow e 17)))) h) : Go l mX9_wordOf 395 [some (.ref 50), some (.int (iZ x1)), some (.int (iZ x2)), some (.long (iL (e))), none, some (.int (iZ fo))] [] h Q := by
  refine g_lload_n 396 dX9_wordOf_395 rfl rfl ?_
  refine g_bipush (v := iZ (112)) 398 dX9_wordOf_396 (by decide +kernel) rfl ?_
  refine g_bipush (v := iZ (108)) 400 dX9_wordOf_398 (by decide +kernel) rfl ?_
  refine g_bipush (v := iZ (117)) 402 dX9_wordOf_400 (by decide +kernel) rfl ?_
  refine g_bipush (v := iZ (115)) 404 dX9_wordOf_402 (by decide +kernel) rfl ?_
  refine g_iconst (v := iZ (0)) 405 dX9_wordOf_404 rfl rfl ?_
  refine g_callS (z := mX9_spelled) (As := [.int (iZ 112), .int (iZ 108), .int (iZ 117), .int (iZ 115), .int (iZ 0)]) 408 dX9_wordOf_405 mwX9_spelled ⟨by decide, by decide⟩ rfl wlX9_127 wtX9_spelled rfl (nle rfl) (nle rfl) rfl ?_
  refine f_spell (by decide) (by decide) (by decide) (by decide) (by decide) ?_
  refine rL ?_
  have kc1 : cdw 14 = spv (112) (108) (117) (115) (0) := by decide +kernel
  by_cases c1 : e = cdw 14
  · refine g_lcmp 409 dX9_wordOf_408 rfl ?_
    refine Go.eqI (iZ 0) (lcm_eq (c1.trans kc1)) ?_
    refine g_ifZ_ne 417 412 dX9_wordOf_409 rfl rfl (by decide) (fun q => absurd q (by decide)) (fun _ => ?_)
    refine g_bipush (v := iZ (14)) 414 dX9_wordOf_412 (by decide +kernel) rfl ?_
    refine g_goto 419 dX9_wordOf_414 rfl ?_
    refine g_istore (L1 := [some (.ref 50), some (.int (iZ x1)), some (.int (iZ x2)), some (.long (iL (e))), none, some (.int (iZ 14))]) 421 dX9_wordOf_419 (by decide) rfl rfl rfl ?_
    exact f_wo15 r1 r2 he (by rw [fow, if_pos c1]; rfl) (by decide) k
  · obtain ⟨z2, hz2, ez2⟩ := lcm_ne (a := e) (b := spv (112) (108) (117) (115) (0)) ⟨by omega, by omega⟩ (by rw [← kc1]; decide +kernel) (fun q9 => c1 (q9.trans kc1.symm))
    refine g_lcmp 409 dX9_wordOf_408 rfl ?_
    refine Go.eqI (iZ z2) ez2 ?_
    refine g_ifZ_ne 417 412 dX9_wordOf_409 rfl rfl (by omega) (fun _ => ?_) (fun q => absurd q (by omega))
    refine g_iload 419 dX9_wordOf_417 rfl rfl ?_
    refine g_istore (L1 := [some (.ref 50), some (.int (iZ x1)), some (.int (iZ x2)), some (.long (iL (e))), none, some (.int (iZ fo))]) 421 dX9_wordOf_419 (by decide) rfl rfl rfl ?_
    exact f_wo15 r1 r2 he (by rw [fow, if_neg c1]; exact hfo) rfo k
set_option maxRecDepth 100000 in
theorem f_wo13 {l : Launch} {h : MH} {Q : Option Value → MH → Prop} {e x1 x2 fo : Int} (r1 : 0 ≤ x1 ∧ x1 ≤ 200) (r2 : 0 ≤ x2 ∧ x2 ≤ 200) (he : 0 ≤ e ∧ e < 387420489) (hfo : fo = fow e 13) (rfo : rg fo) (k : Q (some (.int (iZ (if 5 < x2 - x1 then -9 else fow e 17)))) h) : Go l mX9_wordOf 370 [some (.ref 50), some (.int (iZ x1)), some (.int (iZ x2)), some (.long (iL (e))), none, some (.int (iZ fo))] [] h Q := by
  refine g_lload_n 371 dX9_wordOf_370 rfl rfl ?_
  refine g_bipush (v := iZ (101)) 373 dX9_wordOf_371 (by decide +kernel) rfl ?_
  refine g_bipush (v := iZ (110)) 375 dX9_wordOf_373 (by decide +kernel) rfl ?_
  refine g_bipush (v := iZ (100)) 377 dX9_wordOf_375 (by decide +kernel) rfl ?_
  refine g_iconst (v := iZ (0)) 378 dX9_wordOf_377 rfl rfl ?_
  refine g_iconst (v := iZ (0)) 379 dX9_wordOf_378 rfl rfl ?_
  refine g_callS (z := mX9_spelled) (As := [.int (iZ 101), .int (iZ 110), .int (iZ 100), .int (iZ 0), .int (iZ 0)]) 382 dX9_wordOf_379 mwX9_spelled ⟨by decide, by decide⟩ rfl wlX9_127 wtX9_spelled rfl (nle rfl) (nle rfl) rfl ?_
  refine f_spell (by decide) (by decide) (by decide) (by decide) (by decide) ?_
  refine rL ?_
  have kc1 : cdw 13 = spv (101) (110) (100) (0) (0) := by decide +kernel
  by_cases c1 : e = cdw 13
  · refine g_lcmp 383 dX9_wordOf_382 rfl ?_
    refine Go.eqI (iZ 0) (lcm_eq (c1.trans kc1)) ?_
    refine g_ifZ_ne 391 386 dX9_wordOf_383 rfl rfl (by decide) (fun q => absurd q (by decide)) (fun _ => ?_)
    refine g_bipush (v := iZ (13)) 388 dX9_wordOf_386 (by decide +kernel) rfl ?_
    refine g_goto 393 dX9_wordOf_388 rfl ?_
    refine g_istore (L1 := [some (.ref 50), some (.int (iZ x1)), some (.int (iZ x2)), some (.long (iL (e))), none, some (.int (iZ 13))]) 395 dX9_wordOf_393 (by decide) rfl rfl rfl ?_
    exact f_wo14 r1 r2 he (by rw [fow, if_pos c1]; rfl) (by decide) k
  · obtain ⟨z2, hz2, ez2⟩ := lcm_ne (a := e) (b := spv (101) (110) (100) (0) (0)) ⟨by omega, by omega⟩ (by rw [← kc1]; decide +kernel) (fun q9 => c1 (q9.trans kc1.symm))
    refine g_lcmp 383 dX9_wordOf_382 rfl ?_
    refine Go.eqI (iZ z2) ez2 ?_
    refine g_ifZ_ne 391 386 dX9_wordOf_383 rfl rfl (by omega) (fun _ => ?_) (fun q => absurd q (by omega))
    refine g_iload 393 dX9_wordOf_391 rfl rfl ?_
    refine g_istore (L1 := [some (.ref 50), some (.int (iZ x1)), some (.int (iZ x2)), some (.long (iL (e))), none, some (.int (iZ fo))]) 395 dX9_wordOf_393 (by decide) rfl rfl rfl ?_
    exact f_wo14 r1 r2 he (by rw [fow, if_neg c1]; exact hfo) rfo k
set_option maxRecDepth 100000 in
theorem f_wo12 {l : Launch} {h : MH} {Q : Option Value → MH → Prop} {e x1 x2 fo : Int} (r1 : 0 ≤ x1 ∧ x1 ≤ 200) (r2 : 0 ≤ x2 ∧ x2 ≤ 200) (he : 0 ≤ e ∧ e < 387420489) (hfo : fo = fow e 12) (rfo : rg fo) (k : Q (some (.int (iZ (if 5 < x2 - x1 then -9 else fow e 17)))) h) : Go l mX9_wordOf 344 [some (.ref 50), some (.int (iZ x1)), some (.int (iZ x2)), some (.long (iL (e))), none, some (.int (iZ fo))] [] h Q := by
  refine g_lload_n 345 dX9_wordOf_344 rfl rfl ?_
  refine g_bipush (v := iZ (122)) 347 dX9_wordOf_345 (by decide +kernel) rfl ?_
  refine g_bipush (v := iZ (101)) 349 dX9_wordOf_347 (by decide +kernel) rfl ?_
  refine g_bipush (v := iZ (114)) 351 dX9_wordOf_349 (by decide +kernel) rfl ?_
  refine g_bipush (v := iZ (111)) 353 dX9_wordOf_351 (by decide +kernel) rfl ?_
  refine g_iconst (v := iZ (0)) 354 dX9_wordOf_353 rfl rfl ?_
  refine g_callS (z := mX9_spelled) (As := [.int (iZ 122), .int (iZ 101), .int (iZ 114), .int (iZ 111), .int (iZ 0)]) 357 dX9_wordOf_354 mwX9_spelled ⟨by decide, by decide⟩ rfl wlX9_127 wtX9_spelled rfl (nle rfl) (nle rfl) rfl ?_
  refine f_spell (by decide) (by decide) (by decide) (by decide) (by decide) ?_
  refine rL ?_
  have kc1 : cdw 12 = spv (122) (101) (114) (111) (0) := by decide +kernel
  by_cases c1 : e = cdw 12
  · refine g_lcmp 358 dX9_wordOf_357 rfl ?_
    refine Go.eqI (iZ 0) (lcm_eq (c1.trans kc1)) ?_
    refine g_ifZ_ne 366 361 dX9_wordOf_358 rfl rfl (by decide) (fun q => absurd q (by decide)) (fun _ => ?_)
    refine g_bipush (v := iZ (12)) 363 dX9_wordOf_361 (by decide +kernel) rfl ?_
    refine g_goto 368 dX9_wordOf_363 rfl ?_
    refine g_istore (L1 := [some (.ref 50), some (.int (iZ x1)), some (.int (iZ x2)), some (.long (iL (e))), none, some (.int (iZ 12))]) 370 dX9_wordOf_368 (by decide) rfl rfl rfl ?_
    exact f_wo13 r1 r2 he (by rw [fow, if_pos c1]; rfl) (by decide) k
  · obtain ⟨z2, hz2, ez2⟩ := lcm_ne (a := e) (b := spv (122) (101) (114) (111) (0)) ⟨by omega, by omega⟩ (by rw [← kc1]; decide +kernel) (fun q9 => c1 (q9.trans kc1.symm))
    refine g_lcmp 358 dX9_wordOf_357 rfl ?_
    refine Go.eqI (iZ z2) ez2 ?_
    refine g_ifZ_ne 366 361 dX9_wordOf_358 rfl rfl (by omega) (fun _ => ?_) (fun q => absurd q (by omega))
    refine g_iload 368 dX9_wordOf_366 rfl rfl ?_
    refine g_istore (L1 := [some (.ref 50), some (.int (iZ x1)), some (.int (iZ x2)), some (.long (iL (e))), none, some (.int (iZ fo))]) 370 dX9_wordOf_368 (by decide) rfl rfl rfl ?_
    exact f_wo13 r1 r2 he (by rw [fow, if_neg c1]; exact hfo) rfo k
set_option maxRecDepth 100000 in
theorem f_wo11 {l : Launch} {h : MH} {Q : Option Value → MH → Prop} {e x1 x2 fo : Int} (r1 : 0 ≤ x1 ∧ x1 ≤ 200) (r2 : 0 ≤ x2 ∧ x2 ≤ 200) (he : 0 ≤ e ∧ e < 387420489) (hfo : fo = fow e 11) (rfo : rg fo) (k : Q (some (.int (iZ (if 5 < x2 - x1 then -9 else fow e 17)))) h) : Go l mX9_wordOf 318 [some (.ref 50), some (.int (iZ x1)), some (.int (iZ x2)), some (.long (iL (e))), none, some (.int (iZ fo))] [] h Q := by
  refine g_lload_n 319 dX9_wordOf_318 rfl rfl ?_
  refine g_bipush (v := iZ (106)) 321 dX9_wordOf_319 (by decide +kernel) rfl ?_
  refine g_bipush (v := iZ (117)) 323 dX9_wordOf_321 (by decide +kernel) rfl ?_
  refine g_bipush (v := iZ (109)) 325 dX9_wordOf_323 (by decide +kernel) rfl ?_
  refine g_bipush (v := iZ (112)) 327 dX9_wordOf_325 (by decide +kernel) rfl ?_
  refine g_iconst (v := iZ (0)) 328 dX9_wordOf_327 rfl rfl ?_
  refine g_callS (z := mX9_spelled) (As := [.int (iZ 106), .int (iZ 117), .int (iZ 109), .int (iZ 112), .int (iZ 0)]) 331 dX9_wordOf_328 mwX9_spelled ⟨by decide, by decide⟩ rfl wlX9_127 wtX9_spelled rfl (nle rfl) (nle rfl) rfl ?_
  refine f_spell (by decide) (by decide) (by decide) (by decide) (by decide) ?_
  refine rL ?_
  have kc1 : cdw 11 = spv (106) (117) (109) (112) (0) := by decide +kernel
  by_cases c1 : e = cdw 11
  · refine g_lcmp 332 dX9_wordOf_331 rfl ?_
    refine Go.eqI (iZ 0) (lcm_eq (c1.trans kc1)) ?_
    refine g_ifZ_ne 340 335 dX9_wordOf_332 rfl rfl (by decide) (fun q => absurd q (by decide)) (fun _ => ?_)
    refine g_bipush (v := iZ (11)) 337 dX9_wordOf_335 (by decide +kernel) rfl ?_
    refine g_goto 342 dX9_wordOf_337 rfl ?_
    refine g_istore (L1 := [some (.ref 50), some (.int (iZ x1)), some (.int (iZ x2)), some (.long (iL (e))), none, some (.int (iZ 11))]) 344 dX9_wordOf_342 (by decide) rfl rfl rfl ?_
    exact f_wo12 r1 r2 he (by rw [fow, if_pos c1]; rfl) (by decide) k
  · obtain ⟨z2, hz2, ez2⟩ := lcm_ne (a := e) (b := spv (106) (117) (109) (112) (0)) ⟨by omega, by omega⟩ (by rw [← kc1]; decide +kernel) (fun q9 => c1 (q9.trans kc1.symm))
    refine g_lcmp 332 dX9_wordOf_331 rfl ?_
    refine Go.eqI (iZ z2) ez2 ?_
    refine g_ifZ_ne 340 335 dX9_wordOf_332 rfl rfl (by omega) (fun _ => ?_) (fun q => absurd q (by omega))
    refine g_iload 342 dX9_wordOf_340 rfl rfl ?_
    refine g_istore (L1 := [some (.ref 50), some (.int (iZ x1)), some (.int (iZ x2)), some (.long (iL (e))), none, some (.int (iZ fo))]) 344 dX9_wordOf_342 (by decide) rfl rfl rfl ?_
    exact f_wo12 r1 r2 he (by rw [fow, if_neg c1]; exact hfo) rfo k
set_option maxRecDepth 100000 in
theorem f_wo10 {l : Launch} {h : MH} {Q : Option Value → MH → Prop} {e x1 x2 fo : Int} (r1 : 0 ≤ x1 ∧ x1 ≤ 200) (r2 : 0 ≤ x2 ∧ x2 ≤ 200) (he : 0 ≤ e ∧ e < 387420489) (hfo : fo = fow e 10) (rfo : rg fo) (k : Q (some (.int (iZ (if 5 < x2 - x1 then -9 else fow e 17)))) h) : Go l mX9_wordOf 294 [some (.ref 50), some (.int (iZ x1)), some (.int (iZ x2)), some (.long (iL (e))), none, some (.int (iZ fo))] [] h Q := by
  refine g_lload_n 295 dX9_wordOf_294 rfl rfl ?_
  refine g_bipush (v := iZ (116)) 297 dX9_wordOf_295 (by decide +kernel) rfl ?_
  refine g_bipush (v := iZ (111)) 299 dX9_wordOf_297 (by decide +kernel) rfl ?_
  refine g_iconst (v := iZ (0)) 300 dX9_wordOf_299 rfl rfl ?_
  refine g_iconst (v := iZ (0)) 301 dX9_wordOf_300 rfl rfl ?_
  refine g_iconst (v := iZ (0)) 302 dX9_wordOf_301 rfl rfl ?_
  refine g_callS (z := mX9_spelled) (As := [.int (iZ 116), .int (iZ 111), .int (iZ 0), .int (iZ 0), .int (iZ 0)]) 305 dX9_wordOf_302 mwX9_spelled ⟨by decide, by decide⟩ rfl wlX9_127 wtX9_spelled rfl (nle rfl) (nle rfl) rfl ?_
  refine f_spell (by decide) (by decide) (by decide) (by decide) (by decide) ?_
  refine rL ?_
  have kc1 : cdw 10 = spv (116) (111) (0) (0) (0) := by decide +kernel
  by_cases c1 : e = cdw 10
  · refine g_lcmp 306 dX9_wordOf_305 rfl ?_
    refine Go.eqI (iZ 0) (lcm_eq (c1.trans kc1)) ?_
    refine g_ifZ_ne 314 309 dX9_wordOf_306 rfl rfl (by decide) (fun q => absurd q (by decide)) (fun _ => ?_)
    refine g_bipush (v := iZ (10)) 311 dX9_wordOf_309 (by decide +kernel) rfl ?_
    refine g_goto 316 dX9_wordOf_311 rfl ?_
    refine g_istore (L1 := [some (.ref 50), some (.int (iZ x1)), some (.int (iZ x2)), some (.long (iL (e))), none, some (.int (iZ 10))]) 318 dX9_wordOf_316 (by decide) rfl rfl rfl ?_
    exact f_wo11 r1 r2 he (by rw [fow, if_pos c1]; rfl) (by decide) k
  · obtain ⟨z2, hz2, ez2⟩ := lcm_ne (a := e) (b := spv (116) (111) (0) (0) (0)) ⟨by omega, by omega⟩ (by rw [← kc1]; decide +kernel) (fun q9 => c1 (q9.trans kc1.symm))
    refine g_lcmp 306 dX9_wordOf_305 rfl ?_
    refine Go.eqI (iZ z2) ez2 ?_
    refine g_ifZ_ne 314 309 dX9_wordOf_306 rfl rfl (by omega) (fun _ => ?_) (fun q => absurd q (by omega))
    refine g_iload 316 dX9_wordOf_314 rfl rfl ?_
    refine g_istore (L1 := [some (.ref 50), some (.int (iZ x1)), some (.int (iZ x2)), some (.long (iL (e))), none, some (.int (iZ fo))]) 318 dX9_wordOf_316 (by decide) rfl rfl rfl ?_
    exact f_wo11 r1 r2 he (by rw [fow, if_neg c1]; exact hfo) rfo k
set_option maxRecDepth 100000 in
theorem f_wo9 {l : Launch} {h : MH} {Q : Option Value → MH → Prop} {e x1 x2 fo : Int} (r1 : 0 ≤ x1 ∧ x1 ≤ 200) (r2 : 0 ≤ x2 ∧ x2 ≤ 200) (he : 0 ≤ e ∧ e < 387420489) (hfo : fo = fow e 9) (rfo : rg fo) (k : Q (some (.int (iZ (if 5 < x2 - x1 then -9 else fow e 17)))) h) : Go l mX9_wordOf 269 [some (.ref 50), some (.int (iZ x1)), some (.int (iZ x2)), some (.long (iL (e))), none, some (.int (iZ fo))] [] h Q := by
  refine g_lload_n 270 dX9_wordOf_269 rfl rfl ?_
  refine g_bipush (v := iZ (112)) 272 dX9_wordOf_270 (by decide +kernel) rfl ?_
  refine g_bipush (v := iZ (117)) 274 dX9_wordOf_272 (by decide +kernel) rfl ?_
  refine g_bipush (v := iZ (116)) 276 dX9_wordOf_274 (by decide +kernel) rfl ?_
  refine g_iconst (v := iZ (0)) 277 dX9_wordOf_276 rfl rfl ?_
  refine g_iconst (v := iZ (0)) 278 dX9_wordOf_277 rfl rfl ?_
  refine g_callS (z := mX9_spelled) (As := [.int (iZ 112), .int (iZ 117), .int (iZ 116), .int (iZ 0), .int (iZ 0)]) 281 dX9_wordOf_278 mwX9_spelled ⟨by decide, by decide⟩ rfl wlX9_127 wtX9_spelled rfl (nle rfl) (nle rfl) rfl ?_
  refine f_spell (by decide) (by decide) (by decide) (by decide) (by decide) ?_
  refine rL ?_
  have kc1 : cdw 9 = spv (112) (117) (116) (0) (0) := by decide +kernel
  by_cases c1 : e = cdw 9
  · refine g_lcmp 282 dX9_wordOf_281 rfl ?_
    refine Go.eqI (iZ 0) (lcm_eq (c1.trans kc1)) ?_
    refine g_ifZ_ne 290 285 dX9_wordOf_282 rfl rfl (by decide) (fun q => absurd q (by decide)) (fun _ => ?_)
    refine g_bipush (v := iZ (9)) 287 dX9_wordOf_285 (by decide +kernel) rfl ?_
    refine g_goto 292 dX9_wordOf_287 rfl ?_
    refine g_istore (L1 := [some (.ref 50), some (.int (iZ x1)), some (.int (iZ x2)), some (.long (iL (e))), none, some (.int (iZ 9))]) 294 dX9_wordOf_292 (by decide) rfl rfl rfl ?_
    exact f_wo10 r1 r2 he (by rw [fow, if_pos c1]; rfl) (by decide) k
  · obtain ⟨z2, hz2, ez2⟩ := lcm_ne (a := e) (b := spv (112) (117) (116) (0) (0)) ⟨by omega, by omega⟩ (by rw [← kc1]; decide +kernel) (fun q9 => c1 (q9.trans kc1.symm))
    refine g_lcmp 282 dX9_wordOf_281 rfl ?_
    refine Go.eqI (iZ z2) ez2 ?_
    refine g_ifZ_ne 290 285 dX9_wordOf_282 rfl rfl (by omega) (fun _ => ?_) (fun q => absurd q (by omega))
    refine g_iload 292 dX9_wordOf_290 rfl rfl ?_
    refine g_istore (L1 := [some (.ref 50), some (.int (iZ x1)), some (.int (iZ x2)), some (.long (iL (e))), none, some (.int (iZ fo))]) 294 dX9_wordOf_292 (by decide) rfl rfl rfl ?_
    exact f_wo10 r1 r2 he (by rw [fow, if_neg c1]; exact hfo) rfo k
set_option maxRecDepth 100000 in
theorem f_wo8 {l : Launch} {h : MH} {Q : Option Value → MH → Prop} {e x1 x2 fo : Int} (r1 : 0 ≤ x1 ∧ x1 ≤ 200) (r2 : 0 ≤ x2 ∧ x2 ≤ 200) (he : 0 ≤ e ∧ e < 387420489) (hfo : fo = fow e 8) (rfo : rg fo) (k : Q (some (.int (iZ (if 5 < x2 - x1 then -9 else fow e 17)))) h) : Go l mX9_wordOf 244 [some (.ref 50), some (.int (iZ x1)), some (.int (iZ x2)), some (.long (iL (e))), none, some (.int (iZ fo))] [] h Q := by
  refine g_lload_n 245 dX9_wordOf_244 rfl rfl ?_
  refine g_bipush (v := iZ (103)) 247 dX9_wordOf_245 (by decide +kernel) rfl ?_
  refine g_bipush (v := iZ (101)) 249 dX9_wordOf_247 (by decide +kernel) rfl ?_
  refine g_bipush (v := iZ (116)) 251 dX9_wordOf_249 (by decide +kernel) rfl ?_
  refine g_iconst (v := iZ (0)) 252 dX9_wordOf_251 rfl rfl ?_
  refine g_iconst (v := iZ (0)) 253 dX9_wordOf_252 rfl rfl ?_
  refine g_callS (z := mX9_spelled) (As := [.int (iZ 103), .int (iZ 101), .int (iZ 116), .int (iZ 0), .int (iZ 0)]) 256 dX9_wordOf_253 mwX9_spelled ⟨by decide, by decide⟩ rfl wlX9_127 wtX9_spelled rfl (nle rfl) (nle rfl) rfl ?_
  refine f_spell (by decide) (by decide) (by decide) (by decide) (by decide) ?_
  refine rL ?_
  have kc1 : cdw 8 = spv (103) (101) (116) (0) (0) := by decide +kernel
  by_cases c1 : e = cdw 8
  · refine g_lcmp 257 dX9_wordOf_256 rfl ?_
    refine Go.eqI (iZ 0) (lcm_eq (c1.trans kc1)) ?_
    refine g_ifZ_ne 265 260 dX9_wordOf_257 rfl rfl (by decide) (fun q => absurd q (by decide)) (fun _ => ?_)
    refine g_bipush (v := iZ (8)) 262 dX9_wordOf_260 (by decide +kernel) rfl ?_
    refine g_goto 267 dX9_wordOf_262 rfl ?_
    refine g_istore (L1 := [some (.ref 50), some (.int (iZ x1)), some (.int (iZ x2)), some (.long (iL (e))), none, some (.int (iZ 8))]) 269 dX9_wordOf_267 (by decide) rfl rfl rfl ?_
    exact f_wo9 r1 r2 he (by rw [fow, if_pos c1]; rfl) (by decide) k
  · obtain ⟨z2, hz2, ez2⟩ := lcm_ne (a := e) (b := spv (103) (101) (116) (0) (0)) ⟨by omega, by omega⟩ (by rw [← kc1]; decide +kernel) (fun q9 => c1 (q9.trans kc1.symm))
    refine g_lcmp 257 dX9_wordOf_256 rfl ?_
    refine Go.eqI (iZ z2) ez2 ?_
    refine g_ifZ_ne 265 260 dX9_wordOf_257 rfl rfl (by omega) (fun _ => ?_) (fun q => absurd q (by omega))
    refine g_iload 267 dX9_wordOf_265 rfl rfl ?_
    refine g_istore (L1 := [some (.ref 50), some (.int (iZ x1)), some (.int (iZ x2)), some (.long (iL (e))), none, some (.int (iZ fo))]) 269 dX9_wordOf_267 (by decide) rfl rfl rfl ?_
    exact f_wo9 r1 r2 he (by rw [fow, if_neg c1]; exact hfo) rfo k
set_option maxRecDepth 100000 in
theorem f_wo7 {l : Launch} {h : MH} {Q : Option Value → MH → Prop} {e x1 x2 fo : Int} (r1 : 0 ≤ x1 ∧ x1 ≤ 200) (r2 : 0 ≤ x2 ∧ x2 ≤ 200) (he : 0 ≤ e ∧ e < 387420489) (hfo : fo = fow e 7) (rfo : rg fo) (k : Q (some (.int (iZ (if 5 < x2 - x1 then -9 else fow e 17)))) h) : Go l mX9_wordOf 219 [some (.ref 50), some (.int (iZ x1)), some (.int (iZ x2)), some (.long (iL (e))), none, some (.int (iZ fo))] [] h Q := by
  refine g_lload_n 220 dX9_wordOf_219 rfl rfl ?_
  refine g_bipush (v := iZ (115)) 222 dX9_wordOf_220 (by decide +kernel) rfl ?_
  refine g_bipush (v := iZ (117)) 224 dX9_wordOf_222 (by decide +kernel) rfl ?_
  refine g_bipush (v := iZ (98)) 226 dX9_wordOf_224 (by decide +kernel) rfl ?_
  refine g_iconst (v := iZ (0)) 227 dX9_wordOf_226 rfl rfl ?_
  refine g_iconst (v := iZ (0)) 228 dX9_wordOf_227 rfl rfl ?_
  refine g_callS (z := mX9_spelled) (As := [.int (iZ 115), .int (iZ 117), .int (iZ 98), .int (iZ 0), .int (iZ 0)]) 231 dX9_wordOf_228 mwX9_spelled ⟨by decide, by decide⟩ rfl wlX9_127 wtX9_spelled rfl (nle rfl) (nle rfl) rfl ?_
  refine f_spell (by decide) (by decide) (by decide) (by decide) (by decide) ?_
  refine rL ?_
  have kc1 : cdw 7 = spv (115) (117) (98) (0) (0) := by decide +kernel
  by_cases c1 : e = cdw 7
  · refine g_lcmp 232 dX9_wordOf_231 rfl ?_
    refine Go.eqI (iZ 0) (lcm_eq (c1.trans kc1)) ?_
    refine g_ifZ_ne 240 235 dX9_wordOf_232 rfl rfl (by decide) (fun q => absurd q (by decide)) (fun _ => ?_)
    refine g_bipush (v := iZ (7)) 237 dX9_wordOf_235 (by decide +kernel) rfl ?_
    refine g_goto 242 dX9_wordOf_237 rfl ?_
    refine g_istore (L1 := [some (.ref 50), some (.int (iZ x1)), some (.int (iZ x2)), some (.long (iL (e))), none, some (.int (iZ 7))]) 244 dX9_wordOf_242 (by decide) rfl rfl rfl ?_
    exact f_wo8 r1 r2 he (by rw [fow, if_pos c1]; rfl) (by decide) k
  · obtain ⟨z2, hz2, ez2⟩ := lcm_ne (a := e) (b := spv (115) (117) (98) (0) (0)) ⟨by omega, by omega⟩ (by rw [← kc1]; decide +kernel) (fun q9 => c1 (q9.trans kc1.symm))
    refine g_lcmp 232 dX9_wordOf_231 rfl ?_
    refine Go.eqI (iZ z2) ez2 ?_
    refine g_ifZ_ne 240 235 dX9_wordOf_232 rfl rfl (by omega) (fun _ => ?_) (fun q => absurd q (by omega))
    refine g_iload 242 dX9_wordOf_240 rfl rfl ?_
    refine g_istore (L1 := [some (.ref 50), some (.int (iZ x1)), some (.int (iZ x2)), some (.long (iL (e))), none, some (.int (iZ fo))]) 244 dX9_wordOf_242 (by decide) rfl rfl rfl ?_
    exact f_wo8 r1 r2 he (by rw [fow, if_neg c1]; exact hfo) rfo k
set_option maxRecDepth 100000 in
theorem f_wo6 {l : Launch} {h : MH} {Q : Option Value → MH → Prop} {e x1 x2 fo : Int} (r1 : 0 ≤ x1 ∧ x1 ≤ 200) (r2 : 0 ≤ x2 ∧ x2 ≤ 200) (he : 0 ≤ e ∧ e < 387420489) (hfo : fo = fow e 6) (rfo : rg fo) (k : Q (some (.int (iZ (if 5 < x2 - x1 then -9 else fow e 17)))) h) : Go l mX9_wordOf 194 [some (.ref 50), some (.int (iZ x1)), some (.int (iZ x2)), some (.long (iL (e))), none, some (.int (iZ fo))] [] h Q := by
  refine g_lload_n 195 dX9_wordOf_194 rfl rfl ?_
  refine g_bipush (v := iZ (97)) 197 dX9_wordOf_195 (by decide +kernel) rfl ?_
  refine g_bipush (v := iZ (100)) 199 dX9_wordOf_197 (by decide +kernel) rfl ?_
  refine g_bipush (v := iZ (100)) 201 dX9_wordOf_199 (by decide +kernel) rfl ?_
  refine g_iconst (v := iZ (0)) 202 dX9_wordOf_201 rfl rfl ?_
  refine g_iconst (v := iZ (0)) 203 dX9_wordOf_202 rfl rfl ?_
  refine g_callS (z := mX9_spelled) (As := [.int (iZ 97), .int (iZ 100), .int (iZ 100), .int (iZ 0), .int (iZ 0)]) 206 dX9_wordOf_203 mwX9_spelled ⟨by decide, by decide⟩ rfl wlX9_127 wtX9_spelled rfl (nle rfl) (nle rfl) rfl ?_
  refine f_spell (by decide) (by decide) (by decide) (by decide) (by decide) ?_
  refine rL ?_
  have kc1 : cdw 6 = spv (97) (100) (100) (0) (0) := by decide +kernel
  by_cases c1 : e = cdw 6
  · refine g_lcmp 207 dX9_wordOf_206 rfl ?_
    refine Go.eqI (iZ 0) (lcm_eq (c1.trans kc1)) ?_
    refine g_ifZ_ne 215 210 dX9_wordOf_207 rfl rfl (by decide) (fun q => absurd q (by decide)) (fun _ => ?_)
    refine g_bipush (v := iZ (6)) 212 dX9_wordOf_210 (by decide +kernel) rfl ?_
    refine g_goto 217 dX9_wordOf_212 rfl ?_
    refine g_istore (L1 := [some (.ref 50), some (.int (iZ x1)), some (.int (iZ x2)), some (.long (iL (e))), none, some (.int (iZ 6))]) 219 dX9_wordOf_217 (by decide) rfl rfl rfl ?_
    exact f_wo7 r1 r2 he (by rw [fow, if_pos c1]; rfl) (by decide) k
  · obtain ⟨z2, hz2, ez2⟩ := lcm_ne (a := e) (b := spv (97) (100) (100) (0) (0)) ⟨by omega, by omega⟩ (by rw [← kc1]; decide +kernel) (fun q9 => c1 (q9.trans kc1.symm))
    refine g_lcmp 207 dX9_wordOf_206 rfl ?_
    refine Go.eqI (iZ z2) ez2 ?_
    refine g_ifZ_ne 215 210 dX9_wordOf_207 rfl rfl (by omega) (fun _ => ?_) (fun q => absurd q (by omega))
    refine g_iload 217 dX9_wordOf_215 rfl rfl ?_
    refine g_istore (L1 := [some (.ref 50), some (.int (iZ x1)), some (.int (iZ x2)), some (.long (iL (e))), none, some (.int (iZ fo))]) 219 dX9_wordOf_217 (by decide) rfl rfl rfl ?_
    exact f_wo7 r1 r2 he (by rw [fow, if_neg c1]; exact hfo) rfo k
set_option maxRecDepth 100000 in
theorem f_wo5 {l : Launch} {h : MH} {Q : Option Value → MH → Prop} {e x1 x2 fo : Int} (r1 : 0 ≤ x1 ∧ x1 ≤ 200) (r2 : 0 ≤ x2 ∧ x2 ≤ 200) (he : 0 ≤ e ∧ e < 387420489) (hfo : fo = fow e 5) (rfo : rg fo) (k : Q (some (.int (iZ (if 5 < x2 - x1 then -9 else fow e 17)))) h) : Go l mX9_wordOf 168 [some (.ref 50), some (.int (iZ x1)), some (.int (iZ x2)), some (.long (iL (e))), none, some (.int (iZ fo))] [] h Q := by
  refine g_lload_n 169 dX9_wordOf_168 rfl rfl ?_
  refine g_bipush (v := iZ (115)) 171 dX9_wordOf_169 (by decide +kernel) rfl ?_
  refine g_bipush (v := iZ (116)) 173 dX9_wordOf_171 (by decide +kernel) rfl ?_
  refine g_bipush (v := iZ (111)) 175 dX9_wordOf_173 (by decide +kernel) rfl ?_
  refine g_bipush (v := iZ (114)) 177 dX9_wordOf_175 (by decide +kernel) rfl ?_
  refine g_bipush (v := iZ (101)) 179 dX9_wordOf_177 (by decide +kernel) rfl ?_
  refine g_callS (z := mX9_spelled) (As := [.int (iZ 115), .int (iZ 116), .int (iZ 111), .int (iZ 114), .int (iZ 101)]) 182 dX9_wordOf_179 mwX9_spelled ⟨by decide, by decide⟩ rfl wlX9_127 wtX9_spelled rfl (nle rfl) (nle rfl) rfl ?_
  refine f_spell (by decide) (by decide) (by decide) (by decide) (by decide) ?_
  refine rL ?_
  have kc1 : cdw 5 = spv (115) (116) (111) (114) (101) := by decide +kernel
  by_cases c1 : e = cdw 5
  · refine g_lcmp 183 dX9_wordOf_182 rfl ?_
    refine Go.eqI (iZ 0) (lcm_eq (c1.trans kc1)) ?_
    refine g_ifZ_ne 190 186 dX9_wordOf_183 rfl rfl (by decide) (fun q => absurd q (by decide)) (fun _ => ?_)
    refine g_iconst (v := iZ (5)) 187 dX9_wordOf_186 rfl rfl ?_
    refine g_goto 192 dX9_wordOf_187 rfl ?_
    refine g_istore (L1 := [some (.ref 50), some (.int (iZ x1)), some (.int (iZ x2)), some (.long (iL (e))), none, some (.int (iZ 5))]) 194 dX9_wordOf_192 (by decide) rfl rfl rfl ?_
    exact f_wo6 r1 r2 he (by rw [fow, if_pos c1]; rfl) (by decide) k
  · obtain ⟨z2, hz2, ez2⟩ := lcm_ne (a := e) (b := spv (115) (116) (111) (114) (101)) ⟨by omega, by omega⟩ (by rw [← kc1]; decide +kernel) (fun q9 => c1 (q9.trans kc1.symm))
    refine g_lcmp 183 dX9_wordOf_182 rfl ?_
    refine Go.eqI (iZ z2) ez2 ?_
    refine g_ifZ_ne 190 186 dX9_wordOf_183 rfl rfl (by omega) (fun _ => ?_) (fun q => absurd q (by omega))
    refine g_iload 192 dX9_wordOf_190 rfl rfl ?_
    refine g_istore (L1 := [some (.ref 50), some (.int (iZ x1)), some (.int (iZ x2)), some (.long (iL (e))), none, some (.int (iZ fo))]) 194 dX9_wordOf_192 (by decide) rfl rfl rfl ?_
    exact f_wo6 r1 r2 he (by rw [fow, if_neg c1]; exact hfo) rfo k
set_option maxRecDepth 100000 in
theorem f_wo4 {l : Launch} {h : MH} {Q : Option Value → MH → Prop} {e x1 x2 fo : Int} (r1 : 0 ≤ x1 ∧ x1 ≤ 200) (r2 : 0 ≤ x2 ∧ x2 ≤ 200) (he : 0 ≤ e ∧ e < 387420489) (hfo : fo = fow e 4) (rfo : rg fo) (k : Q (some (.int (iZ (if 5 < x2 - x1 then -9 else fow e 17)))) h) : Go l mX9_wordOf 143 [some (.ref 50), some (.int (iZ x1)), some (.int (iZ x2)), some (.long (iL (e))), none, some (.int (iZ fo))] [] h Q := by
  refine g_lload_n 144 dX9_wordOf_143 rfl rfl ?_
  refine g_bipush (v := iZ (108)) 146 dX9_wordOf_144 (by decide +kernel) rfl ?_
  refine g_bipush (v := iZ (111)) 148 dX9_wordOf_146 (by decide +kernel) rfl ?_
  refine g_bipush (v := iZ (97)) 150 dX9_wordOf_148 (by decide +kernel) rfl ?_
  refine g_bipush (v := iZ (100)) 152 dX9_wordOf_150 (by decide +kernel) rfl ?_
  refine g_iconst (v := iZ (0)) 153 dX9_wordOf_152 rfl rfl ?_
  refine g_callS (z := mX9_spelled) (As := [.int (iZ 108), .int (iZ 111), .int (iZ 97), .int (iZ 100), .int (iZ 0)]) 156 dX9_wordOf_153 mwX9_spelled ⟨by decide, by decide⟩ rfl wlX9_127 wtX9_spelled rfl (nle rfl) (nle rfl) rfl ?_
  refine f_spell (by decide) (by decide) (by decide) (by decide) (by decide) ?_
  refine rL ?_
  have kc1 : cdw 4 = spv (108) (111) (97) (100) (0) := by decide +kernel
  by_cases c1 : e = cdw 4
  · refine g_lcmp 157 dX9_wordOf_156 rfl ?_
    refine Go.eqI (iZ 0) (lcm_eq (c1.trans kc1)) ?_
    refine g_ifZ_ne 164 160 dX9_wordOf_157 rfl rfl (by decide) (fun q => absurd q (by decide)) (fun _ => ?_)
    refine g_iconst (v := iZ (4)) 161 dX9_wordOf_160 rfl rfl ?_
    refine g_goto 166 dX9_wordOf_161 rfl ?_
    refine g_istore (L1 := [some (.ref 50), some (.int (iZ x1)), some (.int (iZ x2)), some (.long (iL (e))), none, some (.int (iZ 4))]) 168 dX9_wordOf_166 (by decide) rfl rfl rfl ?_
    exact f_wo5 r1 r2 he (by rw [fow, if_pos c1]; rfl) (by decide) k
  · obtain ⟨z2, hz2, ez2⟩ := lcm_ne (a := e) (b := spv (108) (111) (97) (100) (0)) ⟨by omega, by omega⟩ (by rw [← kc1]; decide +kernel) (fun q9 => c1 (q9.trans kc1.symm))
    refine g_lcmp 157 dX9_wordOf_156 rfl ?_
    refine Go.eqI (iZ z2) ez2 ?_
    refine g_ifZ_ne 164 160 dX9_wordOf_157 rfl rfl (by omega) (fun _ => ?_) (fun q => absurd q (by omega))
    refine g_iload 166 dX9_wordOf_164 rfl rfl ?_
    refine g_istore (L1 := [some (.ref 50), some (.int (iZ x1)), some (.int (iZ x2)), some (.long (iL (e))), none, some (.int (iZ fo))]) 168 dX9_wordOf_166 (by decide) rfl rfl rfl ?_
    exact f_wo5 r1 r2 he (by rw [fow, if_neg c1]; exact hfo) rfo k
set_option maxRecDepth 100000 in
theorem f_wo3 {l : Launch} {h : MH} {Q : Option Value → MH → Prop} {e x1 x2 fo : Int} (r1 : 0 ≤ x1 ∧ x1 ≤ 200) (r2 : 0 ≤ x2 ∧ x2 ≤ 200) (he : 0 ≤ e ∧ e < 387420489) (hfo : fo = fow e 3) (rfo : rg fo) (k : Q (some (.int (iZ (if 5 < x2 - x1 then -9 else fow e 17)))) h) : Go l mX9_wordOf 119 [some (.ref 50), some (.int (iZ x1)), some (.int (iZ x2)), some (.long (iL (e))), none, some (.int (iZ fo))] [] h Q := by
  refine g_lload_n 120 dX9_wordOf_119 rfl rfl ?_
  refine g_bipush (v := iZ (115)) 122 dX9_wordOf_120 (by decide +kernel) rfl ?_
  refine g_bipush (v := iZ (101)) 124 dX9_wordOf_122 (by decide +kernel) rfl ?_
  refine g_bipush (v := iZ (116)) 126 dX9_wordOf_124 (by decide +kernel) rfl ?_
  refine g_iconst (v := iZ (0)) 127 dX9_wordOf_126 rfl rfl ?_
  refine g_iconst (v := iZ (0)) 128 dX9_wordOf_127 rfl rfl ?_
  refine g_callS (z := mX9_spelled) (As := [.int (iZ 115), .int (iZ 101), .int (iZ 116), .int (iZ 0), .int (iZ 0)]) 131 dX9_wordOf_128 mwX9_spelled ⟨by decide, by decide⟩ rfl wlX9_127 wtX9_spelled rfl (nle rfl) (nle rfl) rfl ?_
  refine f_spell (by decide) (by decide) (by decide) (by decide) (by decide) ?_
  refine rL ?_
  have kc1 : cdw 3 = spv (115) (101) (116) (0) (0) := by decide +kernel
  by_cases c1 : e = cdw 3
  · refine g_lcmp 132 dX9_wordOf_131 rfl ?_
    refine Go.eqI (iZ 0) (lcm_eq (c1.trans kc1)) ?_
    refine g_ifZ_ne 139 135 dX9_wordOf_132 rfl rfl (by decide) (fun q => absurd q (by decide)) (fun _ => ?_)
    refine g_iconst (v := iZ (3)) 136 dX9_wordOf_135 rfl rfl ?_
    refine g_goto 141 dX9_wordOf_136 rfl ?_
    refine g_istore (L1 := [some (.ref 50), some (.int (iZ x1)), some (.int (iZ x2)), some (.long (iL (e))), none, some (.int (iZ 3))]) 143 dX9_wordOf_141 (by decide) rfl rfl rfl ?_
    exact f_wo4 r1 r2 he (by rw [fow, if_pos c1]; rfl) (by decide) k
  · obtain ⟨z2, hz2, ez2⟩ := lcm_ne (a := e) (b := spv (115) (101) (116) (0) (0)) ⟨by omega, by omega⟩ (by rw [← kc1]; decide +kernel) (fun q9 => c1 (q9.trans kc1.symm))
    refine g_lcmp 132 dX9_wordOf_131 rfl ?_
    refine Go.eqI (iZ z2) ez2 ?_
    refine g_ifZ_ne 139 135 dX9_wordOf_132 rfl rfl (by omega) (fun _ => ?_) (fun q => absurd q (by omega))
    refine g_iload 141 dX9_wordOf_139 rfl rfl ?_
    refine g_istore (L1 := [some (.ref 50), some (.int (iZ x1)), some (.int (iZ x2)), some (.long (iL (e))), none, some (.int (iZ fo))]) 143 dX9_wordOf_141 (by decide) rfl rfl rfl ?_
    exact f_wo4 r1 r2 he (by rw [fow, if_neg c1]; exact hfo) rfo k
set_option maxRecDepth 100000 in
theorem f_wo2 {l : Launch} {h : MH} {Q : Option Value → MH → Prop} {e x1 x2 fo : Int} (r1 : 0 ≤ x1 ∧ x1 ≤ 200) (r2 : 0 ≤ x2 ∧ x2 ≤ 200) (he : 0 ≤ e ∧ e < 387420489) (hfo : fo = fow e 2) (rfo : rg fo) (k : Q (some (.int (iZ (if 5 < x2 - x1 then -9 else fow e 17)))) h) : Go l mX9_wordOf 95 [some (.ref 50), some (.int (iZ x1)), some (.int (iZ x2)), some (.long (iL (e))), none, some (.int (iZ fo))] [] h Q := by
  refine g_lload_n 96 dX9_wordOf_95 rfl rfl ?_
  refine g_bipush (v := iZ (111)) 98 dX9_wordOf_96 (by decide +kernel) rfl ?_
  refine g_bipush (v := iZ (117)) 100 dX9_wordOf_98 (by decide +kernel) rfl ?_
  refine g_bipush (v := iZ (116)) 102 dX9_wordOf_100 (by decide +kernel) rfl ?_
  refine g_iconst (v := iZ (0)) 103 dX9_wordOf_102 rfl rfl ?_
  refine g_iconst (v := iZ (0)) 104 dX9_wordOf_103 rfl rfl ?_
  refine g_callS (z := mX9_spelled) (As := [.int (iZ 111), .int (iZ 117), .int (iZ 116), .int (iZ 0), .int (iZ 0)]) 107 dX9_wordOf_104 mwX9_spelled ⟨by decide, by decide⟩ rfl wlX9_127 wtX9_spelled rfl (nle rfl) (nle rfl) rfl ?_
  refine f_spell (by decide) (by decide) (by decide) (by decide) (by decide) ?_
  refine rL ?_
  have kc1 : cdw 2 = spv (111) (117) (116) (0) (0) := by decide +kernel
  by_cases c1 : e = cdw 2
  · refine g_lcmp 108 dX9_wordOf_107 rfl ?_
    refine Go.eqI (iZ 0) (lcm_eq (c1.trans kc1)) ?_
    refine g_ifZ_ne 115 111 dX9_wordOf_108 rfl rfl (by decide) (fun q => absurd q (by decide)) (fun _ => ?_)
    refine g_iconst (v := iZ (2)) 112 dX9_wordOf_111 rfl rfl ?_
    refine g_goto 117 dX9_wordOf_112 rfl ?_
    refine g_istore (L1 := [some (.ref 50), some (.int (iZ x1)), some (.int (iZ x2)), some (.long (iL (e))), none, some (.int (iZ 2))]) 119 dX9_wordOf_117 (by decide) rfl rfl rfl ?_
    exact f_wo3 r1 r2 he (by rw [fow, if_pos c1]; rfl) (by decide) k
  · obtain ⟨z2, hz2, ez2⟩ := lcm_ne (a := e) (b := spv (111) (117) (116) (0) (0)) ⟨by omega, by omega⟩ (by rw [← kc1]; decide +kernel) (fun q9 => c1 (q9.trans kc1.symm))
    refine g_lcmp 108 dX9_wordOf_107 rfl ?_
    refine Go.eqI (iZ z2) ez2 ?_
    refine g_ifZ_ne 115 111 dX9_wordOf_108 rfl rfl (by omega) (fun _ => ?_) (fun q => absurd q (by omega))
    refine g_iload 117 dX9_wordOf_115 rfl rfl ?_
    refine g_istore (L1 := [some (.ref 50), some (.int (iZ x1)), some (.int (iZ x2)), some (.long (iL (e))), none, some (.int (iZ fo))]) 119 dX9_wordOf_117 (by decide) rfl rfl rfl ?_
    exact f_wo3 r1 r2 he (by rw [fow, if_neg c1]; exact hfo) rfo k
set_option maxRecDepth 100000 in
theorem f_wo1 {l : Launch} {h : MH} {Q : Option Value → MH → Prop} {e x1 x2 fo : Int} (r1 : 0 ≤ x1 ∧ x1 ≤ 200) (r2 : 0 ≤ x2 ∧ x2 ≤ 200) (he : 0 ≤ e ∧ e < 387420489) (hfo : fo = fow e 1) (rfo : rg fo) (k : Q (some (.int (iZ (if 5 < x2 - x1 then -9 else fow e 17)))) h) : Go l mX9_wordOf 72 [some (.ref 50), some (.int (iZ x1)), some (.int (iZ x2)), some (.long (iL (e))), none, some (.int (iZ fo))] [] h Q := by
  refine g_lload_n 73 dX9_wordOf_72 rfl rfl ?_
  refine g_bipush (v := iZ (105)) 75 dX9_wordOf_73 (by decide +kernel) rfl ?_
  refine g_bipush (v := iZ (110)) 77 dX9_wordOf_75 (by decide +kernel) rfl ?_
  refine g_iconst (v := iZ (0)) 78 dX9_wordOf_77 rfl rfl ?_
  refine g_iconst (v := iZ (0)) 79 dX9_wordOf_78 rfl rfl ?_
  refine g_iconst (v := iZ (0)) 80 dX9_wordOf_79 rfl rfl ?_
  refine g_callS (z := mX9_spelled) (As := [.int (iZ 105), .int (iZ 110), .int (iZ 0), .int (iZ 0), .int (iZ 0)]) 83 dX9_wordOf_80 mwX9_spelled ⟨by decide, by decide⟩ rfl wlX9_127 wtX9_spelled rfl (nle rfl) (nle rfl) rfl ?_
  refine f_spell (by decide) (by decide) (by decide) (by decide) (by decide) ?_
  refine rL ?_
  have kc1 : cdw 1 = spv (105) (110) (0) (0) (0) := by decide +kernel
  by_cases c1 : e = cdw 1
  · refine g_lcmp 84 dX9_wordOf_83 rfl ?_
    refine Go.eqI (iZ 0) (lcm_eq (c1.trans kc1)) ?_
    refine g_ifZ_ne 91 87 dX9_wordOf_84 rfl rfl (by decide) (fun q => absurd q (by decide)) (fun _ => ?_)
    refine g_iconst (v := iZ (1)) 88 dX9_wordOf_87 rfl rfl ?_
    refine g_goto 93 dX9_wordOf_88 rfl ?_
    refine g_istore (L1 := [some (.ref 50), some (.int (iZ x1)), some (.int (iZ x2)), some (.long (iL (e))), none, some (.int (iZ 1))]) 95 dX9_wordOf_93 (by decide) rfl rfl rfl ?_
    exact f_wo2 r1 r2 he (by rw [fow, if_pos c1]; rfl) (by decide) k
  · obtain ⟨z2, hz2, ez2⟩ := lcm_ne (a := e) (b := spv (105) (110) (0) (0) (0)) ⟨by omega, by omega⟩ (by rw [← kc1]; decide +kernel) (fun q9 => c1 (q9.trans kc1.symm))
    refine g_lcmp 84 dX9_wordOf_83 rfl ?_
    refine Go.eqI (iZ z2) ez2 ?_
    refine g_ifZ_ne 91 87 dX9_wordOf_84 rfl rfl (by omega) (fun _ => ?_) (fun q => absurd q (by omega))
    refine g_iload 93 dX9_wordOf_91 rfl rfl ?_
    refine g_istore (L1 := [some (.ref 50), some (.int (iZ x1)), some (.int (iZ x2)), some (.long (iL (e))), none, some (.int (iZ fo))]) 95 dX9_wordOf_93 (by decide) rfl rfl rfl ?_
    exact f_wo2 r1 r2 he (by rw [fow, if_neg c1]; exact hfo) rfo k
set_option maxRecDepth 100000 in
theorem f_wo0 {l : Launch} {h : MH} {Q : Option Value → MH → Prop} {e x1 x2 fo : Int} (r1 : 0 ≤ x1 ∧ x1 ≤ 200) (r2 : 0 ≤ x2 ∧ x2 ≤ 200) (he : 0 ≤ e ∧ e < 387420489) (hfo : fo = fow e 0) (rfo : rg fo) (k : Q (some (.int (iZ (if 5 < x2 - x1 then -9 else fow e 17)))) h) : Go l mX9_wordOf 47 [some (.ref 50), some (.int (iZ x1)), some (.int (iZ x2)), some (.long (iL (e))), none, some (.int (iZ fo))] [] h Q := by
  refine g_lload_n 48 dX9_wordOf_47 rfl rfl ?_
  refine g_bipush (v := iZ (115)) 50 dX9_wordOf_48 (by decide +kernel) rfl ?_
  refine g_bipush (v := iZ (116)) 52 dX9_wordOf_50 (by decide +kernel) rfl ?_
  refine g_bipush (v := iZ (111)) 54 dX9_wordOf_52 (by decide +kernel) rfl ?_
  refine g_bipush (v := iZ (112)) 56 dX9_wordOf_54 (by decide +kernel) rfl ?_
  refine g_iconst (v := iZ (0)) 57 dX9_wordOf_56 rfl rfl ?_
  refine g_callS (z := mX9_spelled) (As := [.int (iZ 115), .int (iZ 116), .int (iZ 111), .int (iZ 112), .int (iZ 0)]) 60 dX9_wordOf_57 mwX9_spelled ⟨by decide, by decide⟩ rfl wlX9_127 wtX9_spelled rfl (nle rfl) (nle rfl) rfl ?_
  refine f_spell (by decide) (by decide) (by decide) (by decide) (by decide) ?_
  refine rL ?_
  have kc1 : cdw 0 = spv (115) (116) (111) (112) (0) := by decide +kernel
  by_cases c1 : e = cdw 0
  · refine g_lcmp 61 dX9_wordOf_60 rfl ?_
    refine Go.eqI (iZ 0) (lcm_eq (c1.trans kc1)) ?_
    refine g_ifZ_ne 68 64 dX9_wordOf_61 rfl rfl (by decide) (fun q => absurd q (by decide)) (fun _ => ?_)
    refine g_iconst (v := iZ (0)) 65 dX9_wordOf_64 rfl rfl ?_
    refine g_goto 70 dX9_wordOf_65 rfl ?_
    refine g_istore (L1 := [some (.ref 50), some (.int (iZ x1)), some (.int (iZ x2)), some (.long (iL (e))), none, some (.int (iZ 0))]) 72 dX9_wordOf_70 (by decide) rfl rfl rfl ?_
    exact f_wo1 r1 r2 he (by rw [fow, if_pos c1]; rfl) (by decide) k
  · obtain ⟨z2, hz2, ez2⟩ := lcm_ne (a := e) (b := spv (115) (116) (111) (112) (0)) ⟨by omega, by omega⟩ (by rw [← kc1]; decide +kernel) (fun q9 => c1 (q9.trans kc1.symm))
    refine g_lcmp 61 dX9_wordOf_60 rfl ?_
    refine Go.eqI (iZ z2) ez2 ?_
    refine g_ifZ_ne 68 64 dX9_wordOf_61 rfl rfl (by omega) (fun _ => ?_) (fun q => absurd q (by omega))
    refine g_iload 70 dX9_wordOf_68 rfl rfl ?_
    refine g_istore (L1 := [some (.ref 50), some (.int (iZ x1)), some (.int (iZ x2)), some (.long (iL (e))), none, some (.int (iZ fo))]) 72 dX9_wordOf_70 (by decide) rfl rfl rfl ?_
    exact f_wo1 r1 r2 he (by rw [fow, if_neg c1]; exact hfo) rfo k

set_option maxRecDepth 100000 in
theorem f_due1 {l : Launch} {h : MH} {Q : Option Value → MH → Prop} {tr : Int64} {mn kt bs ee pa st so va ed cm a x p dn tk ie en : Int} {tx : Nat → Int32} (F0 : h[50]? = some (.inr (8, [.long (tr), .ref 51, .int (iZ mn), .ref 52, .ref 53, .int (iZ kt), .ref 54, .ref 55, .ref 56, .ref 57, .ref 58, .ref 59, .ref 60, .int (iZ bs), .int (iZ ee), .int (iZ pa), .int (iZ (-9)), .int (iZ st), .int (iZ so), .int (iZ va), .int (iZ ed), .ref 61, .ref 62, .ref 63, .ref 64, .int (iZ cm), .int (iZ a), .int (iZ x), .int (iZ p), .int (iZ dn), .int (iZ tk), .int (iZ ie), .ref 65, .ref 66, .ref 67, .int (iZ en), .ref 68, .ref 69, .ref 70]))) (F1 : h[52]? = some (.inl (1, 1600, .inl tx))) (rmn : (0 ≤ mn ∧ mn ≤ 200)) (rkt : (0 ≤ kt ∧ kt ≤ 12)) (rbs : (0 ≤ bs ∧ bs ≤ 1400)) (ree : (0 ≤ ee ∧ ee ≤ 200)) (rpa : (0 ≤ pa ∧ pa ≤ 200)) (rst : (0 ≤ st ∧ st ≤ 200)) (rso : (0 ≤ so ∧ so ≤ 5)) (rva : (-100 ≤ va ∧ va ≤ 3000)) (red : (0 ≤ ed ∧ ed ≤ 200)) (rcm : (0 ≤ cm ∧ cm ≤ 256)) (ra : (0 ≤ a ∧ a ≤ 255)) (rx : (0 ≤ x ∧ x ≤ 255)) (rp : (0 ≤ p ∧ p ≤ 255)) (rdn : (0 ≤ dn ∧ dn ≤ 5000)) (rtk : (0 ≤ tk ∧ tk ≤ 200)) (rie : (0 ≤ ie ∧ ie ≤ 1)) (ren : (0 ≤ en ∧ en ≤ 12)) (hpe : pa ≤ ee) (hB : okB tx) (k : ∀ (h1 : MH) (pa_1 st_1 so_1 va_1 ed_1 : Int) (r : Int), (0 ≤ pa_1 ∧ pa_1 ≤ 200) → (0 ≤ st_1 ∧ st_1 ≤ 200) → (0 ≤ so_1 ∧ so_1 ≤ 5) → (-100 ≤ va_1 ∧ va_1 ≤ 3000) → (0 ≤ ed_1 ∧ ed_1 ≤ 200) → (r = va) → (nxF ee (fun j => hb tx (bs + j)) pa st_1 so_1 va_1 pa_1 ed_1) → Sm [50] h h1 → h1[50]? = some (.inr (8, [.long (tr), .ref 51, .int (iZ mn), .ref 52, .ref 53, .int (iZ kt), .ref 54, .ref 55, .ref 56, .ref 57, .ref 58, .ref 59, .ref 60, .int (iZ bs), .int (iZ ee), .int (iZ pa_1), .int (iZ (-9)), .int (iZ st_1), .int (iZ so_1), .int (iZ va_1), .int (iZ ed_1), .ref 61, .ref 62, .ref 63, .ref 64, .int (iZ cm), .int (iZ a), .int (iZ x), .int (iZ p), .int (iZ dn), .int (iZ tk), .int (iZ ie), .ref 65, .ref 66, .ref 67, .int (iZ en), .ref 68, .ref 69, .ref 70])) → Q (some (.int (iZ r))) h1) : Go l mX9_due 0 [some (.ref 50), some (.int (iZ 1)), none] [] h Q := by
  refine g_aload_n 1 dX9_due_0 rfl rfl ?_
  refine g_get 4 dX9_due_1 faX9_137_X9 F0 rfl rfl ?_
  refine g_istore_n (L1 := [some (.ref 50), some (.int (iZ 1)), some (.int (iZ va))]) 5 dX9_due_4 (by decide) rfl rfl rfl ?_
  refine g_aload_n 6 dX9_due_5 rfl rfl ?_
  refine g_get 9 dX9_due_6 faX9_97_X9 F0 rfl rfl ?_
  refine g_bipush (v := iZ (-9)) 11 dX9_due_9 (by decide +kernel) rfl ?_
  refine g_icZ_ne 33 14 dX9_due_11 rfl rfl (by decide) (by decide) (fun q => absurd q (by decide)) (fun _ => ?_)
  refine g_iload_n 15 dX9_due_14 rfl rfl ?_
  refine g_ifZ_eq 25 18 dX9_due_15 rfl rfl (by decide) (fun q => absurd q (by decide)) (fun _ => ?_)
  refine g_aload_n 19 dX9_due_18 rfl rfl ?_
  refine g_callV (z := mX9_next) (As := []) 22 dX9_due_19 mwX9_next ⟨by decide, by decide⟩ rfl wlX9_147 wiX9_next wsX9_next F0 rfl rfl rfl (nle rfl) (nle rfl) rfl ?_
  refine f_next  F0 F1 (by omega) (by omega) (by omega) (by omega) (by omega) (by omega) (by omega) (by omega) (by omega) (by omega) (by omega) (by omega) (by omega) (by omega) (by omega) (by omega) (by omega) (by omega) (by omega) hB (fun h1 z3 z4 z5 z6 z7 rz3 rz4 rz5 rz6 rz7 p8 s2 f9 => ?_)
  refine rV ?_
  refine g_goto 33 dX9_due_22 rfl ?_
  refine g_iload_n 34 dX9_due_33 rfl rfl ?_
  refine g_iret rfl dX9_due_34 ?_
  exact k _ (z3) (z4) (z5) (z6) (z7) (va) (by omega) (by omega) (by omega) (by omega) (by omega) (by omega) p8 ((Sm.refl [50] _).tr s2 (fun _ q => q) (by simp)) f9
set_option maxRecDepth 100000 in
theorem f_rn3_l {l : Launch} {Q : Option Value → MH → Prop} {tr : Int64} {mn kt bs ee pa fu st so va ed cm a x p dn tk ie en : Int} {lf sz pl : Nat → Int} {RS : Int × (Nat → Int)} {LL : Nat → Int} (olf : oki (0) (300) lf) (osz : oki (0) (256) sz) (opl : oki (-9) (255) pl) (rmn : (0 ≤ mn ∧ mn ≤ 200)) (rkt : (0 ≤ kt ∧ kt ≤ 12)) (rbs : (0 ≤ bs ∧ bs ≤ 1400)) (ree : (0 ≤ ee ∧ ee ≤ 200)) (rpa : (0 ≤ pa ∧ pa ≤ 200)) (rfu : (-9 ≤ fu ∧ fu ≤ 200)) (rst : (0 ≤ st ∧ st ≤ 200)) (rso : (0 ≤ so ∧ so ≤ 5)) (rva : (-100 ≤ va ∧ va ≤ 3000)) (red : (0 ≤ ed ∧ ed ≤ 200)) (rcm : (0 ≤ cm ∧ cm ≤ 256)) (ra : (0 ≤ a ∧ a ≤ 255)) (rx : (0 ≤ x ∧ x ≤ 255)) (rp : (0 ≤ p ∧ p ≤ 255)) (rdn : (0 ≤ dn ∧ dn ≤ 5000)) (rtk : (0 ≤ tk ∧ tk ≤ 200)) (rie : (0 ≤ ie ∧ ie ≤ 1)) (ren : (0 ≤ en ∧ en ≤ 12)) : ∀ (m0 : Nat) (h : MH) (bf : Nat → Int) (j : Int), (sz 12 - j).toNat = m0 → okr bf → h[50]? = some (.inr (8, [.long (tr), .ref 51, .int (iZ mn), .ref 52, .ref 53, .int (iZ kt), .ref 54, .ref 55, .ref 56, .ref 57, .ref 58, .ref 59, .ref 60, .int (iZ bs), .int (iZ ee), .int (iZ pa), .int (iZ fu), .int (iZ st), .int (iZ so), .int (iZ va), .int (iZ ed), .ref 61, .ref 62, .ref 63, .ref 64, .int (iZ cm), .int (iZ a), .int (iZ x), .int (iZ p), .int (iZ dn), .int (iZ tk), .int (iZ ie), .ref 65, .ref 66, .ref 67, .int (iZ en), .ref 68, .ref 69, .ref 70])) → h[54]? = some (.inl (0, 4096, .inl (zA bf))) → h[55]? = some (.inl (0, 4096, .inl (zA lf))) → h[56]? = some (.inl (0, 16, .inl (zA sz))) → h[61]? = some (.inl (0, 26, .inl (zA pl))) → 0 ≤ j ∧ j ≤ sz 12 ∧ sz 12 ≤ 200 → okV bf j → okW bf (sz 12) → okn pl → rpI RS LL j (sz 12) (sl12 bf) (sl12 lf) pl → (∀ (h1 : MH) (bf_1 : Nat → Int) (r : Int), okr bf_1 → (r = -9 ∨ (0 ≤ r ∧ r ≤ 300)) → (∀ q : Nat, q < 3072 → bf_1 q = bf q) → (r = -9 → ok12 bf_1 sz) → (RS.1 = r) → (r = -9 → agr (sz 12) (sl12 bf_1) RS.2) → Sm [54] h h1 → h1[54]? = some (.inl (0, 4096, .inl (zA bf_1))) → Q (some (.int (iZ r))) h1) → Go l mX9_readNames 328 [some (.ref 50), none, some (.int (iZ 12)), some (.int (iZ j)), none, none, none] [] h Q := by
  intro m0
  induction m0 using Nat.strongRecOn with
  | ind m0 ih =>
    intro h bf j hmz obf F0 F1 F2 F3 F4 hj hV hW hok hP k
    refine g_iload_n 329 dX9_readNames_328 rfl rfl ?_
    refine g_aload_n 330 dX9_readNames_329 rfl rfl ?_
    refine g_get 333 dX9_readNames_330 faX9_26_X9 F0 rfl rfl ?_
    refine g_iload_n 334 dX9_readNames_333 rfl rfl ?_
    have b1 := osz (12)
    refine g_ialdZ (v := iZ (sz 12)) 335 dX9_readNames_334 F3 (by decide) (by decide) (by decide) rfl rfl ?_
    refine g_icZ_ge 411 338 dX9_readNames_335 rfl rfl (by omega) (by omega) (fun c2 => ?_) (fun c2 => ?_)
    · refine g_bipush (v := iZ (-9)) 413 dX9_readNames_411 (by decide +kernel) rfl ?_
      refine g_iret rfl dX9_readNames_413 ?_
      exact k _ (bf) (-9) obf (by omega) (fun _ _ => rfl) (fun _ => okV_12 (fun q h0 h1 => hV q h0 (by omega))) (rp_end hP (by omega) (by omega)).1 (fun _ => (rp_end hP (by omega) (by omega)).2) (Sm.refl [54] _) F1
    · refine g_aload_n 339 dX9_readNames_338 rfl rfl ?_
      refine g_get 342 dX9_readNames_339 faX9_20_X9 F0 rfl rfl ?_
      refine g_sipush (v := iZ (256)) 345 dX9_readNames_342 (by decide +kernel) rfl ?_
      refine g_iload_n 346 dX9_readNames_345 rfl rfl ?_
      refine g_imulZ (3072) 347 dX9_readNames_346 (by decide) rfl ?_
      refine g_iload_n 348 dX9_readNames_347 rfl rfl ?_
      refine g_iaddZ (3072 + j) 349 dX9_readNames_348 (by omega) rfl ?_
      refine g_ialdZ (v := iZ (bf (3072 + j).toNat)) 350 dX9_readNames_349 F1 (by omega) (by omega) (by decide) rfl rfl ?_
      refine g_istore (L1 := [some (.ref 50), none, some (.int (iZ 12)), some (.int (iZ j)), some (.int (iZ (bf (3072 + j).toNat))), none, none]) 352 dX9_readNames_350 (by decide) rfl rfl rfl ?_
      have hv := hW j (by omega) (by omega)
      refine g_iload 354 dX9_readNames_352 rfl rfl ?_
      refine g_ifZ_ge 405 357 dX9_readNames_354 rfl rfl (obf _) (fun c3 => ?_) (fun c3 => ?_)
      · refine g_iincZ [some (.ref 50), none, some (.int (iZ 12)), some (.int (iZ (j + 1))), some (.int (iZ (bf (3072 + j).toNat))), none, none] 408 dX9_readNames_405 rfl (by omega) (by decide) rfl rfl rfl ?_
        refine g_goto 328 dX9_readNames_408 rfl ?_
        refine Go.fgt 4 ?_
        exact ih _ (by omega) _ (bf) (j + 1) rfl obf F0 F1 F2 F3 F4 (by omega) (okV_k (by omega) hV) hW hok (rp_n hP (by omega) (by omega) (by omega) (by rw [sl12_at (by omega)]; omega)) k
      · have hv9 := hok (-1 - bf (3072 + j).toNat).toNat
        refine g_aload_n 358 dX9_readNames_357 rfl rfl ?_
        refine g_get 361 dX9_readNames_358 faX9_41_X9 F0 rfl rfl ?_
        refine g_iconst (v := iZ (-1)) 362 dX9_readNames_361 rfl rfl ?_
        refine g_iload 364 dX9_readNames_362 rfl rfl ?_
        refine g_isubZ ((-1) - (bf (3072 + j).toNat)) 365 dX9_readNames_364 (by omega) rfl ?_
        have b4 := opl (((-1) - (bf (3072 + j).toNat)).toNat)
        refine g_ialdZ (v := iZ (pl ((-1) - (bf (3072 + j).toNat)).toNat)) 366 dX9_readNames_365 F4 (by omega) (by omega) (by decide) rfl rfl ?_
        refine g_bipush (v := iZ (-9)) 368 dX9_readNames_366 (by decide +kernel) rfl ?_
        refine g_icZ_ne 384 371 dX9_readNames_368 rfl rfl (by omega) (by decide) (fun c5 => ?_) (fun c5 => ?_)
        · refine g_aload_n 385 dX9_readNames_384 rfl rfl ?_
          refine g_get 388 dX9_readNames_385 faX9_20_X9 F0 rfl rfl ?_
          refine g_sipush (v := iZ (256)) 391 dX9_readNames_388 (by decide +kernel) rfl ?_
          refine g_iload_n 392 dX9_readNames_391 rfl rfl ?_
          refine g_imulZ (3072) 393 dX9_readNames_392 (by decide) rfl ?_
          refine g_iload_n 394 dX9_readNames_393 rfl rfl ?_
          refine g_iaddZ (3072 + j) 395 dX9_readNames_394 (by omega) rfl ?_
          refine g_aload_n 396 dX9_readNames_395 rfl rfl ?_
          refine g_get 399 dX9_readNames_396 faX9_41_X9 F0 rfl rfl ?_
          refine g_iconst (v := iZ (-1)) 400 dX9_readNames_399 rfl rfl ?_
          refine g_iload 402 dX9_readNames_400 rfl rfl ?_
          refine g_isubZ ((-1) - (bf (3072 + j).toNat)) 403 dX9_readNames_402 (by omega) rfl ?_
          have b6 := opl (((-1) - (bf (3072 + j).toNat)).toNat)
          refine g_ialdZ (v := iZ (pl ((-1) - (bf (3072 + j).toNat)).toNat)) 404 dX9_readNames_403 F4 (by omega) (by omega) (by decide) rfl rfl ?_
          refine g_iastFj ((3072 + j).toNat) 405 dX9_readNames_404 F1 (by omega) (by omega) (by decide) rfl rfl (fun h7 s8 f9 => ?_)
          refine g_iincZ [some (.ref 50), none, some (.int (iZ 12)), some (.int (iZ (j + 1))), some (.int (iZ (bf (3072 + j).toNat))), none, none] 408 dX9_readNames_405 rfl (by omega) (by decide) rfl rfl rfl ?_
          refine g_goto 328 dX9_readNames_408 rfl ?_
          refine Go.fgt 4 ?_
          have f10 := (s8.get (by decide) F0)
          have f11 := (s8.get (by decide) F2)
          have f12 := (s8.get (by decide) F3)
          have f13 := (s8.get (by decide) F4)
          exact ih _ (by omega) _ (va_up bf (3072 + j).toNat (pl ((-1) - (bf (3072 + j).toNat)).toNat)) (j + 1) rfl (okr_up obf _ (by omega)) f10 f9 f11 f12 f13 (by omega) (okV_s (by omega) (by omega) hV) (okW_u (by omega) (by omega) hW) hok (by have q9 := rp_y hP (by omega) (by omega) (by omega) (by rw [sl12_at (by omega)]; omega) (by rw [sl12_at (by omega)]; omega); rw [sl12_at (by omega)] at q9; rw [sl12_up (by omega)]; exact q9) (fun hQ xQ0 rQ yQ0 yQ1 pQ0 pQ1 pQ2 pQ3 sQ uQ0 => k hQ xQ0 rQ yQ0 yQ1 (fun q hq => (pQ0 q hq).trans (rs_A (by omega) hq)) pQ1 pQ2 pQ3 (((Sm.refl [54] _).tr s8 (fun _ q => q) (by simp)).tr sQ (fun _ q => q) (fun _ q => q)) uQ0)
        · refine g_aload_n 372 dX9_readNames_371 rfl rfl ?_
          refine g_get 375 dX9_readNames_372 faX9_23_X9 F0 rfl rfl ?_
          refine g_sipush (v := iZ (256)) 378 dX9_readNames_375 (by decide +kernel) rfl ?_
          refine g_iload_n 379 dX9_readNames_378 rfl rfl ?_
          refine g_imulZ (3072) 380 dX9_readNames_379 (by decide) rfl ?_
          refine g_iload_n 381 dX9_readNames_380 rfl rfl ?_
          refine g_iaddZ (3072 + j) 382 dX9_readNames_381 (by omega) rfl ?_
          have b14 := olf ((3072 + j).toNat)
          refine g_ialdZ (v := iZ (lf (3072 + j).toNat)) 383 dX9_readNames_382 F2 (by omega) (by omega) (by decide) rfl rfl ?_
          refine g_iret rfl dX9_readNames_383 ?_
          exact k _ (bf) (lf (3072 + j).toNat) obf (by omega) (fun _ _ => rfl) (by intro q9; omega) ((rp_f hP (by omega) (by omega) (by omega) (by rw [sl12_at (by omega)]; omega) (by rw [sl12_at (by omega)]; omega)).trans (sl12_at (by omega))) (by intro q9; omega) (Sm.refl [54] _) F1

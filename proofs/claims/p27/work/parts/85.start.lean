set_option maxRecDepth 100000 in
theorem law_turn {p : Program} {l : Launch} {e : Env} {s : State} {m : MethodId} {below : List Frame} {meth : Method} {c : Code} {b0 N i : Nat} {xs : Nat → Int32} {D : va_G} {kA : Nat → ClassId} (C : lw_At p s m meth c b0 N xs) (hK : Kx D kA s) (hKS : KS s.heap.size s) (hN : N ≤ 2048) (hi : i + 4 ≤ N) {h : MH} (HL : LI h) (kn : ∀ h1 : MH, LI h1 → Lw p l e s m below meth c b0 D kA 1024 (vLaw s.heap.size b0 i) [] h1) : Lw p l e s m below meth c b0 D kA 26 (vLaw s.heap.size b0 i) [] h := by
  intro H locs ls hR hS hl
  refine lv_aload_n C.1 C.2.1 dL_law_26 rfl (lv_at hl 3 rfl) ?_
  refine lv_iload_n C.1 C.2.1 dL_law_27 rfl (lv_at hl 0 rfl) ?_
  refine va_sld C.1 C.2.1 C.2.2.2.2.2.2.1 C.2.2.2.2.2.2.2.1 (Nat.not_le.mpr C.2.2.2.2.2.2.2.1) hS (iZ_inI (by omega) (by omega) (by omega)) dL_law_28 ?_
  refine lv_bipush (v := 31) C.1 C.2.1 dL_law_29 (by decide) ?_
  refine lv_iand C.1 C.2.1 dL_law_31 ?_
  obtain ⟨j, hj, hje⟩ := pk_andE (xs (iZ ((i : Nat) : Int)).toNatClampNeg) (m := 31) 5 (by decide)
  rw [hje]
  by_cases hj2 : 28 ≤ j
  · exact lv_tableOut (tgt := 1024) C.1 C.2.1 dL_law_32 (by rw [nI_toInt (by omega)]; omega) rfl (kn h HL H locs ls hR hS hl)
  have h1 : ¬ (nI j).toInt < 0 := by rw [nI_toInt (by omega)]; omega
  have h2 : ¬ 27 < (nI j).toInt := by rw [nI_toInt (by omega)]; omega
  match j, hj2, h1, h2 with
  | 0, _, h1, h2 => exact lv_tableIn (tgt := 160) C.1 C.2.1 dL_law_32 h1 h2 (off := 128) (by rw [nI_toInt (by decide)]; rfl) rfl (lc_0 C hK hKS hN hi HL kn H locs ls hR hS hl)
  | 1, _, h1, h2 => exact lv_tableIn (tgt := 223) C.1 C.2.1 dL_law_32 h1 h2 (off := 191) (by rw [nI_toInt (by decide)]; rfl) rfl (lc_1 C hK hKS hN hi HL kn H locs ls hR hS hl)
  | 2, _, h1, h2 => exact lv_tableIn (tgt := 236) C.1 C.2.1 dL_law_32 h1 h2 (off := 204) (by rw [nI_toInt (by decide)]; rfl) rfl (lc_2 C hK hKS hN hi HL kn H locs ls hR hS hl)
  | 3, _, h1, h2 => exact lv_tableIn (tgt := 259) C.1 C.2.1 dL_law_32 h1 h2 (off := 227) (by rw [nI_toInt (by decide)]; rfl) rfl (lc_3 C hK hKS hN hi HL kn H locs ls hR hS hl)
  | 4, _, h1, h2 => exact lv_tableIn (tgt := 292) C.1 C.2.1 dL_law_32 h1 h2 (off := 260) (by rw [nI_toInt (by decide)]; rfl) rfl (lc_4 C hK hKS hN hi HL kn H locs ls hR hS hl)
  | 5, _, h1, h2 => exact lv_tableIn (tgt := 315) C.1 C.2.1 dL_law_32 h1 h2 (off := 283) (by rw [nI_toInt (by decide)]; rfl) rfl (lc_5 C hK hKS hN hi HL kn H locs ls hR hS hl)
  | 6, _, h1, h2 => exact lv_tableIn (tgt := 338) C.1 C.2.1 dL_law_32 h1 h2 (off := 306) (by rw [nI_toInt (by decide)]; rfl) rfl (lc_6 C hK hKS hN hi HL kn H locs ls hR hS hl)
  | 7, _, h1, h2 => exact lv_tableIn (tgt := 371) C.1 C.2.1 dL_law_32 h1 h2 (off := 339) (by rw [nI_toInt (by decide)]; rfl) rfl (lc_7 C hK hKS hN hi HL kn H locs ls hR hS hl)
  | 8, _, h1, h2 => exact lv_tableIn (tgt := 404) C.1 C.2.1 dL_law_32 h1 h2 (off := 372) (by rw [nI_toInt (by decide)]; rfl) rfl (lc_8 C hK hKS hN hi HL kn H locs ls hR hS hl)
  | 9, _, h1, h2 => exact lv_tableIn (tgt := 447) C.1 C.2.1 dL_law_32 h1 h2 (off := 415) (by rw [nI_toInt (by decide)]; rfl) rfl (lc_9 C hK hKS hN hi HL kn H locs ls hR hS hl)
  | 10, _, h1, h2 => exact lv_tableIn (tgt := 480) C.1 C.2.1 dL_law_32 h1 h2 (off := 448) (by rw [nI_toInt (by decide)]; rfl) rfl (lc_10 C hK hKS hN hi HL kn H locs ls hR hS hl)
  | 11, _, h1, h2 => exact lv_tableIn (tgt := 503) C.1 C.2.1 dL_law_32 h1 h2 (off := 471) (by rw [nI_toInt (by decide)]; rfl) rfl (lc_11 C hK hKS hN hi HL kn H locs ls hR hS hl)
  | 12, _, h1, h2 => exact lv_tableIn (tgt := 536) C.1 C.2.1 dL_law_32 h1 h2 (off := 504) (by rw [nI_toInt (by decide)]; rfl) rfl (lc_12 C hK hKS hN hi HL kn H locs ls hR hS hl)
  | 13, _, h1, h2 => exact lv_tableIn (tgt := 559) C.1 C.2.1 dL_law_32 h1 h2 (off := 527) (by rw [nI_toInt (by decide)]; rfl) rfl (lc_13 C hK hKS hN hi HL kn H locs ls hR hS hl)
  | 14, _, h1, h2 => exact lv_tableIn (tgt := 572) C.1 C.2.1 dL_law_32 h1 h2 (off := 540) (by rw [nI_toInt (by decide)]; rfl) rfl (lc_14 C hK hKS hN hi HL kn H locs ls hR hS hl)
  | 15, _, h1, h2 => exact lv_tableIn (tgt := 605) C.1 C.2.1 dL_law_32 h1 h2 (off := 573) (by rw [nI_toInt (by decide)]; rfl) rfl (lc_15 C hK hKS hN hi HL kn H locs ls hR hS hl)
  | 16, _, h1, h2 => exact lv_tableIn (tgt := 648) C.1 C.2.1 dL_law_32 h1 h2 (off := 616) (by rw [nI_toInt (by decide)]; rfl) rfl (lc_16 C hK hKS hN hi HL kn H locs ls hR hS hl)
  | 17, _, h1, h2 => exact lv_tableIn (tgt := 691) C.1 C.2.1 dL_law_32 h1 h2 (off := 659) (by rw [nI_toInt (by decide)]; rfl) rfl (lc_17 C hK hKS hN hi HL kn H locs ls hR hS hl)
  | 18, _, h1, h2 => exact lv_tableIn (tgt := 724) C.1 C.2.1 dL_law_32 h1 h2 (off := 692) (by rw [nI_toInt (by decide)]; rfl) rfl (lc_18 C hK hKS hN hi HL kn H locs ls hR hS hl)
  | 19, _, h1, h2 => exact lv_tableIn (tgt := 757) C.1 C.2.1 dL_law_32 h1 h2 (off := 725) (by rw [nI_toInt (by decide)]; rfl) rfl (lc_19 C hK hKS hN hi HL kn H locs ls hR hS hl)
  | 20, _, h1, h2 => exact lv_tableIn (tgt := 780) C.1 C.2.1 dL_law_32 h1 h2 (off := 748) (by rw [nI_toInt (by decide)]; rfl) rfl (lc_20 C hK hKS hN hi HL kn H locs ls hR hS hl)
  | 21, _, h1, h2 => exact lv_tableIn (tgt := 803) C.1 C.2.1 dL_law_32 h1 h2 (off := 771) (by rw [nI_toInt (by decide)]; rfl) rfl (lc_21 C hK hKS hN hi HL kn H locs ls hR hS hl)
  | 22, _, h1, h2 => exact lv_tableIn (tgt := 836) C.1 C.2.1 dL_law_32 h1 h2 (off := 804) (by rw [nI_toInt (by decide)]; rfl) rfl (lc_22 C hK hKS hN hi HL kn H locs ls hR hS hl)
  | 23, _, h1, h2 => exact lv_tableIn (tgt := 869) C.1 C.2.1 dL_law_32 h1 h2 (off := 837) (by rw [nI_toInt (by decide)]; rfl) rfl (lc_23 C hK hKS hN hi HL kn H locs ls hR hS hl)
  | 24, _, h1, h2 => exact lv_tableIn (tgt := 912) C.1 C.2.1 dL_law_32 h1 h2 (off := 880) (by rw [nI_toInt (by decide)]; rfl) rfl (lc_24 C hK hKS hN hi HL kn H locs ls hR hS hl)
  | 25, _, h1, h2 => exact lv_tableIn (tgt := 955) C.1 C.2.1 dL_law_32 h1 h2 (off := 923) (by rw [nI_toInt (by decide)]; rfl) rfl (lc_25 C hK hKS hN hi HL kn H locs ls hR hS hl)
  | 26, _, h1, h2 => exact lv_tableIn (tgt := 988) C.1 C.2.1 dL_law_32 h1 h2 (off := 956) (by rw [nI_toInt (by decide)]; rfl) rfl (lc_26 C hK hKS hN hi HL kn H locs ls hR hS hl)
  | 27, _, h1, h2 => exact lv_tableIn (tgt := 1011) C.1 C.2.1 dL_law_32 h1 h2 (off := 979) (by rw [nI_toInt (by decide)]; rfl) rfl (lc_27 C hK hKS hN hi HL kn H locs ls hR hS hl)
  | j + 28, hj2, _, _ => omega
theorem law_loop {p : Program} {l : Launch} {e : Env} {s : State} {m : MethodId} {below : List Frame} {meth : Method} {c : Code} {b0 N : Nat} {xs : Nat → Int32} {D : va_G} {kA : Nat → ClassId} (C : lw_At p s m meth c b0 N xs) (hK : Kx D kA s) (hKS : KS s.heap.size s) (hN : N ≤ 2048) : ∀ (n i : Nat) (h : MH), N ≤ i + n → i ≤ 4096 → LI h → Lw p l e s m below meth c b0 D kA 18 (vLaw s.heap.size b0 i) [] h := by
  intro n
  induction n with
  | zero =>
    intro i h h1 h2 HL
    exact lw_head C hN h2 (fun _ => lw_true C HL.bd.1 HL.bd.2) (fun q => by omega)
  | succ n ih =>
    intro i h h1 h2 HL
    exact lw_head C hN h2 (fun _ => lw_true C HL.bd.1 HL.bd.2) (fun q => law_turn C hK hKS hN q HL (fun g HG => lw_next C (ih (i + 4) g (by omega) (by omega) HG)))
theorem whole_start {p : Program} {e : Env} {s : State} {m : MethodId} {below : List Frame} {meth : Method} {c : Code} (l : Launch) {b L : Nat} {xs : Nat → Int32} (hL : L ≤ 2048) (C0 : lw_At p s m meth c b L xs) : W p l e room_1 s m #[Value.ref b] below meth c s.heap [] 0 0 (lw_Z below #[Value.ref b] s) (entryFrame m ([Value.ref b] : List Value).toArray 4) := by
  obtain ⟨D, kA, hK⟩ := law_K C0
  have hKS := law_KS C0
  have hP : Rp s.heap.size D kA [] s.heap := ⟨by simp, fun k q h => by simp [mw] at h⟩
  have hS : va_S (fun q : Nat => s.heap.size ≤ q) s.heap s.heap [] := va_S.rf
  have hl := lv_entry ([.ref b]) (n := 4) (Nat.le_of_ble_eq_true rfl)
  rw [lg_entry_eq]
  generalize (lg_sl ([.ref b]) ++ List.replicate (4 - (lg_sl ([.ref b])).length) Slot.unset).toArray = ls at hl ⊢
  have hl : lv_has ls 4 [(0, .ref b)] := hl
  suffices K : Lw p l e s m below meth c b D kA 0 [(0, .ref b)] [] [] from K s.heap [] ls hP hS hl
  refine lw_new C0 hK 3 dL_law_0 fnL_7 rfl (by decide) (nle rfl) ?_
  refine lw_dup C0 4 dL_law_3 rfl rfl ?_
  refine lw_callI (z := mX8_init) (a := 0) C0 hK hKS 7 dL_law_4 mwX8_init rfl ⟨by decide, by decide⟩ rfl wlL_9 wiX8_init rfl (nle rfl) (nle rfl) rfl ?_
  refine Go.to _ [] rfl rfl (kc8 ?_)
  refine ⟨by decide +kernel, by decide +kernel, ?_⟩
  refine lw_astore C0 [(1, .ref (s.heap.size + 0)), (0, .ref b)] 8 dL_law_7 rfl rfl ?_
  refine lw_new C0 hK 11 dL_law_8 fnL_10 rfl (by decide +kernel) (by decide +kernel) ?_
  refine lw_dup C0 12 dL_law_11 rfl rfl ?_
  refine lw_callI (z := mX9_init) (a := 50) C0 hK hKS 15 dL_law_12 mwX9_init rfl ⟨by decide, by decide⟩ rfl wlL_12 wiX9_init rfl (nle rfl) (nle rfl) rfl ?_
  refine Go.to _ [] rfl rfl (kc9 ?_)
  refine ⟨by decide +kernel, by decide +kernel, ?_⟩
  refine lw_astore C0 [(2, .ref (s.heap.size + 50)), (1, .ref (s.heap.size + 0)), (0, .ref b)] 16 dL_law_15 rfl rfl ?_
  refine lw_iconst (v := iZ ((0 : Nat) : Int)) C0 17 dL_law_16 rfl rfl ?_
  refine lw_istore C0 (vLaw s.heap.size b 0) 18 dL_law_17 rfl rfl ?_
  exact law_loop C0 hK hKS hL L 0 H2 (by omega) (by omega) li_H2

def mJ0_length_8abf5 : MD := (yJ0_length_8abf5, cJ0_length_8abf5, 1, some .int, 1, 20)
set_option maxRecDepth 50000 in
theorem mwJ0_length_8abf5 : MW mJ0_length_8abf5 := ⟨(gw_of (List.mem_append_right _ (List.mem_append_right _ (List.mem_append_left _ (List.mem_of_getElem? (i := 75) rfl)))) rfl), (gw_of (List.mem_append_right _ (List.mem_append_left _ (List.mem_of_getElem? (i := 11) rfl))) rfl), by decide +kernel, by decide +kernel, by decide +kernel⟩
set_option maxRecDepth 50000 in
theorem wiJ0_length_8abf5 : Cond.instanceMethod yJ0_length_8abf5 ∈ gw := (gw_of (List.mem_append_right _ (List.mem_append_right _ (List.mem_append_left _ (List.mem_of_getElem? (i := 73) rfl)))) rfl)
set_option maxRecDepth 50000 in
theorem wsJ0_length_8abf5 : Cond.selects RJ0 yJ0_length_8abf5 yJ0_length_8abf5 ∈ gw := (gw_of (List.mem_append_right _ (List.mem_append_right _ (List.mem_append_left _ (List.mem_of_getElem? (i := 74) rfl)))) rfl)
def mJ0_coder_7d493 : MD := (yJ0_coder_7d493, cJ0_coder_7d493, 1, some .byte, 0, 0)
set_option maxRecDepth 50000 in
theorem mwJ0_coder_7d493 : MW mJ0_coder_7d493 := ⟨(gw_of (List.mem_append_right _ (List.mem_append_right _ (List.mem_append_left _ (List.mem_of_getElem? (i := 79) rfl)))) rfl), (gw_of (List.mem_append_right _ (List.mem_append_left _ (List.mem_of_getElem? (i := 11) rfl))) rfl), by decide +kernel, by decide +kernel, by decide +kernel⟩
set_option maxRecDepth 50000 in
theorem wiJ0_coder_7d493 : Cond.instanceMethod yJ0_coder_7d493 ∈ gw := (gw_of (List.mem_append_right _ (List.mem_append_right _ (List.mem_append_left _ (List.mem_of_getElem? (i := 77) rfl)))) rfl)
set_option maxRecDepth 50000 in
theorem wsJ0_coder_7d493 : Cond.selects RJ0 yJ0_coder_7d493 yJ0_coder_7d493 ∈ gw := (gw_of (List.mem_append_right _ (List.mem_append_right _ (List.mem_append_left _ (List.mem_of_getElem? (i := 78) rfl)))) rfl)
def mJ0_charAt_5068e : MD := (yJ0_charAt_5068e, cJ0_charAt_5068e, 2, some .char, 3, 64)
set_option maxRecDepth 50000 in
theorem mwJ0_charAt_5068e : MW mJ0_charAt_5068e := ⟨(gw_of (List.mem_append_right _ (List.mem_append_right _ (List.mem_append_left _ (List.mem_of_getElem? (i := 85) rfl)))) rfl), (gw_of (List.mem_append_right _ (List.mem_append_left _ (List.mem_of_getElem? (i := 11) rfl))) rfl), by decide +kernel, by decide +kernel, by decide +kernel⟩
set_option maxRecDepth 50000 in
theorem wiJ0_charAt_5068e : Cond.instanceMethod yJ0_charAt_5068e ∈ gw := (gw_of (List.mem_append_right _ (List.mem_append_right _ (List.mem_append_left _ (List.mem_of_getElem? (i := 83) rfl)))) rfl)
set_option maxRecDepth 50000 in
theorem wsJ0_charAt_5068e : Cond.selects RJ0 yJ0_charAt_5068e yJ0_charAt_5068e ∈ gw := (gw_of (List.mem_append_right _ (List.mem_append_right _ (List.mem_append_left _ (List.mem_of_getElem? (i := 84) rfl)))) rfl)
def mJ0_isLatin1_aae02 : MD := (yJ0_isLatin1_aae02, cJ0_isLatin1_aae02, 1, some .boolean, 0, 0)
set_option maxRecDepth 50000 in
theorem mwJ0_isLatin1_aae02 : MW mJ0_isLatin1_aae02 := ⟨(gw_of (List.mem_append_right _ (List.mem_append_right _ (List.mem_append_left _ (List.mem_of_getElem? (i := 89) rfl)))) rfl), (gw_of (List.mem_append_right _ (List.mem_append_left _ (List.mem_of_getElem? (i := 11) rfl))) rfl), by decide +kernel, by decide +kernel, by decide +kernel⟩
set_option maxRecDepth 50000 in
theorem wiJ0_isLatin1_aae02 : Cond.instanceMethod yJ0_isLatin1_aae02 ∈ gw := (gw_of (List.mem_append_right _ (List.mem_append_right _ (List.mem_append_left _ (List.mem_of_getElem? (i := 87) rfl)))) rfl)
set_option maxRecDepth 50000 in
theorem wsJ0_isLatin1_aae02 : Cond.selects RJ0 yJ0_isLatin1_aae02 yJ0_isLatin1_aae02 ∈ gw := (gw_of (List.mem_append_right _ (List.mem_append_right _ (List.mem_append_left _ (List.mem_of_getElem? (i := 88) rfl)))) rfl)
def mJ0_checkIndex_df160 : MD := (yJ0_checkIndex_df160, cJ0_checkIndex_df160, 2, (none : Option Jvm.ClassFile.FieldType), 1, 22)
set_option maxRecDepth 50000 in
theorem mwJ0_checkIndex_df160 : MW mJ0_checkIndex_df160 := ⟨(gw_of (List.mem_append_right _ (List.mem_append_right _ (List.mem_append_left _ (List.mem_of_getElem? (i := 95) rfl)))) rfl), (gw_of (List.mem_append_right _ (List.mem_append_left _ (List.mem_of_getElem? (i := 11) rfl))) rfl), by decide +kernel, by decide +kernel, by decide +kernel⟩
set_option maxRecDepth 50000 in
theorem wtJ0_checkIndex_df160 : Cond.static yJ0_checkIndex_df160 ∈ gw := (gw_of (List.mem_append_right _ (List.mem_append_right _ (List.mem_append_left _ (List.mem_of_getElem? (i := 94) rfl)))) rfl)
def mJ1_charAt_3b067 : MD := (yJ1_charAt_3b067, cJ1_charAt_3b067, 2, some .char, 2, 43)
set_option maxRecDepth 50000 in
theorem mwJ1_charAt_3b067 : MW mJ1_charAt_3b067 := ⟨(gw_of (List.mem_append_right _ (List.mem_append_right _ (List.mem_append_left _ (List.mem_of_getElem? (i := 92) rfl)))) rfl), (gw_of (List.mem_append_right _ (List.mem_append_left _ (List.mem_of_getElem? (i := 12) rfl))) rfl), by decide +kernel, by decide +kernel, by decide +kernel⟩
set_option maxRecDepth 50000 in
theorem wtJ1_charAt_3b067 : Cond.static yJ1_charAt_3b067 ∈ gw := (gw_of (List.mem_append_right _ (List.mem_append_right _ (List.mem_append_left _ (List.mem_of_getElem? (i := 91) rfl)))) rfl)
def mJ3_checkIndex_8e157 : MD := (yJ3_checkIndex_8e157, cJ3_checkIndex_8e157, 3, some .int, 0, 0)
set_option maxRecDepth 50000 in
theorem mwJ3_checkIndex_8e157 : MW mJ3_checkIndex_8e157 := ⟨(gw_of (List.mem_append_right _ (List.mem_append_right _ (List.mem_append_left _ (List.mem_of_getElem? (i := 100) rfl)))) rfl), (gw_of (List.mem_append_right _ (List.mem_append_left _ (List.mem_of_getElem? (i := 13) rfl))) rfl), by decide +kernel, by decide +kernel, by decide +kernel⟩
set_option maxRecDepth 50000 in
theorem wtJ3_checkIndex_8e157 : Cond.static yJ3_checkIndex_8e157 ∈ gw := (gw_of (List.mem_append_right _ (List.mem_append_right _ (List.mem_append_left _ (List.mem_of_getElem? (i := 99) rfl)))) rfl)
set_option maxRecDepth 50000 in
theorem wlJ_335 : Cond.methodLink "java/lang/String" 335 yJ0_coder_7d493 ∈ gw := (gw_of (List.mem_append_right _ (List.mem_append_right _ (List.mem_append_left _ (List.mem_of_getElem? (i := 76) rfl)))) rfl)
set_option maxRecDepth 50000 in
theorem wlJ_492 : Cond.methodLink "java/lang/String" 492 yJ0_isLatin1_aae02 ∈ gw := (gw_of (List.mem_append_right _ (List.mem_append_right _ (List.mem_append_left _ (List.mem_of_getElem? (i := 86) rfl)))) rfl)
set_option maxRecDepth 50000 in
theorem wlJ_495 : Cond.methodLink "java/lang/String" 495 yJ1_charAt_3b067 ∈ gw := (gw_of (List.mem_append_right _ (List.mem_append_right _ (List.mem_append_left _ (List.mem_of_getElem? (i := 90) rfl)))) rfl)
set_option maxRecDepth 50000 in
theorem wlJ_9 : Cond.methodLink "java/lang/StringLatin1" 9 yJ0_checkIndex_df160 ∈ gw := (gw_of (List.mem_append_right _ (List.mem_append_right _ (List.mem_append_left _ (List.mem_of_getElem? (i := 93) rfl)))) rfl)
set_option maxRecDepth 50000 in
theorem wlJ_1059 : Cond.methodLink "java/lang/String" 1059 yJ3_checkIndex_8e157 ∈ gw := (gw_of (List.mem_append_right _ (List.mem_append_right _ (List.mem_append_left _ (List.mem_of_getElem? (i := 98) rfl)))) rfl)
set_option maxRecDepth 50000 in
theorem wlJ_105 : Cond.methodLink "LadderForge$NamedMaker" 105 yJ0_length_8abf5 ∈ gw := (gw_of (List.mem_append_right _ (List.mem_append_right _ (List.mem_append_left _ (List.mem_of_getElem? (i := 72) rfl)))) rfl)
set_option maxRecDepth 50000 in
theorem wlJ_109 : Cond.methodLink "LadderForge$NamedMaker" 109 yJ0_charAt_5068e ∈ gw := (gw_of (List.mem_append_right _ (List.mem_append_right _ (List.mem_append_left _ (List.mem_of_getElem? (i := 82) rfl)))) rfl)
set_option maxRecDepth 50000 in
theorem wfJ_9 : Cond.fieldLink "java/lang/String" 9 "java/lang/String" "value" "[B" ∈ gw := (gw_of (List.mem_append_right _ (List.mem_append_right _ (List.mem_append_right _ (List.mem_append_right _ (List.mem_append_right _ (List.mem_of_getElem? (i := 82) rfl)))))) rfl)
set_option maxRecDepth 50000 in
theorem wfJ_15 : Cond.fieldLink "java/lang/String" 15 "java/lang/String" "coder" "B" ∈ gw := (gw_of (List.mem_append_right _ (List.mem_append_right _ (List.mem_append_right _ (List.mem_append_right _ (List.mem_append_right _ (List.mem_of_getElem? (i := 83) rfl)))))) rfl)
set_option maxRecDepth 50000 in
theorem wfJ_38 : Cond.fieldLink "java/lang/String" 38 "java/lang/String" "COMPACT_STRINGS" "Z" ∈ gw := (gw_of (List.mem_append_right _ (List.mem_append_right _ (List.mem_append_left _ (List.mem_of_getElem? (i := 80) rfl)))) rfl)
set_option maxRecDepth 50000 in
theorem wfJ_1053 : Cond.fieldLink "java/lang/String" 1053 "jdk/internal/util/Preconditions" "SIOOBE_FORMATTER" "Ljava/util/function/BiFunction;" ∈ gw := (gw_of (List.mem_append_right _ (List.mem_append_right _ (List.mem_append_left _ (List.mem_of_getElem? (i := 96) rfl)))) rfl)
theorem jc_coder {l : Launch} {b ak av : Nat}  : JW l mJ0_coder_7d493 b ak av 0 (lv_args 0 [.ref ak]) [] (some (.int 0)) := by
  refine j_compact 3 dJ0_coder_7d493_0 wfJ_38 rfl ?_
  refine j_ifeqN 6 dJ0_coder_7d493_3 13 rfl (by decide) rfl ?_
  refine j_aload 0 7 dJ0_coder_7d493_6 rfl rfl ?_
  refine j_coder 10 dJ0_coder_7d493_7 wfJ_15 rfl ?_
  refine j_goto 14 dJ0_coder_7d493_10 rfl ?_
  exact j_ret rfl (by decide) dJ0_coder_7d493_14 rfl
theorem jc_lat {l : Launch} {b ak av : Nat}  : JW l mJ0_isLatin1_aae02 b ak av 0 (lv_args 0 [.ref ak]) [] (some (.int 1)) := by
  refine j_compact 3 dJ0_isLatin1_aae02_0 wfJ_38 rfl ?_
  refine j_ifeqN 6 dJ0_isLatin1_aae02_3 17 rfl (by decide) rfl ?_
  refine j_aload 0 7 dJ0_isLatin1_aae02_6 rfl rfl ?_
  refine j_coder 10 dJ0_isLatin1_aae02_7 wfJ_15 rfl ?_
  refine j_ifneN 13 dJ0_isLatin1_aae02_10 17 rfl rfl ?_
  refine j_iconst (v := 1) 14 dJ0_isLatin1_aae02_13 (by decide) rfl ?_
  refine j_goto 18 dJ0_isLatin1_aae02_14 rfl ?_
  exact j_ret rfl (by decide) dJ0_isLatin1_aae02_18 rfl
theorem jc_len {l : Launch} {b ak av : Nat}  : JW l mJ0_length_8abf5 b ak av 0 (lv_args 0 [.ref ak]) [] (some (.int (Int32.ofNat 85))) := by
  refine j_aload 0 1 dJ0_length_8abf5_0 rfl rfl ?_
  refine j_value 4 dJ0_length_8abf5_1 wfJ_9 rfl ?_
  refine j_alen 5 dJ0_length_8abf5_4 rfl ?_
  refine j_aload 0 6 dJ0_length_8abf5_5 rfl rfl ?_
  refine j_callV (z := mJ0_coder_7d493) (As := []) (S := [.int (Int32.ofNat 85)]) 9 dJ0_length_8abf5_6 mwJ0_coder_7d493 ⟨by decide, by decide⟩ rfl wlJ_335 wiJ0_coder_7d493 wsJ0_coder_7d493 rfl rfl (by decide) (nle rfl) rfl jc_coder ?_
  refine j_ishr (x := Int32.ofNat 85) (w := 0) (v := Int32.ofNat 85) 10 dJ0_length_8abf5_9 (by decide +kernel) rfl ?_
  exact j_ret rfl rfl dJ0_length_8abf5_10 rfl
theorem jc_chk3 {l : Launch} {b ak av : Nat} {x : Int32} {v : Value} (hv : v = .null ∨ ∃ t, v = .ref t) (h0 : ¬ x < 0) (h1 : x < Int32.ofNat 85) : JW l mJ3_checkIndex_8e157 b ak av 0 (lv_args 0 [.int x, .int (Int32.ofNat 85), v]) [] (some (.int x)) := by
  rcases hv with rfl | ⟨t, rfl⟩
  · refine j_iload 0 1 dJ3_checkIndex_8e157_0 rfl rfl ?_
    refine j_ifltN 4 dJ3_checkIndex_8e157_1 9 rfl h0 rfl ?_
    refine j_iload 0 5 dJ3_checkIndex_8e157_4 rfl rfl ?_
    refine j_iload 1 6 dJ3_checkIndex_8e157_5 rfl rfl ?_
    refine j_iltT 16 dJ3_checkIndex_8e157_6 rfl h1 ?_
    refine j_iload 0 17 dJ3_checkIndex_8e157_16 rfl rfl ?_
    exact j_ret rfl rfl dJ3_checkIndex_8e157_17 rfl
  · refine j_iload 0 1 dJ3_checkIndex_8e157_0 rfl rfl ?_
    refine j_ifltN 4 dJ3_checkIndex_8e157_1 9 rfl h0 rfl ?_
    refine j_iload 0 5 dJ3_checkIndex_8e157_4 rfl rfl ?_
    refine j_iload 1 6 dJ3_checkIndex_8e157_5 rfl rfl ?_
    refine j_iltT 16 dJ3_checkIndex_8e157_6 rfl h1 ?_
    refine j_iload 0 17 dJ3_checkIndex_8e157_16 rfl rfl ?_
    exact j_ret rfl rfl dJ3_checkIndex_8e157_17 rfl
theorem jc_chk {l : Launch} {b ak av : Nat} {x : Int32} (h0 : ¬ x < 0) (h1 : x < Int32.ofNat 85) : JW l mJ0_checkIndex_df160 b ak av 0 (lv_args 0 [.int x, .int (Int32.ofNat 85)]) [] none := by
  refine j_iload 0 1 dJ0_checkIndex_df160_0 rfl rfl ?_
  refine j_iload 1 2 dJ0_checkIndex_df160_1 rfl rfl ?_
  refine j_format 5 dJ0_checkIndex_df160_2 wfJ_1053 rfl (fun v hv => ?_)
  refine j_callS (z := mJ3_checkIndex_8e157) (As := [.int x, .int (Int32.ofNat 85), v]) (S := []) (r1 := some (.int x)) 8 dJ0_checkIndex_df160_5 mwJ3_checkIndex_8e157 ⟨by decide, by decide⟩ rfl wlJ_1059 wtJ3_checkIndex_8e157 rfl (by decide) (by rcases hv with rfl | ⟨t, rfl⟩ <;> exact nle rfl) rfl (jc_chk3 hv h0 h1) ?_
  refine j_pop 9 dJ0_checkIndex_df160_8 rfl rfl ?_
  exact j_vret rfl dJ0_checkIndex_df160_9 rfl
theorem js_b : ∀ j, j < 85 → ((((jsB.getD j 0) &&& 255).toUInt32 % 65536).toInt32 = jsB.getD j 0 ∧ narrow .char (.int (jsB.getD j 0)) = .int (jsB.getD j 0)) := by decide +kernel
theorem jc_chL {l : Launch} {b ak av : Nat} {x : Int32} (hi : vp_in x 85) : JW l mJ1_charAt_3b067 b ak av 0 (lv_args 0 [.ref av, .int x]) [] (some (.int (jsB.getD x.toNatClampNeg 0))) := by
  have hx := vp_in_iff.mp hi
  have h0 : ¬ x < 0 := fun q => hi (Or.inl q)
  have h1 : x < Int32.ofNat 85 := by
    rw [iZ_nat', Int32.lt_iff_toInt_lt, iZ_toInt ⟨by decide, by decide⟩]
    exact hx.2
  refine j_iload 1 1 dJ1_charAt_3b067_0 rfl rfl ?_
  refine j_aload 0 2 dJ1_charAt_3b067_1 rfl rfl ?_
  refine j_alen 3 dJ1_charAt_3b067_2 rfl ?_
  refine j_callS (z := mJ0_checkIndex_df160) (As := [.int x, .int (Int32.ofNat 85)]) (S := []) (r1 := none) 6 dJ1_charAt_3b067_3 mwJ0_checkIndex_df160 ⟨by decide, by decide⟩ rfl wlJ_9 wtJ0_checkIndex_df160 rfl (by decide) (nle rfl) rfl (jc_chk h0 h1) ?_
  refine j_aload 0 7 dJ1_charAt_3b067_6 rfl rfl ?_
  refine j_iload 1 8 dJ1_charAt_3b067_7 rfl rfl ?_
  refine j_bald 9 dJ1_charAt_3b067_8 hi rfl rfl ?_
  refine j_sipush (v := 255) 12 dJ1_charAt_3b067_9 (by decide) rfl ?_
  refine j_iand 13 dJ1_charAt_3b067_12 rfl rfl ?_
  have hj : x.toNatClampNeg < 85 := Nat.not_le.mp fun q => hi (Or.inr q)
  refine j_i2c 14 dJ1_charAt_3b067_13 (js_b _ hj).1 rfl ?_
  exact j_ret rfl (js_b _ hj).2 dJ1_charAt_3b067_14 rfl
theorem jc_ch {l : Launch} {b ak av : Nat} {x : Int32} (hi : vp_in x 85) : JW l mJ0_charAt_5068e b ak av 0 (lv_args 0 [.ref ak, .int x]) [] (some (.int (jsB.getD x.toNatClampNeg 0))) := by
  refine j_aload 0 1 dJ0_charAt_5068e_0 rfl rfl ?_
  refine j_callV (z := mJ0_isLatin1_aae02) (As := []) (S := []) (r1 := some (.int 1)) 4 dJ0_charAt_5068e_1 mwJ0_isLatin1_aae02 ⟨by decide, by decide⟩ rfl wlJ_492 wiJ0_isLatin1_aae02 wsJ0_isLatin1_aae02 rfl rfl (by decide) (nle rfl) rfl jc_lat ?_
  refine j_ifeqN 7 dJ0_charAt_5068e_4 16 rfl (by decide) rfl ?_
  refine j_aload 0 8 dJ0_charAt_5068e_7 rfl rfl ?_
  refine j_value 11 dJ0_charAt_5068e_8 wfJ_9 rfl ?_
  refine j_iload 1 12 dJ0_charAt_5068e_11 rfl rfl ?_
  refine j_callS (z := mJ1_charAt_3b067) (As := [.ref av, .int x]) (S := []) 15 dJ0_charAt_5068e_12 mwJ1_charAt_3b067 ⟨by decide, by decide⟩ rfl wlJ_495 wtJ1_charAt_3b067 rfl (by decide) (nle rfl) rfl (jc_chL hi) ?_
  have hj : x.toNatClampNeg < 85 := Nat.not_le.mp fun q => hi (Or.inr q)
  exact j_ret rfl (js_b _ hj).2 dJ0_charAt_5068e_15 rfl

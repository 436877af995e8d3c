/-- the byte at j, as here() reads it -/
def hb (f : Nat → Int32) (j : Int) : Int := (f j.toNat).toInt % 256
set_option maxRecDepth 100000 in
theorem n_in {l : Launch} {h : MH} {Q : Option Value → MH → Prop} {v lo hi : Int} (rv : rg v) (rlo : rg lo) (rhi : rg hi) (k : ∀ (r : Int), ((r = 1 ∧ lo ≤ v ∧ v ≤ hi) ∨ (r = 0 ∧ (v < lo ∨ hi < v))) → Q (some (.int (iZ r))) h) : Go l mX9_in 0 [some (.int (iZ v)), some (.int (iZ lo)), some (.int (iZ hi))] [] h Q := by
  refine g_iload_n 1 dX9_in_0 rfl rfl ?_
  refine g_iload_n 2 dX9_in_1 rfl rfl ?_
  refine g_icZ_lt 14 5 dX9_in_2 rfl rfl rv rlo (fun c1 => ?_) (fun c1 => ?_)
  · refine g_iconst (v := iZ (0)) 15 dX9_in_14 rfl rfl ?_
    refine g_zret rfl z01_0 dX9_in_15 ?_
    exact k (0) (by omega)
  · refine g_iload_n 6 dX9_in_5 rfl rfl ?_
    refine g_iload_n 7 dX9_in_6 rfl rfl ?_
    refine g_icZ_gt 14 10 dX9_in_7 rfl rfl rv rhi (fun c2 => ?_) (fun c2 => ?_)
    · refine g_iconst (v := iZ (0)) 15 dX9_in_14 rfl rfl ?_
      refine g_zret rfl z01_0 dX9_in_15 ?_
      exact k (0) (by omega)
    · refine g_iconst (v := iZ (1)) 11 dX9_in_10 rfl rfl ?_
      refine g_goto 15 dX9_in_11 rfl ?_
      refine g_zret rfl z01_1 dX9_in_15 ?_
      exact k (1) (by omega)
set_option maxRecDepth 100000 in
theorem n_isText {l : Launch} {h : MH} {Q : Option Value → MH → Prop} {v : Int} (rv : rg v) (k : ∀ (r : Int), ((r = 1 ∧ 0 ≤ v ∧ v ≤ 7) ∨ (r = 0 ∧ (v < 0 ∨ 7 < v))) → Q (some (.int (iZ r))) h) : Go l mX9_isText 0 [some (.int (iZ v))] [] h Q := by
  refine g_iload_n 1 dX9_isText_0 rfl rfl ?_
  refine g_iconst (v := iZ (0)) 2 dX9_isText_1 rfl rfl ?_
  refine g_bipush (v := iZ (7)) 4 dX9_isText_2 (by decide +kernel) rfl ?_
  refine g_callS (z := mX9_in) (As := [.int (iZ v), .int (iZ 0), .int (iZ 7)]) 7 dX9_isText_4 mwX9_in ⟨by decide, by decide⟩ rfl wlX9_75 wtX9_in rfl (nle rfl) (nle rfl) rfl ?_
  refine n_in  rv (by decide) (by decide) (fun z1 rz1 => ?_)
  refine rI ?_
  refine g_zret rfl (z01 (by omega)) dX9_isText_7 ?_
  exact k (z1) (by omega)
set_option maxRecDepth 100000 in
theorem n_isTool {l : Launch} {h : MH} {Q : Option Value → MH → Prop} {tr : Int64} {mn kt bs ee pa fu st so va ed cm a x p dn tk ie en v : Int} (F0 : h[50]? = some (.inr (8, [.long (tr), .ref 51, .int (iZ mn), .ref 52, .ref 53, .int (iZ kt), .ref 54, .ref 55, .ref 56, .ref 57, .ref 58, .ref 59, .ref 60, .int (iZ bs), .int (iZ ee), .int (iZ pa), .int (iZ fu), .int (iZ st), .int (iZ so), .int (iZ va), .int (iZ ed), .ref 61, .ref 62, .ref 63, .ref 64, .int (iZ cm), .int (iZ a), .int (iZ x), .int (iZ p), .int (iZ dn), .int (iZ tk), .int (iZ ie), .ref 65, .ref 66, .ref 67, .int (iZ en), .ref 68, .ref 69, .ref 70]))) (rmn : (0 ≤ mn ∧ mn ≤ 200)) (rkt : (0 ≤ kt ∧ kt ≤ 12)) (rbs : (0 ≤ bs ∧ bs ≤ 1400)) (ree : (0 ≤ ee ∧ ee ≤ 200)) (rpa : (0 ≤ pa ∧ pa ≤ 200)) (rfu : (-9 ≤ fu ∧ fu ≤ 200)) (rst : (0 ≤ st ∧ st ≤ 200)) (rso : (0 ≤ so ∧ so ≤ 5)) (rva : (-100 ≤ va ∧ va ≤ 3000)) (red : (0 ≤ ed ∧ ed ≤ 200)) (rcm : (0 ≤ cm ∧ cm ≤ 256)) (ra : (0 ≤ a ∧ a ≤ 255)) (rx : (0 ≤ x ∧ x ≤ 255)) (rp : (0 ≤ p ∧ p ≤ 255)) (rdn : (0 ≤ dn ∧ dn ≤ 5000)) (rtk : (0 ≤ tk ∧ tk ≤ 200)) (rie : (0 ≤ ie ∧ ie ≤ 1)) (ren : (0 ≤ en ∧ en ≤ 12)) (rv : rg v) (k : ∀ (r : Int), ((r = 1 ∧ 0 ≤ v ∧ v < kt) ∨ (r = 0 ∧ (v < 0 ∨ kt ≤ v))) → Q (some (.int (iZ r))) h) : Go l mX9_isTool 0 [some (.ref 50), some (.int (iZ v))] [] h Q := by
  refine g_iload_n 1 dX9_isTool_0 rfl rfl ?_
  refine g_iconst (v := iZ (0)) 2 dX9_isTool_1 rfl rfl ?_
  refine g_aload_n 3 dX9_isTool_2 rfl rfl ?_
  refine g_get 6 dX9_isTool_3 faX9_85_X9 F0 rfl rfl ?_
  refine g_iconst (v := iZ (1)) 7 dX9_isTool_6 rfl rfl ?_
  refine g_isubZ (kt - 1) 8 dX9_isTool_7 (by omega) rfl ?_
  refine g_callS (z := mX9_in) (As := [.int (iZ v), .int (iZ 0), .int (iZ (kt - 1))]) 11 dX9_isTool_8 mwX9_in ⟨by decide, by decide⟩ rfl wlX9_75 wtX9_in rfl (nle rfl) (nle rfl) rfl ?_
  refine n_in  rv (by decide) (by omega) (fun z1 rz1 => ?_)
  refine rI ?_
  refine g_zret rfl (z01 (by omega)) dX9_isTool_11 ?_
  exact k (z1) (by omega)
set_option maxRecDepth 100000 in
theorem n_isEd {l : Launch} {h : MH} {Q : Option Value → MH → Prop} {tr : Int64} {mn kt bs ee pa fu st so va ed cm a x p dn tk ie en v : Int} (F0 : h[50]? = some (.inr (8, [.long (tr), .ref 51, .int (iZ mn), .ref 52, .ref 53, .int (iZ kt), .ref 54, .ref 55, .ref 56, .ref 57, .ref 58, .ref 59, .ref 60, .int (iZ bs), .int (iZ ee), .int (iZ pa), .int (iZ fu), .int (iZ st), .int (iZ so), .int (iZ va), .int (iZ ed), .ref 61, .ref 62, .ref 63, .ref 64, .int (iZ cm), .int (iZ a), .int (iZ x), .int (iZ p), .int (iZ dn), .int (iZ tk), .int (iZ ie), .ref 65, .ref 66, .ref 67, .int (iZ en), .ref 68, .ref 69, .ref 70]))) (rmn : (0 ≤ mn ∧ mn ≤ 200)) (rkt : (0 ≤ kt ∧ kt ≤ 12)) (rbs : (0 ≤ bs ∧ bs ≤ 1400)) (ree : (0 ≤ ee ∧ ee ≤ 200)) (rpa : (0 ≤ pa ∧ pa ≤ 200)) (rfu : (-9 ≤ fu ∧ fu ≤ 200)) (rst : (0 ≤ st ∧ st ≤ 200)) (rso : (0 ≤ so ∧ so ≤ 5)) (rva : (-100 ≤ va ∧ va ≤ 3000)) (red : (0 ≤ ed ∧ ed ≤ 200)) (rcm : (0 ≤ cm ∧ cm ≤ 256)) (ra : (0 ≤ a ∧ a ≤ 255)) (rx : (0 ≤ x ∧ x ≤ 255)) (rp : (0 ≤ p ∧ p ≤ 255)) (rdn : (0 ≤ dn ∧ dn ≤ 5000)) (rtk : (0 ≤ tk ∧ tk ≤ 200)) (rie : (0 ≤ ie ∧ ie ≤ 1)) (ren : (0 ≤ en ∧ en ≤ 12)) (rv : rg v) (k : ∀ (r : Int), ((r = 1 ∧ 0 ≤ v ∧ v < en) ∨ (r = 0 ∧ (v < 0 ∨ en ≤ v))) → Q (some (.int (iZ r))) h) : Go l mX9_isEdition 0 [some (.ref 50), some (.int (iZ v))] [] h Q := by
  refine g_iload_n 1 dX9_isEdition_0 rfl rfl ?_
  refine g_iconst (v := iZ (0)) 2 dX9_isEdition_1 rfl rfl ?_
  refine g_aload_n 3 dX9_isEdition_2 rfl rfl ?_
  refine g_get 6 dX9_isEdition_3 faX9_236_X9 F0 rfl rfl ?_
  refine g_iconst (v := iZ (1)) 7 dX9_isEdition_6 rfl rfl ?_
  refine g_isubZ (en - 1) 8 dX9_isEdition_7 (by omega) rfl ?_
  refine g_callS (z := mX9_in) (As := [.int (iZ v), .int (iZ 0), .int (iZ (en - 1))]) 11 dX9_isEdition_8 mwX9_in ⟨by decide, by decide⟩ rfl wlX9_75 wtX9_in rfl (nle rfl) (nle rfl) rfl ?_
  refine n_in  rv (by decide) (by omega) (fun z1 rz1 => ?_)
  refine rI ?_
  refine g_zret rfl (z01 (by omega)) dX9_isEdition_11 ?_
  exact k (z1) (by omega)
set_option maxRecDepth 100000 in
theorem n_dig {l : Launch} {h : MH} {Q : Option Value → MH → Prop} {v : Int} (rv : (-1 ≤ v ∧ v ≤ 255)) (k : ∀ (r : Int), (r = -9 ∨ (0 ≤ r ∧ r ≤ 15 ∧ 48 ≤ v)) → Q (some (.int (iZ r))) h) : Go l mX9_digit 0 [some (.int (iZ v))] [] h Q := by
  refine g_iload_n 1 dX9_digit_0 rfl rfl ?_
  refine g_bipush (v := iZ (48)) 3 dX9_digit_1 (by decide +kernel) rfl ?_
  refine g_bipush (v := iZ (57)) 5 dX9_digit_3 (by decide +kernel) rfl ?_
  refine g_callS (z := mX9_in) (As := [.int (iZ v), .int (iZ 48), .int (iZ 57)]) 8 dX9_digit_5 mwX9_in ⟨by decide, by decide⟩ rfl wlX9_75 wtX9_in rfl (nle rfl) (nle rfl) rfl ?_
  refine n_in  (by omega) (by decide) (by decide) (fun z1 rz1 => ?_)
  refine rI ?_
  refine g_ifZ_eq 18 11 dX9_digit_8 rfl rfl (rg01 (by omega)) (fun c2 => ?_) (fun c2 => ?_)
  · refine g_iload_n 19 dX9_digit_18 rfl rfl ?_
    refine g_bipush (v := iZ (97)) 21 dX9_digit_19 (by decide +kernel) rfl ?_
    refine g_bipush (v := iZ (102)) 23 dX9_digit_21 (by decide +kernel) rfl ?_
    refine g_callS (z := mX9_in) (As := [.int (iZ v), .int (iZ 97), .int (iZ 102)]) 26 dX9_digit_23 mwX9_in ⟨by decide, by decide⟩ rfl wlX9_75 wtX9_in rfl (nle rfl) (nle rfl) rfl ?_
    refine n_in  (by omega) (by decide) (by decide) (fun z3 rz3 => ?_)
    refine rI ?_
    refine g_ifZ_eq 39 29 dX9_digit_26 rfl rfl (rg01 (by omega)) (fun c4 => ?_) (fun c4 => ?_)
    · refine g_bipush (v := iZ (-9)) 41 dX9_digit_39 (by decide +kernel) rfl ?_
      refine g_iret rfl dX9_digit_41 ?_
      exact k (-9) (by omega)
    · refine g_iload_n 30 dX9_digit_29 rfl rfl ?_
      refine g_bipush (v := iZ (97)) 32 dX9_digit_30 (by decide +kernel) rfl ?_
      refine g_isubZ (v - 97) 33 dX9_digit_32 (by omega) rfl ?_
      refine g_bipush (v := iZ (10)) 35 dX9_digit_33 (by decide +kernel) rfl ?_
      refine g_iaddZ (v - 87) 36 dX9_digit_35 (by omega) rfl ?_
      refine g_goto 41 dX9_digit_36 rfl ?_
      refine g_iret rfl dX9_digit_41 ?_
      exact k (v - 87) (by omega)
  · refine g_iload_n 12 dX9_digit_11 rfl rfl ?_
    refine g_bipush (v := iZ (48)) 14 dX9_digit_12 (by decide +kernel) rfl ?_
    refine g_isubZ (v - 48) 15 dX9_digit_14 (by omega) rfl ?_
    refine g_goto 41 dX9_digit_15 rfl ?_
    refine g_iret rfl dX9_digit_41 ?_
    exact k (v - 48) (by omega)
set_option maxRecDepth 100000 in
theorem n_hasn {l : Launch} {h : MH} {Q : Option Value → MH → Prop} {v : Int} (rv : rg v) (k : ∀ (r : Int), (r = 0 ∨ r = 1) → Q (some (.int (iZ r))) h) : Go l mX9_hasNumber 0 [some (.int (iZ v))] [] h Q := by
  refine g_iload_n 1 dX9_hasNumber_0 rfl rfl ?_
  refine g_iconst (v := iZ (3)) 2 dX9_hasNumber_1 rfl rfl ?_
  refine g_bipush (v := iZ (7)) 4 dX9_hasNumber_2 (by decide +kernel) rfl ?_
  refine g_callS (z := mX9_in) (As := [.int (iZ v), .int (iZ 3), .int (iZ 7)]) 7 dX9_hasNumber_4 mwX9_in ⟨by decide, by decide⟩ rfl wlX9_75 wtX9_in rfl (nle rfl) (nle rfl) rfl ?_
  refine n_in  rv (by decide) (by decide) (fun z1 rz1 => ?_)
  refine rI ?_
  refine g_ifZ_ne 21 10 dX9_hasNumber_7 rfl rfl (rg01 (by omega)) (fun c2 => ?_) (fun c2 => ?_)
  · refine g_iconst (v := iZ (1)) 22 dX9_hasNumber_21 rfl rfl ?_
    refine g_goto 26 dX9_hasNumber_22 rfl ?_
    refine g_zret rfl z01_1 dX9_hasNumber_26 ?_
    exact k (1) (Or.inr rfl)
  · refine g_iload_n 11 dX9_hasNumber_10 rfl rfl ?_
    refine g_bipush (v := iZ (11)) 13 dX9_hasNumber_11 (by decide +kernel) rfl ?_
    refine g_bipush (v := iZ (15)) 15 dX9_hasNumber_13 (by decide +kernel) rfl ?_
    refine g_callS (z := mX9_in) (As := [.int (iZ v), .int (iZ 11), .int (iZ 15)]) 18 dX9_hasNumber_15 mwX9_in ⟨by decide, by decide⟩ rfl wlX9_75 wtX9_in rfl (nle rfl) (nle rfl) rfl ?_
    refine n_in  rv (by decide) (by decide) (fun z3 rz3 => ?_)
    refine rI ?_
    refine g_ifZ_eq 25 21 dX9_hasNumber_18 rfl rfl (rg01 (by omega)) (fun c4 => ?_) (fun c4 => ?_)
    · refine g_iconst (v := iZ (0)) 26 dX9_hasNumber_25 rfl rfl ?_
      refine g_zret rfl z01_0 dX9_hasNumber_26 ?_
      exact k (0) (Or.inl rfl)
    · refine g_iconst (v := iZ (1)) 22 dX9_hasNumber_21 rfl rfl ?_
      refine g_goto 26 dX9_hasNumber_22 rfl ?_
      refine g_zret rfl z01_1 dX9_hasNumber_26 ?_
      exact k (1) (Or.inr rfl)
set_option maxRecDepth 100000 in
theorem n_here {l : Launch} {h : MH} {Q : Option Value → MH → Prop} {tr : Int64} {mn kt bs ee pa fu st so va ed cm a x p dn tk ie en : Int} {tx : Nat → Int32} (F0 : h[50]? = some (.inr (8, [.long (tr), .ref 51, .int (iZ mn), .ref 52, .ref 53, .int (iZ kt), .ref 54, .ref 55, .ref 56, .ref 57, .ref 58, .ref 59, .ref 60, .int (iZ bs), .int (iZ ee), .int (iZ pa), .int (iZ fu), .int (iZ st), .int (iZ so), .int (iZ va), .int (iZ ed), .ref 61, .ref 62, .ref 63, .ref 64, .int (iZ cm), .int (iZ a), .int (iZ x), .int (iZ p), .int (iZ dn), .int (iZ tk), .int (iZ ie), .ref 65, .ref 66, .ref 67, .int (iZ en), .ref 68, .ref 69, .ref 70]))) (F1 : h[52]? = some (.inl (1, 1600, .inl tx))) (rmn : (0 ≤ mn ∧ mn ≤ 200)) (rkt : (0 ≤ kt ∧ kt ≤ 12)) (rbs : (0 ≤ bs ∧ bs ≤ 1400)) (ree : (0 ≤ ee ∧ ee ≤ 200)) (rpa : (0 ≤ pa ∧ pa ≤ 200)) (rfu : (-9 ≤ fu ∧ fu ≤ 200)) (rst : (0 ≤ st ∧ st ≤ 200)) (rso : (0 ≤ so ∧ so ≤ 5)) (rva : (-100 ≤ va ∧ va ≤ 3000)) (red : (0 ≤ ed ∧ ed ≤ 200)) (rcm : (0 ≤ cm ∧ cm ≤ 256)) (ra : (0 ≤ a ∧ a ≤ 255)) (rx : (0 ≤ x ∧ x ≤ 255)) (rp : (0 ≤ p ∧ p ≤ 255)) (rdn : (0 ≤ dn ∧ dn ≤ 5000)) (rtk : (0 ≤ tk ∧ tk ≤ 200)) (rie : (0 ≤ ie ∧ ie ≤ 1)) (ren : (0 ≤ en ∧ en ≤ 12)) (k : ∀ (r : Int), ((r = -1 ∧ ee ≤ pa) ∨ (r = hb tx (bs + pa) ∧ 0 ≤ r ∧ r ≤ 255 ∧ pa < ee)) → Q (some (.int (iZ r))) h) : Go l mX9_here 0 [some (.ref 50)] [] h Q := by
  refine g_aload_n 1 dX9_here_0 rfl rfl ?_
  refine g_get 4 dX9_here_1 faX9_88_X9 F0 rfl rfl ?_
  refine g_aload_n 5 dX9_here_4 rfl rfl ?_
  refine g_get 8 dX9_here_5 faX9_91_X9 F0 rfl rfl ?_
  refine g_icZ_ge 32 11 dX9_here_8 rfl rfl (by omega) (by omega) (fun c1 => ?_) (fun c1 => ?_)
  · refine g_iconst (v := iZ (-1)) 33 dX9_here_32 rfl rfl ?_
    refine g_iret rfl dX9_here_33 ?_
    exact k (-1) (by omega)
  · refine g_aload_n 12 dX9_here_11 rfl rfl ?_
    refine g_get 15 dX9_here_12 faX9_13_X9 F0 rfl rfl ?_
    refine g_aload_n 16 dX9_here_15 rfl rfl ?_
    refine g_get 19 dX9_here_16 faX9_94_X9 F0 rfl rfl ?_
    refine g_aload_n 20 dX9_here_19 rfl rfl ?_
    refine g_get 23 dX9_here_20 faX9_88_X9 F0 rfl rfl ?_
    refine g_iaddZ (bs + pa) 24 dX9_here_23 (by omega) rfl ?_
    refine g_baldZ 25 dX9_here_24 F1 (by omega) (by omega) (by decide) rfl rfl ?_
    refine Go.zof ?_
    refine g_sipush (v := iZ (255)) 28 dX9_here_25 (by decide +kernel) rfl ?_
    refine g_and255Z (hb tx (bs + pa)) 29 dX9_here_28 rfl rfl ?_
    have hhb : 0 ≤ hb tx (bs + pa) ∧ hb tx (bs + pa) ≤ 255 := by unfold hb; omega
    refine g_goto 33 dX9_here_29 rfl ?_
    refine g_iret rfl dX9_here_33 ?_
    exact k (hb tx (bs + pa)) (by omega)
set_option maxRecDepth 100000 in
theorem n_open {l : Launch} {h : MH} {Q : Option Value → MH → Prop} {tr : Int64} {mn kt bs ee pa fu st so va ed cm a x p dn tk ie en i : Int} {lg : Nat → Int} (F0 : h[50]? = some (.inr (8, [.long (tr), .ref 51, .int (iZ mn), .ref 52, .ref 53, .int (iZ kt), .ref 54, .ref 55, .ref 56, .ref 57, .ref 58, .ref 59, .ref 60, .int (iZ bs), .int (iZ ee), .int (iZ pa), .int (iZ fu), .int (iZ st), .int (iZ so), .int (iZ va), .int (iZ ed), .ref 61, .ref 62, .ref 63, .ref 64, .int (iZ cm), .int (iZ a), .int (iZ x), .int (iZ p), .int (iZ dn), .int (iZ tk), .int (iZ ie), .ref 65, .ref 66, .ref 67, .int (iZ en), .ref 68, .ref 69, .ref 70]))) (F1 : h[53]? = some (.inl (0, 8, .inl (zA lg)))) (olg : oki (0) (200) lg) (rmn : (0 ≤ mn ∧ mn ≤ 200)) (rkt : (0 ≤ kt ∧ kt ≤ 12)) (rbs : (0 ≤ bs ∧ bs ≤ 1400)) (ree : (0 ≤ ee ∧ ee ≤ 200)) (rpa : (0 ≤ pa ∧ pa ≤ 200)) (rfu : (-9 ≤ fu ∧ fu ≤ 200)) (rst : (0 ≤ st ∧ st ≤ 200)) (rso : (0 ≤ so ∧ so ≤ 5)) (rva : (-100 ≤ va ∧ va ≤ 3000)) (red : (0 ≤ ed ∧ ed ≤ 200)) (rcm : (0 ≤ cm ∧ cm ≤ 256)) (ra : (0 ≤ a ∧ a ≤ 255)) (rx : (0 ≤ x ∧ x ≤ 255)) (rp : (0 ≤ p ∧ p ≤ 255)) (rdn : (0 ≤ dn ∧ dn ≤ 5000)) (rtk : (0 ≤ tk ∧ tk ≤ 200)) (rie : (0 ≤ ie ∧ ie ≤ 1)) (ren : (0 ≤ en ∧ en ≤ 12)) (ri : (0 ≤ i ∧ i ≤ 7)) (k : ∀ (h1 : MH) (bs_1 ee_1 pa_1 fu_1 : Int), (0 ≤ bs_1 ∧ bs_1 ≤ 1400) → (0 ≤ ee_1 ∧ ee_1 ≤ 200) → (0 ≤ pa_1 ∧ pa_1 ≤ 200) → (-9 ≤ fu_1 ∧ fu_1 ≤ 200) → (bs_1 = 200 * i) → (pa_1 = 0) → (fu_1 = -9) → Sm [50] h h1 → h1[50]? = some (.inr (8, [.long (tr), .ref 51, .int (iZ mn), .ref 52, .ref 53, .int (iZ kt), .ref 54, .ref 55, .ref 56, .ref 57, .ref 58, .ref 59, .ref 60, .int (iZ bs_1), .int (iZ ee_1), .int (iZ pa_1), .int (iZ fu_1), .int (iZ st), .int (iZ so), .int (iZ va), .int (iZ ed), .ref 61, .ref 62, .ref 63, .ref 64, .int (iZ cm), .int (iZ a), .int (iZ x), .int (iZ p), .int (iZ dn), .int (iZ tk), .int (iZ ie), .ref 65, .ref 66, .ref 67, .int (iZ en), .ref 68, .ref 69, .ref 70])) → Q none h1) : Go l mX9_open 0 [some (.ref 50), some (.int (iZ i))] [] h Q := by
  refine g_aload_n 1 dX9_open_0 rfl rfl ?_
  refine g_sipush (v := iZ (200)) 4 dX9_open_1 (by decide +kernel) rfl ?_
  refine g_iload_n 5 dX9_open_4 rfl rfl ?_
  refine g_imulZ (200 * i) 6 dX9_open_5 (by omega) rfl ?_
  refine g_putC (fs1 := [.long (tr), .ref 51, .int (iZ mn), .ref 52, .ref 53, .int (iZ kt), .ref 54, .ref 55, .ref 56, .ref 57, .ref 58, .ref 59, .ref 60, .int (iZ (200 * i)), .int (iZ ee), .int (iZ pa), .int (iZ fu), .int (iZ st), .int (iZ so), .int (iZ va), .int (iZ ed), .ref 61, .ref 62, .ref 63, .ref 64, .int (iZ cm), .int (iZ a), .int (iZ x), .int (iZ p), .int (iZ dn), .int (iZ tk), .int (iZ ie), .ref 65, .ref 66, .ref 67, .int (iZ en), .ref 68, .ref 69, .ref 70]) 9 dX9_open_6 fpX9_94_X9 F0 (nle rfl) (vI _) rfl rfl (fun h1 s2 f3 => ?_)
  refine g_aload_n 10 dX9_open_9 rfl rfl ?_
  refine g_aload_n 11 dX9_open_10 rfl rfl ?_
  refine g_get 14 dX9_open_11 faX9_16_X9 f3 rfl rfl ?_
  refine g_iload_n 15 dX9_open_14 rfl rfl ?_
  have f4 := (s2.get (by decide) F1)
  refine g_ialdR 16 dX9_open_15 f4 olg (by omega) (by omega) (by decide) rfl (fun v5 rv5 => ?_)
  refine g_putC (fs1 := [.long (tr), .ref 51, .int (iZ mn), .ref 52, .ref 53, .int (iZ kt), .ref 54, .ref 55, .ref 56, .ref 57, .ref 58, .ref 59, .ref 60, .int (iZ (200 * i)), .int (iZ v5), .int (iZ pa), .int (iZ fu), .int (iZ st), .int (iZ so), .int (iZ va), .int (iZ ed), .ref 61, .ref 62, .ref 63, .ref 64, .int (iZ cm), .int (iZ a), .int (iZ x), .int (iZ p), .int (iZ dn), .int (iZ tk), .int (iZ ie), .ref 65, .ref 66, .ref 67, .int (iZ en), .ref 68, .ref 69, .ref 70]) 19 dX9_open_16 fpX9_91_X9 f3 (nle rfl) (vI _) rfl rfl (fun h6 s7 f8 => ?_)
  refine g_aload_n 20 dX9_open_19 rfl rfl ?_
  refine g_iconst (v := iZ (0)) 21 dX9_open_20 rfl rfl ?_
  refine g_putC (fs1 := [.long (tr), .ref 51, .int (iZ mn), .ref 52, .ref 53, .int (iZ kt), .ref 54, .ref 55, .ref 56, .ref 57, .ref 58, .ref 59, .ref 60, .int (iZ (200 * i)), .int (iZ v5), .int (iZ 0), .int (iZ fu), .int (iZ st), .int (iZ so), .int (iZ va), .int (iZ ed), .ref 61, .ref 62, .ref 63, .ref 64, .int (iZ cm), .int (iZ a), .int (iZ x), .int (iZ p), .int (iZ dn), .int (iZ tk), .int (iZ ie), .ref 65, .ref 66, .ref 67, .int (iZ en), .ref 68, .ref 69, .ref 70]) 24 dX9_open_21 fpX9_88_X9 f8 (nle rfl) (vI _) rfl rfl (fun h9 s10 f11 => ?_)
  refine g_aload_n 25 dX9_open_24 rfl rfl ?_
  refine g_bipush (v := iZ (-9)) 27 dX9_open_25 (by decide +kernel) rfl ?_
  refine g_putC (fs1 := [.long (tr), .ref 51, .int (iZ mn), .ref 52, .ref 53, .int (iZ kt), .ref 54, .ref 55, .ref 56, .ref 57, .ref 58, .ref 59, .ref 60, .int (iZ (200 * i)), .int (iZ v5), .int (iZ 0), .int (iZ (-9)), .int (iZ st), .int (iZ so), .int (iZ va), .int (iZ ed), .ref 61, .ref 62, .ref 63, .ref 64, .int (iZ cm), .int (iZ a), .int (iZ x), .int (iZ p), .int (iZ dn), .int (iZ tk), .int (iZ ie), .ref 65, .ref 66, .ref 67, .int (iZ en), .ref 68, .ref 69, .ref 70]) 30 dX9_open_27 fpX9_97_X9 f11 (nle rfl) (vI _) rfl rfl (fun h12 s13 f14 => ?_)
  refine g_vret rfl dX9_open_30 ?_
  exact k _ (200 * i) (v5) (0) (-9) (by omega) (by omega) (by omega) (by omega) (by omega) (by omega) (by omega) (((((Sm.refl [50] _).tr s2 (fun _ q => q) (by simp)).tr s7 (fun _ q => q) (by simp)).tr s10 (fun _ q => q) (by simp)).tr s13 (fun _ q => q) (by simp)) f14
set_option maxRecDepth 100000 in
theorem n_passL {l : Launch} {Q : Option Value → MH → Prop} {tr : Int64} {mn kt bs ee fu st so va ed cm a x p dn tk ie en : Int} {tx : Nat → Int32} (c : Int) (rmn : (0 ≤ mn ∧ mn ≤ 200)) (rkt : (0 ≤ kt ∧ kt ≤ 12)) (rbs : (0 ≤ bs ∧ bs ≤ 1400)) (ree : (0 ≤ ee ∧ ee ≤ 200)) (rfu : (-9 ≤ fu ∧ fu ≤ 200)) (rst : (0 ≤ st ∧ st ≤ 200)) (rso : (0 ≤ so ∧ so ≤ 5)) (rva : (-100 ≤ va ∧ va ≤ 3000)) (red : (0 ≤ ed ∧ ed ≤ 200)) (rcm : (0 ≤ cm ∧ cm ≤ 256)) (ra : (0 ≤ a ∧ a ≤ 255)) (rx : (0 ≤ x ∧ x ≤ 255)) (rp : (0 ≤ p ∧ p ≤ 255)) (rdn : (0 ≤ dn ∧ dn ≤ 5000)) (rtk : (0 ≤ tk ∧ tk ≤ 200)) (rie : (0 ≤ ie ∧ ie ≤ 1)) (ren : (0 ≤ en ∧ en ≤ 12)) : ∀ (m0 : Nat) (h : MH) (pa : Int), (200 - pa).toNat = m0 → 0 ≤ pa ∧ pa ≤ 200 → h[50]? = some (.inr (8, [.long (tr), .ref 51, .int (iZ mn), .ref 52, .ref 53, .int (iZ kt), .ref 54, .ref 55, .ref 56, .ref 57, .ref 58, .ref 59, .ref 60, .int (iZ bs), .int (iZ ee), .int (iZ pa), .int (iZ fu), .int (iZ st), .int (iZ so), .int (iZ va), .int (iZ ed), .ref 61, .ref 62, .ref 63, .ref 64, .int (iZ cm), .int (iZ a), .int (iZ x), .int (iZ p), .int (iZ dn), .int (iZ tk), .int (iZ ie), .ref 65, .ref 66, .ref 67, .int (iZ en), .ref 68, .ref 69, .ref 70])) → h[52]? = some (.inl (1, 1600, .inl tx)) → (∀ (h1 : MH) (pa1 : Int), pa ≤ pa1 ∧ pa1 ≤ 200 → (pa ≤ ee → pa1 ≤ ee) → (pa < ee ∧ hb tx (bs + pa) ≠ 10 → pa < pa1) → Sm [50] h h1 → h1[50]? = some (.inr (8, [.long (tr), .ref 51, .int (iZ mn), .ref 52, .ref 53, .int (iZ kt), .ref 54, .ref 55, .ref 56, .ref 57, .ref 58, .ref 59, .ref 60, .int (iZ bs), .int (iZ ee), .int (iZ pa1), .int (iZ fu), .int (iZ st), .int (iZ so), .int (iZ va), .int (iZ ed), .ref 61, .ref 62, .ref 63, .ref 64, .int (iZ cm), .int (iZ a), .int (iZ x), .int (iZ p), .int (iZ dn), .int (iZ tk), .int (iZ ie), .ref 65, .ref 66, .ref 67, .int (iZ en), .ref 68, .ref 69, .ref 70])) → Go l mX9_pass 82 [some (.ref 50), some (.int (iZ 1)), some (.int (iZ c))] [] h1 Q) → Go l mX9_pass 17 [some (.ref 50), some (.int (iZ 1)), some (.int (iZ c))] [] h Q := by
  intro m0
  induction m0 using Nat.strongRecOn with
  | ind m0 ih =>
    intro h pa hmz hpa F0 F1 k
    refine g_aload_n 18 dX9_pass_17 rfl rfl ?_
    refine g_callV (z := mX9_here) (As := []) 21 dX9_pass_18 mwX9_here ⟨by decide, by decide⟩ rfl wlX9_100 wiX9_here wsX9_here F0 rfl rfl rfl (nle rfl) (nle rfl) rfl ?_
    refine n_here  F0 F1 (by omega) (by omega) (by omega) (by omega) (by omega) (by omega) (by omega) (by omega) (by omega) (by omega) (by omega) (by omega) (by omega) (by omega) (by omega) (by omega) (by omega) (by omega) (fun z1 rz1 => ?_)
    refine rI ?_
    refine g_ifZ_lt 82 24 dX9_pass_21 rfl rfl (by omega) (fun c2 => ?_) (fun c2 => ?_)
    · exact k h pa (by omega) (by omega) (by omega) (Sm.refl _ _) F0
    · refine g_aload_n 25 dX9_pass_24 rfl rfl ?_
      refine g_callV (z := mX9_here) (As := []) 28 dX9_pass_25 mwX9_here ⟨by decide, by decide⟩ rfl wlX9_100 wiX9_here wsX9_here F0 rfl rfl rfl (nle rfl) (nle rfl) rfl ?_
      refine n_here  F0 F1 (by omega) (by omega) (by omega) (by omega) (by omega) (by omega) (by omega) (by omega) (by omega) (by omega) (by omega) (by omega) (by omega) (by omega) (by omega) (by omega) (by omega) (by omega) (fun z3 rz3 => ?_)
      refine rI ?_
      refine g_bipush (v := iZ (10)) 30 dX9_pass_28 (by decide +kernel) rfl ?_
      refine g_icZ_eq 82 33 dX9_pass_30 rfl rfl (by omega) (by decide) (fun c4 => ?_) (fun c4 => ?_)
      · exact k h pa (by omega) (by omega) (by omega) (Sm.refl _ _) F0
      · refine g_aload_n 34 dX9_pass_33 rfl rfl ?_
        refine g_dup 35 dX9_pass_34 rfl rfl ?_
        refine g_get 38 dX9_pass_35 faX9_88_X9 F0 rfl rfl ?_
        refine g_iconst (v := iZ (1)) 39 dX9_pass_38 rfl rfl ?_
        refine g_iaddZ (pa + 1) 40 dX9_pass_39 (by omega) rfl ?_
        refine g_putC (fs1 := [.long (tr), .ref 51, .int (iZ mn), .ref 52, .ref 53, .int (iZ kt), .ref 54, .ref 55, .ref 56, .ref 57, .ref 58, .ref 59, .ref 60, .int (iZ bs), .int (iZ ee), .int (iZ (pa + 1)), .int (iZ fu), .int (iZ st), .int (iZ so), .int (iZ va), .int (iZ ed), .ref 61, .ref 62, .ref 63, .ref 64, .int (iZ cm), .int (iZ a), .int (iZ x), .int (iZ p), .int (iZ dn), .int (iZ tk), .int (iZ ie), .ref 65, .ref 66, .ref 67, .int (iZ en), .ref 68, .ref 69, .ref 70]) 43 dX9_pass_40 fpX9_88_X9 F0 (nle rfl) (vI _) rfl rfl (fun h5 s6 f7 => ?_)
        refine g_goto 17 dX9_pass_43 rfl ?_
        have f8 := (s6.get (by decide) F1)
        refine ih _ (by omega) _ (pa + 1) rfl (by omega) f7 f8 (fun h1 pa1 q1 q2 q3 s1 u0 => k h1 pa1 (by omega) (by omega) (by omega) (s6.tr s1 (fun _ q => q) (fun _ q => q)) u0)
set_option maxRecDepth 100000 in
theorem n_passI_l {l : Launch} {Q : Option Value → MH → Prop} {tr : Int64} {mn kt bs ee fu st so va ed cm a x p dn tk ie en : Int} {tx : Nat → Int32} (rmn : (0 ≤ mn ∧ mn ≤ 200)) (rkt : (0 ≤ kt ∧ kt ≤ 12)) (rbs : (0 ≤ bs ∧ bs ≤ 1400)) (ree : (0 ≤ ee ∧ ee ≤ 200)) (rfu : (-9 ≤ fu ∧ fu ≤ 200)) (rst : (0 ≤ st ∧ st ≤ 200)) (rso : (0 ≤ so ∧ so ≤ 5)) (rva : (-100 ≤ va ∧ va ≤ 3000)) (red : (0 ≤ ed ∧ ed ≤ 200)) (rcm : (0 ≤ cm ∧ cm ≤ 256)) (ra : (0 ≤ a ∧ a ≤ 255)) (rx : (0 ≤ x ∧ x ≤ 255)) (rp : (0 ≤ p ∧ p ≤ 255)) (rdn : (0 ≤ dn ∧ dn ≤ 5000)) (rtk : (0 ≤ tk ∧ tk ≤ 200)) (rie : (0 ≤ ie ∧ ie ≤ 1)) (ren : (0 ≤ en ∧ en ≤ 12)) : ∀ (m0 : Nat) (h : MH) (pa : Int) (mo : Int), (2 * (200 - pa) + mo).toNat = m0 → (0 ≤ pa ∧ pa ≤ 200) → h[50]? = some (.inr (8, [.long (tr), .ref 51, .int (iZ mn), .ref 52, .ref 53, .int (iZ kt), .ref 54, .ref 55, .ref 56, .ref 57, .ref 58, .ref 59, .ref 60, .int (iZ bs), .int (iZ ee), .int (iZ pa), .int (iZ fu), .int (iZ st), .int (iZ so), .int (iZ va), .int (iZ ed), .ref 61, .ref 62, .ref 63, .ref 64, .int (iZ cm), .int (iZ a), .int (iZ x), .int (iZ p), .int (iZ dn), .int (iZ tk), .int (iZ ie), .ref 65, .ref 66, .ref 67, .int (iZ en), .ref 68, .ref 69, .ref 70])) → h[52]? = some (.inl (1, 1600, .inl tx)) → mo = 0 ∨ mo = 1 → (∀ (h1 : MH) (pa_1 : Int), (0 ≤ pa_1 ∧ pa_1 ≤ 200) → (pa ≤ pa_1) → (pa ≤ ee → pa_1 ≤ ee) → Sm [50] h h1 → h1[50]? = some (.inr (8, [.long (tr), .ref 51, .int (iZ mn), .ref 52, .ref 53, .int (iZ kt), .ref 54, .ref 55, .ref 56, .ref 57, .ref 58, .ref 59, .ref 60, .int (iZ bs), .int (iZ ee), .int (iZ pa_1), .int (iZ fu), .int (iZ st), .int (iZ so), .int (iZ va), .int (iZ ed), .ref 61, .ref 62, .ref 63, .ref 64, .int (iZ cm), .int (iZ a), .int (iZ x), .int (iZ p), .int (iZ dn), .int (iZ tk), .int (iZ ie), .ref 65, .ref 66, .ref 67, .int (iZ en), .ref 68, .ref 69, .ref 70])) → Q none h1) → Go l mX9_pass 2 [some (.ref 50), some (.int (iZ mo)), none] [] h Q := by
  intro m0
  induction m0 using Nat.strongRecOn with
  | ind m0 ih =>
    intro h pa mo hmz rpa F0 F1 hmo k
    refine g_iload_n 3 dX9_pass_2 rfl rfl ?_
    refine g_ifZ_eq 85 6 dX9_pass_3 rfl rfl (rg01 hmo) (fun c1 => ?_) (fun c1 => ?_)
    · refine g_vret rfl dX9_pass_85 ?_
      exact k _ (pa) (by omega) (by omega) (by omega) (Sm.refl [50] _) F0
    · refine g_aload_n 7 dX9_pass_6 rfl rfl ?_
      refine g_callV (z := mX9_here) (As := []) 10 dX9_pass_7 mwX9_here ⟨by decide, by decide⟩ rfl wlX9_100 wiX9_here wsX9_here F0 rfl rfl rfl (nle rfl) (nle rfl) rfl ?_
      refine n_here  F0 F1 (by omega) (by omega) (by omega) (by omega) (by omega) (by omega) (by omega) (by omega) (by omega) (by omega) (by omega) (by omega) (by omega) (by omega) (by omega) (by omega) (by omega) (by omega) (fun z2 rz2 => ?_)
      refine rI ?_
      refine g_istore_n (L1 := [some (.ref 50), some (.int (iZ mo)), some (.int (iZ z2))]) 11 dX9_pass_10 (by decide) rfl rfl rfl ?_
      refine g_iload_n 12 dX9_pass_11 rfl rfl ?_
      refine g_bipush (v := iZ (35)) 14 dX9_pass_12 (by decide +kernel) rfl ?_
      refine g_icZ_ne 46 17 dX9_pass_14 rfl rfl (by omega) (by decide) (fun c3 => ?_) (fun c3 => ?_)
      · refine g_iload_n 47 dX9_pass_46 rfl rfl ?_
        refine g_bipush (v := iZ (32)) 49 dX9_pass_47 (by decide +kernel) rfl ?_
        refine g_icZ_eq 58 52 dX9_pass_49 rfl rfl (by omega) (by decide) (fun c4 => ?_) (fun c4 => ?_)
        · refine g_iconst (v := iZ (1)) 59 dX9_pass_58 rfl rfl ?_
          refine g_goto 63 dX9_pass_59 rfl ?_
          refine g_istore_n (L1 := [some (.ref 50), some (.int (iZ 1)), some (.int (iZ z2))]) 64 dX9_pass_63 (by decide) rfl rfl rfl ?_
          refine g_aload_n 65 dX9_pass_64 rfl rfl ?_
          refine g_dup 66 dX9_pass_65 rfl rfl ?_
          refine g_get 69 dX9_pass_66 faX9_88_X9 F0 rfl rfl ?_
          refine g_iload_n 70 dX9_pass_69 rfl rfl ?_
          refine g_ifZ_eq 77 73 dX9_pass_70 rfl rfl (by decide) (fun q => absurd q (by decide)) (fun _ => ?_)
          refine g_iconst (v := iZ (1)) 74 dX9_pass_73 rfl rfl ?_
          refine g_goto 78 dX9_pass_74 rfl ?_
          refine g_iaddZ (pa + 1) 79 dX9_pass_78 (by omega) rfl ?_
          refine g_putC (fs1 := [.long (tr), .ref 51, .int (iZ mn), .ref 52, .ref 53, .int (iZ kt), .ref 54, .ref 55, .ref 56, .ref 57, .ref 58, .ref 59, .ref 60, .int (iZ bs), .int (iZ ee), .int (iZ (pa + 1)), .int (iZ fu), .int (iZ st), .int (iZ so), .int (iZ va), .int (iZ ed), .ref 61, .ref 62, .ref 63, .ref 64, .int (iZ cm), .int (iZ a), .int (iZ x), .int (iZ p), .int (iZ dn), .int (iZ tk), .int (iZ ie), .ref 65, .ref 66, .ref 67, .int (iZ en), .ref 68, .ref 69, .ref 70]) 82 dX9_pass_79 fpX9_88_X9 F0 (nle rfl) (vI _) rfl rfl (fun h5 s6 f7 => ?_)
          refine g_goto 2 dX9_pass_82 rfl ?_
          refine Go.fgt 2 ?_
          have f8 := (s6.get (by decide) F1)
          exact ih _ (by omega) _ (pa + 1) (1) rfl (by omega) f7 f8 (Or.inr rfl) (fun hQ xQ0 yQ0 pQ0 pQ1 sQ uQ0 => k hQ xQ0 yQ0 (by omega) (by omega) (((Sm.refl [50] _).tr s6 (fun _ q => q) (by simp)).tr sQ (fun _ q => q) (fun _ q => q)) uQ0)
        · refine g_iload_n 53 dX9_pass_52 rfl rfl ?_
          refine g_bipush (v := iZ (10)) 55 dX9_pass_53 (by decide +kernel) rfl ?_
          refine g_icZ_ne 62 58 dX9_pass_55 rfl rfl (by omega) (by decide) (fun c9 => ?_) (fun c9 => ?_)
          · refine g_iconst (v := iZ (0)) 63 dX9_pass_62 rfl rfl ?_
            refine g_istore_n (L1 := [some (.ref 50), some (.int (iZ 0)), some (.int (iZ z2))]) 64 dX9_pass_63 (by decide) rfl rfl rfl ?_
            refine g_aload_n 65 dX9_pass_64 rfl rfl ?_
            refine g_dup 66 dX9_pass_65 rfl rfl ?_
            refine g_get 69 dX9_pass_66 faX9_88_X9 F0 rfl rfl ?_
            refine g_iload_n 70 dX9_pass_69 rfl rfl ?_
            refine g_ifZ_eq 77 73 dX9_pass_70 rfl rfl (by decide) (fun _ => ?_) (fun q => absurd q (by decide))
            refine g_iconst (v := iZ (0)) 78 dX9_pass_77 rfl rfl ?_
            refine g_iaddZ (pa + 0) 79 dX9_pass_78 (by omega) rfl ?_
            refine g_putC (fs1 := [.long (tr), .ref 51, .int (iZ mn), .ref 52, .ref 53, .int (iZ kt), .ref 54, .ref 55, .ref 56, .ref 57, .ref 58, .ref 59, .ref 60, .int (iZ bs), .int (iZ ee), .int (iZ (pa + 0)), .int (iZ fu), .int (iZ st), .int (iZ so), .int (iZ va), .int (iZ ed), .ref 61, .ref 62, .ref 63, .ref 64, .int (iZ cm), .int (iZ a), .int (iZ x), .int (iZ p), .int (iZ dn), .int (iZ tk), .int (iZ ie), .ref 65, .ref 66, .ref 67, .int (iZ en), .ref 68, .ref 69, .ref 70]) 82 dX9_pass_79 fpX9_88_X9 F0 (nle rfl) (vI _) rfl rfl (fun h10 s11 f12 => ?_)
            refine g_goto 2 dX9_pass_82 rfl ?_
            refine Go.fgt 2 ?_
            have f13 := (s11.get (by decide) F1)
            exact ih _ (by omega) _ (pa + 0) (0) rfl (by omega) f12 f13 (Or.inl rfl) (fun hQ xQ0 yQ0 pQ0 pQ1 sQ uQ0 => k hQ xQ0 yQ0 (by omega) (by omega) (((Sm.refl [50] _).tr s11 (fun _ q => q) (by simp)).tr sQ (fun _ q => q) (fun _ q => q)) uQ0)
          · refine g_iconst (v := iZ (1)) 59 dX9_pass_58 rfl rfl ?_
            refine g_goto 63 dX9_pass_59 rfl ?_
            refine g_istore_n (L1 := [some (.ref 50), some (.int (iZ 1)), some (.int (iZ z2))]) 64 dX9_pass_63 (by decide) rfl rfl rfl ?_
            refine g_aload_n 65 dX9_pass_64 rfl rfl ?_
            refine g_dup 66 dX9_pass_65 rfl rfl ?_
            refine g_get 69 dX9_pass_66 faX9_88_X9 F0 rfl rfl ?_
            refine g_iload_n 70 dX9_pass_69 rfl rfl ?_
            refine g_ifZ_eq 77 73 dX9_pass_70 rfl rfl (by decide) (fun q => absurd q (by decide)) (fun _ => ?_)
            refine g_iconst (v := iZ (1)) 74 dX9_pass_73 rfl rfl ?_
            refine g_goto 78 dX9_pass_74 rfl ?_
            refine g_iaddZ (pa + 1) 79 dX9_pass_78 (by omega) rfl ?_
            refine g_putC (fs1 := [.long (tr), .ref 51, .int (iZ mn), .ref 52, .ref 53, .int (iZ kt), .ref 54, .ref 55, .ref 56, .ref 57, .ref 58, .ref 59, .ref 60, .int (iZ bs), .int (iZ ee), .int (iZ (pa + 1)), .int (iZ fu), .int (iZ st), .int (iZ so), .int (iZ va), .int (iZ ed), .ref 61, .ref 62, .ref 63, .ref 64, .int (iZ cm), .int (iZ a), .int (iZ x), .int (iZ p), .int (iZ dn), .int (iZ tk), .int (iZ ie), .ref 65, .ref 66, .ref 67, .int (iZ en), .ref 68, .ref 69, .ref 70]) 82 dX9_pass_79 fpX9_88_X9 F0 (nle rfl) (vI _) rfl rfl (fun h14 s15 f16 => ?_)
            refine g_goto 2 dX9_pass_82 rfl ?_
            refine Go.fgt 2 ?_
            have f17 := (s15.get (by decide) F1)
            exact ih _ (by omega) _ (pa + 1) (1) rfl (by omega) f16 f17 (Or.inr rfl) (fun hQ xQ0 yQ0 pQ0 pQ1 sQ uQ0 => k hQ xQ0 yQ0 (by omega) (by omega) (((Sm.refl [50] _).tr s15 (fun _ q => q) (by simp)).tr sQ (fun _ q => q) (fun _ q => q)) uQ0)
      · obtain rfl : mo = 1 := by omega
        refine n_passL (z2) (by omega) (by omega) (by omega) (by omega) (by omega) (by omega) (by omega) (by omega) (by omega) (by omega) (by omega) (by omega) (by omega) (by omega) (by omega) (by omega) (by omega) _ _ (pa) rfl (by omega) F0 F1 (fun h19 z18 p22 p23 p24 s20 f21 => ?_)
        refine g_goto 2 dX9_pass_82 rfl ?_
        refine Go.fgt 2 ?_
        have f25 := (s20.get (by decide) F1)
        exact ih _ (by omega) _ (z18) (1) rfl (by omega) f21 f25 (Or.inr rfl) (fun hQ xQ0 yQ0 pQ0 pQ1 sQ uQ0 => k hQ xQ0 yQ0 (by omega) (by omega) (((Sm.refl [50] _).tr s20 (fun _ q => q) (by simp)).tr sQ (fun _ q => q) (fun _ q => q)) uQ0)
set_option maxRecDepth 100000 in
theorem n_passI {l : Launch} {h : MH} {Q : Option Value → MH → Prop} {tr : Int64} {mn kt bs ee pa fu st so va ed cm a x p dn tk ie en : Int} {tx : Nat → Int32} (F0 : h[50]? = some (.inr (8, [.long (tr), .ref 51, .int (iZ mn), .ref 52, .ref 53, .int (iZ kt), .ref 54, .ref 55, .ref 56, .ref 57, .ref 58, .ref 59, .ref 60, .int (iZ bs), .int (iZ ee), .int (iZ pa), .int (iZ fu), .int (iZ st), .int (iZ so), .int (iZ va), .int (iZ ed), .ref 61, .ref 62, .ref 63, .ref 64, .int (iZ cm), .int (iZ a), .int (iZ x), .int (iZ p), .int (iZ dn), .int (iZ tk), .int (iZ ie), .ref 65, .ref 66, .ref 67, .int (iZ en), .ref 68, .ref 69, .ref 70]))) (F1 : h[52]? = some (.inl (1, 1600, .inl tx))) (rmn : (0 ≤ mn ∧ mn ≤ 200)) (rkt : (0 ≤ kt ∧ kt ≤ 12)) (rbs : (0 ≤ bs ∧ bs ≤ 1400)) (ree : (0 ≤ ee ∧ ee ≤ 200)) (rpa : (0 ≤ pa ∧ pa ≤ 200)) (rfu : (-9 ≤ fu ∧ fu ≤ 200)) (rst : (0 ≤ st ∧ st ≤ 200)) (rso : (0 ≤ so ∧ so ≤ 5)) (rva : (-100 ≤ va ∧ va ≤ 3000)) (red : (0 ≤ ed ∧ ed ≤ 200)) (rcm : (0 ≤ cm ∧ cm ≤ 256)) (ra : (0 ≤ a ∧ a ≤ 255)) (rx : (0 ≤ x ∧ x ≤ 255)) (rp : (0 ≤ p ∧ p ≤ 255)) (rdn : (0 ≤ dn ∧ dn ≤ 5000)) (rtk : (0 ≤ tk ∧ tk ≤ 200)) (rie : (0 ≤ ie ∧ ie ≤ 1)) (ren : (0 ≤ en ∧ en ≤ 12)) (k : ∀ (h1 : MH) (pa_1 : Int), (0 ≤ pa_1 ∧ pa_1 ≤ 200) → (pa ≤ pa_1) → (pa ≤ ee → pa_1 ≤ ee) → Sm [50] h h1 → h1[50]? = some (.inr (8, [.long (tr), .ref 51, .int (iZ mn), .ref 52, .ref 53, .int (iZ kt), .ref 54, .ref 55, .ref 56, .ref 57, .ref 58, .ref 59, .ref 60, .int (iZ bs), .int (iZ ee), .int (iZ pa_1), .int (iZ fu), .int (iZ st), .int (iZ so), .int (iZ va), .int (iZ ed), .ref 61, .ref 62, .ref 63, .ref 64, .int (iZ cm), .int (iZ a), .int (iZ x), .int (iZ p), .int (iZ dn), .int (iZ tk), .int (iZ ie), .ref 65, .ref 66, .ref 67, .int (iZ en), .ref 68, .ref 69, .ref 70])) → Q none h1) : Go l mX9_pass 0 [some (.ref 50), none, none] [] h Q := by
  refine g_iconst (v := iZ (1)) 1 dX9_pass_0 rfl rfl ?_
  refine g_istore_n (L1 := [some (.ref 50), some (.int (iZ 1)), none]) 2 dX9_pass_1 (by decide) rfl rfl rfl ?_
  exact n_passI_l rmn rkt rbs ree rfu rst rso rva red rcm ra rx rp rdn rtk rie ren _ _ (pa) (1) rfl (by omega) F0 F1 (Or.inr rfl) k

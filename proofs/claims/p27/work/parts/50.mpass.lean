/-- the byte at j, as here() reads it -/
def hb (f : Nat → Int32) (j : Int) : Int := (f j.toNat).toInt % 256
set_option maxRecDepth 100000 in
theorem n_in {l : Launch} {h : MH} {Q : Option Value → MH → Prop} {v lo hi : Int} (rv : rg v) (rlo : rg lo) (rhi : rg hi) (k : ∀ (r : Int), ((r = 1 ∧ lo ≤ v ∧ v ≤ hi) ∨ (r = 0 ∧ (v < lo ∨ hi < v))) → Q (some (.int (iZ r))) h) : Go l mX9_in 0 [some (.int (iZ v)), some (.int (iZ lo)), some (.int (iZ hi))] [] h Q := by
  refine g_iload_n 1 dX9_in_0 rfl rfl ?_
  refine g_iload_n 2 dX9_in_1 rfl rfl ?_
  refine g_icZ_lt 14 5 dX9_in_2 rfl rfl rv rlo (fun c1 => ?_) (fun c1 => ?_)
  · refine g_iconst (v := iZ (0)) 15 dX9_in_14 rfl rfl ?_
    refine g_zret rfl z01_0 dX9_in_15 ?_
    exact k (0) (by omega)
  · refine g_iload_n 6 dX9_in_5 rfl rfl ?_
    refine g_iload_n 7 dX9_in_6 rfl rfl ?_
    refine g_icZ_gt 14 10 dX9_in_7 rfl rfl rv rhi (fun c2 => ?_) (fun c2 => ?_)
    · refine g_iconst (v := iZ (0)) 15 dX9_in_14 rfl rfl ?_
      refine g_zret rfl z01_0 dX9_in_15 ?_
      exact k (0) (by omega)
    · refine g_iconst (v := iZ (1)) 11 dX9_in_10 rfl rfl ?_
      refine g_goto 15 dX9_in_11 rfl ?_
      refine g_zret rfl z01_1 dX9_in_15 ?_
      exact k (1) (by omega)
set_option maxRecDepth 100000 in
theorem n_isText {l : Launch} {h : MH} {Q : Option Value → MH → Prop} {v : Int} (rv : rg v) (k : ∀ (r : Int), ((r = 1 ∧ 0 ≤ v ∧ v ≤ 7) ∨ (r = 0 ∧ (v < 0 ∨ 7 < v))) → Q (some (.int (iZ r))) h) : Go l mX9_isText 0 [some (.int (iZ v))] [] h Q := by
  refine g_iload_n 1 dX9_isText_0 rfl rfl ?_
  refine g_iconst (v := iZ (0)) 2 dX9_isText_1 rfl rfl ?_
  refine g_bipush (v := iZ (7)) 4 dX9_isText_2 (by decide +kernel) rfl ?_
  refine g_callS (z := mX9_in) (As := [.int (iZ v), .int (iZ 0), .int (iZ 7)]) 7 dX9_isText_4 mwX9_in ⟨by decide, by decide⟩ rfl wlX9_75 wtX9_in rfl (nle rfl) (nle rfl) rfl ?_
  refine n_in  rv (by decide) (by decide) (fun z1 rz1 => ?_)
  refine rI ?_
  refine g_zret rfl (z01 (by omega)) dX9_isText_7 ?_
  exact k (z1) (by omega)
set_option maxRecDepth 100000 in
theorem n_isTool {l : Launch} {h : MH} {Q : Option Value → MH → Prop} {tr : Int64} {mn kt bs ee pa fu st so va ed cm a x p dn tk ie en v : Int} (F0 : h[50]? = some (.inr (8, [.long (tr), .ref 51, .int (iZ mn), .ref 52, .ref 53, .int (iZ kt), .ref 54, .ref 55, .ref 56, .ref 57, .ref 58, .ref 59, .ref 60, .int (iZ bs), .int (iZ ee), .int (iZ pa), .int (iZ fu), .int (iZ st), .int (iZ so), .int (iZ va), .int (iZ ed), .ref 61, .ref 62, .ref 63, .ref 64, .int (iZ cm), .int (iZ a), .int (iZ x), .int (iZ p), .int (iZ dn), .int (iZ tk), .int (iZ ie), .ref 65, .ref 66, .ref 67, .int (iZ en), .ref 68, .ref 69, .ref 70]))) (rmn : (0 ≤ mn ∧ mn ≤ 200)) (rkt : (0 ≤ kt ∧ kt ≤ 12)) (rbs : (0 ≤ bs ∧ bs ≤ 1400)) (ree : (0 ≤ ee ∧ ee ≤ 200)) (rpa : (0 ≤ pa ∧ pa ≤ 200)) (rfu : (-9 ≤ fu ∧ fu ≤ 200)) (rst : (0 ≤ st ∧ st ≤ 200)) (rso : (0 ≤ so ∧ so ≤ 5)) (rva : (-100 ≤ va ∧ va ≤ 3000)) (red : (0 ≤ ed ∧ ed ≤ 200)) (rcm : (0 ≤ cm ∧ cm ≤ 256)) (ra : (0 ≤ a ∧ a ≤ 255)) (rx : (0 ≤ x ∧ x ≤ 255)) (rp : (0 ≤ p ∧ p ≤ 255)) (rdn : (0 ≤ dn ∧ dn ≤ 5000)) (rtk : (0 ≤ tk ∧ tk ≤ 200)) (rie : (0 ≤ ie ∧ ie ≤ 1)) (ren : (0 ≤ en ∧ en ≤ 12)) (rv : rg v) (k : ∀ (r : Int), ((r = 1 ∧ 0 ≤ v ∧ v < kt) ∨ (r = 0 ∧ (v < 0 ∨ kt ≤ v))) → Q (some (.int (iZ r))) h) : Go l mX9_isTool 0 [some (.ref 50), some (.int (iZ v))] [] h Q := by
  refine g_iload_n 1 dX9_isTool_0 rfl rfl ?_
  refine g_iconst (v := iZ (0)) 2 dX9_isTool_1 rfl rfl ?_
  refine g_aload_n 3 dX9_isTool_2 rfl rfl ?_
  refine g_get 6 dX9_isTool_3 faX9_85_X9 F0 rfl rfl ?_
  refine g_iconst (v := iZ (1)) 7 dX9_isTool_6 rfl rfl ?_
  refine g_isubZ (kt - 1) 8 dX9_isTool_7 (by omega) rfl ?_
  refine g_callS (z := mX9_in) (As := [.int (iZ v), .int (iZ 0), .int (iZ (kt - 1))]) 11 dX9_isTool_8 mwX9_in ⟨by decide, by decide⟩ rfl wlX9_75 wtX9_in rfl (nle rfl) (nle rfl) rfl ?_
  refine n_in  rv (by decide) (by omega) (fun z1 rz1 => ?_)
  refine rI ?_
  refine g_zret rfl (z01 (by omega)) dX9_isTool_11 ?_
  exact k (z1) (by omega)
set_option maxRecDepth 100000 in
theorem n_isEd {l : Launch} {h : MH} {Q : Option Value → MH → Prop} {tr : Int64} {mn kt bs ee pa fu st so va ed cm a x p dn tk ie en v : Int} (F0 : h[50]? = some (.inr (8, [.long (tr), .ref 51, .int (iZ mn), .ref 52, .ref 53, .int (iZ kt), .ref 54, .ref 55, .ref 56, .ref 57, .ref 58, .ref 59, .ref 60, .int (iZ bs), .int (iZ ee), .int (iZ pa), .int (iZ fu), .int (iZ st), .int (iZ so), .int (iZ va), .int (iZ ed), .ref 61, .ref 62, .ref 63, .ref 64, .int (iZ cm), .int (iZ a), .int (iZ x), .int (iZ p), .int (iZ dn), .int (iZ tk), .int (iZ ie), .ref 65, .ref 66, .ref 67, .int (iZ en), .ref 68, .ref 69, .ref 70]))) (rmn : (0 ≤ mn ∧ mn ≤ 200)) (rkt : (0 ≤ kt ∧ kt ≤ 12)) (rbs : (0 ≤ bs ∧ bs ≤ 1400)) (ree : (0 ≤ ee ∧ ee ≤ 200)) (rpa : (0 ≤ pa ∧ pa ≤ 200)) (rfu : (-9 ≤ fu ∧ fu ≤ 200)) (rst : (0 ≤ st ∧ st ≤ 200)) (rso : (0 ≤ so ∧ so ≤ 5)) (rva : (-100 ≤ va ∧ va ≤ 3000)) (red : (0 ≤ ed ∧ ed ≤ 200)) (rcm : (0 ≤ cm ∧ cm ≤ 256)) (ra : (0 ≤ a ∧ a ≤ 255)) (rx : (0 ≤ x ∧ x ≤ 255)) (rp : (0 ≤ p ∧ p ≤ 255)) (rdn : (0 ≤ dn ∧ dn ≤ 5000)) (rtk : (0 ≤ tk ∧ tk ≤ 200)) (rie : (0 ≤ ie ∧ ie ≤ 1)) (ren : (0 ≤ en ∧ en ≤ 12)) (rv : rg v) (k : ∀ (r : Int), ((r = 1 ∧ 0 ≤ v ∧ v < en) ∨ (r = 0 ∧ (v < 0 ∨ en ≤ v))) → Q (some (.int (iZ r))) h) : Go l mX9_isEdition 0 [some (.ref 50), some (.int (iZ v))] [] h Q := by
  refine g_iload_n 1 dX9_isEdition_0 rfl rfl ?_
  refine g_iconst (v := iZ (0)) 2 dX9_isEdition_1 rfl rfl ?_
  refine g_aload_n 3 dX9_isEdition_2 rfl rfl ?_
  refine g_get 6 dX9_isEdition_3 faX9_236_X9 F0 rfl rfl ?_
  refine g_iconst (v := iZ (1)) 7 dX9_isEdition_6 rfl rfl ?_
  refine g_isubZ (en - 1) 8 dX9_isEdition_7 (by omega) rfl ?_
  refine g_callS (z := mX9_in) (As := [.int (iZ v), .int (iZ 0), .int (iZ (en - 1))]) 11 dX9_isEdition_8 mwX9_in ⟨by decide, by decide⟩ rfl wlX9_75 wtX9_in rfl (nle rfl) (nle rfl) rfl ?_
  refine n_in  rv (by decide) (by omega) (fun z1 rz1 => ?_)
  refine rI ?_
  refine g_zret rfl (z01 (by omega)) dX9_isEdition_11 ?_
  exact k (z1) (by omega)
set_option maxRecDepth 100000 in
theorem n_here {l : Launch} {h : MH} {Q : Option Value → MH → Prop} {tr : Int64} {mn kt bs ee pa fu st so va ed cm a x p dn tk ie en : Int} {tx : Nat → Int32} (F0 : h[50]? = some (.inr (8, [.long (tr), .ref 51, .int (iZ mn), .ref 52, .ref 53, .int (iZ kt), .ref 54, .ref 55, .ref 56, .ref 57, .ref 58, .ref 59, .ref 60, .int (iZ bs), .int (iZ ee), .int (iZ pa), .int (iZ fu), .int (iZ st), .int (iZ so), .int (iZ va), .int (iZ ed), .ref 61, .ref 62, .ref 63, .ref 64, .int (iZ cm), .int (iZ a), .int (iZ x), .int (iZ p), .int (iZ dn), .int (iZ tk), .int (iZ ie), .ref 65, .ref 66, .ref 67, .int (iZ en), .ref 68, .ref 69, .ref 70]))) (F1 : h[52]? = some (.inl (1, 1600, .inl tx))) (rmn : (0 ≤ mn ∧ mn ≤ 200)) (rkt : (0 ≤ kt ∧ kt ≤ 12)) (rbs : (0 ≤ bs ∧ bs ≤ 1400)) (ree : (0 ≤ ee ∧ ee ≤ 200)) (rpa : (0 ≤ pa ∧ pa ≤ 200)) (rfu : (-9 ≤ fu ∧ fu ≤ 200)) (rst : (0 ≤ st ∧ st ≤ 200)) (rso : (0 ≤ so ∧ so ≤ 5)) (rva : (-100 ≤ va ∧ va ≤ 3000)) (red : (0 ≤ ed ∧ ed ≤ 200)) (rcm : (0 ≤ cm ∧ cm ≤ 256)) (ra : (0 ≤ a ∧ a ≤ 255)) (rx : (0 ≤ x ∧ x ≤ 255)) (rp : (0 ≤ p ∧ p ≤ 255)) (rdn : (0 ≤ dn ∧ dn ≤ 5000)) (rtk : (0 ≤ tk ∧ tk ≤ 200)) (rie : (0 ≤ ie ∧ ie ≤ 1)) (ren : (0 ≤ en ∧ en ≤ 12)) (k : ∀ (r : Int), ((r = -1 ∧ ee ≤ pa) ∨ (r = hb tx (bs + pa) ∧ 0 ≤ r ∧ r ≤ 255 ∧ pa < ee)) → Q (some (.int (iZ r))) h) : Go l mX9_here 0 [some (.ref 50)] [] h Q := by
  refine g_aload_n 1 dX9_here_0 rfl rfl ?_
  refine g_get 4 dX9_here_1 faX9_88_X9 F0 rfl rfl ?_
  refine g_aload_n 5 dX9_here_4 rfl rfl ?_
  refine g_get 8 dX9_here_5 faX9_91_X9 F0 rfl rfl ?_
  refine g_icZ_ge 32 11 dX9_here_8 rfl rfl (by omega) (by omega) (fun c1 => ?_) (fun c1 => ?_)
  · refine g_iconst (v := iZ (-1)) 33 dX9_here_32 rfl rfl ?_
    refine g_iret rfl dX9_here_33 ?_
    exact k (-1) (by omega)
  · refine g_aload_n 12 dX9_here_11 rfl rfl ?_
    refine g_get 15 dX9_here_12 faX9_13_X9 F0 rfl rfl ?_
    refine g_aload_n 16 dX9_here_15 rfl rfl ?_
    refine g_get 19 dX9_here_16 faX9_94_X9 F0 rfl rfl ?_
    refine g_aload_n 20 dX9_here_19 rfl rfl ?_
    refine g_get 23 dX9_here_20 faX9_88_X9 F0 rfl rfl ?_
    refine g_iaddZ (bs + pa) 24 dX9_here_23 (by omega) rfl ?_
    refine g_baldZ 25 dX9_here_24 F1 (by omega) (by omega) (by decide) rfl rfl ?_
    refine Go.zof ?_
    refine g_sipush (v := iZ (255)) 28 dX9_here_25 (by decide +kernel) rfl ?_
    refine g_and255Z (hb tx (bs + pa)) 29 dX9_here_28 rfl rfl ?_
    have hhb : 0 ≤ hb tx (bs + pa) ∧ hb tx (bs + pa) ≤ 255 := by unfold hb; omega
    refine g_goto 33 dX9_here_29 rfl ?_
    refine g_iret rfl dX9_here_33 ?_
    exact k (hb tx (bs + pa)) (by omega)

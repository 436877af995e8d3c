/-- what next leaves of a token -/
def nxp (so va st pa : Int) : Prop := (so = 0 ∨ st < pa) ∧ (so = 2 → 0 ≤ va ∧ va ≤ 25) ∧ (so = 1 → 0 ≤ va ∧ va ≤ 16) ∧ (so = 3 → 0 ≤ va ∧ va ≤ 255)
set_option maxRecDepth 100000 in
theorem n_due1 {l : Launch} {h : MH} {Q : Option Value → MH → Prop} {tr : Int64} {mn kt bs ee pa st so va ed cm a x p dn tk ie en : Int} {tx : Nat → Int32} (F0 : h[50]? = some (.inr (8, [.long (tr), .ref 51, .int (iZ mn), .ref 52, .ref 53, .int (iZ kt), .ref 54, .ref 55, .ref 56, .ref 57, .ref 58, .ref 59, .ref 60, .int (iZ bs), .int (iZ ee), .int (iZ pa), .int (iZ (-9)), .int (iZ st), .int (iZ so), .int (iZ va), .int (iZ ed), .ref 61, .ref 62, .ref 63, .ref 64, .int (iZ cm), .int (iZ a), .int (iZ x), .int (iZ p), .int (iZ dn), .int (iZ tk), .int (iZ ie), .ref 65, .ref 66, .ref 67, .int (iZ en), .ref 68, .ref 69, .ref 70]))) (F1 : h[52]? = some (.inl (1, 1600, .inl tx))) (rmn : (0 ≤ mn ∧ mn ≤ 200)) (rkt : (0 ≤ kt ∧ kt ≤ 12)) (rbs : (0 ≤ bs ∧ bs ≤ 1400)) (ree : (0 ≤ ee ∧ ee ≤ 200)) (rpa : (0 ≤ pa ∧ pa ≤ 200)) (rst : (0 ≤ st ∧ st ≤ 200)) (rso : (0 ≤ so ∧ so ≤ 5)) (rva : (-100 ≤ va ∧ va ≤ 3000)) (red : (0 ≤ ed ∧ ed ≤ 200)) (rcm : (0 ≤ cm ∧ cm ≤ 256)) (ra : (0 ≤ a ∧ a ≤ 255)) (rx : (0 ≤ x ∧ x ≤ 255)) (rp : (0 ≤ p ∧ p ≤ 255)) (rdn : (0 ≤ dn ∧ dn ≤ 5000)) (rtk : (0 ≤ tk ∧ tk ≤ 200)) (rie : (0 ≤ ie ∧ ie ≤ 1)) (ren : (0 ≤ en ∧ en ≤ 12)) (hpe : pa ≤ ee) (k : ∀ (h1 : MH) (pa_1 st_1 so_1 va_1 ed_1 : Int) (r : Int), (0 ≤ pa_1 ∧ pa_1 ≤ 200) → (0 ≤ st_1 ∧ st_1 ≤ 200) → (0 ≤ so_1 ∧ so_1 ≤ 5) → (-100 ≤ va_1 ∧ va_1 ≤ 3000) → (0 ≤ ed_1 ∧ ed_1 ≤ 200) → (r = va) → (pa ≤ st_1 ∧ st_1 ≤ pa_1 ∧ pa_1 ≤ ee) → (nxp so_1 va_1 st_1 pa_1) → Sm [50] h h1 → h1[50]? = some (.inr (8, [.long (tr), .ref 51, .int (iZ mn), .ref 52, .ref 53, .int (iZ kt), .ref 54, .ref 55, .ref 56, .ref 57, .ref 58, .ref 59, .ref 60, .int (iZ bs), .int (iZ ee), .int (iZ pa_1), .int (iZ (-9)), .int (iZ st_1), .int (iZ so_1), .int (iZ va_1), .int (iZ ed_1), .ref 61, .ref 62, .ref 63, .ref 64, .int (iZ cm), .int (iZ a), .int (iZ x), .int (iZ p), .int (iZ dn), .int (iZ tk), .int (iZ ie), .ref 65, .ref 66, .ref 67, .int (iZ en), .ref 68, .ref 69, .ref 70])) → Q (some (.int (iZ r))) h1) : Go l mX9_due 0 [some (.ref 50), some (.int (iZ 1)), none] [] h Q := by
  refine g_aload_n 1 dX9_due_0 rfl rfl ?_
  refine g_get 4 dX9_due_1 faX9_137_X9 F0 rfl rfl ?_
  refine g_istore_n (L1 := [some (.ref 50), some (.int (iZ 1)), some (.int (iZ va))]) 5 dX9_due_4 (by decide) rfl rfl rfl ?_
  refine g_aload_n 6 dX9_due_5 rfl rfl ?_
  refine g_get 9 dX9_due_6 faX9_97_X9 F0 rfl rfl ?_
  refine g_bipush (v := iZ (-9)) 11 dX9_due_9 (by decide +kernel) rfl ?_
  refine g_icZ_ne 33 14 dX9_due_11 rfl rfl (by decide) (by decide) (fun q => absurd q (by decide)) (fun _ => ?_)
  refine g_iload_n 15 dX9_due_14 rfl rfl ?_
  refine g_ifZ_eq 25 18 dX9_due_15 rfl rfl (by decide) (fun q => absurd q (by decide)) (fun _ => ?_)
  refine g_aload_n 19 dX9_due_18 rfl rfl ?_
  refine g_callV (z := mX9_next) (As := []) 22 dX9_due_19 mwX9_next ⟨by decide, by decide⟩ rfl wlX9_147 wiX9_next wsX9_next F0 rfl rfl rfl (nle rfl) (nle rfl) rfl ?_
  refine n_next  F0 F1 (by omega) (by omega) (by omega) (by omega) (by omega) (by omega) (by omega) (by omega) (by omega) (by omega) (by omega) (by omega) (by omega) (by omega) (by omega) (by omega) (by omega) (by omega) (fun h1 z3 z4 z5 z6 z7 rz3 rz4 rz5 rz6 rz7 p8 p9 p10 p11 p12 s2 f13 => ?_)
  refine rV ?_
  refine g_goto 33 dX9_due_22 rfl ?_
  refine g_iload_n 34 dX9_due_33 rfl rfl ?_
  refine g_iret rfl dX9_due_34 ?_
  exact k _ (z3) (z4) (z5) (z6) (z7) (va) (by omega) (by omega) (by omega) (by omega) (by omega) (by omega) ⟨p8.1, p8.2.1, p8.2.2 hpe⟩ ⟨p9, p10, p11, p12⟩ ((Sm.refl [50] _).tr s2 (fun _ q => q) (by simp)) f13
set_option maxRecDepth 100000 in
theorem n_due0 {l : Launch} {h : MH} {Q : Option Value → MH → Prop} {tr : Int64} {mn kt bs ee pa st so va ed cm a x p dn tk ie en : Int} {tx : Nat → Int32} (F0 : h[50]? = some (.inr (8, [.long (tr), .ref 51, .int (iZ mn), .ref 52, .ref 53, .int (iZ kt), .ref 54, .ref 55, .ref 56, .ref 57, .ref 58, .ref 59, .ref 60, .int (iZ bs), .int (iZ ee), .int (iZ pa), .int (iZ (-9)), .int (iZ st), .int (iZ so), .int (iZ va), .int (iZ ed), .ref 61, .ref 62, .ref 63, .ref 64, .int (iZ cm), .int (iZ a), .int (iZ x), .int (iZ p), .int (iZ dn), .int (iZ tk), .int (iZ ie), .ref 65, .ref 66, .ref 67, .int (iZ en), .ref 68, .ref 69, .ref 70]))) (F1 : h[52]? = some (.inl (1, 1600, .inl tx))) (rmn : (0 ≤ mn ∧ mn ≤ 200)) (rkt : (0 ≤ kt ∧ kt ≤ 12)) (rbs : (0 ≤ bs ∧ bs ≤ 1400)) (ree : (0 ≤ ee ∧ ee ≤ 200)) (rpa : (0 ≤ pa ∧ pa ≤ 200)) (rst : (0 ≤ st ∧ st ≤ 200)) (rso : (0 ≤ so ∧ so ≤ 5)) (rva : (-100 ≤ va ∧ va ≤ 3000)) (red : (0 ≤ ed ∧ ed ≤ 200)) (rcm : (0 ≤ cm ∧ cm ≤ 256)) (ra : (0 ≤ a ∧ a ≤ 255)) (rx : (0 ≤ x ∧ x ≤ 255)) (rp : (0 ≤ p ∧ p ≤ 255)) (rdn : (0 ≤ dn ∧ dn ≤ 5000)) (rtk : (0 ≤ tk ∧ tk ≤ 200)) (rie : (0 ≤ ie ∧ ie ≤ 1)) (ren : (0 ≤ en ∧ en ≤ 12)) (k : ∀ (h1 : MH) (fu_1 : Int) (r : Int), (0 ≤ fu_1 ∧ fu_1 ≤ 200) → (r = va) → (fu_1 = st) → Sm [50] h h1 → h1[50]? = some (.inr (8, [.long (tr), .ref 51, .int (iZ mn), .ref 52, .ref 53, .int (iZ kt), .ref 54, .ref 55, .ref 56, .ref 57, .ref 58, .ref 59, .ref 60, .int (iZ bs), .int (iZ ee), .int (iZ pa), .int (iZ fu_1), .int (iZ st), .int (iZ so), .int (iZ va), .int (iZ ed), .ref 61, .ref 62, .ref 63, .ref 64, .int (iZ cm), .int (iZ a), .int (iZ x), .int (iZ p), .int (iZ dn), .int (iZ tk), .int (iZ ie), .ref 65, .ref 66, .ref 67, .int (iZ en), .ref 68, .ref 69, .ref 70])) → Q (some (.int (iZ r))) h1) : Go l mX9_due 0 [some (.ref 50), some (.int (iZ 0)), none] [] h Q := by
  refine g_aload_n 1 dX9_due_0 rfl rfl ?_
  refine g_get 4 dX9_due_1 faX9_137_X9 F0 rfl rfl ?_
  refine g_istore_n (L1 := [some (.ref 50), some (.int (iZ 0)), some (.int (iZ va))]) 5 dX9_due_4 (by decide) rfl rfl rfl ?_
  refine g_aload_n 6 dX9_due_5 rfl rfl ?_
  refine g_get 9 dX9_due_6 faX9_97_X9 F0 rfl rfl ?_
  refine g_bipush (v := iZ (-9)) 11 dX9_due_9 (by decide +kernel) rfl ?_
  refine g_icZ_ne 33 14 dX9_due_11 rfl rfl (by decide) (by decide) (fun q => absurd q (by decide)) (fun _ => ?_)
  refine g_iload_n 15 dX9_due_14 rfl rfl ?_
  refine g_ifZ_eq 25 18 dX9_due_15 rfl rfl (by decide) (fun _ => ?_) (fun q => absurd q (by decide))
  refine g_aload_n 26 dX9_due_25 rfl rfl ?_
  refine g_aload_n 27 dX9_due_26 rfl rfl ?_
  refine g_get 30 dX9_due_27 faX9_134_X9 F0 rfl rfl ?_
  refine g_putC (fs1 := [.long (tr), .ref 51, .int (iZ mn), .ref 52, .ref 53, .int (iZ kt), .ref 54, .ref 55, .ref 56, .ref 57, .ref 58, .ref 59, .ref 60, .int (iZ bs), .int (iZ ee), .int (iZ pa), .int (iZ st), .int (iZ st), .int (iZ so), .int (iZ va), .int (iZ ed), .ref 61, .ref 62, .ref 63, .ref 64, .int (iZ cm), .int (iZ a), .int (iZ x), .int (iZ p), .int (iZ dn), .int (iZ tk), .int (iZ ie), .ref 65, .ref 66, .ref 67, .int (iZ en), .ref 68, .ref 69, .ref 70]) 33 dX9_due_30 fpX9_97_X9 F0 (nle rfl) (vI _) rfl rfl (fun h1 s2 f3 => ?_)
  refine g_iload_n 34 dX9_due_33 rfl rfl ?_
  refine g_iret rfl dX9_due_34 ?_
  exact k _ st (va) (by omega) (by omega) rfl ((Sm.refl [50] _).tr s2 (fun _ q => q) (by simp)) f3
set_option maxRecDepth 100000 in
theorem n_dueN {l : Launch} {h : MH} {Q : Option Value → MH → Prop} {tr : Int64} {mn kt bs ee pa fu st so va ed cm a x p dn tk ie en is : Int} {tx : Nat → Int32} (F0 : h[50]? = some (.inr (8, [.long (tr), .ref 51, .int (iZ mn), .ref 52, .ref 53, .int (iZ kt), .ref 54, .ref 55, .ref 56, .ref 57, .ref 58, .ref 59, .ref 60, .int (iZ bs), .int (iZ ee), .int (iZ pa), .int (iZ fu), .int (iZ st), .int (iZ so), .int (iZ va), .int (iZ ed), .ref 61, .ref 62, .ref 63, .ref 64, .int (iZ cm), .int (iZ a), .int (iZ x), .int (iZ p), .int (iZ dn), .int (iZ tk), .int (iZ ie), .ref 65, .ref 66, .ref 67, .int (iZ en), .ref 68, .ref 69, .ref 70]))) (F1 : h[52]? = some (.inl (1, 1600, .inl tx))) (rmn : (0 ≤ mn ∧ mn ≤ 200)) (rkt : (0 ≤ kt ∧ kt ≤ 12)) (rbs : (0 ≤ bs ∧ bs ≤ 1400)) (ree : (0 ≤ ee ∧ ee ≤ 200)) (rpa : (0 ≤ pa ∧ pa ≤ 200)) (rfu : (-9 ≤ fu ∧ fu ≤ 200)) (rst : (0 ≤ st ∧ st ≤ 200)) (rso : (0 ≤ so ∧ so ≤ 5)) (rva : (-100 ≤ va ∧ va ≤ 3000)) (red : (0 ≤ ed ∧ ed ≤ 200)) (rcm : (0 ≤ cm ∧ cm ≤ 256)) (ra : (0 ≤ a ∧ a ≤ 255)) (rx : (0 ≤ x ∧ x ≤ 255)) (rp : (0 ≤ p ∧ p ≤ 255)) (rdn : (0 ≤ dn ∧ dn ≤ 5000)) (rtk : (0 ≤ tk ∧ tk ≤ 200)) (rie : (0 ≤ ie ∧ ie ≤ 1)) (ren : (0 ≤ en ∧ en ≤ 12)) (ris : (is = 0 ∨ is = 1)) (hfu : fu ≠ -9) (k : ∀ (r : Int), (r = va) → Q (some (.int (iZ r))) h) : Go l mX9_due 0 [some (.ref 50), some (.int (iZ is)), none] [] h Q := by
  refine g_aload_n 1 dX9_due_0 rfl rfl ?_
  refine g_get 4 dX9_due_1 faX9_137_X9 F0 rfl rfl ?_
  refine g_istore_n (L1 := [some (.ref 50), some (.int (iZ is)), some (.int (iZ va))]) 5 dX9_due_4 (by decide) rfl rfl rfl ?_
  refine g_aload_n 6 dX9_due_5 rfl rfl ?_
  refine g_get 9 dX9_due_6 faX9_97_X9 F0 rfl rfl ?_
  refine g_bipush (v := iZ (-9)) 11 dX9_due_9 (by decide +kernel) rfl ?_
  refine g_icZ_ne 33 14 dX9_due_11 rfl rfl (by omega) (by decide) (fun _ => ?_) (fun q => absurd q (by omega))
  refine g_iload_n 34 dX9_due_33 rfl rfl ?_
  refine g_iret rfl dX9_due_34 ?_
  exact k (va) (by omega)
set_option maxRecDepth 100000 in
theorem n_rn2_l {l : Launch} {Q : Option Value → MH → Prop} {tr : Int64} {mn kt bs ee cm a x p dn tk ie en : Int} {tx : Nat → Int32} (rmn : (0 ≤ mn ∧ mn ≤ 200)) (rkt : (0 ≤ kt ∧ kt ≤ 12)) (rbs : (0 ≤ bs ∧ bs ≤ 1400)) (ree : (0 ≤ ee ∧ ee ≤ 200)) (rcm : (0 ≤ cm ∧ cm ≤ 256)) (ra : (0 ≤ a ∧ a ≤ 255)) (rx : (0 ≤ x ∧ x ≤ 255)) (rp : (0 ≤ p ∧ p ≤ 255)) (rdn : (0 ≤ dn ∧ dn ≤ 5000)) (rtk : (0 ≤ tk ∧ tk ≤ 200)) (rie : (0 ≤ ie ∧ ie ≤ 1)) (ren : (0 ≤ en ∧ en ≤ 12)) : ∀ (m0 : Nat) (h : MH) (pa fu st so va ed : Int) (bf : Nat → Int) (lf : Nat → Int) (sz : Nat → Int) (pl : Nat → Int), (201 - st).toNat = m0 → (0 ≤ pa ∧ pa ≤ 200) → (-9 ≤ fu ∧ fu ≤ 200) → (0 ≤ st ∧ st ≤ 200) → (0 ≤ so ∧ so ≤ 5) → (-100 ≤ va ∧ va ≤ 3000) → (0 ≤ ed ∧ ed ≤ 200) → okr bf → oki (0) (300) lf → oki (0) (256) sz → okn pl → h[50]? = some (.inr (8, [.long (tr), .ref 51, .int (iZ mn), .ref 52, .ref 53, .int (iZ kt), .ref 54, .ref 55, .ref 56, .ref 57, .ref 58, .ref 59, .ref 60, .int (iZ bs), .int (iZ ee), .int (iZ pa), .int (iZ fu), .int (iZ st), .int (iZ so), .int (iZ va), .int (iZ ed), .ref 61, .ref 62, .ref 63, .ref 64, .int (iZ cm), .int (iZ a), .int (iZ x), .int (iZ p), .int (iZ dn), .int (iZ tk), .int (iZ ie), .ref 65, .ref 66, .ref 67, .int (iZ en), .ref 68, .ref 69, .ref 70])) → h[52]? = some (.inl (1, 1600, .inl tx)) → h[54]? = some (.inl (0, 4096, .inl (zA bf))) → h[55]? = some (.inl (0, 4096, .inl (zA lf))) → h[56]? = some (.inl (0, 16, .inl (zA sz))) → h[61]? = some (.inl (0, 26, .inl (zA pl))) → fu = -9 → st ≤ pa ∧ pa ≤ ee ∧ sz 12 ≤ st → nxp so va st pa → okW bf (sz 12) → (∀ (h1 : MH) (pa_1 fu_1 st_1 so_1 va_1 ed_1 : Int) (bf_1 : Nat → Int) (lf_1 : Nat → Int) (sz_1 : Nat → Int) (pl_1 : Nat → Int) (r : Int), (0 ≤ pa_1 ∧ pa_1 ≤ 200) → (-9 ≤ fu_1 ∧ fu_1 ≤ 200) → (0 ≤ st_1 ∧ st_1 ≤ 200) → (0 ≤ so_1 ∧ so_1 ≤ 5) → (-100 ≤ va_1 ∧ va_1 ≤ 3000) → (0 ≤ ed_1 ∧ ed_1 ≤ 200) → okr bf_1 → oki (0) (300) lf_1 → oki (0) (256) sz_1 → okn pl_1 → (r = -9 ∨ (0 ≤ r ∧ r ≤ 300)) → (∀ q : Nat, q < 3072 → bf_1 q = bf q) → (∀ t : Nat, t ≠ 12 → sz_1 t = sz t) → (r = -9 → 0 < sz_1 12 ∧ ok12 bf_1 sz_1) → Sm [50, 54, 55, 56, 61] h h1 → h1[50]? = some (.inr (8, [.long (tr), .ref 51, .int (iZ mn), .ref 52, .ref 53, .int (iZ kt), .ref 54, .ref 55, .ref 56, .ref 57, .ref 58, .ref 59, .ref 60, .int (iZ bs), .int (iZ ee), .int (iZ pa_1), .int (iZ fu_1), .int (iZ st_1), .int (iZ so_1), .int (iZ va_1), .int (iZ ed_1), .ref 61, .ref 62, .ref 63, .ref 64, .int (iZ cm), .int (iZ a), .int (iZ x), .int (iZ p), .int (iZ dn), .int (iZ tk), .int (iZ ie), .ref 65, .ref 66, .ref 67, .int (iZ en), .ref 68, .ref 69, .ref 70])) → h1[54]? = some (.inl (0, 4096, .inl (zA bf_1))) → h1[55]? = some (.inl (0, 4096, .inl (zA lf_1))) → h1[56]? = some (.inl (0, 16, .inl (zA sz_1))) → h1[61]? = some (.inl (0, 26, .inl (zA pl_1))) → Q (some (.int (iZ r))) h1) → Go l mX9_readNames 38 [some (.ref 50), none, some (.int (iZ 12)), none, none, none, none] [] h Q := by
  intro m0
  induction m0 using Nat.strongRecOn with
  | ind m0 ih =>
    intro h pa fu st so va ed bf lf sz pl hmz rpa rfu rst rso rva red obf olf osz opl F0 F1 F2 F3 F4 F5 hfu hI hNX hW k
    subst hfu
    refine g_aload_n 39 dX9_readNames_38 rfl rfl ?_
    refine g_get 42 dX9_readNames_39 faX9_97_X9 F0 rfl rfl ?_
    refine g_bipush (v := iZ (-9)) 44 dX9_readNames_42 (by decide +kernel) rfl ?_
    refine g_icZ_ne 287 47 dX9_readNames_44 rfl rfl (by decide) (by decide) (fun q => absurd q (by decide)) (fun _ => ?_)
    refine g_aload_n 48 dX9_readNames_47 rfl rfl ?_
    refine g_get 51 dX9_readNames_48 faX9_140_X9 F0 rfl rfl ?_
    refine g_ifZ_eq 287 54 dX9_readNames_51 rfl rfl (by omega) (fun c1 => ?_) (fun c1 => ?_)
    · refine g_aload_n 288 dX9_readNames_287 rfl rfl ?_
      refine g_get 291 dX9_readNames_288 faX9_97_X9 F0 rfl rfl ?_
      refine g_bipush (v := iZ (-9)) 293 dX9_readNames_291 (by decide +kernel) rfl ?_
      refine g_icZ_ne 305 296 dX9_readNames_293 rfl rfl (by decide) (by decide) (fun q => absurd q (by decide)) (fun _ => ?_)
      refine g_aload_n 297 dX9_readNames_296 rfl rfl ?_
      refine g_get 300 dX9_readNames_297 faX9_26_X9 F0 rfl rfl ?_
      refine g_iload_n 301 dX9_readNames_300 rfl rfl ?_
      have b2 := osz (12)
      refine g_ialdZ (v := iZ (sz 12)) 302 dX9_readNames_301 F4 (by decide) (by decide) (by decide) rfl rfl ?_
      refine g_ifZ_ne 326 305 dX9_readNames_302 rfl rfl (by omega) (fun c3 => ?_) (fun c3 => ?_)
      · refine g_iconst (v := iZ (0)) 327 dX9_readNames_326 rfl rfl ?_
        refine g_istore_n (L1 := [some (.ref 50), none, some (.int (iZ 12)), some (.int (iZ 0)), none, none, none]) 328 dX9_readNames_327 (by decide) rfl rfl rfl ?_
        refine n_rn3_l olf osz opl (by omega) (by omega) (by omega) (by omega) (by omega) (by omega) (by omega) (by omega) (by omega) (by omega) (by omega) (by omega) (by omega) (by omega) (by omega) (by omega) (by omega) (by omega) _ _ (bf) 0 rfl obf F0 F2 F3 F4 F5 (by omega) okV_0 hW (fun hQ x0Q r0Q o0Q p0Q a0Q b0Q sQ uQ => ?_)
        exact k _ (pa) (-9) (st) (so) (va) (ed) x0Q (lf) (sz) (pl) r0Q (by omega) (by omega) (by omega) (by omega) (by omega) (by omega) o0Q olf osz opl p0Q (fun q hq => (a0Q q hq)) (fun q hq => rfl) (fun q9 => ⟨by omega, b0Q q9⟩) ((Sm.refl [50, 54, 55, 56, 61] _).tr sQ (fun _ q => q) (by simp)) (sQ.get (by decide) F0) uQ (sQ.get (by decide) F3) (sQ.get (by decide) F4) (sQ.get (by decide) F5)
      · refine g_aload_n 306 dX9_readNames_305 rfl rfl ?_
        refine g_get 309 dX9_readNames_306 faX9_97_X9 F0 rfl rfl ?_
        refine g_bipush (v := iZ (-9)) 311 dX9_readNames_309 (by decide +kernel) rfl ?_
        refine g_icZ_eq 321 314 dX9_readNames_311 rfl rfl (by decide) (by decide) (fun _ => ?_) (fun q => absurd q (by decide))
        refine g_aload_n 322 dX9_readNames_321 rfl rfl ?_
        refine g_get 325 dX9_readNames_322 faX9_91_X9 F0 rfl rfl ?_
        refine g_iret rfl dX9_readNames_325 ?_
        exact k _ (pa) (-9) (st) (so) (va) (ed) (bf) (lf) (sz) (pl) (ee) (by omega) (by omega) (by omega) (by omega) (by omega) (by omega) obf olf osz opl (by omega) (fun q hq => rfl) (fun q hq => rfl) (by intro q9; omega) (Sm.refl [50, 54, 55, 56, 61] _) F0 F2 F3 F4 F5
    · have nl4 := hNX.1.resolve_left c1
      refine g_aload_n 55 dX9_readNames_54 rfl rfl ?_
      refine g_get 58 dX9_readNames_55 faX9_140_X9 F0 rfl rfl ?_
      refine g_iconst (v := iZ (2)) 59 dX9_readNames_58 rfl rfl ?_
      refine g_icZ_ne 139 62 dX9_readNames_59 rfl rfl (by omega) (by decide) (fun c5 => ?_) (fun c5 => ?_)
      · refine g_aload_n 140 dX9_readNames_139 rfl rfl ?_
        refine g_get 143 dX9_readNames_140 faX9_134_X9 F0 rfl rfl ?_
        refine g_istore_n (L1 := [some (.ref 50), none, some (.int (iZ 12)), some (.int (iZ st)), none, none, none]) 144 dX9_readNames_143 (by decide) rfl rfl rfl ?_
        refine g_aload_n 145 dX9_readNames_144 rfl rfl ?_
        refine g_aload_n 146 dX9_readNames_145 rfl rfl ?_
        refine g_get 149 dX9_readNames_146 faX9_140_X9 F0 rfl rfl ?_
        refine g_iconst (v := iZ (1)) 150 dX9_readNames_149 rfl rfl ?_
        refine g_icZ_ne 157 153 dX9_readNames_150 rfl rfl (by omega) (by decide) (fun c6 => ?_) (fun c6 => ?_)
        · refine g_iconst (v := iZ (0)) 158 dX9_readNames_157 rfl rfl ?_
          refine g_callV (z := mX9_due) (As := [.int (iZ 0)]) 161 dX9_readNames_158 mwX9_due ⟨by decide, by decide⟩ rfl wlX9_150 wiX9_due wsX9_due F0 rfl rfl rfl (nle rfl) (nle rfl) rfl ?_
          refine n_due0 F0 F1 (by omega) (by omega) (by omega) (by omega) (by omega) (by omega) (by omega) (by omega) (by omega) (by omega) (by omega) (by omega) (by omega) (by omega) (by omega) (by omega) (by omega) (fun h7 z10 z11 rz10 rz11 p12 s8 f9 => ?_)
          refine rI ?_
          refine g_istore (L1 := [some (.ref 50), none, some (.int (iZ 12)), some (.int (iZ st)), some (.int (iZ z11)), none, none]) 163 dX9_readNames_161 (by decide) rfl rfl rfl ?_
          refine g_aload_n 164 dX9_readNames_163 rfl rfl ?_
          refine g_get 167 dX9_readNames_164 faX9_97_X9 f9 rfl rfl ?_
          refine g_bipush (v := iZ (-9)) 169 dX9_readNames_167 (by decide +kernel) rfl ?_
          refine g_icZ_ne 187 172 dX9_readNames_169 rfl rfl (by omega) (by decide) (fun _ => ?_) (fun q => absurd q (by omega))
          refine g_aload_n 188 dX9_readNames_187 rfl rfl ?_
          refine g_get 191 dX9_readNames_188 faX9_97_X9 f9 rfl rfl ?_
          refine g_bipush (v := iZ (-9)) 193 dX9_readNames_191 (by decide +kernel) rfl ?_
          refine g_icZ_ne 284 196 dX9_readNames_193 rfl rfl (by omega) (by decide) (fun _ => ?_) (fun q => absurd q (by omega))
          refine g_goto 38 dX9_readNames_284 rfl ?_
          refine g_aload_n 39 dX9_readNames_38 rfl rfl ?_
          refine g_get 42 dX9_readNames_39 faX9_97_X9 f9 rfl rfl ?_
          refine g_bipush (v := iZ (-9)) 44 dX9_readNames_42 (by decide +kernel) rfl ?_
          refine g_icZ_ne 287 47 dX9_readNames_44 rfl rfl (by omega) (by decide) (fun _ => ?_) (fun q => absurd q (by omega))
          refine g_aload_n 288 dX9_readNames_287 rfl rfl ?_
          refine g_get 291 dX9_readNames_288 faX9_97_X9 f9 rfl rfl ?_
          refine g_bipush (v := iZ (-9)) 293 dX9_readNames_291 (by decide +kernel) rfl ?_
          refine g_icZ_ne 305 296 dX9_readNames_293 rfl rfl (by omega) (by decide) (fun _ => ?_) (fun q => absurd q (by omega))
          refine g_aload_n 306 dX9_readNames_305 rfl rfl ?_
          refine g_get 309 dX9_readNames_306 faX9_97_X9 f9 rfl rfl ?_
          refine g_bipush (v := iZ (-9)) 311 dX9_readNames_309 (by decide +kernel) rfl ?_
          refine g_icZ_eq 321 314 dX9_readNames_311 rfl rfl (by omega) (by decide) (fun q => absurd q (by omega)) (fun _ => ?_)
          refine g_aload_n 315 dX9_readNames_314 rfl rfl ?_
          refine g_get 318 dX9_readNames_315 faX9_97_X9 f9 rfl rfl ?_
          refine g_goto 325 dX9_readNames_318 rfl ?_
          refine g_iret rfl dX9_readNames_325 ?_
          have f13 := (s8.get (by decide) F2)
          have f14 := (s8.get (by decide) F3)
          have f15 := (s8.get (by decide) F4)
          have f16 := (s8.get (by decide) F5)
          exact k _ (pa) (z10) (st) (so) (va) (ed) (bf) (lf) (sz) (pl) (z10) (by omega) (by omega) (by omega) (by omega) (by omega) (by omega) obf olf osz opl (by omega) (fun q hq => rfl) (fun q hq => rfl) (by intro q9; omega) ((Sm.refl [50, 54, 55, 56, 61] _).tr s8 (fun _ q => q) (by simp)) f9 f13 f14 f15 f16
        · have nv17 := hNX.2.2.1 c6
          have nl18 := hNX.1.resolve_left (by omega)
          refine g_iconst (v := iZ (1)) 154 dX9_readNames_153 rfl rfl ?_
          refine g_goto 158 dX9_readNames_154 rfl ?_
          refine g_callV (z := mX9_due) (As := [.int (iZ 1)]) 161 dX9_readNames_158 mwX9_due ⟨by decide, by decide⟩ rfl wlX9_150 wiX9_due wsX9_due F0 rfl rfl rfl (nle rfl) (nle rfl) rfl ?_
          refine n_due1  F0 F1 (by omega) (by omega) (by omega) (by omega) (by omega) (by omega) (by omega) (by omega) (by omega) (by omega) (by omega) (by omega) (by omega) (by omega) (by omega) (by omega) (by omega) (by omega) (fun h19 z21 z22 z23 z24 z25 z26 rz21 rz22 rz23 rz24 rz25 rz26 p27 p28 s20 f29 => ?_)
          refine rI ?_
          refine g_istore (L1 := [some (.ref 50), none, some (.int (iZ 12)), some (.int (iZ st)), some (.int (iZ z26)), none, none]) 163 dX9_readNames_161 (by decide) rfl rfl rfl ?_
          refine g_aload_n 164 dX9_readNames_163 rfl rfl ?_
          refine g_get 167 dX9_readNames_164 faX9_97_X9 f29 rfl rfl ?_
          refine g_bipush (v := iZ (-9)) 169 dX9_readNames_167 (by decide +kernel) rfl ?_
          refine g_icZ_ne 187 172 dX9_readNames_169 rfl rfl (by decide) (by decide) (fun q => absurd q (by decide)) (fun _ => ?_)
          refine g_iload 174 dX9_readNames_172 rfl rfl ?_
          refine g_bipush (v := iZ (16)) 176 dX9_readNames_174 (by decide +kernel) rfl ?_
          refine g_icZ_ge 187 179 dX9_readNames_176 rfl rfl (by omega) (by decide) (fun c30 => ?_) (fun c30 => ?_)
          · refine g_aload_n 188 dX9_readNames_187 rfl rfl ?_
            refine g_get 191 dX9_readNames_188 faX9_97_X9 f29 rfl rfl ?_
            refine g_bipush (v := iZ (-9)) 193 dX9_readNames_191 (by decide +kernel) rfl ?_
            refine g_icZ_ne 284 196 dX9_readNames_193 rfl rfl (by decide) (by decide) (fun q => absurd q (by decide)) (fun _ => ?_)
            refine g_iload 198 dX9_readNames_196 rfl rfl ?_
            refine g_bipush (v := iZ (16)) 200 dX9_readNames_198 (by decide +kernel) rfl ?_
            refine g_icZ_eq 211 203 dX9_readNames_200 rfl rfl (by omega) (by decide) (fun c31 => ?_) (fun c31 => ?_)
            · refine g_aload_n 212 dX9_readNames_211 rfl rfl ?_
              refine g_get 215 dX9_readNames_212 faX9_134_X9 f29 rfl rfl ?_
              refine g_istore_n (L1 := [some (.ref 50), none, some (.int (iZ 12)), some (.int (iZ z22)), some (.int (iZ z26)), none, none]) 216 dX9_readNames_215 (by decide) rfl rfl rfl ?_
              refine g_aload_n 217 dX9_readNames_216 rfl rfl ?_
              refine g_get 220 dX9_readNames_217 faX9_140_X9 f29 rfl rfl ?_
              refine g_iconst (v := iZ (2)) 221 dX9_readNames_220 rfl rfl ?_
              refine g_icZ_ne 228 224 dX9_readNames_221 rfl rfl (by omega) (by decide) (fun c32 => ?_) (fun c32 => ?_)
              · refine g_iconst (v := iZ (0)) 229 dX9_readNames_228 rfl rfl ?_
                refine g_istore (L1 := [some (.ref 50), none, some (.int (iZ 12)), some (.int (iZ z22)), some (.int (iZ z26)), some (.int (iZ 0)), none]) 231 dX9_readNames_229 (by decide) rfl rfl rfl ?_
                refine g_aload_n 232 dX9_readNames_231 rfl rfl ?_
                refine g_iload 234 dX9_readNames_232 rfl rfl ?_
                refine g_ifZ_ne 245 237 dX9_readNames_234 rfl rfl (by decide) (fun q => absurd q (by decide)) (fun _ => ?_)
                refine g_aload_n 238 dX9_readNames_237 rfl rfl ?_
                refine g_get 241 dX9_readNames_238 faX9_140_X9 f29 rfl rfl ?_
                refine g_iconst (v := iZ (3)) 242 dX9_readNames_241 rfl rfl ?_
                refine g_icZ_ne 249 245 dX9_readNames_242 rfl rfl (by omega) (by decide) (fun c33 => ?_) (fun c33 => ?_)
                · refine g_iconst (v := iZ (0)) 250 dX9_readNames_249 rfl rfl ?_
                  refine g_callV (z := mX9_due) (As := [.int (iZ 0)]) 253 dX9_readNames_250 mwX9_due ⟨by decide, by decide⟩ rfl wlX9_150 wiX9_due wsX9_due f29 rfl rfl rfl (nle rfl) (nle rfl) rfl ?_
                  have f40 := (s20.get (by decide) F1)
                  refine n_due0 f29 f40 (by omega) (by omega) (by omega) (by omega) (by omega) (by omega) (by omega) (by omega) (by omega) (by omega) (by omega) (by omega) (by omega) (by omega) (by omega) (by omega) (by omega) (fun h34 z37 z38 rz37 rz38 p39 s35 f36 => ?_)
                  refine rI ?_
                  refine g_istore (L1 := [some (.ref 50), none, some (.int (iZ 12)), some (.int (iZ z22)), some (.int (iZ z26)), some (.int (iZ 0)), some (.int (iZ z38))]) 255 dX9_readNames_253 (by decide) rfl rfl rfl ?_
                  refine g_aload_n 256 dX9_readNames_255 rfl rfl ?_
                  refine g_get 259 dX9_readNames_256 faX9_97_X9 f36 rfl rfl ?_
                  refine g_bipush (v := iZ (-9)) 261 dX9_readNames_259 (by decide +kernel) rfl ?_
                  refine g_icZ_ne 284 264 dX9_readNames_261 rfl rfl (by omega) (by decide) (fun _ => ?_) (fun q => absurd q (by omega))
                  refine g_goto 38 dX9_readNames_284 rfl ?_
                  refine g_aload_n 39 dX9_readNames_38 rfl rfl ?_
                  refine g_get 42 dX9_readNames_39 faX9_97_X9 f36 rfl rfl ?_
                  refine g_bipush (v := iZ (-9)) 44 dX9_readNames_42 (by decide +kernel) rfl ?_
                  refine g_icZ_ne 287 47 dX9_readNames_44 rfl rfl (by omega) (by decide) (fun _ => ?_) (fun q => absurd q (by omega))
                  refine g_aload_n 288 dX9_readNames_287 rfl rfl ?_
                  refine g_get 291 dX9_readNames_288 faX9_97_X9 f36 rfl rfl ?_
                  refine g_bipush (v := iZ (-9)) 293 dX9_readNames_291 (by decide +kernel) rfl ?_
                  refine g_icZ_ne 305 296 dX9_readNames_293 rfl rfl (by omega) (by decide) (fun _ => ?_) (fun q => absurd q (by omega))
                  refine g_aload_n 306 dX9_readNames_305 rfl rfl ?_
                  refine g_get 309 dX9_readNames_306 faX9_97_X9 f36 rfl rfl ?_
                  refine g_bipush (v := iZ (-9)) 311 dX9_readNames_309 (by decide +kernel) rfl ?_
                  refine g_icZ_eq 321 314 dX9_readNames_311 rfl rfl (by omega) (by decide) (fun q => absurd q (by omega)) (fun _ => ?_)
                  refine g_aload_n 315 dX9_readNames_314 rfl rfl ?_
                  refine g_get 318 dX9_readNames_315 faX9_97_X9 f36 rfl rfl ?_
                  refine g_goto 325 dX9_readNames_318 rfl ?_
                  refine g_iret rfl dX9_readNames_325 ?_
                  have f41 := (s35.get (by decide) (s20.get (by decide) F2))
                  have f42 := (s35.get (by decide) (s20.get (by decide) F3))
                  have f43 := (s35.get (by decide) (s20.get (by decide) F4))
                  have f44 := (s35.get (by decide) (s20.get (by decide) F5))
                  exact k _ (z21) (z37) (z22) (z23) (z24) (z25) (bf) (lf) (sz) (pl) (z37) (by omega) (by omega) (by omega) (by omega) (by omega) (by omega) obf olf osz opl (by omega) (fun q hq => rfl) (fun q hq => rfl) (by intro q9; omega) (((Sm.refl [50, 54, 55, 56, 61] _).tr s20 (fun _ q => q) (by simp)).tr s35 (fun _ q => q) (by simp)) f36 f41 f42 f43 f44
                · have nv45 := p28.2.2.2 c33
                  have nl46 := p28.1.resolve_left (by omega)
                  refine g_iconst (v := iZ (1)) 246 dX9_readNames_245 rfl rfl ?_
                  refine g_goto 250 dX9_readNames_246 rfl ?_
                  refine g_callV (z := mX9_due) (As := [.int (iZ 1)]) 253 dX9_readNames_250 mwX9_due ⟨by decide, by decide⟩ rfl wlX9_150 wiX9_due wsX9_due f29 rfl rfl rfl (nle rfl) (nle rfl) rfl ?_
                  have f47 := (s20.get (by decide) F1)
                  refine n_due1  f29 f47 (by omega) (by omega) (by omega) (by omega) (by omega) (by omega) (by omega) (by omega) (by omega) (by omega) (by omega) (by omega) (by omega) (by omega) (by omega) (by omega) (by omega) (by omega) (fun h48 z50 z51 z52 z53 z54 z55 rz50 rz51 rz52 rz53 rz54 rz55 p56 p57 s49 f58 => ?_)
                  refine rI ?_
                  refine g_istore (L1 := [some (.ref 50), none, some (.int (iZ 12)), some (.int (iZ z22)), some (.int (iZ z26)), some (.int (iZ 0)), some (.int (iZ z55))]) 255 dX9_readNames_253 (by decide) rfl rfl rfl ?_
                  refine g_aload_n 256 dX9_readNames_255 rfl rfl ?_
                  refine g_get 259 dX9_readNames_256 faX9_97_X9 f58 rfl rfl ?_
                  refine g_bipush (v := iZ (-9)) 261 dX9_readNames_259 (by decide +kernel) rfl ?_
                  refine g_icZ_ne 284 264 dX9_readNames_261 rfl rfl (by decide) (by decide) (fun q => absurd q (by decide)) (fun _ => ?_)
                  refine g_aload_n 265 dX9_readNames_264 rfl rfl ?_
                  refine g_iload_n 266 dX9_readNames_265 rfl rfl ?_
                  refine g_iload 268 dX9_readNames_266 rfl rfl ?_
                  refine g_ifZ_eq 278 271 dX9_readNames_268 rfl rfl (by decide) (fun _ => ?_) (fun q => absurd q (by decide))
                  refine g_iload 280 dX9_readNames_278 rfl rfl ?_
                  refine g_iload_n 281 dX9_readNames_280 rfl rfl ?_
                  refine g_callV (z := mX9_add) (As := [.int (iZ 12), .int (iZ z55), .int (iZ z22)]) 284 dX9_readNames_281 mwX9_add ⟨by decide, by decide⟩ rfl wlX9_115 wiX9_add wsX9_add f58 rfl rfl rfl (nle rfl) (nle rfl) rfl ?_
                  have bz59 := osz 12
                  have f60 := (s49.get (by decide) (s20.get (by decide) F2))
                  have f61 := (s49.get (by decide) (s20.get (by decide) F3))
                  have f62 := (s49.get (by decide) (s20.get (by decide) F4))
                  refine n_add  f58 f60 f61 f62 obf olf osz (by omega) (by omega) (by omega) (by omega) (by omega) (by omega) (by omega) (by omega) (by omega) (by omega) (by omega) (by omega) (by omega) (by omega) (by omega) (by omega) (by omega) (by omega) (by omega) (by omega) (by omega) (fun h63 g65 g66 g67 og65 og66 og67 p68 p69 s64 f70 f71 f72 => ?_)
                  refine rV ?_
                  have ez73 := add_Z p69
                  refine g_goto 38 dX9_readNames_284 rfl ?_
                  refine Go.fgt 3 ?_
                  refine Go.fgt 4 ?_
                  refine Go.fgt 5 ?_
                  refine Go.fgt 6 ?_
                  have f74 := (s64.get (by decide) f58)
                  have f75 := (s64.get (by decide) (s49.get (by decide) f47))
                  have f76 := (s64.get (by decide) (s49.get (by decide) (s20.get (by decide) F5)))
                  exact ih _ (by omega) _ (z50) (-9) (z51) (z52) (z53) (z54) (g65) (g66) (g67) (pl) rfl (by omega) (by omega) (by omega) (by omega) (by omega) (by omega) og65 og66 og67 opl f74 f75 f70 f71 f72 f76 rfl (by omega) p57 (add_W p68 p69 (osz 12).1 (by omega) hW) (fun hQ xQ0 xQ1 xQ2 xQ3 xQ4 xQ5 xQ6 xQ7 xQ8 xQ9 rQ yQ0 yQ1 yQ2 yQ3 yQ4 yQ5 yQ6 yQ7 yQ8 yQ9 yQ10 pQ0 pQ1 pQ2 sQ uQ0 uQ1 uQ2 uQ3 uQ4 => k hQ xQ0 xQ1 xQ2 xQ3 xQ4 xQ5 xQ6 xQ7 xQ8 xQ9 rQ yQ0 yQ1 yQ2 yQ3 yQ4 yQ5 yQ6 yQ7 yQ8 yQ9 yQ10 (fun q hq => ((pQ0 q hq).trans (add_A p68 (osz 12).1 q hq))) (fun q hq => ((pQ1 q hq).trans (add_C p69 q hq))) pQ2 (((((Sm.refl [50, 54, 55, 56, 61] _).tr s20 (fun _ q => q) (by simp)).tr s49 (fun _ q => q) (by simp)).tr s64 (fun _ q => q) (by simp)).tr sQ (fun _ q => q) (fun _ q => q)) uQ0 uQ1 uQ2 uQ3 uQ4)
              · have nv77 := p28.2.1 c32
                have nl78 := p28.1.resolve_left (by omega)
                refine g_iconst (v := iZ (1)) 225 dX9_readNames_224 rfl rfl ?_
                refine g_goto 229 dX9_readNames_225 rfl ?_
                refine g_istore (L1 := [some (.ref 50), none, some (.int (iZ 12)), some (.int (iZ z22)), some (.int (iZ z26)), some (.int (iZ 1)), none]) 231 dX9_readNames_229 (by decide) rfl rfl rfl ?_
                refine g_aload_n 232 dX9_readNames_231 rfl rfl ?_
                refine g_iload 234 dX9_readNames_232 rfl rfl ?_
                refine g_ifZ_ne 245 237 dX9_readNames_234 rfl rfl (by decide) (fun _ => ?_) (fun q => absurd q (by decide))
                refine g_iconst (v := iZ (1)) 246 dX9_readNames_245 rfl rfl ?_
                refine g_goto 250 dX9_readNames_246 rfl ?_
                refine g_callV (z := mX9_due) (As := [.int (iZ 1)]) 253 dX9_readNames_250 mwX9_due ⟨by decide, by decide⟩ rfl wlX9_150 wiX9_due wsX9_due f29 rfl rfl rfl (nle rfl) (nle rfl) rfl ?_
                have f79 := (s20.get (by decide) F1)
                refine n_due1  f29 f79 (by omega) (by omega) (by omega) (by omega) (by omega) (by omega) (by omega) (by omega) (by omega) (by omega) (by omega) (by omega) (by omega) (by omega) (by omega) (by omega) (by omega) (by omega) (fun h80 z82 z83 z84 z85 z86 z87 rz82 rz83 rz84 rz85 rz86 rz87 p88 p89 s81 f90 => ?_)
                refine rI ?_
                refine g_istore (L1 := [some (.ref 50), none, some (.int (iZ 12)), some (.int (iZ z22)), some (.int (iZ z26)), some (.int (iZ 1)), some (.int (iZ z87))]) 255 dX9_readNames_253 (by decide) rfl rfl rfl ?_
                refine g_aload_n 256 dX9_readNames_255 rfl rfl ?_
                refine g_get 259 dX9_readNames_256 faX9_97_X9 f90 rfl rfl ?_
                refine g_bipush (v := iZ (-9)) 261 dX9_readNames_259 (by decide +kernel) rfl ?_
                refine g_icZ_ne 284 264 dX9_readNames_261 rfl rfl (by decide) (by decide) (fun q => absurd q (by decide)) (fun _ => ?_)
                refine g_aload_n 265 dX9_readNames_264 rfl rfl ?_
                refine g_iload_n 266 dX9_readNames_265 rfl rfl ?_
                refine g_iload 268 dX9_readNames_266 rfl rfl ?_
                refine g_ifZ_eq 278 271 dX9_readNames_268 rfl rfl (by decide) (fun q => absurd q (by decide)) (fun _ => ?_)
                refine g_iconst (v := iZ (-1)) 272 dX9_readNames_271 rfl rfl ?_
                refine g_iload 274 dX9_readNames_272 rfl rfl ?_
                refine g_isubZ ((-1) - z87) 275 dX9_readNames_274 (by omega) rfl ?_
                refine g_goto 280 dX9_readNames_275 rfl ?_
                refine g_iload_n 281 dX9_readNames_280 rfl rfl ?_
                refine g_callV (z := mX9_add) (As := [.int (iZ 12), .int (iZ ((-1) - z87)), .int (iZ z22)]) 284 dX9_readNames_281 mwX9_add ⟨by decide, by decide⟩ rfl wlX9_115 wiX9_add wsX9_add f90 rfl rfl rfl (nle rfl) (nle rfl) rfl ?_
                have bz91 := osz 12
                have f92 := (s81.get (by decide) (s20.get (by decide) F2))
                have f93 := (s81.get (by decide) (s20.get (by decide) F3))
                have f94 := (s81.get (by decide) (s20.get (by decide) F4))
                refine n_add  f90 f92 f93 f94 obf olf osz (by omega) (by omega) (by omega) (by omega) (by omega) (by omega) (by omega) (by omega) (by omega) (by omega) (by omega) (by omega) (by omega) (by omega) (by omega) (by omega) (by omega) (by omega) (by omega) (by omega) (by omega) (fun h95 g97 g98 g99 og97 og98 og99 p100 p101 s96 f102 f103 f104 => ?_)
                refine rV ?_
                have ez105 := add_Z p101
                refine g_goto 38 dX9_readNames_284 rfl ?_
                refine Go.fgt 3 ?_
                refine Go.fgt 4 ?_
                refine Go.fgt 5 ?_
                refine Go.fgt 6 ?_
                have f106 := (s96.get (by decide) f90)
                have f107 := (s96.get (by decide) (s81.get (by decide) f79))
                have f108 := (s96.get (by decide) (s81.get (by decide) (s20.get (by decide) F5)))
                exact ih _ (by omega) _ (z82) (-9) (z83) (z84) (z85) (z86) (g97) (g98) (g99) (pl) rfl (by omega) (by omega) (by omega) (by omega) (by omega) (by omega) og97 og98 og99 opl f106 f107 f102 f103 f104 f108 rfl (by omega) p89 (add_W p100 p101 (osz 12).1 (by omega) hW) (fun hQ xQ0 xQ1 xQ2 xQ3 xQ4 xQ5 xQ6 xQ7 xQ8 xQ9 rQ yQ0 yQ1 yQ2 yQ3 yQ4 yQ5 yQ6 yQ7 yQ8 yQ9 yQ10 pQ0 pQ1 pQ2 sQ uQ0 uQ1 uQ2 uQ3 uQ4 => k hQ xQ0 xQ1 xQ2 xQ3 xQ4 xQ5 xQ6 xQ7 xQ8 xQ9 rQ yQ0 yQ1 yQ2 yQ3 yQ4 yQ5 yQ6 yQ7 yQ8 yQ9 yQ10 (fun q hq => ((pQ0 q hq).trans (add_A p100 (osz 12).1 q hq))) (fun q hq => ((pQ1 q hq).trans (add_C p101 q hq))) pQ2 (((((Sm.refl [50, 54, 55, 56, 61] _).tr s20 (fun _ q => q) (by simp)).tr s81 (fun _ q => q) (by simp)).tr s96 (fun _ q => q) (by simp)).tr sQ (fun _ q => q) (fun _ q => q)) uQ0 uQ1 uQ2 uQ3 uQ4)
            · refine g_iload 205 dX9_readNames_203 rfl rfl ?_
              refine g_callS (z := mX9_hasNumber) (As := [.int (iZ z26)]) 208 dX9_readNames_205 mwX9_hasNumber ⟨by decide, by decide⟩ rfl wlX9_154 wtX9_hasNumber rfl (nle rfl) (nle rfl) rfl ?_
              refine n_hasn  (by omega) (fun z109 rz109 => ?_)
              refine rI ?_
              refine g_ifZ_eq 284 211 dX9_readNames_208 rfl rfl (rg01 rz109) (fun c110 => ?_) (fun c110 => ?_)
              · refine g_goto 38 dX9_readNames_284 rfl ?_
                refine Go.fgt 3 ?_
                refine Go.fgt 4 ?_
                have f111 := (s20.get (by decide) F1)
                have f112 := (s20.get (by decide) F2)
                have f113 := (s20.get (by decide) F3)
                have f114 := (s20.get (by decide) F4)
                have f115 := (s20.get (by decide) F5)
                exact ih _ (by omega) _ (z21) (-9) (z22) (z23) (z24) (z25) (bf) (lf) (sz) (pl) rfl (by omega) (by omega) (by omega) (by omega) (by omega) (by omega) obf olf osz opl f29 f111 f112 f113 f114 f115 rfl (by omega) p28 hW (fun hQ xQ0 xQ1 xQ2 xQ3 xQ4 xQ5 xQ6 xQ7 xQ8 xQ9 rQ yQ0 yQ1 yQ2 yQ3 yQ4 yQ5 yQ6 yQ7 yQ8 yQ9 yQ10 pQ0 pQ1 pQ2 sQ uQ0 uQ1 uQ2 uQ3 uQ4 => k hQ xQ0 xQ1 xQ2 xQ3 xQ4 xQ5 xQ6 xQ7 xQ8 xQ9 rQ yQ0 yQ1 yQ2 yQ3 yQ4 yQ5 yQ6 yQ7 yQ8 yQ9 yQ10 (fun q hq => (pQ0 q hq)) (fun q hq => (pQ1 q hq)) pQ2 (((Sm.refl [50, 54, 55, 56, 61] _).tr s20 (fun _ q => q) (by simp)).tr sQ (fun _ q => q) (fun _ q => q)) uQ0 uQ1 uQ2 uQ3 uQ4)
              · refine g_aload_n 212 dX9_readNames_211 rfl rfl ?_
                refine g_get 215 dX9_readNames_212 faX9_134_X9 f29 rfl rfl ?_
                refine g_istore_n (L1 := [some (.ref 50), none, some (.int (iZ 12)), some (.int (iZ z22)), some (.int (iZ z26)), none, none]) 216 dX9_readNames_215 (by decide) rfl rfl rfl ?_
                refine g_aload_n 217 dX9_readNames_216 rfl rfl ?_
                refine g_get 220 dX9_readNames_217 faX9_140_X9 f29 rfl rfl ?_
                refine g_iconst (v := iZ (2)) 221 dX9_readNames_220 rfl rfl ?_
                refine g_icZ_ne 228 224 dX9_readNames_221 rfl rfl (by omega) (by decide) (fun c116 => ?_) (fun c116 => ?_)
                · refine g_iconst (v := iZ (0)) 229 dX9_readNames_228 rfl rfl ?_
                  refine g_istore (L1 := [some (.ref 50), none, some (.int (iZ 12)), some (.int (iZ z22)), some (.int (iZ z26)), some (.int (iZ 0)), none]) 231 dX9_readNames_229 (by decide) rfl rfl rfl ?_
                  refine g_aload_n 232 dX9_readNames_231 rfl rfl ?_
                  refine g_iload 234 dX9_readNames_232 rfl rfl ?_
                  refine g_ifZ_ne 245 237 dX9_readNames_234 rfl rfl (by decide) (fun q => absurd q (by decide)) (fun _ => ?_)
                  refine g_aload_n 238 dX9_readNames_237 rfl rfl ?_
                  refine g_get 241 dX9_readNames_238 faX9_140_X9 f29 rfl rfl ?_
                  refine g_iconst (v := iZ (3)) 242 dX9_readNames_241 rfl rfl ?_
                  refine g_icZ_ne 249 245 dX9_readNames_242 rfl rfl (by omega) (by decide) (fun c117 => ?_) (fun c117 => ?_)
                  · refine g_iconst (v := iZ (0)) 250 dX9_readNames_249 rfl rfl ?_
                    refine g_callV (z := mX9_due) (As := [.int (iZ 0)]) 253 dX9_readNames_250 mwX9_due ⟨by decide, by decide⟩ rfl wlX9_150 wiX9_due wsX9_due f29 rfl rfl rfl (nle rfl) (nle rfl) rfl ?_
                    have f124 := (s20.get (by decide) F1)
                    refine n_due0 f29 f124 (by omega) (by omega) (by omega) (by omega) (by omega) (by omega) (by omega) (by omega) (by omega) (by omega) (by omega) (by omega) (by omega) (by omega) (by omega) (by omega) (by omega) (fun h118 z121 z122 rz121 rz122 p123 s119 f120 => ?_)
                    refine rI ?_
                    refine g_istore (L1 := [some (.ref 50), none, some (.int (iZ 12)), some (.int (iZ z22)), some (.int (iZ z26)), some (.int (iZ 0)), some (.int (iZ z122))]) 255 dX9_readNames_253 (by decide) rfl rfl rfl ?_
                    refine g_aload_n 256 dX9_readNames_255 rfl rfl ?_
                    refine g_get 259 dX9_readNames_256 faX9_97_X9 f120 rfl rfl ?_
                    refine g_bipush (v := iZ (-9)) 261 dX9_readNames_259 (by decide +kernel) rfl ?_
                    refine g_icZ_ne 284 264 dX9_readNames_261 rfl rfl (by omega) (by decide) (fun _ => ?_) (fun q => absurd q (by omega))
                    refine g_goto 38 dX9_readNames_284 rfl ?_
                    refine g_aload_n 39 dX9_readNames_38 rfl rfl ?_
                    refine g_get 42 dX9_readNames_39 faX9_97_X9 f120 rfl rfl ?_
                    refine g_bipush (v := iZ (-9)) 44 dX9_readNames_42 (by decide +kernel) rfl ?_
                    refine g_icZ_ne 287 47 dX9_readNames_44 rfl rfl (by omega) (by decide) (fun _ => ?_) (fun q => absurd q (by omega))
                    refine g_aload_n 288 dX9_readNames_287 rfl rfl ?_
                    refine g_get 291 dX9_readNames_288 faX9_97_X9 f120 rfl rfl ?_
                    refine g_bipush (v := iZ (-9)) 293 dX9_readNames_291 (by decide +kernel) rfl ?_
                    refine g_icZ_ne 305 296 dX9_readNames_293 rfl rfl (by omega) (by decide) (fun _ => ?_) (fun q => absurd q (by omega))
                    refine g_aload_n 306 dX9_readNames_305 rfl rfl ?_
                    refine g_get 309 dX9_readNames_306 faX9_97_X9 f120 rfl rfl ?_
                    refine g_bipush (v := iZ (-9)) 311 dX9_readNames_309 (by decide +kernel) rfl ?_
                    refine g_icZ_eq 321 314 dX9_readNames_311 rfl rfl (by omega) (by decide) (fun q => absurd q (by omega)) (fun _ => ?_)
                    refine g_aload_n 315 dX9_readNames_314 rfl rfl ?_
                    refine g_get 318 dX9_readNames_315 faX9_97_X9 f120 rfl rfl ?_
                    refine g_goto 325 dX9_readNames_318 rfl ?_
                    refine g_iret rfl dX9_readNames_325 ?_
                    have f125 := (s119.get (by decide) (s20.get (by decide) F2))
                    have f126 := (s119.get (by decide) (s20.get (by decide) F3))
                    have f127 := (s119.get (by decide) (s20.get (by decide) F4))
                    have f128 := (s119.get (by decide) (s20.get (by decide) F5))
                    exact k _ (z21) (z121) (z22) (z23) (z24) (z25) (bf) (lf) (sz) (pl) (z121) (by omega) (by omega) (by omega) (by omega) (by omega) (by omega) obf olf osz opl (by omega) (fun q hq => rfl) (fun q hq => rfl) (by intro q9; omega) (((Sm.refl [50, 54, 55, 56, 61] _).tr s20 (fun _ q => q) (by simp)).tr s119 (fun _ q => q) (by simp)) f120 f125 f126 f127 f128
                  · have nv129 := p28.2.2.2 c117
                    have nl130 := p28.1.resolve_left (by omega)
                    refine g_iconst (v := iZ (1)) 246 dX9_readNames_245 rfl rfl ?_
                    refine g_goto 250 dX9_readNames_246 rfl ?_
                    refine g_callV (z := mX9_due) (As := [.int (iZ 1)]) 253 dX9_readNames_250 mwX9_due ⟨by decide, by decide⟩ rfl wlX9_150 wiX9_due wsX9_due f29 rfl rfl rfl (nle rfl) (nle rfl) rfl ?_
                    have f131 := (s20.get (by decide) F1)
                    refine n_due1  f29 f131 (by omega) (by omega) (by omega) (by omega) (by omega) (by omega) (by omega) (by omega) (by omega) (by omega) (by omega) (by omega) (by omega) (by omega) (by omega) (by omega) (by omega) (by omega) (fun h132 z134 z135 z136 z137 z138 z139 rz134 rz135 rz136 rz137 rz138 rz139 p140 p141 s133 f142 => ?_)
                    refine rI ?_
                    refine g_istore (L1 := [some (.ref 50), none, some (.int (iZ 12)), some (.int (iZ z22)), some (.int (iZ z26)), some (.int (iZ 0)), some (.int (iZ z139))]) 255 dX9_readNames_253 (by decide) rfl rfl rfl ?_
                    refine g_aload_n 256 dX9_readNames_255 rfl rfl ?_
                    refine g_get 259 dX9_readNames_256 faX9_97_X9 f142 rfl rfl ?_
                    refine g_bipush (v := iZ (-9)) 261 dX9_readNames_259 (by decide +kernel) rfl ?_
                    refine g_icZ_ne 284 264 dX9_readNames_261 rfl rfl (by decide) (by decide) (fun q => absurd q (by decide)) (fun _ => ?_)
                    refine g_aload_n 265 dX9_readNames_264 rfl rfl ?_
                    refine g_iload_n 266 dX9_readNames_265 rfl rfl ?_
                    refine g_iload 268 dX9_readNames_266 rfl rfl ?_
                    refine g_ifZ_eq 278 271 dX9_readNames_268 rfl rfl (by decide) (fun _ => ?_) (fun q => absurd q (by decide))
                    refine g_iload 280 dX9_readNames_278 rfl rfl ?_
                    refine g_iload_n 281 dX9_readNames_280 rfl rfl ?_
                    refine g_callV (z := mX9_add) (As := [.int (iZ 12), .int (iZ z139), .int (iZ z22)]) 284 dX9_readNames_281 mwX9_add ⟨by decide, by decide⟩ rfl wlX9_115 wiX9_add wsX9_add f142 rfl rfl rfl (nle rfl) (nle rfl) rfl ?_
                    have bz143 := osz 12
                    have f144 := (s133.get (by decide) (s20.get (by decide) F2))
                    have f145 := (s133.get (by decide) (s20.get (by decide) F3))
                    have f146 := (s133.get (by decide) (s20.get (by decide) F4))
                    refine n_add  f142 f144 f145 f146 obf olf osz (by omega) (by omega) (by omega) (by omega) (by omega) (by omega) (by omega) (by omega) (by omega) (by omega) (by omega) (by omega) (by omega) (by omega) (by omega) (by omega) (by omega) (by omega) (by omega) (by omega) (by omega) (fun h147 g149 g150 g151 og149 og150 og151 p152 p153 s148 f154 f155 f156 => ?_)
                    refine rV ?_
                    have ez157 := add_Z p153
                    refine g_goto 38 dX9_readNames_284 rfl ?_
                    refine Go.fgt 3 ?_
                    refine Go.fgt 4 ?_
                    refine Go.fgt 5 ?_
                    refine Go.fgt 6 ?_
                    have f158 := (s148.get (by decide) f142)
                    have f159 := (s148.get (by decide) (s133.get (by decide) f131))
                    have f160 := (s148.get (by decide) (s133.get (by decide) (s20.get (by decide) F5)))
                    exact ih _ (by omega) _ (z134) (-9) (z135) (z136) (z137) (z138) (g149) (g150) (g151) (pl) rfl (by omega) (by omega) (by omega) (by omega) (by omega) (by omega) og149 og150 og151 opl f158 f159 f154 f155 f156 f160 rfl (by omega) p141 (add_W p152 p153 (osz 12).1 (by omega) hW) (fun hQ xQ0 xQ1 xQ2 xQ3 xQ4 xQ5 xQ6 xQ7 xQ8 xQ9 rQ yQ0 yQ1 yQ2 yQ3 yQ4 yQ5 yQ6 yQ7 yQ8 yQ9 yQ10 pQ0 pQ1 pQ2 sQ uQ0 uQ1 uQ2 uQ3 uQ4 => k hQ xQ0 xQ1 xQ2 xQ3 xQ4 xQ5 xQ6 xQ7 xQ8 xQ9 rQ yQ0 yQ1 yQ2 yQ3 yQ4 yQ5 yQ6 yQ7 yQ8 yQ9 yQ10 (fun q hq => ((pQ0 q hq).trans (add_A p152 (osz 12).1 q hq))) (fun q hq => ((pQ1 q hq).trans (add_C p153 q hq))) pQ2 (((((Sm.refl [50, 54, 55, 56, 61] _).tr s20 (fun _ q => q) (by simp)).tr s133 (fun _ q => q) (by simp)).tr s148 (fun _ q => q) (by simp)).tr sQ (fun _ q => q) (fun _ q => q)) uQ0 uQ1 uQ2 uQ3 uQ4)
                · have nv161 := p28.2.1 c116
                  have nl162 := p28.1.resolve_left (by omega)
                  refine g_iconst (v := iZ (1)) 225 dX9_readNames_224 rfl rfl ?_
                  refine g_goto 229 dX9_readNames_225 rfl ?_
                  refine g_istore (L1 := [some (.ref 50), none, some (.int (iZ 12)), some (.int (iZ z22)), some (.int (iZ z26)), some (.int (iZ 1)), none]) 231 dX9_readNames_229 (by decide) rfl rfl rfl ?_
                  refine g_aload_n 232 dX9_readNames_231 rfl rfl ?_
                  refine g_iload 234 dX9_readNames_232 rfl rfl ?_
                  refine g_ifZ_ne 245 237 dX9_readNames_234 rfl rfl (by decide) (fun _ => ?_) (fun q => absurd q (by decide))
                  refine g_iconst (v := iZ (1)) 246 dX9_readNames_245 rfl rfl ?_
                  refine g_goto 250 dX9_readNames_246 rfl ?_
                  refine g_callV (z := mX9_due) (As := [.int (iZ 1)]) 253 dX9_readNames_250 mwX9_due ⟨by decide, by decide⟩ rfl wlX9_150 wiX9_due wsX9_due f29 rfl rfl rfl (nle rfl) (nle rfl) rfl ?_
                  have f163 := (s20.get (by decide) F1)
                  refine n_due1  f29 f163 (by omega) (by omega) (by omega) (by omega) (by omega) (by omega) (by omega) (by omega) (by omega) (by omega) (by omega) (by omega) (by omega) (by omega) (by omega) (by omega) (by omega) (by omega) (fun h164 z166 z167 z168 z169 z170 z171 rz166 rz167 rz168 rz169 rz170 rz171 p172 p173 s165 f174 => ?_)
                  refine rI ?_
                  refine g_istore (L1 := [some (.ref 50), none, some (.int (iZ 12)), some (.int (iZ z22)), some (.int (iZ z26)), some (.int (iZ 1)), some (.int (iZ z171))]) 255 dX9_readNames_253 (by decide) rfl rfl rfl ?_
                  refine g_aload_n 256 dX9_readNames_255 rfl rfl ?_
                  refine g_get 259 dX9_readNames_256 faX9_97_X9 f174 rfl rfl ?_
                  refine g_bipush (v := iZ (-9)) 261 dX9_readNames_259 (by decide +kernel) rfl ?_
                  refine g_icZ_ne 284 264 dX9_readNames_261 rfl rfl (by decide) (by decide) (fun q => absurd q (by decide)) (fun _ => ?_)
                  refine g_aload_n 265 dX9_readNames_264 rfl rfl ?_
                  refine g_iload_n 266 dX9_readNames_265 rfl rfl ?_
                  refine g_iload 268 dX9_readNames_266 rfl rfl ?_
                  refine g_ifZ_eq 278 271 dX9_readNames_268 rfl rfl (by decide) (fun q => absurd q (by decide)) (fun _ => ?_)
                  refine g_iconst (v := iZ (-1)) 272 dX9_readNames_271 rfl rfl ?_
                  refine g_iload 274 dX9_readNames_272 rfl rfl ?_
                  refine g_isubZ ((-1) - z171) 275 dX9_readNames_274 (by omega) rfl ?_
                  refine g_goto 280 dX9_readNames_275 rfl ?_
                  refine g_iload_n 281 dX9_readNames_280 rfl rfl ?_
                  refine g_callV (z := mX9_add) (As := [.int (iZ 12), .int (iZ ((-1) - z171)), .int (iZ z22)]) 284 dX9_readNames_281 mwX9_add ⟨by decide, by decide⟩ rfl wlX9_115 wiX9_add wsX9_add f174 rfl rfl rfl (nle rfl) (nle rfl) rfl ?_
                  have bz175 := osz 12
                  have f176 := (s165.get (by decide) (s20.get (by decide) F2))
                  have f177 := (s165.get (by decide) (s20.get (by decide) F3))
                  have f178 := (s165.get (by decide) (s20.get (by decide) F4))
                  refine n_add  f174 f176 f177 f178 obf olf osz (by omega) (by omega) (by omega) (by omega) (by omega) (by omega) (by omega) (by omega) (by omega) (by omega) (by omega) (by omega) (by omega) (by omega) (by omega) (by omega) (by omega) (by omega) (by omega) (by omega) (by omega) (fun h179 g181 g182 g183 og181 og182 og183 p184 p185 s180 f186 f187 f188 => ?_)
                  refine rV ?_
                  have ez189 := add_Z p185
                  refine g_goto 38 dX9_readNames_284 rfl ?_
                  refine Go.fgt 3 ?_
                  refine Go.fgt 4 ?_
                  refine Go.fgt 5 ?_
                  refine Go.fgt 6 ?_
                  have f190 := (s180.get (by decide) f174)
                  have f191 := (s180.get (by decide) (s165.get (by decide) f163))
                  have f192 := (s180.get (by decide) (s165.get (by decide) (s20.get (by decide) F5)))
                  exact ih _ (by omega) _ (z166) (-9) (z167) (z168) (z169) (z170) (g181) (g182) (g183) (pl) rfl (by omega) (by omega) (by omega) (by omega) (by omega) (by omega) og181 og182 og183 opl f190 f191 f186 f187 f188 f192 rfl (by omega) p173 (add_W p184 p185 (osz 12).1 (by omega) hW) (fun hQ xQ0 xQ1 xQ2 xQ3 xQ4 xQ5 xQ6 xQ7 xQ8 xQ9 rQ yQ0 yQ1 yQ2 yQ3 yQ4 yQ5 yQ6 yQ7 yQ8 yQ9 yQ10 pQ0 pQ1 pQ2 sQ uQ0 uQ1 uQ2 uQ3 uQ4 => k hQ xQ0 xQ1 xQ2 xQ3 xQ4 xQ5 xQ6 xQ7 xQ8 xQ9 rQ yQ0 yQ1 yQ2 yQ3 yQ4 yQ5 yQ6 yQ7 yQ8 yQ9 yQ10 (fun q hq => ((pQ0 q hq).trans (add_A p184 (osz 12).1 q hq))) (fun q hq => ((pQ1 q hq).trans (add_C p185 q hq))) pQ2 (((((Sm.refl [50, 54, 55, 56, 61] _).tr s20 (fun _ q => q) (by simp)).tr s165 (fun _ q => q) (by simp)).tr s180 (fun _ q => q) (by simp)).tr sQ (fun _ q => q) (fun _ q => q)) uQ0 uQ1 uQ2 uQ3 uQ4)
          · refine g_aload_n 180 dX9_readNames_179 rfl rfl ?_
            refine g_iload_n 181 dX9_readNames_180 rfl rfl ?_
            refine g_iload 183 dX9_readNames_181 rfl rfl ?_
            refine g_iload_n 184 dX9_readNames_183 rfl rfl ?_
            refine g_callV (z := mX9_add) (As := [.int (iZ 12), .int (iZ z26), .int (iZ st)]) 187 dX9_readNames_184 mwX9_add ⟨by decide, by decide⟩ rfl wlX9_115 wiX9_add wsX9_add f29 rfl rfl rfl (nle rfl) (nle rfl) rfl ?_
            have bz193 := osz 12
            have f194 := (s20.get (by decide) F2)
            have f195 := (s20.get (by decide) F3)
            have f196 := (s20.get (by decide) F4)
            refine n_add  f29 f194 f195 f196 obf olf osz (by omega) (by omega) (by omega) (by omega) (by omega) (by omega) (by omega) (by omega) (by omega) (by omega) (by omega) (by omega) (by omega) (by omega) (by omega) (by omega) (by omega) (by omega) (by omega) (by omega) (by omega) (fun h197 g199 g200 g201 og199 og200 og201 p202 p203 s198 f204 f205 f206 => ?_)
            refine rV ?_
            have ez207 := add_Z p203
            refine g_aload_n 188 dX9_readNames_187 rfl rfl ?_
            have f208 := (s198.get (by decide) f29)
            refine g_get 191 dX9_readNames_188 faX9_97_X9 f208 rfl rfl ?_
            refine g_bipush (v := iZ (-9)) 193 dX9_readNames_191 (by decide +kernel) rfl ?_
            refine g_icZ_ne 284 196 dX9_readNames_193 rfl rfl (by decide) (by decide) (fun q => absurd q (by decide)) (fun _ => ?_)
            refine g_iload 198 dX9_readNames_196 rfl rfl ?_
            refine g_bipush (v := iZ (16)) 200 dX9_readNames_198 (by decide +kernel) rfl ?_
            refine g_icZ_eq 211 203 dX9_readNames_200 rfl rfl (by omega) (by decide) (fun q => absurd q (by omega)) (fun _ => ?_)
            refine g_iload 205 dX9_readNames_203 rfl rfl ?_
            refine g_callS (z := mX9_hasNumber) (As := [.int (iZ z26)]) 208 dX9_readNames_205 mwX9_hasNumber ⟨by decide, by decide⟩ rfl wlX9_154 wtX9_hasNumber rfl (nle rfl) (nle rfl) rfl ?_
            refine n_hasn  (by omega) (fun z209 rz209 => ?_)
            refine rI ?_
            refine g_ifZ_eq 284 211 dX9_readNames_208 rfl rfl (rg01 rz209) (fun c210 => ?_) (fun c210 => ?_)
            · refine g_goto 38 dX9_readNames_284 rfl ?_
              refine Go.fgt 3 ?_
              refine Go.fgt 4 ?_
              have f211 := (s198.get (by decide) (s20.get (by decide) F1))
              have f212 := (s198.get (by decide) (s20.get (by decide) F5))
              exact ih _ (by omega) _ (z21) (-9) (z22) (z23) (z24) (z25) (g199) (g200) (g201) (pl) rfl (by omega) (by omega) (by omega) (by omega) (by omega) (by omega) og199 og200 og201 opl f208 f211 f204 f205 f206 f212 rfl (by omega) p28 (add_W p202 p203 (osz 12).1 (by omega) hW) (fun hQ xQ0 xQ1 xQ2 xQ3 xQ4 xQ5 xQ6 xQ7 xQ8 xQ9 rQ yQ0 yQ1 yQ2 yQ3 yQ4 yQ5 yQ6 yQ7 yQ8 yQ9 yQ10 pQ0 pQ1 pQ2 sQ uQ0 uQ1 uQ2 uQ3 uQ4 => k hQ xQ0 xQ1 xQ2 xQ3 xQ4 xQ5 xQ6 xQ7 xQ8 xQ9 rQ yQ0 yQ1 yQ2 yQ3 yQ4 yQ5 yQ6 yQ7 yQ8 yQ9 yQ10 (fun q hq => ((pQ0 q hq).trans (add_A p202 (osz 12).1 q hq))) (fun q hq => ((pQ1 q hq).trans (add_C p203 q hq))) pQ2 ((((Sm.refl [50, 54, 55, 56, 61] _).tr s20 (fun _ q => q) (by simp)).tr s198 (fun _ q => q) (by simp)).tr sQ (fun _ q => q) (fun _ q => q)) uQ0 uQ1 uQ2 uQ3 uQ4)
            · refine g_aload_n 212 dX9_readNames_211 rfl rfl ?_
              refine g_get 215 dX9_readNames_212 faX9_134_X9 f208 rfl rfl ?_
              refine g_istore_n (L1 := [some (.ref 50), none, some (.int (iZ 12)), some (.int (iZ z22)), some (.int (iZ z26)), none, none]) 216 dX9_readNames_215 (by decide) rfl rfl rfl ?_
              refine g_aload_n 217 dX9_readNames_216 rfl rfl ?_
              refine g_get 220 dX9_readNames_217 faX9_140_X9 f208 rfl rfl ?_
              refine g_iconst (v := iZ (2)) 221 dX9_readNames_220 rfl rfl ?_
              refine g_icZ_ne 228 224 dX9_readNames_221 rfl rfl (by omega) (by decide) (fun c213 => ?_) (fun c213 => ?_)
              · refine g_iconst (v := iZ (0)) 229 dX9_readNames_228 rfl rfl ?_
                refine g_istore (L1 := [some (.ref 50), none, some (.int (iZ 12)), some (.int (iZ z22)), some (.int (iZ z26)), some (.int (iZ 0)), none]) 231 dX9_readNames_229 (by decide) rfl rfl rfl ?_
                refine g_aload_n 232 dX9_readNames_231 rfl rfl ?_
                refine g_iload 234 dX9_readNames_232 rfl rfl ?_
                refine g_ifZ_ne 245 237 dX9_readNames_234 rfl rfl (by decide) (fun q => absurd q (by decide)) (fun _ => ?_)
                refine g_aload_n 238 dX9_readNames_237 rfl rfl ?_
                refine g_get 241 dX9_readNames_238 faX9_140_X9 f208 rfl rfl ?_
                refine g_iconst (v := iZ (3)) 242 dX9_readNames_241 rfl rfl ?_
                refine g_icZ_ne 249 245 dX9_readNames_242 rfl rfl (by omega) (by decide) (fun c214 => ?_) (fun c214 => ?_)
                · refine g_iconst (v := iZ (0)) 250 dX9_readNames_249 rfl rfl ?_
                  refine g_callV (z := mX9_due) (As := [.int (iZ 0)]) 253 dX9_readNames_250 mwX9_due ⟨by decide, by decide⟩ rfl wlX9_150 wiX9_due wsX9_due f208 rfl rfl rfl (nle rfl) (nle rfl) rfl ?_
                  have f221 := (s198.get (by decide) (s20.get (by decide) F1))
                  refine n_due0 f208 f221 (by omega) (by omega) (by omega) (by omega) (by omega) (by omega) (by omega) (by omega) (by omega) (by omega) (by omega) (by omega) (by omega) (by omega) (by omega) (by omega) (by omega) (fun h215 z218 z219 rz218 rz219 p220 s216 f217 => ?_)
                  refine rI ?_
                  refine g_istore (L1 := [some (.ref 50), none, some (.int (iZ 12)), some (.int (iZ z22)), some (.int (iZ z26)), some (.int (iZ 0)), some (.int (iZ z219))]) 255 dX9_readNames_253 (by decide) rfl rfl rfl ?_
                  refine g_aload_n 256 dX9_readNames_255 rfl rfl ?_
                  refine g_get 259 dX9_readNames_256 faX9_97_X9 f217 rfl rfl ?_
                  refine g_bipush (v := iZ (-9)) 261 dX9_readNames_259 (by decide +kernel) rfl ?_
                  refine g_icZ_ne 284 264 dX9_readNames_261 rfl rfl (by omega) (by decide) (fun _ => ?_) (fun q => absurd q (by omega))
                  refine g_goto 38 dX9_readNames_284 rfl ?_
                  refine g_aload_n 39 dX9_readNames_38 rfl rfl ?_
                  refine g_get 42 dX9_readNames_39 faX9_97_X9 f217 rfl rfl ?_
                  refine g_bipush (v := iZ (-9)) 44 dX9_readNames_42 (by decide +kernel) rfl ?_
                  refine g_icZ_ne 287 47 dX9_readNames_44 rfl rfl (by omega) (by decide) (fun _ => ?_) (fun q => absurd q (by omega))
                  refine g_aload_n 288 dX9_readNames_287 rfl rfl ?_
                  refine g_get 291 dX9_readNames_288 faX9_97_X9 f217 rfl rfl ?_
                  refine g_bipush (v := iZ (-9)) 293 dX9_readNames_291 (by decide +kernel) rfl ?_
                  refine g_icZ_ne 305 296 dX9_readNames_293 rfl rfl (by omega) (by decide) (fun _ => ?_) (fun q => absurd q (by omega))
                  refine g_aload_n 306 dX9_readNames_305 rfl rfl ?_
                  refine g_get 309 dX9_readNames_306 faX9_97_X9 f217 rfl rfl ?_
                  refine g_bipush (v := iZ (-9)) 311 dX9_readNames_309 (by decide +kernel) rfl ?_
                  refine g_icZ_eq 321 314 dX9_readNames_311 rfl rfl (by omega) (by decide) (fun q => absurd q (by omega)) (fun _ => ?_)
                  refine g_aload_n 315 dX9_readNames_314 rfl rfl ?_
                  refine g_get 318 dX9_readNames_315 faX9_97_X9 f217 rfl rfl ?_
                  refine g_goto 325 dX9_readNames_318 rfl ?_
                  refine g_iret rfl dX9_readNames_325 ?_
                  have f222 := (s216.get (by decide) f204)
                  have f223 := (s216.get (by decide) f205)
                  have f224 := (s216.get (by decide) f206)
                  have f225 := (s216.get (by decide) (s198.get (by decide) (s20.get (by decide) F5)))
                  exact k _ (z21) (z218) (z22) (z23) (z24) (z25) (g199) (g200) (g201) (pl) (z218) (by omega) (by omega) (by omega) (by omega) (by omega) (by omega) og199 og200 og201 opl (by omega) (fun q hq => (add_A p202 (osz 12).1 q hq)) (fun q hq => (add_C p203 q hq)) (by intro q9; omega) ((((Sm.refl [50, 54, 55, 56, 61] _).tr s20 (fun _ q => q) (by simp)).tr s198 (fun _ q => q) (by simp)).tr s216 (fun _ q => q) (by simp)) f217 f222 f223 f224 f225
                · have nv226 := p28.2.2.2 c214
                  have nl227 := p28.1.resolve_left (by omega)
                  refine g_iconst (v := iZ (1)) 246 dX9_readNames_245 rfl rfl ?_
                  refine g_goto 250 dX9_readNames_246 rfl ?_
                  refine g_callV (z := mX9_due) (As := [.int (iZ 1)]) 253 dX9_readNames_250 mwX9_due ⟨by decide, by decide⟩ rfl wlX9_150 wiX9_due wsX9_due f208 rfl rfl rfl (nle rfl) (nle rfl) rfl ?_
                  have f228 := (s198.get (by decide) (s20.get (by decide) F1))
                  refine n_due1  f208 f228 (by omega) (by omega) (by omega) (by omega) (by omega) (by omega) (by omega) (by omega) (by omega) (by omega) (by omega) (by omega) (by omega) (by omega) (by omega) (by omega) (by omega) (by omega) (fun h229 z231 z232 z233 z234 z235 z236 rz231 rz232 rz233 rz234 rz235 rz236 p237 p238 s230 f239 => ?_)
                  refine rI ?_
                  refine g_istore (L1 := [some (.ref 50), none, some (.int (iZ 12)), some (.int (iZ z22)), some (.int (iZ z26)), some (.int (iZ 0)), some (.int (iZ z236))]) 255 dX9_readNames_253 (by decide) rfl rfl rfl ?_
                  refine g_aload_n 256 dX9_readNames_255 rfl rfl ?_
                  refine g_get 259 dX9_readNames_256 faX9_97_X9 f239 rfl rfl ?_
                  refine g_bipush (v := iZ (-9)) 261 dX9_readNames_259 (by decide +kernel) rfl ?_
                  refine g_icZ_ne 284 264 dX9_readNames_261 rfl rfl (by decide) (by decide) (fun q => absurd q (by decide)) (fun _ => ?_)
                  refine g_aload_n 265 dX9_readNames_264 rfl rfl ?_
                  refine g_iload_n 266 dX9_readNames_265 rfl rfl ?_
                  refine g_iload 268 dX9_readNames_266 rfl rfl ?_
                  refine g_ifZ_eq 278 271 dX9_readNames_268 rfl rfl (by decide) (fun _ => ?_) (fun q => absurd q (by decide))
                  refine g_iload 280 dX9_readNames_278 rfl rfl ?_
                  refine g_iload_n 281 dX9_readNames_280 rfl rfl ?_
                  refine g_callV (z := mX9_add) (As := [.int (iZ 12), .int (iZ z236), .int (iZ z22)]) 284 dX9_readNames_281 mwX9_add ⟨by decide, by decide⟩ rfl wlX9_115 wiX9_add wsX9_add f239 rfl rfl rfl (nle rfl) (nle rfl) rfl ?_
                  have bz240 := og201 12
                  have f241 := (s230.get (by decide) f204)
                  have f242 := (s230.get (by decide) f205)
                  have f243 := (s230.get (by decide) f206)
                  refine n_add  f239 f241 f242 f243 og199 og200 og201 (by omega) (by omega) (by omega) (by omega) (by omega) (by omega) (by omega) (by omega) (by omega) (by omega) (by omega) (by omega) (by omega) (by omega) (by omega) (by omega) (by omega) (by omega) (by omega) (by omega) (by omega) (fun h244 g246 g247 g248 og246 og247 og248 p249 p250 s245 f251 f252 f253 => ?_)
                  refine rV ?_
                  have ez254 := add_Z p250
                  refine g_goto 38 dX9_readNames_284 rfl ?_
                  refine Go.fgt 3 ?_
                  refine Go.fgt 4 ?_
                  refine Go.fgt 5 ?_
                  refine Go.fgt 6 ?_
                  have f255 := (s245.get (by decide) f239)
                  have f256 := (s245.get (by decide) (s230.get (by decide) f228))
                  have f257 := (s245.get (by decide) (s230.get (by decide) (s198.get (by decide) (s20.get (by decide) F5))))
                  exact ih _ (by omega) _ (z231) (-9) (z232) (z233) (z234) (z235) (g246) (g247) (g248) (pl) rfl (by omega) (by omega) (by omega) (by omega) (by omega) (by omega) og246 og247 og248 opl f255 f256 f251 f252 f253 f257 rfl (by omega) p238 (add_W p249 p250 (og201 12).1 (by omega) (add_W p202 p203 (osz 12).1 (by omega) hW)) (fun hQ xQ0 xQ1 xQ2 xQ3 xQ4 xQ5 xQ6 xQ7 xQ8 xQ9 rQ yQ0 yQ1 yQ2 yQ3 yQ4 yQ5 yQ6 yQ7 yQ8 yQ9 yQ10 pQ0 pQ1 pQ2 sQ uQ0 uQ1 uQ2 uQ3 uQ4 => k hQ xQ0 xQ1 xQ2 xQ3 xQ4 xQ5 xQ6 xQ7 xQ8 xQ9 rQ yQ0 yQ1 yQ2 yQ3 yQ4 yQ5 yQ6 yQ7 yQ8 yQ9 yQ10 (fun q hq => (((pQ0 q hq).trans (add_A p249 (og201 12).1 q hq)).trans (add_A p202 (osz 12).1 q hq))) (fun q hq => (((pQ1 q hq).trans (add_C p250 q hq)).trans (add_C p203 q hq))) pQ2 ((((((Sm.refl [50, 54, 55, 56, 61] _).tr s20 (fun _ q => q) (by simp)).tr s198 (fun _ q => q) (by simp)).tr s230 (fun _ q => q) (by simp)).tr s245 (fun _ q => q) (by simp)).tr sQ (fun _ q => q) (fun _ q => q)) uQ0 uQ1 uQ2 uQ3 uQ4)
              · have nv258 := p28.2.1 c213
                have nl259 := p28.1.resolve_left (by omega)
                refine g_iconst (v := iZ (1)) 225 dX9_readNames_224 rfl rfl ?_
                refine g_goto 229 dX9_readNames_225 rfl ?_
                refine g_istore (L1 := [some (.ref 50), none, some (.int (iZ 12)), some (.int (iZ z22)), some (.int (iZ z26)), some (.int (iZ 1)), none]) 231 dX9_readNames_229 (by decide) rfl rfl rfl ?_
                refine g_aload_n 232 dX9_readNames_231 rfl rfl ?_
                refine g_iload 234 dX9_readNames_232 rfl rfl ?_
                refine g_ifZ_ne 245 237 dX9_readNames_234 rfl rfl (by decide) (fun _ => ?_) (fun q => absurd q (by decide))
                refine g_iconst (v := iZ (1)) 246 dX9_readNames_245 rfl rfl ?_
                refine g_goto 250 dX9_readNames_246 rfl ?_
                refine g_callV (z := mX9_due) (As := [.int (iZ 1)]) 253 dX9_readNames_250 mwX9_due ⟨by decide, by decide⟩ rfl wlX9_150 wiX9_due wsX9_due f208 rfl rfl rfl (nle rfl) (nle rfl) rfl ?_
                have f260 := (s198.get (by decide) (s20.get (by decide) F1))
                refine n_due1  f208 f260 (by omega) (by omega) (by omega) (by omega) (by omega) (by omega) (by omega) (by omega) (by omega) (by omega) (by omega) (by omega) (by omega) (by omega) (by omega) (by omega) (by omega) (by omega) (fun h261 z263 z264 z265 z266 z267 z268 rz263 rz264 rz265 rz266 rz267 rz268 p269 p270 s262 f271 => ?_)
                refine rI ?_
                refine g_istore (L1 := [some (.ref 50), none, some (.int (iZ 12)), some (.int (iZ z22)), some (.int (iZ z26)), some (.int (iZ 1)), some (.int (iZ z268))]) 255 dX9_readNames_253 (by decide) rfl rfl rfl ?_
                refine g_aload_n 256 dX9_readNames_255 rfl rfl ?_
                refine g_get 259 dX9_readNames_256 faX9_97_X9 f271 rfl rfl ?_
                refine g_bipush (v := iZ (-9)) 261 dX9_readNames_259 (by decide +kernel) rfl ?_
                refine g_icZ_ne 284 264 dX9_readNames_261 rfl rfl (by decide) (by decide) (fun q => absurd q (by decide)) (fun _ => ?_)
                refine g_aload_n 265 dX9_readNames_264 rfl rfl ?_
                refine g_iload_n 266 dX9_readNames_265 rfl rfl ?_
                refine g_iload 268 dX9_readNames_266 rfl rfl ?_
                refine g_ifZ_eq 278 271 dX9_readNames_268 rfl rfl (by decide) (fun q => absurd q (by decide)) (fun _ => ?_)
                refine g_iconst (v := iZ (-1)) 272 dX9_readNames_271 rfl rfl ?_
                refine g_iload 274 dX9_readNames_272 rfl rfl ?_
                refine g_isubZ ((-1) - z268) 275 dX9_readNames_274 (by omega) rfl ?_
                refine g_goto 280 dX9_readNames_275 rfl ?_
                refine g_iload_n 281 dX9_readNames_280 rfl rfl ?_
                refine g_callV (z := mX9_add) (As := [.int (iZ 12), .int (iZ ((-1) - z268)), .int (iZ z22)]) 284 dX9_readNames_281 mwX9_add ⟨by decide, by decide⟩ rfl wlX9_115 wiX9_add wsX9_add f271 rfl rfl rfl (nle rfl) (nle rfl) rfl ?_
                have bz272 := og201 12
                have f273 := (s262.get (by decide) f204)
                have f274 := (s262.get (by decide) f205)
                have f275 := (s262.get (by decide) f206)
                refine n_add  f271 f273 f274 f275 og199 og200 og201 (by omega) (by omega) (by omega) (by omega) (by omega) (by omega) (by omega) (by omega) (by omega) (by omega) (by omega) (by omega) (by omega) (by omega) (by omega) (by omega) (by omega) (by omega) (by omega) (by omega) (by omega) (fun h276 g278 g279 g280 og278 og279 og280 p281 p282 s277 f283 f284 f285 => ?_)
                refine rV ?_
                have ez286 := add_Z p282
                refine g_goto 38 dX9_readNames_284 rfl ?_
                refine Go.fgt 3 ?_
                refine Go.fgt 4 ?_
                refine Go.fgt 5 ?_
                refine Go.fgt 6 ?_
                have f287 := (s277.get (by decide) f271)
                have f288 := (s277.get (by decide) (s262.get (by decide) f260))
                have f289 := (s277.get (by decide) (s262.get (by decide) (s198.get (by decide) (s20.get (by decide) F5))))
                exact ih _ (by omega) _ (z263) (-9) (z264) (z265) (z266) (z267) (g278) (g279) (g280) (pl) rfl (by omega) (by omega) (by omega) (by omega) (by omega) (by omega) og278 og279 og280 opl f287 f288 f283 f284 f285 f289 rfl (by omega) p270 (add_W p281 p282 (og201 12).1 (by omega) (add_W p202 p203 (osz 12).1 (by omega) hW)) (fun hQ xQ0 xQ1 xQ2 xQ3 xQ4 xQ5 xQ6 xQ7 xQ8 xQ9 rQ yQ0 yQ1 yQ2 yQ3 yQ4 yQ5 yQ6 yQ7 yQ8 yQ9 yQ10 pQ0 pQ1 pQ2 sQ uQ0 uQ1 uQ2 uQ3 uQ4 => k hQ xQ0 xQ1 xQ2 xQ3 xQ4 xQ5 xQ6 xQ7 xQ8 xQ9 rQ yQ0 yQ1 yQ2 yQ3 yQ4 yQ5 yQ6 yQ7 yQ8 yQ9 yQ10 (fun q hq => (((pQ0 q hq).trans (add_A p281 (og201 12).1 q hq)).trans (add_A p202 (osz 12).1 q hq))) (fun q hq => (((pQ1 q hq).trans (add_C p282 q hq)).trans (add_C p203 q hq))) pQ2 ((((((Sm.refl [50, 54, 55, 56, 61] _).tr s20 (fun _ q => q) (by simp)).tr s198 (fun _ q => q) (by simp)).tr s262 (fun _ q => q) (by simp)).tr s277 (fun _ q => q) (by simp)).tr sQ (fun _ q => q) (fun _ q => q)) uQ0 uQ1 uQ2 uQ3 uQ4)
      · have nv290 := hNX.2.1 c5
        refine g_aload_n 63 dX9_readNames_62 rfl rfl ?_
        refine g_aload_n 64 dX9_readNames_63 rfl rfl ?_
        refine g_get 67 dX9_readNames_64 faX9_41_X9 F0 rfl rfl ?_
        refine g_aload_n 68 dX9_readNames_67 rfl rfl ?_
        refine g_get 71 dX9_readNames_68 faX9_137_X9 F0 rfl rfl ?_
        have b291 := opl ((va).toNat)
        refine g_ialdZ (v := iZ (pl (va).toNat)) 72 dX9_readNames_71 F5 (by omega) (by omega) (by decide) rfl rfl ?_
        refine g_bipush (v := iZ (-9)) 74 dX9_readNames_72 (by decide +kernel) rfl ?_
        refine g_icZ_ne 81 77 dX9_readNames_74 rfl rfl (by omega) (by decide) (fun c292 => ?_) (fun c292 => ?_)
        · refine g_iconst (v := iZ (0)) 82 dX9_readNames_81 rfl rfl ?_
          refine g_callV (z := mX9_due) (As := [.int (iZ 0)]) 85 dX9_readNames_82 mwX9_due ⟨by decide, by decide⟩ rfl wlX9_150 wiX9_due wsX9_due F0 rfl rfl rfl (nle rfl) (nle rfl) rfl ?_
          refine n_due0 F0 F1 (by omega) (by omega) (by omega) (by omega) (by omega) (by omega) (by omega) (by omega) (by omega) (by omega) (by omega) (by omega) (by omega) (by omega) (by omega) (by omega) (by omega) (fun h293 z296 z297 rz296 rz297 p298 s294 f295 => ?_)
          refine rI ?_
          refine g_istore_n (L1 := [some (.ref 50), none, some (.int (iZ 12)), some (.int (iZ z297)), none, none, none]) 86 dX9_readNames_85 (by decide) rfl rfl rfl ?_
          refine g_aload_n 87 dX9_readNames_86 rfl rfl ?_
          refine g_aload_n 88 dX9_readNames_87 rfl rfl ?_
          refine g_get 91 dX9_readNames_88 faX9_140_X9 f295 rfl rfl ?_
          refine g_iconst (v := iZ (4)) 92 dX9_readNames_91 rfl rfl ?_
          refine g_icZ_ne 110 95 dX9_readNames_92 rfl rfl (by omega) (by decide) (fun _ => ?_) (fun q => absurd q (by omega))
          refine g_iconst (v := iZ (0)) 111 dX9_readNames_110 rfl rfl ?_
          refine g_callV (z := mX9_due) (As := [.int (iZ 0)]) 114 dX9_readNames_111 mwX9_due ⟨by decide, by decide⟩ rfl wlX9_150 wiX9_due wsX9_due f295 rfl rfl rfl (nle rfl) (nle rfl) rfl ?_
          have f299 := (s294.get (by decide) F1)
          refine n_dueN  f295 f299 (by omega) (by omega) (by omega) (by omega) (by omega) (by omega) (by omega) (by omega) (by omega) (by omega) (by omega) (by omega) (by omega) (by omega) (by omega) (by omega) (by omega) (by omega) (by decide) (by omega) (fun z300 rz300 => ?_)
          refine rI ?_
          refine g_pop 115 dX9_readNames_114 rfl rfl ?_
          refine g_aload_n 116 dX9_readNames_115 rfl rfl ?_
          refine g_get 119 dX9_readNames_116 faX9_97_X9 f295 rfl rfl ?_
          refine g_bipush (v := iZ (-9)) 121 dX9_readNames_119 (by decide +kernel) rfl ?_
          refine g_icZ_ne 136 124 dX9_readNames_121 rfl rfl (by omega) (by decide) (fun _ => ?_) (fun q => absurd q (by omega))
          refine g_goto 38 dX9_readNames_136 rfl ?_
          refine g_aload_n 39 dX9_readNames_38 rfl rfl ?_
          refine g_get 42 dX9_readNames_39 faX9_97_X9 f295 rfl rfl ?_
          refine g_bipush (v := iZ (-9)) 44 dX9_readNames_42 (by decide +kernel) rfl ?_
          refine g_icZ_ne 287 47 dX9_readNames_44 rfl rfl (by omega) (by decide) (fun _ => ?_) (fun q => absurd q (by omega))
          refine g_aload_n 288 dX9_readNames_287 rfl rfl ?_
          refine g_get 291 dX9_readNames_288 faX9_97_X9 f295 rfl rfl ?_
          refine g_bipush (v := iZ (-9)) 293 dX9_readNames_291 (by decide +kernel) rfl ?_
          refine g_icZ_ne 305 296 dX9_readNames_293 rfl rfl (by omega) (by decide) (fun _ => ?_) (fun q => absurd q (by omega))
          refine g_aload_n 306 dX9_readNames_305 rfl rfl ?_
          refine g_get 309 dX9_readNames_306 faX9_97_X9 f295 rfl rfl ?_
          refine g_bipush (v := iZ (-9)) 311 dX9_readNames_309 (by decide +kernel) rfl ?_
          refine g_icZ_eq 321 314 dX9_readNames_311 rfl rfl (by omega) (by decide) (fun q => absurd q (by omega)) (fun _ => ?_)
          refine g_aload_n 315 dX9_readNames_314 rfl rfl ?_
          refine g_get 318 dX9_readNames_315 faX9_97_X9 f295 rfl rfl ?_
          refine g_goto 325 dX9_readNames_318 rfl ?_
          refine g_iret rfl dX9_readNames_325 ?_
          have f301 := (s294.get (by decide) F2)
          have f302 := (s294.get (by decide) F3)
          have f303 := (s294.get (by decide) F4)
          have f304 := (s294.get (by decide) F5)
          exact k _ (pa) (z296) (st) (so) (va) (ed) (bf) (lf) (sz) (pl) (z296) (by omega) (by omega) (by omega) (by omega) (by omega) (by omega) obf olf osz opl (by omega) (fun q hq => rfl) (fun q hq => rfl) (by intro q9; omega) ((Sm.refl [50, 54, 55, 56, 61] _).tr s294 (fun _ q => q) (by simp)) f295 f301 f302 f303 f304
        · refine g_iconst (v := iZ (1)) 78 dX9_readNames_77 rfl rfl ?_
          refine g_goto 82 dX9_readNames_78 rfl ?_
          refine g_callV (z := mX9_due) (As := [.int (iZ 1)]) 85 dX9_readNames_82 mwX9_due ⟨by decide, by decide⟩ rfl wlX9_150 wiX9_due wsX9_due F0 rfl rfl rfl (nle rfl) (nle rfl) rfl ?_
          refine n_due1  F0 F1 (by omega) (by omega) (by omega) (by omega) (by omega) (by omega) (by omega) (by omega) (by omega) (by omega) (by omega) (by omega) (by omega) (by omega) (by omega) (by omega) (by omega) (by omega) (fun h305 z307 z308 z309 z310 z311 z312 rz307 rz308 rz309 rz310 rz311 rz312 p313 p314 s306 f315 => ?_)
          refine rI ?_
          refine g_istore_n (L1 := [some (.ref 50), none, some (.int (iZ 12)), some (.int (iZ z312)), none, none, none]) 86 dX9_readNames_85 (by decide) rfl rfl rfl ?_
          refine g_aload_n 87 dX9_readNames_86 rfl rfl ?_
          refine g_aload_n 88 dX9_readNames_87 rfl rfl ?_
          refine g_get 91 dX9_readNames_88 faX9_140_X9 f315 rfl rfl ?_
          refine g_iconst (v := iZ (4)) 92 dX9_readNames_91 rfl rfl ?_
          refine g_icZ_ne 110 95 dX9_readNames_92 rfl rfl (by omega) (by decide) (fun c316 => ?_) (fun c316 => ?_)
          · refine g_iconst (v := iZ (0)) 111 dX9_readNames_110 rfl rfl ?_
            refine g_callV (z := mX9_due) (As := [.int (iZ 0)]) 114 dX9_readNames_111 mwX9_due ⟨by decide, by decide⟩ rfl wlX9_150 wiX9_due wsX9_due f315 rfl rfl rfl (nle rfl) (nle rfl) rfl ?_
            have f323 := (s306.get (by decide) F1)
            refine n_due0 f315 f323 (by omega) (by omega) (by omega) (by omega) (by omega) (by omega) (by omega) (by omega) (by omega) (by omega) (by omega) (by omega) (by omega) (by omega) (by omega) (by omega) (by omega) (fun h317 z320 z321 rz320 rz321 p322 s318 f319 => ?_)
            refine rI ?_
            refine g_pop 115 dX9_readNames_114 rfl rfl ?_
            refine g_aload_n 116 dX9_readNames_115 rfl rfl ?_
            refine g_get 119 dX9_readNames_116 faX9_97_X9 f319 rfl rfl ?_
            refine g_bipush (v := iZ (-9)) 121 dX9_readNames_119 (by decide +kernel) rfl ?_
            refine g_icZ_ne 136 124 dX9_readNames_121 rfl rfl (by omega) (by decide) (fun _ => ?_) (fun q => absurd q (by omega))
            refine g_goto 38 dX9_readNames_136 rfl ?_
            refine g_aload_n 39 dX9_readNames_38 rfl rfl ?_
            refine g_get 42 dX9_readNames_39 faX9_97_X9 f319 rfl rfl ?_
            refine g_bipush (v := iZ (-9)) 44 dX9_readNames_42 (by decide +kernel) rfl ?_
            refine g_icZ_ne 287 47 dX9_readNames_44 rfl rfl (by omega) (by decide) (fun _ => ?_) (fun q => absurd q (by omega))
            refine g_aload_n 288 dX9_readNames_287 rfl rfl ?_
            refine g_get 291 dX9_readNames_288 faX9_97_X9 f319 rfl rfl ?_
            refine g_bipush (v := iZ (-9)) 293 dX9_readNames_291 (by decide +kernel) rfl ?_
            refine g_icZ_ne 305 296 dX9_readNames_293 rfl rfl (by omega) (by decide) (fun _ => ?_) (fun q => absurd q (by omega))
            refine g_aload_n 306 dX9_readNames_305 rfl rfl ?_
            refine g_get 309 dX9_readNames_306 faX9_97_X9 f319 rfl rfl ?_
            refine g_bipush (v := iZ (-9)) 311 dX9_readNames_309 (by decide +kernel) rfl ?_
            refine g_icZ_eq 321 314 dX9_readNames_311 rfl rfl (by omega) (by decide) (fun q => absurd q (by omega)) (fun _ => ?_)
            refine g_aload_n 315 dX9_readNames_314 rfl rfl ?_
            refine g_get 318 dX9_readNames_315 faX9_97_X9 f319 rfl rfl ?_
            refine g_goto 325 dX9_readNames_318 rfl ?_
            refine g_iret rfl dX9_readNames_325 ?_
            have f324 := (s318.get (by decide) (s306.get (by decide) F2))
            have f325 := (s318.get (by decide) (s306.get (by decide) F3))
            have f326 := (s318.get (by decide) (s306.get (by decide) F4))
            have f327 := (s318.get (by decide) (s306.get (by decide) F5))
            exact k _ (z307) (z320) (z308) (z309) (z310) (z311) (bf) (lf) (sz) (pl) (z320) (by omega) (by omega) (by omega) (by omega) (by omega) (by omega) obf olf osz opl (by omega) (fun q hq => rfl) (fun q hq => rfl) (by intro q9; omega) (((Sm.refl [50, 54, 55, 56, 61] _).tr s306 (fun _ q => q) (by simp)).tr s318 (fun _ q => q) (by simp)) f319 f324 f325 f326 f327
          · refine g_aload_n 96 dX9_readNames_95 rfl rfl ?_
            refine g_get 99 dX9_readNames_96 faX9_134_X9 f315 rfl rfl ?_
            refine g_aload_n 100 dX9_readNames_99 rfl rfl ?_
            refine g_get 103 dX9_readNames_100 faX9_131_X9 f315 rfl rfl ?_
            refine g_icZ_ne 110 106 dX9_readNames_103 rfl rfl (by omega) (by omega) (fun c328 => ?_) (fun c328 => ?_)
            · refine g_iconst (v := iZ (0)) 111 dX9_readNames_110 rfl rfl ?_
              refine g_callV (z := mX9_due) (As := [.int (iZ 0)]) 114 dX9_readNames_111 mwX9_due ⟨by decide, by decide⟩ rfl wlX9_150 wiX9_due wsX9_due f315 rfl rfl rfl (nle rfl) (nle rfl) rfl ?_
              have f335 := (s306.get (by decide) F1)
              refine n_due0 f315 f335 (by omega) (by omega) (by omega) (by omega) (by omega) (by omega) (by omega) (by omega) (by omega) (by omega) (by omega) (by omega) (by omega) (by omega) (by omega) (by omega) (by omega) (fun h329 z332 z333 rz332 rz333 p334 s330 f331 => ?_)
              refine rI ?_
              refine g_pop 115 dX9_readNames_114 rfl rfl ?_
              refine g_aload_n 116 dX9_readNames_115 rfl rfl ?_
              refine g_get 119 dX9_readNames_116 faX9_97_X9 f331 rfl rfl ?_
              refine g_bipush (v := iZ (-9)) 121 dX9_readNames_119 (by decide +kernel) rfl ?_
              refine g_icZ_ne 136 124 dX9_readNames_121 rfl rfl (by omega) (by decide) (fun _ => ?_) (fun q => absurd q (by omega))
              refine g_goto 38 dX9_readNames_136 rfl ?_
              refine g_aload_n 39 dX9_readNames_38 rfl rfl ?_
              refine g_get 42 dX9_readNames_39 faX9_97_X9 f331 rfl rfl ?_
              refine g_bipush (v := iZ (-9)) 44 dX9_readNames_42 (by decide +kernel) rfl ?_
              refine g_icZ_ne 287 47 dX9_readNames_44 rfl rfl (by omega) (by decide) (fun _ => ?_) (fun q => absurd q (by omega))
              refine g_aload_n 288 dX9_readNames_287 rfl rfl ?_
              refine g_get 291 dX9_readNames_288 faX9_97_X9 f331 rfl rfl ?_
              refine g_bipush (v := iZ (-9)) 293 dX9_readNames_291 (by decide +kernel) rfl ?_
              refine g_icZ_ne 305 296 dX9_readNames_293 rfl rfl (by omega) (by decide) (fun _ => ?_) (fun q => absurd q (by omega))
              refine g_aload_n 306 dX9_readNames_305 rfl rfl ?_
              refine g_get 309 dX9_readNames_306 faX9_97_X9 f331 rfl rfl ?_
              refine g_bipush (v := iZ (-9)) 311 dX9_readNames_309 (by decide +kernel) rfl ?_
              refine g_icZ_eq 321 314 dX9_readNames_311 rfl rfl (by omega) (by decide) (fun q => absurd q (by omega)) (fun _ => ?_)
              refine g_aload_n 315 dX9_readNames_314 rfl rfl ?_
              refine g_get 318 dX9_readNames_315 faX9_97_X9 f331 rfl rfl ?_
              refine g_goto 325 dX9_readNames_318 rfl ?_
              refine g_iret rfl dX9_readNames_325 ?_
              have f336 := (s330.get (by decide) (s306.get (by decide) F2))
              have f337 := (s330.get (by decide) (s306.get (by decide) F3))
              have f338 := (s330.get (by decide) (s306.get (by decide) F4))
              have f339 := (s330.get (by decide) (s306.get (by decide) F5))
              exact k _ (z307) (z332) (z308) (z309) (z310) (z311) (bf) (lf) (sz) (pl) (z332) (by omega) (by omega) (by omega) (by omega) (by omega) (by omega) obf olf osz opl (by omega) (fun q hq => rfl) (fun q hq => rfl) (by intro q9; omega) (((Sm.refl [50, 54, 55, 56, 61] _).tr s306 (fun _ q => q) (by simp)).tr s330 (fun _ q => q) (by simp)) f331 f336 f337 f338 f339
            · refine g_iconst (v := iZ (1)) 107 dX9_readNames_106 rfl rfl ?_
              refine g_goto 111 dX9_readNames_107 rfl ?_
              refine g_callV (z := mX9_due) (As := [.int (iZ 1)]) 114 dX9_readNames_111 mwX9_due ⟨by decide, by decide⟩ rfl wlX9_150 wiX9_due wsX9_due f315 rfl rfl rfl (nle rfl) (nle rfl) rfl ?_
              have f340 := (s306.get (by decide) F1)
              refine n_due1  f315 f340 (by omega) (by omega) (by omega) (by omega) (by omega) (by omega) (by omega) (by omega) (by omega) (by omega) (by omega) (by omega) (by omega) (by omega) (by omega) (by omega) (by omega) (by omega) (fun h341 z343 z344 z345 z346 z347 z348 rz343 rz344 rz345 rz346 rz347 rz348 p349 p350 s342 f351 => ?_)
              refine rI ?_
              refine g_pop 115 dX9_readNames_114 rfl rfl ?_
              refine g_aload_n 116 dX9_readNames_115 rfl rfl ?_
              refine g_get 119 dX9_readNames_116 faX9_97_X9 f351 rfl rfl ?_
              refine g_bipush (v := iZ (-9)) 121 dX9_readNames_119 (by decide +kernel) rfl ?_
              refine g_icZ_ne 136 124 dX9_readNames_121 rfl rfl (by decide) (by decide) (fun q => absurd q (by decide)) (fun _ => ?_)
              refine g_aload_n 125 dX9_readNames_124 rfl rfl ?_
              refine g_get 128 dX9_readNames_125 faX9_41_X9 f351 rfl rfl ?_
              refine g_iload_n 129 dX9_readNames_128 rfl rfl ?_
              refine g_aload_n 130 dX9_readNames_129 rfl rfl ?_
              refine g_get 133 dX9_readNames_130 faX9_26_X9 f351 rfl rfl ?_
              refine g_iload_n 134 dX9_readNames_133 rfl rfl ?_
              have f352 := (s342.get (by decide) (s306.get (by decide) F4))
              have b353 := osz (12)
              refine g_ialdZ (v := iZ (sz 12)) 135 dX9_readNames_134 f352 (by decide) (by decide) (by decide) rfl rfl ?_
              have f354 := (s342.get (by decide) (s306.get (by decide) F5))
              refine g_iastP 136 dX9_readNames_135 f354 opl (by omega) (by omega) (by omega) (by decide) rfl (fun h356 g355 og355 s357 f358 => ?_)
              refine g_goto 38 dX9_readNames_136 rfl ?_
              refine Go.fgt 3 ?_
              have f359 := (s357.get (by decide) f351)
              have f360 := (s357.get (by decide) (s342.get (by decide) f340))
              have f361 := (s357.get (by decide) (s342.get (by decide) (s306.get (by decide) F2)))
              have f362 := (s357.get (by decide) (s342.get (by decide) (s306.get (by decide) F3)))
              have f363 := (s357.get (by decide) f352)
              exact ih _ (by omega) _ (z343) (-9) (z344) (z345) (z346) (z347) (bf) (lf) (sz) (g355) rfl (by omega) (by omega) (by omega) (by omega) (by omega) (by omega) obf olf osz og355 f359 f360 f361 f362 f363 f358 rfl (by omega) p350 hW (fun hQ xQ0 xQ1 xQ2 xQ3 xQ4 xQ5 xQ6 xQ7 xQ8 xQ9 rQ yQ0 yQ1 yQ2 yQ3 yQ4 yQ5 yQ6 yQ7 yQ8 yQ9 yQ10 pQ0 pQ1 pQ2 sQ uQ0 uQ1 uQ2 uQ3 uQ4 => k hQ xQ0 xQ1 xQ2 xQ3 xQ4 xQ5 xQ6 xQ7 xQ8 xQ9 rQ yQ0 yQ1 yQ2 yQ3 yQ4 yQ5 yQ6 yQ7 yQ8 yQ9 yQ10 (fun q hq => (pQ0 q hq)) (fun q hq => (pQ1 q hq)) pQ2 (((((Sm.refl [50, 54, 55, 56, 61] _).tr s306 (fun _ q => q) (by simp)).tr s342 (fun _ q => q) (by simp)).tr s357 (fun _ q => q) (by simp)).tr sQ (fun _ q => q) (fun _ q => q)) uQ0 uQ1 uQ2 uQ3 uQ4)

set_option maxRecDepth 100000 in
theorem n_due0 {l : Launch} {h : MH} {Q : Option Value → MH → Prop} {tr : Int64} {mn kt bs ee pa st so va ed cm a x p dn tk ie en : Int} {tx : Nat → Int32} (F0 : h[50]? = some (.inr (8, [.long (tr), .ref 51, .int (iZ mn), .ref 52, .ref 53, .int (iZ kt), .ref 54, .ref 55, .ref 56, .ref 57, .ref 58, .ref 59, .ref 60, .int (iZ bs), .int (iZ ee), .int (iZ pa), .int (iZ (-9)), .int (iZ st), .int (iZ so), .int (iZ va), .int (iZ ed), .ref 61, .ref 62, .ref 63, .ref 64, .int (iZ cm), .int (iZ a), .int (iZ x), .int (iZ p), .int (iZ dn), .int (iZ tk), .int (iZ ie), .ref 65, .ref 66, .ref 67, .int (iZ en), .ref 68, .ref 69, .ref 70]))) (F1 : h[52]? = some (.inl (1, 1600, .inl tx))) (rmn : (0 ≤ mn ∧ mn ≤ 200)) (rkt : (0 ≤ kt ∧ kt ≤ 12)) (rbs : (0 ≤ bs ∧ bs ≤ 1400)) (ree : (0 ≤ ee ∧ ee ≤ 200)) (rpa : (0 ≤ pa ∧ pa ≤ 200)) (rst : (0 ≤ st ∧ st ≤ 200)) (rso : (0 ≤ so ∧ so ≤ 5)) (rva : (-100 ≤ va ∧ va ≤ 3000)) (red : (0 ≤ ed ∧ ed ≤ 200)) (rcm : (0 ≤ cm ∧ cm ≤ 256)) (ra : (0 ≤ a ∧ a ≤ 255)) (rx : (0 ≤ x ∧ x ≤ 255)) (rp : (0 ≤ p ∧ p ≤ 255)) (rdn : (0 ≤ dn ∧ dn ≤ 5000)) (rtk : (0 ≤ tk ∧ tk ≤ 200)) (rie : (0 ≤ ie ∧ ie ≤ 1)) (ren : (0 ≤ en ∧ en ≤ 12)) (k : ∀ (h1 : MH) (fu_1 : Int) (r : Int), (0 ≤ fu_1 ∧ fu_1 ≤ 200) → (r = va) → (fu_1 = st) → Sm [50] h h1 → h1[50]? = some (.inr (8, [.long (tr), .ref 51, .int (iZ mn), .ref 52, .ref 53, .int (iZ kt), .ref 54, .ref 55, .ref 56, .ref 57, .ref 58, .ref 59, .ref 60, .int (iZ bs), .int (iZ ee), .int (iZ pa), .int (iZ fu_1), .int (iZ st), .int (iZ so), .int (iZ va), .int (iZ ed), .ref 61, .ref 62, .ref 63, .ref 64, .int (iZ cm), .int (iZ a), .int (iZ x), .int (iZ p), .int (iZ dn), .int (iZ tk), .int (iZ ie), .ref 65, .ref 66, .ref 67, .int (iZ en), .ref 68, .ref 69, .ref 70])) → Q (some (.int (iZ r))) h1) : Go l mX9_due 0 [some (.ref 50), some (.int (iZ 0)), none] [] h Q := by
  refine g_aload_n 1 dX9_due_0 rfl rfl ?_
  refine g_get 4 dX9_due_1 faX9_137_X9 F0 rfl rfl ?_
  refine g_istore_n (L1 := [some (.ref 50), some (.int (iZ 0)), some (.int (iZ va))]) 5 dX9_due_4 (by decide) rfl rfl rfl ?_
  refine g_aload_n 6 dX9_due_5 rfl rfl ?_
  refine g_get 9 dX9_due_6 faX9_97_X9 F0 rfl rfl ?_
  refine g_bipush (v := iZ (-9)) 11 dX9_due_9 (by decide +kernel) rfl ?_
  refine g_icZ_ne 33 14 dX9_due_11 rfl rfl (by decide) (by decide) (fun q => absurd q (by decide)) (fun _ => ?_)
  refine g_iload_n 15 dX9_due_14 rfl rfl ?_
  refine g_ifZ_eq 25 18 dX9_due_15 rfl rfl (by decide) (fun _ => ?_) (fun q => absurd q (by decide))
  refine g_aload_n 26 dX9_due_25 rfl rfl ?_
  refine g_aload_n 27 dX9_due_26 rfl rfl ?_
  refine g_get 30 dX9_due_27 faX9_134_X9 F0 rfl rfl ?_
  refine g_putC (fs1 := [.long (tr), .ref 51, .int (iZ mn), .ref 52, .ref 53, .int (iZ kt), .ref 54, .ref 55, .ref 56, .ref 57, .ref 58, .ref 59, .ref 60, .int (iZ bs), .int (iZ ee), .int (iZ pa), .int (iZ st), .int (iZ st), .int (iZ so), .int (iZ va), .int (iZ ed), .ref 61, .ref 62, .ref 63, .ref 64, .int (iZ cm), .int (iZ a), .int (iZ x), .int (iZ p), .int (iZ dn), .int (iZ tk), .int (iZ ie), .ref 65, .ref 66, .ref 67, .int (iZ en), .ref 68, .ref 69, .ref 70]) 33 dX9_due_30 fpX9_97_X9 F0 (nle rfl) (vI _) rfl rfl (fun h1 s2 f3 => ?_)
  refine g_iload_n 34 dX9_due_33 rfl rfl ?_
  refine g_iret rfl dX9_due_34 ?_
  exact k _ st (va) (by omega) (by omega) rfl ((Sm.refl [50] _).tr s2 (fun _ q => q) (by simp)) f3
set_option maxRecDepth 100000 in
theorem n_dueN {l : Launch} {h : MH} {Q : Option Value → MH → Prop} {tr : Int64} {mn kt bs ee pa fu st so va ed cm a x p dn tk ie en is : Int} {tx : Nat → Int32} (F0 : h[50]? = some (.inr (8, [.long (tr), .ref 51, .int (iZ mn), .ref 52, .ref 53, .int (iZ kt), .ref 54, .ref 55, .ref 56, .ref 57, .ref 58, .ref 59, .ref 60, .int (iZ bs), .int (iZ ee), .int (iZ pa), .int (iZ fu), .int (iZ st), .int (iZ so), .int (iZ va), .int (iZ ed), .ref 61, .ref 62, .ref 63, .ref 64, .int (iZ cm), .int (iZ a), .int (iZ x), .int (iZ p), .int (iZ dn), .int (iZ tk), .int (iZ ie), .ref 65, .ref 66, .ref 67, .int (iZ en), .ref 68, .ref 69, .ref 70]))) (F1 : h[52]? = some (.inl (1, 1600, .inl tx))) (rmn : (0 ≤ mn ∧ mn ≤ 200)) (rkt : (0 ≤ kt ∧ kt ≤ 12)) (rbs : (0 ≤ bs ∧ bs ≤ 1400)) (ree : (0 ≤ ee ∧ ee ≤ 200)) (rpa : (0 ≤ pa ∧ pa ≤ 200)) (rfu : (-9 ≤ fu ∧ fu ≤ 200)) (rst : (0 ≤ st ∧ st ≤ 200)) (rso : (0 ≤ so ∧ so ≤ 5)) (rva : (-100 ≤ va ∧ va ≤ 3000)) (red : (0 ≤ ed ∧ ed ≤ 200)) (rcm : (0 ≤ cm ∧ cm ≤ 256)) (ra : (0 ≤ a ∧ a ≤ 255)) (rx : (0 ≤ x ∧ x ≤ 255)) (rp : (0 ≤ p ∧ p ≤ 255)) (rdn : (0 ≤ dn ∧ dn ≤ 5000)) (rtk : (0 ≤ tk ∧ tk ≤ 200)) (rie : (0 ≤ ie ∧ ie ≤ 1)) (ren : (0 ≤ en ∧ en ≤ 12)) (ris : (is = 0 ∨ is = 1)) (hfu : fu ≠ -9) (k : ∀ (r : Int), (r = va) → Q (some (.int (iZ r))) h) : Go l mX9_due 0 [some (.ref 50), some (.int (iZ is)), none] [] h Q := by
  refine g_aload_n 1 dX9_due_0 rfl rfl ?_
  refine g_get 4 dX9_due_1 faX9_137_X9 F0 rfl rfl ?_
  refine g_istore_n (L1 := [some (.ref 50), some (.int (iZ is)), some (.int (iZ va))]) 5 dX9_due_4 (by decide) rfl rfl rfl ?_
  refine g_aload_n 6 dX9_due_5 rfl rfl ?_
  refine g_get 9 dX9_due_6 faX9_97_X9 F0 rfl rfl ?_
  refine g_bipush (v := iZ (-9)) 11 dX9_due_9 (by decide +kernel) rfl ?_
  refine g_icZ_ne 33 14 dX9_due_11 rfl rfl (by omega) (by decide) (fun _ => ?_) (fun q => absurd q (by omega))
  refine g_iload_n 34 dX9_due_33 rfl rfl ?_
  refine g_iret rfl dX9_due_34 ?_
  exact k (va) (by omega)

set_option maxRecDepth 100000 in
theorem n_nxA {l : Launch} {Q : Option Value → MH → Prop} {tr : Int64} {mn kt bs ee fu st so va ed cm a x p dn tk ie en : Int} {tx : Nat → Int32} (c : Int) (rmn : (0 ≤ mn ∧ mn ≤ 200)) (rkt : (0 ≤ kt ∧ kt ≤ 12)) (rbs : (0 ≤ bs ∧ bs ≤ 1400)) (ree : (0 ≤ ee ∧ ee ≤ 200)) (rfu : (-9 ≤ fu ∧ fu ≤ 200)) (rst : (0 ≤ st ∧ st ≤ 200)) (rso : (0 ≤ so ∧ so ≤ 5)) (rva : (-100 ≤ va ∧ va ≤ 3000)) (red : (0 ≤ ed ∧ ed ≤ 200)) (rcm : (0 ≤ cm ∧ cm ≤ 256)) (ra : (0 ≤ a ∧ a ≤ 255)) (rx : (0 ≤ x ∧ x ≤ 255)) (rp : (0 ≤ p ∧ p ≤ 255)) (rdn : (0 ≤ dn ∧ dn ≤ 5000)) (rtk : (0 ≤ tk ∧ tk ≤ 200)) (rie : (0 ≤ ie ∧ ie ≤ 1)) (ren : (0 ≤ en ∧ en ≤ 12)) : ∀ (m0 : Nat) (h : MH) (pa : Int), (200 - pa).toNat = m0 → 0 ≤ pa ∧ pa ≤ 200 → h[50]? = some (.inr (8, [.long (tr), .ref 51, .int (iZ mn), .ref 52, .ref 53, .int (iZ kt), .ref 54, .ref 55, .ref 56, .ref 57, .ref 58, .ref 59, .ref 60, .int (iZ bs), .int (iZ ee), .int (iZ pa), .int (iZ fu), .int (iZ st), .int (iZ so), .int (iZ va), .int (iZ ed), .ref 61, .ref 62, .ref 63, .ref 64, .int (iZ cm), .int (iZ a), .int (iZ x), .int (iZ p), .int (iZ dn), .int (iZ tk), .int (iZ ie), .ref 65, .ref 66, .ref 67, .int (iZ en), .ref 68, .ref 69, .ref 70])) → h[52]? = some (.inl (1, 1600, .inl tx)) → (∀ (h1 : MH) (pa1 : Int), pa ≤ pa1 ∧ pa1 ≤ 200 → (pa ≤ ee → pa1 ≤ ee) → (pa < ee ∧ 97 ≤ hb tx (bs + pa) ∧ hb tx (bs + pa) ≤ 122 → pa < pa1) → Sm [50] h h1 → h1[50]? = some (.inr (8, [.long (tr), .ref 51, .int (iZ mn), .ref 52, .ref 53, .int (iZ kt), .ref 54, .ref 55, .ref 56, .ref 57, .ref 58, .ref 59, .ref 60, .int (iZ bs), .int (iZ ee), .int (iZ pa1), .int (iZ fu), .int (iZ st), .int (iZ so), .int (iZ va), .int (iZ ed), .ref 61, .ref 62, .ref 63, .ref 64, .int (iZ cm), .int (iZ a), .int (iZ x), .int (iZ p), .int (iZ dn), .int (iZ tk), .int (iZ ie), .ref 65, .ref 66, .ref 67, .int (iZ en), .ref 68, .ref 69, .ref 70])) → Go l mX9_next 80 [some (.ref 50), some (.int (iZ c))] [] h1 Q) → Go l mX9_next 53 [some (.ref 50), some (.int (iZ c))] [] h Q := by
  intro m0
  induction m0 using Nat.strongRecOn with
  | ind m0 ih =>
    intro h pa hmz rpa F0 F1 k
    refine g_aload_n 54 dX9_next_53 rfl rfl ?_
    refine g_callV (z := mX9_here) (As := []) 57 dX9_next_54 mwX9_here ⟨by decide, by decide⟩ rfl wlX9_100 wiX9_here wsX9_here F0 rfl rfl rfl (nle rfl) (nle rfl) rfl ?_
    refine n_here  F0 F1 (by omega) (by omega) (by omega) (by omega) (by omega) (by omega) (by omega) (by omega) (by omega) (by omega) (by omega) (by omega) (by omega) (by omega) (by omega) (by omega) (by omega) (by omega) (fun z1 rz1 => ?_)
    refine rI ?_
    refine g_bipush (v := iZ (97)) 59 dX9_next_57 (by decide +kernel) rfl ?_
    refine g_bipush (v := iZ (122)) 61 dX9_next_59 (by decide +kernel) rfl ?_
    refine g_callS (z := mX9_in) (As := [.int (iZ z1), .int (iZ 97), .int (iZ 122)]) 64 dX9_next_61 mwX9_in ⟨by decide, by decide⟩ rfl wlX9_75 wtX9_in rfl (nle rfl) (nle rfl) rfl ?_
    refine n_in  (by omega) (by decide) (by decide) (fun z2 rz2 => ?_)
    refine rI ?_
    refine g_ifZ_eq 80 67 dX9_next_64 rfl rfl (rg01 (by omega)) (fun c3 => ?_) (fun c3 => ?_)
    · exact k h pa (by omega) (by omega) (by omega) (Sm.refl _ _) F0
    · refine g_aload_n 68 dX9_next_67 rfl rfl ?_
      refine g_dup 69 dX9_next_68 rfl rfl ?_
      refine g_get 72 dX9_next_69 faX9_88_X9 F0 rfl rfl ?_
      refine g_iconst (v := iZ (1)) 73 dX9_next_72 rfl rfl ?_
      refine g_iaddZ (pa + 1) 74 dX9_next_73 (by omega) rfl ?_
      refine g_putC (fs1 := [.long (tr), .ref 51, .int (iZ mn), .ref 52, .ref 53, .int (iZ kt), .ref 54, .ref 55, .ref 56, .ref 57, .ref 58, .ref 59, .ref 60, .int (iZ bs), .int (iZ ee), .int (iZ (pa + 1)), .int (iZ fu), .int (iZ st), .int (iZ so), .int (iZ va), .int (iZ ed), .ref 61, .ref 62, .ref 63, .ref 64, .int (iZ cm), .int (iZ a), .int (iZ x), .int (iZ p), .int (iZ dn), .int (iZ tk), .int (iZ ie), .ref 65, .ref 66, .ref 67, .int (iZ en), .ref 68, .ref 69, .ref 70]) 77 dX9_next_74 fpX9_88_X9 F0 (nle rfl) (vI _) rfl rfl (fun h4 s5 f6 => ?_)
      refine g_goto 53 dX9_next_77 rfl ?_
      have f7 := (s5.get (by decide) F1)
      refine ih _ (by omega) _ (pa + 1) rfl (by omega) f6 f7 (fun h1 pa1 q1 q2 q3 s1 u0 => k h1 pa1 (by omega) (by omega) (by omega) (((Sm.refl [50] _).tr s5 (fun _ q => q) (by simp)).tr s1 (fun _ q => q) (fun _ q => q)) u0)
set_option maxRecDepth 100000 in
theorem n_nxB {l : Launch} {Q : Option Value → MH → Prop} {tr : Int64} {mn kt bs ee fu st so ed cm a x p dn tk ie en : Int} {tx : Nat → Int32} (c : Int) (rmn : (0 ≤ mn ∧ mn ≤ 200)) (rkt : (0 ≤ kt ∧ kt ≤ 12)) (rbs : (0 ≤ bs ∧ bs ≤ 1400)) (ree : (0 ≤ ee ∧ ee ≤ 200)) (rfu : (-9 ≤ fu ∧ fu ≤ 200)) (rst : (0 ≤ st ∧ st ≤ 200)) (rso : (0 ≤ so ∧ so ≤ 5)) (red : (0 ≤ ed ∧ ed ≤ 200)) (rcm : (0 ≤ cm ∧ cm ≤ 256)) (ra : (0 ≤ a ∧ a ≤ 255)) (rx : (0 ≤ x ∧ x ≤ 255)) (rp : (0 ≤ p ∧ p ≤ 255)) (rdn : (0 ≤ dn ∧ dn ≤ 5000)) (rtk : (0 ≤ tk ∧ tk ≤ 200)) (rie : (0 ≤ ie ∧ ie ≤ 1)) (ren : (0 ≤ en ∧ en ≤ 12)) : ∀ (m0 : Nat) (h : MH) (pa : Int) (va : Int), (200 - pa).toNat = m0 → 0 ≤ pa ∧ pa ≤ 200 → (0 ≤ va ∧ va ≤ 2559) → h[50]? = some (.inr (8, [.long (tr), .ref 51, .int (iZ mn), .ref 52, .ref 53, .int (iZ kt), .ref 54, .ref 55, .ref 56, .ref 57, .ref 58, .ref 59, .ref 60, .int (iZ bs), .int (iZ ee), .int (iZ pa), .int (iZ fu), .int (iZ st), .int (iZ so), .int (iZ va), .int (iZ ed), .ref 61, .ref 62, .ref 63, .ref 64, .int (iZ cm), .int (iZ a), .int (iZ x), .int (iZ p), .int (iZ dn), .int (iZ tk), .int (iZ ie), .ref 65, .ref 66, .ref 67, .int (iZ en), .ref 68, .ref 69, .ref 70])) → h[52]? = some (.inl (1, 1600, .inl tx)) → (∀ (h1 : MH) (pa1 : Int) (va1 : Int), pa ≤ pa1 ∧ pa1 ≤ 200 → (pa ≤ ee → pa1 ≤ ee) → (pa < ee ∧ 48 ≤ hb tx (bs + pa) ∧ hb tx (bs + pa) ≤ 57 → pa < pa1) → (0 ≤ va1 ∧ va1 ≤ 2559) → Sm [50] h h1 → h1[50]? = some (.inr (8, [.long (tr), .ref 51, .int (iZ mn), .ref 52, .ref 53, .int (iZ kt), .ref 54, .ref 55, .ref 56, .ref 57, .ref 58, .ref 59, .ref 60, .int (iZ bs), .int (iZ ee), .int (iZ pa1), .int (iZ fu), .int (iZ st), .int (iZ so), .int (iZ va1), .int (iZ ed), .ref 61, .ref 62, .ref 63, .ref 64, .int (iZ cm), .int (iZ a), .int (iZ x), .int (iZ p), .int (iZ dn), .int (iZ tk), .int (iZ ie), .ref 65, .ref 66, .ref 67, .int (iZ en), .ref 68, .ref 69, .ref 70])) → Go l mX9_next 191 [some (.ref 50), some (.int (iZ c))] [] h1 Q) → Go l mX9_next 128 [some (.ref 50), some (.int (iZ c))] [] h Q := by
  intro m0
  induction m0 using Nat.strongRecOn with
  | ind m0 ih =>
    intro h pa va hmz rpa rva F0 F1 k
    refine g_aload_n 129 dX9_next_128 rfl rfl ?_
    refine g_callV (z := mX9_here) (As := []) 132 dX9_next_129 mwX9_here ⟨by decide, by decide⟩ rfl wlX9_100 wiX9_here wsX9_here F0 rfl rfl rfl (nle rfl) (nle rfl) rfl ?_
    refine n_here  F0 F1 (by omega) (by omega) (by omega) (by omega) (by omega) (by omega) (by omega) (by omega) (by omega) (by omega) (by omega) (by omega) (by omega) (by omega) (by omega) (by omega) (by omega) (by omega) (fun z1 rz1 => ?_)
    refine rI ?_
    refine g_bipush (v := iZ (48)) 134 dX9_next_132 (by decide +kernel) rfl ?_
    refine g_bipush (v := iZ (57)) 136 dX9_next_134 (by decide +kernel) rfl ?_
    refine g_callS (z := mX9_in) (As := [.int (iZ z1), .int (iZ 48), .int (iZ 57)]) 139 dX9_next_136 mwX9_in ⟨by decide, by decide⟩ rfl wlX9_75 wtX9_in rfl (nle rfl) (nle rfl) rfl ?_
    refine n_in  (by omega) (by decide) (by decide) (fun z2 rz2 => ?_)
    refine rI ?_
    refine g_ifZ_eq 191 142 dX9_next_139 rfl rfl (rg01 (by omega)) (fun c3 => ?_) (fun c3 => ?_)
    · exact k h pa va (by omega) (by omega) (by omega) rva (Sm.refl _ _) F0
    · refine g_aload_n 143 dX9_next_142 rfl rfl ?_
      refine g_aload_n 144 dX9_next_143 rfl rfl ?_
      refine g_get 147 dX9_next_144 faX9_137_X9 F0 rfl rfl ?_
      refine g_sipush (v := iZ (255)) 150 dX9_next_147 (by decide +kernel) rfl ?_
      refine g_icZ_le 160 153 dX9_next_150 rfl rfl (by omega) (by decide) (fun c4 => ?_) (fun c4 => ?_)
      · refine g_bipush (v := iZ (10)) 162 dX9_next_160 (by decide +kernel) rfl ?_
        refine g_aload_n 163 dX9_next_162 rfl rfl ?_
        refine g_get 166 dX9_next_163 faX9_137_X9 F0 rfl rfl ?_
        refine g_imulZ (10 * va) 167 dX9_next_166 (by omega) rfl ?_
        refine g_aload_n 168 dX9_next_167 rfl rfl ?_
        refine g_callV (z := mX9_here) (As := []) 171 dX9_next_168 mwX9_here ⟨by decide, by decide⟩ rfl wlX9_100 wiX9_here wsX9_here F0 rfl rfl rfl (nle rfl) (nle rfl) rfl ?_
        refine n_here  F0 F1 (by omega) (by omega) (by omega) (by omega) (by omega) (by omega) (by omega) (by omega) (by omega) (by omega) (by omega) (by omega) (by omega) (by omega) (by omega) (by omega) (by omega) (by omega) (fun z5 rz5 => ?_)
        refine rI ?_
        refine g_iaddZ ((10 * va) + z5) 172 dX9_next_171 (by omega) rfl ?_
        refine g_bipush (v := iZ (48)) 174 dX9_next_172 (by decide +kernel) rfl ?_
        refine g_isubZ (((10 * va) + z5) - 48) 175 dX9_next_174 (by omega) rfl ?_
        refine g_putC (fs1 := [.long (tr), .ref 51, .int (iZ mn), .ref 52, .ref 53, .int (iZ kt), .ref 54, .ref 55, .ref 56, .ref 57, .ref 58, .ref 59, .ref 60, .int (iZ bs), .int (iZ ee), .int (iZ pa), .int (iZ fu), .int (iZ st), .int (iZ so), .int (iZ (((10 * va) + z5) - 48)), .int (iZ ed), .ref 61, .ref 62, .ref 63, .ref 64, .int (iZ cm), .int (iZ a), .int (iZ x), .int (iZ p), .int (iZ dn), .int (iZ tk), .int (iZ ie), .ref 65, .ref 66, .ref 67, .int (iZ en), .ref 68, .ref 69, .ref 70]) 178 dX9_next_175 fpX9_137_X9 F0 (nle rfl) (vI _) rfl rfl (fun h6 s7 f8 => ?_)
        refine g_aload_n 179 dX9_next_178 rfl rfl ?_
        refine g_dup 180 dX9_next_179 rfl rfl ?_
        refine g_get 183 dX9_next_180 faX9_88_X9 f8 rfl rfl ?_
        refine g_iconst (v := iZ (1)) 184 dX9_next_183 rfl rfl ?_
        refine g_iaddZ (pa + 1) 185 dX9_next_184 (by omega) rfl ?_
        refine g_putC (fs1 := [.long (tr), .ref 51, .int (iZ mn), .ref 52, .ref 53, .int (iZ kt), .ref 54, .ref 55, .ref 56, .ref 57, .ref 58, .ref 59, .ref 60, .int (iZ bs), .int (iZ ee), .int (iZ (pa + 1)), .int (iZ fu), .int (iZ st), .int (iZ so), .int (iZ (((10 * va) + z5) - 48)), .int (iZ ed), .ref 61, .ref 62, .ref 63, .ref 64, .int (iZ cm), .int (iZ a), .int (iZ x), .int (iZ p), .int (iZ dn), .int (iZ tk), .int (iZ ie), .ref 65, .ref 66, .ref 67, .int (iZ en), .ref 68, .ref 69, .ref 70]) 188 dX9_next_185 fpX9_88_X9 f8 (nle rfl) (vI _) rfl rfl (fun h9 s10 f11 => ?_)
        refine g_goto 128 dX9_next_188 rfl ?_
        have f12 := (s10.get (by decide) (s7.get (by decide) F1))
        refine ih _ (by omega) _ (pa + 1) (((10 * va) + z5) - 48) rfl (by omega) (by omega) f11 f12 (fun h1 pa1 va1 q1 q2 q3 q4 s1 u0 => k h1 pa1 va1 (by omega) (by omega) (by omega) q4 ((((Sm.refl [50] _).tr s7 (fun _ q => q) (by simp)).tr s10 (fun _ q => q) (by simp)).tr s1 (fun _ q => q) (fun _ q => q)) u0)
      · refine g_aload_n 154 dX9_next_153 rfl rfl ?_
        refine g_get 157 dX9_next_154 faX9_137_X9 F0 rfl rfl ?_
        refine g_goto 175 dX9_next_157 rfl ?_
        refine g_putC (fs1 := [.long (tr), .ref 51, .int (iZ mn), .ref 52, .ref 53, .int (iZ kt), .ref 54, .ref 55, .ref 56, .ref 57, .ref 58, .ref 59, .ref 60, .int (iZ bs), .int (iZ ee), .int (iZ pa), .int (iZ fu), .int (iZ st), .int (iZ so), .int (iZ va), .int (iZ ed), .ref 61, .ref 62, .ref 63, .ref 64, .int (iZ cm), .int (iZ a), .int (iZ x), .int (iZ p), .int (iZ dn), .int (iZ tk), .int (iZ ie), .ref 65, .ref 66, .ref 67, .int (iZ en), .ref 68, .ref 69, .ref 70]) 178 dX9_next_175 fpX9_137_X9 F0 (nle rfl) (vI _) rfl rfl (fun h13 s14 f15 => ?_)
        refine g_aload_n 179 dX9_next_178 rfl rfl ?_
        refine g_dup 180 dX9_next_179 rfl rfl ?_
        refine g_get 183 dX9_next_180 faX9_88_X9 f15 rfl rfl ?_
        refine g_iconst (v := iZ (1)) 184 dX9_next_183 rfl rfl ?_
        refine g_iaddZ (pa + 1) 185 dX9_next_184 (by omega) rfl ?_
        refine g_putC (fs1 := [.long (tr), .ref 51, .int (iZ mn), .ref 52, .ref 53, .int (iZ kt), .ref 54, .ref 55, .ref 56, .ref 57, .ref 58, .ref 59, .ref 60, .int (iZ bs), .int (iZ ee), .int (iZ (pa + 1)), .int (iZ fu), .int (iZ st), .int (iZ so), .int (iZ va), .int (iZ ed), .ref 61, .ref 62, .ref 63, .ref 64, .int (iZ cm), .int (iZ a), .int (iZ x), .int (iZ p), .int (iZ dn), .int (iZ tk), .int (iZ ie), .ref 65, .ref 66, .ref 67, .int (iZ en), .ref 68, .ref 69, .ref 70]) 188 dX9_next_185 fpX9_88_X9 f15 (nle rfl) (vI _) rfl rfl (fun h16 s17 f18 => ?_)
        refine g_goto 128 dX9_next_188 rfl ?_
        have f19 := (s17.get (by decide) (s14.get (by decide) F1))
        refine ih _ (by omega) _ (pa + 1) (va) rfl (by omega) (by omega) f18 f19 (fun h1 pa1 va1 q1 q2 q3 q4 s1 u0 => k h1 pa1 va1 (by omega) (by omega) (by omega) q4 ((((Sm.refl [50] _).tr s14 (fun _ q => q) (by simp)).tr s17 (fun _ q => q) (by simp)).tr s1 (fun _ q => q) (fun _ q => q)) u0)
set_option maxRecDepth 100000 in
theorem n_next {l : Launch} {h : MH} {Q : Option Value → MH → Prop} {tr : Int64} {mn kt bs ee pa fu st so va ed cm a x p dn tk ie en : Int} {tx : Nat → Int32} (F0 : h[50]? = some (.inr (8, [.long (tr), .ref 51, .int (iZ mn), .ref 52, .ref 53, .int (iZ kt), .ref 54, .ref 55, .ref 56, .ref 57, .ref 58, .ref 59, .ref 60, .int (iZ bs), .int (iZ ee), .int (iZ pa), .int (iZ fu), .int (iZ st), .int (iZ so), .int (iZ va), .int (iZ ed), .ref 61, .ref 62, .ref 63, .ref 64, .int (iZ cm), .int (iZ a), .int (iZ x), .int (iZ p), .int (iZ dn), .int (iZ tk), .int (iZ ie), .ref 65, .ref 66, .ref 67, .int (iZ en), .ref 68, .ref 69, .ref 70]))) (F1 : h[52]? = some (.inl (1, 1600, .inl tx))) (rmn : (0 ≤ mn ∧ mn ≤ 200)) (rkt : (0 ≤ kt ∧ kt ≤ 12)) (rbs : (0 ≤ bs ∧ bs ≤ 1400)) (ree : (0 ≤ ee ∧ ee ≤ 200)) (rpa : (0 ≤ pa ∧ pa ≤ 200)) (rfu : (-9 ≤ fu ∧ fu ≤ 200)) (rst : (0 ≤ st ∧ st ≤ 200)) (rso : (0 ≤ so ∧ so ≤ 5)) (rva : (-100 ≤ va ∧ va ≤ 3000)) (red : (0 ≤ ed ∧ ed ≤ 200)) (rcm : (0 ≤ cm ∧ cm ≤ 256)) (ra : (0 ≤ a ∧ a ≤ 255)) (rx : (0 ≤ x ∧ x ≤ 255)) (rp : (0 ≤ p ∧ p ≤ 255)) (rdn : (0 ≤ dn ∧ dn ≤ 5000)) (rtk : (0 ≤ tk ∧ tk ≤ 200)) (rie : (0 ≤ ie ∧ ie ≤ 1)) (ren : (0 ≤ en ∧ en ≤ 12)) (k : ∀ (h1 : MH) (pa_1 st_1 so_1 va_1 ed_1 : Int), (0 ≤ pa_1 ∧ pa_1 ≤ 200) → (0 ≤ st_1 ∧ st_1 ≤ 200) → (0 ≤ so_1 ∧ so_1 ≤ 5) → (-100 ≤ va_1 ∧ va_1 ≤ 3000) → (0 ≤ ed_1 ∧ ed_1 ≤ 200) → (pa ≤ st_1 ∧ st_1 ≤ pa_1 ∧ (pa ≤ ee → pa_1 ≤ ee)) → (so_1 = 0 ∨ st_1 < pa_1) → (so_1 = 2 → 0 ≤ va_1 ∧ va_1 ≤ 25) → (so_1 = 1 → 0 ≤ va_1 ∧ va_1 ≤ 16) → (so_1 = 3 → 0 ≤ va_1 ∧ va_1 ≤ 255) → Sm [50] h h1 → h1[50]? = some (.inr (8, [.long (tr), .ref 51, .int (iZ mn), .ref 52, .ref 53, .int (iZ kt), .ref 54, .ref 55, .ref 56, .ref 57, .ref 58, .ref 59, .ref 60, .int (iZ bs), .int (iZ ee), .int (iZ pa_1), .int (iZ fu), .int (iZ st_1), .int (iZ so_1), .int (iZ va_1), .int (iZ ed_1), .ref 61, .ref 62, .ref 63, .ref 64, .int (iZ cm), .int (iZ a), .int (iZ x), .int (iZ p), .int (iZ dn), .int (iZ tk), .int (iZ ie), .ref 65, .ref 66, .ref 67, .int (iZ en), .ref 68, .ref 69, .ref 70])) → Q none h1) : Go l mX9_next 0 [some (.ref 50), none] [] h Q := by
  refine g_aload_n 1 dX9_next_0 rfl rfl ?_
  refine g_aload_n 2 dX9_next_1 rfl rfl ?_
  refine g_get 5 dX9_next_2 faX9_88_X9 F0 rfl rfl ?_
  refine g_putC (fs1 := [.long (tr), .ref 51, .int (iZ mn), .ref 52, .ref 53, .int (iZ kt), .ref 54, .ref 55, .ref 56, .ref 57, .ref 58, .ref 59, .ref 60, .int (iZ bs), .int (iZ ee), .int (iZ pa), .int (iZ fu), .int (iZ st), .int (iZ so), .int (iZ va), .int (iZ pa), .ref 61, .ref 62, .ref 63, .ref 64, .int (iZ cm), .int (iZ a), .int (iZ x), .int (iZ p), .int (iZ dn), .int (iZ tk), .int (iZ ie), .ref 65, .ref 66, .ref 67, .int (iZ en), .ref 68, .ref 69, .ref 70]) 8 dX9_next_5 fpX9_131_X9 F0 (nle rfl) (vI _) rfl rfl (fun h1 s2 f3 => ?_)
  refine g_aload_n 9 dX9_next_8 rfl rfl ?_
  refine g_callV (z := mX9_pass) (As := []) 12 dX9_next_9 mwX9_pass ⟨by decide, by decide⟩ rfl wlX9_108 wiX9_pass wsX9_pass f3 rfl rfl rfl (nle rfl) (nle rfl) rfl ?_
  have f4 := (s2.get (by decide) F1)
  refine n_passI  f3 f4 (by omega) (by omega) (by omega) (by omega) (by omega) (by omega) (by omega) (by omega) (by omega) (by omega) (by omega) (by omega) (by omega) (by omega) (by omega) (by omega) (by omega) (by omega) (fun h5 z7 rz7 p8 p9 s6 f10 => ?_)
  refine rV ?_
  refine g_aload_n 13 dX9_next_12 rfl rfl ?_
  refine g_aload_n 14 dX9_next_13 rfl rfl ?_
  refine g_get 17 dX9_next_14 faX9_88_X9 f10 rfl rfl ?_
  refine g_putC (fs1 := [.long (tr), .ref 51, .int (iZ mn), .ref 52, .ref 53, .int (iZ kt), .ref 54, .ref 55, .ref 56, .ref 57, .ref 58, .ref 59, .ref 60, .int (iZ bs), .int (iZ ee), .int (iZ z7), .int (iZ fu), .int (iZ z7), .int (iZ so), .int (iZ va), .int (iZ pa), .ref 61, .ref 62, .ref 63, .ref 64, .int (iZ cm), .int (iZ a), .int (iZ x), .int (iZ p), .int (iZ dn), .int (iZ tk), .int (iZ ie), .ref 65, .ref 66, .ref 67, .int (iZ en), .ref 68, .ref 69, .ref 70]) 20 dX9_next_17 fpX9_134_X9 f10 (nle rfl) (vI _) rfl rfl (fun h11 s12 f13 => ?_)
  refine g_aload_n 21 dX9_next_20 rfl rfl ?_
  refine g_iconst (v := iZ (0)) 22 dX9_next_21 rfl rfl ?_
  refine g_putC (fs1 := [.long (tr), .ref 51, .int (iZ mn), .ref 52, .ref 53, .int (iZ kt), .ref 54, .ref 55, .ref 56, .ref 57, .ref 58, .ref 59, .ref 60, .int (iZ bs), .int (iZ ee), .int (iZ z7), .int (iZ fu), .int (iZ z7), .int (iZ so), .int (iZ 0), .int (iZ pa), .ref 61, .ref 62, .ref 63, .ref 64, .int (iZ cm), .int (iZ a), .int (iZ x), .int (iZ p), .int (iZ dn), .int (iZ tk), .int (iZ ie), .ref 65, .ref 66, .ref 67, .int (iZ en), .ref 68, .ref 69, .ref 70]) 25 dX9_next_22 fpX9_137_X9 f13 (nle rfl) (vI _) rfl rfl (fun h14 s15 f16 => ?_)
  refine g_aload_n 26 dX9_next_25 rfl rfl ?_
  refine g_callV (z := mX9_here) (As := []) 29 dX9_next_26 mwX9_here ⟨by decide, by decide⟩ rfl wlX9_100 wiX9_here wsX9_here f16 rfl rfl rfl (nle rfl) (nle rfl) rfl ?_
  have f17 := (s15.get (by decide) (s12.get (by decide) (s6.get (by decide) f4)))
  refine n_here  f16 f17 (by omega) (by omega) (by omega) (by omega) (by omega) (by omega) (by omega) (by omega) (by omega) (by omega) (by omega) (by omega) (by omega) (by omega) (by omega) (by omega) (by omega) (by omega) (fun z18 rz18 => ?_)
  refine rI ?_
  refine g_istore_n (L1 := [some (.ref 50), some (.int (iZ z18))]) 30 dX9_next_29 (by decide) rfl rfl rfl ?_
  refine g_iload_n 31 dX9_next_30 rfl rfl ?_
  refine g_ifZ_ge 42 34 dX9_next_31 rfl rfl (by omega) (fun c19 => ?_) (fun c19 => ?_)
  · refine g_iload_n 43 dX9_next_42 rfl rfl ?_
    refine g_bipush (v := iZ (97)) 45 dX9_next_43 (by decide +kernel) rfl ?_
    refine g_bipush (v := iZ (122)) 47 dX9_next_45 (by decide +kernel) rfl ?_
    refine g_callS (z := mX9_in) (As := [.int (iZ z18), .int (iZ 97), .int (iZ 122)]) 50 dX9_next_47 mwX9_in ⟨by decide, by decide⟩ rfl wlX9_75 wtX9_in rfl (nle rfl) (nle rfl) rfl ?_
    refine n_in  (by omega) (by decide) (by decide) (fun z20 rz20 => ?_)
    refine rI ?_
    refine g_ifZ_eq 117 53 dX9_next_50 rfl rfl (rg01 (by omega)) (fun c21 => ?_) (fun c21 => ?_)
    · refine g_iload_n 118 dX9_next_117 rfl rfl ?_
      refine g_bipush (v := iZ (48)) 120 dX9_next_118 (by decide +kernel) rfl ?_
      refine g_bipush (v := iZ (57)) 122 dX9_next_120 (by decide +kernel) rfl ?_
      refine g_callS (z := mX9_in) (As := [.int (iZ z18), .int (iZ 48), .int (iZ 57)]) 125 dX9_next_122 mwX9_in ⟨by decide, by decide⟩ rfl wlX9_75 wtX9_in rfl (nle rfl) (nle rfl) rfl ?_
      refine n_in  (by omega) (by decide) (by decide) (fun z22 rz22 => ?_)
      refine rI ?_
      refine g_ifZ_eq 232 128 dX9_next_125 rfl rfl (rg01 (by omega)) (fun c23 => ?_) (fun c23 => ?_)
      · refine g_aload_n 233 dX9_next_232 rfl rfl ?_
        refine g_dup 234 dX9_next_233 rfl rfl ?_
        refine g_get 237 dX9_next_234 faX9_88_X9 f16 rfl rfl ?_
        refine g_iconst (v := iZ (1)) 238 dX9_next_237 rfl rfl ?_
        refine g_iaddZ (z7 + 1) 239 dX9_next_238 (by omega) rfl ?_
        refine g_putC (fs1 := [.long (tr), .ref 51, .int (iZ mn), .ref 52, .ref 53, .int (iZ kt), .ref 54, .ref 55, .ref 56, .ref 57, .ref 58, .ref 59, .ref 60, .int (iZ bs), .int (iZ ee), .int (iZ (z7 + 1)), .int (iZ fu), .int (iZ z7), .int (iZ so), .int (iZ 0), .int (iZ pa), .ref 61, .ref 62, .ref 63, .ref 64, .int (iZ cm), .int (iZ a), .int (iZ x), .int (iZ p), .int (iZ dn), .int (iZ tk), .int (iZ ie), .ref 65, .ref 66, .ref 67, .int (iZ en), .ref 68, .ref 69, .ref 70]) 242 dX9_next_239 fpX9_88_X9 f16 (nle rfl) (vI _) rfl rfl (fun h24 s25 f26 => ?_)
        refine g_aload_n 243 dX9_next_242 rfl rfl ?_
        refine g_iload_n 244 dX9_next_243 rfl rfl ?_
        refine g_bipush (v := iZ (65)) 246 dX9_next_244 (by decide +kernel) rfl ?_
        refine g_isubZ (z18 - 65) 247 dX9_next_246 (by omega) rfl ?_
        refine g_putC (fs1 := [.long (tr), .ref 51, .int (iZ mn), .ref 52, .ref 53, .int (iZ kt), .ref 54, .ref 55, .ref 56, .ref 57, .ref 58, .ref 59, .ref 60, .int (iZ bs), .int (iZ ee), .int (iZ (z7 + 1)), .int (iZ fu), .int (iZ z7), .int (iZ so), .int (iZ (z18 - 65)), .int (iZ pa), .ref 61, .ref 62, .ref 63, .ref 64, .int (iZ cm), .int (iZ a), .int (iZ x), .int (iZ p), .int (iZ dn), .int (iZ tk), .int (iZ ie), .ref 65, .ref 66, .ref 67, .int (iZ en), .ref 68, .ref 69, .ref 70]) 250 dX9_next_247 fpX9_137_X9 f26 (nle rfl) (vI _) rfl rfl (fun h27 s28 f29 => ?_)
        refine g_aload_n 251 dX9_next_250 rfl rfl ?_
        refine g_iload_n 252 dX9_next_251 rfl rfl ?_
        refine g_bipush (v := iZ (65)) 254 dX9_next_252 (by decide +kernel) rfl ?_
        refine g_bipush (v := iZ (90)) 256 dX9_next_254 (by decide +kernel) rfl ?_
        refine g_callS (z := mX9_in) (As := [.int (iZ z18), .int (iZ 65), .int (iZ 90)]) 259 dX9_next_256 mwX9_in ⟨by decide, by decide⟩ rfl wlX9_75 wtX9_in rfl (nle rfl) (nle rfl) rfl ?_
        refine n_in  (by omega) (by decide) (by decide) (fun z30 rz30 => ?_)
        refine rI ?_
        refine g_ifZ_eq 266 262 dX9_next_259 rfl rfl (rg01 (by omega)) (fun c31 => ?_) (fun c31 => ?_)
        · refine g_iload_n 267 dX9_next_266 rfl rfl ?_
          refine g_bipush (v := iZ (58)) 269 dX9_next_267 (by decide +kernel) rfl ?_
          refine g_icZ_ne 276 272 dX9_next_269 rfl rfl (by omega) (by decide) (fun c32 => ?_) (fun c32 => ?_)
          · refine g_iconst (v := iZ (5)) 277 dX9_next_276 rfl rfl ?_
            refine g_putC (fs1 := [.long (tr), .ref 51, .int (iZ mn), .ref 52, .ref 53, .int (iZ kt), .ref 54, .ref 55, .ref 56, .ref 57, .ref 58, .ref 59, .ref 60, .int (iZ bs), .int (iZ ee), .int (iZ (z7 + 1)), .int (iZ fu), .int (iZ z7), .int (iZ 5), .int (iZ (z18 - 65)), .int (iZ pa), .ref 61, .ref 62, .ref 63, .ref 64, .int (iZ cm), .int (iZ a), .int (iZ x), .int (iZ p), .int (iZ dn), .int (iZ tk), .int (iZ ie), .ref 65, .ref 66, .ref 67, .int (iZ en), .ref 68, .ref 69, .ref 70]) 280 dX9_next_277 fpX9_140_X9 f29 (nle rfl) (vI _) rfl rfl (fun h33 s34 f35 => ?_)
            refine g_vret rfl dX9_next_280 ?_
            exact k _ (z7 + 1) (z7) (5) (z18 - 65) (pa) (by omega) (by omega) (by omega) (by omega) (by omega) (by omega) (by omega) (by omega) (by omega) (by omega) ((((((((Sm.refl [50] _).tr s2 (fun _ q => q) (by simp)).tr s6 (fun _ q => q) (by simp)).tr s12 (fun _ q => q) (by simp)).tr s15 (fun _ q => q) (by simp)).tr s25 (fun _ q => q) (by simp)).tr s28 (fun _ q => q) (by simp)).tr s34 (fun _ q => q) (by simp)) f35
          · refine g_iconst (v := iZ (4)) 273 dX9_next_272 rfl rfl ?_
            refine g_goto 277 dX9_next_273 rfl ?_
            refine g_putC (fs1 := [.long (tr), .ref 51, .int (iZ mn), .ref 52, .ref 53, .int (iZ kt), .ref 54, .ref 55, .ref 56, .ref 57, .ref 58, .ref 59, .ref 60, .int (iZ bs), .int (iZ ee), .int (iZ (z7 + 1)), .int (iZ fu), .int (iZ z7), .int (iZ 4), .int (iZ (z18 - 65)), .int (iZ pa), .ref 61, .ref 62, .ref 63, .ref 64, .int (iZ cm), .int (iZ a), .int (iZ x), .int (iZ p), .int (iZ dn), .int (iZ tk), .int (iZ ie), .ref 65, .ref 66, .ref 67, .int (iZ en), .ref 68, .ref 69, .ref 70]) 280 dX9_next_277 fpX9_140_X9 f29 (nle rfl) (vI _) rfl rfl (fun h36 s37 f38 => ?_)
            refine g_vret rfl dX9_next_280 ?_
            exact k _ (z7 + 1) (z7) (4) (z18 - 65) (pa) (by omega) (by omega) (by omega) (by omega) (by omega) (by omega) (by omega) (by omega) (by omega) (by omega) ((((((((Sm.refl [50] _).tr s2 (fun _ q => q) (by simp)).tr s6 (fun _ q => q) (by simp)).tr s12 (fun _ q => q) (by simp)).tr s15 (fun _ q => q) (by simp)).tr s25 (fun _ q => q) (by simp)).tr s28 (fun _ q => q) (by simp)).tr s37 (fun _ q => q) (by simp)) f38
        · refine g_iconst (v := iZ (2)) 263 dX9_next_262 rfl rfl ?_
          refine g_goto 277 dX9_next_263 rfl ?_
          refine g_putC (fs1 := [.long (tr), .ref 51, .int (iZ mn), .ref 52, .ref 53, .int (iZ kt), .ref 54, .ref 55, .ref 56, .ref 57, .ref 58, .ref 59, .ref 60, .int (iZ bs), .int (iZ ee), .int (iZ (z7 + 1)), .int (iZ fu), .int (iZ z7), .int (iZ 2), .int (iZ (z18 - 65)), .int (iZ pa), .ref 61, .ref 62, .ref 63, .ref 64, .int (iZ cm), .int (iZ a), .int (iZ x), .int (iZ p), .int (iZ dn), .int (iZ tk), .int (iZ ie), .ref 65, .ref 66, .ref 67, .int (iZ en), .ref 68, .ref 69, .ref 70]) 280 dX9_next_277 fpX9_140_X9 f29 (nle rfl) (vI _) rfl rfl (fun h39 s40 f41 => ?_)
          refine g_vret rfl dX9_next_280 ?_
          exact k _ (z7 + 1) (z7) (2) (z18 - 65) (pa) (by omega) (by omega) (by omega) (by omega) (by omega) (by omega) (by omega) (by omega) (by omega) (by omega) ((((((((Sm.refl [50] _).tr s2 (fun _ q => q) (by simp)).tr s6 (fun _ q => q) (by simp)).tr s12 (fun _ q => q) (by simp)).tr s15 (fun _ q => q) (by simp)).tr s25 (fun _ q => q) (by simp)).tr s28 (fun _ q => q) (by simp)).tr s40 (fun _ q => q) (by simp)) f41
      · refine n_nxB (z18) (by omega) (by omega) (by omega) (by omega) (by omega) (by omega) (by omega) (by omega) (by omega) (by omega) (by omega) (by omega) (by omega) (by omega) (by omega) (by omega) _ _ (z7) (0) rfl (by omega) (by omega) f16 f17 (fun h42 z45 z46 p47 p48 p49 p50 s43 f44 => ?_)
        refine g_aload_n 192 dX9_next_191 rfl rfl ?_
        refine g_aload_n 193 dX9_next_192 rfl rfl ?_
        refine g_get 196 dX9_next_193 faX9_137_X9 f44 rfl rfl ?_
        refine g_sipush (v := iZ (255)) 199 dX9_next_196 (by decide +kernel) rfl ?_
        refine g_icZ_gt 221 202 dX9_next_199 rfl rfl (by omega) (by decide) (fun c51 => ?_) (fun c51 => ?_)
        · refine g_iconst (v := iZ (5)) 222 dX9_next_221 rfl rfl ?_
          refine g_goto 226 dX9_next_222 rfl ?_
          refine g_putC (fs1 := [.long (tr), .ref 51, .int (iZ mn), .ref 52, .ref 53, .int (iZ kt), .ref 54, .ref 55, .ref 56, .ref 57, .ref 58, .ref 59, .ref 60, .int (iZ bs), .int (iZ ee), .int (iZ z45), .int (iZ fu), .int (iZ z7), .int (iZ 5), .int (iZ z46), .int (iZ pa), .ref 61, .ref 62, .ref 63, .ref 64, .int (iZ cm), .int (iZ a), .int (iZ x), .int (iZ p), .int (iZ dn), .int (iZ tk), .int (iZ ie), .ref 65, .ref 66, .ref 67, .int (iZ en), .ref 68, .ref 69, .ref 70]) 229 dX9_next_226 fpX9_140_X9 f44 (nle rfl) (vI _) rfl rfl (fun h52 s53 f54 => ?_)
          refine g_goto 280 dX9_next_229 rfl ?_
          refine g_vret rfl dX9_next_280 ?_
          exact k _ (z45) (z7) (5) (z46) (pa) (by omega) (by omega) (by omega) (by omega) (by omega) (by omega) (by omega) (by omega) (by omega) (by omega) (((((((Sm.refl [50] _).tr s2 (fun _ q => q) (by simp)).tr s6 (fun _ q => q) (by simp)).tr s12 (fun _ q => q) (by simp)).tr s15 (fun _ q => q) (by simp)).tr s43 (fun _ q => q) (by simp)).tr s53 (fun _ q => q) (by simp)) f54
        · refine g_iload_n 203 dX9_next_202 rfl rfl ?_
          refine g_bipush (v := iZ (48)) 205 dX9_next_203 (by decide +kernel) rfl ?_
          refine g_icZ_ne 225 208 dX9_next_205 rfl rfl (by omega) (by decide) (fun c55 => ?_) (fun c55 => ?_)
          · refine g_iconst (v := iZ (3)) 226 dX9_next_225 rfl rfl ?_
            refine g_putC (fs1 := [.long (tr), .ref 51, .int (iZ mn), .ref 52, .ref 53, .int (iZ kt), .ref 54, .ref 55, .ref 56, .ref 57, .ref 58, .ref 59, .ref 60, .int (iZ bs), .int (iZ ee), .int (iZ z45), .int (iZ fu), .int (iZ z7), .int (iZ 3), .int (iZ z46), .int (iZ pa), .ref 61, .ref 62, .ref 63, .ref 64, .int (iZ cm), .int (iZ a), .int (iZ x), .int (iZ p), .int (iZ dn), .int (iZ tk), .int (iZ ie), .ref 65, .ref 66, .ref 67, .int (iZ en), .ref 68, .ref 69, .ref 70]) 229 dX9_next_226 fpX9_140_X9 f44 (nle rfl) (vI _) rfl rfl (fun h56 s57 f58 => ?_)
            refine g_goto 280 dX9_next_229 rfl ?_
            refine g_vret rfl dX9_next_280 ?_
            exact k _ (z45) (z7) (3) (z46) (pa) (by omega) (by omega) (by omega) (by omega) (by omega) (by omega) (by omega) (by omega) (by omega) (by omega) (((((((Sm.refl [50] _).tr s2 (fun _ q => q) (by simp)).tr s6 (fun _ q => q) (by simp)).tr s12 (fun _ q => q) (by simp)).tr s15 (fun _ q => q) (by simp)).tr s43 (fun _ q => q) (by simp)).tr s57 (fun _ q => q) (by simp)) f58
          · refine g_aload_n 209 dX9_next_208 rfl rfl ?_
            refine g_get 212 dX9_next_209 faX9_88_X9 f44 rfl rfl ?_
            refine g_aload_n 213 dX9_next_212 rfl rfl ?_
            refine g_get 216 dX9_next_213 faX9_134_X9 f44 rfl rfl ?_
            refine g_isubZ (z45 - z7) 217 dX9_next_216 (by omega) rfl ?_
            refine g_iconst (v := iZ (1)) 218 dX9_next_217 rfl rfl ?_
            refine g_icZ_le 225 221 dX9_next_218 rfl rfl (by omega) (by decide) (fun c59 => ?_) (fun c59 => ?_)
            · refine g_iconst (v := iZ (3)) 226 dX9_next_225 rfl rfl ?_
              refine g_putC (fs1 := [.long (tr), .ref 51, .int (iZ mn), .ref 52, .ref 53, .int (iZ kt), .ref 54, .ref 55, .ref 56, .ref 57, .ref 58, .ref 59, .ref 60, .int (iZ bs), .int (iZ ee), .int (iZ z45), .int (iZ fu), .int (iZ z7), .int (iZ 3), .int (iZ z46), .int (iZ pa), .ref 61, .ref 62, .ref 63, .ref 64, .int (iZ cm), .int (iZ a), .int (iZ x), .int (iZ p), .int (iZ dn), .int (iZ tk), .int (iZ ie), .ref 65, .ref 66, .ref 67, .int (iZ en), .ref 68, .ref 69, .ref 70]) 229 dX9_next_226 fpX9_140_X9 f44 (nle rfl) (vI _) rfl rfl (fun h60 s61 f62 => ?_)
              refine g_goto 280 dX9_next_229 rfl ?_
              refine g_vret rfl dX9_next_280 ?_
              exact k _ (z45) (z7) (3) (z46) (pa) (by omega) (by omega) (by omega) (by omega) (by omega) (by omega) (by omega) (by omega) (by omega) (by omega) (((((((Sm.refl [50] _).tr s2 (fun _ q => q) (by simp)).tr s6 (fun _ q => q) (by simp)).tr s12 (fun _ q => q) (by simp)).tr s15 (fun _ q => q) (by simp)).tr s43 (fun _ q => q) (by simp)).tr s61 (fun _ q => q) (by simp)) f62
            · refine g_iconst (v := iZ (5)) 222 dX9_next_221 rfl rfl ?_
              refine g_goto 226 dX9_next_222 rfl ?_
              refine g_putC (fs1 := [.long (tr), .ref 51, .int (iZ mn), .ref 52, .ref 53, .int (iZ kt), .ref 54, .ref 55, .ref 56, .ref 57, .ref 58, .ref 59, .ref 60, .int (iZ bs), .int (iZ ee), .int (iZ z45), .int (iZ fu), .int (iZ z7), .int (iZ 5), .int (iZ z46), .int (iZ pa), .ref 61, .ref 62, .ref 63, .ref 64, .int (iZ cm), .int (iZ a), .int (iZ x), .int (iZ p), .int (iZ dn), .int (iZ tk), .int (iZ ie), .ref 65, .ref 66, .ref 67, .int (iZ en), .ref 68, .ref 69, .ref 70]) 229 dX9_next_226 fpX9_140_X9 f44 (nle rfl) (vI _) rfl rfl (fun h63 s64 f65 => ?_)
              refine g_goto 280 dX9_next_229 rfl ?_
              refine g_vret rfl dX9_next_280 ?_
              exact k _ (z45) (z7) (5) (z46) (pa) (by omega) (by omega) (by omega) (by omega) (by omega) (by omega) (by omega) (by omega) (by omega) (by omega) (((((((Sm.refl [50] _).tr s2 (fun _ q => q) (by simp)).tr s6 (fun _ q => q) (by simp)).tr s12 (fun _ q => q) (by simp)).tr s15 (fun _ q => q) (by simp)).tr s43 (fun _ q => q) (by simp)).tr s64 (fun _ q => q) (by simp)) f65
    · refine n_nxA (z18) (by omega) (by omega) (by omega) (by omega) (by omega) (by omega) (by omega) (by omega) (by omega) (by omega) (by omega) (by omega) (by omega) (by omega) (by omega) (by omega) (by omega) _ _ (z7) rfl (by omega) f16 f17 (fun h66 z69 p71 p72 p73 s67 f68 => ?_)
      refine g_aload_n 81 dX9_next_80 rfl rfl ?_
      refine g_aload_n 82 dX9_next_81 rfl rfl ?_
      refine g_aload_n 83 dX9_next_82 rfl rfl ?_
      refine g_get 86 dX9_next_83 faX9_134_X9 f68 rfl rfl ?_
      refine g_aload_n 87 dX9_next_86 rfl rfl ?_
      refine g_get 90 dX9_next_87 faX9_88_X9 f68 rfl rfl ?_
      refine g_callV (z := mX9_wordOf) (As := [.int (iZ z7), .int (iZ z69)]) 93 dX9_next_90 mwX9_wordOf ⟨by decide, by decide⟩ rfl wlX9_143 wiX9_wordOf wsX9_wordOf f68 rfl rfl rfl (nle rfl) (nle rfl) rfl ?_
      have f75 := (s67.get (by decide) f17)
      refine n_word  f68 f75 (by omega) (by omega) (by omega) (by omega) (by omega) (by omega) (by omega) (by omega) (by omega) (by omega) (by omega) (by omega) (by omega) (by omega) (by omega) (by omega) (by omega) (by omega) (by omega) (by omega) (fun z76 rz76 => ?_)
      refine rI ?_
      refine g_putC (fs1 := [.long (tr), .ref 51, .int (iZ mn), .ref 52, .ref 53, .int (iZ kt), .ref 54, .ref 55, .ref 56, .ref 57, .ref 58, .ref 59, .ref 60, .int (iZ bs), .int (iZ ee), .int (iZ z69), .int (iZ fu), .int (iZ z7), .int (iZ so), .int (iZ z76), .int (iZ pa), .ref 61, .ref 62, .ref 63, .ref 64, .int (iZ cm), .int (iZ a), .int (iZ x), .int (iZ p), .int (iZ dn), .int (iZ tk), .int (iZ ie), .ref 65, .ref 66, .ref 67, .int (iZ en), .ref 68, .ref 69, .ref 70]) 96 dX9_next_93 fpX9_137_X9 f68 (nle rfl) (vI _) rfl rfl (fun h77 s78 f79 => ?_)
      refine g_aload_n 97 dX9_next_96 rfl rfl ?_
      refine g_aload_n 98 dX9_next_97 rfl rfl ?_
      refine g_get 101 dX9_next_98 faX9_137_X9 f79 rfl rfl ?_
      refine g_bipush (v := iZ (-9)) 103 dX9_next_101 (by decide +kernel) rfl ?_
      refine g_icZ_ne 110 106 dX9_next_103 rfl rfl (by omega) (by decide) (fun c80 => ?_) (fun c80 => ?_)
      · refine g_iconst (v := iZ (1)) 111 dX9_next_110 rfl rfl ?_
        refine g_putC (fs1 := [.long (tr), .ref 51, .int (iZ mn), .ref 52, .ref 53, .int (iZ kt), .ref 54, .ref 55, .ref 56, .ref 57, .ref 58, .ref 59, .ref 60, .int (iZ bs), .int (iZ ee), .int (iZ z69), .int (iZ fu), .int (iZ z7), .int (iZ 1), .int (iZ z76), .int (iZ pa), .ref 61, .ref 62, .ref 63, .ref 64, .int (iZ cm), .int (iZ a), .int (iZ x), .int (iZ p), .int (iZ dn), .int (iZ tk), .int (iZ ie), .ref 65, .ref 66, .ref 67, .int (iZ en), .ref 68, .ref 69, .ref 70]) 114 dX9_next_111 fpX9_140_X9 f79 (nle rfl) (vI _) rfl rfl (fun h81 s82 f83 => ?_)
        refine g_goto 280 dX9_next_114 rfl ?_
        refine g_vret rfl dX9_next_280 ?_
        exact k _ (z69) (z7) (1) (z76) (pa) (by omega) (by omega) (by omega) (by omega) (by omega) (by omega) (by omega) (by omega) (by omega) (by omega) ((((((((Sm.refl [50] _).tr s2 (fun _ q => q) (by simp)).tr s6 (fun _ q => q) (by simp)).tr s12 (fun _ q => q) (by simp)).tr s15 (fun _ q => q) (by simp)).tr s67 (fun _ q => q) (by simp)).tr s78 (fun _ q => q) (by simp)).tr s82 (fun _ q => q) (by simp)) f83
      · refine g_iconst (v := iZ (5)) 107 dX9_next_106 rfl rfl ?_
        refine g_goto 111 dX9_next_107 rfl ?_
        refine g_putC (fs1 := [.long (tr), .ref 51, .int (iZ mn), .ref 52, .ref 53, .int (iZ kt), .ref 54, .ref 55, .ref 56, .ref 57, .ref 58, .ref 59, .ref 60, .int (iZ bs), .int (iZ ee), .int (iZ z69), .int (iZ fu), .int (iZ z7), .int (iZ 5), .int (iZ z76), .int (iZ pa), .ref 61, .ref 62, .ref 63, .ref 64, .int (iZ cm), .int (iZ a), .int (iZ x), .int (iZ p), .int (iZ dn), .int (iZ tk), .int (iZ ie), .ref 65, .ref 66, .ref 67, .int (iZ en), .ref 68, .ref 69, .ref 70]) 114 dX9_next_111 fpX9_140_X9 f79 (nle rfl) (vI _) rfl rfl (fun h84 s85 f86 => ?_)
        refine g_goto 280 dX9_next_114 rfl ?_
        refine g_vret rfl dX9_next_280 ?_
        exact k _ (z69) (z7) (5) (z76) (pa) (by omega) (by omega) (by omega) (by omega) (by omega) (by omega) (by omega) (by omega) (by omega) (by omega) ((((((((Sm.refl [50] _).tr s2 (fun _ q => q) (by simp)).tr s6 (fun _ q => q) (by simp)).tr s12 (fun _ q => q) (by simp)).tr s15 (fun _ q => q) (by simp)).tr s67 (fun _ q => q) (by simp)).tr s78 (fun _ q => q) (by simp)).tr s85 (fun _ q => q) (by simp)) f86
  · refine g_aload_n 35 dX9_next_34 rfl rfl ?_
    refine g_iconst (v := iZ (0)) 36 dX9_next_35 rfl rfl ?_
    refine g_putC (fs1 := [.long (tr), .ref 51, .int (iZ mn), .ref 52, .ref 53, .int (iZ kt), .ref 54, .ref 55, .ref 56, .ref 57, .ref 58, .ref 59, .ref 60, .int (iZ bs), .int (iZ ee), .int (iZ z7), .int (iZ fu), .int (iZ z7), .int (iZ 0), .int (iZ 0), .int (iZ pa), .ref 61, .ref 62, .ref 63, .ref 64, .int (iZ cm), .int (iZ a), .int (iZ x), .int (iZ p), .int (iZ dn), .int (iZ tk), .int (iZ ie), .ref 65, .ref 66, .ref 67, .int (iZ en), .ref 68, .ref 69, .ref 70]) 39 dX9_next_36 fpX9_140_X9 f16 (nle rfl) (vI _) rfl rfl (fun h87 s88 f89 => ?_)
    refine g_goto 280 dX9_next_39 rfl ?_
    refine g_vret rfl dX9_next_280 ?_
    exact k _ (z7) (z7) (0) (0) (pa) (by omega) (by omega) (by omega) (by omega) (by omega) (by omega) (by omega) (by omega) (by omega) (by omega) ((((((Sm.refl [50] _).tr s2 (fun _ q => q) (by simp)).tr s6 (fun _ q => q) (by simp)).tr s12 (fun _ q => q) (by simp)).tr s15 (fun _ q => q) (by simp)).tr s88 (fun _ q => q) (by simp)) f89
set_option maxRecDepth 100000 in
theorem n_due {l : Launch} {h : MH} {Q : Option Value → MH → Prop} {tr : Int64} {mn kt bs ee pa fu st so va ed cm a x p dn tk ie en is : Int} {tx : Nat → Int32} (F0 : h[50]? = some (.inr (8, [.long (tr), .ref 51, .int (iZ mn), .ref 52, .ref 53, .int (iZ kt), .ref 54, .ref 55, .ref 56, .ref 57, .ref 58, .ref 59, .ref 60, .int (iZ bs), .int (iZ ee), .int (iZ pa), .int (iZ fu), .int (iZ st), .int (iZ so), .int (iZ va), .int (iZ ed), .ref 61, .ref 62, .ref 63, .ref 64, .int (iZ cm), .int (iZ a), .int (iZ x), .int (iZ p), .int (iZ dn), .int (iZ tk), .int (iZ ie), .ref 65, .ref 66, .ref 67, .int (iZ en), .ref 68, .ref 69, .ref 70]))) (F1 : h[52]? = some (.inl (1, 1600, .inl tx))) (rmn : (0 ≤ mn ∧ mn ≤ 200)) (rkt : (0 ≤ kt ∧ kt ≤ 12)) (rbs : (0 ≤ bs ∧ bs ≤ 1400)) (ree : (0 ≤ ee ∧ ee ≤ 200)) (rpa : (0 ≤ pa ∧ pa ≤ 200)) (rfu : (-9 ≤ fu ∧ fu ≤ 200)) (rst : (0 ≤ st ∧ st ≤ 200)) (rso : (0 ≤ so ∧ so ≤ 5)) (rva : (-100 ≤ va ∧ va ≤ 3000)) (red : (0 ≤ ed ∧ ed ≤ 200)) (rcm : (0 ≤ cm ∧ cm ≤ 256)) (ra : (0 ≤ a ∧ a ≤ 255)) (rx : (0 ≤ x ∧ x ≤ 255)) (rp : (0 ≤ p ∧ p ≤ 255)) (rdn : (0 ≤ dn ∧ dn ≤ 5000)) (rtk : (0 ≤ tk ∧ tk ≤ 200)) (rie : (0 ≤ ie ∧ ie ≤ 1)) (ren : (0 ≤ en ∧ en ≤ 12)) (ris : (is = 0 ∨ is = 1)) (k : ∀ (h1 : MH) (pa_1 fu_1 st_1 so_1 va_1 ed_1 : Int) (r : Int), (0 ≤ pa_1 ∧ pa_1 ≤ 200) → (-9 ≤ fu_1 ∧ fu_1 ≤ 200) → (0 ≤ st_1 ∧ st_1 ≤ 200) → (0 ≤ so_1 ∧ so_1 ≤ 5) → (-100 ≤ va_1 ∧ va_1 ≤ 3000) → (0 ≤ ed_1 ∧ ed_1 ≤ 200) → (r = va) → (fu = -9 ∧ is = 1 → fu_1 = -9 ∧ pa ≤ st_1 ∧ st_1 ≤ pa_1 ∧ (pa ≤ ee → pa_1 ≤ ee) ∧ (so_1 = 0 ∨ st_1 < pa_1) ∧ (so_1 = 2 → 0 ≤ va_1 ∧ va_1 ≤ 25) ∧ (so_1 = 1 → 0 ≤ va_1 ∧ va_1 ≤ 16) ∧ (so_1 = 3 → 0 ≤ va_1 ∧ va_1 ≤ 255)) → (¬ (fu = -9 ∧ is = 1) → fu_1 ≠ -9 ∧ (fu = -9 → fu_1 = st) ∧ (fu ≠ -9 → fu_1 = fu) ∧ pa_1 = pa ∧ st_1 = st ∧ so_1 = so ∧ va_1 = va) → Sm [50] h h1 → h1[50]? = some (.inr (8, [.long (tr), .ref 51, .int (iZ mn), .ref 52, .ref 53, .int (iZ kt), .ref 54, .ref 55, .ref 56, .ref 57, .ref 58, .ref 59, .ref 60, .int (iZ bs), .int (iZ ee), .int (iZ pa_1), .int (iZ fu_1), .int (iZ st_1), .int (iZ so_1), .int (iZ va_1), .int (iZ ed_1), .ref 61, .ref 62, .ref 63, .ref 64, .int (iZ cm), .int (iZ a), .int (iZ x), .int (iZ p), .int (iZ dn), .int (iZ tk), .int (iZ ie), .ref 65, .ref 66, .ref 67, .int (iZ en), .ref 68, .ref 69, .ref 70])) → Q (some (.int (iZ r))) h1) : Go l mX9_due 0 [some (.ref 50), some (.int (iZ is)), none] [] h Q := by
  refine g_aload_n 1 dX9_due_0 rfl rfl ?_
  refine g_get 4 dX9_due_1 faX9_137_X9 F0 rfl rfl ?_
  refine g_istore_n (L1 := [some (.ref 50), some (.int (iZ is)), some (.int (iZ va))]) 5 dX9_due_4 (by decide) rfl rfl rfl ?_
  refine g_aload_n 6 dX9_due_5 rfl rfl ?_
  refine g_get 9 dX9_due_6 faX9_97_X9 F0 rfl rfl ?_
  refine g_bipush (v := iZ (-9)) 11 dX9_due_9 (by decide +kernel) rfl ?_
  refine g_icZ_ne 33 14 dX9_due_11 rfl rfl (by omega) (by decide) (fun c1 => ?_) (fun c1 => ?_)
  · refine g_iload_n 34 dX9_due_33 rfl rfl ?_
    refine g_iret rfl dX9_due_34 ?_
    exact k _ (pa) (fu) (st) (so) (va) (ed) (va) (by omega) (by omega) (by omega) (by omega) (by omega) (by omega) (by omega) (by omega) (by omega) (Sm.refl [50] _) F0
  · refine g_iload_n 15 dX9_due_14 rfl rfl ?_
    refine g_ifZ_eq 25 18 dX9_due_15 rfl rfl (rg01 ris) (fun c2 => ?_) (fun c2 => ?_)
    · refine g_aload_n 26 dX9_due_25 rfl rfl ?_
      refine g_aload_n 27 dX9_due_26 rfl rfl ?_
      refine g_get 30 dX9_due_27 faX9_134_X9 F0 rfl rfl ?_
      refine g_putC (fs1 := [.long (tr), .ref 51, .int (iZ mn), .ref 52, .ref 53, .int (iZ kt), .ref 54, .ref 55, .ref 56, .ref 57, .ref 58, .ref 59, .ref 60, .int (iZ bs), .int (iZ ee), .int (iZ pa), .int (iZ st), .int (iZ st), .int (iZ so), .int (iZ va), .int (iZ ed), .ref 61, .ref 62, .ref 63, .ref 64, .int (iZ cm), .int (iZ a), .int (iZ x), .int (iZ p), .int (iZ dn), .int (iZ tk), .int (iZ ie), .ref 65, .ref 66, .ref 67, .int (iZ en), .ref 68, .ref 69, .ref 70]) 33 dX9_due_30 fpX9_97_X9 F0 (nle rfl) (vI _) rfl rfl (fun h3 s4 f5 => ?_)
      refine g_iload_n 34 dX9_due_33 rfl rfl ?_
      refine g_iret rfl dX9_due_34 ?_
      exact k _ (pa) (st) (st) (so) (va) (ed) (va) (by omega) (by omega) (by omega) (by omega) (by omega) (by omega) (by omega) (by omega) (by omega) ((Sm.refl [50] _).tr s4 (fun _ q => q) (by simp)) f5
    · refine g_aload_n 19 dX9_due_18 rfl rfl ?_
      refine g_callV (z := mX9_next) (As := []) 22 dX9_due_19 mwX9_next ⟨by decide, by decide⟩ rfl wlX9_147 wiX9_next wsX9_next F0 rfl rfl rfl (nle rfl) (nle rfl) rfl ?_
      refine n_next  F0 F1 (by omega) (by omega) (by omega) (by omega) (by omega) (by omega) (by omega) (by omega) (by omega) (by omega) (by omega) (by omega) (by omega) (by omega) (by omega) (by omega) (by omega) (by omega) (fun h6 z8 z9 z10 z11 z12 rz8 rz9 rz10 rz11 rz12 p13 p14 p15 p16 p17 s7 f18 => ?_)
      refine rV ?_
      refine g_goto 33 dX9_due_22 rfl ?_
      refine g_iload_n 34 dX9_due_33 rfl rfl ?_
      refine g_iret rfl dX9_due_34 ?_
      exact k _ (z8) (fu) (z9) (z10) (z11) (z12) (va) (by omega) (by omega) (by omega) (by omega) (by omega) (by omega) (by omega) (by omega) (by omega) ((Sm.refl [50] _).tr s7 (fun _ q => q) (by simp)) f18

set_option maxRecDepth 100000 in
theorem f_nxA {l : Launch} {Q : Option Value → MH → Prop} {tr : Int64} {mn kt bs ee fu st so va ed cm a x p dn tk ie en : Int} {tx : Nat → Int32} {E : Int} (c : Int) (rmn : (0 ≤ mn ∧ mn ≤ 200)) (rkt : (0 ≤ kt ∧ kt ≤ 12)) (rbs : (0 ≤ bs ∧ bs ≤ 1400)) (ree : (0 ≤ ee ∧ ee ≤ 200)) (rfu : (-9 ≤ fu ∧ fu ≤ 200)) (rst : (0 ≤ st ∧ st ≤ 200)) (rso : (0 ≤ so ∧ so ≤ 5)) (rva : (-100 ≤ va ∧ va ≤ 3000)) (red : (0 ≤ ed ∧ ed ≤ 200)) (rcm : (0 ≤ cm ∧ cm ≤ 256)) (ra : (0 ≤ a ∧ a ≤ 255)) (rx : (0 ≤ x ∧ x ≤ 255)) (rp : (0 ≤ p ∧ p ≤ 255)) (rdn : (0 ≤ dn ∧ dn ≤ 5000)) (rtk : (0 ≤ tk ∧ tk ≤ 200)) (rie : (0 ≤ ie ∧ ie ≤ 1)) (ren : (0 ≤ en ∧ en ≤ 12)) : ∀ (m0 : Nat) (h : MH) (pa : Int), (200 - pa).toNat = m0 → st ≤ pa ∧ pa ≤ ee → sqE ee (fun j => hb tx (bs + j)) 97 122 pa = E → h[50]? = some (.inr (8, [.long (tr), .ref 51, .int (iZ mn), .ref 52, .ref 53, .int (iZ kt), .ref 54, .ref 55, .ref 56, .ref 57, .ref 58, .ref 59, .ref 60, .int (iZ bs), .int (iZ ee), .int (iZ pa), .int (iZ fu), .int (iZ st), .int (iZ so), .int (iZ va), .int (iZ ed), .ref 61, .ref 62, .ref 63, .ref 64, .int (iZ cm), .int (iZ a), .int (iZ x), .int (iZ p), .int (iZ dn), .int (iZ tk), .int (iZ ie), .ref 65, .ref 66, .ref 67, .int (iZ en), .ref 68, .ref 69, .ref 70])) → h[52]? = some (.inl (1, 1600, .inl tx)) → (∀ h1 : MH, Sm [50] h h1 → h1[50]? = some (.inr (8, [.long (tr), .ref 51, .int (iZ mn), .ref 52, .ref 53, .int (iZ kt), .ref 54, .ref 55, .ref 56, .ref 57, .ref 58, .ref 59, .ref 60, .int (iZ bs), .int (iZ ee), .int (iZ E), .int (iZ fu), .int (iZ st), .int (iZ so), .int (iZ va), .int (iZ ed), .ref 61, .ref 62, .ref 63, .ref 64, .int (iZ cm), .int (iZ a), .int (iZ x), .int (iZ p), .int (iZ dn), .int (iZ tk), .int (iZ ie), .ref 65, .ref 66, .ref 67, .int (iZ en), .ref 68, .ref 69, .ref 70])) → Go l mX9_next 80 [some (.ref 50), some (.int (iZ c))] [] h1 Q) → Go l mX9_next 53 [some (.ref 50), some (.int (iZ c))] [] h Q := by
  intro m0
  induction m0 using Nat.strongRecOn with
  | ind m0 ih =>
    intro h pa hmz hpa hE F0 F1 k
    refine g_aload_n 54 dX9_next_53 rfl rfl ?_
    refine g_callV (z := mX9_here) (As := []) 57 dX9_next_54 mwX9_here ⟨by decide, by decide⟩ rfl wlX9_100 wiX9_here wsX9_here F0 rfl rfl rfl (nle rfl) (nle rfl) rfl ?_
    refine n_here F0 F1 (by omega) (by omega) (by omega) (by omega) (by omega) (by omega) (by omega) (by omega) (by omega) (by omega) (by omega) (by omega) (by omega) (by omega) (by omega) (by omega) (by omega) (by omega) (fun z1 rz1 => ?_)
    by_cases c2 : pa < ee
    · have ez1 : z1 = hb tx (bs + pa) := by omega
      have bz1 : 0 ≤ hb tx (bs + pa) ∧ hb tx (bs + pa) ≤ 255 := by omega
      subst ez1
      refine rI ?_
      refine g_bipush (v := iZ (97)) 59 dX9_next_57 (by decide +kernel) rfl ?_
      refine g_bipush (v := iZ (122)) 61 dX9_next_59 (by decide +kernel) rfl ?_
      refine g_callS (z := mX9_in) (As := [.int (iZ (hb tx (bs + pa))), .int (iZ 97), .int (iZ 122)]) 64 dX9_next_61 mwX9_in ⟨by decide, by decide⟩ rfl wlX9_75 wtX9_in rfl (nle rfl) (nle rfl) rfl ?_
      refine n_in  (by omega) (by decide) (by decide) (fun z3 rz3 => ?_)
      refine rI ?_
      refine g_ifZ_eq 80 67 dX9_next_64 rfl rfl (rg01 (by omega)) (fun c4 => ?_) (fun c4 => ?_)
      · have e9 : pa = E := (sq_st (fun z9 => by have z8 : 97 ≤ hb tx (bs + pa) := z9.2.1; have z7 : hb tx (bs + pa) ≤ 122 := z9.2.2; omega)).symm.trans hE
        subst e9
        exact k h (Sm.refl _ _) F0
      · refine g_aload_n 68 dX9_next_67 rfl rfl ?_
        refine g_dup 69 dX9_next_68 rfl rfl ?_
        refine g_get 72 dX9_next_69 faX9_88_X9 F0 rfl rfl ?_
        refine g_iconst (v := iZ (1)) 73 dX9_next_72 rfl rfl ?_
        refine g_iaddZ (pa + 1) 74 dX9_next_73 (by omega) rfl ?_
        refine g_putC (fs1 := [.long (tr), .ref 51, .int (iZ mn), .ref 52, .ref 53, .int (iZ kt), .ref 54, .ref 55, .ref 56, .ref 57, .ref 58, .ref 59, .ref 60, .int (iZ bs), .int (iZ ee), .int (iZ (pa + 1)), .int (iZ fu), .int (iZ st), .int (iZ so), .int (iZ va), .int (iZ ed), .ref 61, .ref 62, .ref 63, .ref 64, .int (iZ cm), .int (iZ a), .int (iZ x), .int (iZ p), .int (iZ dn), .int (iZ tk), .int (iZ ie), .ref 65, .ref 66, .ref 67, .int (iZ en), .ref 68, .ref 69, .ref 70]) 77 dX9_next_74 fpX9_88_X9 F0 (nle rfl) (vI _) rfl rfl (fun h5 s6 f7 => ?_)
        refine g_goto 53 dX9_next_77 rfl ?_
        have f8 := (s6.get (by decide) F1)
        refine ih _ (by omega) _ (pa + 1) rfl (by omega) ((sq_on (by omega) (by show 97 ≤ hb tx (bs + pa); omega) (by show hb tx (bs + pa) ≤ 122; omega)).symm.trans hE) f7 f8 (fun h1 s1 u0 => k h1 (((Sm.refl [50] _).tr s6 (fun _ q => q) (by simp)).tr s1 (fun _ q => q) (fun _ q => q)) u0)
    · obtain rfl : z1 = -1 := by omega
      refine rI ?_
      refine g_bipush (v := iZ (97)) 59 dX9_next_57 (by decide +kernel) rfl ?_
      refine g_bipush (v := iZ (122)) 61 dX9_next_59 (by decide +kernel) rfl ?_
      refine g_callS (z := mX9_in) (As := [.int (iZ (-1)), .int (iZ 97), .int (iZ 122)]) 64 dX9_next_61 mwX9_in ⟨by decide, by decide⟩ rfl wlX9_75 wtX9_in rfl (nle rfl) (nle rfl) rfl ?_
      refine n_in  (by decide) (by decide) (by decide) (fun z9 rz9 => ?_)
      refine rI ?_
      refine g_ifZ_eq 80 67 dX9_next_64 rfl rfl (rg01 (by omega)) (fun c10 => ?_) (fun c10 => ?_)
      · have e9 : pa = E := (sq_st (fun z9 => by have z8 : 97 ≤ hb tx (bs + pa) := z9.2.1; have z7 : hb tx (bs + pa) ≤ 122 := z9.2.2; omega)).symm.trans hE
        subst e9
        exact k h (Sm.refl _ _) F0
      · refine g_aload_n 68 dX9_next_67 rfl rfl ?_
        refine g_dup 69 dX9_next_68 rfl rfl ?_
        refine g_get 72 dX9_next_69 faX9_88_X9 F0 rfl rfl ?_
        refine g_iconst (v := iZ (1)) 73 dX9_next_72 rfl rfl ?_
        refine g_iaddZ (pa + 1) 74 dX9_next_73 (by omega) rfl ?_
        refine g_putC (fs1 := [.long (tr), .ref 51, .int (iZ mn), .ref 52, .ref 53, .int (iZ kt), .ref 54, .ref 55, .ref 56, .ref 57, .ref 58, .ref 59, .ref 60, .int (iZ bs), .int (iZ ee), .int (iZ (pa + 1)), .int (iZ fu), .int (iZ st), .int (iZ so), .int (iZ va), .int (iZ ed), .ref 61, .ref 62, .ref 63, .ref 64, .int (iZ cm), .int (iZ a), .int (iZ x), .int (iZ p), .int (iZ dn), .int (iZ tk), .int (iZ ie), .ref 65, .ref 66, .ref 67, .int (iZ en), .ref 68, .ref 69, .ref 70]) 77 dX9_next_74 fpX9_88_X9 F0 (nle rfl) (vI _) rfl rfl (fun h11 s12 f13 => ?_)
        refine g_goto 53 dX9_next_77 rfl ?_
        have f14 := (s12.get (by decide) F1)
        refine ih _ (by omega) _ (pa + 1) rfl (by omega) ((sq_on (by omega) (by show 97 ≤ hb tx (bs + pa); omega) (by show hb tx (bs + pa) ≤ 122; omega)).symm.trans hE) f13 f14 (fun h1 s1 u0 => k h1 (((Sm.refl [50] _).tr s12 (fun _ q => q) (by simp)).tr s1 (fun _ q => q) (fun _ q => q)) u0)
set_option maxRecDepth 100000 in
theorem f_nxB {l : Launch} {Q : Option Value → MH → Prop} {tr : Int64} {mn kt bs ee fu st so ed cm a x p dn tk ie en : Int} {tx : Nat → Int32} {E : Int} (c : Int) (rmn : (0 ≤ mn ∧ mn ≤ 200)) (rkt : (0 ≤ kt ∧ kt ≤ 12)) (rbs : (0 ≤ bs ∧ bs ≤ 1400)) (ree : (0 ≤ ee ∧ ee ≤ 200)) (rfu : (-9 ≤ fu ∧ fu ≤ 200)) (rst : (0 ≤ st ∧ st ≤ 200)) (rso : (0 ≤ so ∧ so ≤ 5)) (red : (0 ≤ ed ∧ ed ≤ 200)) (rcm : (0 ≤ cm ∧ cm ≤ 256)) (ra : (0 ≤ a ∧ a ≤ 255)) (rx : (0 ≤ x ∧ x ≤ 255)) (rp : (0 ≤ p ∧ p ≤ 255)) (rdn : (0 ≤ dn ∧ dn ≤ 5000)) (rtk : (0 ≤ tk ∧ tk ≤ 200)) (rie : (0 ≤ ie ∧ ie ≤ 1)) (ren : (0 ≤ en ∧ en ≤ 12)) : ∀ (m0 : Nat) (h : MH) (pa : Int) (va : Int), (200 - pa).toNat = m0 → st ≤ pa ∧ pa ≤ ee → (∀ j : Int, st ≤ j → j < pa → 48 ≤ hb tx (bs + j) ∧ hb tx (bs + j) ≤ 57) → va = nvs (fun j => hb tx (bs + j)) st (pa - st).toNat → sqE ee (fun j => hb tx (bs + j)) 48 57 pa = E → h[50]? = some (.inr (8, [.long (tr), .ref 51, .int (iZ mn), .ref 52, .ref 53, .int (iZ kt), .ref 54, .ref 55, .ref 56, .ref 57, .ref 58, .ref 59, .ref 60, .int (iZ bs), .int (iZ ee), .int (iZ pa), .int (iZ fu), .int (iZ st), .int (iZ so), .int (iZ va), .int (iZ ed), .ref 61, .ref 62, .ref 63, .ref 64, .int (iZ cm), .int (iZ a), .int (iZ x), .int (iZ p), .int (iZ dn), .int (iZ tk), .int (iZ ie), .ref 65, .ref 66, .ref 67, .int (iZ en), .ref 68, .ref 69, .ref 70])) → h[52]? = some (.inl (1, 1600, .inl tx)) → (∀ h1 : MH, Sm [50] h h1 → h1[50]? = some (.inr (8, [.long (tr), .ref 51, .int (iZ mn), .ref 52, .ref 53, .int (iZ kt), .ref 54, .ref 55, .ref 56, .ref 57, .ref 58, .ref 59, .ref 60, .int (iZ bs), .int (iZ ee), .int (iZ E), .int (iZ fu), .int (iZ st), .int (iZ so), .int (iZ (nvs (fun j => hb tx (bs + j)) st (E - st).toNat)), .int (iZ ed), .ref 61, .ref 62, .ref 63, .ref 64, .int (iZ cm), .int (iZ a), .int (iZ x), .int (iZ p), .int (iZ dn), .int (iZ tk), .int (iZ ie), .ref 65, .ref 66, .ref 67, .int (iZ en), .ref 68, .ref 69, .ref 70])) → Go l mX9_next 191 [some (.ref 50), some (.int (iZ c))] [] h1 Q) → Go l mX9_next 128 [some (.ref 50), some (.int (iZ c))] [] h Q := by
  intro m0
  induction m0 using Nat.strongRecOn with
  | ind m0 ih =>
    intro h pa va hmz hpa hD hV hE F0 F1 k
    have hvr := nvs_rg (tf := (fun j => hb tx (bs + j))) (p := st) (pa - st).toNat (fun j hj => hD (st + j) (by omega) (by omega))
    rw [← hV] at hvr
    refine g_aload_n 129 dX9_next_128 rfl rfl ?_
    refine g_callV (z := mX9_here) (As := []) 132 dX9_next_129 mwX9_here ⟨by decide, by decide⟩ rfl wlX9_100 wiX9_here wsX9_here F0 rfl rfl rfl (nle rfl) (nle rfl) rfl ?_
    refine n_here F0 F1 (by omega) (by omega) (by omega) (by omega) (by omega) (by omega) (by omega) (by omega) (by omega) (by omega) (by omega) (by omega) (by omega) (by omega) (by omega) (by omega) (by omega) (by omega) (fun z1 rz1 => ?_)
    by_cases c2 : pa < ee
    · have ez1 : z1 = hb tx (bs + pa) := by omega
      have bz1 : 0 ≤ hb tx (bs + pa) ∧ hb tx (bs + pa) ≤ 255 := by omega
      subst ez1
      refine rI ?_
      refine g_bipush (v := iZ (48)) 134 dX9_next_132 (by decide +kernel) rfl ?_
      refine g_bipush (v := iZ (57)) 136 dX9_next_134 (by decide +kernel) rfl ?_
      refine g_callS (z := mX9_in) (As := [.int (iZ (hb tx (bs + pa))), .int (iZ 48), .int (iZ 57)]) 139 dX9_next_136 mwX9_in ⟨by decide, by decide⟩ rfl wlX9_75 wtX9_in rfl (nle rfl) (nle rfl) rfl ?_
      refine n_in  (by omega) (by decide) (by decide) (fun z3 rz3 => ?_)
      refine rI ?_
      refine g_ifZ_eq 191 142 dX9_next_139 rfl rfl (rg01 (by omega)) (fun c4 => ?_) (fun c4 => ?_)
      · have e9 : pa = E := (sq_st (fun z9 => by have z8 : 48 ≤ hb tx (bs + pa) := z9.2.1; have z7 : hb tx (bs + pa) ≤ 57 := z9.2.2; omega)).symm.trans hE
        subst e9
        rw [← hV] at k
        exact k h (Sm.refl _ _) F0
      · refine g_aload_n 143 dX9_next_142 rfl rfl ?_
        refine g_aload_n 144 dX9_next_143 rfl rfl ?_
        refine g_get 147 dX9_next_144 faX9_137_X9 F0 rfl rfl ?_
        refine g_sipush (v := iZ (255)) 150 dX9_next_147 (by decide +kernel) rfl ?_
        refine g_icZ_le 160 153 dX9_next_150 rfl rfl (by omega) (by decide) (fun c5 => ?_) (fun c5 => ?_)
        · refine g_bipush (v := iZ (10)) 162 dX9_next_160 (by decide +kernel) rfl ?_
          refine g_aload_n 163 dX9_next_162 rfl rfl ?_
          refine g_get 166 dX9_next_163 faX9_137_X9 F0 rfl rfl ?_
          refine g_imulZ (10 * va) 167 dX9_next_166 (by omega) rfl ?_
          refine g_aload_n 168 dX9_next_167 rfl rfl ?_
          refine g_callV (z := mX9_here) (As := []) 171 dX9_next_168 mwX9_here ⟨by decide, by decide⟩ rfl wlX9_100 wiX9_here wsX9_here F0 rfl rfl rfl (nle rfl) (nle rfl) rfl ?_
          refine n_here F0 F1 (by omega) (by omega) (by omega) (by omega) (by omega) (by omega) (by omega) (by omega) (by omega) (by omega) (by omega) (by omega) (by omega) (by omega) (by omega) (by omega) (by omega) (by omega) (fun z6 rz6 => ?_)
          have ez6 : z6 = hb tx (bs + pa) := by omega
          have bz6 : 0 ≤ hb tx (bs + pa) ∧ hb tx (bs + pa) ≤ 255 := by omega
          subst ez6
          refine rI ?_
          refine g_iaddZ ((10 * va) + (hb tx (bs + pa))) 172 dX9_next_171 (by omega) rfl ?_
          refine g_bipush (v := iZ (48)) 174 dX9_next_172 (by decide +kernel) rfl ?_
          refine g_isubZ (((10 * va) + (hb tx (bs + pa))) - 48) 175 dX9_next_174 (by omega) rfl ?_
          refine g_putC (fs1 := [.long (tr), .ref 51, .int (iZ mn), .ref 52, .ref 53, .int (iZ kt), .ref 54, .ref 55, .ref 56, .ref 57, .ref 58, .ref 59, .ref 60, .int (iZ bs), .int (iZ ee), .int (iZ pa), .int (iZ fu), .int (iZ st), .int (iZ so), .int (iZ (((10 * va) + (hb tx (bs + pa))) - 48)), .int (iZ ed), .ref 61, .ref 62, .ref 63, .ref 64, .int (iZ cm), .int (iZ a), .int (iZ x), .int (iZ p), .int (iZ dn), .int (iZ tk), .int (iZ ie), .ref 65, .ref 66, .ref 67, .int (iZ en), .ref 68, .ref 69, .ref 70]) 178 dX9_next_175 fpX9_137_X9 F0 (nle rfl) (vI _) rfl rfl (fun h7 s8 f9 => ?_)
          refine g_aload_n 179 dX9_next_178 rfl rfl ?_
          refine g_dup 180 dX9_next_179 rfl rfl ?_
          refine g_get 183 dX9_next_180 faX9_88_X9 f9 rfl rfl ?_
          refine g_iconst (v := iZ (1)) 184 dX9_next_183 rfl rfl ?_
          refine g_iaddZ (pa + 1) 185 dX9_next_184 (by omega) rfl ?_
          refine g_putC (fs1 := [.long (tr), .ref 51, .int (iZ mn), .ref 52, .ref 53, .int (iZ kt), .ref 54, .ref 55, .ref 56, .ref 57, .ref 58, .ref 59, .ref 60, .int (iZ bs), .int (iZ ee), .int (iZ (pa + 1)), .int (iZ fu), .int (iZ st), .int (iZ so), .int (iZ (((10 * va) + (hb tx (bs + pa))) - 48)), .int (iZ ed), .ref 61, .ref 62, .ref 63, .ref 64, .int (iZ cm), .int (iZ a), .int (iZ x), .int (iZ p), .int (iZ dn), .int (iZ tk), .int (iZ ie), .ref 65, .ref 66, .ref 67, .int (iZ en), .ref 68, .ref 69, .ref 70]) 188 dX9_next_185 fpX9_88_X9 f9 (nle rfl) (vI _) rfl rfl (fun h10 s11 f12 => ?_)
          refine g_goto 128 dX9_next_188 rfl ?_
          have f13 := (s11.get (by decide) (s8.get (by decide) F1))
          refine ih _ (by omega) _ (pa + 1) (((10 * va) + (hb tx (bs + pa))) - 48) rfl (by omega) (dg_s hD (by omega)) (by first | (exfalso; omega) | (rw [show (pa + 1 - st).toNat = (pa - st).toNat + 1 by omega, nvs, ← hV]; show _ = if 255 < va then va else 10 * va + hb tx (bs + (st + ((pa - st).toNat : Int))) - 48; rw [show st + ((pa - st).toNat : Int) = pa by omega]; first | rw [if_pos (by omega)] | rw [if_neg (by omega)])) ((sq_on (by omega) (by show 48 ≤ hb tx (bs + pa); omega) (by show hb tx (bs + pa) ≤ 57; omega)).symm.trans hE) f12 f13 (fun h1 s1 u0 => k h1 ((((Sm.refl [50] _).tr s8 (fun _ q => q) (by simp)).tr s11 (fun _ q => q) (by simp)).tr s1 (fun _ q => q) (fun _ q => q)) u0)
        · refine g_aload_n 154 dX9_next_153 rfl rfl ?_
          refine g_get 157 dX9_next_154 faX9_137_X9 F0 rfl rfl ?_
          refine g_goto 175 dX9_next_157 rfl ?_
          refine g_putC (fs1 := [.long (tr), .ref 51, .int (iZ mn), .ref 52, .ref 53, .int (iZ kt), .ref 54, .ref 55, .ref 56, .ref 57, .ref 58, .ref 59, .ref 60, .int (iZ bs), .int (iZ ee), .int (iZ pa), .int (iZ fu), .int (iZ st), .int (iZ so), .int (iZ va), .int (iZ ed), .ref 61, .ref 62, .ref 63, .ref 64, .int (iZ cm), .int (iZ a), .int (iZ x), .int (iZ p), .int (iZ dn), .int (iZ tk), .int (iZ ie), .ref 65, .ref 66, .ref 67, .int (iZ en), .ref 68, .ref 69, .ref 70]) 178 dX9_next_175 fpX9_137_X9 F0 (nle rfl) (vI _) rfl rfl (fun h14 s15 f16 => ?_)
          refine g_aload_n 179 dX9_next_178 rfl rfl ?_
          refine g_dup 180 dX9_next_179 rfl rfl ?_
          refine g_get 183 dX9_next_180 faX9_88_X9 f16 rfl rfl ?_
          refine g_iconst (v := iZ (1)) 184 dX9_next_183 rfl rfl ?_
          refine g_iaddZ (pa + 1) 185 dX9_next_184 (by omega) rfl ?_
          refine g_putC (fs1 := [.long (tr), .ref 51, .int (iZ mn), .ref 52, .ref 53, .int (iZ kt), .ref 54, .ref 55, .ref 56, .ref 57, .ref 58, .ref 59, .ref 60, .int (iZ bs), .int (iZ ee), .int (iZ (pa + 1)), .int (iZ fu), .int (iZ st), .int (iZ so), .int (iZ va), .int (iZ ed), .ref 61, .ref 62, .ref 63, .ref 64, .int (iZ cm), .int (iZ a), .int (iZ x), .int (iZ p), .int (iZ dn), .int (iZ tk), .int (iZ ie), .ref 65, .ref 66, .ref 67, .int (iZ en), .ref 68, .ref 69, .ref 70]) 188 dX9_next_185 fpX9_88_X9 f16 (nle rfl) (vI _) rfl rfl (fun h17 s18 f19 => ?_)
          refine g_goto 128 dX9_next_188 rfl ?_
          have f20 := (s18.get (by decide) (s15.get (by decide) F1))
          refine ih _ (by omega) _ (pa + 1) (va) rfl (by omega) (dg_s hD (by omega)) (by first | (exfalso; omega) | (rw [show (pa + 1 - st).toNat = (pa - st).toNat + 1 by omega, nvs, ← hV]; show _ = if 255 < va then va else 10 * va + hb tx (bs + (st + ((pa - st).toNat : Int))) - 48; rw [show st + ((pa - st).toNat : Int) = pa by omega]; first | rw [if_pos (by omega)] | rw [if_neg (by omega)])) ((sq_on (by omega) (by show 48 ≤ hb tx (bs + pa); omega) (by show hb tx (bs + pa) ≤ 57; omega)).symm.trans hE) f19 f20 (fun h1 s1 u0 => k h1 ((((Sm.refl [50] _).tr s15 (fun _ q => q) (by simp)).tr s18 (fun _ q => q) (by simp)).tr s1 (fun _ q => q) (fun _ q => q)) u0)
    · obtain rfl : z1 = -1 := by omega
      refine rI ?_
      refine g_bipush (v := iZ (48)) 134 dX9_next_132 (by decide +kernel) rfl ?_
      refine g_bipush (v := iZ (57)) 136 dX9_next_134 (by decide +kernel) rfl ?_
      refine g_callS (z := mX9_in) (As := [.int (iZ (-1)), .int (iZ 48), .int (iZ 57)]) 139 dX9_next_136 mwX9_in ⟨by decide, by decide⟩ rfl wlX9_75 wtX9_in rfl (nle rfl) (nle rfl) rfl ?_
      refine n_in  (by decide) (by decide) (by decide) (fun z21 rz21 => ?_)
      refine rI ?_
      refine g_ifZ_eq 191 142 dX9_next_139 rfl rfl (rg01 (by omega)) (fun c22 => ?_) (fun c22 => ?_)
      · have e9 : pa = E := (sq_st (fun z9 => by have z8 : 48 ≤ hb tx (bs + pa) := z9.2.1; have z7 : hb tx (bs + pa) ≤ 57 := z9.2.2; omega)).symm.trans hE
        subst e9
        rw [← hV] at k
        exact k h (Sm.refl _ _) F0
      · refine g_aload_n 143 dX9_next_142 rfl rfl ?_
        refine g_aload_n 144 dX9_next_143 rfl rfl ?_
        refine g_get 147 dX9_next_144 faX9_137_X9 F0 rfl rfl ?_
        refine g_sipush (v := iZ (255)) 150 dX9_next_147 (by decide +kernel) rfl ?_
        refine g_icZ_le 160 153 dX9_next_150 rfl rfl (by omega) (by decide) (fun c23 => ?_) (fun c23 => ?_)
        · refine g_bipush (v := iZ (10)) 162 dX9_next_160 (by decide +kernel) rfl ?_
          refine g_aload_n 163 dX9_next_162 rfl rfl ?_
          refine g_get 166 dX9_next_163 faX9_137_X9 F0 rfl rfl ?_
          refine g_imulZ (10 * va) 167 dX9_next_166 (by omega) rfl ?_
          refine g_aload_n 168 dX9_next_167 rfl rfl ?_
          refine g_callV (z := mX9_here) (As := []) 171 dX9_next_168 mwX9_here ⟨by decide, by decide⟩ rfl wlX9_100 wiX9_here wsX9_here F0 rfl rfl rfl (nle rfl) (nle rfl) rfl ?_
          refine n_here F0 F1 (by omega) (by omega) (by omega) (by omega) (by omega) (by omega) (by omega) (by omega) (by omega) (by omega) (by omega) (by omega) (by omega) (by omega) (by omega) (by omega) (by omega) (by omega) (fun z24 rz24 => ?_)
          by_cases c25 : pa < ee
          · have ez24 : z24 = hb tx (bs + pa) := by omega
            have bz24 : 0 ≤ hb tx (bs + pa) ∧ hb tx (bs + pa) ≤ 255 := by omega
            subst ez24
            refine rI ?_
            refine g_iaddZ ((10 * va) + (hb tx (bs + pa))) 172 dX9_next_171 (by omega) rfl ?_
            refine g_bipush (v := iZ (48)) 174 dX9_next_172 (by decide +kernel) rfl ?_
            refine g_isubZ (((10 * va) + (hb tx (bs + pa))) - 48) 175 dX9_next_174 (by omega) rfl ?_
            refine g_putC (fs1 := [.long (tr), .ref 51, .int (iZ mn), .ref 52, .ref 53, .int (iZ kt), .ref 54, .ref 55, .ref 56, .ref 57, .ref 58, .ref 59, .ref 60, .int (iZ bs), .int (iZ ee), .int (iZ pa), .int (iZ fu), .int (iZ st), .int (iZ so), .int (iZ (((10 * va) + (hb tx (bs + pa))) - 48)), .int (iZ ed), .ref 61, .ref 62, .ref 63, .ref 64, .int (iZ cm), .int (iZ a), .int (iZ x), .int (iZ p), .int (iZ dn), .int (iZ tk), .int (iZ ie), .ref 65, .ref 66, .ref 67, .int (iZ en), .ref 68, .ref 69, .ref 70]) 178 dX9_next_175 fpX9_137_X9 F0 (nle rfl) (vI _) rfl rfl (fun h26 s27 f28 => ?_)
            refine g_aload_n 179 dX9_next_178 rfl rfl ?_
            refine g_dup 180 dX9_next_179 rfl rfl ?_
            refine g_get 183 dX9_next_180 faX9_88_X9 f28 rfl rfl ?_
            refine g_iconst (v := iZ (1)) 184 dX9_next_183 rfl rfl ?_
            refine g_iaddZ (pa + 1) 185 dX9_next_184 (by omega) rfl ?_
            refine g_putC (fs1 := [.long (tr), .ref 51, .int (iZ mn), .ref 52, .ref 53, .int (iZ kt), .ref 54, .ref 55, .ref 56, .ref 57, .ref 58, .ref 59, .ref 60, .int (iZ bs), .int (iZ ee), .int (iZ (pa + 1)), .int (iZ fu), .int (iZ st), .int (iZ so), .int (iZ (((10 * va) + (hb tx (bs + pa))) - 48)), .int (iZ ed), .ref 61, .ref 62, .ref 63, .ref 64, .int (iZ cm), .int (iZ a), .int (iZ x), .int (iZ p), .int (iZ dn), .int (iZ tk), .int (iZ ie), .ref 65, .ref 66, .ref 67, .int (iZ en), .ref 68, .ref 69, .ref 70]) 188 dX9_next_185 fpX9_88_X9 f28 (nle rfl) (vI _) rfl rfl (fun h29 s30 f31 => ?_)
            refine g_goto 128 dX9_next_188 rfl ?_
            have f32 := (s30.get (by decide) (s27.get (by decide) F1))
            refine ih _ (by omega) _ (pa + 1) (((10 * va) + (hb tx (bs + pa))) - 48) rfl (by omega) (dg_s hD (by omega)) (by first | (exfalso; omega) | (rw [show (pa + 1 - st).toNat = (pa - st).toNat + 1 by omega, nvs, ← hV]; show _ = if 255 < va then va else 10 * va + hb tx (bs + (st + ((pa - st).toNat : Int))) - 48; rw [show st + ((pa - st).toNat : Int) = pa by omega]; first | rw [if_pos (by omega)] | rw [if_neg (by omega)])) ((sq_on (by omega) (by show 48 ≤ hb tx (bs + pa); omega) (by show hb tx (bs + pa) ≤ 57; omega)).symm.trans hE) f31 f32 (fun h1 s1 u0 => k h1 ((((Sm.refl [50] _).tr s27 (fun _ q => q) (by simp)).tr s30 (fun _ q => q) (by simp)).tr s1 (fun _ q => q) (fun _ q => q)) u0)
          · obtain rfl : z24 = -1 := by omega
            refine rI ?_
            refine g_iaddZ ((10 * va) + (-1)) 172 dX9_next_171 (by omega) rfl ?_
            refine g_bipush (v := iZ (48)) 174 dX9_next_172 (by decide +kernel) rfl ?_
            refine g_isubZ (((10 * va) + (-1)) - 48) 175 dX9_next_174 (by omega) rfl ?_
            refine g_putC (fs1 := [.long (tr), .ref 51, .int (iZ mn), .ref 52, .ref 53, .int (iZ kt), .ref 54, .ref 55, .ref 56, .ref 57, .ref 58, .ref 59, .ref 60, .int (iZ bs), .int (iZ ee), .int (iZ pa), .int (iZ fu), .int (iZ st), .int (iZ so), .int (iZ (((10 * va) + (-1)) - 48)), .int (iZ ed), .ref 61, .ref 62, .ref 63, .ref 64, .int (iZ cm), .int (iZ a), .int (iZ x), .int (iZ p), .int (iZ dn), .int (iZ tk), .int (iZ ie), .ref 65, .ref 66, .ref 67, .int (iZ en), .ref 68, .ref 69, .ref 70]) 178 dX9_next_175 fpX9_137_X9 F0 (nle rfl) (vI _) rfl rfl (fun h33 s34 f35 => ?_)
            refine g_aload_n 179 dX9_next_178 rfl rfl ?_
            refine g_dup 180 dX9_next_179 rfl rfl ?_
            refine g_get 183 dX9_next_180 faX9_88_X9 f35 rfl rfl ?_
            refine g_iconst (v := iZ (1)) 184 dX9_next_183 rfl rfl ?_
            refine g_iaddZ (pa + 1) 185 dX9_next_184 (by omega) rfl ?_
            refine g_putC (fs1 := [.long (tr), .ref 51, .int (iZ mn), .ref 52, .ref 53, .int (iZ kt), .ref 54, .ref 55, .ref 56, .ref 57, .ref 58, .ref 59, .ref 60, .int (iZ bs), .int (iZ ee), .int (iZ (pa + 1)), .int (iZ fu), .int (iZ st), .int (iZ so), .int (iZ (((10 * va) + (-1)) - 48)), .int (iZ ed), .ref 61, .ref 62, .ref 63, .ref 64, .int (iZ cm), .int (iZ a), .int (iZ x), .int (iZ p), .int (iZ dn), .int (iZ tk), .int (iZ ie), .ref 65, .ref 66, .ref 67, .int (iZ en), .ref 68, .ref 69, .ref 70]) 188 dX9_next_185 fpX9_88_X9 f35 (nle rfl) (vI _) rfl rfl (fun h36 s37 f38 => ?_)
            refine g_goto 128 dX9_next_188 rfl ?_
            have f39 := (s37.get (by decide) (s34.get (by decide) F1))
            refine ih _ (by omega) _ (pa + 1) (((10 * va) + (-1)) - 48) rfl (by omega) (dg_s hD (by omega)) (by first | (exfalso; omega) | (rw [show (pa + 1 - st).toNat = (pa - st).toNat + 1 by omega, nvs, ← hV]; show _ = if 255 < va then va else 10 * va + hb tx (bs + (st + ((pa - st).toNat : Int))) - 48; rw [show st + ((pa - st).toNat : Int) = pa by omega]; first | rw [if_pos (by omega)] | rw [if_neg (by omega)])) ((sq_on (by omega) (by show 48 ≤ hb tx (bs + pa); omega) (by show hb tx (bs + pa) ≤ 57; omega)).symm.trans hE) f38 f39 (fun h1 s1 u0 => k h1 ((((Sm.refl [50] _).tr s34 (fun _ q => q) (by simp)).tr s37 (fun _ q => q) (by simp)).tr s1 (fun _ q => q) (fun _ q => q)) u0)
        · refine g_aload_n 154 dX9_next_153 rfl rfl ?_
          refine g_get 157 dX9_next_154 faX9_137_X9 F0 rfl rfl ?_
          refine g_goto 175 dX9_next_157 rfl ?_
          refine g_putC (fs1 := [.long (tr), .ref 51, .int (iZ mn), .ref 52, .ref 53, .int (iZ kt), .ref 54, .ref 55, .ref 56, .ref 57, .ref 58, .ref 59, .ref 60, .int (iZ bs), .int (iZ ee), .int (iZ pa), .int (iZ fu), .int (iZ st), .int (iZ so), .int (iZ va), .int (iZ ed), .ref 61, .ref 62, .ref 63, .ref 64, .int (iZ cm), .int (iZ a), .int (iZ x), .int (iZ p), .int (iZ dn), .int (iZ tk), .int (iZ ie), .ref 65, .ref 66, .ref 67, .int (iZ en), .ref 68, .ref 69, .ref 70]) 178 dX9_next_175 fpX9_137_X9 F0 (nle rfl) (vI _) rfl rfl (fun h40 s41 f42 => ?_)
          refine g_aload_n 179 dX9_next_178 rfl rfl ?_
          refine g_dup 180 dX9_next_179 rfl rfl ?_
          refine g_get 183 dX9_next_180 faX9_88_X9 f42 rfl rfl ?_
          refine g_iconst (v := iZ (1)) 184 dX9_next_183 rfl rfl ?_
          refine g_iaddZ (pa + 1) 185 dX9_next_184 (by omega) rfl ?_
          refine g_putC (fs1 := [.long (tr), .ref 51, .int (iZ mn), .ref 52, .ref 53, .int (iZ kt), .ref 54, .ref 55, .ref 56, .ref 57, .ref 58, .ref 59, .ref 60, .int (iZ bs), .int (iZ ee), .int (iZ (pa + 1)), .int (iZ fu), .int (iZ st), .int (iZ so), .int (iZ va), .int (iZ ed), .ref 61, .ref 62, .ref 63, .ref 64, .int (iZ cm), .int (iZ a), .int (iZ x), .int (iZ p), .int (iZ dn), .int (iZ tk), .int (iZ ie), .ref 65, .ref 66, .ref 67, .int (iZ en), .ref 68, .ref 69, .ref 70]) 188 dX9_next_185 fpX9_88_X9 f42 (nle rfl) (vI _) rfl rfl (fun h43 s44 f45 => ?_)
          refine g_goto 128 dX9_next_188 rfl ?_
          have f46 := (s44.get (by decide) (s41.get (by decide) F1))
          refine ih _ (by omega) _ (pa + 1) (va) rfl (by omega) (dg_s hD (by omega)) (by first | (exfalso; omega) | (rw [show (pa + 1 - st).toNat = (pa - st).toNat + 1 by omega, nvs, ← hV]; show _ = if 255 < va then va else 10 * va + hb tx (bs + (st + ((pa - st).toNat : Int))) - 48; rw [show st + ((pa - st).toNat : Int) = pa by omega]; first | rw [if_pos (by omega)] | rw [if_neg (by omega)])) ((sq_on (by omega) (by show 48 ≤ hb tx (bs + pa); omega) (by show hb tx (bs + pa) ≤ 57; omega)).symm.trans hE) f45 f46 (fun h1 s1 u0 => k h1 ((((Sm.refl [50] _).tr s41 (fun _ q => q) (by simp)).tr s44 (fun _ q => q) (by simp)).tr s1 (fun _ q => q) (fun _ q => q)) u0)

set_option maxRecDepth 100000 in
theorem f_rp_l {l : Launch} {Q : Option Value → MH → Prop} {tr : Int64} {mn kt st so va ed cm a x p dn tk ie en : Int} {lg : Nat → Int} {tx : Nat → Int32} {RES : PR} (olg : oki (0) (200) lg) (rmn : (0 ≤ mn ∧ mn ≤ 200)) (rkt : (0 ≤ kt ∧ kt ≤ 12)) (rst : (0 ≤ st ∧ st ≤ 200)) (rso : (0 ≤ so ∧ so ≤ 5)) (rva : (-100 ≤ va ∧ va ≤ 3000)) (red : (0 ≤ ed ∧ ed ≤ 200)) (rcm : (0 ≤ cm ∧ cm ≤ 256)) (ra : (0 ≤ a ∧ a ≤ 255)) (rx : (0 ≤ x ∧ x ≤ 255)) (rp : (0 ≤ p ∧ p ≤ 255)) (rdn : (0 ≤ dn ∧ dn ≤ 5000)) (rtk : (0 ≤ tk ∧ tk ≤ 200)) (rie : (0 ≤ ie ∧ ie ≤ 1)) (ren : (0 ≤ en ∧ en ≤ 12)) : ∀ (m0 : Nat) (h : MH) (bs ee pa fu : Int) (bf : Nat → Int) (lf : Nat → Int) (sz : Nat → Int), (200 - pa).toNat = m0 → (0 ≤ bs ∧ bs ≤ 1400) → (0 ≤ ee ∧ ee ≤ 200) → (0 ≤ pa ∧ pa ≤ 200) → (-9 ≤ fu ∧ fu ≤ 200) → okr bf → oki (0) (300) lf → oki (0) (256) sz → h[50]? = some (.inr (8, [.long (tr), .ref 51, .int (iZ mn), .ref 52, .ref 53, .int (iZ kt), .ref 54, .ref 55, .ref 56, .ref 57, .ref 58, .ref 59, .ref 60, .int (iZ bs), .int (iZ ee), .int (iZ pa), .int (iZ fu), .int (iZ st), .int (iZ so), .int (iZ va), .int (iZ ed), .ref 61, .ref 62, .ref 63, .ref 64, .int (iZ cm), .int (iZ a), .int (iZ x), .int (iZ p), .int (iZ dn), .int (iZ tk), .int (iZ ie), .ref 65, .ref 66, .ref 67, .int (iZ en), .ref 68, .ref 69, .ref 70])) → h[52]? = some (.inl (1, 1600, .inl tx)) → h[53]? = some (.inl (0, 8, .inl (zA lg))) → h[54]? = some (.inl (0, 4096, .inl (zA bf))) → h[55]? = some (.inl (0, 4096, .inl (zA lf))) → h[56]? = some (.inl (0, 16, .inl (zA sz))) → 0 ≤ sz 12 ∧ sz 12 ≤ pa ∧ pa ≤ ee → prJ RES ee (fun j => hb tx (bs + j)) pa (sz 12) (sl12 bf) (sl12 lf) → (∀ (h1 : MH) (bs_1 ee_1 pa_1 fu_1 : Int) (bf_1 : Nat → Int) (lf_1 : Nat → Int) (sz_1 : Nat → Int) (r : Int), (0 ≤ bs_1 ∧ bs_1 ≤ 1400) → (0 ≤ ee_1 ∧ ee_1 ≤ 200) → (0 ≤ pa_1 ∧ pa_1 ≤ 200) → (-9 ≤ fu_1 ∧ fu_1 ≤ 200) → okr bf_1 → oki (0) (300) lf_1 → oki (0) (256) sz_1 → (r = -9 ∨ (0 ≤ r ∧ r ≤ 200)) → (∀ q : Nat, q < 3072 → bf_1 q = bf q) → (∀ q : Nat, q < 3072 → lf_1 q = lf q) → (∀ t : Nat, t ≠ 12 → sz_1 t = sz t) → (prR RES r (sz_1 12) (sl12 bf_1) (sl12 lf_1)) → Sm [50, 54, 55, 56] h h1 → h1[50]? = some (.inr (8, [.long (tr), .ref 51, .int (iZ mn), .ref 52, .ref 53, .int (iZ kt), .ref 54, .ref 55, .ref 56, .ref 57, .ref 58, .ref 59, .ref 60, .int (iZ bs_1), .int (iZ ee_1), .int (iZ pa_1), .int (iZ fu_1), .int (iZ st), .int (iZ so), .int (iZ va), .int (iZ ed), .ref 61, .ref 62, .ref 63, .ref 64, .int (iZ cm), .int (iZ a), .int (iZ x), .int (iZ p), .int (iZ dn), .int (iZ tk), .int (iZ ie), .ref 65, .ref 66, .ref 67, .int (iZ en), .ref 68, .ref 69, .ref 70])) → h1[54]? = some (.inl (0, 4096, .inl (zA bf_1))) → h1[55]? = some (.inl (0, 4096, .inl (zA lf_1))) → h1[56]? = some (.inl (0, 16, .inl (zA sz_1))) → Q (some (.int (iZ r))) h1) → Go l mX9_readPairs 16 [some (.ref 50), none, some (.int (iZ 12)), none, none, none] [] h Q := by
  intro m0
  induction m0 using Nat.strongRecOn with
  | ind m0 ih =>
    intro h bs ee pa fu bf lf sz hmz rbs ree rpa rfu obf olf osz F0 F1 F2 F3 F4 F5 hD hP k
    refine g_aload_n 17 dX9_readPairs_16 rfl rfl ?_
    refine g_get 20 dX9_readPairs_17 faX9_88_X9 F0 rfl rfl ?_
    refine g_aload_n 21 dX9_readPairs_20 rfl rfl ?_
    refine g_get 24 dX9_readPairs_21 faX9_91_X9 F0 rfl rfl ?_
    refine g_icZ_ge 115 27 dX9_readPairs_24 rfl rfl (by omega) (by omega) (fun c1 => ?_) (fun c1 => ?_)
    · refine g_aload_n 116 dX9_readPairs_115 rfl rfl ?_
      refine g_get 119 dX9_readPairs_116 faX9_26_X9 F0 rfl rfl ?_
      refine g_iload_n 120 dX9_readPairs_119 rfl rfl ?_
      have b2 := osz (12)
      refine g_ialdZ (v := iZ (sz 12)) 121 dX9_readPairs_120 F5 (by decide) (by decide) (by decide) rfl rfl ?_
      refine g_ifZ_ne 131 124 dX9_readPairs_121 rfl rfl (by omega) (fun c3 => ?_) (fun c3 => ?_)
      · refine g_bipush (v := iZ (-9)) 133 dX9_readPairs_131 (by decide +kernel) rfl ?_
        refine g_iret rfl dX9_readPairs_133 ?_
        exact k _ (bs) (ee) (pa) (fu) (bf) (lf) (sz) (-9) (by omega) (by omega) (by omega) (by omega) obf olf osz (by omega) (fun _ _ => rfl) (fun _ _ => rfl) (fun _ _ => rfl) (by have q9 := prJ_end hP (by omega) (by omega); rw [if_neg (by omega)] at q9; exact q9) (Sm.refl [50, 54, 55, 56] _) F0 F3 F4 F5
      · refine g_aload_n 125 dX9_readPairs_124 rfl rfl ?_
        refine g_get 128 dX9_readPairs_125 faX9_91_X9 F0 rfl rfl ?_
        refine g_goto 133 dX9_readPairs_128 rfl ?_
        refine g_iret rfl dX9_readPairs_133 ?_
        exact k _ (bs) (ee) (pa) (fu) (bf) (lf) (sz) (ee) (by omega) (by omega) (by omega) (by omega) obf olf osz (by omega) (fun _ _ => rfl) (fun _ _ => rfl) (fun _ _ => rfl) (by have q9 := prJ_end hP (by omega) (by omega); rw [if_pos (by omega)] at q9; exact q9) (Sm.refl [50, 54, 55, 56] _) F0 F3 F4 F5
    · refine g_aload_n 28 dX9_readPairs_27 rfl rfl ?_
      refine g_get 31 dX9_readPairs_28 faX9_88_X9 F0 rfl rfl ?_
      refine g_istore_n (L1 := [some (.ref 50), none, some (.int (iZ 12)), some (.int (iZ pa)), none, none]) 32 dX9_readPairs_31 (by decide) rfl rfl rfl ?_
      refine g_aload_n 33 dX9_readPairs_32 rfl rfl ?_
      refine g_callV (z := mX9_here) (As := []) 36 dX9_readPairs_33 mwX9_here ⟨by decide, by decide⟩ rfl wlX9_100 wiX9_here wsX9_here F0 rfl rfl rfl (nle rfl) (nle rfl) rfl ?_
      refine n_here F0 F1 (by omega) (by omega) (by omega) (by omega) (by omega) (by omega) (by omega) (by omega) (by omega) (by omega) (by omega) (by omega) (by omega) (by omega) (by omega) (by omega) (by omega) (by omega) (fun z4 rz4 => ?_)
      have ez4 : z4 = hb tx (bs + pa) := by omega
      have bz4 : 0 ≤ hb tx (bs + pa) ∧ hb tx (bs + pa) ≤ 255 := by omega
      subst ez4
      refine rI ?_
      refine g_callS (z := mX9_digit) (As := [.int (iZ (hb tx (bs + pa)))]) 39 dX9_readPairs_36 mwX9_digit ⟨by decide, by decide⟩ rfl wlX9_111 wtX9_digit rfl (nle rfl) (nle rfl) rfl ?_
      refine f_dig (by omega) (fun z5 rz5 => ?_)
      obtain ⟨ez5, bz5⟩ := rz5
      subst ez5
      refine rI ?_
      refine g_istore (L1 := [some (.ref 50), none, some (.int (iZ 12)), some (.int (iZ pa)), some (.int (iZ (dgt (hb tx (bs + pa))))), none]) 41 dX9_readPairs_39 (by decide) rfl rfl rfl ?_
      refine g_iload 43 dX9_readPairs_41 rfl rfl ?_
      refine g_bipush (v := iZ (-9)) 45 dX9_readPairs_43 (by decide +kernel) rfl ?_
      refine g_icZ_ne 53 48 dX9_readPairs_45 rfl rfl (by omega) (by decide) (fun c6 => ?_) (fun c6 => ?_)
      · refine g_aload_n 54 dX9_readPairs_53 rfl rfl ?_
        refine g_dup 55 dX9_readPairs_54 rfl rfl ?_
        refine g_get 58 dX9_readPairs_55 faX9_88_X9 F0 rfl rfl ?_
        refine g_iconst (v := iZ (1)) 59 dX9_readPairs_58 rfl rfl ?_
        refine g_iaddZ (pa + 1) 60 dX9_readPairs_59 (by omega) rfl ?_
        refine g_putC (fs1 := [.long (tr), .ref 51, .int (iZ mn), .ref 52, .ref 53, .int (iZ kt), .ref 54, .ref 55, .ref 56, .ref 57, .ref 58, .ref 59, .ref 60, .int (iZ bs), .int (iZ ee), .int (iZ (pa + 1)), .int (iZ fu), .int (iZ st), .int (iZ so), .int (iZ va), .int (iZ ed), .ref 61, .ref 62, .ref 63, .ref 64, .int (iZ cm), .int (iZ a), .int (iZ x), .int (iZ p), .int (iZ dn), .int (iZ tk), .int (iZ ie), .ref 65, .ref 66, .ref 67, .int (iZ en), .ref 68, .ref 69, .ref 70]) 63 dX9_readPairs_60 fpX9_88_X9 F0 (nle rfl) (vI _) rfl rfl (fun h7 s8 f9 => ?_)
        refine g_aload_n 64 dX9_readPairs_63 rfl rfl ?_
        refine g_callV (z := mX9_here) (As := []) 67 dX9_readPairs_64 mwX9_here ⟨by decide, by decide⟩ rfl wlX9_100 wiX9_here wsX9_here f9 rfl rfl rfl (nle rfl) (nle rfl) rfl ?_
        have f11 := (s8.get (by decide) F1)
        refine n_here f9 f11 (by omega) (by omega) (by omega) (by omega) (by omega) (by omega) (by omega) (by omega) (by omega) (by omega) (by omega) (by omega) (by omega) (by omega) (by omega) (by omega) (by omega) (by omega) (fun z10 rz10 => ?_)
        by_cases c12 : pa + 1 < ee
        · have ez10 : z10 = hb tx (bs + (pa + 1)) := by omega
          have bz10 : 0 ≤ hb tx (bs + (pa + 1)) ∧ hb tx (bs + (pa + 1)) ≤ 255 := by omega
          subst ez10
          refine rI ?_
          refine g_callS (z := mX9_digit) (As := [.int (iZ (hb tx (bs + (pa + 1))))]) 70 dX9_readPairs_67 mwX9_digit ⟨by decide, by decide⟩ rfl wlX9_111 wtX9_digit rfl (nle rfl) (nle rfl) rfl ?_
          refine f_dig (by omega) (fun z13 rz13 => ?_)
          obtain ⟨ez13, bz13⟩ := rz13
          subst ez13
          refine rI ?_
          refine g_istore (L1 := [some (.ref 50), none, some (.int (iZ 12)), some (.int (iZ pa)), some (.int (iZ (dgt (hb tx (bs + pa))))), some (.int (iZ (dgt (hb tx (bs + (pa + 1))))))]) 72 dX9_readPairs_70 (by decide) rfl rfl rfl ?_
          refine g_iload 74 dX9_readPairs_72 rfl rfl ?_
          refine g_bipush (v := iZ (-9)) 76 dX9_readPairs_74 (by decide +kernel) rfl ?_
          refine g_icZ_ne 84 79 dX9_readPairs_76 rfl rfl (by omega) (by decide) (fun c14 => ?_) (fun c14 => ?_)
          · refine g_aload_n 85 dX9_readPairs_84 rfl rfl ?_
            refine g_dup 86 dX9_readPairs_85 rfl rfl ?_
            refine g_get 89 dX9_readPairs_86 faX9_88_X9 f9 rfl rfl ?_
            refine g_iconst (v := iZ (1)) 90 dX9_readPairs_89 rfl rfl ?_
            refine g_iaddZ (pa + 2) 91 dX9_readPairs_90 (by omega) rfl ?_
            refine g_putC (fs1 := [.long (tr), .ref 51, .int (iZ mn), .ref 52, .ref 53, .int (iZ kt), .ref 54, .ref 55, .ref 56, .ref 57, .ref 58, .ref 59, .ref 60, .int (iZ bs), .int (iZ ee), .int (iZ (pa + 2)), .int (iZ fu), .int (iZ st), .int (iZ so), .int (iZ va), .int (iZ ed), .ref 61, .ref 62, .ref 63, .ref 64, .int (iZ cm), .int (iZ a), .int (iZ x), .int (iZ p), .int (iZ dn), .int (iZ tk), .int (iZ ie), .ref 65, .ref 66, .ref 67, .int (iZ en), .ref 68, .ref 69, .ref 70]) 94 dX9_readPairs_91 fpX9_88_X9 f9 (nle rfl) (vI _) rfl rfl (fun h15 s16 f17 => ?_)
            refine g_aload_n 95 dX9_readPairs_94 rfl rfl ?_
            refine g_iload_n 96 dX9_readPairs_95 rfl rfl ?_
            refine g_bipush (v := iZ (16)) 98 dX9_readPairs_96 (by decide +kernel) rfl ?_
            refine g_iload 100 dX9_readPairs_98 rfl rfl ?_
            refine g_imulZ (16 * (dgt (hb tx (bs + pa)))) 101 dX9_readPairs_100 (by omega) rfl ?_
            refine g_iload 103 dX9_readPairs_101 rfl rfl ?_
            refine g_iaddZ ((16 * (dgt (hb tx (bs + pa)))) + (dgt (hb tx (bs + (pa + 1))))) 104 dX9_readPairs_103 (by omega) rfl ?_
            refine g_iload_n 105 dX9_readPairs_104 rfl rfl ?_
            refine g_callV (z := mX9_add) (As := [.int (iZ 12), .int (iZ ((16 * (dgt (hb tx (bs + pa)))) + (dgt (hb tx (bs + (pa + 1)))))), .int (iZ pa)]) 108 dX9_readPairs_105 mwX9_add ⟨by decide, by decide⟩ rfl wlX9_115 wiX9_add wsX9_add f17 rfl rfl rfl (nle rfl) (nle rfl) rfl ?_
            have bz18 := osz 12
            have f19 := (s16.get (by decide) (s8.get (by decide) F3))
            have f20 := (s16.get (by decide) (s8.get (by decide) F4))
            have f21 := (s16.get (by decide) (s8.get (by decide) F5))
            refine f_add  f17 f19 f20 f21 obf olf osz (by omega) (by omega) (by omega) (by omega) (by omega) (by omega) (by omega) (by omega) (by omega) (by omega) (by omega) (by omega) (by omega) (by omega) (by omega) (by omega) (by omega) (by omega) (by omega) (by omega) (by omega) (fun h22 g24 g25 g26 og24 og25 og26 p27 p28 p29 s23 f30 f31 f32 => ?_)
            refine rV ?_
            refine g_aload_n 109 dX9_readPairs_108 rfl rfl ?_
            have f33 := (s23.get (by decide) f17)
            refine g_callV (z := mX9_pass) (As := []) 112 dX9_readPairs_109 mwX9_pass ⟨by decide, by decide⟩ rfl wlX9_108 wiX9_pass wsX9_pass f33 rfl rfl rfl (nle rfl) (nle rfl) rfl ?_
            have f34 := (s23.get (by decide) (s16.get (by decide) f11))
            refine f_pass  f33 f34 (by omega) (by omega) (by omega) (by omega) (by omega) (by omega) (by omega) (by omega) (by omega) (by omega) (by omega) (by omega) (by omega) (by omega) (by omega) (by omega) (by omega) (by omega) (by omega) rfl (fun h35 z37 rz37 p38 s36 f39 => ?_)
            refine rV ?_
            have gz37 := gap_rg (tn := ee) (tf := (fun j => hb tx (bs + j))) (r := 0) (i := pa + 2) (by omega)
            rw [← p38] at gz37
            refine g_goto 16 dX9_readPairs_112 rfl ?_
            refine Go.fgt 3 ?_
            refine Go.fgt 4 ?_
            refine Go.fgt 5 ?_
            have f40 := (s36.get (by decide) f34)
            have f41 := (s36.get (by decide) (s23.get (by decide) (s16.get (by decide) (s8.get (by decide) F2))))
            have f42 := (s36.get (by decide) f30)
            have f43 := (s36.get (by decide) f31)
            have f44 := (s36.get (by decide) f32)
            exact ih _ (by omega) _ (bs) (ee) (z37) (fu) (g24) (g25) (g26) rfl (by omega) (by omega) (by omega) (by omega) og24 og25 og26 f39 f40 f41 f42 f43 f44 (by rw [p29, up_eq]; omega) (by rw [p38, p27, p28, p29, up_eq, sl12_up (by omega), sl12_up (by omega)]; exact prJ_c hP (by omega) (by omega) (by omega) (by show dgt (hb tx (bs + pa)) ≠ -9; omega) (by show dgt (hb tx (bs + (pa + 1))) ≠ -9; omega)) (fun hQ xQ0 xQ1 xQ2 xQ3 xQ4 xQ5 xQ6 rQ yQ0 yQ1 yQ2 yQ3 yQ4 yQ5 yQ6 yQ7 pQ0 pQ1 pQ2 pQ3 sQ uQ0 uQ1 uQ2 uQ3 => k hQ xQ0 xQ1 xQ2 xQ3 xQ4 xQ5 xQ6 rQ yQ0 yQ1 yQ2 yQ3 yQ4 yQ5 yQ6 yQ7 (fun q hq => (pQ0 q hq).trans (add_A p27 (by omega) q hq)) (fun q hq => (pQ1 q hq).trans (add_A p28 (by omega) q hq)) (fun q hq => (pQ2 q hq).trans (add_C p29 q hq)) pQ3 ((((((Sm.refl [50, 54, 55, 56] _).tr s8 (fun _ q => q) (by simp)).tr s16 (fun _ q => q) (by simp)).tr s23 (fun _ q => q) (by simp)).tr s36 (fun _ q => q) (by simp)).tr sQ (fun _ q => q) (fun _ q => q)) uQ0 uQ1 uQ2 uQ3)
          · refine g_aload_n 80 dX9_readPairs_79 rfl rfl ?_
            refine g_get 83 dX9_readPairs_80 faX9_88_X9 f9 rfl rfl ?_
            refine g_iret rfl dX9_readPairs_83 ?_
            have f45 := (s8.get (by decide) F3)
            have f46 := (s8.get (by decide) F4)
            have f47 := (s8.get (by decide) F5)
            exact k _ (bs) (ee) (pa + 1) (fu) (bf) (lf) (sz) (pa + 1) (by omega) (by omega) (by omega) (by omega) obf olf osz (by omega) (fun _ _ => rfl) (fun _ _ => rfl) (fun _ _ => rfl) (prJ_b hP (by omega) (by omega) (by show dgt (hb tx (bs + pa)) ≠ -9; omega) (Or.inr (by show dgt (hb tx (bs + (pa + 1))) = -9; omega))) ((Sm.refl [50, 54, 55, 56] _).tr s8 (fun _ q => q) (by simp)) f9 f45 f46 f47
        · obtain rfl : z10 = -1 := by omega
          refine rI ?_
          refine g_callS (z := mX9_digit) (As := [.int (iZ (-1))]) 70 dX9_readPairs_67 mwX9_digit ⟨by decide, by decide⟩ rfl wlX9_111 wtX9_digit rfl (nle rfl) (nle rfl) rfl ?_
          refine f_dig (by omega) (fun z48 rz48 => ?_)
          obtain rfl : z48 = -9 := rz48.1
          refine rI ?_
          refine g_istore (L1 := [some (.ref 50), none, some (.int (iZ 12)), some (.int (iZ pa)), some (.int (iZ (dgt (hb tx (bs + pa))))), some (.int (iZ (-9)))]) 72 dX9_readPairs_70 (by decide) rfl rfl rfl ?_
          refine g_iload 74 dX9_readPairs_72 rfl rfl ?_
          refine g_bipush (v := iZ (-9)) 76 dX9_readPairs_74 (by decide +kernel) rfl ?_
          refine g_icZ_ne 84 79 dX9_readPairs_76 rfl rfl (by decide) (by decide) (fun q => absurd q (by decide)) (fun _ => ?_)
          refine g_aload_n 80 dX9_readPairs_79 rfl rfl ?_
          refine g_get 83 dX9_readPairs_80 faX9_88_X9 f9 rfl rfl ?_
          refine g_iret rfl dX9_readPairs_83 ?_
          have f49 := (s8.get (by decide) F3)
          have f50 := (s8.get (by decide) F4)
          have f51 := (s8.get (by decide) F5)
          exact k _ (bs) (ee) (pa + 1) (fu) (bf) (lf) (sz) (pa + 1) (by omega) (by omega) (by omega) (by omega) obf olf osz (by omega) (fun _ _ => rfl) (fun _ _ => rfl) (fun _ _ => rfl) (prJ_b hP (by omega) (by omega) (by show dgt (hb tx (bs + pa)) ≠ -9; omega) (Or.inl (by omega))) ((Sm.refl [50, 54, 55, 56] _).tr s8 (fun _ q => q) (by simp)) f9 f49 f50 f51
      · refine g_aload_n 49 dX9_readPairs_48 rfl rfl ?_
        refine g_get 52 dX9_readPairs_49 faX9_88_X9 F0 rfl rfl ?_
        refine g_iret rfl dX9_readPairs_52 ?_
        exact k _ (bs) (ee) (pa) (fu) (bf) (lf) (sz) (pa) (by omega) (by omega) (by omega) (by omega) obf olf osz (by omega) (fun _ _ => rfl) (fun _ _ => rfl) (fun _ _ => rfl) (prJ_a hP (by omega) (by omega) (by show dgt (hb tx (bs + pa)) = -9; omega)) (Sm.refl [50, 54, 55, 56] _) F0 F3 F4 F5
set_option maxRecDepth 100000 in
theorem f_rp {l : Launch} {h : MH} {Q : Option Value → MH → Prop} {tr : Int64} {mn kt bs ee pa fu st so va ed cm a x p dn tk ie en i : Int} {lg bf lf sz : Nat → Int} {tx : Nat → Int32} {RES : PR} (F0 : h[50]? = some (.inr (8, [.long (tr), .ref 51, .int (iZ mn), .ref 52, .ref 53, .int (iZ kt), .ref 54, .ref 55, .ref 56, .ref 57, .ref 58, .ref 59, .ref 60, .int (iZ bs), .int (iZ ee), .int (iZ pa), .int (iZ fu), .int (iZ st), .int (iZ so), .int (iZ va), .int (iZ ed), .ref 61, .ref 62, .ref 63, .ref 64, .int (iZ cm), .int (iZ a), .int (iZ x), .int (iZ p), .int (iZ dn), .int (iZ tk), .int (iZ ie), .ref 65, .ref 66, .ref 67, .int (iZ en), .ref 68, .ref 69, .ref 70]))) (F1 : h[52]? = some (.inl (1, 1600, .inl tx))) (F2 : h[53]? = some (.inl (0, 8, .inl (zA lg)))) (F3 : h[54]? = some (.inl (0, 4096, .inl (zA bf)))) (F4 : h[55]? = some (.inl (0, 4096, .inl (zA lf)))) (F5 : h[56]? = some (.inl (0, 16, .inl (zA sz)))) (olg : oki (0) (200) lg) (obf : okr bf) (olf : oki (0) (300) lf) (osz : oki (0) (256) sz) (rmn : (0 ≤ mn ∧ mn ≤ 200)) (rkt : (0 ≤ kt ∧ kt ≤ 12)) (rbs : (0 ≤ bs ∧ bs ≤ 1400)) (ree : (0 ≤ ee ∧ ee ≤ 200)) (rpa : (0 ≤ pa ∧ pa ≤ 200)) (rfu : (-9 ≤ fu ∧ fu ≤ 200)) (rst : (0 ≤ st ∧ st ≤ 200)) (rso : (0 ≤ so ∧ so ≤ 5)) (rva : (-100 ≤ va ∧ va ≤ 3000)) (red : (0 ≤ ed ∧ ed ≤ 200)) (rcm : (0 ≤ cm ∧ cm ≤ 256)) (ra : (0 ≤ a ∧ a ≤ 255)) (rx : (0 ≤ x ∧ x ≤ 255)) (rp : (0 ≤ p ∧ p ≤ 255)) (rdn : (0 ≤ dn ∧ dn ≤ 5000)) (rtk : (0 ≤ tk ∧ tk ≤ 200)) (rie : (0 ≤ ie ∧ ie ≤ 1)) (ren : (0 ≤ en ∧ en ≤ 12)) (ri : (0 ≤ i ∧ i ≤ 7)) (hRES : prsE (lg i.toNat) (fun j => hb tx (200 * i + j)) = RES) (k : ∀ (h1 : MH) (bs_1 ee_1 pa_1 fu_1 : Int) (bf_1 : Nat → Int) (lf_1 : Nat → Int) (sz_1 : Nat → Int) (r : Int), (0 ≤ bs_1 ∧ bs_1 ≤ 1400) → (0 ≤ ee_1 ∧ ee_1 ≤ 200) → (0 ≤ pa_1 ∧ pa_1 ≤ 200) → (-9 ≤ fu_1 ∧ fu_1 ≤ 200) → okr bf_1 → oki (0) (300) lf_1 → oki (0) (256) sz_1 → (r = -9 ∨ (0 ≤ r ∧ r ≤ 200)) → (∀ q : Nat, q < 3072 → bf_1 q = bf q) → (∀ q : Nat, q < 3072 → lf_1 q = lf q) → (∀ t : Nat, t ≠ 12 → sz_1 t = sz t) → (prR RES r (sz_1 12) (sl12 bf_1) (sl12 lf_1)) → Sm [50, 54, 55, 56] h h1 → h1[50]? = some (.inr (8, [.long (tr), .ref 51, .int (iZ mn), .ref 52, .ref 53, .int (iZ kt), .ref 54, .ref 55, .ref 56, .ref 57, .ref 58, .ref 59, .ref 60, .int (iZ bs_1), .int (iZ ee_1), .int (iZ pa_1), .int (iZ fu_1), .int (iZ st), .int (iZ so), .int (iZ va), .int (iZ ed), .ref 61, .ref 62, .ref 63, .ref 64, .int (iZ cm), .int (iZ a), .int (iZ x), .int (iZ p), .int (iZ dn), .int (iZ tk), .int (iZ ie), .ref 65, .ref 66, .ref 67, .int (iZ en), .ref 68, .ref 69, .ref 70])) → h1[54]? = some (.inl (0, 4096, .inl (zA bf_1))) → h1[55]? = some (.inl (0, 4096, .inl (zA lf_1))) → h1[56]? = some (.inl (0, 16, .inl (zA sz_1))) → Q (some (.int (iZ r))) h1) : Go l mX9_readPairs 0 [some (.ref 50), some (.int (iZ i)), some (.int (iZ 12)), none, none, none] [] h Q := by
  refine g_aload_n 1 dX9_readPairs_0 rfl rfl ?_
  refine g_iload_n 2 dX9_readPairs_1 rfl rfl ?_
  refine g_callV (z := mX9_open) (As := [.int (iZ i)]) 5 dX9_readPairs_2 mwX9_open ⟨by decide, by decide⟩ rfl wlX9_104 wiX9_open wsX9_open F0 rfl rfl rfl (nle rfl) (nle rfl) rfl ?_
  refine f_open  F0 F2 olg (by omega) (by omega) (by omega) (by omega) (by omega) (by omega) (by omega) (by omega) (by omega) (by omega) (by omega) (by omega) (by omega) (by omega) (by omega) (by omega) (by omega) (by omega) (by omega) (fun h1 z3 z4 z5 z6 rz3 rz4 rz5 rz6 p7 p8 p9 p10 s2 f11 => ?_)
  refine rV ?_
  subst p7
  subst p8
  subst p9
  subst p10
  refine g_aload_n 6 dX9_readPairs_5 rfl rfl ?_
  refine g_get 9 dX9_readPairs_6 faX9_26_X9 f11 rfl rfl ?_
  refine g_iload_n 10 dX9_readPairs_9 rfl rfl ?_
  refine g_iconst (v := iZ (0)) 11 dX9_readPairs_10 rfl rfl ?_
  have f12 := (s2.get (by decide) F5)
  refine g_iastFj (12) 12 dX9_readPairs_11 f12 (by decide) (by decide) (by decide) rfl rfl (fun h13 s14 f15 => ?_)
  refine g_aload_n 13 dX9_readPairs_12 rfl rfl ?_
  have f16 := (s14.get (by decide) f11)
  refine g_callV (z := mX9_pass) (As := []) 16 dX9_readPairs_13 mwX9_pass ⟨by decide, by decide⟩ rfl wlX9_108 wiX9_pass wsX9_pass f16 rfl rfl rfl (nle rfl) (nle rfl) rfl ?_
  have f17 := (s14.get (by decide) (s2.get (by decide) F1))
  refine f_pass  f16 f17 (by omega) (by omega) (by omega) (by omega) (by omega) (by omega) (by omega) (by omega) (by omega) (by omega) (by omega) (by omega) (by omega) (by omega) (by omega) (by omega) (by omega) (by omega) (by omega) rfl (fun h18 z20 rz20 p21 s19 f22 => ?_)
  refine rV ?_
  have gz20 := gap_rg (tn := lg i.toNat) (tf := (fun j => hb tx (200 * i + j))) (r := 0) (i := 0) (by omega)
  rw [← p21] at gz20
  refine Go.fgt 1 ?_
  have f23 := (s19.get (by decide) f17)
  have f24 := (s19.get (by decide) (s14.get (by decide) (s2.get (by decide) F2)))
  have f25 := (s19.get (by decide) (s14.get (by decide) (s2.get (by decide) F3)))
  have f26 := (s19.get (by decide) (s14.get (by decide) (s2.get (by decide) F4)))
  have f27 := (s19.get (by decide) f15)
  exact f_rp_l olg rmn rkt rst rso rva red rcm ra rx rp rdn rtk rie ren _ _ (200 * i) (lg i.toNat) (z20) (-9) (bf) (lf) (va_up sz 12 0) rfl (by omega) (by omega) (by omega) (by omega) obf olf (oki_up osz _ (by omega)) f22 f23 f24 f25 f26 f27 (by rw [up_eq]; omega) (by rw [← hRES, p21, up_eq]; exact prJ_0 (by omega)) (fun hQ xQ0 xQ1 xQ2 xQ3 xQ4 xQ5 xQ6 rQ yQ0 yQ1 yQ2 yQ3 yQ4 yQ5 yQ6 yQ7 pQ0 pQ1 pQ2 pQ3 sQ uQ0 uQ1 uQ2 uQ3 => k hQ xQ0 xQ1 xQ2 xQ3 xQ4 xQ5 xQ6 rQ yQ0 yQ1 yQ2 yQ3 yQ4 yQ5 yQ6 yQ7 pQ0 pQ1 (fun q hq => (pQ2 q hq).trans (up_ne hq)) pQ3 (((((Sm.refl [50, 54, 55, 56] _).tr s2 (fun _ q => q) (by simp)).tr s14 (fun _ q => q) (by simp)).tr s19 (fun _ q => q) (by simp)).tr sQ (fun _ q => q) (fun _ q => q)) uQ0 uQ1 uQ2 uQ3)

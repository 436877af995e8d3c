def goR (RES : Int × MS) (r a x p e d t c : Int) (m ou ol : Nat → Int) : Prop := RES = (if r = 0 then 0 else 1, (a, x, p, e, d, t, c, m, ou, ol))
theorem ldm_ok {n : Int} {f : Nat → Int} (h : ∀ j : Nat, (j : Int) < n → 0 ≤ f j ∧ f j ≤ 255) : oki 0 255 (ldm n f) := by
  intro j
  unfold ldm
  split
  · exact h j (by assumption)
  · exact ⟨by decide, by decide⟩
set_option maxRecDepth 100000 in
theorem f_go2_l {l : Launch} {Q : Option Value → MH → Prop} {tr : Int64} {mn kt bs ee pa fu st so va ed en i : Int} {lg : Nat → Int} {tx : Nat → Int32} {RES : Int × MS} (olg : oki (0) (200) lg) (rmn : (0 ≤ mn ∧ mn ≤ 200)) (rkt : (0 ≤ kt ∧ kt ≤ 12)) (rbs : (0 ≤ bs ∧ bs ≤ 1400)) (ree : (0 ≤ ee ∧ ee ≤ 200)) (rpa : (0 ≤ pa ∧ pa ≤ 200)) (rfu : (-9 ≤ fu ∧ fu ≤ 200)) (rst : (0 ≤ st ∧ st ≤ 200)) (rso : (0 ≤ so ∧ so ≤ 5)) (rva : (-100 ≤ va ∧ va ≤ 3000)) (red : (0 ≤ ed ∧ ed ≤ 200)) (ren : (0 ≤ en ∧ en ≤ 12)) (ri : (0 ≤ i ∧ i ≤ 7)) : ∀ (m0 : Nat) (h : MH) (cm a x p dn tk ie : Int) (mm : Nat → Int) (ou : Nat → Int) (ol : Nat → Int), (5000 - dn).toNat = m0 → (0 ≤ cm ∧ cm ≤ 256) → (0 ≤ a ∧ a ≤ 255) → (0 ≤ x ∧ x ≤ 255) → (0 ≤ p ∧ p ≤ 255) → (0 ≤ dn ∧ dn ≤ 5000) → (0 ≤ tk ∧ tk ≤ 200) → (0 ≤ ie ∧ ie ≤ 1) → oki (0) (255) mm → oki (0) (255) ou → oki (0) (300) ol → h[50]? = some (.inr (8, [.long (tr), .ref 51, .int (iZ mn), .ref 52, .ref 53, .int (iZ kt), .ref 54, .ref 55, .ref 56, .ref 57, .ref 58, .ref 59, .ref 60, .int (iZ bs), .int (iZ ee), .int (iZ pa), .int (iZ fu), .int (iZ st), .int (iZ so), .int (iZ va), .int (iZ ed), .ref 61, .ref 62, .ref 63, .ref 64, .int (iZ cm), .int (iZ a), .int (iZ x), .int (iZ p), .int (iZ dn), .int (iZ tk), .int (iZ ie), .ref 65, .ref 66, .ref 67, .int (iZ en), .ref 68, .ref 69, .ref 70])) → h[52]? = some (.inl (1, 1600, .inl tx)) → h[53]? = some (.inl (0, 8, .inl (zA lg))) → h[62]? = some (.inl (0, 256, .inl (zA mm))) → h[63]? = some (.inl (0, 256, .inl (zA ou))) → h[64]? = some (.inl (0, 256, .inl (zA ol))) → mgo (lg i.toNat) (fun j => hb tx (200 * i + j)) (5000 - dn).toNat (a, x, p, ie, dn, tk, cm, mm, ou, ol) = RES → (∀ (h1 : MH) (cm_1 a_1 x_1 p_1 dn_1 tk_1 ie_1 : Int) (mm_1 : Nat → Int) (ou_1 : Nat → Int) (ol_1 : Nat → Int) (r : Int), (0 ≤ cm_1 ∧ cm_1 ≤ 256) → (0 ≤ a_1 ∧ a_1 ≤ 255) → (0 ≤ x_1 ∧ x_1 ≤ 255) → (0 ≤ p_1 ∧ p_1 ≤ 255) → (0 ≤ dn_1 ∧ dn_1 ≤ 5000) → (0 ≤ tk_1 ∧ tk_1 ≤ 200) → (0 ≤ ie_1 ∧ ie_1 ≤ 1) → oki (0) (255) mm_1 → oki (0) (255) ou_1 → oki (0) (300) ol_1 → (0 ≤ r ∧ r ≤ 3) → (goR RES r a_1 x_1 p_1 ie_1 dn_1 tk_1 cm_1 mm_1 ou_1 ol_1) → Sm [50, 62, 63, 64] h h1 → h1[50]? = some (.inr (8, [.long (tr), .ref 51, .int (iZ mn), .ref 52, .ref 53, .int (iZ kt), .ref 54, .ref 55, .ref 56, .ref 57, .ref 58, .ref 59, .ref 60, .int (iZ bs), .int (iZ ee), .int (iZ pa), .int (iZ fu), .int (iZ st), .int (iZ so), .int (iZ va), .int (iZ ed), .ref 61, .ref 62, .ref 63, .ref 64, .int (iZ cm_1), .int (iZ a_1), .int (iZ x_1), .int (iZ p_1), .int (iZ dn_1), .int (iZ tk_1), .int (iZ ie_1), .ref 65, .ref 66, .ref 67, .int (iZ en), .ref 68, .ref 69, .ref 70])) → h1[62]? = some (.inl (0, 256, .inl (zA mm_1))) → h1[63]? = some (.inl (0, 256, .inl (zA ou_1))) → h1[64]? = some (.inl (0, 256, .inl (zA ol_1))) → Q (some (.int (iZ r))) h1) → Go l mX9_go 84 [some (.ref 50), none, some (.int (iZ i)), some (.int (iZ 0))] [] h Q := by
  intro m0
  induction m0 using Nat.strongRecOn with
  | ind m0 ih =>
    intro h cm a x p dn tk ie mm ou ol hmz rcm ra rx rp rdn rtk rie omm oou ool F0 F1 F2 F3 F4 F5 hR k
    refine g_iload_n 85 dX9_go_84 rfl rfl ?_
    refine g_ifZ_ne 111 88 dX9_go_85 rfl rfl (by decide) (fun q => absurd q (by decide)) (fun _ => ?_)
    refine g_aload_n 89 dX9_go_88 rfl rfl ?_
    refine g_get 92 dX9_go_89 faX9_187_X9 F0 rfl rfl ?_
    refine g_sipush (v := iZ (5000)) 95 dX9_go_92 (by decide +kernel) rfl ?_
    refine g_icZ_ne 102 98 dX9_go_95 rfl rfl (by omega) (by decide) (fun c1 => ?_) (fun c1 => ?_)
    · refine g_aload_n 103 dX9_go_102 rfl rfl ?_
      refine g_iload_n 104 dX9_go_103 rfl rfl ?_
      refine g_callV (z := mX9_step) (As := [.int (iZ i)]) 107 dX9_go_104 mwX9_step ⟨by decide, by decide⟩ rfl wlX9_202 wiX9_step wsX9_step F0 rfl rfl rfl (nle rfl) (nle rfl) rfl ?_
      refine f_step  F0 F1 F2 F3 F4 F5 olg omm oou ool (by omega) (by omega) (by omega) (by omega) (by omega) (by omega) (by omega) (by omega) (by omega) (by omega) (by omega) (by omega) (by omega) (by omega) (by omega) (by omega) (by omega) (by omega) (by omega) (by omega) (fun h2 z4 z5 z6 z7 z8 z9 z10 g11 g12 g13 z14 rz4 rz5 rz6 rz7 rz8 rz9 rz10 og11 og12 og13 rz14 p15 s3 f16 f17 f18 f19 => ?_)
      refine rI ?_
      refine g_istore_n (L1 := [some (.ref 50), none, some (.int (iZ i)), some (.int (iZ z14))]) 108 dX9_go_107 (by decide) rfl rfl rfl ?_
      refine g_goto 84 dX9_go_108 rfl ?_
      by_cases c20 : z14 = 0
      · subst c20
        have hst := mgo_step (by omega) (by omega) p15
        have f21 := (s3.get (by decide) F1)
        have f22 := (s3.get (by decide) F2)
        exact ih _ (by omega) _ (z4) (z5) (z6) (z7) (z8) (z9) (z10) (g11) (g12) (g13) rfl (by omega) (by omega) (by omega) (by omega) (by omega) (by omega) (by omega) og11 og12 og13 f16 f21 f22 f17 f18 f19 (hst.1.symm.trans hR) (fun hQ xQ0 xQ1 xQ2 xQ3 xQ4 xQ5 xQ6 xQ7 xQ8 xQ9 rQ yQ0 yQ1 yQ2 yQ3 yQ4 yQ5 yQ6 yQ7 yQ8 yQ9 yQ10 pQ0 sQ uQ0 uQ1 uQ2 uQ3 => k hQ xQ0 xQ1 xQ2 xQ3 xQ4 xQ5 xQ6 xQ7 xQ8 xQ9 rQ yQ0 yQ1 yQ2 yQ3 yQ4 yQ5 yQ6 yQ7 yQ8 yQ9 yQ10 pQ0 (((Sm.refl [50, 62, 63, 64] _).tr s3 (fun _ q => q) (by simp)).tr sQ (fun _ q => q) (fun _ q => q)) uQ0 uQ1 uQ2 uQ3)
      · refine g_iload_n 85 dX9_go_84 rfl rfl ?_
        refine g_ifZ_ne 111 88 dX9_go_85 rfl rfl (by omega) (fun _ => ?_) (fun q => absurd q (by omega))
        refine g_iload_n 112 dX9_go_111 rfl rfl ?_
        refine g_ifZ_ge 119 115 dX9_go_112 rfl rfl (by omega) (fun c23 => ?_) (fun c23 => ?_)
        · refine g_iload_n 120 dX9_go_119 rfl rfl ?_
          refine g_iret rfl dX9_go_120 ?_
          exact k _ (z4) (z5) (z6) (z7) (z8) (z9) (z10) (g11) (g12) (g13) (z14) (by omega) (by omega) (by omega) (by omega) (by omega) (by omega) (by omega) og11 og12 og13 (by omega) (by unfold goR; rw [if_neg (by omega), ← hR]; exact mgo_harm (by omega) (by omega) p15) ((Sm.refl [50, 62, 63, 64] _).tr s3 (fun _ q => q) (by simp)) f16 f17 f18 f19
        · refine g_iconst (v := iZ (0)) 116 dX9_go_115 rfl rfl ?_
          refine g_goto 120 dX9_go_116 rfl ?_
          refine g_iret rfl dX9_go_120 ?_
          exact k _ (z4) (z5) (z6) (z7) (z8) (z9) (z10) (g11) (g12) (g13) (0) (by omega) (by omega) (by omega) (by omega) (by omega) (by omega) (by omega) og11 og12 og13 (by omega) (by (obtain rfl : z14 = -1 := (by omega)); unfold goR; rw [if_pos rfl, ← hR]; exact mgo_stop (by omega) p15) ((Sm.refl [50, 62, 63, 64] _).tr s3 (fun _ q => q) (by simp)) f16 f17 f18 f19
    · refine g_iconst (v := iZ (3)) 99 dX9_go_98 rfl rfl ?_
      refine g_goto 107 dX9_go_99 rfl ?_
      refine g_istore_n (L1 := [some (.ref 50), none, some (.int (iZ i)), some (.int (iZ 3))]) 108 dX9_go_107 (by decide) rfl rfl rfl ?_
      refine g_goto 84 dX9_go_108 rfl ?_
      refine g_iload_n 85 dX9_go_84 rfl rfl ?_
      refine g_ifZ_ne 111 88 dX9_go_85 rfl rfl (by decide) (fun _ => ?_) (fun q => absurd q (by decide))
      refine g_iload_n 112 dX9_go_111 rfl rfl ?_
      refine g_ifZ_ge 119 115 dX9_go_112 rfl rfl (by decide) (fun _ => ?_) (fun q => absurd q (by decide))
      refine g_iload_n 120 dX9_go_119 rfl rfl ?_
      refine g_iret rfl dX9_go_120 ?_
      exact k _ (cm) (a) (x) (p) (dn) (tk) (ie) (mm) (ou) (ol) (3) (by omega) (by omega) (by omega) (by omega) (by omega) (by omega) (by omega) omm oou ool (by omega) (by unfold goR; rw [if_neg (by omega), ← hR, show (5000 - dn).toNat = 0 by omega]; rfl) (Sm.refl [50, 62, 63, 64] _) F0 F3 F4 F5
set_option maxRecDepth 100000 in
theorem f_go_l {l : Launch} {Q : Option Value → MH → Prop} {tr : Int64} {mn kt bs ee pa fu st so va ed en sl i : Int} {lg bf sz : Nat → Int} {tx : Nat → Int32} (olg : oki (0) (200) lg) (obf : okr bf) (osz : oki (0) (256) sz) (rmn : (0 ≤ mn ∧ mn ≤ 200)) (rkt : (0 ≤ kt ∧ kt ≤ 12)) (rbs : (0 ≤ bs ∧ bs ≤ 1400)) (ree : (0 ≤ ee ∧ ee ≤ 200)) (rpa : (0 ≤ pa ∧ pa ≤ 200)) (rfu : (-9 ≤ fu ∧ fu ≤ 200)) (rst : (0 ≤ st ∧ st ≤ 200)) (rso : (0 ≤ so ∧ so ≤ 5)) (rva : (-100 ≤ va ∧ va ≤ 3000)) (red : (0 ≤ ed ∧ ed ≤ 200)) (ren : (0 ≤ en ∧ en ≤ 12)) (rsl : (0 ≤ sl ∧ sl ≤ 15)) (ri : (0 ≤ i ∧ i ≤ 7)) (hS : okS bf sz sl) : ∀ (m0 : Nat) (h : MH) (cm a x p dn tk ie : Int) (mm : Nat → Int) (ou : Nat → Int) (ol : Nat → Int) (j : Int), (256 - j).toNat = m0 → (0 ≤ cm ∧ cm ≤ 256) → (0 ≤ a ∧ a ≤ 255) → (0 ≤ x ∧ x ≤ 255) → (0 ≤ p ∧ p ≤ 255) → (0 ≤ dn ∧ dn ≤ 5000) → (0 ≤ tk ∧ tk ≤ 200) → (0 ≤ ie ∧ ie ≤ 1) → oki (0) (255) mm → oki (0) (255) ou → oki (0) (300) ol → h[50]? = some (.inr (8, [.long (tr), .ref 51, .int (iZ mn), .ref 52, .ref 53, .int (iZ kt), .ref 54, .ref 55, .ref 56, .ref 57, .ref 58, .ref 59, .ref 60, .int (iZ bs), .int (iZ ee), .int (iZ pa), .int (iZ fu), .int (iZ st), .int (iZ so), .int (iZ va), .int (iZ ed), .ref 61, .ref 62, .ref 63, .ref 64, .int (iZ cm), .int (iZ a), .int (iZ x), .int (iZ p), .int (iZ dn), .int (iZ tk), .int (iZ ie), .ref 65, .ref 66, .ref 67, .int (iZ en), .ref 68, .ref 69, .ref 70])) → h[52]? = some (.inl (1, 1600, .inl tx)) → h[53]? = some (.inl (0, 8, .inl (zA lg))) → h[54]? = some (.inl (0, 4096, .inl (zA bf))) → h[56]? = some (.inl (0, 16, .inl (zA sz))) → h[62]? = some (.inl (0, 256, .inl (zA mm))) → h[63]? = some (.inl (0, 256, .inl (zA ou))) → h[64]? = some (.inl (0, 256, .inl (zA ol))) → 0 ≤ j ∧ j ≤ 256 → (∀ q : Nat, (q : Int) < j → mm q = (ldm (sz sl.toNat) (fun j => bf (256 * sl + j).toNat)) q) → (∀ (h1 : MH) (cm_1 a_1 x_1 p_1 dn_1 tk_1 ie_1 : Int) (mm_1 : Nat → Int) (ou_1 : Nat → Int) (ol_1 : Nat → Int) (r : Int), (0 ≤ cm_1 ∧ cm_1 ≤ 256) → (0 ≤ a_1 ∧ a_1 ≤ 255) → (0 ≤ x_1 ∧ x_1 ≤ 255) → (0 ≤ p_1 ∧ p_1 ≤ 255) → (0 ≤ dn_1 ∧ dn_1 ≤ 5000) → (0 ≤ tk_1 ∧ tk_1 ≤ 200) → (0 ≤ ie_1 ∧ ie_1 ≤ 1) → oki (0) (255) mm_1 → oki (0) (255) ou_1 → oki (0) (300) ol_1 → (0 ≤ r ∧ r ≤ 3) → (goR (mrun (lg i.toNat) (fun j => hb tx (200 * i + j)) (sz sl.toNat) (fun j => bf (256 * sl + j).toNat) ou ol) r a_1 x_1 p_1 ie_1 dn_1 tk_1 cm_1 mm_1 ou_1 ol_1) → Sm [50, 62, 63, 64] h h1 → h1[50]? = some (.inr (8, [.long (tr), .ref 51, .int (iZ mn), .ref 52, .ref 53, .int (iZ kt), .ref 54, .ref 55, .ref 56, .ref 57, .ref 58, .ref 59, .ref 60, .int (iZ bs), .int (iZ ee), .int (iZ pa), .int (iZ fu), .int (iZ st), .int (iZ so), .int (iZ va), .int (iZ ed), .ref 61, .ref 62, .ref 63, .ref 64, .int (iZ cm_1), .int (iZ a_1), .int (iZ x_1), .int (iZ p_1), .int (iZ dn_1), .int (iZ tk_1), .int (iZ ie_1), .ref 65, .ref 66, .ref 67, .int (iZ en), .ref 68, .ref 69, .ref 70])) → h1[62]? = some (.inl (0, 256, .inl (zA mm_1))) → h1[63]? = some (.inl (0, 256, .inl (zA ou_1))) → h1[64]? = some (.inl (0, 256, .inl (zA ol_1))) → Q (some (.int (iZ r))) h1) → Go l mX9_go 2 [some (.ref 50), some (.int (iZ sl)), some (.int (iZ i)), some (.int (iZ j))] [] h Q := by
  intro m0
  induction m0 using Nat.strongRecOn with
  | ind m0 ih =>
    intro h cm a x p dn tk ie mm ou ol j hmz rcm ra rx rp rdn rtk rie omm oou ool F0 F1 F2 F3 F4 F5 F6 F7 hj hM k
    refine g_iload_n 3 dX9_go_2 rfl rfl ?_
    refine g_sipush (v := iZ (256)) 6 dX9_go_3 (by decide +kernel) rfl ?_
    refine g_icZ_ge 47 9 dX9_go_6 rfl rfl (by omega) (by decide) (fun c1 => ?_) (fun c1 => ?_)
    · refine g_aload_n 48 dX9_go_47 rfl rfl ?_
      refine g_iconst (v := iZ (0)) 49 dX9_go_48 rfl rfl ?_
      refine g_putC (fs1 := [.long (tr), .ref 51, .int (iZ mn), .ref 52, .ref 53, .int (iZ kt), .ref 54, .ref 55, .ref 56, .ref 57, .ref 58, .ref 59, .ref 60, .int (iZ bs), .int (iZ ee), .int (iZ pa), .int (iZ fu), .int (iZ st), .int (iZ so), .int (iZ va), .int (iZ ed), .ref 61, .ref 62, .ref 63, .ref 64, .int (iZ cm), .int (iZ 0), .int (iZ x), .int (iZ p), .int (iZ dn), .int (iZ tk), .int (iZ ie), .ref 65, .ref 66, .ref 67, .int (iZ en), .ref 68, .ref 69, .ref 70]) 52 dX9_go_49 fpX9_193_X9 F0 (nle rfl) (vI _) rfl rfl (fun h2 s3 f4 => ?_)
      refine g_aload_n 53 dX9_go_52 rfl rfl ?_
      refine g_iconst (v := iZ (0)) 54 dX9_go_53 rfl rfl ?_
      refine g_putC (fs1 := [.long (tr), .ref 51, .int (iZ mn), .ref 52, .ref 53, .int (iZ kt), .ref 54, .ref 55, .ref 56, .ref 57, .ref 58, .ref 59, .ref 60, .int (iZ bs), .int (iZ ee), .int (iZ pa), .int (iZ fu), .int (iZ st), .int (iZ so), .int (iZ va), .int (iZ ed), .ref 61, .ref 62, .ref 63, .ref 64, .int (iZ cm), .int (iZ 0), .int (iZ 0), .int (iZ p), .int (iZ dn), .int (iZ tk), .int (iZ ie), .ref 65, .ref 66, .ref 67, .int (iZ en), .ref 68, .ref 69, .ref 70]) 57 dX9_go_54 fpX9_199_X9 f4 (nle rfl) (vI _) rfl rfl (fun h5 s6 f7 => ?_)
      refine g_aload_n 58 dX9_go_57 rfl rfl ?_
      refine g_iconst (v := iZ (0)) 59 dX9_go_58 rfl rfl ?_
      refine g_putC (fs1 := [.long (tr), .ref 51, .int (iZ mn), .ref 52, .ref 53, .int (iZ kt), .ref 54, .ref 55, .ref 56, .ref 57, .ref 58, .ref 59, .ref 60, .int (iZ bs), .int (iZ ee), .int (iZ pa), .int (iZ fu), .int (iZ st), .int (iZ so), .int (iZ va), .int (iZ ed), .ref 61, .ref 62, .ref 63, .ref 64, .int (iZ cm), .int (iZ 0), .int (iZ 0), .int (iZ 0), .int (iZ dn), .int (iZ tk), .int (iZ ie), .ref 65, .ref 66, .ref 67, .int (iZ en), .ref 68, .ref 69, .ref 70]) 62 dX9_go_59 fpX9_181_X9 f7 (nle rfl) (vI _) rfl rfl (fun h8 s9 f10 => ?_)
      refine g_aload_n 63 dX9_go_62 rfl rfl ?_
      refine g_iconst (v := iZ (0)) 64 dX9_go_63 rfl rfl ?_
      refine g_putC (fs1 := [.long (tr), .ref 51, .int (iZ mn), .ref 52, .ref 53, .int (iZ kt), .ref 54, .ref 55, .ref 56, .ref 57, .ref 58, .ref 59, .ref 60, .int (iZ bs), .int (iZ ee), .int (iZ pa), .int (iZ fu), .int (iZ st), .int (iZ so), .int (iZ va), .int (iZ ed), .ref 61, .ref 62, .ref 63, .ref 64, .int (iZ cm), .int (iZ 0), .int (iZ 0), .int (iZ 0), .int (iZ 0), .int (iZ tk), .int (iZ ie), .ref 65, .ref 66, .ref 67, .int (iZ en), .ref 68, .ref 69, .ref 70]) 67 dX9_go_64 fpX9_187_X9 f10 (nle rfl) (vI _) rfl rfl (fun h11 s12 f13 => ?_)
      refine g_aload_n 68 dX9_go_67 rfl rfl ?_
      refine g_iconst (v := iZ (0)) 69 dX9_go_68 rfl rfl ?_
      refine g_putC (fs1 := [.long (tr), .ref 51, .int (iZ mn), .ref 52, .ref 53, .int (iZ kt), .ref 54, .ref 55, .ref 56, .ref 57, .ref 58, .ref 59, .ref 60, .int (iZ bs), .int (iZ ee), .int (iZ pa), .int (iZ fu), .int (iZ st), .int (iZ so), .int (iZ va), .int (iZ ed), .ref 61, .ref 62, .ref 63, .ref 64, .int (iZ cm), .int (iZ 0), .int (iZ 0), .int (iZ 0), .int (iZ 0), .int (iZ 0), .int (iZ ie), .ref 65, .ref 66, .ref 67, .int (iZ en), .ref 68, .ref 69, .ref 70]) 72 dX9_go_69 fpX9_190_X9 f13 (nle rfl) (vI _) rfl rfl (fun h14 s15 f16 => ?_)
      refine g_aload_n 73 dX9_go_72 rfl rfl ?_
      refine g_iconst (v := iZ (0)) 74 dX9_go_73 rfl rfl ?_
      refine g_putC (fs1 := [.long (tr), .ref 51, .int (iZ mn), .ref 52, .ref 53, .int (iZ kt), .ref 54, .ref 55, .ref 56, .ref 57, .ref 58, .ref 59, .ref 60, .int (iZ bs), .int (iZ ee), .int (iZ pa), .int (iZ fu), .int (iZ st), .int (iZ so), .int (iZ va), .int (iZ ed), .ref 61, .ref 62, .ref 63, .ref 64, .int (iZ cm), .int (iZ 0), .int (iZ 0), .int (iZ 0), .int (iZ 0), .int (iZ 0), .int (iZ 0), .ref 65, .ref 66, .ref 67, .int (iZ en), .ref 68, .ref 69, .ref 70]) 77 dX9_go_74 fpX9_196_X9 f16 (nle rfl) (vI _) rfl rfl (fun h17 s18 f19 => ?_)
      refine g_aload_n 78 dX9_go_77 rfl rfl ?_
      refine g_iconst (v := iZ (0)) 79 dX9_go_78 rfl rfl ?_
      refine g_putC (fs1 := [.long (tr), .ref 51, .int (iZ mn), .ref 52, .ref 53, .int (iZ kt), .ref 54, .ref 55, .ref 56, .ref 57, .ref 58, .ref 59, .ref 60, .int (iZ bs), .int (iZ ee), .int (iZ pa), .int (iZ fu), .int (iZ st), .int (iZ so), .int (iZ va), .int (iZ ed), .ref 61, .ref 62, .ref 63, .ref 64, .int (iZ 0), .int (iZ 0), .int (iZ 0), .int (iZ 0), .int (iZ 0), .int (iZ 0), .int (iZ 0), .ref 65, .ref 66, .ref 67, .int (iZ en), .ref 68, .ref 69, .ref 70]) 82 dX9_go_79 fpX9_184_X9 f19 (nle rfl) (vI _) rfl rfl (fun h20 s21 f22 => ?_)
      refine g_iconst (v := iZ (0)) 83 dX9_go_82 rfl rfl ?_
      refine g_istore_n (L1 := [some (.ref 50), some (.int (iZ sl)), some (.int (iZ i)), some (.int (iZ 0))]) 84 dX9_go_83 (by decide) rfl rfl rfl ?_
      refine Go.fgt 1 ?_
      have f26 := (s21.get (by decide) (s18.get (by decide) (s15.get (by decide) (s12.get (by decide) (s9.get (by decide) (s6.get (by decide) (s3.get (by decide) F5)))))))
      refine Go.ext (f' := zA (ldm (sz sl.toNat) (fun j => bf (256 * sl + j).toNat))) f26 (fun q hq => congrArg iZ (hM q (by omega))) (fun h23 s24 f25 => ?_)
      have f27 := (s24.get (by decide) f22)
      have f28 := (s24.get (by decide) (s21.get (by decide) (s18.get (by decide) (s15.get (by decide) (s12.get (by decide) (s9.get (by decide) (s6.get (by decide) (s3.get (by decide) F1))))))))
      have f29 := (s24.get (by decide) (s21.get (by decide) (s18.get (by decide) (s15.get (by decide) (s12.get (by decide) (s9.get (by decide) (s6.get (by decide) (s3.get (by decide) F2))))))))
      have f30 := (s24.get (by decide) (s21.get (by decide) (s18.get (by decide) (s15.get (by decide) (s12.get (by decide) (s9.get (by decide) (s6.get (by decide) (s3.get (by decide) F6))))))))
      have f31 := (s24.get (by decide) (s21.get (by decide) (s18.get (by decide) (s15.get (by decide) (s12.get (by decide) (s9.get (by decide) (s6.get (by decide) (s3.get (by decide) F7))))))))
      exact f_go2_l olg (by omega) (by omega) (by omega) (by omega) (by omega) (by omega) (by omega) (by omega) (by omega) (by omega) (by omega) (by omega) _ _ (0) (0) (0) (0) (0) (0) (0) (ldm (sz sl.toNat) (fun j => bf (256 * sl + j).toNat)) ou ol rfl (by omega) (by omega) (by omega) (by omega) (by omega) (by omega) (by omega) (ldm_ok (fun q hq => hS (q : Int) (by omega) hq)) oou ool f27 f28 f29 f25 f30 f31 rfl (fun hQ xQ0 xQ1 xQ2 xQ3 xQ4 xQ5 xQ6 xQ7 xQ8 xQ9 rQ yQ0 yQ1 yQ2 yQ3 yQ4 yQ5 yQ6 yQ7 yQ8 yQ9 yQ10 pQ0 sQ uQ0 uQ1 uQ2 uQ3 => k hQ xQ0 xQ1 xQ2 xQ3 xQ4 xQ5 xQ6 xQ7 xQ8 xQ9 rQ yQ0 yQ1 yQ2 yQ3 yQ4 yQ5 yQ6 yQ7 yQ8 yQ9 yQ10 pQ0 ((((((((((Sm.refl [50, 62, 63, 64] _).tr s3 (fun _ q => q) (by simp)).tr s6 (fun _ q => q) (by simp)).tr s9 (fun _ q => q) (by simp)).tr s12 (fun _ q => q) (by simp)).tr s15 (fun _ q => q) (by simp)).tr s18 (fun _ q => q) (by simp)).tr s21 (fun _ q => q) (by simp)).tr s24 (fun _ q => q) (by simp)).tr sQ (fun _ q => q) (fun _ q => q)) uQ0 uQ1 uQ2 uQ3)
    · refine g_aload_n 10 dX9_go_9 rfl rfl ?_
      refine g_get 13 dX9_go_10 faX9_44_X9 F0 rfl rfl ?_
      refine g_iload_n 14 dX9_go_13 rfl rfl ?_
      refine g_iload_n 15 dX9_go_14 rfl rfl ?_
      refine g_aload_n 16 dX9_go_15 rfl rfl ?_
      refine g_get 19 dX9_go_16 faX9_26_X9 F0 rfl rfl ?_
      refine g_iload_n 20 dX9_go_19 rfl rfl ?_
      have b32 := osz ((sl).toNat)
      refine g_ialdZ (v := iZ (sz sl.toNat)) 21 dX9_go_20 F4 (by omega) (by omega) (by decide) rfl rfl ?_
      refine g_icZ_ge 39 24 dX9_go_21 rfl rfl (by omega) (by omega) (fun c33 => ?_) (fun c33 => ?_)
      · refine g_iconst (v := iZ (0)) 40 dX9_go_39 rfl rfl ?_
        refine g_iastFj (j.toNat) 41 dX9_go_40 F5 (by omega) (by omega) (by decide) rfl rfl (fun h34 s35 f36 => ?_)
        refine g_iincZ [some (.ref 50), some (.int (iZ sl)), some (.int (iZ i)), some (.int (iZ (j + 1)))] 44 dX9_go_41 rfl (by omega) (by decide) rfl rfl rfl ?_
        refine g_goto 2 dX9_go_44 rfl ?_
        have f37 := (s35.get (by decide) F0)
        have f38 := (s35.get (by decide) F1)
        have f39 := (s35.get (by decide) F2)
        have f40 := (s35.get (by decide) F3)
        have f41 := (s35.get (by decide) F4)
        have f42 := (s35.get (by decide) F6)
        have f43 := (s35.get (by decide) F7)
        exact ih _ (by omega) _ (cm) (a) (x) (p) (dn) (tk) (ie) (va_up mm j.toNat 0) (ou) (ol) (j + 1) rfl (by omega) (by omega) (by omega) (by omega) (by omega) (by omega) (by omega) (oki_up omm _ (by omega)) oou ool f37 f38 f39 f40 f41 f36 f42 f43 (by omega) (upA (by omega) hM (by unfold ldm; rw [if_neg (by omega)])) (fun hQ xQ0 xQ1 xQ2 xQ3 xQ4 xQ5 xQ6 xQ7 xQ8 xQ9 rQ yQ0 yQ1 yQ2 yQ3 yQ4 yQ5 yQ6 yQ7 yQ8 yQ9 yQ10 pQ0 sQ uQ0 uQ1 uQ2 uQ3 => k hQ xQ0 xQ1 xQ2 xQ3 xQ4 xQ5 xQ6 xQ7 xQ8 xQ9 rQ yQ0 yQ1 yQ2 yQ3 yQ4 yQ5 yQ6 yQ7 yQ8 yQ9 yQ10 pQ0 (((Sm.refl [50, 62, 63, 64] _).tr s35 (fun _ q => q) (by simp)).tr sQ (fun _ q => q) (fun _ q => q)) uQ0 uQ1 uQ2 uQ3)
      · refine g_aload_n 25 dX9_go_24 rfl rfl ?_
        refine g_get 28 dX9_go_25 faX9_20_X9 F0 rfl rfl ?_
        refine g_sipush (v := iZ (256)) 31 dX9_go_28 (by decide +kernel) rfl ?_
        refine g_iload_n 32 dX9_go_31 rfl rfl ?_
        refine g_imulZ (256 * sl) 33 dX9_go_32 (by omega) rfl ?_
        refine g_iload_n 34 dX9_go_33 rfl rfl ?_
        refine g_iaddZ ((256 * sl) + j) 35 dX9_go_34 (by omega) rfl ?_
        refine g_ialdZ (v := iZ (bf ((256 * sl) + j).toNat)) 36 dX9_go_35 F3 (by omega) (by omega) (by decide) rfl rfl ?_
        refine g_goto 40 dX9_go_36 rfl ?_
        have hv44 := hS j (by omega) (by omega)
        refine g_iastFj (j.toNat) 41 dX9_go_40 F5 (by omega) (by omega) (by decide) rfl rfl (fun h45 s46 f47 => ?_)
        refine g_iincZ [some (.ref 50), some (.int (iZ sl)), some (.int (iZ i)), some (.int (iZ (j + 1)))] 44 dX9_go_41 rfl (by omega) (by decide) rfl rfl rfl ?_
        refine g_goto 2 dX9_go_44 rfl ?_
        have f48 := (s46.get (by decide) F0)
        have f49 := (s46.get (by decide) F1)
        have f50 := (s46.get (by decide) F2)
        have f51 := (s46.get (by decide) F3)
        have f52 := (s46.get (by decide) F4)
        have f53 := (s46.get (by decide) F6)
        have f54 := (s46.get (by decide) F7)
        exact ih _ (by omega) _ (cm) (a) (x) (p) (dn) (tk) (ie) (va_up mm j.toNat (bf ((256 * sl) + j).toNat)) (ou) (ol) (j + 1) rfl (by omega) (by omega) (by omega) (by omega) (by omega) (by omega) (by omega) (oki_up omm _ (by omega)) oou ool f48 f49 f50 f51 f52 f47 f53 f54 (by omega) (upA (by omega) hM (by unfold ldm; rw [if_pos (by omega)]; show _ = bf (256 * sl + (j.toNat : Int)).toNat; rw [Int.toNat_of_nonneg (by omega)])) (fun hQ xQ0 xQ1 xQ2 xQ3 xQ4 xQ5 xQ6 xQ7 xQ8 xQ9 rQ yQ0 yQ1 yQ2 yQ3 yQ4 yQ5 yQ6 yQ7 yQ8 yQ9 yQ10 pQ0 sQ uQ0 uQ1 uQ2 uQ3 => k hQ xQ0 xQ1 xQ2 xQ3 xQ4 xQ5 xQ6 xQ7 xQ8 xQ9 rQ yQ0 yQ1 yQ2 yQ3 yQ4 yQ5 yQ6 yQ7 yQ8 yQ9 yQ10 pQ0 (((Sm.refl [50, 62, 63, 64] _).tr s46 (fun _ q => q) (by simp)).tr sQ (fun _ q => q) (fun _ q => q)) uQ0 uQ1 uQ2 uQ3)
set_option maxRecDepth 100000 in
theorem f_go {l : Launch} {h : MH} {Q : Option Value → MH → Prop} {tr : Int64} {mn kt bs ee pa fu st so va ed cm a x p dn tk ie en sl i : Int} {lg bf sz mm ou ol : Nat → Int} {tx : Nat → Int32} (F0 : h[50]? = some (.inr (8, [.long (tr), .ref 51, .int (iZ mn), .ref 52, .ref 53, .int (iZ kt), .ref 54, .ref 55, .ref 56, .ref 57, .ref 58, .ref 59, .ref 60, .int (iZ bs), .int (iZ ee), .int (iZ pa), .int (iZ fu), .int (iZ st), .int (iZ so), .int (iZ va), .int (iZ ed), .ref 61, .ref 62, .ref 63, .ref 64, .int (iZ cm), .int (iZ a), .int (iZ x), .int (iZ p), .int (iZ dn), .int (iZ tk), .int (iZ ie), .ref 65, .ref 66, .ref 67, .int (iZ en), .ref 68, .ref 69, .ref 70]))) (F1 : h[52]? = some (.inl (1, 1600, .inl tx))) (F2 : h[53]? = some (.inl (0, 8, .inl (zA lg)))) (F3 : h[54]? = some (.inl (0, 4096, .inl (zA bf)))) (F4 : h[56]? = some (.inl (0, 16, .inl (zA sz)))) (F5 : h[62]? = some (.inl (0, 256, .inl (zA mm)))) (F6 : h[63]? = some (.inl (0, 256, .inl (zA ou)))) (F7 : h[64]? = some (.inl (0, 256, .inl (zA ol)))) (olg : oki (0) (200) lg) (obf : okr bf) (osz : oki (0) (256) sz) (omm : oki (0) (255) mm) (oou : oki (0) (255) ou) (ool : oki (0) (300) ol) (rmn : (0 ≤ mn ∧ mn ≤ 200)) (rkt : (0 ≤ kt ∧ kt ≤ 12)) (rbs : (0 ≤ bs ∧ bs ≤ 1400)) (ree : (0 ≤ ee ∧ ee ≤ 200)) (rpa : (0 ≤ pa ∧ pa ≤ 200)) (rfu : (-9 ≤ fu ∧ fu ≤ 200)) (rst : (0 ≤ st ∧ st ≤ 200)) (rso : (0 ≤ so ∧ so ≤ 5)) (rva : (-100 ≤ va ∧ va ≤ 3000)) (red : (0 ≤ ed ∧ ed ≤ 200)) (rcm : (0 ≤ cm ∧ cm ≤ 256)) (ra : (0 ≤ a ∧ a ≤ 255)) (rx : (0 ≤ x ∧ x ≤ 255)) (rp : (0 ≤ p ∧ p ≤ 255)) (rdn : (0 ≤ dn ∧ dn ≤ 5000)) (rtk : (0 ≤ tk ∧ tk ≤ 200)) (rie : (0 ≤ ie ∧ ie ≤ 1)) (ren : (0 ≤ en ∧ en ≤ 12)) (rsl : (0 ≤ sl ∧ sl ≤ 15)) (ri : (0 ≤ i ∧ i ≤ 7)) (hS : okS bf sz sl) (k : ∀ (h1 : MH) (cm_1 a_1 x_1 p_1 dn_1 tk_1 ie_1 : Int) (mm_1 : Nat → Int) (ou_1 : Nat → Int) (ol_1 : Nat → Int) (r : Int), (0 ≤ cm_1 ∧ cm_1 ≤ 256) → (0 ≤ a_1 ∧ a_1 ≤ 255) → (0 ≤ x_1 ∧ x_1 ≤ 255) → (0 ≤ p_1 ∧ p_1 ≤ 255) → (0 ≤ dn_1 ∧ dn_1 ≤ 5000) → (0 ≤ tk_1 ∧ tk_1 ≤ 200) → (0 ≤ ie_1 ∧ ie_1 ≤ 1) → oki (0) (255) mm_1 → oki (0) (255) ou_1 → oki (0) (300) ol_1 → (0 ≤ r ∧ r ≤ 3) → (goR (mrun (lg i.toNat) (fun j => hb tx (200 * i + j)) (sz sl.toNat) (fun j => bf (256 * sl + j).toNat) ou ol) r a_1 x_1 p_1 ie_1 dn_1 tk_1 cm_1 mm_1 ou_1 ol_1) → Sm [50, 62, 63, 64] h h1 → h1[50]? = some (.inr (8, [.long (tr), .ref 51, .int (iZ mn), .ref 52, .ref 53, .int (iZ kt), .ref 54, .ref 55, .ref 56, .ref 57, .ref 58, .ref 59, .ref 60, .int (iZ bs), .int (iZ ee), .int (iZ pa), .int (iZ fu), .int (iZ st), .int (iZ so), .int (iZ va), .int (iZ ed), .ref 61, .ref 62, .ref 63, .ref 64, .int (iZ cm_1), .int (iZ a_1), .int (iZ x_1), .int (iZ p_1), .int (iZ dn_1), .int (iZ tk_1), .int (iZ ie_1), .ref 65, .ref 66, .ref 67, .int (iZ en), .ref 68, .ref 69, .ref 70])) → h1[62]? = some (.inl (0, 256, .inl (zA mm_1))) → h1[63]? = some (.inl (0, 256, .inl (zA ou_1))) → h1[64]? = some (.inl (0, 256, .inl (zA ol_1))) → Q (some (.int (iZ r))) h1) : Go l mX9_go 0 [some (.ref 50), some (.int (iZ sl)), some (.int (iZ i)), none] [] h Q := by
  refine g_iconst (v := iZ (0)) 1 dX9_go_0 rfl rfl ?_
  refine g_istore_n (L1 := [some (.ref 50), some (.int (iZ sl)), some (.int (iZ i)), some (.int (iZ 0))]) 2 dX9_go_1 (by decide) rfl rfl rfl ?_
  exact f_go_l olg obf osz rmn rkt rbs ree rpa rfu rst rso rva red ren rsl ri hS _ _ (cm) (a) (x) (p) (dn) (tk) (ie) (mm) (ou) (ol) (0) rfl (by omega) (by omega) (by omega) (by omega) (by omega) (by omega) (by omega) omm oou ool F0 F1 F2 F3 F4 F5 F6 F7 (by omega) (fun q hq => by omega) k

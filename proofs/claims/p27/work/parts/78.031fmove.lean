set_option maxRecDepth 100000 in
theorem f_cpB {l : Launch} {Q : Option Value → MH → Prop} {sa sb : Int} (ha : 0 ≤ sa ∧ sa ≤ 15) (hb2 : 0 ≤ sb ∧ sb ≤ 15) (hab : sa ≠ sb) : ∀ (m0 : Nat) (h : MH) (g : Nat → Int) (u : Int), (256 - u).toNat = m0 → 0 ≤ u ∧ u ≤ 256 → okr g → (∀ j : Int, 0 ≤ j → j < u → g (256 * sb + j).toNat = g (256 * sa + j).toNat) → h[54]? = some (.inl (0, 4096, .inl (zA g))) → (∀ (h1 : MH) (g1 : Nat → Int), okr g1 → (∀ q : Nat, ((q : Int) < 256 * sb ∨ 256 * sb + 256 ≤ q) → g1 q = g q) → (∀ j : Int, 0 ≤ j → j < 256 → g1 (256 * sb + j).toNat = g (256 * sa + j).toNat) → Sm [54] h h1 → h1[54]? = some (.inl (0, 4096, .inl (zA g1))) → Q none h1) → Go l mX9_copy 2 [some (.ref 54), some (.int (iZ sa)), some (.int (iZ sb)), some (.int (iZ u))] [] h Q := by
  intro m0
  induction m0 using Nat.strongRecOn with
  | ind m0 ih =>
    intro h g u hmz hu og hE F0 k
    refine g_iload_n 3 dX9_copy_2 rfl rfl ?_
    refine g_sipush (v := iZ (256)) 6 dX9_copy_3 (by decide +kernel) rfl ?_
    refine g_icZ_ge 33 9 dX9_copy_6 rfl rfl (by omega) (by decide) (fun c1 => ?_) (fun c1 => ?_)
    · refine g_vret rfl dX9_copy_33 ?_
      have : u = 256 := by omega
      subst this
      exact k h g og (fun _ _ => rfl) hE (Sm.refl _ _) F0
    · refine g_aload_n 10 dX9_copy_9 rfl rfl ?_
      refine g_sipush (v := iZ (256)) 13 dX9_copy_10 (by decide +kernel) rfl ?_
      refine g_iload_n 14 dX9_copy_13 rfl rfl ?_
      refine g_imulZ (256 * sb) 15 dX9_copy_14 (by omega) rfl ?_
      refine g_iload_n 16 dX9_copy_15 rfl rfl ?_
      refine g_iaddZ ((256 * sb) + u) 17 dX9_copy_16 (by omega) rfl ?_
      refine g_aload_n 18 dX9_copy_17 rfl rfl ?_
      refine g_sipush (v := iZ (256)) 21 dX9_copy_18 (by decide +kernel) rfl ?_
      refine g_iload_n 22 dX9_copy_21 rfl rfl ?_
      refine g_imulZ (256 * sa) 23 dX9_copy_22 (by omega) rfl ?_
      refine g_iload_n 24 dX9_copy_23 rfl rfl ?_
      refine g_iaddZ ((256 * sa) + u) 25 dX9_copy_24 (by omega) rfl ?_
      refine g_ialdZ (v := iZ (g ((256 * sa) + u).toNat)) 26 dX9_copy_25 F0 (by omega) (by omega) (by decide) rfl rfl ?_
      refine g_iastFj (((256 * sb) + u).toNat) 27 dX9_copy_26 F0 (by omega) (by omega) (by decide) rfl rfl (fun h2 s3 f4 => ?_)
      refine g_iincZ [some (.ref 54), some (.int (iZ sa)), some (.int (iZ sb)), some (.int (iZ (u + 1)))] 30 dX9_copy_27 rfl (by omega) (by decide) rfl rfl rfl ?_
      refine g_goto 2 dX9_copy_30 rfl ?_
      refine ih _ (by omega) _ _ (u + 1) rfl (by omega) (okr_up og _ (og _)) ?_ f4 (fun h1 g1 o1 e1 e2 s1 u1 => k h1 g1 o1 (fun q hq => (e1 q hq).trans (up_ne (by omega))) (fun j a9 b9 => (e2 j a9 b9).trans (up_ne (by omega))) (s3.tr s1 (fun _ q => q) (fun _ q => q)) u1)
      intro j h0 h1
      by_cases hj : j = u
      · subst hj; rw [up_eq, up_ne (by omega)]
      · rw [up_ne (by omega), up_ne (by omega)]; exact hE j h0 (by omega)
set_option maxRecDepth 100000 in
theorem f_cpL {l : Launch} {Q : Option Value → MH → Prop} {sa sb : Int} (ha : 0 ≤ sa ∧ sa ≤ 15) (hb2 : 0 ≤ sb ∧ sb ≤ 15) (hab : sa ≠ sb) : ∀ (m0 : Nat) (h : MH) (g : Nat → Int) (u : Int), (256 - u).toNat = m0 → 0 ≤ u ∧ u ≤ 256 → oki 0 300 g → (∀ j : Int, 0 ≤ j → j < u → g (256 * sb + j).toNat = g (256 * sa + j).toNat) → h[55]? = some (.inl (0, 4096, .inl (zA g))) → (∀ (h1 : MH) (g1 : Nat → Int), oki 0 300 g1 → (∀ q : Nat, ((q : Int) < 256 * sb ∨ 256 * sb + 256 ≤ q) → g1 q = g q) → (∀ j : Int, 0 ≤ j → j < 256 → g1 (256 * sb + j).toNat = g (256 * sa + j).toNat) → Sm [55] h h1 → h1[55]? = some (.inl (0, 4096, .inl (zA g1))) → Q none h1) → Go l mX9_copy 2 [some (.ref 55), some (.int (iZ sa)), some (.int (iZ sb)), some (.int (iZ u))] [] h Q := by
  intro m0
  induction m0 using Nat.strongRecOn with
  | ind m0 ih =>
    intro h g u hmz hu og hE F0 k
    refine g_iload_n 3 dX9_copy_2 rfl rfl ?_
    refine g_sipush (v := iZ (256)) 6 dX9_copy_3 (by decide +kernel) rfl ?_
    refine g_icZ_ge 33 9 dX9_copy_6 rfl rfl (by omega) (by decide) (fun c1 => ?_) (fun c1 => ?_)
    · refine g_vret rfl dX9_copy_33 ?_
      have : u = 256 := by omega
      subst this
      exact k h g og (fun _ _ => rfl) hE (Sm.refl _ _) F0
    · refine g_aload_n 10 dX9_copy_9 rfl rfl ?_
      refine g_sipush (v := iZ (256)) 13 dX9_copy_10 (by decide +kernel) rfl ?_
      refine g_iload_n 14 dX9_copy_13 rfl rfl ?_
      refine g_imulZ (256 * sb) 15 dX9_copy_14 (by omega) rfl ?_
      refine g_iload_n 16 dX9_copy_15 rfl rfl ?_
      refine g_iaddZ ((256 * sb) + u) 17 dX9_copy_16 (by omega) rfl ?_
      refine g_aload_n 18 dX9_copy_17 rfl rfl ?_
      refine g_sipush (v := iZ (256)) 21 dX9_copy_18 (by decide +kernel) rfl ?_
      refine g_iload_n 22 dX9_copy_21 rfl rfl ?_
      refine g_imulZ (256 * sa) 23 dX9_copy_22 (by omega) rfl ?_
      refine g_iload_n 24 dX9_copy_23 rfl rfl ?_
      refine g_iaddZ ((256 * sa) + u) 25 dX9_copy_24 (by omega) rfl ?_
      have b2 := og (((256 * sa) + u).toNat)
      refine g_ialdZ (v := iZ (g ((256 * sa) + u).toNat)) 26 dX9_copy_25 F0 (by omega) (by omega) (by decide) rfl rfl ?_
      refine g_iastFj (((256 * sb) + u).toNat) 27 dX9_copy_26 F0 (by omega) (by omega) (by decide) rfl rfl (fun h3 s4 f5 => ?_)
      refine g_iincZ [some (.ref 55), some (.int (iZ sa)), some (.int (iZ sb)), some (.int (iZ (u + 1)))] 30 dX9_copy_27 rfl (by omega) (by decide) rfl rfl rfl ?_
      refine g_goto 2 dX9_copy_30 rfl ?_
      refine ih _ (by omega) _ _ (u + 1) rfl (by omega) (oki_up og _ (by omega)) ?_ f5 (fun h1 g1 o1 e1 e2 s1 u1 => k h1 g1 o1 (fun q hq => (e1 q hq).trans (up_ne (by omega))) (fun j a9 b9 => (e2 j a9 b9).trans (up_ne (by omega))) (s4.tr s1 (fun _ q => q) (fun _ q => q)) u1)
      intro j h0 h1
      by_cases hj : j = u
      · subst hj; rw [up_eq, up_ne (by omega)]
      · rw [up_ne (by omega), up_ne (by omega)]; exact hE j h0 (by omega)
set_option maxRecDepth 100000 in
theorem f_move {l : Launch} {h : MH} {Q : Option Value → MH → Prop} {tr : Int64} {mn kt bs ee pa fu st so va ed cm a x p dn tk ie en sa sb : Int} {bf lf sz : Nat → Int} (F0 : h[50]? = some (.inr (8, [.long (tr), .ref 51, .int (iZ mn), .ref 52, .ref 53, .int (iZ kt), .ref 54, .ref 55, .ref 56, .ref 57, .ref 58, .ref 59, .ref 60, .int (iZ bs), .int (iZ ee), .int (iZ pa), .int (iZ fu), .int (iZ st), .int (iZ so), .int (iZ va), .int (iZ ed), .ref 61, .ref 62, .ref 63, .ref 64, .int (iZ cm), .int (iZ a), .int (iZ x), .int (iZ p), .int (iZ dn), .int (iZ tk), .int (iZ ie), .ref 65, .ref 66, .ref 67, .int (iZ en), .ref 68, .ref 69, .ref 70]))) (F1 : h[54]? = some (.inl (0, 4096, .inl (zA bf)))) (F2 : h[55]? = some (.inl (0, 4096, .inl (zA lf)))) (F3 : h[56]? = some (.inl (0, 16, .inl (zA sz)))) (obf : okr bf) (olf : oki (0) (300) lf) (osz : oki (0) (256) sz) (rmn : (0 ≤ mn ∧ mn ≤ 200)) (rkt : (0 ≤ kt ∧ kt ≤ 12)) (rbs : (0 ≤ bs ∧ bs ≤ 1400)) (ree : (0 ≤ ee ∧ ee ≤ 200)) (rpa : (0 ≤ pa ∧ pa ≤ 200)) (rfu : (-9 ≤ fu ∧ fu ≤ 200)) (rst : (0 ≤ st ∧ st ≤ 200)) (rso : (0 ≤ so ∧ so ≤ 5)) (rva : (-100 ≤ va ∧ va ≤ 3000)) (red : (0 ≤ ed ∧ ed ≤ 200)) (rcm : (0 ≤ cm ∧ cm ≤ 256)) (ra : (0 ≤ a ∧ a ≤ 255)) (rx : (0 ≤ x ∧ x ≤ 255)) (rp : (0 ≤ p ∧ p ≤ 255)) (rdn : (0 ≤ dn ∧ dn ≤ 5000)) (rtk : (0 ≤ tk ∧ tk ≤ 200)) (rie : (0 ≤ ie ∧ ie ≤ 1)) (ren : (0 ≤ en ∧ en ≤ 12)) (rsa : (0 ≤ sa ∧ sa ≤ 15)) (rsb : (0 ≤ sb ∧ sb ≤ 15)) (hab : sa ≠ sb) (k : ∀ (h1 : MH) (bf_1 : Nat → Int) (lf_1 : Nat → Int) (sz_1 : Nat → Int), okr bf_1 → oki (0) (300) lf_1 → oki (0) (256) sz_1 → (∀ q : Nat, ((q : Int) < 256 * sb ∨ 256 * sb + 256 ≤ q) → bf_1 q = bf q) → (∀ q : Nat, ((q : Int) < 256 * sb ∨ 256 * sb + 256 ≤ q) → lf_1 q = lf q) → (∀ j : Int, 0 ≤ j → j < 256 → bf_1 (256 * sb + j).toNat = bf (256 * sa + j).toNat) → (∀ j : Int, 0 ≤ j → j < 256 → lf_1 (256 * sb + j).toNat = lf (256 * sa + j).toNat) → (sz_1 = va_up sz sb.toNat (sz sa.toNat)) → Sm [54, 55, 56] h h1 → h1[54]? = some (.inl (0, 4096, .inl (zA bf_1))) → h1[55]? = some (.inl (0, 4096, .inl (zA lf_1))) → h1[56]? = some (.inl (0, 16, .inl (zA sz_1))) → Q none h1) : Go l mX9_move 0 [some (.ref 50), some (.int (iZ sa)), some (.int (iZ sb))] [] h Q := by
  refine g_aload_n 1 dX9_move_0 rfl rfl ?_
  refine g_get 4 dX9_move_1 faX9_20_X9 F0 rfl rfl ?_
  refine g_iload_n 5 dX9_move_4 rfl rfl ?_
  refine g_iload_n 6 dX9_move_5 rfl rfl ?_
  refine g_callS (z := mX9_copy) (As := [.ref 54, .int (iZ sa), .int (iZ sb)]) 9 dX9_move_6 mwX9_copy ⟨by decide, by decide⟩ rfl wlX9_157 wtX9_copy rfl (nle rfl) (nle rfl) rfl ?_
  refine Go.to [some (.ref 54), some (.int (iZ sa)), some (.int (iZ sb)), none] [] rfl rfl ?_
  refine g_iconst (v := iZ 0) 1 dX9_copy_0 rfl rfl ?_
  refine g_istore_n (L1 := [some (.ref 54), some (.int (iZ sa)), some (.int (iZ sb)), some (.int (iZ 0))]) 2 dX9_copy_1 (by decide) rfl rfl rfl ?_
  refine f_cpB (by omega) (by omega) (by omega) _ _ _ 0 rfl (by omega) obf (fun j h0 h1 => by omega) F1 (fun h1 g2 og2 p5 p6 s3 f4 => ?_)
  refine rV ?_
  refine g_aload_n 10 dX9_move_9 rfl rfl ?_
  have f7 := (s3.get (by decide) F0)
  refine g_get 13 dX9_move_10 faX9_23_X9 f7 rfl rfl ?_
  refine g_iload_n 14 dX9_move_13 rfl rfl ?_
  refine g_iload_n 15 dX9_move_14 rfl rfl ?_
  refine g_callS (z := mX9_copy) (As := [.ref 55, .int (iZ sa), .int (iZ sb)]) 18 dX9_move_15 mwX9_copy ⟨by decide, by decide⟩ rfl wlX9_157 wtX9_copy rfl (nle rfl) (nle rfl) rfl ?_
  refine Go.to [some (.ref 55), some (.int (iZ sa)), some (.int (iZ sb)), none] [] rfl rfl ?_
  refine g_iconst (v := iZ 0) 1 dX9_copy_0 rfl rfl ?_
  refine g_istore_n (L1 := [some (.ref 55), some (.int (iZ sa)), some (.int (iZ sb)), some (.int (iZ 0))]) 2 dX9_copy_1 (by decide) rfl rfl rfl ?_
  have f14 := (s3.get (by decide) F2)
  refine f_cpL (by omega) (by omega) (by omega) _ _ _ 0 rfl (by omega) olf (fun j h0 h1 => by omega) f14 (fun h8 g9 og9 p12 p13 s10 f11 => ?_)
  refine rV ?_
  refine g_aload_n 19 dX9_move_18 rfl rfl ?_
  have f15 := (s10.get (by decide) f7)
  refine g_get 22 dX9_move_19 faX9_26_X9 f15 rfl rfl ?_
  refine g_iload_n 23 dX9_move_22 rfl rfl ?_
  refine g_aload_n 24 dX9_move_23 rfl rfl ?_
  refine g_get 27 dX9_move_24 faX9_26_X9 f15 rfl rfl ?_
  refine g_iload_n 28 dX9_move_27 rfl rfl ?_
  have f16 := (s10.get (by decide) (s3.get (by decide) F3))
  have b17 := osz ((sa).toNat)
  refine g_ialdZ (v := iZ (sz sa.toNat)) 29 dX9_move_28 f16 (by omega) (by omega) (by decide) rfl rfl ?_
  refine g_iastFj (sb.toNat) 30 dX9_move_29 f16 (by omega) (by omega) (by decide) rfl rfl (fun h18 s19 f20 => ?_)
  refine g_vret rfl dX9_move_30 ?_
  have f21 := (s19.get (by decide) (s10.get (by decide) f4))
  have f22 := (s19.get (by decide) f11)
  exact k _ (g2) (g9) (va_up sz sb.toNat (sz sa.toNat)) og2 og9 (oki_up osz _ (by omega)) p5 p12 p6 p13 rfl ((((Sm.refl [54, 55, 56] _).tr s3 (fun _ q => q) (by simp)).tr s10 (fun _ q => q) (by simp)).tr s19 (fun _ q => q) (by simp)) f21 f22 f20
set_option maxRecDepth 100000 in
theorem f_unl_l {l : Launch} {Q : Option Value → MH → Prop} {tr : Int64} {mn kt bs ee pa fu st so va ed cm a x p dn tk ie en sa sb : Int} {bf sz : Nat → Int} (obf : okr bf) (osz : oki (0) (256) sz) (rmn : (0 ≤ mn ∧ mn ≤ 200)) (rkt : (0 ≤ kt ∧ kt ≤ 12)) (rbs : (0 ≤ bs ∧ bs ≤ 1400)) (ree : (0 ≤ ee ∧ ee ≤ 200)) (rpa : (0 ≤ pa ∧ pa ≤ 200)) (rfu : (-9 ≤ fu ∧ fu ≤ 200)) (rst : (0 ≤ st ∧ st ≤ 200)) (rso : (0 ≤ so ∧ so ≤ 5)) (rva : (-100 ≤ va ∧ va ≤ 3000)) (red : (0 ≤ ed ∧ ed ≤ 200)) (rcm : (0 ≤ cm ∧ cm ≤ 256)) (ra : (0 ≤ a ∧ a ≤ 255)) (rx : (0 ≤ x ∧ x ≤ 255)) (rp : (0 ≤ p ∧ p ≤ 255)) (rdn : (0 ≤ dn ∧ dn ≤ 5000)) (rtk : (0 ≤ tk ∧ tk ≤ 200)) (rie : (0 ≤ ie ∧ ie ≤ 1)) (ren : (0 ≤ en ∧ en ≤ 12)) (rsa : (0 ≤ sa ∧ sa ≤ 15)) (rsb : (0 ≤ sb ∧ sb ≤ 15)) : ∀ (m0 : Nat) (h : MH) (w u : Int), (w - u).toNat = m0 → h[50]? = some (.inr (8, [.long (tr), .ref 51, .int (iZ mn), .ref 52, .ref 53, .int (iZ kt), .ref 54, .ref 55, .ref 56, .ref 57, .ref 58, .ref 59, .ref 60, .int (iZ bs), .int (iZ ee), .int (iZ pa), .int (iZ fu), .int (iZ st), .int (iZ so), .int (iZ va), .int (iZ ed), .ref 61, .ref 62, .ref 63, .ref 64, .int (iZ cm), .int (iZ a), .int (iZ x), .int (iZ p), .int (iZ dn), .int (iZ tk), .int (iZ ie), .ref 65, .ref 66, .ref 67, .int (iZ en), .ref 68, .ref 69, .ref 70])) → h[54]? = some (.inl (0, 4096, .inl (zA bf))) → h[56]? = some (.inl (0, 16, .inl (zA sz))) → w = min (sz sa.toNat) (sz sb.toNat) → 0 ≤ w ∧ w ≤ 256 → 0 ≤ u ∧ u ≤ w → fst1 (fun j : Nat => (fun j => bf (256 * sa + j).toNat) j ≠ (fun j => bf (256 * sb + j).toNat) j) u.toNat = -9 → (∀ (r : Int), (r = ulk (sz sa.toNat) (fun j => bf (256 * sa + j).toNat) (sz sb.toNat) (fun j => bf (256 * sb + j).toNat) ∧ 0 ≤ r ∧ r ≤ 257) → Q (some (.int (iZ r))) h) → Go l mX9_unlike 34 [some (.ref 50), some (.int (iZ sa)), some (.int (iZ sb)), some (.int (iZ w)), some (.int (iZ u))] [] h Q := by
  intro m0
  induction m0 using Nat.strongRecOn with
  | ind m0 ih =>
    intro h w u hmz F0 F1 F2 hw hw2 hu hX k
    refine g_iload 36 dX9_unlike_34 rfl rfl ?_
    refine g_iload_n 37 dX9_unlike_36 rfl rfl ?_
    refine g_icZ_ge 80 40 dX9_unlike_37 rfl rfl (by omega) (by omega) (fun c1 => ?_) (fun c1 => ?_)
    · refine g_aload_n 81 dX9_unlike_80 rfl rfl ?_
      refine g_get 84 dX9_unlike_81 faX9_26_X9 F0 rfl rfl ?_
      refine g_iload_n 85 dX9_unlike_84 rfl rfl ?_
      have b2 := osz ((sa).toNat)
      refine g_ialdZ (v := iZ (sz sa.toNat)) 86 dX9_unlike_85 F2 (by omega) (by omega) (by decide) rfl rfl ?_
      refine g_aload_n 87 dX9_unlike_86 rfl rfl ?_
      refine g_get 90 dX9_unlike_87 faX9_26_X9 F0 rfl rfl ?_
      refine g_iload_n 91 dX9_unlike_90 rfl rfl ?_
      have b3 := osz ((sb).toNat)
      refine g_ialdZ (v := iZ (sz sb.toNat)) 92 dX9_unlike_91 F2 (by omega) (by omega) (by decide) rfl rfl ?_
      refine g_icZ_ne 99 95 dX9_unlike_92 rfl rfl (by omega) (by omega) (fun c4 => ?_) (fun c4 => ?_)
      · refine g_iconst (v := iZ (1)) 100 dX9_unlike_99 rfl rfl ?_
        refine g_iload_n 101 dX9_unlike_100 rfl rfl ?_
        refine g_iaddZ (1 + w) 102 dX9_unlike_101 (by omega) rfl ?_
        refine g_iret rfl dX9_unlike_102 ?_
        have e9 : u = min (sz sa.toNat) (sz sb.toNat) := by omega
        rw [e9] at hX
        exact k (1 + w) ⟨by rw [ulk_no hX, if_neg (by omega)]; omega, by omega, by omega⟩
      · refine g_iconst (v := iZ (0)) 96 dX9_unlike_95 rfl rfl ?_
        refine g_goto 102 dX9_unlike_96 rfl ?_
        refine g_iret rfl dX9_unlike_102 ?_
        have e9 : u = min (sz sa.toNat) (sz sb.toNat) := by omega
        rw [e9] at hX
        exact k (0) ⟨by rw [ulk_no hX, if_pos (by omega)], by omega, by omega⟩
    · refine g_aload_n 41 dX9_unlike_40 rfl rfl ?_
      refine g_get 44 dX9_unlike_41 faX9_20_X9 F0 rfl rfl ?_
      refine g_sipush (v := iZ (256)) 47 dX9_unlike_44 (by decide +kernel) rfl ?_
      refine g_iload_n 48 dX9_unlike_47 rfl rfl ?_
      refine g_imulZ (256 * sa) 49 dX9_unlike_48 (by omega) rfl ?_
      refine g_iload 51 dX9_unlike_49 rfl rfl ?_
      refine g_iaddZ ((256 * sa) + u) 52 dX9_unlike_51 (by omega) rfl ?_
      refine g_ialdZ (v := iZ (bf ((256 * sa) + u).toNat)) 53 dX9_unlike_52 F1 (by omega) (by omega) (by decide) rfl rfl ?_
      refine g_aload_n 54 dX9_unlike_53 rfl rfl ?_
      refine g_get 57 dX9_unlike_54 faX9_20_X9 F0 rfl rfl ?_
      refine g_sipush (v := iZ (256)) 60 dX9_unlike_57 (by decide +kernel) rfl ?_
      refine g_iload_n 61 dX9_unlike_60 rfl rfl ?_
      refine g_imulZ (256 * sb) 62 dX9_unlike_61 (by omega) rfl ?_
      refine g_iload 64 dX9_unlike_62 rfl rfl ?_
      refine g_iaddZ ((256 * sb) + u) 65 dX9_unlike_64 (by omega) rfl ?_
      refine g_ialdZ (v := iZ (bf ((256 * sb) + u).toNat)) 66 dX9_unlike_65 F1 (by omega) (by omega) (by decide) rfl rfl ?_
      refine g_icZ_eq 74 69 dX9_unlike_66 rfl rfl (obf _) (obf _) (fun c5 => ?_) (fun c5 => ?_)
      · refine g_iincZ [some (.ref 50), some (.int (iZ sa)), some (.int (iZ sb)), some (.int (iZ w)), some (.int (iZ (u + 1)))] 77 dX9_unlike_74 rfl (by omega) (by decide) rfl rfl rfl ?_
        refine g_goto 34 dX9_unlike_77 rfl ?_
        exact ih _ (by omega) _ (w) (u + 1) rfl F0 F1 F2 hw hw2 (by omega) ((fstI_neg (P := (fun j : Nat => (fun j => bf (256 * sa + j).toNat) j ≠ (fun j => bf (256 * sb + j).toNat) j)) (by omega) (fun q => q.2 (by show bf (256 * sa + (u.toNat : Int)).toNat = bf (256 * sb + (u.toNat : Int)).toNat; rw [Int.toNat_of_nonneg (by omega)]; exact c5))).trans hX) k
      · refine g_iconst (v := iZ (1)) 70 dX9_unlike_69 rfl rfl ?_
        refine g_iload 72 dX9_unlike_70 rfl rfl ?_
        refine g_iaddZ (1 + u) 73 dX9_unlike_72 (by omega) rfl ?_
        refine g_iret rfl dX9_unlike_73 ?_
        exact k (1 + u) ⟨(ulk_at (by omega) (by omega) hX (by show bf (256 * sa + (u.toNat : Int)).toNat ≠ bf (256 * sb + (u.toNat : Int)).toNat; rw [Int.toNat_of_nonneg (by omega)]; assumption)).symm, by omega, by omega⟩
set_option maxRecDepth 100000 in
theorem f_unl {l : Launch} {h : MH} {Q : Option Value → MH → Prop} {tr : Int64} {mn kt bs ee pa fu st so va ed cm a x p dn tk ie en sa sb : Int} {bf sz : Nat → Int} (F0 : h[50]? = some (.inr (8, [.long (tr), .ref 51, .int (iZ mn), .ref 52, .ref 53, .int (iZ kt), .ref 54, .ref 55, .ref 56, .ref 57, .ref 58, .ref 59, .ref 60, .int (iZ bs), .int (iZ ee), .int (iZ pa), .int (iZ fu), .int (iZ st), .int (iZ so), .int (iZ va), .int (iZ ed), .ref 61, .ref 62, .ref 63, .ref 64, .int (iZ cm), .int (iZ a), .int (iZ x), .int (iZ p), .int (iZ dn), .int (iZ tk), .int (iZ ie), .ref 65, .ref 66, .ref 67, .int (iZ en), .ref 68, .ref 69, .ref 70]))) (F1 : h[54]? = some (.inl (0, 4096, .inl (zA bf)))) (F2 : h[56]? = some (.inl (0, 16, .inl (zA sz)))) (obf : okr bf) (osz : oki (0) (256) sz) (rmn : (0 ≤ mn ∧ mn ≤ 200)) (rkt : (0 ≤ kt ∧ kt ≤ 12)) (rbs : (0 ≤ bs ∧ bs ≤ 1400)) (ree : (0 ≤ ee ∧ ee ≤ 200)) (rpa : (0 ≤ pa ∧ pa ≤ 200)) (rfu : (-9 ≤ fu ∧ fu ≤ 200)) (rst : (0 ≤ st ∧ st ≤ 200)) (rso : (0 ≤ so ∧ so ≤ 5)) (rva : (-100 ≤ va ∧ va ≤ 3000)) (red : (0 ≤ ed ∧ ed ≤ 200)) (rcm : (0 ≤ cm ∧ cm ≤ 256)) (ra : (0 ≤ a ∧ a ≤ 255)) (rx : (0 ≤ x ∧ x ≤ 255)) (rp : (0 ≤ p ∧ p ≤ 255)) (rdn : (0 ≤ dn ∧ dn ≤ 5000)) (rtk : (0 ≤ tk ∧ tk ≤ 200)) (rie : (0 ≤ ie ∧ ie ≤ 1)) (ren : (0 ≤ en ∧ en ≤ 12)) (rsa : (0 ≤ sa ∧ sa ≤ 15)) (rsb : (0 ≤ sb ∧ sb ≤ 15)) (k : ∀ (r : Int), (r = ulk (sz sa.toNat) (fun j => bf (256 * sa + j).toNat) (sz sb.toNat) (fun j => bf (256 * sb + j).toNat) ∧ 0 ≤ r ∧ r ≤ 257) → Q (some (.int (iZ r))) h) : Go l mX9_unlike 0 [some (.ref 50), some (.int (iZ sa)), some (.int (iZ sb)), none, none] [] h Q := by
  refine g_aload_n 1 dX9_unlike_0 rfl rfl ?_
  refine g_get 4 dX9_unlike_1 faX9_26_X9 F0 rfl rfl ?_
  refine g_iload_n 5 dX9_unlike_4 rfl rfl ?_
  have b1 := osz ((sa).toNat)
  refine g_ialdZ (v := iZ (sz sa.toNat)) 6 dX9_unlike_5 F2 (by omega) (by omega) (by decide) rfl rfl ?_
  refine g_aload_n 7 dX9_unlike_6 rfl rfl ?_
  refine g_get 10 dX9_unlike_7 faX9_26_X9 F0 rfl rfl ?_
  refine g_iload_n 11 dX9_unlike_10 rfl rfl ?_
  have b2 := osz ((sb).toNat)
  refine g_ialdZ (v := iZ (sz sb.toNat)) 12 dX9_unlike_11 F2 (by omega) (by omega) (by decide) rfl rfl ?_
  refine g_icZ_ge 24 15 dX9_unlike_12 rfl rfl (by omega) (by omega) (fun c3 => ?_) (fun c3 => ?_)
  · refine g_aload_n 25 dX9_unlike_24 rfl rfl ?_
    refine g_get 28 dX9_unlike_25 faX9_26_X9 F0 rfl rfl ?_
    refine g_iload_n 29 dX9_unlike_28 rfl rfl ?_
    have b4 := osz ((sb).toNat)
    refine g_ialdZ (v := iZ (sz sb.toNat)) 30 dX9_unlike_29 F2 (by omega) (by omega) (by decide) rfl rfl ?_
    refine g_istore_n (L1 := [some (.ref 50), some (.int (iZ sa)), some (.int (iZ sb)), some (.int (iZ (sz sb.toNat))), none]) 31 dX9_unlike_30 (by decide) rfl rfl rfl ?_
    refine g_iconst (v := iZ (0)) 32 dX9_unlike_31 rfl rfl ?_
    refine g_istore (L1 := [some (.ref 50), some (.int (iZ sa)), some (.int (iZ sb)), some (.int (iZ (sz sb.toNat))), some (.int (iZ 0))]) 34 dX9_unlike_32 (by decide) rfl rfl rfl ?_
    exact f_unl_l obf osz rmn rkt rbs ree rpa rfu rst rso rva red rcm ra rx rp rdn rtk rie ren rsa rsb _ _ (sz sb.toNat) (0) rfl F0 F1 F2 (by omega) (by omega) (by omega) rfl k
  · refine g_aload_n 16 dX9_unlike_15 rfl rfl ?_
    refine g_get 19 dX9_unlike_16 faX9_26_X9 F0 rfl rfl ?_
    refine g_iload_n 20 dX9_unlike_19 rfl rfl ?_
    have b5 := osz ((sa).toNat)
    refine g_ialdZ (v := iZ (sz sa.toNat)) 21 dX9_unlike_20 F2 (by omega) (by omega) (by decide) rfl rfl ?_
    refine g_goto 30 dX9_unlike_21 rfl ?_
    refine g_istore_n (L1 := [some (.ref 50), some (.int (iZ sa)), some (.int (iZ sb)), some (.int (iZ (sz sa.toNat))), none]) 31 dX9_unlike_30 (by decide) rfl rfl rfl ?_
    refine g_iconst (v := iZ (0)) 32 dX9_unlike_31 rfl rfl ?_
    refine g_istore (L1 := [some (.ref 50), some (.int (iZ sa)), some (.int (iZ sb)), some (.int (iZ (sz sa.toNat))), some (.int (iZ 0))]) 34 dX9_unlike_32 (by decide) rfl rfl rfl ?_
    exact f_unl_l obf osz rmn rkt rbs ree rpa rfu rst rso rva red rcm ra rx rp rdn rtk rie ren rsa rsb _ _ (sz sa.toNat) (0) rfl F0 F1 F2 (by omega) (by omega) (by omega) rfl k

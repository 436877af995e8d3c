set_option maxRecDepth 100000 in
theorem f_rnP {l : Launch} {Q : Option Value → MH → Prop} {tr : Int64} {mn kt bs ee pa fu st so va ed cm a x p dn tk ie en i : Int} : ∀ (k : Nat) (h : MH) (pl : Nat → Int) (j : Int), j = 26 - k → k ≤ 26 → okr pl → (∀ q : Nat, (q : Int) < j → pl q = -9) → h[50]? = some (.inr (8, [.long (tr), .ref 51, .int (iZ mn), .ref 52, .ref 53, .int (iZ kt), .ref 54, .ref 55, .ref 56, .ref 57, .ref 58, .ref 59, .ref 60, .int (iZ bs), .int (iZ ee), .int (iZ pa), .int (iZ fu), .int (iZ st), .int (iZ so), .int (iZ va), .int (iZ ed), .ref 61, .ref 62, .ref 63, .ref 64, .int (iZ cm), .int (iZ a), .int (iZ x), .int (iZ p), .int (iZ dn), .int (iZ tk), .int (iZ ie), .ref 65, .ref 66, .ref 67, .int (iZ en), .ref 68, .ref 69, .ref 70])) → h[61]? = some (.inl (0, 26, .inl (zA pl))) → (∀ h1 : MH, Sm [61] h h1 → h1[61]? = some (.inl (0, 26, .inl (zA (fun _ => -9)))) → Go l mX9_readNames 34 [some (.ref 50), some (.int (iZ i)), some (.int (iZ 12)), some (.int (iZ 26)), none, none, none] [] h1 Q) → Go l mX9_readNames 14 [some (.ref 50), some (.int (iZ i)), some (.int (iZ 12)), some (.int (iZ j)), none, none, none] [] h Q := by
  intro k
  induction k with
  | zero =>
    intro h pl j hj hk opl hA F0 F1 kk
    have : j = 26 := by omega
    subst this
    refine g_iload_n 15 dX9_readNames_14 rfl rfl ?_
    refine g_bipush (v := iZ (26)) 17 dX9_readNames_15 (by decide +kernel) rfl ?_
    refine g_icZ_ge 34 20 dX9_readNames_17 rfl rfl (by decide) (by decide) (fun _ => ?_) (fun q => absurd q (by decide))
    exact Go.ext (f' := zA (fun _ => -9)) F1 (fun q hq => congrArg iZ (hA q (by omega))) (fun h1 s1 u1 => kk h1 s1 u1)
  | succ k ih =>
    intro h pl j hj hk opl hA F0 F1 kk
    have h0 : 0 ≤ j := by omega
    have h2 : j < 26 := by omega
    refine g_iload_n 15 dX9_readNames_14 rfl rfl ?_
    refine g_bipush (v := iZ (26)) 17 dX9_readNames_15 (by decide +kernel) rfl ?_
    refine g_icZ_ge 34 20 dX9_readNames_17 rfl rfl (by omega) (by decide) (fun q => absurd q (by omega)) (fun _ => ?_)
    refine g_aload_n 21 dX9_readNames_20 rfl rfl ?_
    refine g_get 24 dX9_readNames_21 faX9_41_X9 F0 rfl rfl ?_
    refine g_iload_n 25 dX9_readNames_24 rfl rfl ?_
    refine g_bipush (v := iZ (-9)) 27 dX9_readNames_25 (by decide +kernel) rfl ?_
    refine g_iastFj (j.toNat) 28 dX9_readNames_27 F1 (by omega) (by omega) (by decide) rfl rfl (fun h1 s2 f3 => ?_)
    refine g_iincZ [some (.ref 50), some (.int (iZ i)), some (.int (iZ 12)), some (.int (iZ (j + 1))), none, none, none] 31 dX9_readNames_28 rfl (by omega) (by decide) rfl rfl rfl ?_
    refine g_goto 14 dX9_readNames_31 rfl ?_
    have f4 := (s2.get (by decide) F0)
    exact ih _ _ _ (by omega) (by omega) (okr_up opl _ (by decide)) (upA (f := fun _ => -9) (by omega) hA rfl) f4 f3 (fun h1 hs f1 => kk h1 (s2.tr hs (fun _ q => q) (fun _ q => q)) f1)
set_option maxRecDepth 100000 in
theorem f_rn {l : Launch} {h : MH} {Q : Option Value → MH → Prop} {tr : Int64} {mn kt bs ee pa fu st so va ed cm a x p dn tk ie en i : Int} {lg bf lf sz pl : Nat → Int} {tx : Nat → Int32} (F0 : h[50]? = some (.inr (8, [.long (tr), .ref 51, .int (iZ mn), .ref 52, .ref 53, .int (iZ kt), .ref 54, .ref 55, .ref 56, .ref 57, .ref 58, .ref 59, .ref 60, .int (iZ bs), .int (iZ ee), .int (iZ pa), .int (iZ fu), .int (iZ st), .int (iZ so), .int (iZ va), .int (iZ ed), .ref 61, .ref 62, .ref 63, .ref 64, .int (iZ cm), .int (iZ a), .int (iZ x), .int (iZ p), .int (iZ dn), .int (iZ tk), .int (iZ ie), .ref 65, .ref 66, .ref 67, .int (iZ en), .ref 68, .ref 69, .ref 70]))) (F1 : h[52]? = some (.inl (1, 1600, .inl tx))) (F2 : h[53]? = some (.inl (0, 8, .inl (zA lg)))) (F3 : h[54]? = some (.inl (0, 4096, .inl (zA bf)))) (F4 : h[55]? = some (.inl (0, 4096, .inl (zA lf)))) (F5 : h[56]? = some (.inl (0, 16, .inl (zA sz)))) (F6 : h[61]? = some (.inl (0, 26, .inl (zA pl)))) (olg : oki (0) (200) lg) (obf : okr bf) (olf : oki (0) (300) lf) (osz : oki (0) (256) sz) (opl : oki (-9) (255) pl) (rmn : (0 ≤ mn ∧ mn ≤ 200)) (rkt : (0 ≤ kt ∧ kt ≤ 12)) (rbs : (0 ≤ bs ∧ bs ≤ 1400)) (ree : (0 ≤ ee ∧ ee ≤ 200)) (rpa : (0 ≤ pa ∧ pa ≤ 200)) (rfu : (-9 ≤ fu ∧ fu ≤ 200)) (rst : (0 ≤ st ∧ st ≤ 200)) (rso : (0 ≤ so ∧ so ≤ 5)) (rva : (-100 ≤ va ∧ va ≤ 3000)) (red : (0 ≤ ed ∧ ed ≤ 200)) (rcm : (0 ≤ cm ∧ cm ≤ 256)) (ra : (0 ≤ a ∧ a ≤ 255)) (rx : (0 ≤ x ∧ x ≤ 255)) (rp : (0 ≤ p ∧ p ≤ 255)) (rdn : (0 ≤ dn ∧ dn ≤ 5000)) (rtk : (0 ≤ tk ∧ tk ≤ 200)) (rie : (0 ≤ ie ∧ ie ≤ 1)) (ren : (0 ≤ en ∧ en ≤ 12)) (ri : (0 ≤ i ∧ i ≤ 7)) (hB : okB tx) (k : ∀ (h1 : MH) (bs_1 ee_1 pa_1 fu_1 st_1 so_1 va_1 ed_1 : Int) (bf_1 : Nat → Int) (lf_1 : Nat → Int) (sz_1 : Nat → Int) (pl_1 : Nat → Int) (r : Int), (0 ≤ bs_1 ∧ bs_1 ≤ 1400) → (0 ≤ ee_1 ∧ ee_1 ≤ 200) → (0 ≤ pa_1 ∧ pa_1 ≤ 200) → (-9 ≤ fu_1 ∧ fu_1 ≤ 200) → (0 ≤ st_1 ∧ st_1 ≤ 200) → (0 ≤ so_1 ∧ so_1 ≤ 5) → (-100 ≤ va_1 ∧ va_1 ≤ 3000) → (0 ≤ ed_1 ∧ ed_1 ≤ 200) → okr bf_1 → oki (0) (300) lf_1 → oki (0) (256) sz_1 → oki (-9) (255) pl_1 → (r = -9 ∨ (0 ≤ r ∧ r ≤ 300)) → (∀ q : Nat, q < 3072 → bf_1 q = bf q) → (∀ q : Nat, q < 3072 → lf_1 q = lf q) → (∀ t : Nat, t ≠ 12 → sz_1 t = sz t) → (r = -9 → 0 < sz_1 12 ∧ ok12 bf_1 sz_1) → (nrR (namE (lg i.toNat) (fun j => hb tx (200 * i + j))) r (sz_1 12) (sl12 bf_1) (sl12 lf_1)) → Sm [50, 54, 55, 56, 61] h h1 → h1[50]? = some (.inr (8, [.long (tr), .ref 51, .int (iZ mn), .ref 52, .ref 53, .int (iZ kt), .ref 54, .ref 55, .ref 56, .ref 57, .ref 58, .ref 59, .ref 60, .int (iZ bs_1), .int (iZ ee_1), .int (iZ pa_1), .int (iZ fu_1), .int (iZ st_1), .int (iZ so_1), .int (iZ va_1), .int (iZ ed_1), .ref 61, .ref 62, .ref 63, .ref 64, .int (iZ cm), .int (iZ a), .int (iZ x), .int (iZ p), .int (iZ dn), .int (iZ tk), .int (iZ ie), .ref 65, .ref 66, .ref 67, .int (iZ en), .ref 68, .ref 69, .ref 70])) → h1[54]? = some (.inl (0, 4096, .inl (zA bf_1))) → h1[55]? = some (.inl (0, 4096, .inl (zA lf_1))) → h1[56]? = some (.inl (0, 16, .inl (zA sz_1))) → h1[61]? = some (.inl (0, 26, .inl (zA pl_1))) → Q (some (.int (iZ r))) h1) : Go l mX9_readNames 0 [some (.ref 50), some (.int (iZ i)), some (.int (iZ 12)), none, none, none, none] [] h Q := by
  refine g_aload_n 1 dX9_readNames_0 rfl rfl ?_
  refine g_iload_n 2 dX9_readNames_1 rfl rfl ?_
  refine g_callV (z := mX9_open) (As := [.int (iZ i)]) 5 dX9_readNames_2 mwX9_open ⟨by decide, by decide⟩ rfl wlX9_104 wiX9_open wsX9_open F0 rfl rfl rfl (nle rfl) (nle rfl) rfl ?_
  refine f_open  F0 F2 olg (by omega) (by omega) (by omega) (by omega) (by omega) (by omega) (by omega) (by omega) (by omega) (by omega) (by omega) (by omega) (by omega) (by omega) (by omega) (by omega) (by omega) (by omega) (by omega) (fun h1 z3 z4 z5 z6 rz3 rz4 rz5 rz6 p7 p8 p9 p10 s2 f11 => ?_)
  refine rV ?_
  subst p7
  subst p8
  subst p9
  subst p10
  refine g_aload_n 6 dX9_readNames_5 rfl rfl ?_
  refine g_get 9 dX9_readNames_6 faX9_26_X9 f11 rfl rfl ?_
  refine g_iload_n 10 dX9_readNames_9 rfl rfl ?_
  refine g_iconst (v := iZ (0)) 11 dX9_readNames_10 rfl rfl ?_
  have f12 := (s2.get (by decide) F5)
  refine g_iastFj (12) 12 dX9_readNames_11 f12 (by decide) (by decide) (by decide) rfl rfl (fun h13 s14 f15 => ?_)
  refine g_iconst (v := iZ (0)) 13 dX9_readNames_12 rfl rfl ?_
  refine g_istore_n (L1 := [some (.ref 50), some (.int (iZ i)), some (.int (iZ 12)), some (.int (iZ 0)), none, none, none]) 14 dX9_readNames_13 (by decide) rfl rfl rfl ?_
  have f19 := (s14.get (by decide) f11)
  have f20 := (s14.get (by decide) (s2.get (by decide) F6))
  refine f_rnP 26 _ _ _ (by decide) (by decide) (fun q9 => ⟨by have := opl q9; omega, by have := opl q9; omega⟩) (fun q hq => by omega) f19 f20 (fun h16 s17 f18 => ?_)
  refine g_aload_n 35 dX9_readNames_34 rfl rfl ?_
  have f21 := (s17.get (by decide) f19)
  refine g_callV (z := mX9_next) (As := []) 38 dX9_readNames_35 mwX9_next ⟨by decide, by decide⟩ rfl wlX9_147 wiX9_next wsX9_next f21 rfl rfl rfl (nle rfl) (nle rfl) rfl ?_
  have f22 := (s17.get (by decide) (s14.get (by decide) (s2.get (by decide) F1)))
  refine f_next  f21 f22 (by omega) (by omega) (by omega) (by omega) (by omega) (by omega) (by omega) (by omega) (by omega) (by omega) (by omega) (by omega) (by omega) (by omega) (by omega) (by omega) (by omega) (by omega) (by omega) hB (fun h23 z25 z26 z27 z28 z29 rz25 rz26 rz27 rz28 rz29 p30 s24 f31 => ?_)
  refine rV ?_
  refine Go.fgt 1 ?_
  refine Go.fgt 3 ?_
  obtain ⟨n1, n2, n3⟩ := p30
  have G1 := gap_rg (tn := lg i.toNat) (tf := (fun j => hb tx (200 * i + j))) (r := 0) (i := 0) (by omega)
  rw [← n1] at G1
  have hz0 : va_up sz 12 0 12 = 0 := up_eq
  have T1 : tkT (lg i.toNat) (fun j => hb tx (200 * i + j)) z26 z27 z28 z25 := n3
  have L1 := tkT_le T1 (by omega)
  have f32 := (s24.get (by decide) f22)
  have f33 := (s24.get (by decide) (s17.get (by decide) (s14.get (by decide) (s2.get (by decide) F3))))
  have f34 := (s24.get (by decide) (s17.get (by decide) (s14.get (by decide) (s2.get (by decide) F4))))
  have f35 := (s24.get (by decide) (s17.get (by decide) f15))
  have f36 := (s24.get (by decide) f18)
  refine f_rn2_l (RES := nmE (lg i.toNat) (fun j => hb tx (200 * i + j))) (by omega) (by omega) (by omega) (by omega) (by omega) (by omega) (by omega) (by omega) (by omega) (by omega) (by omega) (by omega) hB _ _ (z25) (-9) (z26) (z27) (z28) (z29) (bf) (lf) (va_up sz 12 0) ((fun _ => -9)) rfl (by omega) (by omega) (by omega) (by omega) (by omega) (by omega) obf olf (oki_up osz _ (by omega)) (fun _ => ⟨Int.le_refl (-9), (by decide : (-9 : Int) ≤ 255)⟩) f31 f32 f33 f34 f35 f36 (by omega) (by omega) T1 (fun _ => Or.inl rfl) (by rw [hz0]; exact okW_0) ⟨-9, by rw [hz0, n1]; exact R_0 (by omega)⟩ (fun hQ y1 y2 y3 y4 y5 y6 y7 y8 y9 y10 rQ v1 v2 v3 v4 v5 v6 v7 v8 v9 v10 v11 a0 a1 a2 a3 a4 sQ u0 u1 u2 u3 u4 => ?_)
  exact k _ (200 * i) (lg i.toNat) y1 y2 y3 y4 y5 y6 y7 y8 y9 y10 rQ (by omega) (by omega) v1 v2 v3 v4 v5 v6 v7 v8 v9 v10 v11 a0 a1 (fun q hq => (a2 q hq).trans (up_ne hq)) a3 a4 ((((((Sm.refl [50, 54, 55, 56, 61] _).tr s2 (fun _ q => q) (by simp)).tr s14 (fun _ q => q) (by simp)).tr s17 (fun _ q => q) (by simp)).tr s24 (fun _ q => q) (by simp)).tr sQ (fun _ q => q) (fun _ q => q)) u0 u1 u2 u3 u4

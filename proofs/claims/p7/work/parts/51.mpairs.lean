theorem up_ne {α : Type} {f : Nat → α} {i j : Nat} {v : α} (h : j ≠ i) : va_up f i v j = f j := if_neg h
theorem up_eq {α : Type} {f : Nat → α} {i : Nat} {v : α} : va_up f i v i = v := if_pos rfl
/-- slot 12: its bytes below its size are bytes -/
def ok12 (bf sz : Nat → Int) : Prop := ∀ j : Nat, (j : Int) < sz 12 → 0 ≤ bf (3072 + j) ∧ bf (3072 + j) ≤ 255
theorem add_A {bf bf1 : Nat → Int} {s v : Int} (e : bf1 = va_up bf (3072 + s).toNat v) (h : 0 ≤ s) : ∀ q : Nat, q < 3072 → bf1 q = bf q := by
  intro q hq
  rw [e]
  exact up_ne (by omega)
theorem add_C {sz sz1 : Nat → Int} {v : Int} (e : sz1 = va_up sz 12 v) : ∀ t : Nat, t ≠ 12 → sz1 t = sz t := by
  intro t ht
  rw [e]
  exact up_ne ht
theorem add_B {bf bf1 sz sz1 : Nat → Int} {v : Int} (e : bf1 = va_up bf (3072 + sz 12).toNat v) (e2 : sz1 = va_up sz 12 (sz 12 + 1)) (h : 0 ≤ sz 12) (hv : 0 ≤ v ∧ v ≤ 255) (H : ok12 bf sz) : ok12 bf1 sz1 := by
  intro j hj
  rw [e2, up_eq] at hj
  rw [e]
  by_cases q : 3072 + j = (3072 + sz 12).toNat
  · rw [q, up_eq]
    exact hv
  · rw [up_ne q]
    exact H j (by omega)
theorem ok12_0 {bf sz : Nat → Int} : ok12 bf (va_up sz 12 0) := by
  intro j hj
  rw [up_eq] at hj
  omega
set_option maxRecDepth 100000 in
theorem n_add {l : Launch} {h : MH} {Q : Option Value → MH → Prop} {tr : Int64} {mn kt bs ee pa fu st so va ed cm a x p dn tk ie en v w : Int} {bf lf sz : Nat → Int} (F0 : h[50]? = some (.inr (8, [.long (tr), .ref 51, .int (iZ mn), .ref 52, .ref 53, .int (iZ kt), .ref 54, .ref 55, .ref 56, .ref 57, .ref 58, .ref 59, .ref 60, .int (iZ bs), .int (iZ ee), .int (iZ pa), .int (iZ fu), .int (iZ st), .int (iZ so), .int (iZ va), .int (iZ ed), .ref 61, .ref 62, .ref 63, .ref 64, .int (iZ cm), .int (iZ a), .int (iZ x), .int (iZ p), .int (iZ dn), .int (iZ tk), .int (iZ ie), .ref 65, .ref 66, .ref 67, .int (iZ en), .ref 68, .ref 69, .ref 70]))) (F1 : h[54]? = some (.inl (0, 4096, .inl (zA bf)))) (F2 : h[55]? = some (.inl (0, 4096, .inl (zA lf)))) (F3 : h[56]? = some (.inl (0, 16, .inl (zA sz)))) (obf : okr bf) (olf : oki (0) (300) lf) (osz : oki (0) (256) sz) (rmn : (0 ≤ mn ∧ mn ≤ 200)) (rkt : (0 ≤ kt ∧ kt ≤ 12)) (rbs : (0 ≤ bs ∧ bs ≤ 1400)) (ree : (0 ≤ ee ∧ ee ≤ 200)) (rpa : (0 ≤ pa ∧ pa ≤ 200)) (rfu : (-9 ≤ fu ∧ fu ≤ 200)) (rst : (0 ≤ st ∧ st ≤ 200)) (rso : (0 ≤ so ∧ so ≤ 5)) (rva : (-100 ≤ va ∧ va ≤ 3000)) (red : (0 ≤ ed ∧ ed ≤ 200)) (rcm : (0 ≤ cm ∧ cm ≤ 256)) (ra : (0 ≤ a ∧ a ≤ 255)) (rx : (0 ≤ x ∧ x ≤ 255)) (rp : (0 ≤ p ∧ p ≤ 255)) (rdn : (0 ≤ dn ∧ dn ≤ 5000)) (rtk : (0 ≤ tk ∧ tk ≤ 200)) (rie : (0 ≤ ie ∧ ie ≤ 1)) (ren : (0 ≤ en ∧ en ≤ 12)) (rv : rg v) (rw : (0 ≤ w ∧ w ≤ 300)) (hs : sz 12 < 256) (k : ∀ (h1 : MH) (bf_1 : Nat → Int) (lf_1 : Nat → Int) (sz_1 : Nat → Int), okr bf_1 → oki (0) (300) lf_1 → oki (0) (256) sz_1 → (bf_1 = va_up bf (3072 + sz 12).toNat v) → (sz_1 = va_up sz 12 (sz 12 + 1)) → Sm [54, 55, 56] h h1 → h1[54]? = some (.inl (0, 4096, .inl (zA bf_1))) → h1[55]? = some (.inl (0, 4096, .inl (zA lf_1))) → h1[56]? = some (.inl (0, 16, .inl (zA sz_1))) → Q none h1) : Go l mX9_add 0 [some (.ref 50), some (.int (iZ 12)), some (.int (iZ v)), some (.int (iZ w))] [] h Q := by
  refine g_aload_n 1 dX9_add_0 rfl rfl ?_
  refine g_get 4 dX9_add_1 faX9_20_X9 F0 rfl rfl ?_
  refine g_sipush (v := iZ (256)) 7 dX9_add_4 (by decide +kernel) rfl ?_
  refine g_iload_n 8 dX9_add_7 rfl rfl ?_
  refine g_imulZ (3072) 9 dX9_add_8 (by decide) rfl ?_
  refine g_aload_n 10 dX9_add_9 rfl rfl ?_
  refine g_get 13 dX9_add_10 faX9_26_X9 F0 rfl rfl ?_
  refine g_iload_n 14 dX9_add_13 rfl rfl ?_
  have b1 := osz (12)
  refine g_ialdZ (v := iZ (sz 12)) 15 dX9_add_14 F3 (by decide) (by decide) (by decide) rfl rfl ?_
  refine g_iaddZ (3072 + (sz 12)) 16 dX9_add_15 (by omega) rfl ?_
  refine g_iload_n 17 dX9_add_16 rfl rfl ?_
  refine g_iastFj ((3072 + (sz 12)).toNat) 18 dX9_add_17 F1 (by omega) (by omega) (by decide) rfl rfl (fun h2 s3 f4 => ?_)
  refine g_aload_n 19 dX9_add_18 rfl rfl ?_
  have f5 := (s3.get (by decide) F0)
  refine g_get 22 dX9_add_19 faX9_23_X9 f5 rfl rfl ?_
  refine g_sipush (v := iZ (256)) 25 dX9_add_22 (by decide +kernel) rfl ?_
  refine g_iload_n 26 dX9_add_25 rfl rfl ?_
  refine g_imulZ (3072) 27 dX9_add_26 (by decide) rfl ?_
  refine g_aload_n 28 dX9_add_27 rfl rfl ?_
  refine g_get 31 dX9_add_28 faX9_26_X9 f5 rfl rfl ?_
  refine g_iload_n 32 dX9_add_31 rfl rfl ?_
  have f6 := (s3.get (by decide) F3)
  have b7 := osz (12)
  refine g_ialdZ (v := iZ (sz 12)) 33 dX9_add_32 f6 (by decide) (by decide) (by decide) rfl rfl ?_
  refine g_iaddZ (3072 + (sz 12)) 34 dX9_add_33 (by omega) rfl ?_
  refine g_iload_n 35 dX9_add_34 rfl rfl ?_
  have f8 := (s3.get (by decide) F2)
  refine g_iastR 36 dX9_add_35 f8 olf (by omega) (by omega) (by omega) (by decide) rfl (fun h10 g9 og9 s11 f12 => ?_)
  refine g_aload_n 37 dX9_add_36 rfl rfl ?_
  have f13 := (s11.get (by decide) f5)
  refine g_get 40 dX9_add_37 faX9_26_X9 f13 rfl rfl ?_
  refine g_iload_n 41 dX9_add_40 rfl rfl ?_
  refine g_dup2 42 dX9_add_41 rfl rfl rfl ?_
  have f14 := (s11.get (by decide) f6)
  have b15 := osz (12)
  refine g_ialdZ (v := iZ (sz 12)) 43 dX9_add_42 f14 (by decide) (by decide) (by decide) rfl rfl ?_
  refine g_iconst (v := iZ (1)) 44 dX9_add_43 rfl rfl ?_
  refine g_iaddZ ((sz 12) + 1) 45 dX9_add_44 (by omega) rfl ?_
  refine g_iastFj (12) 46 dX9_add_45 f14 (by decide) (by decide) (by decide) rfl rfl (fun h16 s17 f18 => ?_)
  refine g_vret rfl dX9_add_46 ?_
  have f19 := (s17.get (by decide) (s11.get (by decide) f4))
  have f20 := (s17.get (by decide) f12)
  exact k _ (va_up bf (3072 + (sz 12)).toNat v) (g9) (va_up sz 12 ((sz 12) + 1)) (okr_up obf _ rv) og9 (oki_up osz _ (by omega)) rfl rfl ((((Sm.refl [54, 55, 56] _).tr s3 (fun _ q => q) (by simp)).tr s11 (fun _ q => q) (by simp)).tr s17 (fun _ q => q) (by simp)) f19 f20 f18
set_option maxRecDepth 100000 in
theorem n_rp_l {l : Launch} {Q : Option Value → MH → Prop} {tr : Int64} {mn kt st so va ed cm a x p dn tk ie en : Int} {lg : Nat → Int} {tx : Nat → Int32} (olg : oki (0) (200) lg) (rmn : (0 ≤ mn ∧ mn ≤ 200)) (rkt : (0 ≤ kt ∧ kt ≤ 12)) (rst : (0 ≤ st ∧ st ≤ 200)) (rso : (0 ≤ so ∧ so ≤ 5)) (rva : (-100 ≤ va ∧ va ≤ 3000)) (red : (0 ≤ ed ∧ ed ≤ 200)) (rcm : (0 ≤ cm ∧ cm ≤ 256)) (ra : (0 ≤ a ∧ a ≤ 255)) (rx : (0 ≤ x ∧ x ≤ 255)) (rp : (0 ≤ p ∧ p ≤ 255)) (rdn : (0 ≤ dn ∧ dn ≤ 5000)) (rtk : (0 ≤ tk ∧ tk ≤ 200)) (rie : (0 ≤ ie ∧ ie ≤ 1)) (ren : (0 ≤ en ∧ en ≤ 12)) : ∀ (m0 : Nat) (h : MH) (bs ee pa fu : Int) (bf : Nat → Int) (lf : Nat → Int) (sz : Nat → Int), (200 - pa).toNat = m0 → (0 ≤ bs ∧ bs ≤ 1400) → (0 ≤ ee ∧ ee ≤ 200) → (0 ≤ pa ∧ pa ≤ 200) → (-9 ≤ fu ∧ fu ≤ 200) → okr bf → oki (0) (300) lf → oki (0) (256) sz → h[50]? = some (.inr (8, [.long (tr), .ref 51, .int (iZ mn), .ref 52, .ref 53, .int (iZ kt), .ref 54, .ref 55, .ref 56, .ref 57, .ref 58, .ref 59, .ref 60, .int (iZ bs), .int (iZ ee), .int (iZ pa), .int (iZ fu), .int (iZ st), .int (iZ so), .int (iZ va), .int (iZ ed), .ref 61, .ref 62, .ref 63, .ref 64, .int (iZ cm), .int (iZ a), .int (iZ x), .int (iZ p), .int (iZ dn), .int (iZ tk), .int (iZ ie), .ref 65, .ref 66, .ref 67, .int (iZ en), .ref 68, .ref 69, .ref 70])) → h[52]? = some (.inl (1, 1600, .inl tx)) → h[53]? = some (.inl (0, 8, .inl (zA lg))) → h[54]? = some (.inl (0, 4096, .inl (zA bf))) → h[55]? = some (.inl (0, 4096, .inl (zA lf))) → h[56]? = some (.inl (0, 16, .inl (zA sz))) → ok12 bf sz → 0 ≤ sz 12 ∧ sz 12 ≤ pa → (∀ (h1 : MH) (bs_1 ee_1 pa_1 fu_1 : Int) (bf_1 : Nat → Int) (lf_1 : Nat → Int) (sz_1 : Nat → Int) (r : Int), (0 ≤ bs_1 ∧ bs_1 ≤ 1400) → (0 ≤ ee_1 ∧ ee_1 ≤ 200) → (0 ≤ pa_1 ∧ pa_1 ≤ 200) → (-9 ≤ fu_1 ∧ fu_1 ≤ 200) → okr bf_1 → oki (0) (300) lf_1 → oki (0) (256) sz_1 → (r = -9 ∨ (0 ≤ r ∧ r ≤ 200)) → (∀ q : Nat, q < 3072 → bf_1 q = bf q) → (∀ t : Nat, t ≠ 12 → sz_1 t = sz t) → (r = -9 → 0 < sz_1 12 ∧ ok12 bf_1 sz_1) → Sm [50, 54, 55, 56] h h1 → h1[50]? = some (.inr (8, [.long (tr), .ref 51, .int (iZ mn), .ref 52, .ref 53, .int (iZ kt), .ref 54, .ref 55, .ref 56, .ref 57, .ref 58, .ref 59, .ref 60, .int (iZ bs_1), .int (iZ ee_1), .int (iZ pa_1), .int (iZ fu_1), .int (iZ st), .int (iZ so), .int (iZ va), .int (iZ ed), .ref 61, .ref 62, .ref 63, .ref 64, .int (iZ cm), .int (iZ a), .int (iZ x), .int (iZ p), .int (iZ dn), .int (iZ tk), .int (iZ ie), .ref 65, .ref 66, .ref 67, .int (iZ en), .ref 68, .ref 69, .ref 70])) → h1[54]? = some (.inl (0, 4096, .inl (zA bf_1))) → h1[55]? = some (.inl (0, 4096, .inl (zA lf_1))) → h1[56]? = some (.inl (0, 16, .inl (zA sz_1))) → Q (some (.int (iZ r))) h1) → Go l mX9_readPairs 16 [some (.ref 50), none, some (.int (iZ 12)), none, none, none] [] h Q := by
  intro m0
  induction m0 using Nat.strongRecOn with
  | ind m0 ih =>
    intro h bs ee pa fu bf lf sz hmz rbs ree rpa rfu obf olf osz F0 F1 F2 F3 F4 F5 hB hD k
    refine g_aload_n 17 dX9_readPairs_16 rfl rfl ?_
    refine g_get 20 dX9_readPairs_17 faX9_88_X9 F0 rfl rfl ?_
    refine g_aload_n 21 dX9_readPairs_20 rfl rfl ?_
    refine g_get 24 dX9_readPairs_21 faX9_91_X9 F0 rfl rfl ?_
    refine g_icZ_ge 115 27 dX9_readPairs_24 rfl rfl (by omega) (by omega) (fun c1 => ?_) (fun c1 => ?_)
    · refine g_aload_n 116 dX9_readPairs_115 rfl rfl ?_
      refine g_get 119 dX9_readPairs_116 faX9_26_X9 F0 rfl rfl ?_
      refine g_iload_n 120 dX9_readPairs_119 rfl rfl ?_
      have b2 := osz (12)
      refine g_ialdZ (v := iZ (sz 12)) 121 dX9_readPairs_120 F5 (by decide) (by decide) (by decide) rfl rfl ?_
      refine g_ifZ_ne 131 124 dX9_readPairs_121 rfl rfl (by omega) (fun c3 => ?_) (fun c3 => ?_)
      · refine g_bipush (v := iZ (-9)) 133 dX9_readPairs_131 (by decide +kernel) rfl ?_
        refine g_iret rfl dX9_readPairs_133 ?_
        exact k _ (bs) (ee) (pa) (fu) (bf) (lf) (sz) (-9) (by omega) (by omega) (by omega) (by omega) obf olf osz (by omega) (fun _ _ => rfl) (fun _ _ => rfl) (by intro q9; first | exact ⟨by omega, hB⟩ | omega) (Sm.refl [50, 54, 55, 56] _) F0 F3 F4 F5
      · refine g_aload_n 125 dX9_readPairs_124 rfl rfl ?_
        refine g_get 128 dX9_readPairs_125 faX9_91_X9 F0 rfl rfl ?_
        refine g_goto 133 dX9_readPairs_128 rfl ?_
        refine g_iret rfl dX9_readPairs_133 ?_
        exact k _ (bs) (ee) (pa) (fu) (bf) (lf) (sz) (ee) (by omega) (by omega) (by omega) (by omega) obf olf osz (by omega) (fun _ _ => rfl) (fun _ _ => rfl) (by intro q9; first | exact ⟨by omega, hB⟩ | omega) (Sm.refl [50, 54, 55, 56] _) F0 F3 F4 F5
    · refine g_aload_n 28 dX9_readPairs_27 rfl rfl ?_
      refine g_get 31 dX9_readPairs_28 faX9_88_X9 F0 rfl rfl ?_
      refine g_istore_n (L1 := [some (.ref 50), none, some (.int (iZ 12)), some (.int (iZ pa)), none, none]) 32 dX9_readPairs_31 (by decide) rfl rfl rfl ?_
      refine g_aload_n 33 dX9_readPairs_32 rfl rfl ?_
      refine g_callV (z := mX9_here) (As := []) 36 dX9_readPairs_33 mwX9_here ⟨by decide, by decide⟩ rfl wlX9_100 wiX9_here wsX9_here F0 rfl rfl rfl (nle rfl) (nle rfl) rfl ?_
      refine n_here  F0 F1 (by omega) (by omega) (by omega) (by omega) (by omega) (by omega) (by omega) (by omega) (by omega) (by omega) (by omega) (by omega) (by omega) (by omega) (by omega) (by omega) (by omega) (by omega) (fun z4 rz4 => ?_)
      refine rI ?_
      refine g_callS (z := mX9_digit) (As := [.int (iZ z4)]) 39 dX9_readPairs_36 mwX9_digit ⟨by decide, by decide⟩ rfl wlX9_111 wtX9_digit rfl (nle rfl) (nle rfl) rfl ?_
      refine n_dig  (by omega) (fun z5 rz5 => ?_)
      refine rI ?_
      refine g_istore (L1 := [some (.ref 50), none, some (.int (iZ 12)), some (.int (iZ pa)), some (.int (iZ z5)), none]) 41 dX9_readPairs_39 (by decide) rfl rfl rfl ?_
      refine g_iload 43 dX9_readPairs_41 rfl rfl ?_
      refine g_bipush (v := iZ (-9)) 45 dX9_readPairs_43 (by decide +kernel) rfl ?_
      refine g_icZ_ne 53 48 dX9_readPairs_45 rfl rfl (by omega) (by decide) (fun c6 => ?_) (fun c6 => ?_)
      · refine g_aload_n 54 dX9_readPairs_53 rfl rfl ?_
        refine g_dup 55 dX9_readPairs_54 rfl rfl ?_
        refine g_get 58 dX9_readPairs_55 faX9_88_X9 F0 rfl rfl ?_
        refine g_iconst (v := iZ (1)) 59 dX9_readPairs_58 rfl rfl ?_
        refine g_iaddZ (pa + 1) 60 dX9_readPairs_59 (by omega) rfl ?_
        refine g_putC (fs1 := [.long (tr), .ref 51, .int (iZ mn), .ref 52, .ref 53, .int (iZ kt), .ref 54, .ref 55, .ref 56, .ref 57, .ref 58, .ref 59, .ref 60, .int (iZ bs), .int (iZ ee), .int (iZ (pa + 1)), .int (iZ fu), .int (iZ st), .int (iZ so), .int (iZ va), .int (iZ ed), .ref 61, .ref 62, .ref 63, .ref 64, .int (iZ cm), .int (iZ a), .int (iZ x), .int (iZ p), .int (iZ dn), .int (iZ tk), .int (iZ ie), .ref 65, .ref 66, .ref 67, .int (iZ en), .ref 68, .ref 69, .ref 70]) 63 dX9_readPairs_60 fpX9_88_X9 F0 (nle rfl) (vI _) rfl rfl (fun h7 s8 f9 => ?_)
        refine g_aload_n 64 dX9_readPairs_63 rfl rfl ?_
        refine g_callV (z := mX9_here) (As := []) 67 dX9_readPairs_64 mwX9_here ⟨by decide, by decide⟩ rfl wlX9_100 wiX9_here wsX9_here f9 rfl rfl rfl (nle rfl) (nle rfl) rfl ?_
        have f10 := (s8.get (by decide) F1)
        refine n_here  f9 f10 (by omega) (by omega) (by omega) (by omega) (by omega) (by omega) (by omega) (by omega) (by omega) (by omega) (by omega) (by omega) (by omega) (by omega) (by omega) (by omega) (by omega) (by omega) (fun z11 rz11 => ?_)
        refine rI ?_
        refine g_callS (z := mX9_digit) (As := [.int (iZ z11)]) 70 dX9_readPairs_67 mwX9_digit ⟨by decide, by decide⟩ rfl wlX9_111 wtX9_digit rfl (nle rfl) (nle rfl) rfl ?_
        refine n_dig  (by omega) (fun z12 rz12 => ?_)
        refine rI ?_
        refine g_istore (L1 := [some (.ref 50), none, some (.int (iZ 12)), some (.int (iZ pa)), some (.int (iZ z5)), some (.int (iZ z12))]) 72 dX9_readPairs_70 (by decide) rfl rfl rfl ?_
        refine g_iload 74 dX9_readPairs_72 rfl rfl ?_
        refine g_bipush (v := iZ (-9)) 76 dX9_readPairs_74 (by decide +kernel) rfl ?_
        refine g_icZ_ne 84 79 dX9_readPairs_76 rfl rfl (by omega) (by decide) (fun c13 => ?_) (fun c13 => ?_)
        · refine g_aload_n 85 dX9_readPairs_84 rfl rfl ?_
          refine g_dup 86 dX9_readPairs_85 rfl rfl ?_
          refine g_get 89 dX9_readPairs_86 faX9_88_X9 f9 rfl rfl ?_
          refine g_iconst (v := iZ (1)) 90 dX9_readPairs_89 rfl rfl ?_
          refine g_iaddZ (pa + 2) 91 dX9_readPairs_90 (by omega) rfl ?_
          refine g_putC (fs1 := [.long (tr), .ref 51, .int (iZ mn), .ref 52, .ref 53, .int (iZ kt), .ref 54, .ref 55, .ref 56, .ref 57, .ref 58, .ref 59, .ref 60, .int (iZ bs), .int (iZ ee), .int (iZ (pa + 2)), .int (iZ fu), .int (iZ st), .int (iZ so), .int (iZ va), .int (iZ ed), .ref 61, .ref 62, .ref 63, .ref 64, .int (iZ cm), .int (iZ a), .int (iZ x), .int (iZ p), .int (iZ dn), .int (iZ tk), .int (iZ ie), .ref 65, .ref 66, .ref 67, .int (iZ en), .ref 68, .ref 69, .ref 70]) 94 dX9_readPairs_91 fpX9_88_X9 f9 (nle rfl) (vI _) rfl rfl (fun h14 s15 f16 => ?_)
          refine g_aload_n 95 dX9_readPairs_94 rfl rfl ?_
          refine g_iload_n 96 dX9_readPairs_95 rfl rfl ?_
          refine g_bipush (v := iZ (16)) 98 dX9_readPairs_96 (by decide +kernel) rfl ?_
          refine g_iload 100 dX9_readPairs_98 rfl rfl ?_
          refine g_imulZ (16 * z5) 101 dX9_readPairs_100 (by omega) rfl ?_
          refine g_iload 103 dX9_readPairs_101 rfl rfl ?_
          refine g_iaddZ ((16 * z5) + z12) 104 dX9_readPairs_103 (by omega) rfl ?_
          refine g_iload_n 105 dX9_readPairs_104 rfl rfl ?_
          refine g_callV (z := mX9_add) (As := [.int (iZ 12), .int (iZ ((16 * z5) + z12)), .int (iZ pa)]) 108 dX9_readPairs_105 mwX9_add ⟨by decide, by decide⟩ rfl wlX9_115 wiX9_add wsX9_add f16 rfl rfl rfl (nle rfl) (nle rfl) rfl ?_
          have bz16 := osz 12
          have f17 := (s15.get (by decide) (s8.get (by decide) F3))
          have f18 := (s15.get (by decide) (s8.get (by decide) F4))
          have f19 := (s15.get (by decide) (s8.get (by decide) F5))
          refine n_add  f16 f17 f18 f19 obf olf osz (by omega) (by omega) (by omega) (by omega) (by omega) (by omega) (by omega) (by omega) (by omega) (by omega) (by omega) (by omega) (by omega) (by omega) (by omega) (by omega) (by omega) (by omega) (by omega) (by omega) (by omega) (fun h20 g22 g23 g24 og22 og23 og24 p25 p26 s21 f27 f28 f29 => ?_)
          refine rV ?_
          refine g_aload_n 109 dX9_readPairs_108 rfl rfl ?_
          have f30 := (s21.get (by decide) f16)
          refine g_callV (z := mX9_pass) (As := []) 112 dX9_readPairs_109 mwX9_pass ⟨by decide, by decide⟩ rfl wlX9_108 wiX9_pass wsX9_pass f30 rfl rfl rfl (nle rfl) (nle rfl) rfl ?_
          have f31 := (s21.get (by decide) (s15.get (by decide) f10))
          refine n_passI  f30 f31 (by omega) (by omega) (by omega) (by omega) (by omega) (by omega) (by omega) (by omega) (by omega) (by omega) (by omega) (by omega) (by omega) (by omega) (by omega) (by omega) (by omega) (by omega) (fun h32 z34 rz34 p35 p36 s33 f37 => ?_)
          refine rV ?_
          refine g_goto 16 dX9_readPairs_112 rfl ?_
          refine Go.fgt 3 ?_
          refine Go.fgt 4 ?_
          refine Go.fgt 5 ?_
          have f38 := (s33.get (by decide) f31)
          have f39 := (s33.get (by decide) (s21.get (by decide) (s15.get (by decide) (s8.get (by decide) F2))))
          have f40 := (s33.get (by decide) f27)
          have f41 := (s33.get (by decide) f28)
          have f42 := (s33.get (by decide) f29)
          exact ih _ (by omega) _ (bs) (ee) (z34) (fu) (g22) (g23) (g24) rfl (by omega) (by omega) (by omega) (by omega) og22 og23 og24 f37 f38 f39 f40 f41 f42 (add_B p25 p26 (osz 12).1 (by omega) hB) (by rw [p26, up_eq]; omega) (fun hQ xQ0 xQ1 xQ2 xQ3 xQ4 xQ5 xQ6 rQ yQ0 yQ1 yQ2 yQ3 yQ4 yQ5 yQ6 yQ7 pQ0 pQ1 pQ2 sQ uQ0 uQ1 uQ2 uQ3 => k hQ xQ0 xQ1 xQ2 xQ3 xQ4 xQ5 xQ6 rQ yQ0 yQ1 yQ2 yQ3 yQ4 yQ5 yQ6 yQ7 (fun q hq => (pQ0 q hq).trans (add_A p25 (osz 12).1 q hq)) (fun q hq => (pQ1 q hq).trans (add_C p26 q hq)) pQ2 ((((((Sm.refl [50, 54, 55, 56] _).tr s8 (fun _ q => q) (by simp)).tr s15 (fun _ q => q) (by simp)).tr s21 (fun _ q => q) (by simp)).tr s33 (fun _ q => q) (by simp)).tr sQ (fun _ q => q) (fun _ q => q)) uQ0 uQ1 uQ2 uQ3)
        · refine g_aload_n 80 dX9_readPairs_79 rfl rfl ?_
          refine g_get 83 dX9_readPairs_80 faX9_88_X9 f9 rfl rfl ?_
          refine g_iret rfl dX9_readPairs_83 ?_
          have f43 := (s8.get (by decide) F3)
          have f44 := (s8.get (by decide) F4)
          have f45 := (s8.get (by decide) F5)
          exact k _ (bs) (ee) (pa + 1) (fu) (bf) (lf) (sz) (pa + 1) (by omega) (by omega) (by omega) (by omega) obf olf osz (by omega) (fun _ _ => rfl) (fun _ _ => rfl) (by intro q9; first | exact ⟨by omega, hB⟩ | omega) ((Sm.refl [50, 54, 55, 56] _).tr s8 (fun _ q => q) (by simp)) f9 f43 f44 f45
      · refine g_aload_n 49 dX9_readPairs_48 rfl rfl ?_
        refine g_get 52 dX9_readPairs_49 faX9_88_X9 F0 rfl rfl ?_
        refine g_iret rfl dX9_readPairs_52 ?_
        exact k _ (bs) (ee) (pa) (fu) (bf) (lf) (sz) (pa) (by omega) (by omega) (by omega) (by omega) obf olf osz (by omega) (fun _ _ => rfl) (fun _ _ => rfl) (by intro q9; first | exact ⟨by omega, hB⟩ | omega) (Sm.refl [50, 54, 55, 56] _) F0 F3 F4 F5
set_option maxRecDepth 100000 in
theorem n_rp {l : Launch} {h : MH} {Q : Option Value → MH → Prop} {tr : Int64} {mn kt bs ee pa fu st so va ed cm a x p dn tk ie en i : Int} {lg bf lf sz : Nat → Int} {tx : Nat → Int32} (F0 : h[50]? = some (.inr (8, [.long (tr), .ref 51, .int (iZ mn), .ref 52, .ref 53, .int (iZ kt), .ref 54, .ref 55, .ref 56, .ref 57, .ref 58, .ref 59, .ref 60, .int (iZ bs), .int (iZ ee), .int (iZ pa), .int (iZ fu), .int (iZ st), .int (iZ so), .int (iZ va), .int (iZ ed), .ref 61, .ref 62, .ref 63, .ref 64, .int (iZ cm), .int (iZ a), .int (iZ x), .int (iZ p), .int (iZ dn), .int (iZ tk), .int (iZ ie), .ref 65, .ref 66, .ref 67, .int (iZ en), .ref 68, .ref 69, .ref 70]))) (F1 : h[52]? = some (.inl (1, 1600, .inl tx))) (F2 : h[53]? = some (.inl (0, 8, .inl (zA lg)))) (F3 : h[54]? = some (.inl (0, 4096, .inl (zA bf)))) (F4 : h[55]? = some (.inl (0, 4096, .inl (zA lf)))) (F5 : h[56]? = some (.inl (0, 16, .inl (zA sz)))) (olg : oki (0) (200) lg) (obf : okr bf) (olf : oki (0) (300) lf) (osz : oki (0) (256) sz) (rmn : (0 ≤ mn ∧ mn ≤ 200)) (rkt : (0 ≤ kt ∧ kt ≤ 12)) (rbs : (0 ≤ bs ∧ bs ≤ 1400)) (ree : (0 ≤ ee ∧ ee ≤ 200)) (rpa : (0 ≤ pa ∧ pa ≤ 200)) (rfu : (-9 ≤ fu ∧ fu ≤ 200)) (rst : (0 ≤ st ∧ st ≤ 200)) (rso : (0 ≤ so ∧ so ≤ 5)) (rva : (-100 ≤ va ∧ va ≤ 3000)) (red : (0 ≤ ed ∧ ed ≤ 200)) (rcm : (0 ≤ cm ∧ cm ≤ 256)) (ra : (0 ≤ a ∧ a ≤ 255)) (rx : (0 ≤ x ∧ x ≤ 255)) (rp : (0 ≤ p ∧ p ≤ 255)) (rdn : (0 ≤ dn ∧ dn ≤ 5000)) (rtk : (0 ≤ tk ∧ tk ≤ 200)) (rie : (0 ≤ ie ∧ ie ≤ 1)) (ren : (0 ≤ en ∧ en ≤ 12)) (ri : (0 ≤ i ∧ i ≤ 7)) (k : ∀ (h1 : MH) (bs_1 ee_1 pa_1 fu_1 : Int) (bf_1 : Nat → Int) (lf_1 : Nat → Int) (sz_1 : Nat → Int) (r : Int), (0 ≤ bs_1 ∧ bs_1 ≤ 1400) → (0 ≤ ee_1 ∧ ee_1 ≤ 200) → (0 ≤ pa_1 ∧ pa_1 ≤ 200) → (-9 ≤ fu_1 ∧ fu_1 ≤ 200) → okr bf_1 → oki (0) (300) lf_1 → oki (0) (256) sz_1 → (r = -9 ∨ (0 ≤ r ∧ r ≤ 200)) → (∀ q : Nat, q < 3072 → bf_1 q = bf q) → (∀ t : Nat, t ≠ 12 → sz_1 t = sz t) → (r = -9 → 0 < sz_1 12 ∧ ok12 bf_1 sz_1) → Sm [50, 54, 55, 56] h h1 → h1[50]? = some (.inr (8, [.long (tr), .ref 51, .int (iZ mn), .ref 52, .ref 53, .int (iZ kt), .ref 54, .ref 55, .ref 56, .ref 57, .ref 58, .ref 59, .ref 60, .int (iZ bs_1), .int (iZ ee_1), .int (iZ pa_1), .int (iZ fu_1), .int (iZ st), .int (iZ so), .int (iZ va), .int (iZ ed), .ref 61, .ref 62, .ref 63, .ref 64, .int (iZ cm), .int (iZ a), .int (iZ x), .int (iZ p), .int (iZ dn), .int (iZ tk), .int (iZ ie), .ref 65, .ref 66, .ref 67, .int (iZ en), .ref 68, .ref 69, .ref 70])) → h1[54]? = some (.inl (0, 4096, .inl (zA bf_1))) → h1[55]? = some (.inl (0, 4096, .inl (zA lf_1))) → h1[56]? = some (.inl (0, 16, .inl (zA sz_1))) → Q (some (.int (iZ r))) h1) : Go l mX9_readPairs 0 [some (.ref 50), some (.int (iZ i)), some (.int (iZ 12)), none, none, none] [] h Q := by
  refine g_aload_n 1 dX9_readPairs_0 rfl rfl ?_
  refine g_iload_n 2 dX9_readPairs_1 rfl rfl ?_
  refine g_callV (z := mX9_open) (As := [.int (iZ i)]) 5 dX9_readPairs_2 mwX9_open ⟨by decide, by decide⟩ rfl wlX9_104 wiX9_open wsX9_open F0 rfl rfl rfl (nle rfl) (nle rfl) rfl ?_
  refine n_open  F0 F2 olg (by omega) (by omega) (by omega) (by omega) (by omega) (by omega) (by omega) (by omega) (by omega) (by omega) (by omega) (by omega) (by omega) (by omega) (by omega) (by omega) (by omega) (by omega) (by omega) (fun h1 z3 z4 z5 z6 rz3 rz4 rz5 rz6 p7 p8 p9 s2 f10 => ?_)
  refine rV ?_
  refine g_aload_n 6 dX9_readPairs_5 rfl rfl ?_
  refine g_get 9 dX9_readPairs_6 faX9_26_X9 f10 rfl rfl ?_
  refine g_iload_n 10 dX9_readPairs_9 rfl rfl ?_
  refine g_iconst (v := iZ (0)) 11 dX9_readPairs_10 rfl rfl ?_
  have f11 := (s2.get (by decide) F5)
  refine g_iastFj (12) 12 dX9_readPairs_11 f11 (by decide) (by decide) (by decide) rfl rfl (fun h12 s13 f14 => ?_)
  refine g_aload_n 13 dX9_readPairs_12 rfl rfl ?_
  have f15 := (s13.get (by decide) f10)
  refine g_callV (z := mX9_pass) (As := []) 16 dX9_readPairs_13 mwX9_pass ⟨by decide, by decide⟩ rfl wlX9_108 wiX9_pass wsX9_pass f15 rfl rfl rfl (nle rfl) (nle rfl) rfl ?_
  have f16 := (s13.get (by decide) (s2.get (by decide) F1))
  refine n_passI  f15 f16 (by omega) (by omega) (by omega) (by omega) (by omega) (by omega) (by omega) (by omega) (by omega) (by omega) (by omega) (by omega) (by omega) (by omega) (by omega) (by omega) (by omega) (by omega) (fun h17 z19 rz19 p20 p21 s18 f22 => ?_)
  refine rV ?_
  refine Go.fgt 1 ?_
  have f23 := (s18.get (by decide) f16)
  have f24 := (s18.get (by decide) (s13.get (by decide) (s2.get (by decide) F2)))
  have f25 := (s18.get (by decide) (s13.get (by decide) (s2.get (by decide) F3)))
  have f26 := (s18.get (by decide) (s13.get (by decide) (s2.get (by decide) F4)))
  have f27 := (s18.get (by decide) f14)
  exact n_rp_l olg rmn rkt rst rso rva red rcm ra rx rp rdn rtk rie ren _ _ (z3) (z4) (z19) (z6) (bf) (lf) (va_up sz 12 0) rfl (by omega) (by omega) (by omega) (by omega) obf olf (oki_up osz _ (by omega)) f22 f23 f24 f25 f26 f27 ok12_0 (by rw [up_eq]; omega) (fun hQ xQ0 xQ1 xQ2 xQ3 xQ4 xQ5 xQ6 rQ yQ0 yQ1 yQ2 yQ3 yQ4 yQ5 yQ6 yQ7 pQ0 pQ1 pQ2 sQ uQ0 uQ1 uQ2 uQ3 => k hQ xQ0 xQ1 xQ2 xQ3 xQ4 xQ5 xQ6 rQ yQ0 yQ1 yQ2 yQ3 yQ4 yQ5 yQ6 yQ7 (fun q hq => pQ0 q hq) (fun q hq => (pQ1 q hq).trans (up_ne hq)) pQ2 (((((Sm.refl [50, 54, 55, 56] _).tr s2 (fun _ q => q) (by simp)).tr s13 (fun _ q => q) (by simp)).tr s18 (fun _ q => q) (by simp)).tr sQ (fun _ q => q) (fun _ q => q)) uQ0 uQ1 uQ2 uQ3)

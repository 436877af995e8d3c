/-- places 0 .. u of slot s are those of g -/
def eqU (bf : Nat → Int) (s u : Int) (g : Nat → Int) : Prop := ∀ j : Int, 0 ≤ j → j < u → bf (256 * s + j).toNat = g j.toNat
theorem eqU_s {bf g : Nat → Int} {s u : Int} (hs : 0 ≤ s) (hu : 0 ≤ u) (H : eqU bf s u g) : eqU (va_up bf (256 * s + u).toNat (g u.toNat)) s (u + 1) g := by
  intro j h0 h1
  by_cases q : j = u
  · subst q
    rw [up_eq]
  · rw [up_ne (by omega)]
    exact H j h0 (by omega)
theorem eqU_0 {bf g : Nat → Int} {s : Int} : eqU bf s 0 g := fun j h0 h1 => by omega
set_option maxRecDepth 100000 in
theorem f_take_l {l : Launch} {Q : Option Value → MH → Prop} {tr : Int64} {mn kt bs ee pa fu st so va ed cm a x p dn tk ie en sl : Int} {ou ol : Nat → Int} (oou : oki (0) (255) ou) (ool : oki (0) (300) ol) (rmn : (0 ≤ mn ∧ mn ≤ 200)) (rkt : (0 ≤ kt ∧ kt ≤ 12)) (rbs : (0 ≤ bs ∧ bs ≤ 1400)) (ree : (0 ≤ ee ∧ ee ≤ 200)) (rpa : (0 ≤ pa ∧ pa ≤ 200)) (rfu : (-9 ≤ fu ∧ fu ≤ 200)) (rst : (0 ≤ st ∧ st ≤ 200)) (rso : (0 ≤ so ∧ so ≤ 5)) (rva : (-100 ≤ va ∧ va ≤ 3000)) (red : (0 ≤ ed ∧ ed ≤ 200)) (rcm : (0 ≤ cm ∧ cm ≤ 256)) (ra : (0 ≤ a ∧ a ≤ 255)) (rx : (0 ≤ x ∧ x ≤ 255)) (rp : (0 ≤ p ∧ p ≤ 255)) (rdn : (0 ≤ dn ∧ dn ≤ 5000)) (rtk : (0 ≤ tk ∧ tk ≤ 200)) (rie : (0 ≤ ie ∧ ie ≤ 1)) (ren : (0 ≤ en ∧ en ≤ 12)) (rsl : (0 ≤ sl ∧ sl ≤ 15)) : ∀ (m0 : Nat) (h : MH) (bf : Nat → Int) (lf : Nat → Int) (sz : Nat → Int) (u : Int), (cm - u).toNat = m0 → okr bf → oki (0) (300) lf → oki (0) (256) sz → h[50]? = some (.inr (8, [.long (tr), .ref 51, .int (iZ mn), .ref 52, .ref 53, .int (iZ kt), .ref 54, .ref 55, .ref 56, .ref 57, .ref 58, .ref 59, .ref 60, .int (iZ bs), .int (iZ ee), .int (iZ pa), .int (iZ fu), .int (iZ st), .int (iZ so), .int (iZ va), .int (iZ ed), .ref 61, .ref 62, .ref 63, .ref 64, .int (iZ cm), .int (iZ a), .int (iZ x), .int (iZ p), .int (iZ dn), .int (iZ tk), .int (iZ ie), .ref 65, .ref 66, .ref 67, .int (iZ en), .ref 68, .ref 69, .ref 70])) → h[54]? = some (.inl (0, 4096, .inl (zA bf))) → h[55]? = some (.inl (0, 4096, .inl (zA lf))) → h[56]? = some (.inl (0, 16, .inl (zA sz))) → h[63]? = some (.inl (0, 256, .inl (zA ou))) → h[64]? = some (.inl (0, 256, .inl (zA ol))) → 0 ≤ u ∧ u ≤ cm → eqU bf sl u ou → eqU lf sl u ol → (∀ (h1 : MH) (bf_1 : Nat → Int) (lf_1 : Nat → Int) (sz_1 : Nat → Int), okr bf_1 → oki (0) (300) lf_1 → oki (0) (256) sz_1 → (∀ q : Nat, ((q : Int) < 256 * sl ∨ 256 * sl + 256 ≤ q) → bf_1 q = bf q) → (∀ q : Nat, ((q : Int) < 256 * sl ∨ 256 * sl + 256 ≤ q) → lf_1 q = lf q) → (eqU bf_1 sl cm ou) → (eqU lf_1 sl cm ol) → (sz_1 = va_up sz sl.toNat cm) → Sm [54, 55, 56] h h1 → h1[54]? = some (.inl (0, 4096, .inl (zA bf_1))) → h1[55]? = some (.inl (0, 4096, .inl (zA lf_1))) → h1[56]? = some (.inl (0, 16, .inl (zA sz_1))) → Q none h1) → Go l mX9_take 2 [some (.ref 50), some (.int (iZ sl)), some (.int (iZ u))] [] h Q := by
  intro m0
  induction m0 using Nat.strongRecOn with
  | ind m0 ih =>
    intro h bf lf sz u hmz obf olf osz F0 F1 F2 F3 F4 F5 hu hU hV k
    refine g_iload_n 3 dX9_take_2 rfl rfl ?_
    refine g_aload_n 4 dX9_take_3 rfl rfl ?_
    refine g_get 7 dX9_take_4 faX9_184_X9 F0 rfl rfl ?_
    refine g_icZ_ge 52 10 dX9_take_7 rfl rfl (by omega) (by omega) (fun c1 => ?_) (fun c1 => ?_)
    · refine g_aload_n 53 dX9_take_52 rfl rfl ?_
      refine g_get 56 dX9_take_53 faX9_26_X9 F0 rfl rfl ?_
      refine g_iload_n 57 dX9_take_56 rfl rfl ?_
      refine g_aload_n 58 dX9_take_57 rfl rfl ?_
      refine g_get 61 dX9_take_58 faX9_184_X9 F0 rfl rfl ?_
      refine g_iastFj (sl.toNat) 62 dX9_take_61 F3 (by omega) (by omega) (by decide) rfl rfl (fun h2 s3 f4 => ?_)
      refine g_vret rfl dX9_take_62 ?_
      have f5 := (s3.get (by decide) F1)
      have f6 := (s3.get (by decide) F2)
      exact k _ (bf) (lf) (va_up sz sl.toNat cm) obf olf (oki_up osz _ (by omega)) (fun _ _ => rfl) (fun _ _ => rfl) (fun j h0 h1 => hU j h0 (by omega)) (fun j h0 h1 => hV j h0 (by omega)) rfl ((Sm.refl [54, 55, 56] _).tr s3 (fun _ q => q) (by simp)) f5 f6 f4
    · refine g_aload_n 11 dX9_take_10 rfl rfl ?_
      refine g_get 14 dX9_take_11 faX9_20_X9 F0 rfl rfl ?_
      refine g_sipush (v := iZ (256)) 17 dX9_take_14 (by decide +kernel) rfl ?_
      refine g_iload_n 18 dX9_take_17 rfl rfl ?_
      refine g_imulZ (256 * sl) 19 dX9_take_18 (by omega) rfl ?_
      refine g_iload_n 20 dX9_take_19 rfl rfl ?_
      refine g_iaddZ ((256 * sl) + u) 21 dX9_take_20 (by omega) rfl ?_
      refine g_aload_n 22 dX9_take_21 rfl rfl ?_
      refine g_get 25 dX9_take_22 faX9_47_X9 F0 rfl rfl ?_
      refine g_iload_n 26 dX9_take_25 rfl rfl ?_
      have b7 := oou ((u).toNat)
      refine g_ialdZ (v := iZ (ou u.toNat)) 27 dX9_take_26 F4 (by omega) (by omega) (by decide) rfl rfl ?_
      refine g_iastFj (((256 * sl) + u).toNat) 28 dX9_take_27 F1 (by omega) (by omega) (by decide) rfl rfl (fun h8 s9 f10 => ?_)
      refine g_aload_n 29 dX9_take_28 rfl rfl ?_
      have f11 := (s9.get (by decide) F0)
      refine g_get 32 dX9_take_29 faX9_23_X9 f11 rfl rfl ?_
      refine g_sipush (v := iZ (256)) 35 dX9_take_32 (by decide +kernel) rfl ?_
      refine g_iload_n 36 dX9_take_35 rfl rfl ?_
      refine g_imulZ (256 * sl) 37 dX9_take_36 (by omega) rfl ?_
      refine g_iload_n 38 dX9_take_37 rfl rfl ?_
      refine g_iaddZ ((256 * sl) + u) 39 dX9_take_38 (by omega) rfl ?_
      refine g_aload_n 40 dX9_take_39 rfl rfl ?_
      refine g_get 43 dX9_take_40 faX9_50_X9 f11 rfl rfl ?_
      refine g_iload_n 44 dX9_take_43 rfl rfl ?_
      have f12 := (s9.get (by decide) F5)
      have b13 := ool ((u).toNat)
      refine g_ialdZ (v := iZ (ol u.toNat)) 45 dX9_take_44 f12 (by omega) (by omega) (by decide) rfl rfl ?_
      have f14 := (s9.get (by decide) F2)
      refine g_iastFj (((256 * sl) + u).toNat) 46 dX9_take_45 f14 (by omega) (by omega) (by decide) rfl rfl (fun h15 s16 f17 => ?_)
      refine g_iincZ [some (.ref 50), some (.int (iZ sl)), some (.int (iZ (u + 1)))] 49 dX9_take_46 rfl (by omega) (by decide) rfl rfl rfl ?_
      refine g_goto 2 dX9_take_49 rfl ?_
      have f18 := (s16.get (by decide) f11)
      have f19 := (s16.get (by decide) f10)
      have f20 := (s16.get (by decide) (s9.get (by decide) F3))
      have f21 := (s16.get (by decide) (s9.get (by decide) F4))
      have f22 := (s16.get (by decide) f12)
      exact ih _ (by omega) _ (va_up bf ((256 * sl) + u).toNat (ou u.toNat)) (va_up lf ((256 * sl) + u).toNat (ol u.toNat)) (sz) (u + 1) rfl (okr_up obf _ (by omega)) (oki_up olf _ (by omega)) osz f18 f19 f17 f20 f21 f22 (by omega) (eqU_s (by omega) (by omega) hU) (eqU_s (by omega) (by omega) hV) (fun hQ xQ0 xQ1 xQ2 yQ0 yQ1 yQ2 pQ0 pQ1 pQ2 pQ3 pQ4 sQ uQ0 uQ1 uQ2 => k hQ xQ0 xQ1 xQ2 yQ0 yQ1 yQ2 (fun q hq => (pQ0 q hq).trans (tk_A (by omega) (by omega) hq)) (fun q hq => (pQ1 q hq).trans (tk_A (by omega) (by omega) hq)) pQ2 pQ3 pQ4 ((((Sm.refl [54, 55, 56] _).tr s9 (fun _ q => q) (by simp)).tr s16 (fun _ q => q) (by simp)).tr sQ (fun _ q => q) (fun _ q => q)) uQ0 uQ1 uQ2)
set_option maxRecDepth 100000 in
theorem f_take {l : Launch} {h : MH} {Q : Option Value → MH → Prop} {tr : Int64} {mn kt bs ee pa fu st so va ed cm a x p dn tk ie en sl : Int} {bf lf sz ou ol : Nat → Int} (F0 : h[50]? = some (.inr (8, [.long (tr), .ref 51, .int (iZ mn), .ref 52, .ref 53, .int (iZ kt), .ref 54, .ref 55, .ref 56, .ref 57, .ref 58, .ref 59, .ref 60, .int (iZ bs), .int (iZ ee), .int (iZ pa), .int (iZ fu), .int (iZ st), .int (iZ so), .int (iZ va), .int (iZ ed), .ref 61, .ref 62, .ref 63, .ref 64, .int (iZ cm), .int (iZ a), .int (iZ x), .int (iZ p), .int (iZ dn), .int (iZ tk), .int (iZ ie), .ref 65, .ref 66, .ref 67, .int (iZ en), .ref 68, .ref 69, .ref 70]))) (F1 : h[54]? = some (.inl (0, 4096, .inl (zA bf)))) (F2 : h[55]? = some (.inl (0, 4096, .inl (zA lf)))) (F3 : h[56]? = some (.inl (0, 16, .inl (zA sz)))) (F4 : h[63]? = some (.inl (0, 256, .inl (zA ou)))) (F5 : h[64]? = some (.inl (0, 256, .inl (zA ol)))) (obf : okr bf) (olf : oki (0) (300) lf) (osz : oki (0) (256) sz) (oou : oki (0) (255) ou) (ool : oki (0) (300) ol) (rmn : (0 ≤ mn ∧ mn ≤ 200)) (rkt : (0 ≤ kt ∧ kt ≤ 12)) (rbs : (0 ≤ bs ∧ bs ≤ 1400)) (ree : (0 ≤ ee ∧ ee ≤ 200)) (rpa : (0 ≤ pa ∧ pa ≤ 200)) (rfu : (-9 ≤ fu ∧ fu ≤ 200)) (rst : (0 ≤ st ∧ st ≤ 200)) (rso : (0 ≤ so ∧ so ≤ 5)) (rva : (-100 ≤ va ∧ va ≤ 3000)) (red : (0 ≤ ed ∧ ed ≤ 200)) (rcm : (0 ≤ cm ∧ cm ≤ 256)) (ra : (0 ≤ a ∧ a ≤ 255)) (rx : (0 ≤ x ∧ x ≤ 255)) (rp : (0 ≤ p ∧ p ≤ 255)) (rdn : (0 ≤ dn ∧ dn ≤ 5000)) (rtk : (0 ≤ tk ∧ tk ≤ 200)) (rie : (0 ≤ ie ∧ ie ≤ 1)) (ren : (0 ≤ en ∧ en ≤ 12)) (rsl : (0 ≤ sl ∧ sl ≤ 15)) (k : ∀ (h1 : MH) (bf_1 : Nat → Int) (lf_1 : Nat → Int) (sz_1 : Nat → Int), okr bf_1 → oki (0) (300) lf_1 → oki (0) (256) sz_1 → (∀ q : Nat, ((q : Int) < 256 * sl ∨ 256 * sl + 256 ≤ q) → bf_1 q = bf q) → (∀ q : Nat, ((q : Int) < 256 * sl ∨ 256 * sl + 256 ≤ q) → lf_1 q = lf q) → (eqU bf_1 sl cm ou) → (eqU lf_1 sl cm ol) → (sz_1 = va_up sz sl.toNat cm) → Sm [54, 55, 56] h h1 → h1[54]? = some (.inl (0, 4096, .inl (zA bf_1))) → h1[55]? = some (.inl (0, 4096, .inl (zA lf_1))) → h1[56]? = some (.inl (0, 16, .inl (zA sz_1))) → Q none h1) : Go l mX9_take 0 [some (.ref 50), some (.int (iZ sl)), none] [] h Q := by
  refine g_iconst (v := iZ (0)) 1 dX9_take_0 rfl rfl ?_
  refine g_istore_n (L1 := [some (.ref 50), some (.int (iZ sl)), some (.int (iZ 0))]) 2 dX9_take_1 (by decide) rfl rfl rfl ?_
  exact f_take_l oou ool rmn rkt rbs ree rpa rfu rst rso rva red rcm ra rx rp rdn rtk rie ren rsl _ _ (bf) (lf) (sz) (0) rfl obf olf osz F0 F1 F2 F3 F4 F5 (by omega) eqU_0 eqU_0 k
def msC (s : MS) : Int := s.2.2.2.2.2.2.1
def msO (s : MS) : Nat → Int := s.2.2.2.2.2.2.2.2.1
def msL (s : MS) : Nat → Int := s.2.2.2.2.2.2.2.2.2
/-- builds: 0, and the slot holds what was put out; or nothing of use came -/
def bldR (RES : Int × MS) (r : Int) (bf lf sz : Nat → Int) (to : Int) : Prop := (r = 0 ∧ RES.1 = 0 ∧ 0 < msC RES.2 ∧ sz to.toNat = msC RES.2 ∧ eqU bf to (msC RES.2) (msO RES.2) ∧ eqU lf to (msC RES.2) (msL RES.2)) ∨ (r ≠ 0 ∧ ¬ (RES.1 = 0 ∧ 0 < msC RES.2))
theorem bldR_y {RES : Int × MS} {r hm a x p e d t c to : Int} {m ou ol bf lf sz : Nat → Int} (h : goR RES hm a x p e d t c m ou ol) (h0 : hm = 0) (hc : 0 < c) (hr : r = 0) (h1 : sz to.toNat = c) (h2 : eqU bf to c ou) (h3 : eqU lf to c ol) : bldR RES r bf lf sz to := by
  unfold goR at h
  subst h
  exact Or.inl ⟨hr, if_pos h0, hc, h1, h2, h3⟩
theorem bldR_n {RES : Int × MS} {r hm a x p e d t c to : Int} {m ou ol bf lf sz : Nat → Int} (h : goR RES hm a x p e d t c m ou ol) (hn : ¬ (hm = 0 ∧ 0 < c)) (hr : r ≠ 0) : bldR RES r bf lf sz to := by
  unfold goR at h
  subst h
  refine Or.inr ⟨hr, fun z => hn ⟨?_, z.2⟩⟩
  have z1 := z.1
  by_cases q : hm = 0
  · exact q
  · change (if hm = 0 then (0 : Int) else 1) = 0 at z1
    rw [if_neg q] at z1
    omega
set_option maxRecDepth 100000 in
theorem f_blds {l : Launch} {h : MH} {Q : Option Value → MH → Prop} {tr : Int64} {mn kt bs ee pa fu st so va ed cm a x p dn tk ie en sl i to : Int} {lg bf lf sz mm ou ol : Nat → Int} {tx : Nat → Int32} (F0 : h[50]? = some (.inr (8, [.long (tr), .ref 51, .int (iZ mn), .ref 52, .ref 53, .int (iZ kt), .ref 54, .ref 55, .ref 56, .ref 57, .ref 58, .ref 59, .ref 60, .int (iZ bs), .int (iZ ee), .int (iZ pa), .int (iZ fu), .int (iZ st), .int (iZ so), .int (iZ va), .int (iZ ed), .ref 61, .ref 62, .ref 63, .ref 64, .int (iZ cm), .int (iZ a), .int (iZ x), .int (iZ p), .int (iZ dn), .int (iZ tk), .int (iZ ie), .ref 65, .ref 66, .ref 67, .int (iZ en), .ref 68, .ref 69, .ref 70]))) (F1 : h[52]? = some (.inl (1, 1600, .inl tx))) (F2 : h[53]? = some (.inl (0, 8, .inl (zA lg)))) (F3 : h[54]? = some (.inl (0, 4096, .inl (zA bf)))) (F4 : h[55]? = some (.inl (0, 4096, .inl (zA lf)))) (F5 : h[56]? = some (.inl (0, 16, .inl (zA sz)))) (F6 : h[62]? = some (.inl (0, 256, .inl (zA mm)))) (F7 : h[63]? = some (.inl (0, 256, .inl (zA ou)))) (F8 : h[64]? = some (.inl (0, 256, .inl (zA ol)))) (olg : oki (0) (200) lg) (obf : okr bf) (olf : oki (0) (300) lf) (osz : oki (0) (256) sz) (omm : oki (0) (255) mm) (oou : oki (0) (255) ou) (ool : oki (0) (300) ol) (rmn : (0 ≤ mn ∧ mn ≤ 200)) (rkt : (0 ≤ kt ∧ kt ≤ 12)) (rbs : (0 ≤ bs ∧ bs ≤ 1400)) (ree : (0 ≤ ee ∧ ee ≤ 200)) (rpa : (0 ≤ pa ∧ pa ≤ 200)) (rfu : (-9 ≤ fu ∧ fu ≤ 200)) (rst : (0 ≤ st ∧ st ≤ 200)) (rso : (0 ≤ so ∧ so ≤ 5)) (rva : (-100 ≤ va ∧ va ≤ 3000)) (red : (0 ≤ ed ∧ ed ≤ 200)) (rcm : (0 ≤ cm ∧ cm ≤ 256)) (ra : (0 ≤ a ∧ a ≤ 255)) (rx : (0 ≤ x ∧ x ≤ 255)) (rp : (0 ≤ p ∧ p ≤ 255)) (rdn : (0 ≤ dn ∧ dn ≤ 5000)) (rtk : (0 ≤ tk ∧ tk ≤ 200)) (rie : (0 ≤ ie ∧ ie ≤ 1)) (ren : (0 ≤ en ∧ en ≤ 12)) (rsl : (0 ≤ sl ∧ sl ≤ 15)) (ri : (0 ≤ i ∧ i ≤ 7)) (rto : (12 ≤ to ∧ to ≤ 15)) (hS : okS bf sz sl) (k : ∀ (h1 : MH) (cm_1 a_1 x_1 p_1 dn_1 tk_1 ie_1 : Int) (bf_1 : Nat → Int) (lf_1 : Nat → Int) (sz_1 : Nat → Int) (mm_1 : Nat → Int) (ou_1 : Nat → Int) (ol_1 : Nat → Int) (r : Int), (0 ≤ cm_1 ∧ cm_1 ≤ 256) → (0 ≤ a_1 ∧ a_1 ≤ 255) → (0 ≤ x_1 ∧ x_1 ≤ 255) → (0 ≤ p_1 ∧ p_1 ≤ 255) → (0 ≤ dn_1 ∧ dn_1 ≤ 5000) → (0 ≤ tk_1 ∧ tk_1 ≤ 200) → (0 ≤ ie_1 ∧ ie_1 ≤ 1) → okr bf_1 → oki (0) (300) lf_1 → oki (0) (256) sz_1 → oki (0) (255) mm_1 → oki (0) (255) ou_1 → oki (0) (300) ol_1 → (0 ≤ r ∧ r ≤ 4) → (∀ q : Nat, ((q : Int) < 256 * to ∨ 256 * to + 256 ≤ q) → bf_1 q = bf q) → (∀ q : Nat, ((q : Int) < 256 * to ∨ 256 * to + 256 ≤ q) → lf_1 q = lf q) → (∀ t : Nat, t ≠ to.toNat → sz_1 t = sz t) → (bldR (mrun (lg i.toNat) (fun j => hb tx (200 * i + j)) (sz sl.toNat) (fun j => bf (256 * sl + j).toNat) ou ol) r bf_1 lf_1 sz_1 to) → (r = 0 → okS bf_1 sz_1 to) → Sm [50, 54, 55, 56, 62, 63, 64] h h1 → h1[50]? = some (.inr (8, [.long (tr), .ref 51, .int (iZ mn), .ref 52, .ref 53, .int (iZ kt), .ref 54, .ref 55, .ref 56, .ref 57, .ref 58, .ref 59, .ref 60, .int (iZ bs), .int (iZ ee), .int (iZ pa), .int (iZ fu), .int (iZ st), .int (iZ so), .int (iZ va), .int (iZ ed), .ref 61, .ref 62, .ref 63, .ref 64, .int (iZ cm_1), .int (iZ a_1), .int (iZ x_1), .int (iZ p_1), .int (iZ dn_1), .int (iZ tk_1), .int (iZ ie_1), .ref 65, .ref 66, .ref 67, .int (iZ en), .ref 68, .ref 69, .ref 70])) → h1[54]? = some (.inl (0, 4096, .inl (zA bf_1))) → h1[55]? = some (.inl (0, 4096, .inl (zA lf_1))) → h1[56]? = some (.inl (0, 16, .inl (zA sz_1))) → h1[62]? = some (.inl (0, 256, .inl (zA mm_1))) → h1[63]? = some (.inl (0, 256, .inl (zA ou_1))) → h1[64]? = some (.inl (0, 256, .inl (zA ol_1))) → Q (some (.int (iZ r))) h1) : Go l mX9_builds 0 [some (.ref 50), some (.int (iZ sl)), some (.int (iZ i)), some (.int (iZ to)), none] [] h Q := by
  refine g_aload_n 1 dX9_builds_0 rfl rfl ?_
  refine g_iload_n 2 dX9_builds_1 rfl rfl ?_
  refine g_iload_n 3 dX9_builds_2 rfl rfl ?_
  refine g_callV (z := mX9_go) (As := [.int (iZ sl), .int (iZ i)]) 6 dX9_builds_3 mwX9_go ⟨by decide, by decide⟩ rfl wlX9_205 wiX9_go wsX9_go F0 rfl rfl rfl (nle rfl) (nle rfl) rfl ?_
  refine f_go  F0 F1 F2 F3 F5 F6 F7 F8 olg obf osz omm oou ool (by omega) (by omega) (by omega) (by omega) (by omega) (by omega) (by omega) (by omega) (by omega) (by omega) (by omega) (by omega) (by omega) (by omega) (by omega) (by omega) (by omega) (by omega) (by omega) (by omega) hS (fun h1 z3 z4 z5 z6 z7 z8 z9 g10 g11 g12 z13 rz3 rz4 rz5 rz6 rz7 rz8 rz9 og10 og11 og12 rz13 p14 s2 f15 f16 f17 f18 => ?_)
  refine rI ?_
  refine g_istore (L1 := [some (.ref 50), some (.int (iZ sl)), some (.int (iZ i)), some (.int (iZ to)), some (.int (iZ z13))]) 8 dX9_builds_6 (by decide) rfl rfl rfl ?_
  refine g_iload 10 dX9_builds_8 rfl rfl ?_
  refine g_ifZ_ne 25 13 dX9_builds_10 rfl rfl (by omega) (fun c19 => ?_) (fun c19 => ?_)
  · refine g_iload 27 dX9_builds_25 rfl rfl ?_
    refine g_ifZ_le 35 30 dX9_builds_27 rfl rfl (by omega) (fun c20 => ?_) (fun c20 => ?_)
    · refine g_aload_n 36 dX9_builds_35 rfl rfl ?_
      refine g_get 39 dX9_builds_36 faX9_184_X9 f15 rfl rfl ?_
      refine g_ifZ_ne 46 42 dX9_builds_39 rfl rfl (by omega) (fun c21 => ?_) (fun c21 => ?_)
      · refine g_iconst (v := iZ (0)) 47 dX9_builds_46 rfl rfl ?_
        refine g_iret rfl dX9_builds_47 ?_
        have f22 := (s2.get (by decide) F3)
        have f23 := (s2.get (by decide) F4)
        have f24 := (s2.get (by decide) F5)
        exact k _ (z3) (z4) (z5) (z6) (z7) (z8) (z9) (bf) (lf) (sz) (g10) (g11) (g12) (0) (by omega) (by omega) (by omega) (by omega) (by omega) (by omega) (by omega) obf olf osz og10 og11 og12 (by omega) (fun _ _ => rfl) (fun _ _ => rfl) (fun _ _ => rfl) (bldR_n p14 (by omega) (by omega)) (fun z => by omega) ((Sm.refl [50, 54, 55, 56, 62, 63, 64] _).tr s2 (fun _ q => q) (by simp)) f15 f22 f23 f24 f16 f17 f18
      · refine g_iconst (v := iZ (4)) 43 dX9_builds_42 rfl rfl ?_
        refine g_goto 47 dX9_builds_43 rfl ?_
        refine g_iret rfl dX9_builds_47 ?_
        have f25 := (s2.get (by decide) F3)
        have f26 := (s2.get (by decide) F4)
        have f27 := (s2.get (by decide) F5)
        exact k _ (z3) (z4) (z5) (z6) (z7) (z8) (z9) (bf) (lf) (sz) (g10) (g11) (g12) (4) (by omega) (by omega) (by omega) (by omega) (by omega) (by omega) (by omega) obf olf osz og10 og11 og12 (by omega) (fun _ _ => rfl) (fun _ _ => rfl) (fun _ _ => rfl) (bldR_n p14 (by omega) (by omega)) (fun z => by omega) ((Sm.refl [50, 54, 55, 56, 62, 63, 64] _).tr s2 (fun _ q => q) (by simp)) f15 f25 f26 f27 f16 f17 f18
    · refine g_iload 32 dX9_builds_30 rfl rfl ?_
      refine g_goto 47 dX9_builds_32 rfl ?_
      refine g_iret rfl dX9_builds_47 ?_
      have f28 := (s2.get (by decide) F3)
      have f29 := (s2.get (by decide) F4)
      have f30 := (s2.get (by decide) F5)
      exact k _ (z3) (z4) (z5) (z6) (z7) (z8) (z9) (bf) (lf) (sz) (g10) (g11) (g12) (z13) (by omega) (by omega) (by omega) (by omega) (by omega) (by omega) (by omega) obf olf osz og10 og11 og12 (by omega) (fun _ _ => rfl) (fun _ _ => rfl) (fun _ _ => rfl) (bldR_n p14 (by omega) (by omega)) (fun z => by omega) ((Sm.refl [50, 54, 55, 56, 62, 63, 64] _).tr s2 (fun _ q => q) (by simp)) f15 f28 f29 f30 f16 f17 f18
  · refine g_aload_n 14 dX9_builds_13 rfl rfl ?_
    refine g_get 17 dX9_builds_14 faX9_184_X9 f15 rfl rfl ?_
    refine g_ifZ_le 25 20 dX9_builds_17 rfl rfl (by omega) (fun c31 => ?_) (fun c31 => ?_)
    · refine g_iload 27 dX9_builds_25 rfl rfl ?_
      refine g_ifZ_le 35 30 dX9_builds_27 rfl rfl (by omega) (fun _ => ?_) (fun q => absurd q (by omega))
      refine g_aload_n 36 dX9_builds_35 rfl rfl ?_
      refine g_get 39 dX9_builds_36 faX9_184_X9 f15 rfl rfl ?_
      refine g_ifZ_ne 46 42 dX9_builds_39 rfl rfl (by omega) (fun q => absurd q (by omega)) (fun _ => ?_)
      refine g_iconst (v := iZ (4)) 43 dX9_builds_42 rfl rfl ?_
      refine g_goto 47 dX9_builds_43 rfl ?_
      refine g_iret rfl dX9_builds_47 ?_
      have f32 := (s2.get (by decide) F3)
      have f33 := (s2.get (by decide) F4)
      have f34 := (s2.get (by decide) F5)
      exact k _ (z3) (z4) (z5) (z6) (z7) (z8) (z9) (bf) (lf) (sz) (g10) (g11) (g12) (4) (by omega) (by omega) (by omega) (by omega) (by omega) (by omega) (by omega) obf olf osz og10 og11 og12 (by omega) (fun _ _ => rfl) (fun _ _ => rfl) (fun _ _ => rfl) (bldR_n p14 (by omega) (by omega)) (fun z => by omega) ((Sm.refl [50, 54, 55, 56, 62, 63, 64] _).tr s2 (fun _ q => q) (by simp)) f15 f32 f33 f34 f16 f17 f18
    · refine g_aload_n 21 dX9_builds_20 rfl rfl ?_
      refine g_iload_n 22 dX9_builds_21 rfl rfl ?_
      refine g_callV (z := mX9_take) (As := [.int (iZ to)]) 25 dX9_builds_22 mwX9_take ⟨by decide, by decide⟩ rfl wlX9_208 wiX9_take wsX9_take f15 rfl rfl rfl (nle rfl) (nle rfl) rfl ?_
      have f35 := (s2.get (by decide) F3)
      have f36 := (s2.get (by decide) F4)
      have f37 := (s2.get (by decide) F5)
      refine f_take  f15 f35 f36 f37 f17 f18 obf olf osz og11 og12 (by omega) (by omega) (by omega) (by omega) (by omega) (by omega) (by omega) (by omega) (by omega) (by omega) (by omega) (by omega) (by omega) (by omega) (by omega) (by omega) (by omega) (by omega) (by omega) (fun h38 g40 g41 g42 og40 og41 og42 p43 p44 p45 p46 p47 s39 f48 f49 f50 => ?_)
      refine rV ?_
      refine g_iload 27 dX9_builds_25 rfl rfl ?_
      refine g_ifZ_le 35 30 dX9_builds_27 rfl rfl (by omega) (fun _ => ?_) (fun q => absurd q (by omega))
      refine g_aload_n 36 dX9_builds_35 rfl rfl ?_
      have f51 := (s39.get (by decide) f15)
      refine g_get 39 dX9_builds_36 faX9_184_X9 f51 rfl rfl ?_
      refine g_ifZ_ne 46 42 dX9_builds_39 rfl rfl (by omega) (fun _ => ?_) (fun q => absurd q (by omega))
      refine g_iconst (v := iZ (0)) 47 dX9_builds_46 rfl rfl ?_
      refine g_iret rfl dX9_builds_47 ?_
      have f52 := (s39.get (by decide) f16)
      have f53 := (s39.get (by decide) f17)
      have f54 := (s39.get (by decide) f18)
      exact k _ (z3) (z4) (z5) (z6) (z7) (z8) (z9) (g40) (g41) (g42) (g10) (g11) (g12) (0) (by omega) (by omega) (by omega) (by omega) (by omega) (by omega) (by omega) og40 og41 og42 og10 og11 og12 (by omega) p43 p44 (fun t ht => by rw [p47]; exact up_ne ht) (bldR_y p14 (by omega) (by omega) (by omega) (by rw [p47, up_eq]) p45 p46) (fun _ j h0 h1 => by
    have h2 := p45 j h0 (by rw [p47, up_eq] at h1; exact h1)
    rw [h2]
    exact og11 _) (((Sm.refl [50, 54, 55, 56, 62, 63, 64] _).tr s2 (fun _ q => q) (by simp)).tr s39 (fun _ q => q) (by simp)) f51 f48 f49 f50 f52 f53 f54

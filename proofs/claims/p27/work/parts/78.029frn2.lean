set_option maxHeartbeats 2000000 in
set_option maxRecDepth 100000 in
theorem f_rn2_l {l : Launch} {Q : Option Value → MH → Prop} {tr : Int64} {mn kt bs ee cm a x p dn tk ie en : Int} {tx : Nat → Int32} {RES : NR} (rmn : (0 ≤ mn ∧ mn ≤ 200)) (rkt : (0 ≤ kt ∧ kt ≤ 12)) (rbs : (0 ≤ bs ∧ bs ≤ 1400)) (ree : (0 ≤ ee ∧ ee ≤ 200)) (rcm : (0 ≤ cm ∧ cm ≤ 256)) (ra : (0 ≤ a ∧ a ≤ 255)) (rx : (0 ≤ x ∧ x ≤ 255)) (rp : (0 ≤ p ∧ p ≤ 255)) (rdn : (0 ≤ dn ∧ dn ≤ 5000)) (rtk : (0 ≤ tk ∧ tk ≤ 200)) (rie : (0 ≤ ie ∧ ie ≤ 1)) (ren : (0 ≤ en ∧ en ≤ 12)) (hB : okB tx) : ∀ (m0 : Nat) (h : MH) (pa fu st so va ed : Int) (bf : Nat → Int) (lf : Nat → Int) (sz : Nat → Int) (pl : Nat → Int), (201 - st).toNat = m0 → (0 ≤ pa ∧ pa ≤ 200) → (-9 ≤ fu ∧ fu ≤ 200) → (0 ≤ st ∧ st ≤ 200) → (0 ≤ so ∧ so ≤ 5) → (-100 ≤ va ∧ va ≤ 3000) → (0 ≤ ed ∧ ed ≤ 200) → okr bf → oki (0) (300) lf → oki (0) (256) sz → oki (-9) (255) pl → h[50]? = some (.inr (8, [.long (tr), .ref 51, .int (iZ mn), .ref 52, .ref 53, .int (iZ kt), .ref 54, .ref 55, .ref 56, .ref 57, .ref 58, .ref 59, .ref 60, .int (iZ bs), .int (iZ ee), .int (iZ pa), .int (iZ fu), .int (iZ st), .int (iZ so), .int (iZ va), .int (iZ ed), .ref 61, .ref 62, .ref 63, .ref 64, .int (iZ cm), .int (iZ a), .int (iZ x), .int (iZ p), .int (iZ dn), .int (iZ tk), .int (iZ ie), .ref 65, .ref 66, .ref 67, .int (iZ en), .ref 68, .ref 69, .ref 70])) → h[52]? = some (.inl (1, 1600, .inl tx)) → h[54]? = some (.inl (0, 4096, .inl (zA bf))) → h[55]? = some (.inl (0, 4096, .inl (zA lf))) → h[56]? = some (.inl (0, 16, .inl (zA sz))) → h[61]? = some (.inl (0, 26, .inl (zA pl))) → fu = -9 → st ≤ ee ∧ st ≤ pa ∧ pa ≤ ee ∧ sz 12 ≤ st → tkT ee (fun j => hb tx (bs + j)) st so va pa → okn pl → okW bf (sz 12) → nmR0 RES ee (fun j => hb tx (bs + j)) st (sz 12) (sl12 bf) (sl12 lf) pl → (∀ (h1 : MH) (pa_1 fu_1 st_1 so_1 va_1 ed_1 : Int) (bf_1 : Nat → Int) (lf_1 : Nat → Int) (sz_1 : Nat → Int) (pl_1 : Nat → Int) (r : Int), (0 ≤ pa_1 ∧ pa_1 ≤ 200) → (-9 ≤ fu_1 ∧ fu_1 ≤ 200) → (0 ≤ st_1 ∧ st_1 ≤ 200) → (0 ≤ so_1 ∧ so_1 ≤ 5) → (-100 ≤ va_1 ∧ va_1 ≤ 3000) → (0 ≤ ed_1 ∧ ed_1 ≤ 200) → okr bf_1 → oki (0) (300) lf_1 → oki (0) (256) sz_1 → oki (-9) (255) pl_1 → (r = -9 ∨ (0 ≤ r ∧ r ≤ 300)) → (∀ q : Nat, q < 3072 → bf_1 q = bf q) → (∀ q : Nat, q < 3072 → lf_1 q = lf q) → (∀ t : Nat, t ≠ 12 → sz_1 t = sz t) → (r = -9 → 0 < sz_1 12 ∧ ok12 bf_1 sz_1) → (nrR (nmP RES) r (sz_1 12) (sl12 bf_1) (sl12 lf_1)) → Sm [50, 54, 55, 56, 61] h h1 → h1[50]? = some (.inr (8, [.long (tr), .ref 51, .int (iZ mn), .ref 52, .ref 53, .int (iZ kt), .ref 54, .ref 55, .ref 56, .ref 57, .ref 58, .ref 59, .ref 60, .int (iZ bs), .int (iZ ee), .int (iZ pa_1), .int (iZ fu_1), .int (iZ st_1), .int (iZ so_1), .int (iZ va_1), .int (iZ ed_1), .ref 61, .ref 62, .ref 63, .ref 64, .int (iZ cm), .int (iZ a), .int (iZ x), .int (iZ p), .int (iZ dn), .int (iZ tk), .int (iZ ie), .ref 65, .ref 66, .ref 67, .int (iZ en), .ref 68, .ref 69, .ref 70])) → h1[54]? = some (.inl (0, 4096, .inl (zA bf_1))) → h1[55]? = some (.inl (0, 4096, .inl (zA lf_1))) → h1[56]? = some (.inl (0, 16, .inl (zA sz_1))) → h1[61]? = some (.inl (0, 26, .inl (zA pl_1))) → Q (some (.int (iZ r))) h1) → Go l mX9_readNames 38 [some (.ref 50), none, some (.int (iZ 12)), none, none, none, none] [] h Q := by
  intro m0
  induction m0 using Nat.strongRecOn with
  | ind m0 ih =>
    intro h pa fu st so va ed bf lf sz pl hmz rpa rfu rst rso rva red obf olf osz opl F0 F1 F2 F3 F4 F5 hfu hI hT hok hW hN0 k
    subst hfu
    obtain ⟨la, hN⟩ := hN0
    have lt9 := tkT_le hT (by omega)
    have bz9 := osz 12
    refine g_aload_n 39 dX9_readNames_38 rfl rfl ?_
    refine g_get 42 dX9_readNames_39 faX9_97_X9 F0 rfl rfl ?_
    refine g_bipush (v := iZ (-9)) 44 dX9_readNames_42 (by decide +kernel) rfl ?_
    refine g_icZ_ne 287 47 dX9_readNames_44 rfl rfl (by decide) (by decide) (fun q => absurd q (by decide)) (fun _ => ?_)
    refine g_aload_n 48 dX9_readNames_47 rfl rfl ?_
    refine g_get 51 dX9_readNames_48 faX9_140_X9 F0 rfl rfl ?_
    refine g_ifZ_eq 287 54 dX9_readNames_51 rfl rfl (by omega) (fun c1 => ?_) (fun c1 => ?_)
    · obtain ⟨h01, h02⟩ := tkT_0 hT (by omega)
      obtain ⟨b9, l9, hE9, ha9, hb9⟩ := R_end hN (by omega) h01
      refine g_aload_n 288 dX9_readNames_287 rfl rfl ?_
      refine g_get 291 dX9_readNames_288 faX9_97_X9 F0 rfl rfl ?_
      refine g_bipush (v := iZ (-9)) 293 dX9_readNames_291 (by decide +kernel) rfl ?_
      refine g_icZ_ne 305 296 dX9_readNames_293 rfl rfl (by decide) (by decide) (fun q => absurd q (by decide)) (fun _ => ?_)
      refine g_aload_n 297 dX9_readNames_296 rfl rfl ?_
      refine g_get 300 dX9_readNames_297 faX9_26_X9 F0 rfl rfl ?_
      refine g_iload_n 301 dX9_readNames_300 rfl rfl ?_
      have b2 := osz (12)
      refine g_ialdZ (v := iZ (sz 12)) 302 dX9_readNames_301 F4 (by decide) (by decide) (by decide) rfl rfl ?_
      refine g_ifZ_ne 326 305 dX9_readNames_302 rfl rfl (by omega) (fun c3 => ?_) (fun c3 => ?_)
      · refine g_iconst (v := iZ (0)) 327 dX9_readNames_326 rfl rfl ?_
        refine g_istore_n (L1 := [some (.ref 50), none, some (.int (iZ 12)), some (.int (iZ 0)), none, none, none]) 328 dX9_readNames_327 (by decide) rfl rfl rfl ?_
        rw [if_neg (by omega)] at hE9
        have hP9 : rpI (rsv 201 0 (sz 12) b9 l9 pl) l9 0 (sz 12) (sl12 bf) (sl12 lf) pl := ⟨201, b9, by omega, rfl, ha9, hb9⟩
        refine f_rn3_l olf osz opl (by omega) (by omega) (by omega) (by omega) (by omega) (by omega) (by omega) (by omega) (by omega) (by omega) (by omega) (by omega) (by omega) (by omega) (by omega) (by omega) (by omega) (by omega) _ _ (bf) 0 rfl obf F0 F2 F3 F4 F5 (by omega) okV_0 hW hok hP9 (fun hQ x0Q r0Q o0Q p0Q a0Q b0Q c0Q d0Q sQ uQ => ?_)
        exact k _ (pa) (-9) (st) (so) (va) (ed) x0Q (lf) (sz) (pl) r0Q (by omega) (by omega) (by omega) (by omega) (by omega) (by omega) o0Q olf osz opl p0Q (fun q hq => a0Q q hq) (fun q hq => rfl) (fun q hq => rfl) (fun q9 => ⟨by omega, b0Q q9⟩) (nr_P hE9 c0Q d0Q hb9) ((Sm.refl [50, 54, 55, 56, 61] _).tr sQ (fun _ q => q) (by simp)) (sQ.get (by decide) F0) uQ (sQ.get (by decide) F3) (sQ.get (by decide) F4) (sQ.get (by decide) F5)
      · refine g_aload_n 306 dX9_readNames_305 rfl rfl ?_
        refine g_get 309 dX9_readNames_306 faX9_97_X9 F0 rfl rfl ?_
        refine g_bipush (v := iZ (-9)) 311 dX9_readNames_309 (by decide +kernel) rfl ?_
        refine g_icZ_eq 321 314 dX9_readNames_311 rfl rfl (by decide) (by decide) (fun _ => ?_) (fun q => absurd q (by decide))
        refine g_aload_n 322 dX9_readNames_321 rfl rfl ?_
        refine g_get 325 dX9_readNames_322 faX9_91_X9 F0 rfl rfl ?_
        refine g_iret rfl dX9_readNames_325 ?_
        exact k _ (pa) (-9) (st) (so) (va) (ed) (bf) (lf) (sz) (pl) (ee) (by omega) (by omega) (by omega) (by omega) (by omega) (by omega) obf olf osz opl (by omega) (fun q hq => rfl) (fun q hq => rfl) (fun q hq => rfl) (by intro q9; omega) (nr_R (by rw [hE9]; exact if_pos (by omega)) (by omega)) (Sm.refl [50, 54, 55, 56, 61] _) F0 F2 F3 F4 F5
    · obtain ⟨hs1, hs2, hs3, hs4⟩ := tkT_1 hT c1
      refine g_aload_n 55 dX9_readNames_54 rfl rfl ?_
      refine g_get 58 dX9_readNames_55 faX9_140_X9 F0 rfl rfl ?_
      refine g_iconst (v := iZ (2)) 59 dX9_readNames_58 rfl rfl ?_
      refine g_icZ_ne 139 62 dX9_readNames_59 rfl rfl (by omega) (by decide) (fun c4 => ?_) (fun c4 => ?_)
      · refine g_aload_n 140 dX9_readNames_139 rfl rfl ?_
        refine g_get 143 dX9_readNames_140 faX9_134_X9 F0 rfl rfl ?_
        refine g_istore_n (L1 := [some (.ref 50), none, some (.int (iZ 12)), some (.int (iZ st)), none, none, none]) 144 dX9_readNames_143 (by decide) rfl rfl rfl ?_
        refine g_aload_n 145 dX9_readNames_144 rfl rfl ?_
        refine g_aload_n 146 dX9_readNames_145 rfl rfl ?_
        refine g_get 149 dX9_readNames_146 faX9_140_X9 F0 rfl rfl ?_
        refine g_iconst (v := iZ (1)) 150 dX9_readNames_149 rfl rfl ?_
        refine g_icZ_ne 157 153 dX9_readNames_150 rfl rfl (by omega) (by decide) (fun c5 => ?_) (fun c5 => ?_)
        · refine g_iconst (v := iZ (0)) 158 dX9_readNames_157 rfl rfl ?_
          refine g_callV (z := mX9_due) (As := [.int (iZ 0)]) 161 dX9_readNames_158 mwX9_due ⟨by decide, by decide⟩ rfl wlX9_150 wiX9_due wsX9_due F0 rfl rfl rfl (nle rfl) (nle rfl) rfl ?_
          refine n_due0 F0 F1 (by omega) (by omega) (by omega) (by omega) (by omega) (by omega) (by omega) (by omega) (by omega) (by omega) (by omega) (by omega) (by omega) (by omega) (by omega) (by omega) (by omega) (fun h6 z9 z10 rz9 rz10 p11 s7 f8 => ?_)
          refine rI ?_
          refine g_istore (L1 := [some (.ref 50), none, some (.int (iZ 12)), some (.int (iZ st)), some (.int (iZ z10)), none, none]) 163 dX9_readNames_161 (by decide) rfl rfl rfl ?_
          refine g_aload_n 164 dX9_readNames_163 rfl rfl ?_
          refine g_get 167 dX9_readNames_164 faX9_97_X9 f8 rfl rfl ?_
          refine g_bipush (v := iZ (-9)) 169 dX9_readNames_167 (by decide +kernel) rfl ?_
          refine g_icZ_ne 187 172 dX9_readNames_169 rfl rfl (by omega) (by decide) (fun _ => ?_) (fun q => absurd q (by omega))
          refine g_aload_n 188 dX9_readNames_187 rfl rfl ?_
          refine g_get 191 dX9_readNames_188 faX9_97_X9 f8 rfl rfl ?_
          refine g_bipush (v := iZ (-9)) 193 dX9_readNames_191 (by decide +kernel) rfl ?_
          refine g_icZ_ne 284 196 dX9_readNames_193 rfl rfl (by omega) (by decide) (fun _ => ?_) (fun q => absurd q (by omega))
          refine g_goto 38 dX9_readNames_284 rfl ?_
          refine g_aload_n 39 dX9_readNames_38 rfl rfl ?_
          refine g_get 42 dX9_readNames_39 faX9_97_X9 f8 rfl rfl ?_
          refine g_bipush (v := iZ (-9)) 44 dX9_readNames_42 (by decide +kernel) rfl ?_
          refine g_icZ_ne 287 47 dX9_readNames_44 rfl rfl (by omega) (by decide) (fun _ => ?_) (fun q => absurd q (by omega))
          refine g_aload_n 288 dX9_readNames_287 rfl rfl ?_
          refine g_get 291 dX9_readNames_288 faX9_97_X9 f8 rfl rfl ?_
          refine g_bipush (v := iZ (-9)) 293 dX9_readNames_291 (by decide +kernel) rfl ?_
          refine g_icZ_ne 305 296 dX9_readNames_293 rfl rfl (by omega) (by decide) (fun _ => ?_) (fun q => absurd q (by omega))
          refine g_aload_n 306 dX9_readNames_305 rfl rfl ?_
          refine g_get 309 dX9_readNames_306 faX9_97_X9 f8 rfl rfl ?_
          refine g_bipush (v := iZ (-9)) 311 dX9_readNames_309 (by decide +kernel) rfl ?_
          refine g_icZ_eq 321 314 dX9_readNames_311 rfl rfl (by omega) (by decide) (fun q => absurd q (by omega)) (fun _ => ?_)
          refine g_aload_n 315 dX9_readNames_314 rfl rfl ?_
          refine g_get 318 dX9_readNames_315 faX9_97_X9 f8 rfl rfl ?_
          refine g_goto 325 dX9_readNames_318 rfl ?_
          refine g_iret rfl dX9_readNames_325 ?_
          have f12 := (s7.get (by decide) F2)
          have f13 := (s7.get (by decide) F3)
          have f14 := (s7.get (by decide) F4)
          have f15 := (s7.get (by decide) F5)
          exact k _ (pa) (z9) (st) (so) (va) (ed) (bf) (lf) (sz) (pl) (z9) (by omega) (by omega) (by omega) (by omega) (by omega) (by omega) obf olf osz opl (by omega) (fun q hq => rfl) (fun q hq => rfl) (fun q hq => rfl) (by intro q9; omega) (nr_R ((R_0f hN (by omega) hs1 (by omega) (by omega)).trans p11.symm) (by omega)) ((Sm.refl [50, 54, 55, 56, 61] _).tr s7 (fun _ q => q) (by simp)) f8 f12 f13 f14 f15
        · have hV9 := hs4 (by omega)
          have hvr9 := tkV_w (tn := ee) (tf := (fun j => hb tx (bs + j))) (p := st) (by omega)
          refine g_iconst (v := iZ (1)) 154 dX9_readNames_153 rfl rfl ?_
          refine g_goto 158 dX9_readNames_154 rfl ?_
          refine g_callV (z := mX9_due) (As := [.int (iZ 1)]) 161 dX9_readNames_158 mwX9_due ⟨by decide, by decide⟩ rfl wlX9_150 wiX9_due wsX9_due F0 rfl rfl rfl (nle rfl) (nle rfl) rfl ?_
          refine f_due1  F0 F1 (by omega) (by omega) (by omega) (by omega) (by omega) (by omega) (by omega) (by omega) (by omega) (by omega) (by omega) (by omega) (by omega) (by omega) (by omega) (by omega) (by omega) (by omega) hB (fun h16 z18 z19 z20 z21 z22 z23 rz18 rz19 rz20 rz21 rz22 rz23 p24 s17 f25 => ?_)
          refine rI ?_
          obtain rfl := rz23.symm
          obtain ⟨n26, m26, T26⟩ := p24
          have G26 := gap_rg (tn := ee) (tf := (fun j => hb tx (bs + j))) (r := 0) (i := pa) (by omega)
          rw [← n26] at G26
          have L26 := tkT_le T26 (by omega)
          refine g_istore (L1 := [some (.ref 50), none, some (.int (iZ 12)), some (.int (iZ st)), some (.int (iZ va)), none, none]) 163 dX9_readNames_161 (by decide) rfl rfl rfl ?_
          refine g_aload_n 164 dX9_readNames_163 rfl rfl ?_
          refine g_get 167 dX9_readNames_164 faX9_97_X9 f25 rfl rfl ?_
          refine g_bipush (v := iZ (-9)) 169 dX9_readNames_167 (by decide +kernel) rfl ?_
          refine g_icZ_ne 187 172 dX9_readNames_169 rfl rfl (by decide) (by decide) (fun q => absurd q (by decide)) (fun _ => ?_)
          refine g_iload 174 dX9_readNames_172 rfl rfl ?_
          refine g_bipush (v := iZ (16)) 176 dX9_readNames_174 (by decide +kernel) rfl ?_
          refine g_icZ_ge 187 179 dX9_readNames_176 rfl rfl (by omega) (by decide) (fun c27 => ?_) (fun c27 => ?_)
          · refine g_aload_n 188 dX9_readNames_187 rfl rfl ?_
            refine g_get 191 dX9_readNames_188 faX9_97_X9 f25 rfl rfl ?_
            refine g_bipush (v := iZ (-9)) 193 dX9_readNames_191 (by decide +kernel) rfl ?_
            refine g_icZ_ne 284 196 dX9_readNames_193 rfl rfl (by decide) (by decide) (fun q => absurd q (by decide)) (fun _ => ?_)
            refine g_iload 198 dX9_readNames_196 rfl rfl ?_
            refine g_bipush (v := iZ (16)) 200 dX9_readNames_198 (by decide +kernel) rfl ?_
            refine g_icZ_eq 211 203 dX9_readNames_200 rfl rfl (by omega) (by decide) (fun _ => ?_) (fun q => absurd q (by omega))
            have t1 := R_wb hN (by omega) hs1 (by omega) (by omega)
            rw [← hs3, ← n26] at t1
            refine g_aload_n 212 dX9_readNames_211 rfl rfl ?_
            refine g_get 215 dX9_readNames_212 faX9_134_X9 f25 rfl rfl ?_
            refine g_istore_n (L1 := [some (.ref 50), none, some (.int (iZ 12)), some (.int (iZ z19)), some (.int (iZ va)), none, none]) 216 dX9_readNames_215 (by decide) rfl rfl rfl ?_
            refine g_aload_n 217 dX9_readNames_216 rfl rfl ?_
            refine g_get 220 dX9_readNames_217 faX9_140_X9 f25 rfl rfl ?_
            refine g_iconst (v := iZ (2)) 221 dX9_readNames_220 rfl rfl ?_
            refine g_icZ_ne 228 224 dX9_readNames_221 rfl rfl (by omega) (by decide) (fun c28 => ?_) (fun c28 => ?_)
            · refine g_iconst (v := iZ (0)) 229 dX9_readNames_228 rfl rfl ?_
              refine g_istore (L1 := [some (.ref 50), none, some (.int (iZ 12)), some (.int (iZ z19)), some (.int (iZ va)), some (.int (iZ 0)), none]) 231 dX9_readNames_229 (by decide) rfl rfl rfl ?_
              refine g_aload_n 232 dX9_readNames_231 rfl rfl ?_
              refine g_iload 234 dX9_readNames_232 rfl rfl ?_
              refine g_ifZ_ne 245 237 dX9_readNames_234 rfl rfl (by decide) (fun q => absurd q (by decide)) (fun _ => ?_)
              refine g_aload_n 238 dX9_readNames_237 rfl rfl ?_
              refine g_get 241 dX9_readNames_238 faX9_140_X9 f25 rfl rfl ?_
              refine g_iconst (v := iZ (3)) 242 dX9_readNames_241 rfl rfl ?_
              refine g_icZ_ne 249 245 dX9_readNames_242 rfl rfl (by omega) (by decide) (fun c29 => ?_) (fun c29 => ?_)
              · refine g_iconst (v := iZ (0)) 250 dX9_readNames_249 rfl rfl ?_
                refine g_callV (z := mX9_due) (As := [.int (iZ 0)]) 253 dX9_readNames_250 mwX9_due ⟨by decide, by decide⟩ rfl wlX9_150 wiX9_due wsX9_due f25 rfl rfl rfl (nle rfl) (nle rfl) rfl ?_
                have f36 := (s17.get (by decide) F1)
                refine n_due0 f25 f36 (by omega) (by omega) (by omega) (by omega) (by omega) (by omega) (by omega) (by omega) (by omega) (by omega) (by omega) (by omega) (by omega) (by omega) (by omega) (by omega) (by omega) (fun h30 z33 z34 rz33 rz34 p35 s31 f32 => ?_)
                refine rI ?_
                refine g_istore (L1 := [some (.ref 50), none, some (.int (iZ 12)), some (.int (iZ z19)), some (.int (iZ va)), some (.int (iZ 0)), some (.int (iZ z34))]) 255 dX9_readNames_253 (by decide) rfl rfl rfl ?_
                refine g_aload_n 256 dX9_readNames_255 rfl rfl ?_
                refine g_get 259 dX9_readNames_256 faX9_97_X9 f32 rfl rfl ?_
                refine g_bipush (v := iZ (-9)) 261 dX9_readNames_259 (by decide +kernel) rfl ?_
                refine g_icZ_ne 284 264 dX9_readNames_261 rfl rfl (by omega) (by decide) (fun _ => ?_) (fun q => absurd q (by omega))
                refine g_goto 38 dX9_readNames_284 rfl ?_
                refine g_aload_n 39 dX9_readNames_38 rfl rfl ?_
                refine g_get 42 dX9_readNames_39 faX9_97_X9 f32 rfl rfl ?_
                refine g_bipush (v := iZ (-9)) 44 dX9_readNames_42 (by decide +kernel) rfl ?_
                refine g_icZ_ne 287 47 dX9_readNames_44 rfl rfl (by omega) (by decide) (fun _ => ?_) (fun q => absurd q (by omega))
                refine g_aload_n 288 dX9_readNames_287 rfl rfl ?_
                refine g_get 291 dX9_readNames_288 faX9_97_X9 f32 rfl rfl ?_
                refine g_bipush (v := iZ (-9)) 293 dX9_readNames_291 (by decide +kernel) rfl ?_
                refine g_icZ_ne 305 296 dX9_readNames_293 rfl rfl (by omega) (by decide) (fun _ => ?_) (fun q => absurd q (by omega))
                refine g_aload_n 306 dX9_readNames_305 rfl rfl ?_
                refine g_get 309 dX9_readNames_306 faX9_97_X9 f32 rfl rfl ?_
                refine g_bipush (v := iZ (-9)) 311 dX9_readNames_309 (by decide +kernel) rfl ?_
                refine g_icZ_eq 321 314 dX9_readNames_311 rfl rfl (by omega) (by decide) (fun q => absurd q (by omega)) (fun _ => ?_)
                refine g_aload_n 315 dX9_readNames_314 rfl rfl ?_
                refine g_get 318 dX9_readNames_315 faX9_97_X9 f32 rfl rfl ?_
                refine g_goto 325 dX9_readNames_318 rfl ?_
                refine g_iret rfl dX9_readNames_325 ?_
                have f37 := (s31.get (by decide) (s17.get (by decide) F2))
                have f38 := (s31.get (by decide) (s17.get (by decide) F3))
                have f39 := (s31.get (by decide) (s17.get (by decide) F4))
                have f40 := (s31.get (by decide) (s17.get (by decide) F5))
                exact k _ (z18) (z33) (z19) (z20) (z21) (z22) (bf) (lf) (sz) (pl) (z33) (by omega) (by omega) (by omega) (by omega) (by omega) (by omega) obf olf osz opl (by omega) (fun q hq => rfl) (fun q hq => rfl) (fun q hq => rfl) (by intro q9; omega) (nr_R ((R_2f t1 (by omega) (by omega) (fun q9 => by have q8 := tkT_k T26 q9.1; omega)).trans p35.symm) (by omega)) (((Sm.refl [50, 54, 55, 56, 61] _).tr s17 (fun _ q => q) (by simp)).tr s31 (fun _ q => q) (by simp)) f32 f37 f38 f39 f40
              · obtain ⟨i41, j41, k41, l41⟩ := tkT_1 T26 (by omega)
                have w9 := l41 (by omega)
                have v9 := tkV_n (tn := ee) (tf := (fun j => hb tx (bs + j))) (p := z19) i41 (by omega)
                refine g_iconst (v := iZ (1)) 246 dX9_readNames_245 rfl rfl ?_
                refine g_goto 250 dX9_readNames_246 rfl ?_
                refine g_callV (z := mX9_due) (As := [.int (iZ 1)]) 253 dX9_readNames_250 mwX9_due ⟨by decide, by decide⟩ rfl wlX9_150 wiX9_due wsX9_due f25 rfl rfl rfl (nle rfl) (nle rfl) rfl ?_
                have f42 := (s17.get (by decide) F1)
                refine f_due1  f25 f42 (by omega) (by omega) (by omega) (by omega) (by omega) (by omega) (by omega) (by omega) (by omega) (by omega) (by omega) (by omega) (by omega) (by omega) (by omega) (by omega) (by omega) (by omega) hB (fun h43 z45 z46 z47 z48 z49 z50 rz45 rz46 rz47 rz48 rz49 rz50 p51 s44 f52 => ?_)
                refine rI ?_
                obtain rfl := rz50.symm
                obtain ⟨n53, m53, T53⟩ := p51
                have G53 := gap_rg (tn := ee) (tf := (fun j => hb tx (bs + j))) (r := 0) (i := z18) (by omega)
                rw [← n53] at G53
                have L53 := tkT_le T53 (by omega)
                refine g_istore (L1 := [some (.ref 50), none, some (.int (iZ 12)), some (.int (iZ z19)), some (.int (iZ va)), some (.int (iZ 0)), some (.int (iZ z21))]) 255 dX9_readNames_253 (by decide) rfl rfl rfl ?_
                refine g_aload_n 256 dX9_readNames_255 rfl rfl ?_
                refine g_get 259 dX9_readNames_256 faX9_97_X9 f52 rfl rfl ?_
                refine g_bipush (v := iZ (-9)) 261 dX9_readNames_259 (by decide +kernel) rfl ?_
                refine g_icZ_ne 284 264 dX9_readNames_261 rfl rfl (by decide) (by decide) (fun q => absurd q (by decide)) (fun _ => ?_)
                refine g_aload_n 265 dX9_readNames_264 rfl rfl ?_
                refine g_iload_n 266 dX9_readNames_265 rfl rfl ?_
                refine g_iload 268 dX9_readNames_266 rfl rfl ?_
                refine g_ifZ_eq 278 271 dX9_readNames_268 rfl rfl (by decide) (fun _ => ?_) (fun q => absurd q (by decide))
                refine g_iload 280 dX9_readNames_278 rfl rfl ?_
                refine g_iload_n 281 dX9_readNames_280 rfl rfl ?_
                refine g_callV (z := mX9_add) (As := [.int (iZ 12), .int (iZ z21), .int (iZ z19)]) 284 dX9_readNames_281 mwX9_add ⟨by decide, by decide⟩ rfl wlX9_115 wiX9_add wsX9_add f52 rfl rfl rfl (nle rfl) (nle rfl) rfl ?_
                have bz54 := osz 12
                have f55 := (s44.get (by decide) (s17.get (by decide) F2))
                have f56 := (s44.get (by decide) (s17.get (by decide) F3))
                have f57 := (s44.get (by decide) (s17.get (by decide) F4))
                refine f_add  f52 f55 f56 f57 obf olf osz (by omega) (by omega) (by omega) (by omega) (by omega) (by omega) (by omega) (by omega) (by omega) (by omega) (by omega) (by omega) (by omega) (by omega) (by omega) (by omega) (by omega) (by omega) (by omega) (by omega) (by omega) (fun h58 g60 g61 g62 og60 og61 og62 p63 p64 p65 s59 f66 f67 f68 => ?_)
                refine rV ?_
                have ez69 := add_Z p65
                refine g_goto 38 dX9_readNames_284 rfl ?_
                refine Go.fgt 3 ?_
                refine Go.fgt 4 ?_
                refine Go.fgt 5 ?_
                refine Go.fgt 6 ?_
                have f70 := (s59.get (by decide) f52)
                have f71 := (s59.get (by decide) (s44.get (by decide) f42))
                have f72 := (s59.get (by decide) (s44.get (by decide) (s17.get (by decide) F5)))
                exact ih _ (by omega) _ (z45) (-9) (z46) (z47) (z48) (z49) (g60) (g61) (g62) (pl) rfl (by omega) (by omega) (by omega) (by omega) (by omega) (by omega) og60 og61 og62 opl f70 f71 f66 f67 f68 f72 rfl (by omega) T53 hok (add_W p63 p65 (osz 12).1 (by omega) hW) ⟨_, (by have t9 := R_2n t1 (by omega) (by omega) i41 (by omega); rw [← w9, ← k41, ← n53, ← sl12_up (by omega), ← sl12_up (by omega), ← p63, ← p64, ← ez69] at t9; exact t9)⟩ (fun hQ xQ0 xQ1 xQ2 xQ3 xQ4 xQ5 xQ6 xQ7 xQ8 xQ9 rQ yQ0 yQ1 yQ2 yQ3 yQ4 yQ5 yQ6 yQ7 yQ8 yQ9 yQ10 pQ0 pQ1 pQ2 pQ3 pQ4 sQ uQ0 uQ1 uQ2 uQ3 uQ4 => k hQ xQ0 xQ1 xQ2 xQ3 xQ4 xQ5 xQ6 xQ7 xQ8 xQ9 rQ yQ0 yQ1 yQ2 yQ3 yQ4 yQ5 yQ6 yQ7 yQ8 yQ9 yQ10 (fun q hq => ((pQ0 q hq).trans (add_A p63 (osz 12).1 q hq))) (fun q hq => ((pQ1 q hq).trans (add_A p64 (osz 12).1 q hq))) (fun q hq => ((pQ2 q hq).trans (add_C p65 q hq))) pQ3 pQ4 (((((Sm.refl [50, 54, 55, 56, 61] _).tr s17 (fun _ q => q) (by simp)).tr s44 (fun _ q => q) (by simp)).tr s59 (fun _ q => q) (by simp)).tr sQ (fun _ q => q) (fun _ q => q)) uQ0 uQ1 uQ2 uQ3 uQ4)
            · obtain ⟨i73, j73, k73, l73⟩ := tkT_1 T26 (by omega)
              have w9 := l73 (by omega)
              have v9 := tkV_l (tn := ee) (tf := (fun j => hb tx (bs + j))) (p := z19) (by omega)
              refine g_iconst (v := iZ (1)) 225 dX9_readNames_224 rfl rfl ?_
              refine g_goto 229 dX9_readNames_225 rfl ?_
              refine g_istore (L1 := [some (.ref 50), none, some (.int (iZ 12)), some (.int (iZ z19)), some (.int (iZ va)), some (.int (iZ 1)), none]) 231 dX9_readNames_229 (by decide) rfl rfl rfl ?_
              refine g_aload_n 232 dX9_readNames_231 rfl rfl ?_
              refine g_iload 234 dX9_readNames_232 rfl rfl ?_
              refine g_ifZ_ne 245 237 dX9_readNames_234 rfl rfl (by decide) (fun _ => ?_) (fun q => absurd q (by decide))
              refine g_iconst (v := iZ (1)) 246 dX9_readNames_245 rfl rfl ?_
              refine g_goto 250 dX9_readNames_246 rfl ?_
              refine g_callV (z := mX9_due) (As := [.int (iZ 1)]) 253 dX9_readNames_250 mwX9_due ⟨by decide, by decide⟩ rfl wlX9_150 wiX9_due wsX9_due f25 rfl rfl rfl (nle rfl) (nle rfl) rfl ?_
              have f74 := (s17.get (by decide) F1)
              refine f_due1  f25 f74 (by omega) (by omega) (by omega) (by omega) (by omega) (by omega) (by omega) (by omega) (by omega) (by omega) (by omega) (by omega) (by omega) (by omega) (by omega) (by omega) (by omega) (by omega) hB (fun h75 z77 z78 z79 z80 z81 z82 rz77 rz78 rz79 rz80 rz81 rz82 p83 s76 f84 => ?_)
              refine rI ?_
              obtain rfl := rz82.symm
              obtain ⟨n85, m85, T85⟩ := p83
              have G85 := gap_rg (tn := ee) (tf := (fun j => hb tx (bs + j))) (r := 0) (i := z18) (by omega)
              rw [← n85] at G85
              have L85 := tkT_le T85 (by omega)
              refine g_istore (L1 := [some (.ref 50), none, some (.int (iZ 12)), some (.int (iZ z19)), some (.int (iZ va)), some (.int (iZ 1)), some (.int (iZ z21))]) 255 dX9_readNames_253 (by decide) rfl rfl rfl ?_
              refine g_aload_n 256 dX9_readNames_255 rfl rfl ?_
              refine g_get 259 dX9_readNames_256 faX9_97_X9 f84 rfl rfl ?_
              refine g_bipush (v := iZ (-9)) 261 dX9_readNames_259 (by decide +kernel) rfl ?_
              refine g_icZ_ne 284 264 dX9_readNames_261 rfl rfl (by decide) (by decide) (fun q => absurd q (by decide)) (fun _ => ?_)
              refine g_aload_n 265 dX9_readNames_264 rfl rfl ?_
              refine g_iload_n 266 dX9_readNames_265 rfl rfl ?_
              refine g_iload 268 dX9_readNames_266 rfl rfl ?_
              refine g_ifZ_eq 278 271 dX9_readNames_268 rfl rfl (by decide) (fun q => absurd q (by decide)) (fun _ => ?_)
              refine g_iconst (v := iZ (-1)) 272 dX9_readNames_271 rfl rfl ?_
              refine g_iload 274 dX9_readNames_272 rfl rfl ?_
              refine g_isubZ ((-1) - z21) 275 dX9_readNames_274 (by omega) rfl ?_
              refine g_goto 280 dX9_readNames_275 rfl ?_
              refine g_iload_n 281 dX9_readNames_280 rfl rfl ?_
              refine g_callV (z := mX9_add) (As := [.int (iZ 12), .int (iZ ((-1) - z21)), .int (iZ z19)]) 284 dX9_readNames_281 mwX9_add ⟨by decide, by decide⟩ rfl wlX9_115 wiX9_add wsX9_add f84 rfl rfl rfl (nle rfl) (nle rfl) rfl ?_
              have bz86 := osz 12
              have f87 := (s76.get (by decide) (s17.get (by decide) F2))
              have f88 := (s76.get (by decide) (s17.get (by decide) F3))
              have f89 := (s76.get (by decide) (s17.get (by decide) F4))
              refine f_add  f84 f87 f88 f89 obf olf osz (by omega) (by omega) (by omega) (by omega) (by omega) (by omega) (by omega) (by omega) (by omega) (by omega) (by omega) (by omega) (by omega) (by omega) (by omega) (by omega) (by omega) (by omega) (by omega) (by omega) (by omega) (fun h90 g92 g93 g94 og92 og93 og94 p95 p96 p97 s91 f98 f99 f100 => ?_)
              refine rV ?_
              have ez101 := add_Z p97
              refine g_goto 38 dX9_readNames_284 rfl ?_
              refine Go.fgt 3 ?_
              refine Go.fgt 4 ?_
              refine Go.fgt 5 ?_
              refine Go.fgt 6 ?_
              have f102 := (s91.get (by decide) f84)
              have f103 := (s91.get (by decide) (s76.get (by decide) f74))
              have f104 := (s91.get (by decide) (s76.get (by decide) (s17.get (by decide) F5)))
              exact ih _ (by omega) _ (z77) (-9) (z78) (z79) (z80) (z81) (g92) (g93) (g94) (pl) rfl (by omega) (by omega) (by omega) (by omega) (by omega) (by omega) og92 og93 og94 opl f102 f103 f98 f99 f100 f104 rfl (by omega) T85 hok (add_W p95 p97 (osz 12).1 (by omega) hW) ⟨_, (by have t9 := R_2l t1 (by omega) (by omega) i73 (by omega); rw [← w9, ← k73, ← n85, ← sl12_up (by omega), ← sl12_up (by omega), ← p95, ← p96, ← ez101] at t9; exact t9)⟩ (fun hQ xQ0 xQ1 xQ2 xQ3 xQ4 xQ5 xQ6 xQ7 xQ8 xQ9 rQ yQ0 yQ1 yQ2 yQ3 yQ4 yQ5 yQ6 yQ7 yQ8 yQ9 yQ10 pQ0 pQ1 pQ2 pQ3 pQ4 sQ uQ0 uQ1 uQ2 uQ3 uQ4 => k hQ xQ0 xQ1 xQ2 xQ3 xQ4 xQ5 xQ6 xQ7 xQ8 xQ9 rQ yQ0 yQ1 yQ2 yQ3 yQ4 yQ5 yQ6 yQ7 yQ8 yQ9 yQ10 (fun q hq => ((pQ0 q hq).trans (add_A p95 (osz 12).1 q hq))) (fun q hq => ((pQ1 q hq).trans (add_A p96 (osz 12).1 q hq))) (fun q hq => ((pQ2 q hq).trans (add_C p97 q hq))) pQ3 pQ4 (((((Sm.refl [50, 54, 55, 56, 61] _).tr s17 (fun _ q => q) (by simp)).tr s76 (fun _ q => q) (by simp)).tr s91 (fun _ q => q) (by simp)).tr sQ (fun _ q => q) (fun _ q => q)) uQ0 uQ1 uQ2 uQ3 uQ4)
          · refine g_aload_n 180 dX9_readNames_179 rfl rfl ?_
            refine g_iload_n 181 dX9_readNames_180 rfl rfl ?_
            refine g_iload 183 dX9_readNames_181 rfl rfl ?_
            refine g_iload_n 184 dX9_readNames_183 rfl rfl ?_
            refine g_callV (z := mX9_add) (As := [.int (iZ 12), .int (iZ va), .int (iZ st)]) 187 dX9_readNames_184 mwX9_add ⟨by decide, by decide⟩ rfl wlX9_115 wiX9_add wsX9_add f25 rfl rfl rfl (nle rfl) (nle rfl) rfl ?_
            have bz105 := osz 12
            have f106 := (s17.get (by decide) F2)
            have f107 := (s17.get (by decide) F3)
            have f108 := (s17.get (by decide) F4)
            refine f_add  f25 f106 f107 f108 obf olf osz (by omega) (by omega) (by omega) (by omega) (by omega) (by omega) (by omega) (by omega) (by omega) (by omega) (by omega) (by omega) (by omega) (by omega) (by omega) (by omega) (by omega) (by omega) (by omega) (by omega) (by omega) (fun h109 g111 g112 g113 og111 og112 og113 p114 p115 p116 s110 f117 f118 f119 => ?_)
            refine rV ?_
            have ez120 := add_Z p116
            refine g_aload_n 188 dX9_readNames_187 rfl rfl ?_
            have f121 := (s110.get (by decide) f25)
            refine g_get 191 dX9_readNames_188 faX9_97_X9 f121 rfl rfl ?_
            refine g_bipush (v := iZ (-9)) 193 dX9_readNames_191 (by decide +kernel) rfl ?_
            refine g_icZ_ne 284 196 dX9_readNames_193 rfl rfl (by decide) (by decide) (fun q => absurd q (by decide)) (fun _ => ?_)
            refine g_iload 198 dX9_readNames_196 rfl rfl ?_
            refine g_bipush (v := iZ (16)) 200 dX9_readNames_198 (by decide +kernel) rfl ?_
            refine g_icZ_eq 211 203 dX9_readNames_200 rfl rfl (by omega) (by decide) (fun q => absurd q (by omega)) (fun _ => ?_)
            refine g_iload 205 dX9_readNames_203 rfl rfl ?_
            refine g_callS (z := mX9_hasNumber) (As := [.int (iZ va)]) 208 dX9_readNames_205 mwX9_hasNumber ⟨by decide, by decide⟩ rfl wlX9_154 wtX9_hasNumber rfl (nle rfl) (nle rfl) rfl ?_
            refine f_hasn (by omega) (fun z122 rz122 => ?_)
            refine rI ?_
            refine g_ifZ_eq 284 211 dX9_readNames_208 rfl rfl (rg01 (by omega)) (fun c123 => ?_) (fun c123 => ?_)
            · refine g_goto 38 dX9_readNames_284 rfl ?_
              refine Go.fgt 3 ?_
              refine Go.fgt 4 ?_
              have f124 := (s110.get (by decide) (s17.get (by decide) F1))
              have f125 := (s110.get (by decide) (s17.get (by decide) F5))
              exact ih _ (by omega) _ (z18) (-9) (z19) (z20) (z21) (z22) (g111) (g112) (g113) (pl) rfl (by omega) (by omega) (by omega) (by omega) (by omega) (by omega) og111 og112 og113 opl f121 f124 f117 f118 f119 f125 rfl (by omega) T26 hok (add_W p114 p116 (osz 12).1 (by omega) hW) ⟨_, (by have t9 := R_w0 hN (by omega) (by omega) hs1 (by omega) (by omega) (by rw [← hV9]; unfold hsn; omega); rw [← hV9, ← hs3, ← n26, ← sl12_up (by omega), ← sl12_up (by omega), ← p114, ← p115, ← ez120] at t9; exact t9)⟩ (fun hQ xQ0 xQ1 xQ2 xQ3 xQ4 xQ5 xQ6 xQ7 xQ8 xQ9 rQ yQ0 yQ1 yQ2 yQ3 yQ4 yQ5 yQ6 yQ7 yQ8 yQ9 yQ10 pQ0 pQ1 pQ2 pQ3 pQ4 sQ uQ0 uQ1 uQ2 uQ3 uQ4 => k hQ xQ0 xQ1 xQ2 xQ3 xQ4 xQ5 xQ6 xQ7 xQ8 xQ9 rQ yQ0 yQ1 yQ2 yQ3 yQ4 yQ5 yQ6 yQ7 yQ8 yQ9 yQ10 (fun q hq => ((pQ0 q hq).trans (add_A p114 (osz 12).1 q hq))) (fun q hq => ((pQ1 q hq).trans (add_A p115 (osz 12).1 q hq))) (fun q hq => ((pQ2 q hq).trans (add_C p116 q hq))) pQ3 pQ4 ((((Sm.refl [50, 54, 55, 56, 61] _).tr s17 (fun _ q => q) (by simp)).tr s110 (fun _ q => q) (by simp)).tr sQ (fun _ q => q) (fun _ q => q)) uQ0 uQ1 uQ2 uQ3 uQ4)
            · have t1 := R_wn hN (by omega) (by omega) hs1 (by omega) (by omega) (by rw [← hV9]; unfold hsn; omega)
              rw [← hV9, ← hs3, ← n26, ← sl12_up (by omega), ← sl12_up (by omega), ← p114, ← p115, ← ez120] at t1
              refine g_aload_n 212 dX9_readNames_211 rfl rfl ?_
              refine g_get 215 dX9_readNames_212 faX9_134_X9 f121 rfl rfl ?_
              refine g_istore_n (L1 := [some (.ref 50), none, some (.int (iZ 12)), some (.int (iZ z19)), some (.int (iZ va)), none, none]) 216 dX9_readNames_215 (by decide) rfl rfl rfl ?_
              refine g_aload_n 217 dX9_readNames_216 rfl rfl ?_
              refine g_get 220 dX9_readNames_217 faX9_140_X9 f121 rfl rfl ?_
              refine g_iconst (v := iZ (2)) 221 dX9_readNames_220 rfl rfl ?_
              refine g_icZ_ne 228 224 dX9_readNames_221 rfl rfl (by omega) (by decide) (fun c126 => ?_) (fun c126 => ?_)
              · refine g_iconst (v := iZ (0)) 229 dX9_readNames_228 rfl rfl ?_
                refine g_istore (L1 := [some (.ref 50), none, some (.int (iZ 12)), some (.int (iZ z19)), some (.int (iZ va)), some (.int (iZ 0)), none]) 231 dX9_readNames_229 (by decide) rfl rfl rfl ?_
                refine g_aload_n 232 dX9_readNames_231 rfl rfl ?_
                refine g_iload 234 dX9_readNames_232 rfl rfl ?_
                refine g_ifZ_ne 245 237 dX9_readNames_234 rfl rfl (by decide) (fun q => absurd q (by decide)) (fun _ => ?_)
                refine g_aload_n 238 dX9_readNames_237 rfl rfl ?_
                refine g_get 241 dX9_readNames_238 faX9_140_X9 f121 rfl rfl ?_
                refine g_iconst (v := iZ (3)) 242 dX9_readNames_241 rfl rfl ?_
                refine g_icZ_ne 249 245 dX9_readNames_242 rfl rfl (by omega) (by decide) (fun c127 => ?_) (fun c127 => ?_)
                · refine g_iconst (v := iZ (0)) 250 dX9_readNames_249 rfl rfl ?_
                  refine g_callV (z := mX9_due) (As := [.int (iZ 0)]) 253 dX9_readNames_250 mwX9_due ⟨by decide, by decide⟩ rfl wlX9_150 wiX9_due wsX9_due f121 rfl rfl rfl (nle rfl) (nle rfl) rfl ?_
                  have f134 := (s110.get (by decide) (s17.get (by decide) F1))
                  refine n_due0 f121 f134 (by omega) (by omega) (by omega) (by omega) (by omega) (by omega) (by omega) (by omega) (by omega) (by omega) (by omega) (by omega) (by omega) (by omega) (by omega) (by omega) (by omega) (fun h128 z131 z132 rz131 rz132 p133 s129 f130 => ?_)
                  refine rI ?_
                  refine g_istore (L1 := [some (.ref 50), none, some (.int (iZ 12)), some (.int (iZ z19)), some (.int (iZ va)), some (.int (iZ 0)), some (.int (iZ z132))]) 255 dX9_readNames_253 (by decide) rfl rfl rfl ?_
                  refine g_aload_n 256 dX9_readNames_255 rfl rfl ?_
                  refine g_get 259 dX9_readNames_256 faX9_97_X9 f130 rfl rfl ?_
                  refine g_bipush (v := iZ (-9)) 261 dX9_readNames_259 (by decide +kernel) rfl ?_
                  refine g_icZ_ne 284 264 dX9_readNames_261 rfl rfl (by omega) (by decide) (fun _ => ?_) (fun q => absurd q (by omega))
                  refine g_goto 38 dX9_readNames_284 rfl ?_
                  refine g_aload_n 39 dX9_readNames_38 rfl rfl ?_
                  refine g_get 42 dX9_readNames_39 faX9_97_X9 f130 rfl rfl ?_
                  refine g_bipush (v := iZ (-9)) 44 dX9_readNames_42 (by decide +kernel) rfl ?_
                  refine g_icZ_ne 287 47 dX9_readNames_44 rfl rfl (by omega) (by decide) (fun _ => ?_) (fun q => absurd q (by omega))
                  refine g_aload_n 288 dX9_readNames_287 rfl rfl ?_
                  refine g_get 291 dX9_readNames_288 faX9_97_X9 f130 rfl rfl ?_
                  refine g_bipush (v := iZ (-9)) 293 dX9_readNames_291 (by decide +kernel) rfl ?_
                  refine g_icZ_ne 305 296 dX9_readNames_293 rfl rfl (by omega) (by decide) (fun _ => ?_) (fun q => absurd q (by omega))
                  refine g_aload_n 306 dX9_readNames_305 rfl rfl ?_
                  refine g_get 309 dX9_readNames_306 faX9_97_X9 f130 rfl rfl ?_
                  refine g_bipush (v := iZ (-9)) 311 dX9_readNames_309 (by decide +kernel) rfl ?_
                  refine g_icZ_eq 321 314 dX9_readNames_311 rfl rfl (by omega) (by decide) (fun q => absurd q (by omega)) (fun _ => ?_)
                  refine g_aload_n 315 dX9_readNames_314 rfl rfl ?_
                  refine g_get 318 dX9_readNames_315 faX9_97_X9 f130 rfl rfl ?_
                  refine g_goto 325 dX9_readNames_318 rfl ?_
                  refine g_iret rfl dX9_readNames_325 ?_
                  have f135 := (s129.get (by decide) f117)
                  have f136 := (s129.get (by decide) f118)
                  have f137 := (s129.get (by decide) f119)
                  have f138 := (s129.get (by decide) (s110.get (by decide) (s17.get (by decide) F5)))
                  exact k _ (z18) (z131) (z19) (z20) (z21) (z22) (g111) (g112) (g113) (pl) (z131) (by omega) (by omega) (by omega) (by omega) (by omega) (by omega) og111 og112 og113 opl (by omega) (fun q hq => (add_A p114 (osz 12).1 q hq)) (fun q hq => (add_A p115 (osz 12).1 q hq)) (fun q hq => (add_C p116 q hq)) (by intro q9; omega) (nr_R ((R_2f t1 (by omega) (by omega) (fun q9 => by have q8 := tkT_k T26 q9.1; omega)).trans p133.symm) (by omega)) ((((Sm.refl [50, 54, 55, 56, 61] _).tr s17 (fun _ q => q) (by simp)).tr s110 (fun _ q => q) (by simp)).tr s129 (fun _ q => q) (by simp)) f130 f135 f136 f137 f138
                · obtain ⟨i139, j139, k139, l139⟩ := tkT_1 T26 (by omega)
                  have w9 := l139 (by omega)
                  have v9 := tkV_n (tn := ee) (tf := (fun j => hb tx (bs + j))) (p := z19) i139 (by omega)
                  refine g_iconst (v := iZ (1)) 246 dX9_readNames_245 rfl rfl ?_
                  refine g_goto 250 dX9_readNames_246 rfl ?_
                  refine g_callV (z := mX9_due) (As := [.int (iZ 1)]) 253 dX9_readNames_250 mwX9_due ⟨by decide, by decide⟩ rfl wlX9_150 wiX9_due wsX9_due f121 rfl rfl rfl (nle rfl) (nle rfl) rfl ?_
                  have f140 := (s110.get (by decide) (s17.get (by decide) F1))
                  refine f_due1  f121 f140 (by omega) (by omega) (by omega) (by omega) (by omega) (by omega) (by omega) (by omega) (by omega) (by omega) (by omega) (by omega) (by omega) (by omega) (by omega) (by omega) (by omega) (by omega) hB (fun h141 z143 z144 z145 z146 z147 z148 rz143 rz144 rz145 rz146 rz147 rz148 p149 s142 f150 => ?_)
                  refine rI ?_
                  obtain rfl := rz148.symm
                  obtain ⟨n151, m151, T151⟩ := p149
                  have G151 := gap_rg (tn := ee) (tf := (fun j => hb tx (bs + j))) (r := 0) (i := z18) (by omega)
                  rw [← n151] at G151
                  have L151 := tkT_le T151 (by omega)
                  refine g_istore (L1 := [some (.ref 50), none, some (.int (iZ 12)), some (.int (iZ z19)), some (.int (iZ va)), some (.int (iZ 0)), some (.int (iZ z21))]) 255 dX9_readNames_253 (by decide) rfl rfl rfl ?_
                  refine g_aload_n 256 dX9_readNames_255 rfl rfl ?_
                  refine g_get 259 dX9_readNames_256 faX9_97_X9 f150 rfl rfl ?_
                  refine g_bipush (v := iZ (-9)) 261 dX9_readNames_259 (by decide +kernel) rfl ?_
                  refine g_icZ_ne 284 264 dX9_readNames_261 rfl rfl (by decide) (by decide) (fun q => absurd q (by decide)) (fun _ => ?_)
                  refine g_aload_n 265 dX9_readNames_264 rfl rfl ?_
                  refine g_iload_n 266 dX9_readNames_265 rfl rfl ?_
                  refine g_iload 268 dX9_readNames_266 rfl rfl ?_
                  refine g_ifZ_eq 278 271 dX9_readNames_268 rfl rfl (by decide) (fun _ => ?_) (fun q => absurd q (by decide))
                  refine g_iload 280 dX9_readNames_278 rfl rfl ?_
                  refine g_iload_n 281 dX9_readNames_280 rfl rfl ?_
                  refine g_callV (z := mX9_add) (As := [.int (iZ 12), .int (iZ z21), .int (iZ z19)]) 284 dX9_readNames_281 mwX9_add ⟨by decide, by decide⟩ rfl wlX9_115 wiX9_add wsX9_add f150 rfl rfl rfl (nle rfl) (nle rfl) rfl ?_
                  have bz152 := og113 12
                  have f153 := (s142.get (by decide) f117)
                  have f154 := (s142.get (by decide) f118)
                  have f155 := (s142.get (by decide) f119)
                  refine f_add  f150 f153 f154 f155 og111 og112 og113 (by omega) (by omega) (by omega) (by omega) (by omega) (by omega) (by omega) (by omega) (by omega) (by omega) (by omega) (by omega) (by omega) (by omega) (by omega) (by omega) (by omega) (by omega) (by omega) (by omega) (by omega) (fun h156 g158 g159 g160 og158 og159 og160 p161 p162 p163 s157 f164 f165 f166 => ?_)
                  refine rV ?_
                  have ez167 := add_Z p163
                  refine g_goto 38 dX9_readNames_284 rfl ?_
                  refine Go.fgt 3 ?_
                  refine Go.fgt 4 ?_
                  refine Go.fgt 5 ?_
                  refine Go.fgt 6 ?_
                  have f168 := (s157.get (by decide) f150)
                  have f169 := (s157.get (by decide) (s142.get (by decide) f140))
                  have f170 := (s157.get (by decide) (s142.get (by decide) (s110.get (by decide) (s17.get (by decide) F5))))
                  exact ih _ (by omega) _ (z143) (-9) (z144) (z145) (z146) (z147) (g158) (g159) (g160) (pl) rfl (by omega) (by omega) (by omega) (by omega) (by omega) (by omega) og158 og159 og160 opl f168 f169 f164 f165 f166 f170 rfl (by omega) T151 hok (add_W p161 p163 (og113 12).1 (by omega) (add_W p114 p116 (osz 12).1 (by omega) hW)) ⟨_, (by have t9 := R_2n t1 (by omega) (by omega) i139 (by omega); rw [← w9, ← k139, ← n151, ← sl12_up (by omega), ← sl12_up (by omega), ← p161, ← p162, ← ez167] at t9; exact t9)⟩ (fun hQ xQ0 xQ1 xQ2 xQ3 xQ4 xQ5 xQ6 xQ7 xQ8 xQ9 rQ yQ0 yQ1 yQ2 yQ3 yQ4 yQ5 yQ6 yQ7 yQ8 yQ9 yQ10 pQ0 pQ1 pQ2 pQ3 pQ4 sQ uQ0 uQ1 uQ2 uQ3 uQ4 => k hQ xQ0 xQ1 xQ2 xQ3 xQ4 xQ5 xQ6 xQ7 xQ8 xQ9 rQ yQ0 yQ1 yQ2 yQ3 yQ4 yQ5 yQ6 yQ7 yQ8 yQ9 yQ10 (fun q hq => (((pQ0 q hq).trans (add_A p161 (og113 12).1 q hq)).trans (add_A p114 (osz 12).1 q hq))) (fun q hq => (((pQ1 q hq).trans (add_A p162 (og113 12).1 q hq)).trans (add_A p115 (osz 12).1 q hq))) (fun q hq => (((pQ2 q hq).trans (add_C p163 q hq)).trans (add_C p116 q hq))) pQ3 pQ4 ((((((Sm.refl [50, 54, 55, 56, 61] _).tr s17 (fun _ q => q) (by simp)).tr s110 (fun _ q => q) (by simp)).tr s142 (fun _ q => q) (by simp)).tr s157 (fun _ q => q) (by simp)).tr sQ (fun _ q => q) (fun _ q => q)) uQ0 uQ1 uQ2 uQ3 uQ4)
              · obtain ⟨i171, j171, k171, l171⟩ := tkT_1 T26 (by omega)
                have w9 := l171 (by omega)
                have v9 := tkV_l (tn := ee) (tf := (fun j => hb tx (bs + j))) (p := z19) (by omega)
                refine g_iconst (v := iZ (1)) 225 dX9_readNames_224 rfl rfl ?_
                refine g_goto 229 dX9_readNames_225 rfl ?_
                refine g_istore (L1 := [some (.ref 50), none, some (.int (iZ 12)), some (.int (iZ z19)), some (.int (iZ va)), some (.int (iZ 1)), none]) 231 dX9_readNames_229 (by decide) rfl rfl rfl ?_
                refine g_aload_n 232 dX9_readNames_231 rfl rfl ?_
                refine g_iload 234 dX9_readNames_232 rfl rfl ?_
                refine g_ifZ_ne 245 237 dX9_readNames_234 rfl rfl (by decide) (fun _ => ?_) (fun q => absurd q (by decide))
                refine g_iconst (v := iZ (1)) 246 dX9_readNames_245 rfl rfl ?_
                refine g_goto 250 dX9_readNames_246 rfl ?_
                refine g_callV (z := mX9_due) (As := [.int (iZ 1)]) 253 dX9_readNames_250 mwX9_due ⟨by decide, by decide⟩ rfl wlX9_150 wiX9_due wsX9_due f121 rfl rfl rfl (nle rfl) (nle rfl) rfl ?_
                have f172 := (s110.get (by decide) (s17.get (by decide) F1))
                refine f_due1  f121 f172 (by omega) (by omega) (by omega) (by omega) (by omega) (by omega) (by omega) (by omega) (by omega) (by omega) (by omega) (by omega) (by omega) (by omega) (by omega) (by omega) (by omega) (by omega) hB (fun h173 z175 z176 z177 z178 z179 z180 rz175 rz176 rz177 rz178 rz179 rz180 p181 s174 f182 => ?_)
                refine rI ?_
                obtain rfl := rz180.symm
                obtain ⟨n183, m183, T183⟩ := p181
                have G183 := gap_rg (tn := ee) (tf := (fun j => hb tx (bs + j))) (r := 0) (i := z18) (by omega)
                rw [← n183] at G183
                have L183 := tkT_le T183 (by omega)
                refine g_istore (L1 := [some (.ref 50), none, some (.int (iZ 12)), some (.int (iZ z19)), some (.int (iZ va)), some (.int (iZ 1)), some (.int (iZ z21))]) 255 dX9_readNames_253 (by decide) rfl rfl rfl ?_
                refine g_aload_n 256 dX9_readNames_255 rfl rfl ?_
                refine g_get 259 dX9_readNames_256 faX9_97_X9 f182 rfl rfl ?_
                refine g_bipush (v := iZ (-9)) 261 dX9_readNames_259 (by decide +kernel) rfl ?_
                refine g_icZ_ne 284 264 dX9_readNames_261 rfl rfl (by decide) (by decide) (fun q => absurd q (by decide)) (fun _ => ?_)
                refine g_aload_n 265 dX9_readNames_264 rfl rfl ?_
                refine g_iload_n 266 dX9_readNames_265 rfl rfl ?_
                refine g_iload 268 dX9_readNames_266 rfl rfl ?_
                refine g_ifZ_eq 278 271 dX9_readNames_268 rfl rfl (by decide) (fun q => absurd q (by decide)) (fun _ => ?_)
                refine g_iconst (v := iZ (-1)) 272 dX9_readNames_271 rfl rfl ?_
                refine g_iload 274 dX9_readNames_272 rfl rfl ?_
                refine g_isubZ ((-1) - z21) 275 dX9_readNames_274 (by omega) rfl ?_
                refine g_goto 280 dX9_readNames_275 rfl ?_
                refine g_iload_n 281 dX9_readNames_280 rfl rfl ?_
                refine g_callV (z := mX9_add) (As := [.int (iZ 12), .int (iZ ((-1) - z21)), .int (iZ z19)]) 284 dX9_readNames_281 mwX9_add ⟨by decide, by decide⟩ rfl wlX9_115 wiX9_add wsX9_add f182 rfl rfl rfl (nle rfl) (nle rfl) rfl ?_
                have bz184 := og113 12
                have f185 := (s174.get (by decide) f117)
                have f186 := (s174.get (by decide) f118)
                have f187 := (s174.get (by decide) f119)
                refine f_add  f182 f185 f186 f187 og111 og112 og113 (by omega) (by omega) (by omega) (by omega) (by omega) (by omega) (by omega) (by omega) (by omega) (by omega) (by omega) (by omega) (by omega) (by omega) (by omega) (by omega) (by omega) (by omega) (by omega) (by omega) (by omega) (fun h188 g190 g191 g192 og190 og191 og192 p193 p194 p195 s189 f196 f197 f198 => ?_)
                refine rV ?_
                have ez199 := add_Z p195
                refine g_goto 38 dX9_readNames_284 rfl ?_
                refine Go.fgt 3 ?_
                refine Go.fgt 4 ?_
                refine Go.fgt 5 ?_
                refine Go.fgt 6 ?_
                have f200 := (s189.get (by decide) f182)
                have f201 := (s189.get (by decide) (s174.get (by decide) f172))
                have f202 := (s189.get (by decide) (s174.get (by decide) (s110.get (by decide) (s17.get (by decide) F5))))
                exact ih _ (by omega) _ (z175) (-9) (z176) (z177) (z178) (z179) (g190) (g191) (g192) (pl) rfl (by omega) (by omega) (by omega) (by omega) (by omega) (by omega) og190 og191 og192 opl f200 f201 f196 f197 f198 f202 rfl (by omega) T183 hok (add_W p193 p195 (og113 12).1 (by omega) (add_W p114 p116 (osz 12).1 (by omega) hW)) ⟨_, (by have t9 := R_2l t1 (by omega) (by omega) i171 (by omega); rw [← w9, ← k171, ← n183, ← sl12_up (by omega), ← sl12_up (by omega), ← p193, ← p194, ← ez199] at t9; exact t9)⟩ (fun hQ xQ0 xQ1 xQ2 xQ3 xQ4 xQ5 xQ6 xQ7 xQ8 xQ9 rQ yQ0 yQ1 yQ2 yQ3 yQ4 yQ5 yQ6 yQ7 yQ8 yQ9 yQ10 pQ0 pQ1 pQ2 pQ3 pQ4 sQ uQ0 uQ1 uQ2 uQ3 uQ4 => k hQ xQ0 xQ1 xQ2 xQ3 xQ4 xQ5 xQ6 xQ7 xQ8 xQ9 rQ yQ0 yQ1 yQ2 yQ3 yQ4 yQ5 yQ6 yQ7 yQ8 yQ9 yQ10 (fun q hq => (((pQ0 q hq).trans (add_A p193 (og113 12).1 q hq)).trans (add_A p114 (osz 12).1 q hq))) (fun q hq => (((pQ1 q hq).trans (add_A p194 (og113 12).1 q hq)).trans (add_A p115 (osz 12).1 q hq))) (fun q hq => (((pQ2 q hq).trans (add_C p195 q hq)).trans (add_C p116 q hq))) pQ3 pQ4 ((((((Sm.refl [50, 54, 55, 56, 61] _).tr s17 (fun _ q => q) (by simp)).tr s110 (fun _ q => q) (by simp)).tr s174 (fun _ q => q) (by simp)).tr s189 (fun _ q => q) (by simp)).tr sQ (fun _ q => q) (fun _ q => q)) uQ0 uQ1 uQ2 uQ3 uQ4)
      · have hV9 := hs4 (by omega)
        have hvr9 := tkV_l (tn := ee) (tf := (fun j => hb tx (bs + j))) (p := st) (by omega)
        refine g_aload_n 63 dX9_readNames_62 rfl rfl ?_
        refine g_aload_n 64 dX9_readNames_63 rfl rfl ?_
        refine g_get 67 dX9_readNames_64 faX9_41_X9 F0 rfl rfl ?_
        refine g_aload_n 68 dX9_readNames_67 rfl rfl ?_
        refine g_get 71 dX9_readNames_68 faX9_137_X9 F0 rfl rfl ?_
        have b203 := opl ((va).toNat)
        refine g_ialdZ (v := iZ (pl va.toNat)) 72 dX9_readNames_71 F5 (by omega) (by omega) (by decide) rfl rfl ?_
        refine g_bipush (v := iZ (-9)) 74 dX9_readNames_72 (by decide +kernel) rfl ?_
        refine g_icZ_ne 81 77 dX9_readNames_74 rfl rfl (by omega) (by decide) (fun c204 => ?_) (fun c204 => ?_)
        · refine g_iconst (v := iZ (0)) 82 dX9_readNames_81 rfl rfl ?_
          refine g_callV (z := mX9_due) (As := [.int (iZ 0)]) 85 dX9_readNames_82 mwX9_due ⟨by decide, by decide⟩ rfl wlX9_150 wiX9_due wsX9_due F0 rfl rfl rfl (nle rfl) (nle rfl) rfl ?_
          refine n_due0 F0 F1 (by omega) (by omega) (by omega) (by omega) (by omega) (by omega) (by omega) (by omega) (by omega) (by omega) (by omega) (by omega) (by omega) (by omega) (by omega) (by omega) (by omega) (fun h205 z208 z209 rz208 rz209 p210 s206 f207 => ?_)
          refine rI ?_
          refine g_istore_n (L1 := [some (.ref 50), none, some (.int (iZ 12)), some (.int (iZ z209)), none, none, none]) 86 dX9_readNames_85 (by decide) rfl rfl rfl ?_
          refine g_aload_n 87 dX9_readNames_86 rfl rfl ?_
          refine g_aload_n 88 dX9_readNames_87 rfl rfl ?_
          refine g_get 91 dX9_readNames_88 faX9_140_X9 f207 rfl rfl ?_
          refine g_iconst (v := iZ (4)) 92 dX9_readNames_91 rfl rfl ?_
          refine g_icZ_ne 110 95 dX9_readNames_92 rfl rfl (by omega) (by decide) (fun _ => ?_) (fun q => absurd q (by omega))
          refine g_iconst (v := iZ (0)) 111 dX9_readNames_110 rfl rfl ?_
          refine g_callV (z := mX9_due) (As := [.int (iZ 0)]) 114 dX9_readNames_111 mwX9_due ⟨by decide, by decide⟩ rfl wlX9_150 wiX9_due wsX9_due f207 rfl rfl rfl (nle rfl) (nle rfl) rfl ?_
          have f211 := (s206.get (by decide) F1)
          refine n_dueN  f207 f211 (by omega) (by omega) (by omega) (by omega) (by omega) (by omega) (by omega) (by omega) (by omega) (by omega) (by omega) (by omega) (by omega) (by omega) (by omega) (by omega) (by omega) (by omega) (by decide) (by omega) (fun z212 rz212 => ?_)
          refine rI ?_
          refine g_pop 115 dX9_readNames_114 rfl rfl ?_
          refine g_aload_n 116 dX9_readNames_115 rfl rfl ?_
          refine g_get 119 dX9_readNames_116 faX9_97_X9 f207 rfl rfl ?_
          refine g_bipush (v := iZ (-9)) 121 dX9_readNames_119 (by decide +kernel) rfl ?_
          refine g_icZ_ne 136 124 dX9_readNames_121 rfl rfl (by omega) (by decide) (fun _ => ?_) (fun q => absurd q (by omega))
          refine g_goto 38 dX9_readNames_136 rfl ?_
          refine g_aload_n 39 dX9_readNames_38 rfl rfl ?_
          refine g_get 42 dX9_readNames_39 faX9_97_X9 f207 rfl rfl ?_
          refine g_bipush (v := iZ (-9)) 44 dX9_readNames_42 (by decide +kernel) rfl ?_
          refine g_icZ_ne 287 47 dX9_readNames_44 rfl rfl (by omega) (by decide) (fun _ => ?_) (fun q => absurd q (by omega))
          refine g_aload_n 288 dX9_readNames_287 rfl rfl ?_
          refine g_get 291 dX9_readNames_288 faX9_97_X9 f207 rfl rfl ?_
          refine g_bipush (v := iZ (-9)) 293 dX9_readNames_291 (by decide +kernel) rfl ?_
          refine g_icZ_ne 305 296 dX9_readNames_293 rfl rfl (by omega) (by decide) (fun _ => ?_) (fun q => absurd q (by omega))
          refine g_aload_n 306 dX9_readNames_305 rfl rfl ?_
          refine g_get 309 dX9_readNames_306 faX9_97_X9 f207 rfl rfl ?_
          refine g_bipush (v := iZ (-9)) 311 dX9_readNames_309 (by decide +kernel) rfl ?_
          refine g_icZ_eq 321 314 dX9_readNames_311 rfl rfl (by omega) (by decide) (fun q => absurd q (by omega)) (fun _ => ?_)
          refine g_aload_n 315 dX9_readNames_314 rfl rfl ?_
          refine g_get 318 dX9_readNames_315 faX9_97_X9 f207 rfl rfl ?_
          refine g_goto 325 dX9_readNames_318 rfl ?_
          refine g_iret rfl dX9_readNames_325 ?_
          have f213 := (s206.get (by decide) F2)
          have f214 := (s206.get (by decide) F3)
          have f215 := (s206.get (by decide) F4)
          have f216 := (s206.get (by decide) F5)
          exact k _ (pa) (z208) (st) (so) (va) (ed) (bf) (lf) (sz) (pl) (z208) (by omega) (by omega) (by omega) (by omega) (by omega) (by omega) obf olf osz opl (by omega) (fun q hq => rfl) (fun q hq => rfl) (fun q hq => rfl) (by intro q9; omega) (nr_R ((R_lf hN (by omega) hs1 (by omega) (by rw [← hV9]; exact c204)).trans p210.symm) (by omega)) ((Sm.refl [50, 54, 55, 56, 61] _).tr s206 (fun _ q => q) (by simp)) f207 f213 f214 f215 f216
        · refine g_iconst (v := iZ (1)) 78 dX9_readNames_77 rfl rfl ?_
          refine g_goto 82 dX9_readNames_78 rfl ?_
          refine g_callV (z := mX9_due) (As := [.int (iZ 1)]) 85 dX9_readNames_82 mwX9_due ⟨by decide, by decide⟩ rfl wlX9_150 wiX9_due wsX9_due F0 rfl rfl rfl (nle rfl) (nle rfl) rfl ?_
          refine f_due1  F0 F1 (by omega) (by omega) (by omega) (by omega) (by omega) (by omega) (by omega) (by omega) (by omega) (by omega) (by omega) (by omega) (by omega) (by omega) (by omega) (by omega) (by omega) (by omega) hB (fun h217 z219 z220 z221 z222 z223 z224 rz219 rz220 rz221 rz222 rz223 rz224 p225 s218 f226 => ?_)
          refine rI ?_
          obtain rfl := rz224.symm
          obtain ⟨n227, m227, T227⟩ := p225
          have G227 := gap_rg (tn := ee) (tf := (fun j => hb tx (bs + j))) (r := 0) (i := pa) (by omega)
          rw [← n227] at G227
          have L227 := tkT_le T227 (by omega)
          refine g_istore_n (L1 := [some (.ref 50), none, some (.int (iZ 12)), some (.int (iZ va)), none, none, none]) 86 dX9_readNames_85 (by decide) rfl rfl rfl ?_
          have t1 := R_l0 hN (by omega) hs1 (by omega) (by rw [← hV9]; exact c204)
          rw [← hs3, ← n227, ← hV9] at t1
          refine g_aload_n 87 dX9_readNames_86 rfl rfl ?_
          refine g_aload_n 88 dX9_readNames_87 rfl rfl ?_
          refine g_get 91 dX9_readNames_88 faX9_140_X9 f226 rfl rfl ?_
          refine g_iconst (v := iZ (4)) 92 dX9_readNames_91 rfl rfl ?_
          refine g_icZ_ne 110 95 dX9_readNames_92 rfl rfl (by omega) (by decide) (fun c228 => ?_) (fun c228 => ?_)
          · refine g_iconst (v := iZ (0)) 111 dX9_readNames_110 rfl rfl ?_
            refine g_callV (z := mX9_due) (As := [.int (iZ 0)]) 114 dX9_readNames_111 mwX9_due ⟨by decide, by decide⟩ rfl wlX9_150 wiX9_due wsX9_due f226 rfl rfl rfl (nle rfl) (nle rfl) rfl ?_
            have f235 := (s218.get (by decide) F1)
            refine n_due0 f226 f235 (by omega) (by omega) (by omega) (by omega) (by omega) (by omega) (by omega) (by omega) (by omega) (by omega) (by omega) (by omega) (by omega) (by omega) (by omega) (by omega) (by omega) (fun h229 z232 z233 rz232 rz233 p234 s230 f231 => ?_)
            refine rI ?_
            refine g_pop 115 dX9_readNames_114 rfl rfl ?_
            refine g_aload_n 116 dX9_readNames_115 rfl rfl ?_
            refine g_get 119 dX9_readNames_116 faX9_97_X9 f231 rfl rfl ?_
            refine g_bipush (v := iZ (-9)) 121 dX9_readNames_119 (by decide +kernel) rfl ?_
            refine g_icZ_ne 136 124 dX9_readNames_121 rfl rfl (by omega) (by decide) (fun _ => ?_) (fun q => absurd q (by omega))
            refine g_goto 38 dX9_readNames_136 rfl ?_
            refine g_aload_n 39 dX9_readNames_38 rfl rfl ?_
            refine g_get 42 dX9_readNames_39 faX9_97_X9 f231 rfl rfl ?_
            refine g_bipush (v := iZ (-9)) 44 dX9_readNames_42 (by decide +kernel) rfl ?_
            refine g_icZ_ne 287 47 dX9_readNames_44 rfl rfl (by omega) (by decide) (fun _ => ?_) (fun q => absurd q (by omega))
            refine g_aload_n 288 dX9_readNames_287 rfl rfl ?_
            refine g_get 291 dX9_readNames_288 faX9_97_X9 f231 rfl rfl ?_
            refine g_bipush (v := iZ (-9)) 293 dX9_readNames_291 (by decide +kernel) rfl ?_
            refine g_icZ_ne 305 296 dX9_readNames_293 rfl rfl (by omega) (by decide) (fun _ => ?_) (fun q => absurd q (by omega))
            refine g_aload_n 306 dX9_readNames_305 rfl rfl ?_
            refine g_get 309 dX9_readNames_306 faX9_97_X9 f231 rfl rfl ?_
            refine g_bipush (v := iZ (-9)) 311 dX9_readNames_309 (by decide +kernel) rfl ?_
            refine g_icZ_eq 321 314 dX9_readNames_311 rfl rfl (by omega) (by decide) (fun q => absurd q (by omega)) (fun _ => ?_)
            refine g_aload_n 315 dX9_readNames_314 rfl rfl ?_
            refine g_get 318 dX9_readNames_315 faX9_97_X9 f231 rfl rfl ?_
            refine g_goto 325 dX9_readNames_318 rfl ?_
            refine g_iret rfl dX9_readNames_325 ?_
            have f236 := (s230.get (by decide) (s218.get (by decide) F2))
            have f237 := (s230.get (by decide) (s218.get (by decide) F3))
            have f238 := (s230.get (by decide) (s218.get (by decide) F4))
            have f239 := (s230.get (by decide) (s218.get (by decide) F5))
            exact k _ (z219) (z232) (z220) (z221) (z222) (z223) (bf) (lf) (sz) (pl) (z232) (by omega) (by omega) (by omega) (by omega) (by omega) (by omega) obf olf osz opl (by omega) (fun q hq => rfl) (fun q hq => rfl) (fun q hq => rfl) (by intro q9; omega) (nr_R ((R_1n t1 (by omega) (by omega) (fun q9 => by have q8 := tkT_k T227 q9.1; have q7 := tkE_l (tn := ee) (tf := (fun j => hb tx (bs + j))) (p := st) (by omega); omega)).trans p234.symm) (by omega)) (((Sm.refl [50, 54, 55, 56, 61] _).tr s218 (fun _ q => q) (by simp)).tr s230 (fun _ q => q) (by simp)) f231 f236 f237 f238 f239
          · refine g_aload_n 96 dX9_readNames_95 rfl rfl ?_
            refine g_get 99 dX9_readNames_96 faX9_134_X9 f226 rfl rfl ?_
            refine g_aload_n 100 dX9_readNames_99 rfl rfl ?_
            refine g_get 103 dX9_readNames_100 faX9_131_X9 f226 rfl rfl ?_
            refine g_icZ_ne 110 106 dX9_readNames_103 rfl rfl (by omega) (by omega) (fun c240 => ?_) (fun c240 => ?_)
            · refine g_iconst (v := iZ (0)) 111 dX9_readNames_110 rfl rfl ?_
              refine g_callV (z := mX9_due) (As := [.int (iZ 0)]) 114 dX9_readNames_111 mwX9_due ⟨by decide, by decide⟩ rfl wlX9_150 wiX9_due wsX9_due f226 rfl rfl rfl (nle rfl) (nle rfl) rfl ?_
              have f247 := (s218.get (by decide) F1)
              refine n_due0 f226 f247 (by omega) (by omega) (by omega) (by omega) (by omega) (by omega) (by omega) (by omega) (by omega) (by omega) (by omega) (by omega) (by omega) (by omega) (by omega) (by omega) (by omega) (fun h241 z244 z245 rz244 rz245 p246 s242 f243 => ?_)
              refine rI ?_
              refine g_pop 115 dX9_readNames_114 rfl rfl ?_
              refine g_aload_n 116 dX9_readNames_115 rfl rfl ?_
              refine g_get 119 dX9_readNames_116 faX9_97_X9 f243 rfl rfl ?_
              refine g_bipush (v := iZ (-9)) 121 dX9_readNames_119 (by decide +kernel) rfl ?_
              refine g_icZ_ne 136 124 dX9_readNames_121 rfl rfl (by omega) (by decide) (fun _ => ?_) (fun q => absurd q (by omega))
              refine g_goto 38 dX9_readNames_136 rfl ?_
              refine g_aload_n 39 dX9_readNames_38 rfl rfl ?_
              refine g_get 42 dX9_readNames_39 faX9_97_X9 f243 rfl rfl ?_
              refine g_bipush (v := iZ (-9)) 44 dX9_readNames_42 (by decide +kernel) rfl ?_
              refine g_icZ_ne 287 47 dX9_readNames_44 rfl rfl (by omega) (by decide) (fun _ => ?_) (fun q => absurd q (by omega))
              refine g_aload_n 288 dX9_readNames_287 rfl rfl ?_
              refine g_get 291 dX9_readNames_288 faX9_97_X9 f243 rfl rfl ?_
              refine g_bipush (v := iZ (-9)) 293 dX9_readNames_291 (by decide +kernel) rfl ?_
              refine g_icZ_ne 305 296 dX9_readNames_293 rfl rfl (by omega) (by decide) (fun _ => ?_) (fun q => absurd q (by omega))
              refine g_aload_n 306 dX9_readNames_305 rfl rfl ?_
              refine g_get 309 dX9_readNames_306 faX9_97_X9 f243 rfl rfl ?_
              refine g_bipush (v := iZ (-9)) 311 dX9_readNames_309 (by decide +kernel) rfl ?_
              refine g_icZ_eq 321 314 dX9_readNames_311 rfl rfl (by omega) (by decide) (fun q => absurd q (by omega)) (fun _ => ?_)
              refine g_aload_n 315 dX9_readNames_314 rfl rfl ?_
              refine g_get 318 dX9_readNames_315 faX9_97_X9 f243 rfl rfl ?_
              refine g_goto 325 dX9_readNames_318 rfl ?_
              refine g_iret rfl dX9_readNames_325 ?_
              have f248 := (s242.get (by decide) (s218.get (by decide) F2))
              have f249 := (s242.get (by decide) (s218.get (by decide) F3))
              have f250 := (s242.get (by decide) (s218.get (by decide) F4))
              have f251 := (s242.get (by decide) (s218.get (by decide) F5))
              exact k _ (z219) (z244) (z220) (z221) (z222) (z223) (bf) (lf) (sz) (pl) (z244) (by omega) (by omega) (by omega) (by omega) (by omega) (by omega) obf olf osz opl (by omega) (fun q hq => rfl) (fun q hq => rfl) (fun q hq => rfl) (by intro q9; omega) (nr_R ((R_1n t1 (by omega) (by omega) (fun q9 => by have q8 := tkT_k T227 q9.1; have q7 := tkE_l (tn := ee) (tf := (fun j => hb tx (bs + j))) (p := st) (by omega); omega)).trans p246.symm) (by omega)) (((Sm.refl [50, 54, 55, 56, 61] _).tr s218 (fun _ q => q) (by simp)).tr s242 (fun _ q => q) (by simp)) f243 f248 f249 f250 f251
            · refine g_iconst (v := iZ (1)) 107 dX9_readNames_106 rfl rfl ?_
              refine g_goto 111 dX9_readNames_107 rfl ?_
              refine g_callV (z := mX9_due) (As := [.int (iZ 1)]) 114 dX9_readNames_111 mwX9_due ⟨by decide, by decide⟩ rfl wlX9_150 wiX9_due wsX9_due f226 rfl rfl rfl (nle rfl) (nle rfl) rfl ?_
              have f252 := (s218.get (by decide) F1)
              refine f_due1  f226 f252 (by omega) (by omega) (by omega) (by omega) (by omega) (by omega) (by omega) (by omega) (by omega) (by omega) (by omega) (by omega) (by omega) (by omega) (by omega) (by omega) (by omega) (by omega) hB (fun h253 z255 z256 z257 z258 z259 z260 rz255 rz256 rz257 rz258 rz259 rz260 p261 s254 f262 => ?_)
              refine rI ?_
              obtain rfl := rz260.symm
              obtain ⟨n263, m263, T263⟩ := p261
              have G263 := gap_rg (tn := ee) (tf := (fun j => hb tx (bs + j))) (r := 0) (i := z219) (by omega)
              rw [← n263] at G263
              have L263 := tkT_le T263 (by omega)
              refine g_pop 115 dX9_readNames_114 rfl rfl ?_
              refine g_aload_n 116 dX9_readNames_115 rfl rfl ?_
              refine g_get 119 dX9_readNames_116 faX9_97_X9 f262 rfl rfl ?_
              refine g_bipush (v := iZ (-9)) 121 dX9_readNames_119 (by decide +kernel) rfl ?_
              refine g_icZ_ne 136 124 dX9_readNames_121 rfl rfl (by decide) (by decide) (fun q => absurd q (by decide)) (fun _ => ?_)
              obtain ⟨i264, j264, k264, l264⟩ := tkT_1 T227 (by omega)
              have q9 := tkE_l (tn := ee) (tf := (fun j => hb tx (bs + j))) (p := st) (by omega)
              have t2 := R_1y t1 (by omega) i264 (by omega) (by omega)
              rw [← k264, ← n263] at t2
              refine g_aload_n 125 dX9_readNames_124 rfl rfl ?_
              refine g_get 128 dX9_readNames_125 faX9_41_X9 f262 rfl rfl ?_
              refine g_iload_n 129 dX9_readNames_128 rfl rfl ?_
              refine g_aload_n 130 dX9_readNames_129 rfl rfl ?_
              refine g_get 133 dX9_readNames_130 faX9_26_X9 f262 rfl rfl ?_
              refine g_iload_n 134 dX9_readNames_133 rfl rfl ?_
              have f265 := (s254.get (by decide) (s218.get (by decide) F4))
              have b266 := osz (12)
              refine g_ialdZ (v := iZ (sz 12)) 135 dX9_readNames_134 f265 (by decide) (by decide) (by decide) rfl rfl ?_
              have f267 := (s254.get (by decide) (s218.get (by decide) F5))
              refine g_iastFj (va.toNat) 136 dX9_readNames_135 f267 (by omega) (by omega) (by decide) rfl rfl (fun h268 s269 f270 => ?_)
              refine g_goto 38 dX9_readNames_136 rfl ?_
              refine Go.fgt 3 ?_
              have f271 := (s269.get (by decide) f262)
              have f272 := (s269.get (by decide) (s254.get (by decide) f252))
              have f273 := (s269.get (by decide) (s254.get (by decide) (s218.get (by decide) F2)))
              have f274 := (s269.get (by decide) (s254.get (by decide) (s218.get (by decide) F3)))
              have f275 := (s269.get (by decide) f265)
              exact ih _ (by omega) _ (z255) (-9) (z256) (z257) (z258) (z259) (bf) (lf) (sz) (va_up pl va.toNat (sz 12)) rfl (by omega) (by omega) (by omega) (by omega) (by omega) (by omega) obf olf osz (oki_up opl _ (by omega)) f271 f272 f273 f274 f275 f270 rfl (by omega) T263 (okn_up hok _ (by omega)) hW ⟨_, t2⟩ (fun hQ xQ0 xQ1 xQ2 xQ3 xQ4 xQ5 xQ6 xQ7 xQ8 xQ9 rQ yQ0 yQ1 yQ2 yQ3 yQ4 yQ5 yQ6 yQ7 yQ8 yQ9 yQ10 pQ0 pQ1 pQ2 pQ3 pQ4 sQ uQ0 uQ1 uQ2 uQ3 uQ4 => k hQ xQ0 xQ1 xQ2 xQ3 xQ4 xQ5 xQ6 xQ7 xQ8 xQ9 rQ yQ0 yQ1 yQ2 yQ3 yQ4 yQ5 yQ6 yQ7 yQ8 yQ9 yQ10 (fun q hq => (pQ0 q hq)) (fun q hq => (pQ1 q hq)) (fun q hq => (pQ2 q hq)) pQ3 pQ4 (((((Sm.refl [50, 54, 55, 56, 61] _).tr s218 (fun _ q => q) (by simp)).tr s254 (fun _ q => q) (by simp)).tr s269 (fun _ q => q) (by simp)).tr sQ (fun _ q => q) (fun _ q => q)) uQ0 uQ1 uQ2 uQ3 uQ4)

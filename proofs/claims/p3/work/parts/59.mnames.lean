set_option maxHeartbeats 60000000 in
set_option maxRecDepth 100000 in
theorem n_rn2_l {l : Launch} {Q : Option Value → MH → Prop} {tr : Int64} {mn kt bs ee cm a x p dn tk ie en : Int} {tx : Nat → Int32} (rmn : (0 ≤ mn ∧ mn ≤ 200)) (rkt : (0 ≤ kt ∧ kt ≤ 12)) (rbs : (0 ≤ bs ∧ bs ≤ 1400)) (ree : (0 ≤ ee ∧ ee ≤ 200)) (rcm : (0 ≤ cm ∧ cm ≤ 256)) (ra : (0 ≤ a ∧ a ≤ 255)) (rx : (0 ≤ x ∧ x ≤ 255)) (rp : (0 ≤ p ∧ p ≤ 255)) (rdn : (0 ≤ dn ∧ dn ≤ 5000)) (rtk : (0 ≤ tk ∧ tk ≤ 200)) (rie : (0 ≤ ie ∧ ie ≤ 1)) (ren : (0 ≤ en ∧ en ≤ 12)) : ∀ (m0 : Nat) (h : MH) (pa fu st so va ed : Int) (bf : Nat → Int) (lf : Nat → Int) (sz : Nat → Int) (pl : Nat → Int), (201 - st).toNat = m0 → (0 ≤ pa ∧ pa ≤ 200) → (-9 ≤ fu ∧ fu ≤ 200) → (0 ≤ st ∧ st ≤ 200) → (0 ≤ so ∧ so ≤ 5) → (-100 ≤ va ∧ va ≤ 3000) → (0 ≤ ed ∧ ed ≤ 200) → okr bf → oki (0) (300) lf → oki (0) (256) sz → okn pl → h[50]? = some (.inr (8, [.long (tr), .ref 51, .int (iZ mn), .ref 52, .ref 53, .int (iZ kt), .ref 54, .ref 55, .ref 56, .ref 57, .ref 58, .ref 59, .ref 60, .int (iZ bs), .int (iZ ee), .int (iZ pa), .int (iZ fu), .int (iZ st), .int (iZ so), .int (iZ va), .int (iZ ed), .ref 61, .ref 62, .ref 63, .ref 64, .int (iZ cm), .int (iZ a), .int (iZ x), .int (iZ p), .int (iZ dn), .int (iZ tk), .int (iZ ie), .ref 65, .ref 66, .ref 67, .int (iZ en), .ref 68, .ref 69, .ref 70])) → h[52]? = some (.inl (1, 1600, .inl tx)) → h[54]? = some (.inl (0, 4096, .inl (zA bf))) → h[55]? = some (.inl (0, 4096, .inl (zA lf))) → h[56]? = some (.inl (0, 16, .inl (zA sz))) → h[61]? = some (.inl (0, 26, .inl (zA pl))) → fu = -9 → st ≤ pa ∧ (so = 0 ∨ st < pa) ∧ (so = 2 → 0 ≤ va ∧ va ≤ 25) ∧ (so = 1 → 0 ≤ va ∧ va ≤ 16) ∧ (so = 3 → 0 ≤ va ∧ va ≤ 255) ∧ sz 12 ≤ st → okW bf (sz 12) → (∀ (h1 : MH) (pa_1 fu_1 st_1 so_1 va_1 ed_1 : Int) (bf_1 : Nat → Int) (lf_1 : Nat → Int) (sz_1 : Nat → Int) (pl_1 : Nat → Int) (r : Int), (0 ≤ pa_1 ∧ pa_1 ≤ 200) → (-9 ≤ fu_1 ∧ fu_1 ≤ 200) → (0 ≤ st_1 ∧ st_1 ≤ 200) → (0 ≤ so_1 ∧ so_1 ≤ 5) → (-100 ≤ va_1 ∧ va_1 ≤ 3000) → (0 ≤ ed_1 ∧ ed_1 ≤ 200) → okr bf_1 → oki (0) (300) lf_1 → oki (0) (256) sz_1 → okn pl_1 → (r = -9 ∨ (0 ≤ r ∧ r ≤ 300)) → (∀ q : Nat, q < 3072 → bf_1 q = bf q) → (∀ t : Nat, t ≠ 12 → sz_1 t = sz t) → (r = -9 → 0 < sz_1 12 ∧ ok12 bf_1 sz_1) → Sm [50, 54, 55, 56, 61] h h1 → h1[50]? = some (.inr (8, [.long (tr), .ref 51, .int (iZ mn), .ref 52, .ref 53, .int (iZ kt), .ref 54, .ref 55, .ref 56, .ref 57, .ref 58, .ref 59, .ref 60, .int (iZ bs), .int (iZ ee), .int (iZ pa_1), .int (iZ fu_1), .int (iZ st_1), .int (iZ so_1), .int (iZ va_1), .int (iZ ed_1), .ref 61, .ref 62, .ref 63, .ref 64, .int (iZ cm), .int (iZ a), .int (iZ x), .int (iZ p), .int (iZ dn), .int (iZ tk), .int (iZ ie), .ref 65, .ref 66, .ref 67, .int (iZ en), .ref 68, .ref 69, .ref 70])) → h1[54]? = some (.inl (0, 4096, .inl (zA bf_1))) → h1[55]? = some (.inl (0, 4096, .inl (zA lf_1))) → h1[56]? = some (.inl (0, 16, .inl (zA sz_1))) → h1[61]? = some (.inl (0, 26, .inl (zA pl_1))) → Q (some (.int (iZ r))) h1) → Go l mX9_readNames 38 [some (.ref 50), none, some (.int (iZ 12)), none, none, none, none] [] h Q := by
  intro m0
  induction m0 using Nat.strongRecOn with
  | ind m0 ih =>
    intro h pa fu st so va ed bf lf sz pl hmz rpa rfu rst rso rva red obf olf osz opl F0 F1 F2 F3 F4 F5 hfu hI hW k
    refine g_aload_n 39 dX9_readNames_38 rfl rfl ?_
    refine g_get 42 dX9_readNames_39 faX9_97_X9 F0 rfl rfl ?_
    refine g_bipush (v := iZ (-9)) 44 dX9_readNames_42 (by decide +kernel) rfl ?_
    refine g_icZ_ne 287 47 dX9_readNames_44 rfl rfl (by omega) (by decide) (fun q => absurd q (by omega)) (fun _ => ?_)
    refine g_aload_n 48 dX9_readNames_47 rfl rfl ?_
    refine g_get 51 dX9_readNames_48 faX9_140_X9 F0 rfl rfl ?_
    refine g_ifZ_eq 287 54 dX9_readNames_51 rfl rfl (by omega) (fun c1 => ?_) (fun c1 => ?_)
    · refine g_aload_n 288 dX9_readNames_287 rfl rfl ?_
      refine g_get 291 dX9_readNames_288 faX9_97_X9 F0 rfl rfl ?_
      refine g_bipush (v := iZ (-9)) 293 dX9_readNames_291 (by decide +kernel) rfl ?_
      refine g_icZ_ne 305 296 dX9_readNames_293 rfl rfl (by omega) (by decide) (fun q => absurd q (by omega)) (fun _ => ?_)
      refine g_aload_n 297 dX9_readNames_296 rfl rfl ?_
      refine g_get 300 dX9_readNames_297 faX9_26_X9 F0 rfl rfl ?_
      refine g_iload_n 301 dX9_readNames_300 rfl rfl ?_
      have b2 := osz (12)
      refine g_ialdZ (v := iZ (sz 12)) 302 dX9_readNames_301 F4 (by decide) (by decide) (by decide) rfl rfl ?_
      refine g_ifZ_ne 326 305 dX9_readNames_302 rfl rfl (by omega) (fun c3 => ?_) (fun c3 => ?_)
      · refine g_iconst (v := iZ (0)) 327 dX9_readNames_326 rfl rfl ?_
        refine g_istore_n (L1 := [some (.ref 50), none, some (.int (iZ 12)), some (.int (iZ 0)), none, none, none]) 328 dX9_readNames_327 (by decide) rfl rfl rfl ?_
        refine n_rn3_l olf osz opl (by omega) (by omega) (by omega) (by omega) (by omega) (by omega) (by omega) (by omega) (by omega) (by omega) (by omega) (by omega) (by omega) (by omega) (by omega) (by omega) (by omega) (by omega) _ _ (bf) 0 rfl obf F0 F2 F3 F4 F5 (by omega) okV_0 hW (fun hQ x0Q r0Q o0Q p0Q a0Q b0Q sQ uQ => ?_)
        exact k _ (pa) (fu) (st) (so) (va) (ed) x0Q (lf) (sz) (pl) r0Q (by omega) (by omega) (by omega) (by omega) (by omega) (by omega) o0Q olf osz opl p0Q (fun q hq => (a0Q q hq)) (fun q hq => rfl) (fun q9 => ⟨by omega, b0Q q9⟩) ((Sm.refl [50, 54, 55, 56, 61] _).tr sQ (fun _ q => q) (by simp)) (sQ.get (by decide) F0) uQ (sQ.get (by decide) F3) (sQ.get (by decide) F4) (sQ.get (by decide) F5)
      · refine g_aload_n 306 dX9_readNames_305 rfl rfl ?_
        refine g_get 309 dX9_readNames_306 faX9_97_X9 F0 rfl rfl ?_
        refine g_bipush (v := iZ (-9)) 311 dX9_readNames_309 (by decide +kernel) rfl ?_
        refine g_icZ_eq 321 314 dX9_readNames_311 rfl rfl (by omega) (by decide) (fun _ => ?_) (fun q => absurd q (by omega))
        refine g_aload_n 322 dX9_readNames_321 rfl rfl ?_
        refine g_get 325 dX9_readNames_322 faX9_91_X9 F0 rfl rfl ?_
        refine g_iret rfl dX9_readNames_325 ?_
        exact k _ (pa) (fu) (st) (so) (va) (ed) (bf) (lf) (sz) (pl) (ee) (by omega) (by omega) (by omega) (by omega) (by omega) (by omega) obf olf osz opl (by omega) (fun q hq => rfl) (fun q hq => rfl) (by intro q9; omega) (Sm.refl [50, 54, 55, 56, 61] _) F0 F2 F3 F4 F5
    · refine g_aload_n 55 dX9_readNames_54 rfl rfl ?_
      refine g_get 58 dX9_readNames_55 faX9_140_X9 F0 rfl rfl ?_
      refine g_iconst (v := iZ (2)) 59 dX9_readNames_58 rfl rfl ?_
      refine g_icZ_ne 139 62 dX9_readNames_59 rfl rfl (by omega) (by decide) (fun c4 => ?_) (fun c4 => ?_)
      · refine g_aload_n 140 dX9_readNames_139 rfl rfl ?_
        refine g_get 143 dX9_readNames_140 faX9_134_X9 F0 rfl rfl ?_
        refine g_istore_n (L1 := [some (.ref 50), none, some (.int (iZ 12)), some (.int (iZ st)), none, none, none]) 144 dX9_readNames_143 (by decide) rfl rfl rfl ?_
        refine g_aload_n 145 dX9_readNames_144 rfl rfl ?_
        refine g_aload_n 146 dX9_readNames_145 rfl rfl ?_
        refine g_get 149 dX9_readNames_146 faX9_140_X9 F0 rfl rfl ?_
        refine g_iconst (v := iZ (1)) 150 dX9_readNames_149 rfl rfl ?_
        refine g_icZ_ne 157 153 dX9_readNames_150 rfl rfl (by omega) (by decide) (fun c5 => ?_) (fun c5 => ?_)
        · refine g_iconst (v := iZ (0)) 158 dX9_readNames_157 rfl rfl ?_
          refine g_callV (z := mX9_due) (As := [.int (iZ 0)]) 161 dX9_readNames_158 mwX9_due ⟨by decide, by decide⟩ rfl wlX9_150 wiX9_due wsX9_due F0 rfl rfl rfl (nle rfl) (nle rfl) rfl ?_
          refine n_due  F0 F1 (by omega) (by omega) (by omega) (by omega) (by omega) (by omega) (by omega) (by omega) (by omega) (by omega) (by omega) (by omega) (by omega) (by omega) (by omega) (by omega) (by omega) (by omega) (by decide) (fun h6 z8 z9 z10 z11 z12 z13 z14 rz8 rz9 rz10 rz11 rz12 rz13 rz14 p15 p16 s7 f17 => ?_)
          refine rI ?_
          refine g_istore (L1 := [some (.ref 50), none, some (.int (iZ 12)), some (.int (iZ st)), some (.int (iZ z14)), none, none]) 163 dX9_readNames_161 (by decide) rfl rfl rfl ?_
          refine g_aload_n 164 dX9_readNames_163 rfl rfl ?_
          refine g_get 167 dX9_readNames_164 faX9_97_X9 f17 rfl rfl ?_
          refine g_bipush (v := iZ (-9)) 169 dX9_readNames_167 (by decide +kernel) rfl ?_
          refine g_icZ_ne 187 172 dX9_readNames_169 rfl rfl (by omega) (by decide) (fun _ => ?_) (fun q => absurd q (by omega))
          refine g_aload_n 188 dX9_readNames_187 rfl rfl ?_
          refine g_get 191 dX9_readNames_188 faX9_97_X9 f17 rfl rfl ?_
          refine g_bipush (v := iZ (-9)) 193 dX9_readNames_191 (by decide +kernel) rfl ?_
          refine g_icZ_ne 284 196 dX9_readNames_193 rfl rfl (by omega) (by decide) (fun _ => ?_) (fun q => absurd q (by omega))
          refine g_goto 38 dX9_readNames_284 rfl ?_
          refine g_aload_n 39 dX9_readNames_38 rfl rfl ?_
          refine g_get 42 dX9_readNames_39 faX9_97_X9 f17 rfl rfl ?_
          refine g_bipush (v := iZ (-9)) 44 dX9_readNames_42 (by decide +kernel) rfl ?_
          refine g_icZ_ne 287 47 dX9_readNames_44 rfl rfl (by omega) (by decide) (fun _ => ?_) (fun q => absurd q (by omega))
          refine g_aload_n 288 dX9_readNames_287 rfl rfl ?_
          refine g_get 291 dX9_readNames_288 faX9_97_X9 f17 rfl rfl ?_
          refine g_bipush (v := iZ (-9)) 293 dX9_readNames_291 (by decide +kernel) rfl ?_
          refine g_icZ_ne 305 296 dX9_readNames_293 rfl rfl (by omega) (by decide) (fun _ => ?_) (fun q => absurd q (by omega))
          refine g_aload_n 306 dX9_readNames_305 rfl rfl ?_
          refine g_get 309 dX9_readNames_306 faX9_97_X9 f17 rfl rfl ?_
          refine g_bipush (v := iZ (-9)) 311 dX9_readNames_309 (by decide +kernel) rfl ?_
          refine g_icZ_eq 321 314 dX9_readNames_311 rfl rfl (by omega) (by decide) (fun q => absurd q (by omega)) (fun _ => ?_)
          refine g_aload_n 315 dX9_readNames_314 rfl rfl ?_
          refine g_get 318 dX9_readNames_315 faX9_97_X9 f17 rfl rfl ?_
          refine g_goto 325 dX9_readNames_318 rfl ?_
          refine g_iret rfl dX9_readNames_325 ?_
          have f18 := (s7.get (by decide) F2)
          have f19 := (s7.get (by decide) F3)
          have f20 := (s7.get (by decide) F4)
          have f21 := (s7.get (by decide) F5)
          exact k _ (z8) (z9) (z10) (z11) (z12) (z13) (bf) (lf) (sz) (pl) (z9) (by omega) (by omega) (by omega) (by omega) (by omega) (by omega) obf olf osz opl (by omega) (fun q hq => rfl) (fun q hq => rfl) (by intro q9; omega) ((Sm.refl [50, 54, 55, 56, 61] _).tr s7 (fun _ q => q) (by simp)) f17 f18 f19 f20 f21
        · refine g_iconst (v := iZ (1)) 154 dX9_readNames_153 rfl rfl ?_
          refine g_goto 158 dX9_readNames_154 rfl ?_
          refine g_callV (z := mX9_due) (As := [.int (iZ 1)]) 161 dX9_readNames_158 mwX9_due ⟨by decide, by decide⟩ rfl wlX9_150 wiX9_due wsX9_due F0 rfl rfl rfl (nle rfl) (nle rfl) rfl ?_
          refine n_due  F0 F1 (by omega) (by omega) (by omega) (by omega) (by omega) (by omega) (by omega) (by omega) (by omega) (by omega) (by omega) (by omega) (by omega) (by omega) (by omega) (by omega) (by omega) (by omega) (by decide) (fun h22 z24 z25 z26 z27 z28 z29 z30 rz24 rz25 rz26 rz27 rz28 rz29 rz30 p31 p32 s23 f33 => ?_)
          refine rI ?_
          refine g_istore (L1 := [some (.ref 50), none, some (.int (iZ 12)), some (.int (iZ st)), some (.int (iZ z30)), none, none]) 163 dX9_readNames_161 (by decide) rfl rfl rfl ?_
          refine g_aload_n 164 dX9_readNames_163 rfl rfl ?_
          refine g_get 167 dX9_readNames_164 faX9_97_X9 f33 rfl rfl ?_
          refine g_bipush (v := iZ (-9)) 169 dX9_readNames_167 (by decide +kernel) rfl ?_
          refine g_icZ_ne 187 172 dX9_readNames_169 rfl rfl (by omega) (by decide) (fun q => absurd q (by omega)) (fun _ => ?_)
          refine g_iload 174 dX9_readNames_172 rfl rfl ?_
          refine g_bipush (v := iZ (16)) 176 dX9_readNames_174 (by decide +kernel) rfl ?_
          refine g_icZ_ge 187 179 dX9_readNames_176 rfl rfl (by omega) (by decide) (fun c34 => ?_) (fun c34 => ?_)
          · refine g_aload_n 188 dX9_readNames_187 rfl rfl ?_
            refine g_get 191 dX9_readNames_188 faX9_97_X9 f33 rfl rfl ?_
            refine g_bipush (v := iZ (-9)) 193 dX9_readNames_191 (by decide +kernel) rfl ?_
            refine g_icZ_ne 284 196 dX9_readNames_193 rfl rfl (by omega) (by decide) (fun q => absurd q (by omega)) (fun _ => ?_)
            refine g_iload 198 dX9_readNames_196 rfl rfl ?_
            refine g_bipush (v := iZ (16)) 200 dX9_readNames_198 (by decide +kernel) rfl ?_
            refine g_icZ_eq 211 203 dX9_readNames_200 rfl rfl (by omega) (by decide) (fun c35 => ?_) (fun c35 => ?_)
            · refine g_aload_n 212 dX9_readNames_211 rfl rfl ?_
              refine g_get 215 dX9_readNames_212 faX9_134_X9 f33 rfl rfl ?_
              refine g_istore_n (L1 := [some (.ref 50), none, some (.int (iZ 12)), some (.int (iZ z26)), some (.int (iZ z30)), none, none]) 216 dX9_readNames_215 (by decide) rfl rfl rfl ?_
              refine g_aload_n 217 dX9_readNames_216 rfl rfl ?_
              refine g_get 220 dX9_readNames_217 faX9_140_X9 f33 rfl rfl ?_
              refine g_iconst (v := iZ (2)) 221 dX9_readNames_220 rfl rfl ?_
              refine g_icZ_ne 228 224 dX9_readNames_221 rfl rfl (by omega) (by decide) (fun c36 => ?_) (fun c36 => ?_)
              · refine g_iconst (v := iZ (0)) 229 dX9_readNames_228 rfl rfl ?_
                refine g_istore (L1 := [some (.ref 50), none, some (.int (iZ 12)), some (.int (iZ z26)), some (.int (iZ z30)), some (.int (iZ 0)), none]) 231 dX9_readNames_229 (by decide) rfl rfl rfl ?_
                refine g_aload_n 232 dX9_readNames_231 rfl rfl ?_
                refine g_iload 234 dX9_readNames_232 rfl rfl ?_
                refine g_ifZ_ne 245 237 dX9_readNames_234 rfl rfl (by decide) (fun q => absurd q (by decide)) (fun _ => ?_)
                refine g_aload_n 238 dX9_readNames_237 rfl rfl ?_
                refine g_get 241 dX9_readNames_238 faX9_140_X9 f33 rfl rfl ?_
                refine g_iconst (v := iZ (3)) 242 dX9_readNames_241 rfl rfl ?_
                refine g_icZ_ne 249 245 dX9_readNames_242 rfl rfl (by omega) (by decide) (fun c37 => ?_) (fun c37 => ?_)
                · refine g_iconst (v := iZ (0)) 250 dX9_readNames_249 rfl rfl ?_
                  refine g_callV (z := mX9_due) (As := [.int (iZ 0)]) 253 dX9_readNames_250 mwX9_due ⟨by decide, by decide⟩ rfl wlX9_150 wiX9_due wsX9_due f33 rfl rfl rfl (nle rfl) (nle rfl) rfl ?_
                  have f38 := (s23.get (by decide) F1)
                  refine n_due  f33 f38 (by omega) (by omega) (by omega) (by omega) (by omega) (by omega) (by omega) (by omega) (by omega) (by omega) (by omega) (by omega) (by omega) (by omega) (by omega) (by omega) (by omega) (by omega) (by decide) (fun h39 z41 z42 z43 z44 z45 z46 z47 rz41 rz42 rz43 rz44 rz45 rz46 rz47 p48 p49 s40 f50 => ?_)
                  refine rI ?_
                  refine g_istore (L1 := [some (.ref 50), none, some (.int (iZ 12)), some (.int (iZ z26)), some (.int (iZ z30)), some (.int (iZ 0)), some (.int (iZ z47))]) 255 dX9_readNames_253 (by decide) rfl rfl rfl ?_
                  refine g_aload_n 256 dX9_readNames_255 rfl rfl ?_
                  refine g_get 259 dX9_readNames_256 faX9_97_X9 f50 rfl rfl ?_
                  refine g_bipush (v := iZ (-9)) 261 dX9_readNames_259 (by decide +kernel) rfl ?_
                  refine g_icZ_ne 284 264 dX9_readNames_261 rfl rfl (by omega) (by decide) (fun _ => ?_) (fun q => absurd q (by omega))
                  refine g_goto 38 dX9_readNames_284 rfl ?_
                  refine g_aload_n 39 dX9_readNames_38 rfl rfl ?_
                  refine g_get 42 dX9_readNames_39 faX9_97_X9 f50 rfl rfl ?_
                  refine g_bipush (v := iZ (-9)) 44 dX9_readNames_42 (by decide +kernel) rfl ?_
                  refine g_icZ_ne 287 47 dX9_readNames_44 rfl rfl (by omega) (by decide) (fun _ => ?_) (fun q => absurd q (by omega))
                  refine g_aload_n 288 dX9_readNames_287 rfl rfl ?_
                  refine g_get 291 dX9_readNames_288 faX9_97_X9 f50 rfl rfl ?_
                  refine g_bipush (v := iZ (-9)) 293 dX9_readNames_291 (by decide +kernel) rfl ?_
                  refine g_icZ_ne 305 296 dX9_readNames_293 rfl rfl (by omega) (by decide) (fun _ => ?_) (fun q => absurd q (by omega))
                  refine g_aload_n 306 dX9_readNames_305 rfl rfl ?_
                  refine g_get 309 dX9_readNames_306 faX9_97_X9 f50 rfl rfl ?_
                  refine g_bipush (v := iZ (-9)) 311 dX9_readNames_309 (by decide +kernel) rfl ?_
                  refine g_icZ_eq 321 314 dX9_readNames_311 rfl rfl (by omega) (by decide) (fun q => absurd q (by omega)) (fun _ => ?_)
                  refine g_aload_n 315 dX9_readNames_314 rfl rfl ?_
                  refine g_get 318 dX9_readNames_315 faX9_97_X9 f50 rfl rfl ?_
                  refine g_goto 325 dX9_readNames_318 rfl ?_
                  refine g_iret rfl dX9_readNames_325 ?_
                  have f51 := (s40.get (by decide) (s23.get (by decide) F2))
                  have f52 := (s40.get (by decide) (s23.get (by decide) F3))
                  have f53 := (s40.get (by decide) (s23.get (by decide) F4))
                  have f54 := (s40.get (by decide) (s23.get (by decide) F5))
                  exact k _ (z41) (z42) (z43) (z44) (z45) (z46) (bf) (lf) (sz) (pl) (z42) (by omega) (by omega) (by omega) (by omega) (by omega) (by omega) obf olf osz opl (by omega) (fun q hq => rfl) (fun q hq => rfl) (by intro q9; omega) (((Sm.refl [50, 54, 55, 56, 61] _).tr s23 (fun _ q => q) (by simp)).tr s40 (fun _ q => q) (by simp)) f50 f51 f52 f53 f54
                · refine g_iconst (v := iZ (1)) 246 dX9_readNames_245 rfl rfl ?_
                  refine g_goto 250 dX9_readNames_246 rfl ?_
                  refine g_callV (z := mX9_due) (As := [.int (iZ 1)]) 253 dX9_readNames_250 mwX9_due ⟨by decide, by decide⟩ rfl wlX9_150 wiX9_due wsX9_due f33 rfl rfl rfl (nle rfl) (nle rfl) rfl ?_
                  have f55 := (s23.get (by decide) F1)
                  refine n_due  f33 f55 (by omega) (by omega) (by omega) (by omega) (by omega) (by omega) (by omega) (by omega) (by omega) (by omega) (by omega) (by omega) (by omega) (by omega) (by omega) (by omega) (by omega) (by omega) (by decide) (fun h56 z58 z59 z60 z61 z62 z63 z64 rz58 rz59 rz60 rz61 rz62 rz63 rz64 p65 p66 s57 f67 => ?_)
                  refine rI ?_
                  refine g_istore (L1 := [some (.ref 50), none, some (.int (iZ 12)), some (.int (iZ z26)), some (.int (iZ z30)), some (.int (iZ 0)), some (.int (iZ z64))]) 255 dX9_readNames_253 (by decide) rfl rfl rfl ?_
                  refine g_aload_n 256 dX9_readNames_255 rfl rfl ?_
                  refine g_get 259 dX9_readNames_256 faX9_97_X9 f67 rfl rfl ?_
                  refine g_bipush (v := iZ (-9)) 261 dX9_readNames_259 (by decide +kernel) rfl ?_
                  refine g_icZ_ne 284 264 dX9_readNames_261 rfl rfl (by omega) (by decide) (fun q => absurd q (by omega)) (fun _ => ?_)
                  refine g_aload_n 265 dX9_readNames_264 rfl rfl ?_
                  refine g_iload_n 266 dX9_readNames_265 rfl rfl ?_
                  refine g_iload 268 dX9_readNames_266 rfl rfl ?_
                  refine g_ifZ_eq 278 271 dX9_readNames_268 rfl rfl (by decide) (fun _ => ?_) (fun q => absurd q (by decide))
                  refine g_iload 280 dX9_readNames_278 rfl rfl ?_
                  refine g_iload_n 281 dX9_readNames_280 rfl rfl ?_
                  refine g_callV (z := mX9_add) (As := [.int (iZ 12), .int (iZ z64), .int (iZ z26)]) 284 dX9_readNames_281 mwX9_add ⟨by decide, by decide⟩ rfl wlX9_115 wiX9_add wsX9_add f67 rfl rfl rfl (nle rfl) (nle rfl) rfl ?_
                  have bz68 := osz 12
                  have f69 := (s57.get (by decide) (s23.get (by decide) F2))
                  have f70 := (s57.get (by decide) (s23.get (by decide) F3))
                  have f71 := (s57.get (by decide) (s23.get (by decide) F4))
                  refine n_add  f67 f69 f70 f71 obf olf osz (by omega) (by omega) (by omega) (by omega) (by omega) (by omega) (by omega) (by omega) (by omega) (by omega) (by omega) (by omega) (by omega) (by omega) (by omega) (by omega) (by omega) (by omega) (by omega) (by omega) (by omega) (fun h72 g74 g75 g76 og74 og75 og76 p77 p78 s73 f79 f80 f81 => ?_)
                  refine rV ?_
                  have ez82 := add_Z p78
                  refine g_goto 38 dX9_readNames_284 rfl ?_
                  refine Go.fgt 3 ?_
                  refine Go.fgt 4 ?_
                  refine Go.fgt 5 ?_
                  refine Go.fgt 6 ?_
                  have f83 := (s73.get (by decide) f67)
                  have f84 := (s73.get (by decide) (s57.get (by decide) f55))
                  have f85 := (s73.get (by decide) (s57.get (by decide) (s23.get (by decide) F5)))
                  exact ih _ (by omega) _ (z58) (z59) (z60) (z61) (z62) (z63) (g74) (g75) (g76) (pl) rfl (by omega) (by omega) (by omega) (by omega) (by omega) (by omega) og74 og75 og76 opl f83 f84 f79 f80 f81 f85 (by omega) (by omega) (add_W p77 p78 (osz 12).1 (by omega) hW) (fun hQ xQ0 xQ1 xQ2 xQ3 xQ4 xQ5 xQ6 xQ7 xQ8 xQ9 rQ yQ0 yQ1 yQ2 yQ3 yQ4 yQ5 yQ6 yQ7 yQ8 yQ9 yQ10 pQ0 pQ1 pQ2 sQ uQ0 uQ1 uQ2 uQ3 uQ4 => k hQ xQ0 xQ1 xQ2 xQ3 xQ4 xQ5 xQ6 xQ7 xQ8 xQ9 rQ yQ0 yQ1 yQ2 yQ3 yQ4 yQ5 yQ6 yQ7 yQ8 yQ9 yQ10 (fun q hq => ((pQ0 q hq).trans (add_A p77 (osz 12).1 q hq))) (fun q hq => ((pQ1 q hq).trans (add_C p78 q hq))) pQ2 (((((Sm.refl [50, 54, 55, 56, 61] _).tr s23 (fun _ q => q) (by simp)).tr s57 (fun _ q => q) (by simp)).tr s73 (fun _ q => q) (by simp)).tr sQ (fun _ q => q) (fun _ q => q)) uQ0 uQ1 uQ2 uQ3 uQ4)
              · refine g_iconst (v := iZ (1)) 225 dX9_readNames_224 rfl rfl ?_
                refine g_goto 229 dX9_readNames_225 rfl ?_
                refine g_istore (L1 := [some (.ref 50), none, some (.int (iZ 12)), some (.int (iZ z26)), some (.int (iZ z30)), some (.int (iZ 1)), none]) 231 dX9_readNames_229 (by decide) rfl rfl rfl ?_
                refine g_aload_n 232 dX9_readNames_231 rfl rfl ?_
                refine g_iload 234 dX9_readNames_232 rfl rfl ?_
                refine g_ifZ_ne 245 237 dX9_readNames_234 rfl rfl (by decide) (fun _ => ?_) (fun q => absurd q (by decide))
                refine g_iconst (v := iZ (1)) 246 dX9_readNames_245 rfl rfl ?_
                refine g_goto 250 dX9_readNames_246 rfl ?_
                refine g_callV (z := mX9_due) (As := [.int (iZ 1)]) 253 dX9_readNames_250 mwX9_due ⟨by decide, by decide⟩ rfl wlX9_150 wiX9_due wsX9_due f33 rfl rfl rfl (nle rfl) (nle rfl) rfl ?_
                have f86 := (s23.get (by decide) F1)
                refine n_due  f33 f86 (by omega) (by omega) (by omega) (by omega) (by omega) (by omega) (by omega) (by omega) (by omega) (by omega) (by omega) (by omega) (by omega) (by omega) (by omega) (by omega) (by omega) (by omega) (by decide) (fun h87 z89 z90 z91 z92 z93 z94 z95 rz89 rz90 rz91 rz92 rz93 rz94 rz95 p96 p97 s88 f98 => ?_)
                refine rI ?_
                refine g_istore (L1 := [some (.ref 50), none, some (.int (iZ 12)), some (.int (iZ z26)), some (.int (iZ z30)), some (.int (iZ 1)), some (.int (iZ z95))]) 255 dX9_readNames_253 (by decide) rfl rfl rfl ?_
                refine g_aload_n 256 dX9_readNames_255 rfl rfl ?_
                refine g_get 259 dX9_readNames_256 faX9_97_X9 f98 rfl rfl ?_
                refine g_bipush (v := iZ (-9)) 261 dX9_readNames_259 (by decide +kernel) rfl ?_
                refine g_icZ_ne 284 264 dX9_readNames_261 rfl rfl (by omega) (by decide) (fun q => absurd q (by omega)) (fun _ => ?_)
                refine g_aload_n 265 dX9_readNames_264 rfl rfl ?_
                refine g_iload_n 266 dX9_readNames_265 rfl rfl ?_
                refine g_iload 268 dX9_readNames_266 rfl rfl ?_
                refine g_ifZ_eq 278 271 dX9_readNames_268 rfl rfl (by decide) (fun q => absurd q (by decide)) (fun _ => ?_)
                refine g_iconst (v := iZ (-1)) 272 dX9_readNames_271 rfl rfl ?_
                refine g_iload 274 dX9_readNames_272 rfl rfl ?_
                refine g_isubZ ((-1) - z95) 275 dX9_readNames_274 (by omega) rfl ?_
                refine g_goto 280 dX9_readNames_275 rfl ?_
                refine g_iload_n 281 dX9_readNames_280 rfl rfl ?_
                refine g_callV (z := mX9_add) (As := [.int (iZ 12), .int (iZ ((-1) - z95)), .int (iZ z26)]) 284 dX9_readNames_281 mwX9_add ⟨by decide, by decide⟩ rfl wlX9_115 wiX9_add wsX9_add f98 rfl rfl rfl (nle rfl) (nle rfl) rfl ?_
                have bz99 := osz 12
                have f100 := (s88.get (by decide) (s23.get (by decide) F2))
                have f101 := (s88.get (by decide) (s23.get (by decide) F3))
                have f102 := (s88.get (by decide) (s23.get (by decide) F4))
                refine n_add  f98 f100 f101 f102 obf olf osz (by omega) (by omega) (by omega) (by omega) (by omega) (by omega) (by omega) (by omega) (by omega) (by omega) (by omega) (by omega) (by omega) (by omega) (by omega) (by omega) (by omega) (by omega) (by omega) (by omega) (by omega) (fun h103 g105 g106 g107 og105 og106 og107 p108 p109 s104 f110 f111 f112 => ?_)
                refine rV ?_
                have ez113 := add_Z p109
                refine g_goto 38 dX9_readNames_284 rfl ?_
                refine Go.fgt 3 ?_
                refine Go.fgt 4 ?_
                refine Go.fgt 5 ?_
                refine Go.fgt 6 ?_
                have f114 := (s104.get (by decide) f98)
                have f115 := (s104.get (by decide) (s88.get (by decide) f86))
                have f116 := (s104.get (by decide) (s88.get (by decide) (s23.get (by decide) F5)))
                exact ih _ (by omega) _ (z89) (z90) (z91) (z92) (z93) (z94) (g105) (g106) (g107) (pl) rfl (by omega) (by omega) (by omega) (by omega) (by omega) (by omega) og105 og106 og107 opl f114 f115 f110 f111 f112 f116 (by omega) (by omega) (add_W p108 p109 (osz 12).1 (by omega) hW) (fun hQ xQ0 xQ1 xQ2 xQ3 xQ4 xQ5 xQ6 xQ7 xQ8 xQ9 rQ yQ0 yQ1 yQ2 yQ3 yQ4 yQ5 yQ6 yQ7 yQ8 yQ9 yQ10 pQ0 pQ1 pQ2 sQ uQ0 uQ1 uQ2 uQ3 uQ4 => k hQ xQ0 xQ1 xQ2 xQ3 xQ4 xQ5 xQ6 xQ7 xQ8 xQ9 rQ yQ0 yQ1 yQ2 yQ3 yQ4 yQ5 yQ6 yQ7 yQ8 yQ9 yQ10 (fun q hq => ((pQ0 q hq).trans (add_A p108 (osz 12).1 q hq))) (fun q hq => ((pQ1 q hq).trans (add_C p109 q hq))) pQ2 (((((Sm.refl [50, 54, 55, 56, 61] _).tr s23 (fun _ q => q) (by simp)).tr s88 (fun _ q => q) (by simp)).tr s104 (fun _ q => q) (by simp)).tr sQ (fun _ q => q) (fun _ q => q)) uQ0 uQ1 uQ2 uQ3 uQ4)
            · refine g_iload 205 dX9_readNames_203 rfl rfl ?_
              refine g_callS (z := mX9_hasNumber) (As := [.int (iZ z30)]) 208 dX9_readNames_205 mwX9_hasNumber ⟨by decide, by decide⟩ rfl wlX9_154 wtX9_hasNumber rfl (nle rfl) (nle rfl) rfl ?_
              refine n_hasn  (by omega) (fun z117 rz117 => ?_)
              refine rI ?_
              refine g_ifZ_eq 284 211 dX9_readNames_208 rfl rfl (rg01 rz117) (fun c118 => ?_) (fun c118 => ?_)
              · refine g_goto 38 dX9_readNames_284 rfl ?_
                refine Go.fgt 3 ?_
                refine Go.fgt 4 ?_
                have f119 := (s23.get (by decide) F1)
                have f120 := (s23.get (by decide) F2)
                have f121 := (s23.get (by decide) F3)
                have f122 := (s23.get (by decide) F4)
                have f123 := (s23.get (by decide) F5)
                exact ih _ (by omega) _ (z24) (z25) (z26) (z27) (z28) (z29) (bf) (lf) (sz) (pl) rfl (by omega) (by omega) (by omega) (by omega) (by omega) (by omega) obf olf osz opl f33 f119 f120 f121 f122 f123 (by omega) (by omega) hW (fun hQ xQ0 xQ1 xQ2 xQ3 xQ4 xQ5 xQ6 xQ7 xQ8 xQ9 rQ yQ0 yQ1 yQ2 yQ3 yQ4 yQ5 yQ6 yQ7 yQ8 yQ9 yQ10 pQ0 pQ1 pQ2 sQ uQ0 uQ1 uQ2 uQ3 uQ4 => k hQ xQ0 xQ1 xQ2 xQ3 xQ4 xQ5 xQ6 xQ7 xQ8 xQ9 rQ yQ0 yQ1 yQ2 yQ3 yQ4 yQ5 yQ6 yQ7 yQ8 yQ9 yQ10 (fun q hq => (pQ0 q hq)) (fun q hq => (pQ1 q hq)) pQ2 (((Sm.refl [50, 54, 55, 56, 61] _).tr s23 (fun _ q => q) (by simp)).tr sQ (fun _ q => q) (fun _ q => q)) uQ0 uQ1 uQ2 uQ3 uQ4)
              · refine g_aload_n 212 dX9_readNames_211 rfl rfl ?_
                refine g_get 215 dX9_readNames_212 faX9_134_X9 f33 rfl rfl ?_
                refine g_istore_n (L1 := [some (.ref 50), none, some (.int (iZ 12)), some (.int (iZ z26)), some (.int (iZ z30)), none, none]) 216 dX9_readNames_215 (by decide) rfl rfl rfl ?_
                refine g_aload_n 217 dX9_readNames_216 rfl rfl ?_
                refine g_get 220 dX9_readNames_217 faX9_140_X9 f33 rfl rfl ?_
                refine g_iconst (v := iZ (2)) 221 dX9_readNames_220 rfl rfl ?_
                refine g_icZ_ne 228 224 dX9_readNames_221 rfl rfl (by omega) (by decide) (fun c124 => ?_) (fun c124 => ?_)
                · refine g_iconst (v := iZ (0)) 229 dX9_readNames_228 rfl rfl ?_
                  refine g_istore (L1 := [some (.ref 50), none, some (.int (iZ 12)), some (.int (iZ z26)), some (.int (iZ z30)), some (.int (iZ 0)), none]) 231 dX9_readNames_229 (by decide) rfl rfl rfl ?_
                  refine g_aload_n 232 dX9_readNames_231 rfl rfl ?_
                  refine g_iload 234 dX9_readNames_232 rfl rfl ?_
                  refine g_ifZ_ne 245 237 dX9_readNames_234 rfl rfl (by decide) (fun q => absurd q (by decide)) (fun _ => ?_)
                  refine g_aload_n 238 dX9_readNames_237 rfl rfl ?_
                  refine g_get 241 dX9_readNames_238 faX9_140_X9 f33 rfl rfl ?_
                  refine g_iconst (v := iZ (3)) 242 dX9_readNames_241 rfl rfl ?_
                  refine g_icZ_ne 249 245 dX9_readNames_242 rfl rfl (by omega) (by decide) (fun c125 => ?_) (fun c125 => ?_)
                  · refine g_iconst (v := iZ (0)) 250 dX9_readNames_249 rfl rfl ?_
                    refine g_callV (z := mX9_due) (As := [.int (iZ 0)]) 253 dX9_readNames_250 mwX9_due ⟨by decide, by decide⟩ rfl wlX9_150 wiX9_due wsX9_due f33 rfl rfl rfl (nle rfl) (nle rfl) rfl ?_
                    have f126 := (s23.get (by decide) F1)
                    refine n_due  f33 f126 (by omega) (by omega) (by omega) (by omega) (by omega) (by omega) (by omega) (by omega) (by omega) (by omega) (by omega) (by omega) (by omega) (by omega) (by omega) (by omega) (by omega) (by omega) (by decide) (fun h127 z129 z130 z131 z132 z133 z134 z135 rz129 rz130 rz131 rz132 rz133 rz134 rz135 p136 p137 s128 f138 => ?_)
                    refine rI ?_
                    refine g_istore (L1 := [some (.ref 50), none, some (.int (iZ 12)), some (.int (iZ z26)), some (.int (iZ z30)), some (.int (iZ 0)), some (.int (iZ z135))]) 255 dX9_readNames_253 (by decide) rfl rfl rfl ?_
                    refine g_aload_n 256 dX9_readNames_255 rfl rfl ?_
                    refine g_get 259 dX9_readNames_256 faX9_97_X9 f138 rfl rfl ?_
                    refine g_bipush (v := iZ (-9)) 261 dX9_readNames_259 (by decide +kernel) rfl ?_
                    refine g_icZ_ne 284 264 dX9_readNames_261 rfl rfl (by omega) (by decide) (fun _ => ?_) (fun q => absurd q (by omega))
                    refine g_goto 38 dX9_readNames_284 rfl ?_
                    refine g_aload_n 39 dX9_readNames_38 rfl rfl ?_
                    refine g_get 42 dX9_readNames_39 faX9_97_X9 f138 rfl rfl ?_
                    refine g_bipush (v := iZ (-9)) 44 dX9_readNames_42 (by decide +kernel) rfl ?_
                    refine g_icZ_ne 287 47 dX9_readNames_44 rfl rfl (by omega) (by decide) (fun _ => ?_) (fun q => absurd q (by omega))
                    refine g_aload_n 288 dX9_readNames_287 rfl rfl ?_
                    refine g_get 291 dX9_readNames_288 faX9_97_X9 f138 rfl rfl ?_
                    refine g_bipush (v := iZ (-9)) 293 dX9_readNames_291 (by decide +kernel) rfl ?_
                    refine g_icZ_ne 305 296 dX9_readNames_293 rfl rfl (by omega) (by decide) (fun _ => ?_) (fun q => absurd q (by omega))
                    refine g_aload_n 306 dX9_readNames_305 rfl rfl ?_
                    refine g_get 309 dX9_readNames_306 faX9_97_X9 f138 rfl rfl ?_
                    refine g_bipush (v := iZ (-9)) 311 dX9_readNames_309 (by decide +kernel) rfl ?_
                    refine g_icZ_eq 321 314 dX9_readNames_311 rfl rfl (by omega) (by decide) (fun q => absurd q (by omega)) (fun _ => ?_)
                    refine g_aload_n 315 dX9_readNames_314 rfl rfl ?_
                    refine g_get 318 dX9_readNames_315 faX9_97_X9 f138 rfl rfl ?_
                    refine g_goto 325 dX9_readNames_318 rfl ?_
                    refine g_iret rfl dX9_readNames_325 ?_
                    have f139 := (s128.get (by decide) (s23.get (by decide) F2))
                    have f140 := (s128.get (by decide) (s23.get (by decide) F3))
                    have f141 := (s128.get (by decide) (s23.get (by decide) F4))
                    have f142 := (s128.get (by decide) (s23.get (by decide) F5))
                    exact k _ (z129) (z130) (z131) (z132) (z133) (z134) (bf) (lf) (sz) (pl) (z130) (by omega) (by omega) (by omega) (by omega) (by omega) (by omega) obf olf osz opl (by omega) (fun q hq => rfl) (fun q hq => rfl) (by intro q9; omega) (((Sm.refl [50, 54, 55, 56, 61] _).tr s23 (fun _ q => q) (by simp)).tr s128 (fun _ q => q) (by simp)) f138 f139 f140 f141 f142
                  · refine g_iconst (v := iZ (1)) 246 dX9_readNames_245 rfl rfl ?_
                    refine g_goto 250 dX9_readNames_246 rfl ?_
                    refine g_callV (z := mX9_due) (As := [.int (iZ 1)]) 253 dX9_readNames_250 mwX9_due ⟨by decide, by decide⟩ rfl wlX9_150 wiX9_due wsX9_due f33 rfl rfl rfl (nle rfl) (nle rfl) rfl ?_
                    have f143 := (s23.get (by decide) F1)
                    refine n_due  f33 f143 (by omega) (by omega) (by omega) (by omega) (by omega) (by omega) (by omega) (by omega) (by omega) (by omega) (by omega) (by omega) (by omega) (by omega) (by omega) (by omega) (by omega) (by omega) (by decide) (fun h144 z146 z147 z148 z149 z150 z151 z152 rz146 rz147 rz148 rz149 rz150 rz151 rz152 p153 p154 s145 f155 => ?_)
                    refine rI ?_
                    refine g_istore (L1 := [some (.ref 50), none, some (.int (iZ 12)), some (.int (iZ z26)), some (.int (iZ z30)), some (.int (iZ 0)), some (.int (iZ z152))]) 255 dX9_readNames_253 (by decide) rfl rfl rfl ?_
                    refine g_aload_n 256 dX9_readNames_255 rfl rfl ?_
                    refine g_get 259 dX9_readNames_256 faX9_97_X9 f155 rfl rfl ?_
                    refine g_bipush (v := iZ (-9)) 261 dX9_readNames_259 (by decide +kernel) rfl ?_
                    refine g_icZ_ne 284 264 dX9_readNames_261 rfl rfl (by omega) (by decide) (fun q => absurd q (by omega)) (fun _ => ?_)
                    refine g_aload_n 265 dX9_readNames_264 rfl rfl ?_
                    refine g_iload_n 266 dX9_readNames_265 rfl rfl ?_
                    refine g_iload 268 dX9_readNames_266 rfl rfl ?_
                    refine g_ifZ_eq 278 271 dX9_readNames_268 rfl rfl (by decide) (fun _ => ?_) (fun q => absurd q (by decide))
                    refine g_iload 280 dX9_readNames_278 rfl rfl ?_
                    refine g_iload_n 281 dX9_readNames_280 rfl rfl ?_
                    refine g_callV (z := mX9_add) (As := [.int (iZ 12), .int (iZ z152), .int (iZ z26)]) 284 dX9_readNames_281 mwX9_add ⟨by decide, by decide⟩ rfl wlX9_115 wiX9_add wsX9_add f155 rfl rfl rfl (nle rfl) (nle rfl) rfl ?_
                    have bz156 := osz 12
                    have f157 := (s145.get (by decide) (s23.get (by decide) F2))
                    have f158 := (s145.get (by decide) (s23.get (by decide) F3))
                    have f159 := (s145.get (by decide) (s23.get (by decide) F4))
                    refine n_add  f155 f157 f158 f159 obf olf osz (by omega) (by omega) (by omega) (by omega) (by omega) (by omega) (by omega) (by omega) (by omega) (by omega) (by omega) (by omega) (by omega) (by omega) (by omega) (by omega) (by omega) (by omega) (by omega) (by omega) (by omega) (fun h160 g162 g163 g164 og162 og163 og164 p165 p166 s161 f167 f168 f169 => ?_)
                    refine rV ?_
                    have ez170 := add_Z p166
                    refine g_goto 38 dX9_readNames_284 rfl ?_
                    refine Go.fgt 3 ?_
                    refine Go.fgt 4 ?_
                    refine Go.fgt 5 ?_
                    refine Go.fgt 6 ?_
                    have f171 := (s161.get (by decide) f155)
                    have f172 := (s161.get (by decide) (s145.get (by decide) f143))
                    have f173 := (s161.get (by decide) (s145.get (by decide) (s23.get (by decide) F5)))
                    exact ih _ (by omega) _ (z146) (z147) (z148) (z149) (z150) (z151) (g162) (g163) (g164) (pl) rfl (by omega) (by omega) (by omega) (by omega) (by omega) (by omega) og162 og163 og164 opl f171 f172 f167 f168 f169 f173 (by omega) (by omega) (add_W p165 p166 (osz 12).1 (by omega) hW) (fun hQ xQ0 xQ1 xQ2 xQ3 xQ4 xQ5 xQ6 xQ7 xQ8 xQ9 rQ yQ0 yQ1 yQ2 yQ3 yQ4 yQ5 yQ6 yQ7 yQ8 yQ9 yQ10 pQ0 pQ1 pQ2 sQ uQ0 uQ1 uQ2 uQ3 uQ4 => k hQ xQ0 xQ1 xQ2 xQ3 xQ4 xQ5 xQ6 xQ7 xQ8 xQ9 rQ yQ0 yQ1 yQ2 yQ3 yQ4 yQ5 yQ6 yQ7 yQ8 yQ9 yQ10 (fun q hq => ((pQ0 q hq).trans (add_A p165 (osz 12).1 q hq))) (fun q hq => ((pQ1 q hq).trans (add_C p166 q hq))) pQ2 (((((Sm.refl [50, 54, 55, 56, 61] _).tr s23 (fun _ q => q) (by simp)).tr s145 (fun _ q => q) (by simp)).tr s161 (fun _ q => q) (by simp)).tr sQ (fun _ q => q) (fun _ q => q)) uQ0 uQ1 uQ2 uQ3 uQ4)
                · refine g_iconst (v := iZ (1)) 225 dX9_readNames_224 rfl rfl ?_
                  refine g_goto 229 dX9_readNames_225 rfl ?_
                  refine g_istore (L1 := [some (.ref 50), none, some (.int (iZ 12)), some (.int (iZ z26)), some (.int (iZ z30)), some (.int (iZ 1)), none]) 231 dX9_readNames_229 (by decide) rfl rfl rfl ?_
                  refine g_aload_n 232 dX9_readNames_231 rfl rfl ?_
                  refine g_iload 234 dX9_readNames_232 rfl rfl ?_
                  refine g_ifZ_ne 245 237 dX9_readNames_234 rfl rfl (by decide) (fun _ => ?_) (fun q => absurd q (by decide))
                  refine g_iconst (v := iZ (1)) 246 dX9_readNames_245 rfl rfl ?_
                  refine g_goto 250 dX9_readNames_246 rfl ?_
                  refine g_callV (z := mX9_due) (As := [.int (iZ 1)]) 253 dX9_readNames_250 mwX9_due ⟨by decide, by decide⟩ rfl wlX9_150 wiX9_due wsX9_due f33 rfl rfl rfl (nle rfl) (nle rfl) rfl ?_
                  have f174 := (s23.get (by decide) F1)
                  refine n_due  f33 f174 (by omega) (by omega) (by omega) (by omega) (by omega) (by omega) (by omega) (by omega) (by omega) (by omega) (by omega) (by omega) (by omega) (by omega) (by omega) (by omega) (by omega) (by omega) (by decide) (fun h175 z177 z178 z179 z180 z181 z182 z183 rz177 rz178 rz179 rz180 rz181 rz182 rz183 p184 p185 s176 f186 => ?_)
                  refine rI ?_
                  refine g_istore (L1 := [some (.ref 50), none, some (.int (iZ 12)), some (.int (iZ z26)), some (.int (iZ z30)), some (.int (iZ 1)), some (.int (iZ z183))]) 255 dX9_readNames_253 (by decide) rfl rfl rfl ?_
                  refine g_aload_n 256 dX9_readNames_255 rfl rfl ?_
                  refine g_get 259 dX9_readNames_256 faX9_97_X9 f186 rfl rfl ?_
                  refine g_bipush (v := iZ (-9)) 261 dX9_readNames_259 (by decide +kernel) rfl ?_
                  refine g_icZ_ne 284 264 dX9_readNames_261 rfl rfl (by omega) (by decide) (fun q => absurd q (by omega)) (fun _ => ?_)
                  refine g_aload_n 265 dX9_readNames_264 rfl rfl ?_
                  refine g_iload_n 266 dX9_readNames_265 rfl rfl ?_
                  refine g_iload 268 dX9_readNames_266 rfl rfl ?_
                  refine g_ifZ_eq 278 271 dX9_readNames_268 rfl rfl (by decide) (fun q => absurd q (by decide)) (fun _ => ?_)
                  refine g_iconst (v := iZ (-1)) 272 dX9_readNames_271 rfl rfl ?_
                  refine g_iload 274 dX9_readNames_272 rfl rfl ?_
                  refine g_isubZ ((-1) - z183) 275 dX9_readNames_274 (by omega) rfl ?_
                  refine g_goto 280 dX9_readNames_275 rfl ?_
                  refine g_iload_n 281 dX9_readNames_280 rfl rfl ?_
                  refine g_callV (z := mX9_add) (As := [.int (iZ 12), .int (iZ ((-1) - z183)), .int (iZ z26)]) 284 dX9_readNames_281 mwX9_add ⟨by decide, by decide⟩ rfl wlX9_115 wiX9_add wsX9_add f186 rfl rfl rfl (nle rfl) (nle rfl) rfl ?_
                  have bz187 := osz 12
                  have f188 := (s176.get (by decide) (s23.get (by decide) F2))
                  have f189 := (s176.get (by decide) (s23.get (by decide) F3))
                  have f190 := (s176.get (by decide) (s23.get (by decide) F4))
                  refine n_add  f186 f188 f189 f190 obf olf osz (by omega) (by omega) (by omega) (by omega) (by omega) (by omega) (by omega) (by omega) (by omega) (by omega) (by omega) (by omega) (by omega) (by omega) (by omega) (by omega) (by omega) (by omega) (by omega) (by omega) (by omega) (fun h191 g193 g194 g195 og193 og194 og195 p196 p197 s192 f198 f199 f200 => ?_)
                  refine rV ?_
                  have ez201 := add_Z p197
                  refine g_goto 38 dX9_readNames_284 rfl ?_
                  refine Go.fgt 3 ?_
                  refine Go.fgt 4 ?_
                  refine Go.fgt 5 ?_
                  refine Go.fgt 6 ?_
                  have f202 := (s192.get (by decide) f186)
                  have f203 := (s192.get (by decide) (s176.get (by decide) f174))
                  have f204 := (s192.get (by decide) (s176.get (by decide) (s23.get (by decide) F5)))
                  exact ih _ (by omega) _ (z177) (z178) (z179) (z180) (z181) (z182) (g193) (g194) (g195) (pl) rfl (by omega) (by omega) (by omega) (by omega) (by omega) (by omega) og193 og194 og195 opl f202 f203 f198 f199 f200 f204 (by omega) (by omega) (add_W p196 p197 (osz 12).1 (by omega) hW) (fun hQ xQ0 xQ1 xQ2 xQ3 xQ4 xQ5 xQ6 xQ7 xQ8 xQ9 rQ yQ0 yQ1 yQ2 yQ3 yQ4 yQ5 yQ6 yQ7 yQ8 yQ9 yQ10 pQ0 pQ1 pQ2 sQ uQ0 uQ1 uQ2 uQ3 uQ4 => k hQ xQ0 xQ1 xQ2 xQ3 xQ4 xQ5 xQ6 xQ7 xQ8 xQ9 rQ yQ0 yQ1 yQ2 yQ3 yQ4 yQ5 yQ6 yQ7 yQ8 yQ9 yQ10 (fun q hq => ((pQ0 q hq).trans (add_A p196 (osz 12).1 q hq))) (fun q hq => ((pQ1 q hq).trans (add_C p197 q hq))) pQ2 (((((Sm.refl [50, 54, 55, 56, 61] _).tr s23 (fun _ q => q) (by simp)).tr s176 (fun _ q => q) (by simp)).tr s192 (fun _ q => q) (by simp)).tr sQ (fun _ q => q) (fun _ q => q)) uQ0 uQ1 uQ2 uQ3 uQ4)
          · refine g_aload_n 180 dX9_readNames_179 rfl rfl ?_
            refine g_iload_n 181 dX9_readNames_180 rfl rfl ?_
            refine g_iload 183 dX9_readNames_181 rfl rfl ?_
            refine g_iload_n 184 dX9_readNames_183 rfl rfl ?_
            refine g_callV (z := mX9_add) (As := [.int (iZ 12), .int (iZ z30), .int (iZ st)]) 187 dX9_readNames_184 mwX9_add ⟨by decide, by decide⟩ rfl wlX9_115 wiX9_add wsX9_add f33 rfl rfl rfl (nle rfl) (nle rfl) rfl ?_
            have bz205 := osz 12
            have f206 := (s23.get (by decide) F2)
            have f207 := (s23.get (by decide) F3)
            have f208 := (s23.get (by decide) F4)
            refine n_add  f33 f206 f207 f208 obf olf osz (by omega) (by omega) (by omega) (by omega) (by omega) (by omega) (by omega) (by omega) (by omega) (by omega) (by omega) (by omega) (by omega) (by omega) (by omega) (by omega) (by omega) (by omega) (by omega) (by omega) (by omega) (fun h209 g211 g212 g213 og211 og212 og213 p214 p215 s210 f216 f217 f218 => ?_)
            refine rV ?_
            have ez219 := add_Z p215
            refine g_aload_n 188 dX9_readNames_187 rfl rfl ?_
            have f220 := (s210.get (by decide) f33)
            refine g_get 191 dX9_readNames_188 faX9_97_X9 f220 rfl rfl ?_
            refine g_bipush (v := iZ (-9)) 193 dX9_readNames_191 (by decide +kernel) rfl ?_
            refine g_icZ_ne 284 196 dX9_readNames_193 rfl rfl (by omega) (by decide) (fun q => absurd q (by omega)) (fun _ => ?_)
            refine g_iload 198 dX9_readNames_196 rfl rfl ?_
            refine g_bipush (v := iZ (16)) 200 dX9_readNames_198 (by decide +kernel) rfl ?_
            refine g_icZ_eq 211 203 dX9_readNames_200 rfl rfl (by omega) (by decide) (fun q => absurd q (by omega)) (fun _ => ?_)
            refine g_iload 205 dX9_readNames_203 rfl rfl ?_
            refine g_callS (z := mX9_hasNumber) (As := [.int (iZ z30)]) 208 dX9_readNames_205 mwX9_hasNumber ⟨by decide, by decide⟩ rfl wlX9_154 wtX9_hasNumber rfl (nle rfl) (nle rfl) rfl ?_
            refine n_hasn  (by omega) (fun z221 rz221 => ?_)
            refine rI ?_
            refine g_ifZ_eq 284 211 dX9_readNames_208 rfl rfl (rg01 rz221) (fun c222 => ?_) (fun c222 => ?_)
            · refine g_goto 38 dX9_readNames_284 rfl ?_
              refine Go.fgt 3 ?_
              refine Go.fgt 4 ?_
              have f223 := (s210.get (by decide) (s23.get (by decide) F1))
              have f224 := (s210.get (by decide) (s23.get (by decide) F5))
              exact ih _ (by omega) _ (z24) (z25) (z26) (z27) (z28) (z29) (g211) (g212) (g213) (pl) rfl (by omega) (by omega) (by omega) (by omega) (by omega) (by omega) og211 og212 og213 opl f220 f223 f216 f217 f218 f224 (by omega) (by omega) (add_W p214 p215 (osz 12).1 (by omega) hW) (fun hQ xQ0 xQ1 xQ2 xQ3 xQ4 xQ5 xQ6 xQ7 xQ8 xQ9 rQ yQ0 yQ1 yQ2 yQ3 yQ4 yQ5 yQ6 yQ7 yQ8 yQ9 yQ10 pQ0 pQ1 pQ2 sQ uQ0 uQ1 uQ2 uQ3 uQ4 => k hQ xQ0 xQ1 xQ2 xQ3 xQ4 xQ5 xQ6 xQ7 xQ8 xQ9 rQ yQ0 yQ1 yQ2 yQ3 yQ4 yQ5 yQ6 yQ7 yQ8 yQ9 yQ10 (fun q hq => ((pQ0 q hq).trans (add_A p214 (osz 12).1 q hq))) (fun q hq => ((pQ1 q hq).trans (add_C p215 q hq))) pQ2 ((((Sm.refl [50, 54, 55, 56, 61] _).tr s23 (fun _ q => q) (by simp)).tr s210 (fun _ q => q) (by simp)).tr sQ (fun _ q => q) (fun _ q => q)) uQ0 uQ1 uQ2 uQ3 uQ4)
            · refine g_aload_n 212 dX9_readNames_211 rfl rfl ?_
              refine g_get 215 dX9_readNames_212 faX9_134_X9 f220 rfl rfl ?_
              refine g_istore_n (L1 := [some (.ref 50), none, some (.int (iZ 12)), some (.int (iZ z26)), some (.int (iZ z30)), none, none]) 216 dX9_readNames_215 (by decide) rfl rfl rfl ?_
              refine g_aload_n 217 dX9_readNames_216 rfl rfl ?_
              refine g_get 220 dX9_readNames_217 faX9_140_X9 f220 rfl rfl ?_
              refine g_iconst (v := iZ (2)) 221 dX9_readNames_220 rfl rfl ?_
              refine g_icZ_ne 228 224 dX9_readNames_221 rfl rfl (by omega) (by decide) (fun c225 => ?_) (fun c225 => ?_)
              · refine g_iconst (v := iZ (0)) 229 dX9_readNames_228 rfl rfl ?_
                refine g_istore (L1 := [some (.ref 50), none, some (.int (iZ 12)), some (.int (iZ z26)), some (.int (iZ z30)), some (.int (iZ 0)), none]) 231 dX9_readNames_229 (by decide) rfl rfl rfl ?_
                refine g_aload_n 232 dX9_readNames_231 rfl rfl ?_
                refine g_iload 234 dX9_readNames_232 rfl rfl ?_
                refine g_ifZ_ne 245 237 dX9_readNames_234 rfl rfl (by decide) (fun q => absurd q (by decide)) (fun _ => ?_)
                refine g_aload_n 238 dX9_readNames_237 rfl rfl ?_
                refine g_get 241 dX9_readNames_238 faX9_140_X9 f220 rfl rfl ?_
                refine g_iconst (v := iZ (3)) 242 dX9_readNames_241 rfl rfl ?_
                refine g_icZ_ne 249 245 dX9_readNames_242 rfl rfl (by omega) (by decide) (fun c226 => ?_) (fun c226 => ?_)
                · refine g_iconst (v := iZ (0)) 250 dX9_readNames_249 rfl rfl ?_
                  refine g_callV (z := mX9_due) (As := [.int (iZ 0)]) 253 dX9_readNames_250 mwX9_due ⟨by decide, by decide⟩ rfl wlX9_150 wiX9_due wsX9_due f220 rfl rfl rfl (nle rfl) (nle rfl) rfl ?_
                  have f227 := (s210.get (by decide) (s23.get (by decide) F1))
                  refine n_due  f220 f227 (by omega) (by omega) (by omega) (by omega) (by omega) (by omega) (by omega) (by omega) (by omega) (by omega) (by omega) (by omega) (by omega) (by omega) (by omega) (by omega) (by omega) (by omega) (by decide) (fun h228 z230 z231 z232 z233 z234 z235 z236 rz230 rz231 rz232 rz233 rz234 rz235 rz236 p237 p238 s229 f239 => ?_)
                  refine rI ?_
                  refine g_istore (L1 := [some (.ref 50), none, some (.int (iZ 12)), some (.int (iZ z26)), some (.int (iZ z30)), some (.int (iZ 0)), some (.int (iZ z236))]) 255 dX9_readNames_253 (by decide) rfl rfl rfl ?_
                  refine g_aload_n 256 dX9_readNames_255 rfl rfl ?_
                  refine g_get 259 dX9_readNames_256 faX9_97_X9 f239 rfl rfl ?_
                  refine g_bipush (v := iZ (-9)) 261 dX9_readNames_259 (by decide +kernel) rfl ?_
                  refine g_icZ_ne 284 264 dX9_readNames_261 rfl rfl (by omega) (by decide) (fun _ => ?_) (fun q => absurd q (by omega))
                  refine g_goto 38 dX9_readNames_284 rfl ?_
                  refine g_aload_n 39 dX9_readNames_38 rfl rfl ?_
                  refine g_get 42 dX9_readNames_39 faX9_97_X9 f239 rfl rfl ?_
                  refine g_bipush (v := iZ (-9)) 44 dX9_readNames_42 (by decide +kernel) rfl ?_
                  refine g_icZ_ne 287 47 dX9_readNames_44 rfl rfl (by omega) (by decide) (fun _ => ?_) (fun q => absurd q (by omega))
                  refine g_aload_n 288 dX9_readNames_287 rfl rfl ?_
                  refine g_get 291 dX9_readNames_288 faX9_97_X9 f239 rfl rfl ?_
                  refine g_bipush (v := iZ (-9)) 293 dX9_readNames_291 (by decide +kernel) rfl ?_
                  refine g_icZ_ne 305 296 dX9_readNames_293 rfl rfl (by omega) (by decide) (fun _ => ?_) (fun q => absurd q (by omega))
                  refine g_aload_n 306 dX9_readNames_305 rfl rfl ?_
                  refine g_get 309 dX9_readNames_306 faX9_97_X9 f239 rfl rfl ?_
                  refine g_bipush (v := iZ (-9)) 311 dX9_readNames_309 (by decide +kernel) rfl ?_
                  refine g_icZ_eq 321 314 dX9_readNames_311 rfl rfl (by omega) (by decide) (fun q => absurd q (by omega)) (fun _ => ?_)
                  refine g_aload_n 315 dX9_readNames_314 rfl rfl ?_
                  refine g_get 318 dX9_readNames_315 faX9_97_X9 f239 rfl rfl ?_
                  refine g_goto 325 dX9_readNames_318 rfl ?_
                  refine g_iret rfl dX9_readNames_325 ?_
                  have f240 := (s229.get (by decide) f216)
                  have f241 := (s229.get (by decide) f217)
                  have f242 := (s229.get (by decide) f218)
                  have f243 := (s229.get (by decide) (s210.get (by decide) (s23.get (by decide) F5)))
                  exact k _ (z230) (z231) (z232) (z233) (z234) (z235) (g211) (g212) (g213) (pl) (z231) (by omega) (by omega) (by omega) (by omega) (by omega) (by omega) og211 og212 og213 opl (by omega) (fun q hq => (add_A p214 (osz 12).1 q hq)) (fun q hq => (add_C p215 q hq)) (by intro q9; omega) ((((Sm.refl [50, 54, 55, 56, 61] _).tr s23 (fun _ q => q) (by simp)).tr s210 (fun _ q => q) (by simp)).tr s229 (fun _ q => q) (by simp)) f239 f240 f241 f242 f243
                · refine g_iconst (v := iZ (1)) 246 dX9_readNames_245 rfl rfl ?_
                  refine g_goto 250 dX9_readNames_246 rfl ?_
                  refine g_callV (z := mX9_due) (As := [.int (iZ 1)]) 253 dX9_readNames_250 mwX9_due ⟨by decide, by decide⟩ rfl wlX9_150 wiX9_due wsX9_due f220 rfl rfl rfl (nle rfl) (nle rfl) rfl ?_
                  have f244 := (s210.get (by decide) (s23.get (by decide) F1))
                  refine n_due  f220 f244 (by omega) (by omega) (by omega) (by omega) (by omega) (by omega) (by omega) (by omega) (by omega) (by omega) (by omega) (by omega) (by omega) (by omega) (by omega) (by omega) (by omega) (by omega) (by decide) (fun h245 z247 z248 z249 z250 z251 z252 z253 rz247 rz248 rz249 rz250 rz251 rz252 rz253 p254 p255 s246 f256 => ?_)
                  refine rI ?_
                  refine g_istore (L1 := [some (.ref 50), none, some (.int (iZ 12)), some (.int (iZ z26)), some (.int (iZ z30)), some (.int (iZ 0)), some (.int (iZ z253))]) 255 dX9_readNames_253 (by decide) rfl rfl rfl ?_
                  refine g_aload_n 256 dX9_readNames_255 rfl rfl ?_
                  refine g_get 259 dX9_readNames_256 faX9_97_X9 f256 rfl rfl ?_
                  refine g_bipush (v := iZ (-9)) 261 dX9_readNames_259 (by decide +kernel) rfl ?_
                  refine g_icZ_ne 284 264 dX9_readNames_261 rfl rfl (by omega) (by decide) (fun q => absurd q (by omega)) (fun _ => ?_)
                  refine g_aload_n 265 dX9_readNames_264 rfl rfl ?_
                  refine g_iload_n 266 dX9_readNames_265 rfl rfl ?_
                  refine g_iload 268 dX9_readNames_266 rfl rfl ?_
                  refine g_ifZ_eq 278 271 dX9_readNames_268 rfl rfl (by decide) (fun _ => ?_) (fun q => absurd q (by decide))
                  refine g_iload 280 dX9_readNames_278 rfl rfl ?_
                  refine g_iload_n 281 dX9_readNames_280 rfl rfl ?_
                  refine g_callV (z := mX9_add) (As := [.int (iZ 12), .int (iZ z253), .int (iZ z26)]) 284 dX9_readNames_281 mwX9_add ⟨by decide, by decide⟩ rfl wlX9_115 wiX9_add wsX9_add f256 rfl rfl rfl (nle rfl) (nle rfl) rfl ?_
                  have bz257 := og213 12
                  have f258 := (s246.get (by decide) f216)
                  have f259 := (s246.get (by decide) f217)
                  have f260 := (s246.get (by decide) f218)
                  refine n_add  f256 f258 f259 f260 og211 og212 og213 (by omega) (by omega) (by omega) (by omega) (by omega) (by omega) (by omega) (by omega) (by omega) (by omega) (by omega) (by omega) (by omega) (by omega) (by omega) (by omega) (by omega) (by omega) (by omega) (by omega) (by omega) (fun h261 g263 g264 g265 og263 og264 og265 p266 p267 s262 f268 f269 f270 => ?_)
                  refine rV ?_
                  have ez271 := add_Z p267
                  refine g_goto 38 dX9_readNames_284 rfl ?_
                  refine Go.fgt 3 ?_
                  refine Go.fgt 4 ?_
                  refine Go.fgt 5 ?_
                  refine Go.fgt 6 ?_
                  have f272 := (s262.get (by decide) f256)
                  have f273 := (s262.get (by decide) (s246.get (by decide) f244))
                  have f274 := (s262.get (by decide) (s246.get (by decide) (s210.get (by decide) (s23.get (by decide) F5))))
                  exact ih _ (by omega) _ (z247) (z248) (z249) (z250) (z251) (z252) (g263) (g264) (g265) (pl) rfl (by omega) (by omega) (by omega) (by omega) (by omega) (by omega) og263 og264 og265 opl f272 f273 f268 f269 f270 f274 (by omega) (by omega) (add_W p266 p267 (og213 12).1 (by omega) (add_W p214 p215 (osz 12).1 (by omega) hW)) (fun hQ xQ0 xQ1 xQ2 xQ3 xQ4 xQ5 xQ6 xQ7 xQ8 xQ9 rQ yQ0 yQ1 yQ2 yQ3 yQ4 yQ5 yQ6 yQ7 yQ8 yQ9 yQ10 pQ0 pQ1 pQ2 sQ uQ0 uQ1 uQ2 uQ3 uQ4 => k hQ xQ0 xQ1 xQ2 xQ3 xQ4 xQ5 xQ6 xQ7 xQ8 xQ9 rQ yQ0 yQ1 yQ2 yQ3 yQ4 yQ5 yQ6 yQ7 yQ8 yQ9 yQ10 (fun q hq => (((pQ0 q hq).trans (add_A p266 (og213 12).1 q hq)).trans (add_A p214 (osz 12).1 q hq))) (fun q hq => (((pQ1 q hq).trans (add_C p267 q hq)).trans (add_C p215 q hq))) pQ2 ((((((Sm.refl [50, 54, 55, 56, 61] _).tr s23 (fun _ q => q) (by simp)).tr s210 (fun _ q => q) (by simp)).tr s246 (fun _ q => q) (by simp)).tr s262 (fun _ q => q) (by simp)).tr sQ (fun _ q => q) (fun _ q => q)) uQ0 uQ1 uQ2 uQ3 uQ4)
              · refine g_iconst (v := iZ (1)) 225 dX9_readNames_224 rfl rfl ?_
                refine g_goto 229 dX9_readNames_225 rfl ?_
                refine g_istore (L1 := [some (.ref 50), none, some (.int (iZ 12)), some (.int (iZ z26)), some (.int (iZ z30)), some (.int (iZ 1)), none]) 231 dX9_readNames_229 (by decide) rfl rfl rfl ?_
                refine g_aload_n 232 dX9_readNames_231 rfl rfl ?_
                refine g_iload 234 dX9_readNames_232 rfl rfl ?_
                refine g_ifZ_ne 245 237 dX9_readNames_234 rfl rfl (by decide) (fun _ => ?_) (fun q => absurd q (by decide))
                refine g_iconst (v := iZ (1)) 246 dX9_readNames_245 rfl rfl ?_
                refine g_goto 250 dX9_readNames_246 rfl ?_
                refine g_callV (z := mX9_due) (As := [.int (iZ 1)]) 253 dX9_readNames_250 mwX9_due ⟨by decide, by decide⟩ rfl wlX9_150 wiX9_due wsX9_due f220 rfl rfl rfl (nle rfl) (nle rfl) rfl ?_
                have f275 := (s210.get (by decide) (s23.get (by decide) F1))
                refine n_due  f220 f275 (by omega) (by omega) (by omega) (by omega) (by omega) (by omega) (by omega) (by omega) (by omega) (by omega) (by omega) (by omega) (by omega) (by omega) (by omega) (by omega) (by omega) (by omega) (by decide) (fun h276 z278 z279 z280 z281 z282 z283 z284 rz278 rz279 rz280 rz281 rz282 rz283 rz284 p285 p286 s277 f287 => ?_)
                refine rI ?_
                refine g_istore (L1 := [some (.ref 50), none, some (.int (iZ 12)), some (.int (iZ z26)), some (.int (iZ z30)), some (.int (iZ 1)), some (.int (iZ z284))]) 255 dX9_readNames_253 (by decide) rfl rfl rfl ?_
                refine g_aload_n 256 dX9_readNames_255 rfl rfl ?_
                refine g_get 259 dX9_readNames_256 faX9_97_X9 f287 rfl rfl ?_
                refine g_bipush (v := iZ (-9)) 261 dX9_readNames_259 (by decide +kernel) rfl ?_
                refine g_icZ_ne 284 264 dX9_readNames_261 rfl rfl (by omega) (by decide) (fun q => absurd q (by omega)) (fun _ => ?_)
                refine g_aload_n 265 dX9_readNames_264 rfl rfl ?_
                refine g_iload_n 266 dX9_readNames_265 rfl rfl ?_
                refine g_iload 268 dX9_readNames_266 rfl rfl ?_
                refine g_ifZ_eq 278 271 dX9_readNames_268 rfl rfl (by decide) (fun q => absurd q (by decide)) (fun _ => ?_)
                refine g_iconst (v := iZ (-1)) 272 dX9_readNames_271 rfl rfl ?_
                refine g_iload 274 dX9_readNames_272 rfl rfl ?_
                refine g_isubZ ((-1) - z284) 275 dX9_readNames_274 (by omega) rfl ?_
                refine g_goto 280 dX9_readNames_275 rfl ?_
                refine g_iload_n 281 dX9_readNames_280 rfl rfl ?_
                refine g_callV (z := mX9_add) (As := [.int (iZ 12), .int (iZ ((-1) - z284)), .int (iZ z26)]) 284 dX9_readNames_281 mwX9_add ⟨by decide, by decide⟩ rfl wlX9_115 wiX9_add wsX9_add f287 rfl rfl rfl (nle rfl) (nle rfl) rfl ?_
                have bz288 := og213 12
                have f289 := (s277.get (by decide) f216)
                have f290 := (s277.get (by decide) f217)
                have f291 := (s277.get (by decide) f218)
                refine n_add  f287 f289 f290 f291 og211 og212 og213 (by omega) (by omega) (by omega) (by omega) (by omega) (by omega) (by omega) (by omega) (by omega) (by omega) (by omega) (by omega) (by omega) (by omega) (by omega) (by omega) (by omega) (by omega) (by omega) (by omega) (by omega) (fun h292 g294 g295 g296 og294 og295 og296 p297 p298 s293 f299 f300 f301 => ?_)
                refine rV ?_
                have ez302 := add_Z p298
                refine g_goto 38 dX9_readNames_284 rfl ?_
                refine Go.fgt 3 ?_
                refine Go.fgt 4 ?_
                refine Go.fgt 5 ?_
                refine Go.fgt 6 ?_
                have f303 := (s293.get (by decide) f287)
                have f304 := (s293.get (by decide) (s277.get (by decide) f275))
                have f305 := (s293.get (by decide) (s277.get (by decide) (s210.get (by decide) (s23.get (by decide) F5))))
                exact ih _ (by omega) _ (z278) (z279) (z280) (z281) (z282) (z283) (g294) (g295) (g296) (pl) rfl (by omega) (by omega) (by omega) (by omega) (by omega) (by omega) og294 og295 og296 opl f303 f304 f299 f300 f301 f305 (by omega) (by omega) (add_W p297 p298 (og213 12).1 (by omega) (add_W p214 p215 (osz 12).1 (by omega) hW)) (fun hQ xQ0 xQ1 xQ2 xQ3 xQ4 xQ5 xQ6 xQ7 xQ8 xQ9 rQ yQ0 yQ1 yQ2 yQ3 yQ4 yQ5 yQ6 yQ7 yQ8 yQ9 yQ10 pQ0 pQ1 pQ2 sQ uQ0 uQ1 uQ2 uQ3 uQ4 => k hQ xQ0 xQ1 xQ2 xQ3 xQ4 xQ5 xQ6 xQ7 xQ8 xQ9 rQ yQ0 yQ1 yQ2 yQ3 yQ4 yQ5 yQ6 yQ7 yQ8 yQ9 yQ10 (fun q hq => (((pQ0 q hq).trans (add_A p297 (og213 12).1 q hq)).trans (add_A p214 (osz 12).1 q hq))) (fun q hq => (((pQ1 q hq).trans (add_C p298 q hq)).trans (add_C p215 q hq))) pQ2 ((((((Sm.refl [50, 54, 55, 56, 61] _).tr s23 (fun _ q => q) (by simp)).tr s210 (fun _ q => q) (by simp)).tr s277 (fun _ q => q) (by simp)).tr s293 (fun _ q => q) (by simp)).tr sQ (fun _ q => q) (fun _ q => q)) uQ0 uQ1 uQ2 uQ3 uQ4)
      · refine g_aload_n 63 dX9_readNames_62 rfl rfl ?_
        refine g_aload_n 64 dX9_readNames_63 rfl rfl ?_
        refine g_get 67 dX9_readNames_64 faX9_41_X9 F0 rfl rfl ?_
        refine g_aload_n 68 dX9_readNames_67 rfl rfl ?_
        refine g_get 71 dX9_readNames_68 faX9_137_X9 F0 rfl rfl ?_
        have b306 := opl ((va).toNat)
        refine g_ialdZ (v := iZ (pl (va).toNat)) 72 dX9_readNames_71 F5 (by omega) (by omega) (by decide) rfl rfl ?_
        refine g_bipush (v := iZ (-9)) 74 dX9_readNames_72 (by decide +kernel) rfl ?_
        refine g_icZ_ne 81 77 dX9_readNames_74 rfl rfl (by omega) (by decide) (fun c307 => ?_) (fun c307 => ?_)
        · refine g_iconst (v := iZ (0)) 82 dX9_readNames_81 rfl rfl ?_
          refine g_callV (z := mX9_due) (As := [.int (iZ 0)]) 85 dX9_readNames_82 mwX9_due ⟨by decide, by decide⟩ rfl wlX9_150 wiX9_due wsX9_due F0 rfl rfl rfl (nle rfl) (nle rfl) rfl ?_
          refine n_due  F0 F1 (by omega) (by omega) (by omega) (by omega) (by omega) (by omega) (by omega) (by omega) (by omega) (by omega) (by omega) (by omega) (by omega) (by omega) (by omega) (by omega) (by omega) (by omega) (by decide) (fun h308 z310 z311 z312 z313 z314 z315 z316 rz310 rz311 rz312 rz313 rz314 rz315 rz316 p317 p318 s309 f319 => ?_)
          refine rI ?_
          refine g_istore_n (L1 := [some (.ref 50), none, some (.int (iZ 12)), some (.int (iZ z316)), none, none, none]) 86 dX9_readNames_85 (by decide) rfl rfl rfl ?_
          refine g_aload_n 87 dX9_readNames_86 rfl rfl ?_
          refine g_aload_n 88 dX9_readNames_87 rfl rfl ?_
          refine g_get 91 dX9_readNames_88 faX9_140_X9 f319 rfl rfl ?_
          refine g_iconst (v := iZ (4)) 92 dX9_readNames_91 rfl rfl ?_
          refine g_icZ_ne 110 95 dX9_readNames_92 rfl rfl (by omega) (by decide) (fun c320 => ?_) (fun c320 => ?_)
          · refine g_iconst (v := iZ (0)) 111 dX9_readNames_110 rfl rfl ?_
            refine g_callV (z := mX9_due) (As := [.int (iZ 0)]) 114 dX9_readNames_111 mwX9_due ⟨by decide, by decide⟩ rfl wlX9_150 wiX9_due wsX9_due f319 rfl rfl rfl (nle rfl) (nle rfl) rfl ?_
            have f321 := (s309.get (by decide) F1)
            refine n_due  f319 f321 (by omega) (by omega) (by omega) (by omega) (by omega) (by omega) (by omega) (by omega) (by omega) (by omega) (by omega) (by omega) (by omega) (by omega) (by omega) (by omega) (by omega) (by omega) (by decide) (fun h322 z324 z325 z326 z327 z328 z329 z330 rz324 rz325 rz326 rz327 rz328 rz329 rz330 p331 p332 s323 f333 => ?_)
            refine rI ?_
            refine g_pop 115 dX9_readNames_114 rfl rfl ?_
            refine g_aload_n 116 dX9_readNames_115 rfl rfl ?_
            refine g_get 119 dX9_readNames_116 faX9_97_X9 f333 rfl rfl ?_
            refine g_bipush (v := iZ (-9)) 121 dX9_readNames_119 (by decide +kernel) rfl ?_
            refine g_icZ_ne 136 124 dX9_readNames_121 rfl rfl (by omega) (by decide) (fun _ => ?_) (fun q => absurd q (by omega))
            refine g_goto 38 dX9_readNames_136 rfl ?_
            refine g_aload_n 39 dX9_readNames_38 rfl rfl ?_
            refine g_get 42 dX9_readNames_39 faX9_97_X9 f333 rfl rfl ?_
            refine g_bipush (v := iZ (-9)) 44 dX9_readNames_42 (by decide +kernel) rfl ?_
            refine g_icZ_ne 287 47 dX9_readNames_44 rfl rfl (by omega) (by decide) (fun _ => ?_) (fun q => absurd q (by omega))
            refine g_aload_n 288 dX9_readNames_287 rfl rfl ?_
            refine g_get 291 dX9_readNames_288 faX9_97_X9 f333 rfl rfl ?_
            refine g_bipush (v := iZ (-9)) 293 dX9_readNames_291 (by decide +kernel) rfl ?_
            refine g_icZ_ne 305 296 dX9_readNames_293 rfl rfl (by omega) (by decide) (fun _ => ?_) (fun q => absurd q (by omega))
            refine g_aload_n 306 dX9_readNames_305 rfl rfl ?_
            refine g_get 309 dX9_readNames_306 faX9_97_X9 f333 rfl rfl ?_
            refine g_bipush (v := iZ (-9)) 311 dX9_readNames_309 (by decide +kernel) rfl ?_
            refine g_icZ_eq 321 314 dX9_readNames_311 rfl rfl (by omega) (by decide) (fun q => absurd q (by omega)) (fun _ => ?_)
            refine g_aload_n 315 dX9_readNames_314 rfl rfl ?_
            refine g_get 318 dX9_readNames_315 faX9_97_X9 f333 rfl rfl ?_
            refine g_goto 325 dX9_readNames_318 rfl ?_
            refine g_iret rfl dX9_readNames_325 ?_
            have f334 := (s323.get (by decide) (s309.get (by decide) F2))
            have f335 := (s323.get (by decide) (s309.get (by decide) F3))
            have f336 := (s323.get (by decide) (s309.get (by decide) F4))
            have f337 := (s323.get (by decide) (s309.get (by decide) F5))
            exact k _ (z324) (z325) (z326) (z327) (z328) (z329) (bf) (lf) (sz) (pl) (z325) (by omega) (by omega) (by omega) (by omega) (by omega) (by omega) obf olf osz opl (by omega) (fun q hq => rfl) (fun q hq => rfl) (by intro q9; omega) (((Sm.refl [50, 54, 55, 56, 61] _).tr s309 (fun _ q => q) (by simp)).tr s323 (fun _ q => q) (by simp)) f333 f334 f335 f336 f337
          · refine g_aload_n 96 dX9_readNames_95 rfl rfl ?_
            refine g_get 99 dX9_readNames_96 faX9_134_X9 f319 rfl rfl ?_
            refine g_aload_n 100 dX9_readNames_99 rfl rfl ?_
            refine g_get 103 dX9_readNames_100 faX9_131_X9 f319 rfl rfl ?_
            refine g_icZ_ne 110 106 dX9_readNames_103 rfl rfl (by omega) (by omega) (fun c338 => ?_) (fun c338 => ?_)
            · refine g_iconst (v := iZ (0)) 111 dX9_readNames_110 rfl rfl ?_
              refine g_callV (z := mX9_due) (As := [.int (iZ 0)]) 114 dX9_readNames_111 mwX9_due ⟨by decide, by decide⟩ rfl wlX9_150 wiX9_due wsX9_due f319 rfl rfl rfl (nle rfl) (nle rfl) rfl ?_
              have f339 := (s309.get (by decide) F1)
              refine n_due  f319 f339 (by omega) (by omega) (by omega) (by omega) (by omega) (by omega) (by omega) (by omega) (by omega) (by omega) (by omega) (by omega) (by omega) (by omega) (by omega) (by omega) (by omega) (by omega) (by decide) (fun h340 z342 z343 z344 z345 z346 z347 z348 rz342 rz343 rz344 rz345 rz346 rz347 rz348 p349 p350 s341 f351 => ?_)
              refine rI ?_
              refine g_pop 115 dX9_readNames_114 rfl rfl ?_
              refine g_aload_n 116 dX9_readNames_115 rfl rfl ?_
              refine g_get 119 dX9_readNames_116 faX9_97_X9 f351 rfl rfl ?_
              refine g_bipush (v := iZ (-9)) 121 dX9_readNames_119 (by decide +kernel) rfl ?_
              refine g_icZ_ne 136 124 dX9_readNames_121 rfl rfl (by omega) (by decide) (fun _ => ?_) (fun q => absurd q (by omega))
              refine g_goto 38 dX9_readNames_136 rfl ?_
              refine g_aload_n 39 dX9_readNames_38 rfl rfl ?_
              refine g_get 42 dX9_readNames_39 faX9_97_X9 f351 rfl rfl ?_
              refine g_bipush (v := iZ (-9)) 44 dX9_readNames_42 (by decide +kernel) rfl ?_
              refine g_icZ_ne 287 47 dX9_readNames_44 rfl rfl (by omega) (by decide) (fun _ => ?_) (fun q => absurd q (by omega))
              refine g_aload_n 288 dX9_readNames_287 rfl rfl ?_
              refine g_get 291 dX9_readNames_288 faX9_97_X9 f351 rfl rfl ?_
              refine g_bipush (v := iZ (-9)) 293 dX9_readNames_291 (by decide +kernel) rfl ?_
              refine g_icZ_ne 305 296 dX9_readNames_293 rfl rfl (by omega) (by decide) (fun _ => ?_) (fun q => absurd q (by omega))
              refine g_aload_n 306 dX9_readNames_305 rfl rfl ?_
              refine g_get 309 dX9_readNames_306 faX9_97_X9 f351 rfl rfl ?_
              refine g_bipush (v := iZ (-9)) 311 dX9_readNames_309 (by decide +kernel) rfl ?_
              refine g_icZ_eq 321 314 dX9_readNames_311 rfl rfl (by omega) (by decide) (fun q => absurd q (by omega)) (fun _ => ?_)
              refine g_aload_n 315 dX9_readNames_314 rfl rfl ?_
              refine g_get 318 dX9_readNames_315 faX9_97_X9 f351 rfl rfl ?_
              refine g_goto 325 dX9_readNames_318 rfl ?_
              refine g_iret rfl dX9_readNames_325 ?_
              have f352 := (s341.get (by decide) (s309.get (by decide) F2))
              have f353 := (s341.get (by decide) (s309.get (by decide) F3))
              have f354 := (s341.get (by decide) (s309.get (by decide) F4))
              have f355 := (s341.get (by decide) (s309.get (by decide) F5))
              exact k _ (z342) (z343) (z344) (z345) (z346) (z347) (bf) (lf) (sz) (pl) (z343) (by omega) (by omega) (by omega) (by omega) (by omega) (by omega) obf olf osz opl (by omega) (fun q hq => rfl) (fun q hq => rfl) (by intro q9; omega) (((Sm.refl [50, 54, 55, 56, 61] _).tr s309 (fun _ q => q) (by simp)).tr s341 (fun _ q => q) (by simp)) f351 f352 f353 f354 f355
            · refine g_iconst (v := iZ (1)) 107 dX9_readNames_106 rfl rfl ?_
              refine g_goto 111 dX9_readNames_107 rfl ?_
              refine g_callV (z := mX9_due) (As := [.int (iZ 1)]) 114 dX9_readNames_111 mwX9_due ⟨by decide, by decide⟩ rfl wlX9_150 wiX9_due wsX9_due f319 rfl rfl rfl (nle rfl) (nle rfl) rfl ?_
              have f356 := (s309.get (by decide) F1)
              refine n_due  f319 f356 (by omega) (by omega) (by omega) (by omega) (by omega) (by omega) (by omega) (by omega) (by omega) (by omega) (by omega) (by omega) (by omega) (by omega) (by omega) (by omega) (by omega) (by omega) (by decide) (fun h357 z359 z360 z361 z362 z363 z364 z365 rz359 rz360 rz361 rz362 rz363 rz364 rz365 p366 p367 s358 f368 => ?_)
              refine rI ?_
              refine g_pop 115 dX9_readNames_114 rfl rfl ?_
              refine g_aload_n 116 dX9_readNames_115 rfl rfl ?_
              refine g_get 119 dX9_readNames_116 faX9_97_X9 f368 rfl rfl ?_
              refine g_bipush (v := iZ (-9)) 121 dX9_readNames_119 (by decide +kernel) rfl ?_
              refine g_icZ_ne 136 124 dX9_readNames_121 rfl rfl (by omega) (by decide) (fun _ => ?_) (fun q => absurd q (by omega))
              refine g_goto 38 dX9_readNames_136 rfl ?_
              refine g_aload_n 39 dX9_readNames_38 rfl rfl ?_
              refine g_get 42 dX9_readNames_39 faX9_97_X9 f368 rfl rfl ?_
              refine g_bipush (v := iZ (-9)) 44 dX9_readNames_42 (by decide +kernel) rfl ?_
              refine g_icZ_ne 287 47 dX9_readNames_44 rfl rfl (by omega) (by decide) (fun _ => ?_) (fun q => absurd q (by omega))
              refine g_aload_n 288 dX9_readNames_287 rfl rfl ?_
              refine g_get 291 dX9_readNames_288 faX9_97_X9 f368 rfl rfl ?_
              refine g_bipush (v := iZ (-9)) 293 dX9_readNames_291 (by decide +kernel) rfl ?_
              refine g_icZ_ne 305 296 dX9_readNames_293 rfl rfl (by omega) (by decide) (fun _ => ?_) (fun q => absurd q (by omega))
              refine g_aload_n 306 dX9_readNames_305 rfl rfl ?_
              refine g_get 309 dX9_readNames_306 faX9_97_X9 f368 rfl rfl ?_
              refine g_bipush (v := iZ (-9)) 311 dX9_readNames_309 (by decide +kernel) rfl ?_
              refine g_icZ_eq 321 314 dX9_readNames_311 rfl rfl (by omega) (by decide) (fun q => absurd q (by omega)) (fun _ => ?_)
              refine g_aload_n 315 dX9_readNames_314 rfl rfl ?_
              refine g_get 318 dX9_readNames_315 faX9_97_X9 f368 rfl rfl ?_
              refine g_goto 325 dX9_readNames_318 rfl ?_
              refine g_iret rfl dX9_readNames_325 ?_
              have f369 := (s358.get (by decide) (s309.get (by decide) F2))
              have f370 := (s358.get (by decide) (s309.get (by decide) F3))
              have f371 := (s358.get (by decide) (s309.get (by decide) F4))
              have f372 := (s358.get (by decide) (s309.get (by decide) F5))
              exact k _ (z359) (z360) (z361) (z362) (z363) (z364) (bf) (lf) (sz) (pl) (z360) (by omega) (by omega) (by omega) (by omega) (by omega) (by omega) obf olf osz opl (by omega) (fun q hq => rfl) (fun q hq => rfl) (by intro q9; omega) (((Sm.refl [50, 54, 55, 56, 61] _).tr s309 (fun _ q => q) (by simp)).tr s358 (fun _ q => q) (by simp)) f368 f369 f370 f371 f372
        · refine g_iconst (v := iZ (1)) 78 dX9_readNames_77 rfl rfl ?_
          refine g_goto 82 dX9_readNames_78 rfl ?_
          refine g_callV (z := mX9_due) (As := [.int (iZ 1)]) 85 dX9_readNames_82 mwX9_due ⟨by decide, by decide⟩ rfl wlX9_150 wiX9_due wsX9_due F0 rfl rfl rfl (nle rfl) (nle rfl) rfl ?_
          refine n_due  F0 F1 (by omega) (by omega) (by omega) (by omega) (by omega) (by omega) (by omega) (by omega) (by omega) (by omega) (by omega) (by omega) (by omega) (by omega) (by omega) (by omega) (by omega) (by omega) (by decide) (fun h373 z375 z376 z377 z378 z379 z380 z381 rz375 rz376 rz377 rz378 rz379 rz380 rz381 p382 p383 s374 f384 => ?_)
          refine rI ?_
          refine g_istore_n (L1 := [some (.ref 50), none, some (.int (iZ 12)), some (.int (iZ z381)), none, none, none]) 86 dX9_readNames_85 (by decide) rfl rfl rfl ?_
          refine g_aload_n 87 dX9_readNames_86 rfl rfl ?_
          refine g_aload_n 88 dX9_readNames_87 rfl rfl ?_
          refine g_get 91 dX9_readNames_88 faX9_140_X9 f384 rfl rfl ?_
          refine g_iconst (v := iZ (4)) 92 dX9_readNames_91 rfl rfl ?_
          refine g_icZ_ne 110 95 dX9_readNames_92 rfl rfl (by omega) (by decide) (fun c385 => ?_) (fun c385 => ?_)
          · refine g_iconst (v := iZ (0)) 111 dX9_readNames_110 rfl rfl ?_
            refine g_callV (z := mX9_due) (As := [.int (iZ 0)]) 114 dX9_readNames_111 mwX9_due ⟨by decide, by decide⟩ rfl wlX9_150 wiX9_due wsX9_due f384 rfl rfl rfl (nle rfl) (nle rfl) rfl ?_
            have f386 := (s374.get (by decide) F1)
            refine n_due  f384 f386 (by omega) (by omega) (by omega) (by omega) (by omega) (by omega) (by omega) (by omega) (by omega) (by omega) (by omega) (by omega) (by omega) (by omega) (by omega) (by omega) (by omega) (by omega) (by decide) (fun h387 z389 z390 z391 z392 z393 z394 z395 rz389 rz390 rz391 rz392 rz393 rz394 rz395 p396 p397 s388 f398 => ?_)
            refine rI ?_
            refine g_pop 115 dX9_readNames_114 rfl rfl ?_
            refine g_aload_n 116 dX9_readNames_115 rfl rfl ?_
            refine g_get 119 dX9_readNames_116 faX9_97_X9 f398 rfl rfl ?_
            refine g_bipush (v := iZ (-9)) 121 dX9_readNames_119 (by decide +kernel) rfl ?_
            refine g_icZ_ne 136 124 dX9_readNames_121 rfl rfl (by omega) (by decide) (fun _ => ?_) (fun q => absurd q (by omega))
            refine g_goto 38 dX9_readNames_136 rfl ?_
            refine g_aload_n 39 dX9_readNames_38 rfl rfl ?_
            refine g_get 42 dX9_readNames_39 faX9_97_X9 f398 rfl rfl ?_
            refine g_bipush (v := iZ (-9)) 44 dX9_readNames_42 (by decide +kernel) rfl ?_
            refine g_icZ_ne 287 47 dX9_readNames_44 rfl rfl (by omega) (by decide) (fun _ => ?_) (fun q => absurd q (by omega))
            refine g_aload_n 288 dX9_readNames_287 rfl rfl ?_
            refine g_get 291 dX9_readNames_288 faX9_97_X9 f398 rfl rfl ?_
            refine g_bipush (v := iZ (-9)) 293 dX9_readNames_291 (by decide +kernel) rfl ?_
            refine g_icZ_ne 305 296 dX9_readNames_293 rfl rfl (by omega) (by decide) (fun _ => ?_) (fun q => absurd q (by omega))
            refine g_aload_n 306 dX9_readNames_305 rfl rfl ?_
            refine g_get 309 dX9_readNames_306 faX9_97_X9 f398 rfl rfl ?_
            refine g_bipush (v := iZ (-9)) 311 dX9_readNames_309 (by decide +kernel) rfl ?_
            refine g_icZ_eq 321 314 dX9_readNames_311 rfl rfl (by omega) (by decide) (fun q => absurd q (by omega)) (fun _ => ?_)
            refine g_aload_n 315 dX9_readNames_314 rfl rfl ?_
            refine g_get 318 dX9_readNames_315 faX9_97_X9 f398 rfl rfl ?_
            refine g_goto 325 dX9_readNames_318 rfl ?_
            refine g_iret rfl dX9_readNames_325 ?_
            have f399 := (s388.get (by decide) (s374.get (by decide) F2))
            have f400 := (s388.get (by decide) (s374.get (by decide) F3))
            have f401 := (s388.get (by decide) (s374.get (by decide) F4))
            have f402 := (s388.get (by decide) (s374.get (by decide) F5))
            exact k _ (z389) (z390) (z391) (z392) (z393) (z394) (bf) (lf) (sz) (pl) (z390) (by omega) (by omega) (by omega) (by omega) (by omega) (by omega) obf olf osz opl (by omega) (fun q hq => rfl) (fun q hq => rfl) (by intro q9; omega) (((Sm.refl [50, 54, 55, 56, 61] _).tr s374 (fun _ q => q) (by simp)).tr s388 (fun _ q => q) (by simp)) f398 f399 f400 f401 f402
          · refine g_aload_n 96 dX9_readNames_95 rfl rfl ?_
            refine g_get 99 dX9_readNames_96 faX9_134_X9 f384 rfl rfl ?_
            refine g_aload_n 100 dX9_readNames_99 rfl rfl ?_
            refine g_get 103 dX9_readNames_100 faX9_131_X9 f384 rfl rfl ?_
            refine g_icZ_ne 110 106 dX9_readNames_103 rfl rfl (by omega) (by omega) (fun c403 => ?_) (fun c403 => ?_)
            · refine g_iconst (v := iZ (0)) 111 dX9_readNames_110 rfl rfl ?_
              refine g_callV (z := mX9_due) (As := [.int (iZ 0)]) 114 dX9_readNames_111 mwX9_due ⟨by decide, by decide⟩ rfl wlX9_150 wiX9_due wsX9_due f384 rfl rfl rfl (nle rfl) (nle rfl) rfl ?_
              have f404 := (s374.get (by decide) F1)
              refine n_due  f384 f404 (by omega) (by omega) (by omega) (by omega) (by omega) (by omega) (by omega) (by omega) (by omega) (by omega) (by omega) (by omega) (by omega) (by omega) (by omega) (by omega) (by omega) (by omega) (by decide) (fun h405 z407 z408 z409 z410 z411 z412 z413 rz407 rz408 rz409 rz410 rz411 rz412 rz413 p414 p415 s406 f416 => ?_)
              refine rI ?_
              refine g_pop 115 dX9_readNames_114 rfl rfl ?_
              refine g_aload_n 116 dX9_readNames_115 rfl rfl ?_
              refine g_get 119 dX9_readNames_116 faX9_97_X9 f416 rfl rfl ?_
              refine g_bipush (v := iZ (-9)) 121 dX9_readNames_119 (by decide +kernel) rfl ?_
              refine g_icZ_ne 136 124 dX9_readNames_121 rfl rfl (by omega) (by decide) (fun _ => ?_) (fun q => absurd q (by omega))
              refine g_goto 38 dX9_readNames_136 rfl ?_
              refine g_aload_n 39 dX9_readNames_38 rfl rfl ?_
              refine g_get 42 dX9_readNames_39 faX9_97_X9 f416 rfl rfl ?_
              refine g_bipush (v := iZ (-9)) 44 dX9_readNames_42 (by decide +kernel) rfl ?_
              refine g_icZ_ne 287 47 dX9_readNames_44 rfl rfl (by omega) (by decide) (fun _ => ?_) (fun q => absurd q (by omega))
              refine g_aload_n 288 dX9_readNames_287 rfl rfl ?_
              refine g_get 291 dX9_readNames_288 faX9_97_X9 f416 rfl rfl ?_
              refine g_bipush (v := iZ (-9)) 293 dX9_readNames_291 (by decide +kernel) rfl ?_
              refine g_icZ_ne 305 296 dX9_readNames_293 rfl rfl (by omega) (by decide) (fun _ => ?_) (fun q => absurd q (by omega))
              refine g_aload_n 306 dX9_readNames_305 rfl rfl ?_
              refine g_get 309 dX9_readNames_306 faX9_97_X9 f416 rfl rfl ?_
              refine g_bipush (v := iZ (-9)) 311 dX9_readNames_309 (by decide +kernel) rfl ?_
              refine g_icZ_eq 321 314 dX9_readNames_311 rfl rfl (by omega) (by decide) (fun q => absurd q (by omega)) (fun _ => ?_)
              refine g_aload_n 315 dX9_readNames_314 rfl rfl ?_
              refine g_get 318 dX9_readNames_315 faX9_97_X9 f416 rfl rfl ?_
              refine g_goto 325 dX9_readNames_318 rfl ?_
              refine g_iret rfl dX9_readNames_325 ?_
              have f417 := (s406.get (by decide) (s374.get (by decide) F2))
              have f418 := (s406.get (by decide) (s374.get (by decide) F3))
              have f419 := (s406.get (by decide) (s374.get (by decide) F4))
              have f420 := (s406.get (by decide) (s374.get (by decide) F5))
              exact k _ (z407) (z408) (z409) (z410) (z411) (z412) (bf) (lf) (sz) (pl) (z408) (by omega) (by omega) (by omega) (by omega) (by omega) (by omega) obf olf osz opl (by omega) (fun q hq => rfl) (fun q hq => rfl) (by intro q9; omega) (((Sm.refl [50, 54, 55, 56, 61] _).tr s374 (fun _ q => q) (by simp)).tr s406 (fun _ q => q) (by simp)) f416 f417 f418 f419 f420
            · refine g_iconst (v := iZ (1)) 107 dX9_readNames_106 rfl rfl ?_
              refine g_goto 111 dX9_readNames_107 rfl ?_
              refine g_callV (z := mX9_due) (As := [.int (iZ 1)]) 114 dX9_readNames_111 mwX9_due ⟨by decide, by decide⟩ rfl wlX9_150 wiX9_due wsX9_due f384 rfl rfl rfl (nle rfl) (nle rfl) rfl ?_
              have f421 := (s374.get (by decide) F1)
              refine n_due  f384 f421 (by omega) (by omega) (by omega) (by omega) (by omega) (by omega) (by omega) (by omega) (by omega) (by omega) (by omega) (by omega) (by omega) (by omega) (by omega) (by omega) (by omega) (by omega) (by decide) (fun h422 z424 z425 z426 z427 z428 z429 z430 rz424 rz425 rz426 rz427 rz428 rz429 rz430 p431 p432 s423 f433 => ?_)
              refine rI ?_
              refine g_pop 115 dX9_readNames_114 rfl rfl ?_
              refine g_aload_n 116 dX9_readNames_115 rfl rfl ?_
              refine g_get 119 dX9_readNames_116 faX9_97_X9 f433 rfl rfl ?_
              refine g_bipush (v := iZ (-9)) 121 dX9_readNames_119 (by decide +kernel) rfl ?_
              refine g_icZ_ne 136 124 dX9_readNames_121 rfl rfl (by omega) (by decide) (fun q => absurd q (by omega)) (fun _ => ?_)
              refine g_aload_n 125 dX9_readNames_124 rfl rfl ?_
              refine g_get 128 dX9_readNames_125 faX9_41_X9 f433 rfl rfl ?_
              refine g_iload_n 129 dX9_readNames_128 rfl rfl ?_
              refine g_aload_n 130 dX9_readNames_129 rfl rfl ?_
              refine g_get 133 dX9_readNames_130 faX9_26_X9 f433 rfl rfl ?_
              refine g_iload_n 134 dX9_readNames_133 rfl rfl ?_
              have f434 := (s423.get (by decide) (s374.get (by decide) F4))
              have b435 := osz (12)
              refine g_ialdZ (v := iZ (sz 12)) 135 dX9_readNames_134 f434 (by decide) (by decide) (by decide) rfl rfl ?_
              have f436 := (s423.get (by decide) (s374.get (by decide) F5))
              refine g_iastP 136 dX9_readNames_135 f436 opl (by omega) (by omega) (by omega) (by decide) rfl (fun h438 g437 og437 s439 f440 => ?_)
              refine g_goto 38 dX9_readNames_136 rfl ?_
              refine Go.fgt 3 ?_
              have f441 := (s439.get (by decide) f433)
              have f442 := (s439.get (by decide) (s423.get (by decide) f421))
              have f443 := (s439.get (by decide) (s423.get (by decide) (s374.get (by decide) F2)))
              have f444 := (s439.get (by decide) (s423.get (by decide) (s374.get (by decide) F3)))
              have f445 := (s439.get (by decide) f434)
              exact ih _ (by omega) _ (z424) (z425) (z426) (z427) (z428) (z429) (bf) (lf) (sz) (g437) rfl (by omega) (by omega) (by omega) (by omega) (by omega) (by omega) obf olf osz og437 f441 f442 f443 f444 f445 f440 (by omega) (by omega) hW (fun hQ xQ0 xQ1 xQ2 xQ3 xQ4 xQ5 xQ6 xQ7 xQ8 xQ9 rQ yQ0 yQ1 yQ2 yQ3 yQ4 yQ5 yQ6 yQ7 yQ8 yQ9 yQ10 pQ0 pQ1 pQ2 sQ uQ0 uQ1 uQ2 uQ3 uQ4 => k hQ xQ0 xQ1 xQ2 xQ3 xQ4 xQ5 xQ6 xQ7 xQ8 xQ9 rQ yQ0 yQ1 yQ2 yQ3 yQ4 yQ5 yQ6 yQ7 yQ8 yQ9 yQ10 (fun q hq => (pQ0 q hq)) (fun q hq => (pQ1 q hq)) pQ2 (((((Sm.refl [50, 54, 55, 56, 61] _).tr s374 (fun _ q => q) (by simp)).tr s423 (fun _ q => q) (by simp)).tr s439 (fun _ q => q) (by simp)).tr sQ (fun _ q => q) (fun _ q => q)) uQ0 uQ1 uQ2 uQ3 uQ4)

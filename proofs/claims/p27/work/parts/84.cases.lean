set_option maxRecDepth 100000 in
theorem lc_0 {p : Program} {l : Launch} {e : Env} {s : State} {m : MethodId} {below : List Frame} {meth : Method} {c : Code} {b0 N i : Nat} {xs : Nat → Int32} {D : va_G} {kA : Nat → ClassId} (C : lw_At p s m meth c b0 N xs) (hK : Kx D kA s) (hKS : KS s.heap.size s) (hN : N ≤ 2048) (hi : i + 4 ≤ N) {h : MH} (H : LI h) (kn : ∀ h1 : MH, LI h1 → Lw p l e s m below meth c b0 D kA 1024 (vLaw s.heap.size b0 i) [] h1) : Lw p l e s m below meth c b0 D kA 160 (vLaw s.heap.size b0 i) [] h := by
  obtain ⟨tn, tf, xn, xf, en, tc, tr, V, Bf, Lf, q, lm, lo, ty, tx, w, B, HX, H9, hq, hT, hD⟩ := H
  have F0 := HX.1.1
  refine lw_aload C 161 2 dL_law_160 rfl rfl ?_
  refine lw_arg C 1 166 dL_law_161 dL_law_162 dL_law_163 dL_law_164 dL_law_165 rfl (by omega) hN rfl ?_
  refine lw_i2l C 167 dL_law_166 rfl ?_
  refine lw_bipush C 169 dL_law_167 rfl rfl ?_
  refine lw_lshl C 170 dL_law_169 rfl ?_
  refine lw_arg C 2 175 dL_law_170 dL_law_171 dL_law_172 dL_law_173 dL_law_174 rfl (by omega) hN rfl ?_
  refine lw_i2l C 176 dL_law_175 rfl ?_
  refine lw_ldc2 C 179 dL_law_176 rfl ?_
  refine lw_land C 180 dL_law_179 rfl ?_
  refine lw_lor C 181 dL_law_180 rfl ?_
  refine lw_arg C 3 186 dL_law_181 dL_law_182 dL_law_183 dL_law_184 dL_law_185 rfl (by omega) hN rfl ?_
  refine lw_callV (z := mX8_type) (As := [.long _, .int (iZ (xs (i + 3)).toInt)]) C hK hKS 189 dL_law_186 mwX8_type ⟨by decide, by decide⟩ rfl wlL_15 wiX8_type wsX8_type F0 rfl rfl rfl (nle rfl) (nle rfl) rfl ?_
  refine Go.to _ [] rfl rfl (b8_type HX (rg_toInt _) (fun h1 r1 tn1 tf1 c1 c2 c3 HX1 M1 => ?_))
  have H91 := H9.mo M1
  refine ⟨HX1.bd.1, HX1.bd.2, ?_⟩
  refine lw_pop C 190 dL_law_189 rfl rfl ?_
  refine lw_aload C 191 1 dL_law_190 rfl rfl ?_
  refine lw_arg C 1 196 dL_law_191 dL_law_192 dL_law_193 dL_law_194 dL_law_195 rfl (by omega) hN rfl ?_
  refine lw_i2l C 197 dL_law_196 rfl ?_
  refine lw_bipush C 199 dL_law_197 rfl rfl ?_
  refine lw_lshl C 200 dL_law_199 rfl ?_
  refine lw_arg C 2 205 dL_law_200 dL_law_201 dL_law_202 dL_law_203 dL_law_204 rfl (by omega) hN rfl ?_
  refine lw_i2l C 206 dL_law_205 rfl ?_
  refine lw_ldc2 C 209 dL_law_206 rfl ?_
  refine lw_land C 210 dL_law_209 rfl ?_
  refine lw_lor C 211 dL_law_210 rfl ?_
  refine lw_arg C 3 216 dL_law_211 dL_law_212 dL_law_213 dL_law_214 dL_law_215 rfl (by omega) hN rfl ?_
  refine lw_callV (z := mX9_type) (As := [.long _, .int (iZ (xs (i + 3)).toInt)]) C hK hKS 219 dL_law_216 mwX9_type ⟨by decide, by decide⟩ rfl wlL_19 wiX9_type wsX9_type H91.1 rfl rfl rfl (nle rfl) (nle rfl) rfl ?_
  refine Go.to _ [] rfl rfl (b_type H91 (rg_toInt _) (fun h2 ty2 w2 r2 d1 d2 d3 R2 s2 => ?_))
  have HX2 := HX1.r9 s2 (fun q => SM_in)
  refine ⟨HX2.bd.1, HX2.bd.2, ?_⟩
  have hz := rel_type hq c1 c2 c3 d1 d2 d3
  refine lw_pop C 220 dL_law_219 rfl rfl ?_
  exact lw_goto C 1024 dL_law_220 rfl (kn _ ⟨tn1, tf1, xn, xf, en, tc, tr, V, Bf, Lf, q, lm, lo, ty2, tx, w2, B, HX2, R2, hz.2, (rt_type hT d1 d2 d3), hD⟩)
set_option maxRecDepth 100000 in
theorem lc_1 {p : Program} {l : Launch} {e : Env} {s : State} {m : MethodId} {below : List Frame} {meth : Method} {c : Code} {b0 N i : Nat} {xs : Nat → Int32} {D : va_G} {kA : Nat → ClassId} (C : lw_At p s m meth c b0 N xs) (hK : Kx D kA s) (hKS : KS s.heap.size s) (hN : N ≤ 2048) (hi : i + 4 ≤ N) {h : MH} (H : LI h) (kn : ∀ h1 : MH, LI h1 → Lw p l e s m below meth c b0 D kA 1024 (vLaw s.heap.size b0 i) [] h1) : Lw p l e s m below meth c b0 D kA 223 (vLaw s.heap.size b0 i) [] h := by
  obtain ⟨tn, tf, xn, xf, en, tc, tr, V, Bf, Lf, q, lm, lo, ty, tx, w, B, HX, H9, hq, hT, hD⟩ := H
  have F0 := HX.1.1
  refine lw_aload C 224 2 dL_law_223 rfl rfl ?_
  refine lw_callV (z := mX8_clear) (As := []) C hK hKS 227 dL_law_224 mwX8_clear ⟨by decide, by decide⟩ rfl wlL_20 wiX8_clear wsX8_clear F0 rfl rfl rfl (nle rfl) (nle rfl) rfl ?_
  refine Go.to _ [] rfl rfl (b8_clear HX  (fun h1 HX1 M1 => ?_))
  have H91 := H9.mo M1
  refine ⟨HX1.bd.1, HX1.bd.2, ?_⟩
  refine lw_pop C 228 dL_law_227 rfl rfl ?_
  refine lw_aload C 229 1 dL_law_228 rfl rfl ?_
  refine lw_callV (z := mX9_clear) (As := []) C hK hKS 232 dL_law_229 mwX9_clear ⟨by decide, by decide⟩ rfl wlL_24 wiX9_clear wsX9_clear H91.1 rfl rfl rfl (nle rfl) (nle rfl) rfl ?_
  refine Go.to _ [] rfl rfl (b_clear H91  (fun h2 R2 s2 => ?_))
  have HX2 := HX1.r9 s2 (fun q => SM_in)
  refine ⟨HX2.bd.1, HX2.bd.2, ?_⟩
  refine lw_pop C 233 dL_law_232 rfl rfl ?_
  exact lw_goto C 1024 dL_law_233 rfl (kn _ ⟨0, tf, xn, xf, en, tc, tr, V, Bf, Lf, q, lm, lo, ty, tx, _, B, HX2, R2, (rel_clear hq), hT, hD⟩)
set_option maxRecDepth 100000 in
theorem lc_2 {p : Program} {l : Launch} {e : Env} {s : State} {m : MethodId} {below : List Frame} {meth : Method} {c : Code} {b0 N i : Nat} {xs : Nat → Int32} {D : va_G} {kA : Nat → ClassId} (C : lw_At p s m meth c b0 N xs) (hK : Kx D kA s) (hKS : KS s.heap.size s) (hN : N ≤ 2048) (hi : i + 4 ≤ N) {h : MH} (H : LI h) (kn : ∀ h1 : MH, LI h1 → Lw p l e s m below meth c b0 D kA 1024 (vLaw s.heap.size b0 i) [] h1) : Lw p l e s m below meth c b0 D kA 236 (vLaw s.heap.size b0 i) [] h := by
  obtain ⟨tn, tf, xn, xf, en, tc, tr, V, Bf, Lf, q, lm, lo, ty, tx, w, B, HX, H9, hq, hT, hD⟩ := H
  have F0 := HX.1.1
  refine lw_aload C 237 2 dL_law_236 rfl rfl ?_
  refine lw_arg C 1 242 dL_law_237 dL_law_238 dL_law_239 dL_law_240 dL_law_241 rfl (by omega) hN rfl ?_
  refine lw_callV (z := mX8_text) (As := [.int (iZ (xs (i + 1)).toInt)]) C hK hKS 245 dL_law_242 mwX8_text ⟨by decide, by decide⟩ rfl wlL_25 wiX8_text wsX8_text F0 rfl rfl rfl (nle rfl) (nle rfl) rfl ?_
  refine Go.to _ [] rfl rfl (b8_text HX (rg_toInt _) (fun h1 r1 tn1 xn1 xf1 c1 c2 HX1 M1 => ?_))
  have H91 := H9.mo M1
  refine ⟨HX1.bd.1, HX1.bd.2, ?_⟩
  refine lw_pop C 246 dL_law_245 rfl rfl ?_
  refine lw_aload C 247 1 dL_law_246 rfl rfl ?_
  refine lw_arg C 1 252 dL_law_247 dL_law_248 dL_law_249 dL_law_250 dL_law_251 rfl (by omega) hN rfl ?_
  refine lw_callV (z := mX9_text) (As := [.int (iZ (xs (i + 1)).toInt)]) C hK hKS 255 dL_law_252 mwX9_text ⟨by decide, by decide⟩ rfl wlL_29 wiX9_text wsX9_text H91.1 rfl rfl rfl (nle rfl) (nle rfl) rfl ?_
  refine Go.to _ [] rfl rfl (b_text H91 (rg_toInt _) (fun h2 tx2 w2 B2 r2 d1 d2 R2 s2 => ?_))
  have HX2 := HX1.r9 s2 (fun q => SM_in)
  refine ⟨HX2.bd.1, HX2.bd.2, ?_⟩
  have hz := rel_text hq c1 c2 d1 d2 (fun i hi => (HX.1.2.2.2.2.1 i hi).2.2.2.1) H9.2.2.1.1.2
  have hy := rt_text hT hD d1 d2
  refine lw_pop C 256 dL_law_255 rfl rfl ?_
  exact lw_goto C 1024 dL_law_256 rfl (kn _ ⟨tn1, tf, xn1, xf1, en, tc, tr, V, Bf, Lf, q, lm, lo, ty, tx2, w2, B2, HX2, R2, hz.2, hy.1, hy.2⟩)
set_option maxRecDepth 100000 in
theorem lc_3 {p : Program} {l : Launch} {e : Env} {s : State} {m : MethodId} {below : List Frame} {meth : Method} {c : Code} {b0 N i : Nat} {xs : Nat → Int32} {D : va_G} {kA : Nat → ClassId} (C : lw_At p s m meth c b0 N xs) (hK : Kx D kA s) (hKS : KS s.heap.size s) (hN : N ≤ 2048) (hi : i + 4 ≤ N) {h : MH} (H : LI h) (kn : ∀ h1 : MH, LI h1 → Lw p l e s m below meth c b0 D kA 1024 (vLaw s.heap.size b0 i) [] h1) : Lw p l e s m below meth c b0 D kA 259 (vLaw s.heap.size b0 i) [] h := by
  obtain ⟨tn, tf, xn, xf, en, tc, tr, V, Bf, Lf, q, lm, lo, ty, tx, w, B, HX, H9, hq, hT, hD⟩ := H
  have F0 := HX.1.1
  refine lw_aload C 260 2 dL_law_259 rfl rfl ?_
  refine lw_arg C 1 265 dL_law_260 dL_law_261 dL_law_262 dL_law_263 dL_law_264 rfl (by omega) hN rfl ?_
  refine lw_arg C 2 270 dL_law_265 dL_law_266 dL_law_267 dL_law_268 dL_law_269 rfl (by omega) hN rfl ?_
  refine lw_callV (z := mX8_read) (As := [.int (iZ (xs (i + 1)).toInt), .int (iZ (xs (i + 2)).toInt)]) C hK hKS 273 dL_law_270 mwX8_read ⟨by decide, by decide⟩ rfl wlL_30 wiX8_read wsX8_read F0 rfl rfl rfl (nle rfl) (nle rfl) rfl ?_
  refine Go.to _ [] rfl rfl (b8_read HX (rg_toInt _) (rg_toInt _) (fun r1 c1 c2 => ?_))
  refine ⟨HX.bd.1, HX.bd.2, ?_⟩
  refine lw_pop C 274 dL_law_273 rfl rfl ?_
  refine lw_aload C 275 1 dL_law_274 rfl rfl ?_
  refine lw_arg C 1 280 dL_law_275 dL_law_276 dL_law_277 dL_law_278 dL_law_279 rfl (by omega) hN rfl ?_
  refine lw_arg C 2 285 dL_law_280 dL_law_281 dL_law_282 dL_law_283 dL_law_284 rfl (by omega) hN rfl ?_
  refine lw_callV (z := mX9_read) (As := [.int (iZ (xs (i + 1)).toInt), .int (iZ (xs (i + 2)).toInt)]) C hK hKS 288 dL_law_285 mwX9_read ⟨by decide, by decide⟩ rfl wlL_34 wiX9_read wsX9_read H9.1 rfl rfl rfl (nle rfl) (nle rfl) rfl ?_
  refine Go.to _ [] rfl rfl (b_read H9 (rg_toInt _) (rg_toInt _) (fun r2 d1 d2 => ?_))
  refine ⟨HX.bd.1, HX.bd.2, ?_⟩
  have hz := rel_read hq c1 c2 d1 d2
  refine lw_pop C 289 dL_law_288 rfl rfl ?_
  exact lw_goto C 1024 dL_law_289 rfl (kn _ ⟨tn, tf, xn, xf, en, tc, tr, V, Bf, Lf, q, lm, lo, ty, tx, w, B, HX, H9, hq, hT, hD⟩)
set_option maxRecDepth 100000 in
theorem lc_4 {p : Program} {l : Launch} {e : Env} {s : State} {m : MethodId} {below : List Frame} {meth : Method} {c : Code} {b0 N i : Nat} {xs : Nat → Int32} {D : va_G} {kA : Nat → ClassId} (C : lw_At p s m meth c b0 N xs) (hK : Kx D kA s) (hKS : KS s.heap.size s) (hN : N ≤ 2048) (hi : i + 4 ≤ N) {h : MH} (H : LI h) (kn : ∀ h1 : MH, LI h1 → Lw p l e s m below meth c b0 D kA 1024 (vLaw s.heap.size b0 i) [] h1) : Lw p l e s m below meth c b0 D kA 292 (vLaw s.heap.size b0 i) [] h := by
  obtain ⟨tn, tf, xn, xf, en, tc, tr, V, Bf, Lf, q, lm, lo, ty, tx, w, B, HX, H9, hq, hT, hD⟩ := H
  have F0 := HX.1.1
  refine lw_aload C 293 2 dL_law_292 rfl rfl ?_
  refine lw_arg C 1 298 dL_law_293 dL_law_294 dL_law_295 dL_law_296 dL_law_297 rfl (by omega) hN rfl ?_
  refine lw_callV (z := mX8_pairs) (As := [.int (iZ (xs (i + 1)).toInt)]) C hK hKS 301 dL_law_298 mwX8_pairs ⟨by decide, by decide⟩ rfl wlL_35 wiX8_pairs wsX8_pairs F0 rfl rfl rfl (nle rfl) (nle rfl) rfl ?_
  refine Go.to _ [] rfl rfl (b8_pairs HX (rg_toInt _) (fun h1 tc1 V1 Bf1 Lf1 r1 c1 HX1 M1 => ?_))
  have H91 := H9.mo M1
  refine ⟨HX1.bd.1, HX1.bd.2, ?_⟩
  refine lw_pop C 302 dL_law_301 rfl rfl ?_
  refine lw_aload C 303 1 dL_law_302 rfl rfl ?_
  refine lw_arg C 1 308 dL_law_303 dL_law_304 dL_law_305 dL_law_306 dL_law_307 rfl (by omega) hN rfl ?_
  refine lw_callV (z := mX9_pairs) (As := [.int (iZ (xs (i + 1)).toInt)]) C hK hKS 311 dL_law_308 mwX9_pairs ⟨by decide, by decide⟩ rfl wlL_38 wiX9_pairs wsX9_pairs H91.1 rfl rfl rfl (nle rfl) (nle rfl) rfl ?_
  refine Go.to _ [] rfl rfl (b_pairs H91 (rg_toInt _) (fun h2 tr2 w2 B2 r2 d1 R2 A2 s2 => ?_))
  have HX2 := HX1.r9 s2 (fun q => SM_in)
  refine ⟨HX2.bd.1, HX2.bd.2, ?_⟩
  have d2 := d1.1
  rw [hT.n] at d2
  have hz := mt_join (fun z => prs_eq hq HX.tx0 z) hT.2 c1 d2
  have hT2 : RT tc1 V1 Bf1 Lf1 w2 B2 := by
    have e := hz.2.1
    have f := R2.2.2.1.2.1
    exact ⟨by omega, hz.2.2⟩
  have R3 : R9B h2 tr ty tx w2 B2 := by
    rw [← d1.2]
    exact R2
  refine lw_pop C 312 dL_law_311 rfl rfl ?_
  exact lw_goto C 1024 dL_law_312 rfl (kn _ ⟨tn, tf, xn, xf, en, tc1, tr, V1, Bf1, Lf1, q, lm, lo, ty, tx, w2, B2, HX2, R3, (hq.aC A2), hT2, (hD.ag A2)⟩)
set_option maxRecDepth 100000 in
theorem lc_5 {p : Program} {l : Launch} {e : Env} {s : State} {m : MethodId} {below : List Frame} {meth : Method} {c : Code} {b0 N i : Nat} {xs : Nat → Int32} {D : va_G} {kA : Nat → ClassId} (C : lw_At p s m meth c b0 N xs) (hK : Kx D kA s) (hKS : KS s.heap.size s) (hN : N ≤ 2048) (hi : i + 4 ≤ N) {h : MH} (H : LI h) (kn : ∀ h1 : MH, LI h1 → Lw p l e s m below meth c b0 D kA 1024 (vLaw s.heap.size b0 i) [] h1) : Lw p l e s m below meth c b0 D kA 315 (vLaw s.heap.size b0 i) [] h := by
  obtain ⟨tn, tf, xn, xf, en, tc, tr, V, Bf, Lf, q, lm, lo, ty, tx, w, B, HX, H9, hq, hT, hD⟩ := H
  have F0 := HX.1.1
  refine lw_aload C 316 2 dL_law_315 rfl rfl ?_
  refine lw_arg C 1 321 dL_law_316 dL_law_317 dL_law_318 dL_law_319 dL_law_320 rfl (by omega) hN rfl ?_
  refine lw_callV (z := mX8_named) (As := [.int (iZ (xs (i + 1)).toInt)]) C hK hKS 324 dL_law_321 mwX8_named ⟨by decide, by decide⟩ rfl wlL_39 wiX8_named wsX8_named F0 rfl rfl rfl (nle rfl) (nle rfl) rfl ?_
  refine Go.to _ [] rfl rfl (b8_named HX (rg_toInt _) (fun h1 tc1 V1 Bf1 Lf1 r1 c1 HX1 M1 => ?_))
  have H91 := H9.mo M1
  refine ⟨HX1.bd.1, HX1.bd.2, ?_⟩
  refine lw_pop C 325 dL_law_324 rfl rfl ?_
  refine lw_aload C 326 1 dL_law_325 rfl rfl ?_
  refine lw_arg C 1 331 dL_law_326 dL_law_327 dL_law_328 dL_law_329 dL_law_330 rfl (by omega) hN rfl ?_
  refine lw_callV (z := mX9_named) (As := [.int (iZ (xs (i + 1)).toInt)]) C hK hKS 334 dL_law_331 mwX9_named ⟨by decide, by decide⟩ rfl wlL_42 wiX9_named wsX9_named H91.1 rfl rfl rfl (nle rfl) (nle rfl) rfl ?_
  refine Go.to _ [] rfl rfl (b_named H91 (rg_toInt _) (fun h2 tr2 w2 B2 r2 d1 R2 A2 s2 => ?_))
  have HX2 := HX1.r9 s2 (fun q => SM_in)
  refine ⟨HX2.bd.1, HX2.bd.2, ?_⟩
  have d2 := d1.1
  rw [hT.n] at d2
  have hz := mt_join (fun z => nam_eq hq HX.tx0 z) hT.2 c1 d2
  have hT2 : RT tc1 V1 Bf1 Lf1 w2 B2 := by
    have e := hz.2.1
    have f := R2.2.2.1.2.1
    exact ⟨by omega, hz.2.2⟩
  have R3 : R9B h2 tr ty tx w2 B2 := by
    rw [← d1.2]
    exact R2
  refine lw_pop C 335 dL_law_334 rfl rfl ?_
  exact lw_goto C 1024 dL_law_335 rfl (kn _ ⟨tn, tf, xn, xf, en, tc1, tr, V1, Bf1, Lf1, q, lm, lo, ty, tx, w2, B2, HX2, R3, (hq.aC A2), hT2, (hD.ag A2)⟩)
set_option maxRecDepth 100000 in
theorem lc_6 {p : Program} {l : Launch} {e : Env} {s : State} {m : MethodId} {below : List Frame} {meth : Method} {c : Code} {b0 N i : Nat} {xs : Nat → Int32} {D : va_G} {kA : Nat → ClassId} (C : lw_At p s m meth c b0 N xs) (hK : Kx D kA s) (hKS : KS s.heap.size s) (hN : N ≤ 2048) (hi : i + 4 ≤ N) {h : MH} (H : LI h) (kn : ∀ h1 : MH, LI h1 → Lw p l e s m below meth c b0 D kA 1024 (vLaw s.heap.size b0 i) [] h1) : Lw p l e s m below meth c b0 D kA 338 (vLaw s.heap.size b0 i) [] h := by
  obtain ⟨tn, tf, xn, xf, en, tc, tr, V, Bf, Lf, q, lm, lo, ty, tx, w, B, HX, H9, hq, hT, hD⟩ := H
  have F0 := HX.1.1
  refine lw_aload C 339 2 dL_law_338 rfl rfl ?_
  refine lw_arg C 1 344 dL_law_339 dL_law_340 dL_law_341 dL_law_342 dL_law_343 rfl (by omega) hN rfl ?_
  refine lw_arg C 2 349 dL_law_344 dL_law_345 dL_law_346 dL_law_347 dL_law_348 rfl (by omega) hN rfl ?_
  refine lw_callV (z := mX8_build) (As := [.int (iZ (xs (i + 1)).toInt), .int (iZ (xs (i + 2)).toInt)]) C hK hKS 352 dL_law_349 mwX8_build ⟨by decide, by decide⟩ rfl wlL_43 wiX8_build wsX8_build F0 rfl rfl rfl (nle rfl) (nle rfl) rfl ?_
  refine Go.to _ [] rfl rfl (b8_build HX (rg_toInt _) (rg_toInt _) (fun h1 tc1 V1 Bf1 Lf1 r1 c1 HX1 M1 => ?_))
  have H91 := H9.mo M1
  refine ⟨HX1.bd.1, HX1.bd.2, ?_⟩
  refine lw_pop C 353 dL_law_352 rfl rfl ?_
  refine lw_aload C 354 1 dL_law_353 rfl rfl ?_
  refine lw_arg C 1 359 dL_law_354 dL_law_355 dL_law_356 dL_law_357 dL_law_358 rfl (by omega) hN rfl ?_
  refine lw_arg C 2 364 dL_law_359 dL_law_360 dL_law_361 dL_law_362 dL_law_363 rfl (by omega) hN rfl ?_
  refine lw_callV (z := mX9_build) (As := [.int (iZ (xs (i + 1)).toInt), .int (iZ (xs (i + 2)).toInt)]) C hK hKS 367 dL_law_364 mwX9_build ⟨by decide, by decide⟩ rfl wlL_46 wiX9_build wsX9_build H91.1 rfl rfl rfl (nle rfl) (nle rfl) rfl ?_
  refine Go.to _ [] rfl rfl (b_build H91 (rg_toInt _) (rg_toInt _) (fun h2 tr2 w2 B2 r2 d1 R2 A2 s2 => ?_))
  have HX2 := HX1.r9 s2 (fun q => SM_in)
  refine ⟨HX2.bd.1, HX2.bd.2, ?_⟩
  have d2 := d1.1
  rw [hT.n] at d2
  have hz := bd_join (fun z => run_eq hq hT z) hT.2 c1 d2
  have hT2 : RT tc1 V1 Bf1 Lf1 w2 B2 := by
    have e := hz.2.1
    have f := R2.2.2.1.2.1
    exact ⟨by omega, hz.2.2⟩
  have R3 : R9B h2 tr ty tx w2 B2 := by
    rw [← d1.2]
    exact R2
  refine lw_pop C 368 dL_law_367 rfl rfl ?_
  exact lw_goto C 1024 dL_law_368 rfl (kn _ ⟨tn, tf, xn, xf, en, tc1, tr, V1, Bf1, Lf1, q, lm, lo, ty, tx, w2, B2, HX2, R3, (hq.aC A2), hT2, (hD.ag A2)⟩)
set_option maxRecDepth 100000 in
theorem lc_7 {p : Program} {l : Launch} {e : Env} {s : State} {m : MethodId} {below : List Frame} {meth : Method} {c : Code} {b0 N i : Nat} {xs : Nat → Int32} {D : va_G} {kA : Nat → ClassId} (C : lw_At p s m meth c b0 N xs) (hK : Kx D kA s) (hKS : KS s.heap.size s) (hN : N ≤ 2048) (hi : i + 4 ≤ N) {h : MH} (H : LI h) (kn : ∀ h1 : MH, LI h1 → Lw p l e s m below meth c b0 D kA 1024 (vLaw s.heap.size b0 i) [] h1) : Lw p l e s m below meth c b0 D kA 371 (vLaw s.heap.size b0 i) [] h := by
  obtain ⟨tn, tf, xn, xf, en, tc, tr, V, Bf, Lf, q, lm, lo, ty, tx, w, B, HX, H9, hq, hT, hD⟩ := H
  have F0 := HX.1.1
  refine lw_aload C 372 2 dL_law_371 rfl rfl ?_
  refine lw_arg C 1 377 dL_law_372 dL_law_373 dL_law_374 dL_law_375 dL_law_376 rfl (by omega) hN rfl ?_
  refine lw_arg C 2 382 dL_law_377 dL_law_378 dL_law_379 dL_law_380 dL_law_381 rfl (by omega) hN rfl ?_
  refine lw_callV (z := mX8_tool) (As := [.int (iZ (xs (i + 1)).toInt), .int (iZ (xs (i + 2)).toInt)]) C hK hKS 385 dL_law_382 mwX8_tool ⟨by decide, by decide⟩ rfl wlL_47 wiX8_tool wsX8_tool F0 rfl rfl rfl (nle rfl) (nle rfl) rfl ?_
  refine Go.to _ [] rfl rfl (b8_tool HX (rg_toInt _) (rg_toInt _) (fun r1 c1 => ?_))
  refine ⟨HX.bd.1, HX.bd.2, ?_⟩
  refine lw_pop C 386 dL_law_385 rfl rfl ?_
  refine lw_aload C 387 1 dL_law_386 rfl rfl ?_
  refine lw_arg C 1 392 dL_law_387 dL_law_388 dL_law_389 dL_law_390 dL_law_391 rfl (by omega) hN rfl ?_
  refine lw_arg C 2 397 dL_law_392 dL_law_393 dL_law_394 dL_law_395 dL_law_396 rfl (by omega) hN rfl ?_
  refine lw_callV (z := mX9_tool) (As := [.int (iZ (xs (i + 1)).toInt), .int (iZ (xs (i + 2)).toInt)]) C hK hKS 400 dL_law_397 mwX9_tool ⟨by decide, by decide⟩ rfl wlL_50 wiX9_tool wsX9_tool H9.1 rfl rfl rfl (nle rfl) (nle rfl) rfl ?_
  refine Go.to _ [] rfl rfl (b_tool H9 (rg_toInt _) (rg_toInt _) (fun r2 d1 => ?_))
  refine ⟨HX.bd.1, HX.bd.2, ?_⟩
  have hz := tl_join hT c1 d1
  refine lw_pop C 401 dL_law_400 rfl rfl ?_
  exact lw_goto C 1024 dL_law_401 rfl (kn _ ⟨tn, tf, xn, xf, en, tc, tr, V, Bf, Lf, q, lm, lo, ty, tx, w, B, HX, H9, hq, hT, hD⟩)
set_option maxRecDepth 100000 in
theorem lc_8 {p : Program} {l : Launch} {e : Env} {s : State} {m : MethodId} {below : List Frame} {meth : Method} {c : Code} {b0 N i : Nat} {xs : Nat → Int32} {D : va_G} {kA : Nat → ClassId} (C : lw_At p s m meth c b0 N xs) (hK : Kx D kA s) (hKS : KS s.heap.size s) (hN : N ≤ 2048) (hi : i + 4 ≤ N) {h : MH} (H : LI h) (kn : ∀ h1 : MH, LI h1 → Lw p l e s m below meth c b0 D kA 1024 (vLaw s.heap.size b0 i) [] h1) : Lw p l e s m below meth c b0 D kA 404 (vLaw s.heap.size b0 i) [] h := by
  obtain ⟨tn, tf, xn, xf, en, tc, tr, V, Bf, Lf, q, lm, lo, ty, tx, w, B, HX, H9, hq, hT, hD⟩ := H
  have F0 := HX.1.1
  refine lw_aload C 405 2 dL_law_404 rfl rfl ?_
  refine lw_arg C 1 410 dL_law_405 dL_law_406 dL_law_407 dL_law_408 dL_law_409 rfl (by omega) hN rfl ?_
  refine lw_arg C 2 415 dL_law_410 dL_law_411 dL_law_412 dL_law_413 dL_law_414 rfl (by omega) hN rfl ?_
  refine lw_arg C 3 420 dL_law_415 dL_law_416 dL_law_417 dL_law_418 dL_law_419 rfl (by omega) hN rfl ?_
  refine lw_callV (z := mX8_code) (As := [.int (iZ (xs (i + 1)).toInt), .int (iZ (xs (i + 2)).toInt), .int (iZ (xs (i + 3)).toInt)]) C hK hKS 423 dL_law_420 mwX8_code ⟨by decide, by decide⟩ rfl wlL_51 wiX8_code wsX8_code F0 rfl rfl rfl (nle rfl) (nle rfl) rfl ?_
  refine Go.to _ [] rfl rfl (b8_code HX (rg_toInt _) (rg_toInt _) (rg_toInt _) (fun r1 c1 => ?_))
  refine ⟨HX.bd.1, HX.bd.2, ?_⟩
  refine lw_pop C 424 dL_law_423 rfl rfl ?_
  refine lw_aload C 425 1 dL_law_424 rfl rfl ?_
  refine lw_arg C 1 430 dL_law_425 dL_law_426 dL_law_427 dL_law_428 dL_law_429 rfl (by omega) hN rfl ?_
  refine lw_arg C 2 435 dL_law_430 dL_law_431 dL_law_432 dL_law_433 dL_law_434 rfl (by omega) hN rfl ?_
  refine lw_arg C 3 440 dL_law_435 dL_law_436 dL_law_437 dL_law_438 dL_law_439 rfl (by omega) hN rfl ?_
  refine lw_callV (z := mX9_code) (As := [.int (iZ (xs (i + 1)).toInt), .int (iZ (xs (i + 2)).toInt), .int (iZ (xs (i + 3)).toInt)]) C hK hKS 443 dL_law_440 mwX9_code ⟨by decide, by decide⟩ rfl wlL_55 wiX9_code wsX9_code H9.1 rfl rfl rfl (nle rfl) (nle rfl) rfl ?_
  refine Go.to _ [] rfl rfl (b_code H9 (rg_toInt _) (rg_toInt _) (rg_toInt _) (fun r2 d1 => ?_))
  refine ⟨HX.bd.1, HX.bd.2, ?_⟩
  have hz := cd_join hT c1 d1
  refine lw_pop C 444 dL_law_443 rfl rfl ?_
  exact lw_goto C 1024 dL_law_444 rfl (kn _ ⟨tn, tf, xn, xf, en, tc, tr, V, Bf, Lf, q, lm, lo, ty, tx, w, B, HX, H9, hq, hT, hD⟩)
set_option maxRecDepth 100000 in
theorem lc_9 {p : Program} {l : Launch} {e : Env} {s : State} {m : MethodId} {below : List Frame} {meth : Method} {c : Code} {b0 N i : Nat} {xs : Nat → Int32} {D : va_G} {kA : Nat → ClassId} (C : lw_At p s m meth c b0 N xs) (hK : Kx D kA s) (hKS : KS s.heap.size s) (hN : N ≤ 2048) (hi : i + 4 ≤ N) {h : MH} (H : LI h) (kn : ∀ h1 : MH, LI h1 → Lw p l e s m below meth c b0 D kA 1024 (vLaw s.heap.size b0 i) [] h1) : Lw p l e s m below meth c b0 D kA 447 (vLaw s.heap.size b0 i) [] h := by
  obtain ⟨tn, tf, xn, xf, en, tc, tr, V, Bf, Lf, q, lm, lo, ty, tx, w, B, HX, H9, hq, hT, hD⟩ := H
  have F0 := HX.1.1
  refine lw_aload C 448 2 dL_law_447 rfl rfl ?_
  refine lw_arg C 1 453 dL_law_448 dL_law_449 dL_law_450 dL_law_451 dL_law_452 rfl (by omega) hN rfl ?_
  refine lw_arg C 2 458 dL_law_453 dL_law_454 dL_law_455 dL_law_456 dL_law_457 rfl (by omega) hN rfl ?_
  refine lw_callV (z := mX8_run) (As := [.int (iZ (xs (i + 1)).toInt), .int (iZ (xs (i + 2)).toInt)]) C hK hKS 461 dL_law_458 mwX8_run ⟨by decide, by decide⟩ rfl wlL_56 wiX8_run wsX8_run F0 rfl rfl rfl (nle rfl) (nle rfl) rfl ?_
  refine Go.to _ [] rfl rfl (b8_run HX (rg_toInt _) (rg_toInt _) (fun h1 q1 lm1 lo1 r1 rr1 c1 HX1 M1 => ?_))
  have H91 := H9.mo M1
  refine ⟨HX1.bd.1, HX1.bd.2, ?_⟩
  refine lw_pop C 462 dL_law_461 rfl rfl ?_
  refine lw_aload C 463 1 dL_law_462 rfl rfl ?_
  refine lw_arg C 1 468 dL_law_463 dL_law_464 dL_law_465 dL_law_466 dL_law_467 rfl (by omega) hN rfl ?_
  refine lw_arg C 2 473 dL_law_468 dL_law_469 dL_law_470 dL_law_471 dL_law_472 rfl (by omega) hN rfl ?_
  refine lw_callV (z := mX9_run) (As := [.int (iZ (xs (i + 1)).toInt), .int (iZ (xs (i + 2)).toInt)]) C hK hKS 476 dL_law_473 mwX9_run ⟨by decide, by decide⟩ rfl wlL_59 wiX9_run wsX9_run H91.1 rfl rfl rfl (nle rfl) (nle rfl) rfl ?_
  refine Go.to _ [] rfl rfl (b_run H91 (rg_toInt _) (rg_toInt _) (fun h2 w2 B2 r2 rr2 d1 R2 A2 T2 s2 => ?_))
  have HX2 := HX1.r9 s2 (fun q => SM_in)
  refine ⟨HX2.bd.1, HX2.bd.2, ?_⟩
  have hz := ru_join (fun z => run_eq hq hT z) hT.1 hD c1 d1
  rw [hT.n] at T2
  refine lw_pop C 477 dL_law_476 rfl rfl ?_
  exact lw_goto C 1024 dL_law_477 rfl (kn _ ⟨tn, tf, xn, xf, en, tc, tr, V, Bf, Lf, q1, lm1, lo1, ty, tx, w2, B2, HX2, R2, (hq.aR A2), ⟨A2.2.2.1.trans hT.1, hT.2.tr T2⟩, hz⟩)
set_option maxRecDepth 100000 in
theorem lc_10 {p : Program} {l : Launch} {e : Env} {s : State} {m : MethodId} {below : List Frame} {meth : Method} {c : Code} {b0 N i : Nat} {xs : Nat → Int32} {D : va_G} {kA : Nat → ClassId} (C : lw_At p s m meth c b0 N xs) (hK : Kx D kA s) (hKS : KS s.heap.size s) (hN : N ≤ 2048) (hi : i + 4 ≤ N) {h : MH} (H : LI h) (kn : ∀ h1 : MH, LI h1 → Lw p l e s m below meth c b0 D kA 1024 (vLaw s.heap.size b0 i) [] h1) : Lw p l e s m below meth c b0 D kA 480 (vLaw s.heap.size b0 i) [] h := by
  obtain ⟨tn, tf, xn, xf, en, tc, tr, V, Bf, Lf, q, lm, lo, ty, tx, w, B, HX, H9, hq, hT, hD⟩ := H
  have F0 := HX.1.1
  refine lw_aload C 481 2 dL_law_480 rfl rfl ?_
  refine lw_arg C 1 486 dL_law_481 dL_law_482 dL_law_483 dL_law_484 dL_law_485 rfl (by omega) hN rfl ?_
  refine lw_callV (z := mX8_ran) (As := [.int (iZ (xs (i + 1)).toInt)]) C hK hKS 489 dL_law_486 mwX8_ran ⟨by decide, by decide⟩ rfl wlL_60 wiX8_ran wsX8_ran F0 rfl rfl rfl (nle rfl) (nle rfl) rfl ?_
  refine Go.to _ [] rfl rfl (b8_ran HX (rg_toInt _) (fun r1 c1 => ?_))
  refine ⟨HX.bd.1, HX.bd.2, ?_⟩
  refine lw_pop C 490 dL_law_489 rfl rfl ?_
  refine lw_aload C 491 1 dL_law_490 rfl rfl ?_
  refine lw_arg C 1 496 dL_law_491 dL_law_492 dL_law_493 dL_law_494 dL_law_495 rfl (by omega) hN rfl ?_
  refine lw_callV (z := mX9_ran) (As := [.int (iZ (xs (i + 1)).toInt)]) C hK hKS 499 dL_law_496 mwX9_ran ⟨by decide, by decide⟩ rfl wlL_63 wiX9_ran wsX9_ran H9.1 rfl rfl rfl (nle rfl) (nle rfl) rfl ?_
  refine Go.to _ [] rfl rfl (b_ran H9 (rg_toInt _) (fun r2 d1 => ?_))
  refine ⟨HX.bd.1, HX.bd.2, ?_⟩
  have hz := rn_join hD c1 d1
  refine lw_pop C 500 dL_law_499 rfl rfl ?_
  exact lw_goto C 1024 dL_law_500 rfl (kn _ ⟨tn, tf, xn, xf, en, tc, tr, V, Bf, Lf, q, lm, lo, ty, tx, w, B, HX, H9, hq, hT, hD⟩)
set_option maxRecDepth 100000 in
theorem lc_11 {p : Program} {l : Launch} {e : Env} {s : State} {m : MethodId} {below : List Frame} {meth : Method} {c : Code} {b0 N i : Nat} {xs : Nat → Int32} {D : va_G} {kA : Nat → ClassId} (C : lw_At p s m meth c b0 N xs) (hK : Kx D kA s) (hKS : KS s.heap.size s) (hN : N ≤ 2048) (hi : i + 4 ≤ N) {h : MH} (H : LI h) (kn : ∀ h1 : MH, LI h1 → Lw p l e s m below meth c b0 D kA 1024 (vLaw s.heap.size b0 i) [] h1) : Lw p l e s m below meth c b0 D kA 503 (vLaw s.heap.size b0 i) [] h := by
  obtain ⟨tn, tf, xn, xf, en, tc, tr, V, Bf, Lf, q, lm, lo, ty, tx, w, B, HX, H9, hq, hT, hD⟩ := H
  have F0 := HX.1.1
  refine lw_aload C 504 2 dL_law_503 rfl rfl ?_
  refine lw_arg C 1 509 dL_law_504 dL_law_505 dL_law_506 dL_law_507 dL_law_508 rfl (by omega) hN rfl ?_
  refine lw_arg C 2 514 dL_law_509 dL_law_510 dL_law_511 dL_law_512 dL_law_513 rfl (by omega) hN rfl ?_
  refine lw_callV (z := mX8_tape) (As := [.int (iZ (xs (i + 1)).toInt), .int (iZ (xs (i + 2)).toInt)]) C hK hKS 517 dL_law_514 mwX8_tape ⟨by decide, by decide⟩ rfl wlL_64 wiX8_tape wsX8_tape F0 rfl rfl rfl (nle rfl) (nle rfl) rfl ?_
  refine Go.to _ [] rfl rfl (b8_tape HX (rg_toInt _) (rg_toInt _) (fun r1 c1 => ?_))
  refine ⟨HX.bd.1, HX.bd.2, ?_⟩
  refine lw_pop C 518 dL_law_517 rfl rfl ?_
  refine lw_aload C 519 1 dL_law_518 rfl rfl ?_
  refine lw_arg C 1 524 dL_law_519 dL_law_520 dL_law_521 dL_law_522 dL_law_523 rfl (by omega) hN rfl ?_
  refine lw_arg C 2 529 dL_law_524 dL_law_525 dL_law_526 dL_law_527 dL_law_528 rfl (by omega) hN rfl ?_
  refine lw_callV (z := mX9_tape) (As := [.int (iZ (xs (i + 1)).toInt), .int (iZ (xs (i + 2)).toInt)]) C hK hKS 532 dL_law_529 mwX9_tape ⟨by decide, by decide⟩ rfl wlL_67 wiX9_tape wsX9_tape H9.1 rfl rfl rfl (nle rfl) (nle rfl) rfl ?_
  refine Go.to _ [] rfl rfl (b_tape H9 (rg_toInt _) (rg_toInt _) (fun r2 d1 => ?_))
  refine ⟨HX.bd.1, HX.bd.2, ?_⟩
  have hz := tp_join hD c1 d1
  refine lw_pop C 533 dL_law_532 rfl rfl ?_
  exact lw_goto C 1024 dL_law_533 rfl (kn _ ⟨tn, tf, xn, xf, en, tc, tr, V, Bf, Lf, q, lm, lo, ty, tx, w, B, HX, H9, hq, hT, hD⟩)
set_option maxRecDepth 100000 in
theorem lc_12 {p : Program} {l : Launch} {e : Env} {s : State} {m : MethodId} {below : List Frame} {meth : Method} {c : Code} {b0 N i : Nat} {xs : Nat → Int32} {D : va_G} {kA : Nat → ClassId} (C : lw_At p s m meth c b0 N xs) (hK : Kx D kA s) (hKS : KS s.heap.size s) (hN : N ≤ 2048) (hi : i + 4 ≤ N) {h : MH} (H : LI h) (kn : ∀ h1 : MH, LI h1 → Lw p l e s m below meth c b0 D kA 1024 (vLaw s.heap.size b0 i) [] h1) : Lw p l e s m below meth c b0 D kA 536 (vLaw s.heap.size b0 i) [] h := by
  obtain ⟨tn, tf, xn, xf, en, tc, tr, V, Bf, Lf, q, lm, lo, ty, tx, w, B, HX, H9, hq, hT, hD⟩ := H
  have F0 := HX.1.1
  refine lw_aload C 537 2 dL_law_536 rfl rfl ?_
  refine lw_arg C 1 542 dL_law_537 dL_law_538 dL_law_539 dL_law_540 dL_law_541 rfl (by omega) hN rfl ?_
  refine lw_callV (z := mX8_rebuilt) (As := [.int (iZ (xs (i + 1)).toInt)]) C hK hKS 545 dL_law_542 mwX8_rebuilt ⟨by decide, by decide⟩ rfl wlL_68 wiX8_rebuilt wsX8_rebuilt F0 rfl rfl rfl (nle rfl) (nle rfl) rfl ?_
  refine Go.to _ [] rfl rfl (b8_rebuilt HX (rg_toInt _) (fun h1 r1 c1 HX1 M1 => ?_))
  have H91 := H9.mo M1
  refine ⟨HX1.bd.1, HX1.bd.2, ?_⟩
  refine lw_pop C 546 dL_law_545 rfl rfl ?_
  refine lw_aload C 547 1 dL_law_546 rfl rfl ?_
  refine lw_arg C 1 552 dL_law_547 dL_law_548 dL_law_549 dL_law_550 dL_law_551 rfl (by omega) hN rfl ?_
  refine lw_callV (z := mX9_rebuilt) (As := [.int (iZ (xs (i + 1)).toInt)]) C hK hKS 555 dL_law_552 mwX9_rebuilt ⟨by decide, by decide⟩ rfl wlL_71 wiX9_rebuilt wsX9_rebuilt H91.1 rfl rfl rfl (nle rfl) (nle rfl) rfl ?_
  refine Go.to _ [] rfl rfl (b_rebuilt H91 (rg_toInt _) (fun h2 w2 B2 r2 d1 R2 A2 s2 => ?_))
  have HX2 := HX1.r9 s2 (fun q => SM_in8)
  refine ⟨HX2.bd.1, HX2.bd.2, ?_⟩
  refine lw_pop C 556 dL_law_555 rfl rfl ?_
  exact lw_goto C 1024 dL_law_556 rfl (kn _ ⟨tn, tf, xn, xf, en, tc, tr, V, Bf, Lf, q, lm, lo, ty, tx, w2, B2, HX2, R2, (hq.aC A2.A), (hT.ag A2 HX.t12 H9.o56), (hD.ag A2.A)⟩)
set_option maxRecDepth 100000 in
theorem lc_13 {p : Program} {l : Launch} {e : Env} {s : State} {m : MethodId} {below : List Frame} {meth : Method} {c : Code} {b0 N i : Nat} {xs : Nat → Int32} {D : va_G} {kA : Nat → ClassId} (C : lw_At p s m meth c b0 N xs) (hK : Kx D kA s) (hKS : KS s.heap.size s) (hN : N ≤ 2048) (hi : i + 4 ≤ N) {h : MH} (H : LI h) (kn : ∀ h1 : MH, LI h1 → Lw p l e s m below meth c b0 D kA 1024 (vLaw s.heap.size b0 i) [] h1) : Lw p l e s m below meth c b0 D kA 559 (vLaw s.heap.size b0 i) [] h := by
  obtain ⟨tn, tf, xn, xf, en, tc, tr, V, Bf, Lf, q, lm, lo, ty, tx, w, B, HX, H9, hq, hT, hD⟩ := H
  have F0 := HX.1.1
  refine lw_aload C 560 2 dL_law_559 rfl rfl ?_
  refine lw_callV (z := mX8_stale) (As := []) C hK hKS 563 dL_law_560 mwX8_stale ⟨by decide, by decide⟩ rfl wlL_72 wiX8_stale wsX8_stale F0 rfl rfl rfl (nle rfl) (nle rfl) rfl ?_
  refine Go.to _ [] rfl rfl (b8_stale HX  (fun h1 r1 c1 HX1 M1 => ?_))
  have H91 := H9.mo M1
  refine ⟨HX1.bd.1, HX1.bd.2, ?_⟩
  refine lw_pop C 564 dL_law_563 rfl rfl ?_
  refine lw_aload C 565 1 dL_law_564 rfl rfl ?_
  refine lw_callV (z := mX9_stale) (As := []) C hK hKS 568 dL_law_565 mwX9_stale ⟨by decide, by decide⟩ rfl wlL_75 wiX9_stale wsX9_stale H91.1 rfl rfl rfl (nle rfl) (nle rfl) rfl ?_
  refine Go.to _ [] rfl rfl (b_stale H91  (fun h2 w2 B2 r2 d1 R2 A2 s2 => ?_))
  have HX2 := HX1.r9 s2 (fun q => SM_in8)
  refine ⟨HX2.bd.1, HX2.bd.2, ?_⟩
  refine lw_pop C 569 dL_law_568 rfl rfl ?_
  exact lw_goto C 1024 dL_law_569 rfl (kn _ ⟨tn, tf, xn, xf, en, tc, tr, V, Bf, Lf, q, lm, lo, ty, tx, w2, B2, HX2, R2, (hq.aC A2.A), (hT.ag A2 HX.t12 H9.o56), (hD.ag A2.A)⟩)
set_option maxRecDepth 100000 in
theorem lc_14 {p : Program} {l : Launch} {e : Env} {s : State} {m : MethodId} {below : List Frame} {meth : Method} {c : Code} {b0 N i : Nat} {xs : Nat → Int32} {D : va_G} {kA : Nat → ClassId} (C : lw_At p s m meth c b0 N xs) (hK : Kx D kA s) (hKS : KS s.heap.size s) (hN : N ≤ 2048) (hi : i + 4 ≤ N) {h : MH} (H : LI h) (kn : ∀ h1 : MH, LI h1 → Lw p l e s m below meth c b0 D kA 1024 (vLaw s.heap.size b0 i) [] h1) : Lw p l e s m below meth c b0 D kA 572 (vLaw s.heap.size b0 i) [] h := by
  obtain ⟨tn, tf, xn, xf, en, tc, tr, V, Bf, Lf, q, lm, lo, ty, tx, w, B, HX, H9, hq, hT, hD⟩ := H
  have F0 := HX.1.1
  refine lw_aload C 573 2 dL_law_572 rfl rfl ?_
  refine lw_arg C 1 578 dL_law_573 dL_law_574 dL_law_575 dL_law_576 dL_law_577 rfl (by omega) hN rfl ?_
  refine lw_arg C 2 583 dL_law_578 dL_law_579 dL_law_580 dL_law_581 dL_law_582 rfl (by omega) hN rfl ?_
  refine lw_callV (z := mX8_settles) (As := [.int (iZ (xs (i + 1)).toInt), .int (iZ (xs (i + 2)).toInt)]) C hK hKS 586 dL_law_583 mwX8_settles ⟨by decide, by decide⟩ rfl wlL_76 wiX8_settles wsX8_settles F0 rfl rfl rfl (nle rfl) (nle rfl) rfl ?_
  refine Go.to _ [] rfl rfl (b8_settles HX (rg_toInt _) (rg_toInt _) (fun h1 r1 c1 HX1 M1 => ?_))
  have H91 := H9.mo M1
  refine ⟨HX1.bd.1, HX1.bd.2, ?_⟩
  refine lw_pop C 587 dL_law_586 rfl rfl ?_
  refine lw_aload C 588 1 dL_law_587 rfl rfl ?_
  refine lw_arg C 1 593 dL_law_588 dL_law_589 dL_law_590 dL_law_591 dL_law_592 rfl (by omega) hN rfl ?_
  refine lw_arg C 2 598 dL_law_593 dL_law_594 dL_law_595 dL_law_596 dL_law_597 rfl (by omega) hN rfl ?_
  refine lw_callV (z := mX9_settles) (As := [.int (iZ (xs (i + 1)).toInt), .int (iZ (xs (i + 2)).toInt)]) C hK hKS 601 dL_law_598 mwX9_settles ⟨by decide, by decide⟩ rfl wlL_79 wiX9_settles wsX9_settles H91.1 rfl rfl rfl (nle rfl) (nle rfl) rfl ?_
  refine Go.to _ [] rfl rfl (b_settles H91 (rg_toInt _) (rg_toInt _) (fun h2 w2 B2 r2 d1 R2 A2 s2 => ?_))
  have HX2 := HX1.r9 s2 (fun q => SM_in8)
  refine ⟨HX2.bd.1, HX2.bd.2, ?_⟩
  refine lw_pop C 602 dL_law_601 rfl rfl ?_
  exact lw_goto C 1024 dL_law_602 rfl (kn _ ⟨tn, tf, xn, xf, en, tc, tr, V, Bf, Lf, q, lm, lo, ty, tx, w2, B2, HX2, R2, (hq.aC A2.A), (hT.ag A2 HX.t12 H9.o56), (hD.ag A2.A)⟩)
set_option maxRecDepth 100000 in
theorem lc_15 {p : Program} {l : Launch} {e : Env} {s : State} {m : MethodId} {below : List Frame} {meth : Method} {c : Code} {b0 N i : Nat} {xs : Nat → Int32} {D : va_G} {kA : Nat → ClassId} (C : lw_At p s m meth c b0 N xs) (hK : Kx D kA s) (hKS : KS s.heap.size s) (hN : N ≤ 2048) (hi : i + 4 ≤ N) {h : MH} (H : LI h) (kn : ∀ h1 : MH, LI h1 → Lw p l e s m below meth c b0 D kA 1024 (vLaw s.heap.size b0 i) [] h1) : Lw p l e s m below meth c b0 D kA 605 (vLaw s.heap.size b0 i) [] h := by
  obtain ⟨tn, tf, xn, xf, en, tc, tr, V, Bf, Lf, q, lm, lo, ty, tx, w, B, HX, H9, hq, hT, hD⟩ := H
  have F0 := HX.1.1
  refine lw_aload C 606 2 dL_law_605 rfl rfl ?_
  refine lw_arg C 1 611 dL_law_606 dL_law_607 dL_law_608 dL_law_609 dL_law_610 rfl (by omega) hN rfl ?_
  refine lw_arg C 2 616 dL_law_611 dL_law_612 dL_law_613 dL_law_614 dL_law_615 rfl (by omega) hN rfl ?_
  refine lw_arg C 3 621 dL_law_616 dL_law_617 dL_law_618 dL_law_619 dL_law_620 rfl (by omega) hN rfl ?_
  refine lw_callV (z := mX8_round) (As := [.int (iZ (xs (i + 1)).toInt), .int (iZ (xs (i + 2)).toInt), .int (iZ (xs (i + 3)).toInt)]) C hK hKS 624 dL_law_621 mwX8_round ⟨by decide, by decide⟩ rfl wlL_80 wiX8_round wsX8_round F0 rfl rfl rfl (nle rfl) (nle rfl) rfl ?_
  refine Go.to _ [] rfl rfl (b8_round HX (rg_toInt _) (rg_toInt _) (rg_toInt _) (fun h1 r1 c1 HX1 M1 => ?_))
  have H91 := H9.mo M1
  refine ⟨HX1.bd.1, HX1.bd.2, ?_⟩
  refine lw_pop C 625 dL_law_624 rfl rfl ?_
  refine lw_aload C 626 1 dL_law_625 rfl rfl ?_
  refine lw_arg C 1 631 dL_law_626 dL_law_627 dL_law_628 dL_law_629 dL_law_630 rfl (by omega) hN rfl ?_
  refine lw_arg C 2 636 dL_law_631 dL_law_632 dL_law_633 dL_law_634 dL_law_635 rfl (by omega) hN rfl ?_
  refine lw_arg C 3 641 dL_law_636 dL_law_637 dL_law_638 dL_law_639 dL_law_640 rfl (by omega) hN rfl ?_
  refine lw_callV (z := mX9_round) (As := [.int (iZ (xs (i + 1)).toInt), .int (iZ (xs (i + 2)).toInt), .int (iZ (xs (i + 3)).toInt)]) C hK hKS 644 dL_law_641 mwX9_round ⟨by decide, by decide⟩ rfl wlL_83 wiX9_round wsX9_round H91.1 rfl rfl rfl (nle rfl) (nle rfl) rfl ?_
  refine Go.to _ [] rfl rfl (b_round H91 (rg_toInt _) (rg_toInt _) (rg_toInt _) (fun h2 w2 B2 r2 d1 R2 A2 s2 => ?_))
  have HX2 := HX1.r9 s2 (fun q => SM_in8)
  refine ⟨HX2.bd.1, HX2.bd.2, ?_⟩
  refine lw_pop C 645 dL_law_644 rfl rfl ?_
  exact lw_goto C 1024 dL_law_645 rfl (kn _ ⟨tn, tf, xn, xf, en, tc, tr, V, Bf, Lf, q, lm, lo, ty, tx, w2, B2, HX2, R2, (hq.aC A2.A), (hT.ag A2 HX.t12 H9.o56), (hD.ag A2.A)⟩)
set_option maxRecDepth 100000 in
theorem lc_16 {p : Program} {l : Launch} {e : Env} {s : State} {m : MethodId} {below : List Frame} {meth : Method} {c : Code} {b0 N i : Nat} {xs : Nat → Int32} {D : va_G} {kA : Nat → ClassId} (C : lw_At p s m meth c b0 N xs) (hK : Kx D kA s) (hKS : KS s.heap.size s) (hN : N ≤ 2048) (hi : i + 4 ≤ N) {h : MH} (H : LI h) (kn : ∀ h1 : MH, LI h1 → Lw p l e s m below meth c b0 D kA 1024 (vLaw s.heap.size b0 i) [] h1) : Lw p l e s m below meth c b0 D kA 648 (vLaw s.heap.size b0 i) [] h := by
  obtain ⟨tn, tf, xn, xf, en, tc, tr, V, Bf, Lf, q, lm, lo, ty, tx, w, B, HX, H9, hq, hT, hD⟩ := H
  have F0 := HX.1.1
  refine lw_aload C 649 2 dL_law_648 rfl rfl ?_
  refine lw_arg C 1 654 dL_law_649 dL_law_650 dL_law_651 dL_law_652 dL_law_653 rfl (by omega) hN rfl ?_
  refine lw_arg C 2 659 dL_law_654 dL_law_655 dL_law_656 dL_law_657 dL_law_658 rfl (by omega) hN rfl ?_
  refine lw_arg C 3 664 dL_law_659 dL_law_660 dL_law_661 dL_law_662 dL_law_663 rfl (by omega) hN rfl ?_
  refine lw_callV (z := mX8_hides) (As := [.int (iZ (xs (i + 1)).toInt), .int (iZ (xs (i + 2)).toInt), .int (iZ (xs (i + 3)).toInt)]) C hK hKS 667 dL_law_664 mwX8_hides ⟨by decide, by decide⟩ rfl wlL_84 wiX8_hides wsX8_hides F0 rfl rfl rfl (nle rfl) (nle rfl) rfl ?_
  refine Go.to _ [] rfl rfl (b8_hides HX (rg_toInt _) (rg_toInt _) (rg_toInt _) (fun h1 r1 c1 HX1 M1 => ?_))
  have H91 := H9.mo M1
  refine ⟨HX1.bd.1, HX1.bd.2, ?_⟩
  refine lw_pop C 668 dL_law_667 rfl rfl ?_
  refine lw_aload C 669 1 dL_law_668 rfl rfl ?_
  refine lw_arg C 1 674 dL_law_669 dL_law_670 dL_law_671 dL_law_672 dL_law_673 rfl (by omega) hN rfl ?_
  refine lw_arg C 2 679 dL_law_674 dL_law_675 dL_law_676 dL_law_677 dL_law_678 rfl (by omega) hN rfl ?_
  refine lw_arg C 3 684 dL_law_679 dL_law_680 dL_law_681 dL_law_682 dL_law_683 rfl (by omega) hN rfl ?_
  refine lw_callV (z := mX9_hides) (As := [.int (iZ (xs (i + 1)).toInt), .int (iZ (xs (i + 2)).toInt), .int (iZ (xs (i + 3)).toInt)]) C hK hKS 687 dL_law_684 mwX9_hides ⟨by decide, by decide⟩ rfl wlL_87 wiX9_hides wsX9_hides H91.1 rfl rfl rfl (nle rfl) (nle rfl) rfl ?_
  refine Go.to _ [] rfl rfl (b_hides H91 (rg_toInt _) (rg_toInt _) (rg_toInt _) (fun h2 w2 B2 r2 d1 R2 A2 s2 => ?_))
  have HX2 := HX1.r9 s2 (fun q => SM_in8)
  refine ⟨HX2.bd.1, HX2.bd.2, ?_⟩
  refine lw_pop C 688 dL_law_687 rfl rfl ?_
  exact lw_goto C 1024 dL_law_688 rfl (kn _ ⟨tn, tf, xn, xf, en, tc, tr, V, Bf, Lf, q, lm, lo, ty, tx, w2, B2, HX2, R2, (hq.aC A2.A), (hT.ag A2 HX.t12 H9.o56), (hD.ag A2.A)⟩)
set_option maxRecDepth 100000 in
theorem lc_17 {p : Program} {l : Launch} {e : Env} {s : State} {m : MethodId} {below : List Frame} {meth : Method} {c : Code} {b0 N i : Nat} {xs : Nat → Int32} {D : va_G} {kA : Nat → ClassId} (C : lw_At p s m meth c b0 N xs) (hK : Kx D kA s) (hKS : KS s.heap.size s) (hN : N ≤ 2048) (hi : i + 4 ≤ N) {h : MH} (H : LI h) (kn : ∀ h1 : MH, LI h1 → Lw p l e s m below meth c b0 D kA 1024 (vLaw s.heap.size b0 i) [] h1) : Lw p l e s m below meth c b0 D kA 691 (vLaw s.heap.size b0 i) [] h := by
  obtain ⟨tn, tf, xn, xf, en, tc, tr, V, Bf, Lf, q, lm, lo, ty, tx, w, B, HX, H9, hq, hT, hD⟩ := H
  have F0 := HX.1.1
  refine lw_aload C 692 2 dL_law_691 rfl rfl ?_
  refine lw_arg C 1 697 dL_law_692 dL_law_693 dL_law_694 dL_law_695 dL_law_696 rfl (by omega) hN rfl ?_
  refine lw_arg C 2 702 dL_law_697 dL_law_698 dL_law_699 dL_law_700 dL_law_701 rfl (by omega) hN rfl ?_
  refine lw_callV (z := mX8_check) (As := [.int (iZ (xs (i + 1)).toInt), .int (iZ (xs (i + 2)).toInt)]) C hK hKS 705 dL_law_702 mwX8_check ⟨by decide, by decide⟩ rfl wlL_88 wiX8_check wsX8_check F0 rfl rfl rfl (nle rfl) (nle rfl) rfl ?_
  refine Go.to _ [] rfl rfl (b8_check HX (rg_toInt _) (rg_toInt _) (fun h1 V1 Bf1 Lf1 r1 c1 HX1 M1 => ?_))
  have H91 := H9.mo M1
  refine ⟨HX1.bd.1, HX1.bd.2, ?_⟩
  refine lw_pop C 706 dL_law_705 rfl rfl ?_
  refine lw_aload C 707 1 dL_law_706 rfl rfl ?_
  refine lw_arg C 1 712 dL_law_707 dL_law_708 dL_law_709 dL_law_710 dL_law_711 rfl (by omega) hN rfl ?_
  refine lw_arg C 2 717 dL_law_712 dL_law_713 dL_law_714 dL_law_715 dL_law_716 rfl (by omega) hN rfl ?_
  refine lw_callV (z := mX9_check) (As := [.int (iZ (xs (i + 1)).toInt), .int (iZ (xs (i + 2)).toInt)]) C hK hKS 720 dL_law_717 mwX9_check ⟨by decide, by decide⟩ rfl wlL_91 wiX9_check wsX9_check H91.1 rfl rfl rfl (nle rfl) (nle rfl) rfl ?_
  refine Go.to _ [] rfl rfl (b_check H91 (rg_toInt _) (rg_toInt _) (fun h2 tr2 w2 B2 r2 d1 R2 A2 s2 => ?_))
  have HX2 := HX1.r9 s2 (fun q => SM_in)
  refine ⟨HX2.bd.1, HX2.bd.2, ?_⟩
  have d2 := d1.1
  rw [hT.n] at d2
  have hz := ck_join hT.2 c1 d2
  have R3 : R9B h2 tr ty tx w2 B2 := by
    rw [← d1.2.2]
    exact R2
  refine lw_pop C 721 dL_law_720 rfl rfl ?_
  exact lw_goto C 1024 dL_law_721 rfl (kn _ ⟨tn, tf, xn, xf, en, tc, tr, V1, Bf1, Lf1, q, lm, lo, ty, tx, w2, B2, HX2, R3, (hq.aC A2), ⟨d1.2.1.trans hT.1, hz.2⟩, (hD.ag A2)⟩)
set_option maxRecDepth 100000 in
theorem lc_18 {p : Program} {l : Launch} {e : Env} {s : State} {m : MethodId} {below : List Frame} {meth : Method} {c : Code} {b0 N i : Nat} {xs : Nat → Int32} {D : va_G} {kA : Nat → ClassId} (C : lw_At p s m meth c b0 N xs) (hK : Kx D kA s) (hKS : KS s.heap.size s) (hN : N ≤ 2048) (hi : i + 4 ≤ N) {h : MH} (H : LI h) (kn : ∀ h1 : MH, LI h1 → Lw p l e s m below meth c b0 D kA 1024 (vLaw s.heap.size b0 i) [] h1) : Lw p l e s m below meth c b0 D kA 724 (vLaw s.heap.size b0 i) [] h := by
  obtain ⟨tn, tf, xn, xf, en, tc, tr, V, Bf, Lf, q, lm, lo, ty, tx, w, B, HX, H9, hq, hT, hD⟩ := H
  have F0 := HX.1.1
  refine lw_aload C 725 2 dL_law_724 rfl rfl ?_
  refine lw_arg C 1 730 dL_law_725 dL_law_726 dL_law_727 dL_law_728 dL_law_729 rfl (by omega) hN rfl ?_
  refine lw_arg C 2 735 dL_law_730 dL_law_731 dL_law_732 dL_law_733 dL_law_734 rfl (by omega) hN rfl ?_
  refine lw_callV (z := mX8_chain) (As := [.int (iZ (xs (i + 1)).toInt), .int (iZ (xs (i + 2)).toInt)]) C hK hKS 738 dL_law_735 mwX8_chain ⟨by decide, by decide⟩ rfl wlL_92 wiX8_chain wsX8_chain F0 rfl rfl rfl (nle rfl) (nle rfl) rfl ?_
  refine Go.to _ [] rfl rfl (b8_chain HX (rg_toInt _) (rg_toInt _) (fun r1 c1 => ?_))
  refine ⟨HX.bd.1, HX.bd.2, ?_⟩
  refine lw_pop C 739 dL_law_738 rfl rfl ?_
  refine lw_aload C 740 1 dL_law_739 rfl rfl ?_
  refine lw_arg C 1 745 dL_law_740 dL_law_741 dL_law_742 dL_law_743 dL_law_744 rfl (by omega) hN rfl ?_
  refine lw_arg C 2 750 dL_law_745 dL_law_746 dL_law_747 dL_law_748 dL_law_749 rfl (by omega) hN rfl ?_
  refine lw_callV (z := mX9_chain) (As := [.int (iZ (xs (i + 1)).toInt), .int (iZ (xs (i + 2)).toInt)]) C hK hKS 753 dL_law_750 mwX9_chain ⟨by decide, by decide⟩ rfl wlL_95 wiX9_chain wsX9_chain H9.1 rfl rfl rfl (nle rfl) (nle rfl) rfl ?_
  refine Go.to _ [] rfl rfl (b_chain H9 (rg_toInt _) (rg_toInt _) (fun r2 d1 => ?_))
  refine ⟨HX.bd.1, HX.bd.2, ?_⟩
  refine lw_pop C 754 dL_law_753 rfl rfl ?_
  exact lw_goto C 1024 dL_law_754 rfl (kn _ ⟨tn, tf, xn, xf, en, tc, tr, V, Bf, Lf, q, lm, lo, ty, tx, w, B, HX, H9, hq, hT, hD⟩)
set_option maxRecDepth 100000 in
theorem lc_19 {p : Program} {l : Launch} {e : Env} {s : State} {m : MethodId} {below : List Frame} {meth : Method} {c : Code} {b0 N i : Nat} {xs : Nat → Int32} {D : va_G} {kA : Nat → ClassId} (C : lw_At p s m meth c b0 N xs) (hK : Kx D kA s) (hKS : KS s.heap.size s) (hN : N ≤ 2048) (hi : i + 4 ≤ N) {h : MH} (H : LI h) (kn : ∀ h1 : MH, LI h1 → Lw p l e s m below meth c b0 D kA 1024 (vLaw s.heap.size b0 i) [] h1) : Lw p l e s m below meth c b0 D kA 757 (vLaw s.heap.size b0 i) [] h := by
  obtain ⟨tn, tf, xn, xf, en, tc, tr, V, Bf, Lf, q, lm, lo, ty, tx, w, B, HX, H9, hq, hT, hD⟩ := H
  have F0 := HX.1.1
  refine lw_aload C 758 2 dL_law_757 rfl rfl ?_
  refine lw_arg C 1 763 dL_law_758 dL_law_759 dL_law_760 dL_law_761 dL_law_762 rfl (by omega) hN rfl ?_
  refine lw_callV (z := mX8_sealed) (As := [.int (iZ (xs (i + 1)).toInt)]) C hK hKS 766 dL_law_763 mwX8_sealed ⟨by decide, by decide⟩ rfl wlL_96 wiX8_sealed wsX8_sealed F0 rfl rfl rfl (nle rfl) (nle rfl) rfl ?_
  refine Go.to _ [] rfl rfl (b8_sealed HX (rg_toInt _) (fun h1 r1 c1 HX1 M1 => ?_))
  have H91 := H9.mo M1
  refine ⟨HX1.bd.1, HX1.bd.2, ?_⟩
  refine lw_pop C 767 dL_law_766 rfl rfl ?_
  refine lw_aload C 768 1 dL_law_767 rfl rfl ?_
  refine lw_arg C 1 773 dL_law_768 dL_law_769 dL_law_770 dL_law_771 dL_law_772 rfl (by omega) hN rfl ?_
  refine lw_callV (z := mX9_sealed) (As := [.int (iZ (xs (i + 1)).toInt)]) C hK hKS 776 dL_law_773 mwX9_sealed ⟨by decide, by decide⟩ rfl wlL_99 wiX9_sealed wsX9_sealed H91.1 rfl rfl rfl (nle rfl) (nle rfl) rfl ?_
  refine Go.to _ [] rfl rfl (b_sealed H91 (rg_toInt _) (fun h2 w2 B2 r2 d1 R2 A2 s2 => ?_))
  have HX2 := HX1.r9 s2 (fun q => SM_in8)
  refine ⟨HX2.bd.1, HX2.bd.2, ?_⟩
  refine lw_pop C 777 dL_law_776 rfl rfl ?_
  exact lw_goto C 1024 dL_law_777 rfl (kn _ ⟨tn, tf, xn, xf, en, tc, tr, V, Bf, Lf, q, lm, lo, ty, tx, w2, B2, HX2, R2, (hq.aC A2.A), (hT.ag A2 HX.t12 H9.o56), (hD.ag A2.A)⟩)
set_option maxRecDepth 100000 in
theorem lc_20 {p : Program} {l : Launch} {e : Env} {s : State} {m : MethodId} {below : List Frame} {meth : Method} {c : Code} {b0 N i : Nat} {xs : Nat → Int32} {D : va_G} {kA : Nat → ClassId} (C : lw_At p s m meth c b0 N xs) (hK : Kx D kA s) (hKS : KS s.heap.size s) (hN : N ≤ 2048) (hi : i + 4 ≤ N) {h : MH} (H : LI h) (kn : ∀ h1 : MH, LI h1 → Lw p l e s m below meth c b0 D kA 1024 (vLaw s.heap.size b0 i) [] h1) : Lw p l e s m below meth c b0 D kA 780 (vLaw s.heap.size b0 i) [] h := by
  obtain ⟨tn, tf, xn, xf, en, tc, tr, V, Bf, Lf, q, lm, lo, ty, tx, w, B, HX, H9, hq, hT, hD⟩ := H
  have F0 := HX.1.1
  refine lw_aload C 781 2 dL_law_780 rfl rfl ?_
  refine lw_arg C 1 786 dL_law_781 dL_law_782 dL_law_783 dL_law_784 dL_law_785 rfl (by omega) hN rfl ?_
  refine lw_callV (z := mX8_least) (As := [.int (iZ (xs (i + 1)).toInt)]) C hK hKS 789 dL_law_786 mwX8_least ⟨by decide, by decide⟩ rfl wlL_100 wiX8_least wsX8_least F0 rfl rfl rfl (nle rfl) (nle rfl) rfl ?_
  refine Go.to _ [] rfl rfl (b8_least HX (rg_toInt _) (fun h1 r1 c1 HX1 M1 => ?_))
  have H91 := H9.mo M1
  refine ⟨HX1.bd.1, HX1.bd.2, ?_⟩
  refine lw_pop C 790 dL_law_789 rfl rfl ?_
  refine lw_aload C 791 1 dL_law_790 rfl rfl ?_
  refine lw_arg C 1 796 dL_law_791 dL_law_792 dL_law_793 dL_law_794 dL_law_795 rfl (by omega) hN rfl ?_
  refine lw_callV (z := mX9_least) (As := [.int (iZ (xs (i + 1)).toInt)]) C hK hKS 799 dL_law_796 mwX9_least ⟨by decide, by decide⟩ rfl wlL_103 wiX9_least wsX9_least H91.1 rfl rfl rfl (nle rfl) (nle rfl) rfl ?_
  refine Go.to _ [] rfl rfl (b_least H91 (rg_toInt _) (fun h2 w2 B2 r2 d1 R2 A2 s2 => ?_))
  have HX2 := HX1.r9 s2 (fun q => SM_in8)
  refine ⟨HX2.bd.1, HX2.bd.2, ?_⟩
  refine lw_pop C 800 dL_law_799 rfl rfl ?_
  exact lw_goto C 1024 dL_law_800 rfl (kn _ ⟨tn, tf, xn, xf, en, tc, tr, V, Bf, Lf, q, lm, lo, ty, tx, w2, B2, HX2, R2, (hq.aC A2.A), (hT.ag A2 HX.t12 H9.o56), (hD.ag A2.A)⟩)
set_option maxRecDepth 100000 in
theorem lc_21 {p : Program} {l : Launch} {e : Env} {s : State} {m : MethodId} {below : List Frame} {meth : Method} {c : Code} {b0 N i : Nat} {xs : Nat → Int32} {D : va_G} {kA : Nat → ClassId} (C : lw_At p s m meth c b0 N xs) (hK : Kx D kA s) (hKS : KS s.heap.size s) (hN : N ≤ 2048) (hi : i + 4 ≤ N) {h : MH} (H : LI h) (kn : ∀ h1 : MH, LI h1 → Lw p l e s m below meth c b0 D kA 1024 (vLaw s.heap.size b0 i) [] h1) : Lw p l e s m below meth c b0 D kA 803 (vLaw s.heap.size b0 i) [] h := by
  obtain ⟨tn, tf, xn, xf, en, tc, tr, V, Bf, Lf, q, lm, lo, ty, tx, w, B, HX, H9, hq, hT, hD⟩ := H
  have F0 := HX.1.1
  refine lw_aload C 804 2 dL_law_803 rfl rfl ?_
  refine lw_arg C 1 809 dL_law_804 dL_law_805 dL_law_806 dL_law_807 dL_law_808 rfl (by omega) hN rfl ?_
  refine lw_arg C 2 814 dL_law_809 dL_law_810 dL_law_811 dL_law_812 dL_law_813 rfl (by omega) hN rfl ?_
  refine lw_callV (z := mX8_same) (As := [.int (iZ (xs (i + 1)).toInt), .int (iZ (xs (i + 2)).toInt)]) C hK hKS 817 dL_law_814 mwX8_same ⟨by decide, by decide⟩ rfl wlL_104 wiX8_same wsX8_same F0 rfl rfl rfl (nle rfl) (nle rfl) rfl ?_
  refine Go.to _ [] rfl rfl (b8_same HX (rg_toInt _) (rg_toInt _) (fun r1 c1 => ?_))
  refine ⟨HX.bd.1, HX.bd.2, ?_⟩
  refine lw_pop C 818 dL_law_817 rfl rfl ?_
  refine lw_aload C 819 1 dL_law_818 rfl rfl ?_
  refine lw_arg C 1 824 dL_law_819 dL_law_820 dL_law_821 dL_law_822 dL_law_823 rfl (by omega) hN rfl ?_
  refine lw_arg C 2 829 dL_law_824 dL_law_825 dL_law_826 dL_law_827 dL_law_828 rfl (by omega) hN rfl ?_
  refine lw_callV (z := mX9_same) (As := [.int (iZ (xs (i + 1)).toInt), .int (iZ (xs (i + 2)).toInt)]) C hK hKS 832 dL_law_829 mwX9_same ⟨by decide, by decide⟩ rfl wlL_107 wiX9_same wsX9_same H9.1 rfl rfl rfl (nle rfl) (nle rfl) rfl ?_
  refine Go.to _ [] rfl rfl (b_same H9 (rg_toInt _) (rg_toInt _) (fun r2 d1 => ?_))
  refine ⟨HX.bd.1, HX.bd.2, ?_⟩
  have hz := sm_join hT c1 d1
  refine lw_pop C 833 dL_law_832 rfl rfl ?_
  exact lw_goto C 1024 dL_law_833 rfl (kn _ ⟨tn, tf, xn, xf, en, tc, tr, V, Bf, Lf, q, lm, lo, ty, tx, w, B, HX, H9, hq, hT, hD⟩)
set_option maxRecDepth 100000 in
theorem lc_22 {p : Program} {l : Launch} {e : Env} {s : State} {m : MethodId} {below : List Frame} {meth : Method} {c : Code} {b0 N i : Nat} {xs : Nat → Int32} {D : va_G} {kA : Nat → ClassId} (C : lw_At p s m meth c b0 N xs) (hK : Kx D kA s) (hKS : KS s.heap.size s) (hN : N ≤ 2048) (hi : i + 4 ≤ N) {h : MH} (H : LI h) (kn : ∀ h1 : MH, LI h1 → Lw p l e s m below meth c b0 D kA 1024 (vLaw s.heap.size b0 i) [] h1) : Lw p l e s m below meth c b0 D kA 836 (vLaw s.heap.size b0 i) [] h := by
  obtain ⟨tn, tf, xn, xf, en, tc, tr, V, Bf, Lf, q, lm, lo, ty, tx, w, B, HX, H9, hq, hT, hD⟩ := H
  have F0 := HX.1.1
  refine lw_aload C 837 2 dL_law_836 rfl rfl ?_
  refine lw_arg C 1 842 dL_law_837 dL_law_838 dL_law_839 dL_law_840 dL_law_841 rfl (by omega) hN rfl ?_
  refine lw_arg C 2 847 dL_law_842 dL_law_843 dL_law_844 dL_law_845 dL_law_846 rfl (by omega) hN rfl ?_
  refine lw_callV (z := mX8_edition) (As := [.int (iZ (xs (i + 1)).toInt), .int (iZ (xs (i + 2)).toInt)]) C hK hKS 850 dL_law_847 mwX8_edition ⟨by decide, by decide⟩ rfl wlL_108 wiX8_edition wsX8_edition F0 rfl rfl rfl (nle rfl) (nle rfl) rfl ?_
  refine Go.to _ [] rfl rfl (b8_edition HX (rg_toInt _) (rg_toInt _) (fun h1 r1 en1 c1 c2 c3 HX1 M1 => ?_))
  have H91 := H9.mo M1
  refine ⟨HX1.bd.1, HX1.bd.2, ?_⟩
  refine lw_pop C 851 dL_law_850 rfl rfl ?_
  refine lw_aload C 852 1 dL_law_851 rfl rfl ?_
  refine lw_arg C 1 857 dL_law_852 dL_law_853 dL_law_854 dL_law_855 dL_law_856 rfl (by omega) hN rfl ?_
  refine lw_arg C 2 862 dL_law_857 dL_law_858 dL_law_859 dL_law_860 dL_law_861 rfl (by omega) hN rfl ?_
  refine lw_callV (z := mX9_edition) (As := [.int (iZ (xs (i + 1)).toInt), .int (iZ (xs (i + 2)).toInt)]) C hK hKS 865 dL_law_862 mwX9_edition ⟨by decide, by decide⟩ rfl wlL_111 wiX9_edition wsX9_edition H91.1 rfl rfl rfl (nle rfl) (nle rfl) rfl ?_
  refine Go.to _ [] rfl rfl (b_edition H91 (rg_toInt _) (rg_toInt _) (fun h2 w2 B2 r2 d1 d2 d3 R2 s2 => ?_))
  have HX2 := HX1.r9 s2 (fun q => SM_in)
  refine ⟨HX2.bd.1, HX2.bd.2, ?_⟩
  have hz := rel_edition hq (by obtain ⟨_, _, _, _, _, _, _, q, _⟩ := HX.2.2.2.2.1; exact q) c1 c2 c3 d1 d2 d3
  have hy := rt_edition hT hD H9.w35 d1 d2 d3
  refine lw_pop C 866 dL_law_865 rfl rfl ?_
  exact lw_goto C 1024 dL_law_866 rfl (kn _ ⟨tn, tf, xn, xf, en1, tc, tr, V, Bf, Lf, q, lm, lo, ty, tx, w2, B2, HX2, R2, hz.2, hy.1, hy.2⟩)
set_option maxRecDepth 100000 in
theorem lc_23 {p : Program} {l : Launch} {e : Env} {s : State} {m : MethodId} {below : List Frame} {meth : Method} {c : Code} {b0 N i : Nat} {xs : Nat → Int32} {D : va_G} {kA : Nat → ClassId} (C : lw_At p s m meth c b0 N xs) (hK : Kx D kA s) (hKS : KS s.heap.size s) (hN : N ≤ 2048) (hi : i + 4 ≤ N) {h : MH} (H : LI h) (kn : ∀ h1 : MH, LI h1 → Lw p l e s m below meth c b0 D kA 1024 (vLaw s.heap.size b0 i) [] h1) : Lw p l e s m below meth c b0 D kA 869 (vLaw s.heap.size b0 i) [] h := by
  obtain ⟨tn, tf, xn, xf, en, tc, tr, V, Bf, Lf, q, lm, lo, ty, tx, w, B, HX, H9, hq, hT, hD⟩ := H
  have F0 := HX.1.1
  refine lw_aload C 870 2 dL_law_869 rfl rfl ?_
  refine lw_arg C 1 875 dL_law_870 dL_law_871 dL_law_872 dL_law_873 dL_law_874 rfl (by omega) hN rfl ?_
  refine lw_arg C 2 880 dL_law_875 dL_law_876 dL_law_877 dL_law_878 dL_law_879 rfl (by omega) hN rfl ?_
  refine lw_arg C 3 885 dL_law_880 dL_law_881 dL_law_882 dL_law_883 dL_law_884 rfl (by omega) hN rfl ?_
  refine lw_callV (z := mX8_ladder) (As := [.int (iZ (xs (i + 1)).toInt), .int (iZ (xs (i + 2)).toInt), .int (iZ (xs (i + 3)).toInt)]) C hK hKS 888 dL_law_885 mwX8_ladder ⟨by decide, by decide⟩ rfl wlL_112 wiX8_ladder wsX8_ladder F0 rfl rfl rfl (nle rfl) (nle rfl) rfl ?_
  refine Go.to _ [] rfl rfl (b8_ladder HX (rg_toInt _) (rg_toInt _) (rg_toInt _) (fun h1 r1 rr1 HX1 M1 => ?_))
  have H91 := H9.mo M1
  refine ⟨HX1.bd.1, HX1.bd.2, ?_⟩
  refine lw_pop C 889 dL_law_888 rfl rfl ?_
  refine lw_aload C 890 1 dL_law_889 rfl rfl ?_
  refine lw_arg C 1 895 dL_law_890 dL_law_891 dL_law_892 dL_law_893 dL_law_894 rfl (by omega) hN rfl ?_
  refine lw_arg C 2 900 dL_law_895 dL_law_896 dL_law_897 dL_law_898 dL_law_899 rfl (by omega) hN rfl ?_
  refine lw_arg C 3 905 dL_law_900 dL_law_901 dL_law_902 dL_law_903 dL_law_904 rfl (by omega) hN rfl ?_
  refine lw_callV (z := mX9_ladder) (As := [.int (iZ (xs (i + 1)).toInt), .int (iZ (xs (i + 2)).toInt), .int (iZ (xs (i + 3)).toInt)]) C hK hKS 908 dL_law_905 mwX9_ladder ⟨by decide, by decide⟩ rfl wlL_115 wiX9_ladder wsX9_ladder H91.1 rfl rfl rfl (nle rfl) (nle rfl) rfl ?_
  refine Go.to _ [] rfl rfl (b_ladder H91 (rg_toInt _) (rg_toInt _) (rg_toInt _) (fun h2 B2 r2 d1 d2 R2 A2 s2 => ?_))
  have HX2 := HX1.r9 s2 (fun q => SM_in)
  refine ⟨HX2.bd.1, HX2.bd.2, ?_⟩
  refine lw_pop C 909 dL_law_908 rfl rfl ?_
  exact lw_goto C 1024 dL_law_909 rfl (kn _ ⟨tn, tf, xn, xf, en, tc, tr, V, Bf, Lf, q, lm, lo, ty, tx, w, B2, HX2, R2, (hq.aC A2.A), (hT.ag A2 HX.t12 H9.o56), (hD.ag A2.A)⟩)
set_option maxRecDepth 100000 in
theorem lc_24 {p : Program} {l : Launch} {e : Env} {s : State} {m : MethodId} {below : List Frame} {meth : Method} {c : Code} {b0 N i : Nat} {xs : Nat → Int32} {D : va_G} {kA : Nat → ClassId} (C : lw_At p s m meth c b0 N xs) (hK : Kx D kA s) (hKS : KS s.heap.size s) (hN : N ≤ 2048) (hi : i + 4 ≤ N) {h : MH} (H : LI h) (kn : ∀ h1 : MH, LI h1 → Lw p l e s m below meth c b0 D kA 1024 (vLaw s.heap.size b0 i) [] h1) : Lw p l e s m below meth c b0 D kA 912 (vLaw s.heap.size b0 i) [] h := by
  obtain ⟨tn, tf, xn, xf, en, tc, tr, V, Bf, Lf, q, lm, lo, ty, tx, w, B, HX, H9, hq, hT, hD⟩ := H
  have F0 := HX.1.1
  refine lw_aload C 913 2 dL_law_912 rfl rfl ?_
  refine lw_arg C 1 918 dL_law_913 dL_law_914 dL_law_915 dL_law_916 dL_law_917 rfl (by omega) hN rfl ?_
  refine lw_arg C 2 923 dL_law_918 dL_law_919 dL_law_920 dL_law_921 dL_law_922 rfl (by omega) hN rfl ?_
  refine lw_arg C 3 928 dL_law_923 dL_law_924 dL_law_925 dL_law_926 dL_law_927 rfl (by omega) hN rfl ?_
  refine lw_callV (z := mX8_needed) (As := [.int (iZ (xs (i + 1)).toInt), .int (iZ (xs (i + 2)).toInt), .int (iZ (xs (i + 3)).toInt)]) C hK hKS 931 dL_law_928 mwX8_needed ⟨by decide, by decide⟩ rfl wlL_116 wiX8_needed wsX8_needed F0 rfl rfl rfl (nle rfl) (nle rfl) rfl ?_
  refine Go.to _ [] rfl rfl (b8_needed HX (rg_toInt _) (rg_toInt _) (rg_toInt _) (fun h1 r1 rr1 HX1 M1 => ?_))
  have H91 := H9.mo M1
  refine ⟨HX1.bd.1, HX1.bd.2, ?_⟩
  refine lw_pop C 932 dL_law_931 rfl rfl ?_
  refine lw_aload C 933 1 dL_law_932 rfl rfl ?_
  refine lw_arg C 1 938 dL_law_933 dL_law_934 dL_law_935 dL_law_936 dL_law_937 rfl (by omega) hN rfl ?_
  refine lw_arg C 2 943 dL_law_938 dL_law_939 dL_law_940 dL_law_941 dL_law_942 rfl (by omega) hN rfl ?_
  refine lw_arg C 3 948 dL_law_943 dL_law_944 dL_law_945 dL_law_946 dL_law_947 rfl (by omega) hN rfl ?_
  refine lw_callV (z := mX9_needed) (As := [.int (iZ (xs (i + 1)).toInt), .int (iZ (xs (i + 2)).toInt), .int (iZ (xs (i + 3)).toInt)]) C hK hKS 951 dL_law_948 mwX9_needed ⟨by decide, by decide⟩ rfl wlL_119 wiX9_needed wsX9_needed H91.1 rfl rfl rfl (nle rfl) (nle rfl) rfl ?_
  refine Go.to _ [] rfl rfl (b_needed H91 (rg_toInt _) (rg_toInt _) (rg_toInt _) (fun h2 B2 r2 d1 d2 R2 A2 s2 => ?_))
  have HX2 := HX1.r9 s2 (fun q => SM_in)
  refine ⟨HX2.bd.1, HX2.bd.2, ?_⟩
  refine lw_pop C 952 dL_law_951 rfl rfl ?_
  exact lw_goto C 1024 dL_law_952 rfl (kn _ ⟨tn, tf, xn, xf, en, tc, tr, V, Bf, Lf, q, lm, lo, ty, tx, w, B2, HX2, R2, (hq.aC A2.A), (hT.ag A2 HX.t12 H9.o56), (hD.ag A2.A)⟩)
set_option maxRecDepth 100000 in
theorem lc_25 {p : Program} {l : Launch} {e : Env} {s : State} {m : MethodId} {below : List Frame} {meth : Method} {c : Code} {b0 N i : Nat} {xs : Nat → Int32} {D : va_G} {kA : Nat → ClassId} (C : lw_At p s m meth c b0 N xs) (hK : Kx D kA s) (hKS : KS s.heap.size s) (hN : N ≤ 2048) (hi : i + 4 ≤ N) {h : MH} (H : LI h) (kn : ∀ h1 : MH, LI h1 → Lw p l e s m below meth c b0 D kA 1024 (vLaw s.heap.size b0 i) [] h1) : Lw p l e s m below meth c b0 D kA 955 (vLaw s.heap.size b0 i) [] h := by
  obtain ⟨tn, tf, xn, xf, en, tc, tr, V, Bf, Lf, q, lm, lo, ty, tx, w, B, HX, H9, hq, hT, hD⟩ := H
  have F0 := HX.1.1
  refine lw_aload C 956 2 dL_law_955 rfl rfl ?_
  refine lw_arg C 1 961 dL_law_956 dL_law_957 dL_law_958 dL_law_959 dL_law_960 rfl (by omega) hN rfl ?_
  refine lw_arg C 2 966 dL_law_961 dL_law_962 dL_law_963 dL_law_964 dL_law_965 rfl (by omega) hN rfl ?_
  refine lw_callV (z := mX8_weight) (As := [.int (iZ (xs (i + 1)).toInt), .int (iZ (xs (i + 2)).toInt)]) C hK hKS 969 dL_law_966 mwX8_weight ⟨by decide, by decide⟩ rfl wlL_120 wiX8_weight wsX8_weight F0 rfl rfl rfl (nle rfl) (nle rfl) rfl ?_
  refine Go.to _ [] rfl rfl (b8_weight HX (rg_toInt _) (rg_toInt _) (fun h1 tr1 r1 c1 c2 HX1 M1 => ?_))
  have H91 := H9.mo M1
  refine ⟨HX1.bd.1, HX1.bd.2, ?_⟩
  refine lw_aload C 970 1 dL_law_969 rfl rfl ?_
  refine lw_arg C 1 975 dL_law_970 dL_law_971 dL_law_972 dL_law_973 dL_law_974 rfl (by omega) hN rfl ?_
  refine lw_arg C 2 980 dL_law_975 dL_law_976 dL_law_977 dL_law_978 dL_law_979 rfl (by omega) hN rfl ?_
  refine lw_callV (z := mX9_weight) (As := [.int (iZ (xs (i + 1)).toInt), .int (iZ (xs (i + 2)).toInt)]) C hK hKS 983 dL_law_980 mwX9_weight ⟨by decide, by decide⟩ rfl wlL_123 wiX9_weight wsX9_weight H91.1 rfl rfl rfl (nle rfl) (nle rfl) rfl ?_
  refine Go.to _ [] rfl rfl (b_weight H91 (rg_toInt _) (rg_toInt _) (fun h2 tr2 w2 B2 r2 d1 R2 A2 s2 => ?_))
  have HX2 := HX1.r9 s2 (fun q => SM_in)
  refine ⟨HX2.bd.1, HX2.bd.2, ?_⟩
  have hz := wg_join hT HX.v3 HX.v0 c1 d1.1
  have hw := wt_join hT.1 c2 d1.2.1
  have R3 : R9B h2 tr1 ty tx w2 B2 := by
    rw [← hw]
    exact R2
  have T2 := d1.2.2.2
  rw [hT.n] at T2
  exact lw_same C 1024 dL_law_983 rfl (by rw [hz]) (kn _ ⟨tn, tf, xn, xf, en, tc, tr1, V, Bf, Lf, q, lm, lo, ty, tx, w2, B2, HX2, R3, (hq.aC A2), ⟨d1.2.2.1.trans hT.1, hT.2.tr T2⟩, (hD.ag A2)⟩)
set_option maxRecDepth 100000 in
theorem lc_26 {p : Program} {l : Launch} {e : Env} {s : State} {m : MethodId} {below : List Frame} {meth : Method} {c : Code} {b0 N i : Nat} {xs : Nat → Int32} {D : va_G} {kA : Nat → ClassId} (C : lw_At p s m meth c b0 N xs) (hK : Kx D kA s) (hKS : KS s.heap.size s) (hN : N ≤ 2048) (hi : i + 4 ≤ N) {h : MH} (H : LI h) (kn : ∀ h1 : MH, LI h1 → Lw p l e s m below meth c b0 D kA 1024 (vLaw s.heap.size b0 i) [] h1) : Lw p l e s m below meth c b0 D kA 988 (vLaw s.heap.size b0 i) [] h := by
  obtain ⟨tn, tf, xn, xf, en, tc, tr, V, Bf, Lf, q, lm, lo, ty, tx, w, B, HX, H9, hq, hT, hD⟩ := H
  have F0 := HX.1.1
  refine lw_aload C 989 2 dL_law_988 rfl rfl ?_
  refine lw_arg C 1 994 dL_law_989 dL_law_990 dL_law_991 dL_law_992 dL_law_993 rfl (by omega) hN rfl ?_
  refine lw_callV (z := mX8_count) (As := [.int (iZ (xs (i + 1)).toInt)]) C hK hKS 997 dL_law_994 mwX8_count ⟨by decide, by decide⟩ rfl wlL_124 wiX8_count wsX8_count F0 rfl rfl rfl (nle rfl) (nle rfl) rfl ?_
  refine Go.to _ [] rfl rfl (b8_count HX (rg_toInt _) (fun h1 r1 c1 HX1 M1 => ?_))
  have H91 := H9.mo M1
  refine ⟨HX1.bd.1, HX1.bd.2, ?_⟩
  refine lw_pop C 998 dL_law_997 rfl rfl ?_
  refine lw_aload C 999 1 dL_law_998 rfl rfl ?_
  refine lw_arg C 1 1004 dL_law_999 dL_law_1000 dL_law_1001 dL_law_1002 dL_law_1003 rfl (by omega) hN rfl ?_
  refine lw_callV (z := mX9_count) (As := [.int (iZ (xs (i + 1)).toInt)]) C hK hKS 1007 dL_law_1004 mwX9_count ⟨by decide, by decide⟩ rfl wlL_127 wiX9_count wsX9_count H91.1 rfl rfl rfl (nle rfl) (nle rfl) rfl ?_
  refine Go.to _ [] rfl rfl (b_count H91 (rg_toInt _) (fun h2 w2 B2 r2 d1 R2 A2 s2 => ?_))
  have HX2 := HX1.r9 s2 (fun q => SM_in8)
  refine ⟨HX2.bd.1, HX2.bd.2, ?_⟩
  refine lw_pop C 1008 dL_law_1007 rfl rfl ?_
  exact lw_goto C 1024 dL_law_1008 rfl (kn _ ⟨tn, tf, xn, xf, en, tc, tr, V, Bf, Lf, q, lm, lo, ty, tx, w2, B2, HX2, R2, (hq.aC A2.A), (hT.ag A2 HX.t12 H9.o56), (hD.ag A2.A)⟩)
set_option maxRecDepth 100000 in
theorem lc_27 {p : Program} {l : Launch} {e : Env} {s : State} {m : MethodId} {below : List Frame} {meth : Method} {c : Code} {b0 N i : Nat} {xs : Nat → Int32} {D : va_G} {kA : Nat → ClassId} (C : lw_At p s m meth c b0 N xs) (hK : Kx D kA s) (hKS : KS s.heap.size s) (hN : N ≤ 2048) (hi : i + 4 ≤ N) {h : MH} (H : LI h) (kn : ∀ h1 : MH, LI h1 → Lw p l e s m below meth c b0 D kA 1024 (vLaw s.heap.size b0 i) [] h1) : Lw p l e s m below meth c b0 D kA 1011 (vLaw s.heap.size b0 i) [] h := by
  obtain ⟨tn, tf, xn, xf, en, tc, tr, V, Bf, Lf, q, lm, lo, ty, tx, w, B, HX, H9, hq, hT, hD⟩ := H
  have F0 := HX.1.1
  refine lw_aload C 1012 2 dL_law_1011 rfl rfl ?_
  refine lw_callV (z := mX8_trace) (As := []) C hK hKS 1015 dL_law_1012 mwX8_trace ⟨by decide, by decide⟩ rfl wlL_128 wiX8_trace wsX8_trace F0 rfl rfl rfl (nle rfl) (nle rfl) rfl ?_
  refine Go.to _ [] rfl rfl (b8_trace HX ?_)
  refine ⟨HX.bd.1, HX.bd.2, ?_⟩
  refine lw_pop2 C 1016 dL_law_1015 rfl rfl ?_
  refine lw_aload C 1017 1 dL_law_1016 rfl rfl ?_
  refine lw_callV (z := mX9_trace) (As := []) C hK hKS 1020 dL_law_1017 mwX9_trace ⟨by decide, by decide⟩ rfl wlL_132 wiX9_trace wsX9_trace H9.1 rfl rfl rfl (nle rfl) (nle rfl) rfl ?_
  refine Go.to _ [] rfl rfl (b_trace H9 ?_)
  refine ⟨HX.bd.1, HX.bd.2, ?_⟩
  refine lw_pop2 C 1021 dL_law_1020 rfl rfl ?_
  exact lw_goto C 1024 dL_law_1021 rfl (kn _ ⟨tn, tf, xn, xf, en, tc, tr, V, Bf, Lf, q, lm, lo, ty, tx, w, B, HX, H9, hq, hT, hD⟩)

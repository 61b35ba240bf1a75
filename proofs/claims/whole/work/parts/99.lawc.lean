set_option maxHeartbeats 8000000 in
theorem law_kind {l : Launch} {D : va_G} {τ : Nat → ClassId} {a : Nat → Nat} {x : Ctx} {b N i c0 s0 : Nat} {xs : Nat → Int32} {V W : Mem} {o : Int} (ha : Apart (LL τ) a) (hx : scr x b N xs) (z0 : zer x) (rd : rdy x) (hi : i + 8 ≤ N) (hN : N ≤ 4098) (hR : c0 + 1 ≤ 601024 ∧ s0 + 6 ≤ 7293000) {P R : Int → Mem → Prop} (hH : CH l D (tysL τ) (LL τ) a yL_kind iL_kind hhL_kind [.ref (a 0), .int (iN (xs (i + 1)).toInt), .int (iN (xs (i + 2)).toInt), .ref (a 143)] (mem3 V W o) P) (hM : CI l D (tysL τ) (LM τ) (fun i => a (121 + i)) yX7_kind mX7_kind [.ref (a 121), .int (iN (xs (i + 1)).toInt), .int (iN (xs (i + 2)).toInt)] W R) (hj : ∀ r U, P r U → ∃ V1 o1, U = mem3 V1 W o1 ∧ (0 ≤ r ∧ r ≤ 2) ∧ ∀ z1 W1, R z1 W1 → inv V1 W1 ∧ W1 0 0 = r ∧ (r = 0 → o1 = (cz z1))) (kk : ∀ V' W' o', inv V' W' → G l D (tysL τ) (LL τ) a iLaw (bmp x (c0 + 1) (s0 + 6)) 1422 (LV a b i) [] (mem3 V' W' o')) : G l D (tysL τ) (LL τ) a iLaw (bmp x c0 s0) 144 (LV a b i) [] (mem3 V W o) := by
  refine g_aload_n 1 dL_law_144 rfl rfl ?_
  refine g_aload_n 0 dL_law_145 rfl rfl ?_
  refine g_iload 4 dL_law_146 rfl ?_
  refine g_iconst dL_law_148 ?_
  refine g_iadd dL_law_149 ?_
  refine g_sld (i := i + 1) hx.bmp (by omega) (by omega) (by omega) dL_law_150 ?_
  refine g_aload_n 0 dL_law_151 rfl rfl ?_
  refine g_iload 4 dL_law_152 rfl ?_
  refine g_iconst dL_law_154 ?_
  refine g_iadd dL_law_155 ?_
  refine g_sld (i := i + 2) hx.bmp (by omega) (by omega) (by omega) dL_law_156 ?_
  refine g_aload_n 3 dL_law_157 rfl rfl ?_
  refine g_callSH [.ref (a 0), .int (iN (xs (i + 1)).toInt), .int (iN (xs (i + 2)).toInt), .ref (a 143)] z0 rd hH wL_kind ⟨by decide, by decide, rfl, rfl⟩ hR rfl (Nat.le_of_ble_eq_true rfl) dL_law_158 rfl (fun r U hU => ?_)
  obtain ⟨V1, o1, rfl, hr, hj1⟩ := hj r U hU
  refine g_istore ((5, .int (iN r)) :: LV a b i) dL_law_161 (by decide) rfl ?_
  refine g_aload_n 3 dL_law_163 rfl rfl ?_
  refine g_aload_n 1 dL_law_164 rfl rfl ?_
  refine g_iload 5 dL_law_165 rfl ?_
  refine g_iconst dL_law_167 ?_
  refine g_iadd dL_law_168 ?_
  refine g_sld (i := i + 1) hx.bmp (by omega) (by omega) (by omega) dL_law_169 ?_
  refine g_aload_n 1 dL_law_170 rfl rfl ?_
  refine g_iload 5 dL_law_171 rfl ?_
  refine g_iconst dL_law_173 ?_
  refine g_iadd dL_law_174 ?_
  refine g_sld (i := i + 2) hx.bmp (by omega) (by omega) (by omega) dL_law_175 ?_
  refine g_embI (k := 0) [.int (iN (xs (i + 1)).toInt), .int (iN (xs (i + 2)).toInt)] emb_M hM u79 om_0 rfl rfl ⟨rfl, rfl, by decide, by decide⟩ rfl (Nat.le_of_ble_eq_true rfl) dL_law_176 rfl (fun z1 W1 hz => ?_)
  rw [put_M]
  obtain ⟨hi1, ht1, ho1⟩ := hj1 z1 W1 hz
  refine g_istore ((6, .int (iN z1)) :: (5, .int (iN r)) :: LV a b i) dL_law_179 (by decide) rfl ?_
  refine g_aload_n 4 dL_law_181 rfl rfl ?_
  refine g_embI (k := 0) [] emb_M (met_X7_thrown (ap_M ha)) u80 om_0 rfl rfl ⟨rfl, rfl, by decide, by decide⟩ rfl (Nat.le_of_ble_eq_true rfl) dL_law_182 rfl (fun z2 W2 hz2 => ?_)
  rw [put_M, hz2.2, hz2.1, ht1]
  refine g_iload 1 dL_law_185 rfl ?_
  refine g_icmp_eq 192 dL_law_187 (by decide) (fun _ => ?_) (fun c => absurd rfl c) (by omega) (by omega)
  refine g_iload 1 dL_law_192 rfl ?_
  refine g_if_ne 209 dL_law_194 (by decide) (fun _ => ?_) (fun c => ?_) (by omega)
  · refine g_goto 1422 dL_law_209 (by decide) ?_
    refine g_lv [2, 3, 4, 5, 6] rfl ?_
    exact kk V1 W1 _ hi1
  · refine g_aload_n 5 dL_law_197 rfl rfl ?_
    refine g_iconst dL_law_198 ?_
    refine g_lald 143 0 al_143 dL_law_199 rfl (by decide) ?_
    refine g_topl (v := o1) rfl ?_
    rw [ho1 c]
    refine g_iload 0 dL_law_200 rfl ?_
    refine g_canon ?_
    refine g_i2l dL_law_202 (cz_in z1) ?_
    refine g_lcmp 0 dL_law_203 (lcmp_same (by have := cz_in z1; omega)) ?_
    refine g_if_eq 209 dL_law_204 (by decide) (fun _ => ?_) (fun c => absurd rfl c) (by omega)
    refine g_goto 1422 dL_law_209 (by decide) ?_
    refine g_lv [2, 3, 4, 5, 6] rfl ?_
    exact kk V1 W1 _ hi1
set_option maxHeartbeats 8000000 in
theorem law_part {l : Launch} {D : va_G} {τ : Nat → ClassId} {a : Nat → Nat} {x : Ctx} {b N i c0 s0 : Nat} {xs : Nat → Int32} {V W : Mem} {o : Int} (ha : Apart (LL τ) a) (hx : scr x b N xs) (z0 : zer x) (rd : rdy x) (hi : i + 8 ≤ N) (hN : N ≤ 4098) (hR : c0 + 1 ≤ 601024 ∧ s0 + 6 ≤ 7293000) {P R : Int → Mem → Prop} (hH : CH l D (tysL τ) (LL τ) a yL_part iL_part hhL_part [.ref (a 0), .int (iN (xs (i + 1)).toInt), .long (jN (lng (xs (i + 2)).toInt (xs (i + 3)).toInt)), .long (jN (lng (xs (i + 4)).toInt (xs (i + 5)).toInt)), .long (jN (lng (xs (i + 6)).toInt (xs (i + 7)).toInt)), .ref (a 143)] (mem3 V W o) P) (hM : CI l D (tysL τ) (LM τ) (fun i => a (121 + i)) yX7_part mX7_part [.ref (a 121), .int (iN (xs (i + 1)).toInt), .long (jN (lng (xs (i + 2)).toInt (xs (i + 3)).toInt)), .long (jN (lng (xs (i + 4)).toInt (xs (i + 5)).toInt)), .long (jN (lng (xs (i + 6)).toInt (xs (i + 7)).toInt))] W R) (hj : ∀ r U, P r U → ∃ V1 o1, U = mem3 V1 W o1 ∧ (0 ≤ r ∧ r ≤ 2) ∧ ∀ z1 W1, R z1 W1 → inv V1 W1 ∧ W1 0 0 = r ∧ (r = 0 → o1 = (cz z1))) (kk : ∀ V' W' o', inv V' W' → G l D (tysL τ) (LL τ) a iLaw (bmp x (c0 + 1) (s0 + 6)) 1422 (LV a b i) [] (mem3 V' W' o')) : G l D (tysL τ) (LL τ) a iLaw (bmp x c0 s0) 212 (LV a b i) [] (mem3 V W o) := by
  refine g_aload_n 1 dL_law_212 rfl rfl ?_
  refine g_aload_n 0 dL_law_213 rfl rfl ?_
  refine g_iload 4 dL_law_214 rfl ?_
  refine g_iconst dL_law_216 ?_
  refine g_iadd dL_law_217 ?_
  refine g_sld (i := i + 1) hx.bmp (by omega) (by omega) (by omega) dL_law_218 ?_
  refine g_aload_n 0 dL_law_219 rfl rfl ?_
  refine g_iload 4 dL_law_220 rfl ?_
  refine g_iconst dL_law_222 ?_
  refine g_iadd dL_law_223 ?_
  refine g_sld (i := i + 2) hx.bmp (by omega) (by omega) (by omega) dL_law_224 ?_
  refine g_i2l dL_law_225 (s_in _) ?_
  refine g_bipush dL_law_226 rfl ?_
  refine g_lshl (shl32 (xs (i + 2)).toInt) dL_law_228 (Int64.ofInt_toInt _).symm ?_
  refine g_aload_n 0 dL_law_229 rfl rfl ?_
  refine g_iload 4 dL_law_230 rfl ?_
  refine g_iconst dL_law_232 ?_
  refine g_iadd dL_law_233 ?_
  refine g_sld (i := i + 3) hx.bmp (by omega) (by omega) (by omega) dL_law_234 ?_
  refine g_i2l dL_law_235 (s_in _) ?_
  refine g_ldc2 4294967295 k84 rfl dL_law_236 ?_
  refine g_land (low32 (xs (i + 3)).toInt) dL_law_239 (Int64.ofInt_toInt _).symm ?_
  refine g_lor (lng (xs (i + 2)).toInt (xs (i + 3)).toInt) dL_law_240 (Int64.ofInt_toInt _).symm ?_
  refine g_aload_n 0 dL_law_241 rfl rfl ?_
  refine g_iload 4 dL_law_242 rfl ?_
  refine g_iconst dL_law_244 ?_
  refine g_iadd dL_law_245 ?_
  refine g_sld (i := i + 4) hx.bmp (by omega) (by omega) (by omega) dL_law_246 ?_
  refine g_i2l dL_law_247 (s_in _) ?_
  refine g_bipush dL_law_248 rfl ?_
  refine g_lshl (shl32 (xs (i + 4)).toInt) dL_law_250 (Int64.ofInt_toInt _).symm ?_
  refine g_aload_n 0 dL_law_251 rfl rfl ?_
  refine g_iload 4 dL_law_252 rfl ?_
  refine g_iconst dL_law_254 ?_
  refine g_iadd dL_law_255 ?_
  refine g_sld (i := i + 5) hx.bmp (by omega) (by omega) (by omega) dL_law_256 ?_
  refine g_i2l dL_law_257 (s_in _) ?_
  refine g_ldc2 4294967295 k84 rfl dL_law_258 ?_
  refine g_land (low32 (xs (i + 5)).toInt) dL_law_261 (Int64.ofInt_toInt _).symm ?_
  refine g_lor (lng (xs (i + 4)).toInt (xs (i + 5)).toInt) dL_law_262 (Int64.ofInt_toInt _).symm ?_
  refine g_aload_n 0 dL_law_263 rfl rfl ?_
  refine g_iload 4 dL_law_264 rfl ?_
  refine g_bipush dL_law_266 rfl ?_
  refine g_iadd dL_law_268 ?_
  refine g_sld (i := i + 6) hx.bmp (by omega) (by omega) (by omega) dL_law_269 ?_
  refine g_i2l dL_law_270 (s_in _) ?_
  refine g_bipush dL_law_271 rfl ?_
  refine g_lshl (shl32 (xs (i + 6)).toInt) dL_law_273 (Int64.ofInt_toInt _).symm ?_
  refine g_aload_n 0 dL_law_274 rfl rfl ?_
  refine g_iload 4 dL_law_275 rfl ?_
  refine g_bipush dL_law_277 rfl ?_
  refine g_iadd dL_law_279 ?_
  refine g_sld (i := i + 7) hx.bmp (by omega) (by omega) (by omega) dL_law_280 ?_
  refine g_i2l dL_law_281 (s_in _) ?_
  refine g_ldc2 4294967295 k84 rfl dL_law_282 ?_
  refine g_land (low32 (xs (i + 7)).toInt) dL_law_285 (Int64.ofInt_toInt _).symm ?_
  refine g_lor (lng (xs (i + 6)).toInt (xs (i + 7)).toInt) dL_law_286 (Int64.ofInt_toInt _).symm ?_
  refine g_aload_n 3 dL_law_287 rfl rfl ?_
  refine g_callSH [.ref (a 0), .int (iN (xs (i + 1)).toInt), .long (jN (lng (xs (i + 2)).toInt (xs (i + 3)).toInt)), .long (jN (lng (xs (i + 4)).toInt (xs (i + 5)).toInt)), .long (jN (lng (xs (i + 6)).toInt (xs (i + 7)).toInt)), .ref (a 143)] z0 rd hH wL_part ⟨by decide, by decide, rfl, rfl⟩ hR rfl (Nat.le_of_ble_eq_true rfl) dL_law_288 rfl (fun r U hU => ?_)
  obtain ⟨V1, o1, rfl, hr, hj1⟩ := hj r U hU
  refine g_istore ((5, .int (iN r)) :: LV a b i) dL_law_291 (by decide) rfl ?_
  refine g_aload_n 3 dL_law_293 rfl rfl ?_
  refine g_aload_n 1 dL_law_294 rfl rfl ?_
  refine g_iload 5 dL_law_295 rfl ?_
  refine g_iconst dL_law_297 ?_
  refine g_iadd dL_law_298 ?_
  refine g_sld (i := i + 1) hx.bmp (by omega) (by omega) (by omega) dL_law_299 ?_
  refine g_aload_n 1 dL_law_300 rfl rfl ?_
  refine g_iload 5 dL_law_301 rfl ?_
  refine g_iconst dL_law_303 ?_
  refine g_iadd dL_law_304 ?_
  refine g_sld (i := i + 2) hx.bmp (by omega) (by omega) (by omega) dL_law_305 ?_
  refine g_i2l dL_law_306 (s_in _) ?_
  refine g_bipush dL_law_307 rfl ?_
  refine g_lshl (shl32 (xs (i + 2)).toInt) dL_law_309 (Int64.ofInt_toInt _).symm ?_
  refine g_aload_n 1 dL_law_310 rfl rfl ?_
  refine g_iload 5 dL_law_311 rfl ?_
  refine g_iconst dL_law_313 ?_
  refine g_iadd dL_law_314 ?_
  refine g_sld (i := i + 3) hx.bmp (by omega) (by omega) (by omega) dL_law_315 ?_
  refine g_i2l dL_law_316 (s_in _) ?_
  refine g_ldc2 4294967295 k84 rfl dL_law_317 ?_
  refine g_land (low32 (xs (i + 3)).toInt) dL_law_320 (Int64.ofInt_toInt _).symm ?_
  refine g_lor (lng (xs (i + 2)).toInt (xs (i + 3)).toInt) dL_law_321 (Int64.ofInt_toInt _).symm ?_
  refine g_aload_n 1 dL_law_322 rfl rfl ?_
  refine g_iload 5 dL_law_323 rfl ?_
  refine g_iconst dL_law_325 ?_
  refine g_iadd dL_law_326 ?_
  refine g_sld (i := i + 4) hx.bmp (by omega) (by omega) (by omega) dL_law_327 ?_
  refine g_i2l dL_law_328 (s_in _) ?_
  refine g_bipush dL_law_329 rfl ?_
  refine g_lshl (shl32 (xs (i + 4)).toInt) dL_law_331 (Int64.ofInt_toInt _).symm ?_
  refine g_aload_n 1 dL_law_332 rfl rfl ?_
  refine g_iload 5 dL_law_333 rfl ?_
  refine g_iconst dL_law_335 ?_
  refine g_iadd dL_law_336 ?_
  refine g_sld (i := i + 5) hx.bmp (by omega) (by omega) (by omega) dL_law_337 ?_
  refine g_i2l dL_law_338 (s_in _) ?_
  refine g_ldc2 4294967295 k84 rfl dL_law_339 ?_
  refine g_land (low32 (xs (i + 5)).toInt) dL_law_342 (Int64.ofInt_toInt _).symm ?_
  refine g_lor (lng (xs (i + 4)).toInt (xs (i + 5)).toInt) dL_law_343 (Int64.ofInt_toInt _).symm ?_
  refine g_aload_n 1 dL_law_344 rfl rfl ?_
  refine g_iload 5 dL_law_345 rfl ?_
  refine g_bipush dL_law_347 rfl ?_
  refine g_iadd dL_law_349 ?_
  refine g_sld (i := i + 6) hx.bmp (by omega) (by omega) (by omega) dL_law_350 ?_
  refine g_i2l dL_law_351 (s_in _) ?_
  refine g_bipush dL_law_352 rfl ?_
  refine g_lshl (shl32 (xs (i + 6)).toInt) dL_law_354 (Int64.ofInt_toInt _).symm ?_
  refine g_aload_n 1 dL_law_355 rfl rfl ?_
  refine g_iload 5 dL_law_356 rfl ?_
  refine g_bipush dL_law_358 rfl ?_
  refine g_iadd dL_law_360 ?_
  refine g_sld (i := i + 7) hx.bmp (by omega) (by omega) (by omega) dL_law_361 ?_
  refine g_i2l dL_law_362 (s_in _) ?_
  refine g_ldc2 4294967295 k84 rfl dL_law_363 ?_
  refine g_land (low32 (xs (i + 7)).toInt) dL_law_366 (Int64.ofInt_toInt _).symm ?_
  refine g_lor (lng (xs (i + 6)).toInt (xs (i + 7)).toInt) dL_law_367 (Int64.ofInt_toInt _).symm ?_
  refine g_embI (k := 0) [.int (iN (xs (i + 1)).toInt), .long (jN (lng (xs (i + 2)).toInt (xs (i + 3)).toInt)), .long (jN (lng (xs (i + 4)).toInt (xs (i + 5)).toInt)), .long (jN (lng (xs (i + 6)).toInt (xs (i + 7)).toInt))] emb_M hM u89 om_0 rfl rfl ⟨rfl, rfl, by decide, by decide⟩ rfl (Nat.le_of_ble_eq_true rfl) dL_law_368 rfl (fun z1 W1 hz => ?_)
  rw [put_M]
  obtain ⟨hi1, ht1, ho1⟩ := hj1 z1 W1 hz
  refine g_istore ((6, .int (iN z1)) :: (5, .int (iN r)) :: LV a b i) dL_law_371 (by decide) rfl ?_
  refine g_aload_n 4 dL_law_373 rfl rfl ?_
  refine g_embI (k := 0) [] emb_M (met_X7_thrown (ap_M ha)) u80 om_0 rfl rfl ⟨rfl, rfl, by decide, by decide⟩ rfl (Nat.le_of_ble_eq_true rfl) dL_law_374 rfl (fun z2 W2 hz2 => ?_)
  rw [put_M, hz2.2, hz2.1, ht1]
  refine g_iload 1 dL_law_377 rfl ?_
  refine g_icmp_eq 384 dL_law_379 (by decide) (fun _ => ?_) (fun c => absurd rfl c) (by omega) (by omega)
  refine g_iload 1 dL_law_384 rfl ?_
  refine g_if_ne 401 dL_law_386 (by decide) (fun _ => ?_) (fun c => ?_) (by omega)
  · refine g_goto 1422 dL_law_401 (by decide) ?_
    refine g_lv [2, 3, 4, 5, 6] rfl ?_
    exact kk V1 W1 _ hi1
  · refine g_aload_n 5 dL_law_389 rfl rfl ?_
    refine g_iconst dL_law_390 ?_
    refine g_lald 143 0 al_143 dL_law_391 rfl (by decide) ?_
    refine g_topl (v := o1) rfl ?_
    rw [ho1 c]
    refine g_iload 0 dL_law_392 rfl ?_
    refine g_canon ?_
    refine g_i2l dL_law_394 (cz_in z1) ?_
    refine g_lcmp 0 dL_law_395 (lcmp_same (by have := cz_in z1; omega)) ?_
    refine g_if_eq 401 dL_law_396 (by decide) (fun _ => ?_) (fun c => absurd rfl c) (by omega)
    refine g_goto 1422 dL_law_401 (by decide) ?_
    refine g_lv [2, 3, 4, 5, 6] rfl ?_
    exact kk V1 W1 _ hi1
set_option maxHeartbeats 8000000 in
theorem law_machine {l : Launch} {D : va_G} {τ : Nat → ClassId} {a : Nat → Nat} {x : Ctx} {b N i c0 s0 : Nat} {xs : Nat → Int32} {V W : Mem} {o : Int} (ha : Apart (LL τ) a) (hx : scr x b N xs) (z0 : zer x) (rd : rdy x) (hi : i + 8 ≤ N) (hN : N ≤ 4098) (hR : c0 + 1 ≤ 601024 ∧ s0 + 6 ≤ 7293000) {P R : Int → Mem → Prop} (hH : CH l D (tysL τ) (LL τ) a yL_machine iL_machine hhL_machine [.ref (a 0), .int (iN (xs (i + 1)).toInt), .int (iN (xs (i + 2)).toInt), .ref (a 143)] (mem3 V W o) P) (hM : CI l D (tysL τ) (LM τ) (fun i => a (121 + i)) yX7_machine mX7_machine [.ref (a 121), .int (iN (xs (i + 1)).toInt), .int (iN (xs (i + 2)).toInt)] W R) (hj : ∀ r U, P r U → ∃ V1 o1, U = mem3 V1 W o1 ∧ (0 ≤ r ∧ r ≤ 2) ∧ ∀ z1 W1, R z1 W1 → inv V1 W1 ∧ W1 0 0 = r ∧ (r = 0 → o1 = (cz z1))) (kk : ∀ V' W' o', inv V' W' → G l D (tysL τ) (LL τ) a iLaw (bmp x (c0 + 1) (s0 + 6)) 1422 (LV a b i) [] (mem3 V' W' o')) : G l D (tysL τ) (LL τ) a iLaw (bmp x c0 s0) 404 (LV a b i) [] (mem3 V W o) := by
  refine g_aload_n 1 dL_law_404 rfl rfl ?_
  refine g_aload_n 0 dL_law_405 rfl rfl ?_
  refine g_iload 4 dL_law_406 rfl ?_
  refine g_iconst dL_law_408 ?_
  refine g_iadd dL_law_409 ?_
  refine g_sld (i := i + 1) hx.bmp (by omega) (by omega) (by omega) dL_law_410 ?_
  refine g_aload_n 0 dL_law_411 rfl rfl ?_
  refine g_iload 4 dL_law_412 rfl ?_
  refine g_iconst dL_law_414 ?_
  refine g_iadd dL_law_415 ?_
  refine g_sld (i := i + 2) hx.bmp (by omega) (by omega) (by omega) dL_law_416 ?_
  refine g_aload_n 3 dL_law_417 rfl rfl ?_
  refine g_callSH [.ref (a 0), .int (iN (xs (i + 1)).toInt), .int (iN (xs (i + 2)).toInt), .ref (a 143)] z0 rd hH wL_machine ⟨by decide, by decide, rfl, rfl⟩ hR rfl (Nat.le_of_ble_eq_true rfl) dL_law_418 rfl (fun r U hU => ?_)
  obtain ⟨V1, o1, rfl, hr, hj1⟩ := hj r U hU
  refine g_istore ((5, .int (iN r)) :: LV a b i) dL_law_421 (by decide) rfl ?_
  refine g_aload_n 3 dL_law_423 rfl rfl ?_
  refine g_aload_n 1 dL_law_424 rfl rfl ?_
  refine g_iload 5 dL_law_425 rfl ?_
  refine g_iconst dL_law_427 ?_
  refine g_iadd dL_law_428 ?_
  refine g_sld (i := i + 1) hx.bmp (by omega) (by omega) (by omega) dL_law_429 ?_
  refine g_aload_n 1 dL_law_430 rfl rfl ?_
  refine g_iload 5 dL_law_431 rfl ?_
  refine g_iconst dL_law_433 ?_
  refine g_iadd dL_law_434 ?_
  refine g_sld (i := i + 2) hx.bmp (by omega) (by omega) (by omega) dL_law_435 ?_
  refine g_embI (k := 0) [.int (iN (xs (i + 1)).toInt), .int (iN (xs (i + 2)).toInt)] emb_M hM u92 om_0 rfl rfl ⟨rfl, rfl, by decide, by decide⟩ rfl (Nat.le_of_ble_eq_true rfl) dL_law_436 rfl (fun z1 W1 hz => ?_)
  rw [put_M]
  obtain ⟨hi1, ht1, ho1⟩ := hj1 z1 W1 hz
  refine g_istore ((6, .int (iN z1)) :: (5, .int (iN r)) :: LV a b i) dL_law_439 (by decide) rfl ?_
  refine g_aload_n 4 dL_law_441 rfl rfl ?_
  refine g_embI (k := 0) [] emb_M (met_X7_thrown (ap_M ha)) u80 om_0 rfl rfl ⟨rfl, rfl, by decide, by decide⟩ rfl (Nat.le_of_ble_eq_true rfl) dL_law_442 rfl (fun z2 W2 hz2 => ?_)
  rw [put_M, hz2.2, hz2.1, ht1]
  refine g_iload 1 dL_law_445 rfl ?_
  refine g_icmp_eq 452 dL_law_447 (by decide) (fun _ => ?_) (fun c => absurd rfl c) (by omega) (by omega)
  refine g_iload 1 dL_law_452 rfl ?_
  refine g_if_ne 469 dL_law_454 (by decide) (fun _ => ?_) (fun c => ?_) (by omega)
  · refine g_goto 1422 dL_law_469 (by decide) ?_
    refine g_lv [2, 3, 4, 5, 6] rfl ?_
    exact kk V1 W1 _ hi1
  · refine g_aload_n 5 dL_law_457 rfl rfl ?_
    refine g_iconst dL_law_458 ?_
    refine g_lald 143 0 al_143 dL_law_459 rfl (by decide) ?_
    refine g_topl (v := o1) rfl ?_
    rw [ho1 c]
    refine g_iload 0 dL_law_460 rfl ?_
    refine g_canon ?_
    refine g_i2l dL_law_462 (cz_in z1) ?_
    refine g_lcmp 0 dL_law_463 (lcmp_same (by have := cz_in z1; omega)) ?_
    refine g_if_eq 469 dL_law_464 (by decide) (fun _ => ?_) (fun c => absurd rfl c) (by omega)
    refine g_goto 1422 dL_law_469 (by decide) ?_
    refine g_lv [2, 3, 4, 5, 6] rfl ?_
    exact kk V1 W1 _ hi1
set_option maxHeartbeats 8000000 in
theorem law_fixed {l : Launch} {D : va_G} {τ : Nat → ClassId} {a : Nat → Nat} {x : Ctx} {b N i c0 s0 : Nat} {xs : Nat → Int32} {V W : Mem} {o : Int} (ha : Apart (LL τ) a) (hx : scr x b N xs) (z0 : zer x) (rd : rdy x) (hi : i + 8 ≤ N) (hN : N ≤ 4098) (hR : c0 + 1 ≤ 601024 ∧ s0 + 6 ≤ 7293000) {P R : Int → Mem → Prop} (hH : CH l D (tysL τ) (LL τ) a yL_fixed iL_fixed hhL_fixed [.ref (a 0), .int (iN (xs (i + 1)).toInt), .int (iN (xs (i + 2)).toInt), .ref (a 143)] (mem3 V W o) P) (hM : CI l D (tysL τ) (LM τ) (fun i => a (121 + i)) yX7_fixed mX7_fixed [.ref (a 121), .int (iN (xs (i + 1)).toInt), .int (iN (xs (i + 2)).toInt)] W R) (hj : ∀ r U, P r U → ∃ V1 o1, U = mem3 V1 W o1 ∧ (0 ≤ r ∧ r ≤ 2) ∧ ∀ z1 W1, R z1 W1 → inv V1 W1 ∧ W1 0 0 = r ∧ (r = 0 → o1 = (if cz z1 = 0 then 0 else 1))) (kk : ∀ V' W' o', inv V' W' → G l D (tysL τ) (LL τ) a iLaw (bmp x (c0 + 1) (s0 + 6)) 1422 (LV a b i) [] (mem3 V' W' o')) : G l D (tysL τ) (LL τ) a iLaw (bmp x c0 s0) 472 (LV a b i) [] (mem3 V W o) := by
  refine g_aload_n 1 dL_law_472 rfl rfl ?_
  refine g_aload_n 0 dL_law_473 rfl rfl ?_
  refine g_iload 4 dL_law_474 rfl ?_
  refine g_iconst dL_law_476 ?_
  refine g_iadd dL_law_477 ?_
  refine g_sld (i := i + 1) hx.bmp (by omega) (by omega) (by omega) dL_law_478 ?_
  refine g_aload_n 0 dL_law_479 rfl rfl ?_
  refine g_iload 4 dL_law_480 rfl ?_
  refine g_iconst dL_law_482 ?_
  refine g_iadd dL_law_483 ?_
  refine g_sld (i := i + 2) hx.bmp (by omega) (by omega) (by omega) dL_law_484 ?_
  refine g_aload_n 3 dL_law_485 rfl rfl ?_
  refine g_callSH [.ref (a 0), .int (iN (xs (i + 1)).toInt), .int (iN (xs (i + 2)).toInt), .ref (a 143)] z0 rd hH wL_fixed ⟨by decide, by decide, rfl, rfl⟩ hR rfl (Nat.le_of_ble_eq_true rfl) dL_law_486 rfl (fun r U hU => ?_)
  obtain ⟨V1, o1, rfl, hr, hj1⟩ := hj r U hU
  refine g_istore ((5, .int (iN r)) :: LV a b i) dL_law_489 (by decide) rfl ?_
  refine g_aload_n 3 dL_law_491 rfl rfl ?_
  refine g_aload_n 1 dL_law_492 rfl rfl ?_
  refine g_iload 5 dL_law_493 rfl ?_
  refine g_iconst dL_law_495 ?_
  refine g_iadd dL_law_496 ?_
  refine g_sld (i := i + 1) hx.bmp (by omega) (by omega) (by omega) dL_law_497 ?_
  refine g_aload_n 1 dL_law_498 rfl rfl ?_
  refine g_iload 5 dL_law_499 rfl ?_
  refine g_iconst dL_law_501 ?_
  refine g_iadd dL_law_502 ?_
  refine g_sld (i := i + 2) hx.bmp (by omega) (by omega) (by omega) dL_law_503 ?_
  refine g_embI (k := 0) [.int (iN (xs (i + 1)).toInt), .int (iN (xs (i + 2)).toInt)] emb_M hM u95 om_0 rfl rfl ⟨rfl, rfl, by decide, by decide⟩ rfl (Nat.le_of_ble_eq_true rfl) dL_law_504 rfl (fun z1 W1 hz => ?_)
  rw [put_M]
  obtain ⟨hi1, ht1, ho1⟩ := hj1 z1 W1 hz
  refine g_istore ((6, .int (iN z1)) :: (5, .int (iN r)) :: LV a b i) dL_law_507 (by decide) rfl ?_
  refine g_aload_n 4 dL_law_509 rfl rfl ?_
  refine g_embI (k := 0) [] emb_M (met_X7_thrown (ap_M ha)) u80 om_0 rfl rfl ⟨rfl, rfl, by decide, by decide⟩ rfl (Nat.le_of_ble_eq_true rfl) dL_law_510 rfl (fun z2 W2 hz2 => ?_)
  rw [put_M, hz2.2, hz2.1, ht1]
  refine g_iload 1 dL_law_513 rfl ?_
  refine g_icmp_eq 520 dL_law_515 (by decide) (fun _ => ?_) (fun c => absurd rfl c) (by omega) (by omega)
  refine g_iload 1 dL_law_520 rfl ?_
  refine g_if_ne 544 dL_law_522 (by decide) (fun _ => ?_) (fun c => ?_) (by omega)
  · refine g_goto 1422 dL_law_544 (by decide) ?_
    refine g_lv [2, 3, 4, 5, 6] rfl ?_
    exact kk V1 W1 _ hi1
  · refine g_aload_n 5 dL_law_525 rfl rfl ?_
    refine g_iconst dL_law_526 ?_
    refine g_lald 143 0 al_143 dL_law_527 rfl (by decide) ?_
    refine g_topl (v := o1) rfl ?_
    rw [ho1 c]
    refine g_iload 0 dL_law_528 rfl ?_
    refine g_canon ?_
    refine g_if_eq 537 dL_law_530 (by decide) (fun c1 => ?_) (fun c1 => ?_) (cz_in z1)
    · rw [if_pos c1]
      refine g_lconst 0 dL_law_537 rfl ?_
      refine g_lcmp 0 dL_law_538 (lcmp_same (by omega)) ?_
      refine g_if_eq 544 dL_law_539 (by decide) (fun _ => ?_) (fun c => absurd rfl c) (by omega)
      refine g_goto 1422 dL_law_544 (by decide) ?_
      refine g_lv [2, 3, 4, 5, 6] rfl ?_
      exact kk V1 W1 _ hi1
    · rw [if_neg c1]
      refine g_lconst 1 dL_law_533 rfl ?_
      refine g_goto 538 dL_law_534 (by decide) ?_
      refine g_lcmp 0 dL_law_538 (lcmp_same (by omega)) ?_
      refine g_if_eq 544 dL_law_539 (by decide) (fun _ => ?_) (fun c => absurd rfl c) (by omega)
      refine g_goto 1422 dL_law_544 (by decide) ?_
      refine g_lv [2, 3, 4, 5, 6] rfl ?_
      exact kk V1 W1 _ hi1
set_option maxHeartbeats 8000000 in
theorem law_run {l : Launch} {D : va_G} {τ : Nat → ClassId} {a : Nat → Nat} {x : Ctx} {b N i c0 s0 : Nat} {xs : Nat → Int32} {V W : Mem} {o : Int} (ha : Apart (LL τ) a) (hx : scr x b N xs) (z0 : zer x) (rd : rdy x) (hi : i + 8 ≤ N) (hN : N ≤ 4098) (hR : c0 + 1 ≤ 601024 ∧ s0 + 6 ≤ 7293000) {P R : Int → Mem → Prop} (hH : CH l D (tysL τ) (LL τ) a yL_run iL_run hhL_run [.ref (a 0), .int (iN (xs (i + 1)).toInt), .long (jN (lng (xs (i + 2)).toInt (xs (i + 3)).toInt)), .ref (a 143)] (mem3 V W o) P) (hM : CI l D (tysL τ) (LM τ) (fun i => a (121 + i)) yX7_run mX7_run [.ref (a 121), .int (iN (xs (i + 1)).toInt), .long (jN (lng (xs (i + 2)).toInt (xs (i + 3)).toInt))] W R) (hj : ∀ r U, P r U → ∃ V1 o1, U = mem3 V1 W o1 ∧ (0 ≤ r ∧ r ≤ 2) ∧ ∀ z1 W1, R z1 W1 → inv V1 W1 ∧ W1 0 0 = r ∧ (r = 0 → o1 = (cz z1))) (kk : ∀ V' W' o', inv V' W' → G l D (tysL τ) (LL τ) a iLaw (bmp x (c0 + 1) (s0 + 6)) 1422 (LV a b i) [] (mem3 V' W' o')) : G l D (tysL τ) (LL τ) a iLaw (bmp x c0 s0) 547 (LV a b i) [] (mem3 V W o) := by
  refine g_aload_n 1 dL_law_547 rfl rfl ?_
  refine g_aload_n 0 dL_law_548 rfl rfl ?_
  refine g_iload 4 dL_law_549 rfl ?_
  refine g_iconst dL_law_551 ?_
  refine g_iadd dL_law_552 ?_
  refine g_sld (i := i + 1) hx.bmp (by omega) (by omega) (by omega) dL_law_553 ?_
  refine g_aload_n 0 dL_law_554 rfl rfl ?_
  refine g_iload 4 dL_law_555 rfl ?_
  refine g_iconst dL_law_557 ?_
  refine g_iadd dL_law_558 ?_
  refine g_sld (i := i + 2) hx.bmp (by omega) (by omega) (by omega) dL_law_559 ?_
  refine g_i2l dL_law_560 (s_in _) ?_
  refine g_bipush dL_law_561 rfl ?_
  refine g_lshl (shl32 (xs (i + 2)).toInt) dL_law_563 (Int64.ofInt_toInt _).symm ?_
  refine g_aload_n 0 dL_law_564 rfl rfl ?_
  refine g_iload 4 dL_law_565 rfl ?_
  refine g_iconst dL_law_567 ?_
  refine g_iadd dL_law_568 ?_
  refine g_sld (i := i + 3) hx.bmp (by omega) (by omega) (by omega) dL_law_569 ?_
  refine g_i2l dL_law_570 (s_in _) ?_
  refine g_ldc2 4294967295 k84 rfl dL_law_571 ?_
  refine g_land (low32 (xs (i + 3)).toInt) dL_law_574 (Int64.ofInt_toInt _).symm ?_
  refine g_lor (lng (xs (i + 2)).toInt (xs (i + 3)).toInt) dL_law_575 (Int64.ofInt_toInt _).symm ?_
  refine g_aload_n 3 dL_law_576 rfl rfl ?_
  refine g_callSH [.ref (a 0), .int (iN (xs (i + 1)).toInt), .long (jN (lng (xs (i + 2)).toInt (xs (i + 3)).toInt)), .ref (a 143)] z0 rd hH wL_run ⟨by decide, by decide, rfl, rfl⟩ hR rfl (Nat.le_of_ble_eq_true rfl) dL_law_577 rfl (fun r U hU => ?_)
  obtain ⟨V1, o1, rfl, hr, hj1⟩ := hj r U hU
  refine g_istore ((5, .int (iN r)) :: LV a b i) dL_law_580 (by decide) rfl ?_
  refine g_aload_n 3 dL_law_582 rfl rfl ?_
  refine g_aload_n 1 dL_law_583 rfl rfl ?_
  refine g_iload 5 dL_law_584 rfl ?_
  refine g_iconst dL_law_586 ?_
  refine g_iadd dL_law_587 ?_
  refine g_sld (i := i + 1) hx.bmp (by omega) (by omega) (by omega) dL_law_588 ?_
  refine g_aload_n 1 dL_law_589 rfl rfl ?_
  refine g_iload 5 dL_law_590 rfl ?_
  refine g_iconst dL_law_592 ?_
  refine g_iadd dL_law_593 ?_
  refine g_sld (i := i + 2) hx.bmp (by omega) (by omega) (by omega) dL_law_594 ?_
  refine g_i2l dL_law_595 (s_in _) ?_
  refine g_bipush dL_law_596 rfl ?_
  refine g_lshl (shl32 (xs (i + 2)).toInt) dL_law_598 (Int64.ofInt_toInt _).symm ?_
  refine g_aload_n 1 dL_law_599 rfl rfl ?_
  refine g_iload 5 dL_law_600 rfl ?_
  refine g_iconst dL_law_602 ?_
  refine g_iadd dL_law_603 ?_
  refine g_sld (i := i + 3) hx.bmp (by omega) (by omega) (by omega) dL_law_604 ?_
  refine g_i2l dL_law_605 (s_in _) ?_
  refine g_ldc2 4294967295 k84 rfl dL_law_606 ?_
  refine g_land (low32 (xs (i + 3)).toInt) dL_law_609 (Int64.ofInt_toInt _).symm ?_
  refine g_lor (lng (xs (i + 2)).toInt (xs (i + 3)).toInt) dL_law_610 (Int64.ofInt_toInt _).symm ?_
  refine g_embI (k := 0) [.int (iN (xs (i + 1)).toInt), .long (jN (lng (xs (i + 2)).toInt (xs (i + 3)).toInt))] emb_M hM u99 om_0 rfl rfl ⟨rfl, rfl, by decide, by decide⟩ rfl (Nat.le_of_ble_eq_true rfl) dL_law_611 rfl (fun z1 W1 hz => ?_)
  rw [put_M]
  obtain ⟨hi1, ht1, ho1⟩ := hj1 z1 W1 hz
  refine g_istore ((6, .int (iN z1)) :: (5, .int (iN r)) :: LV a b i) dL_law_614 (by decide) rfl ?_
  refine g_aload_n 4 dL_law_616 rfl rfl ?_
  refine g_embI (k := 0) [] emb_M (met_X7_thrown (ap_M ha)) u80 om_0 rfl rfl ⟨rfl, rfl, by decide, by decide⟩ rfl (Nat.le_of_ble_eq_true rfl) dL_law_617 rfl (fun z2 W2 hz2 => ?_)
  rw [put_M, hz2.2, hz2.1, ht1]
  refine g_iload 1 dL_law_620 rfl ?_
  refine g_icmp_eq 627 dL_law_622 (by decide) (fun _ => ?_) (fun c => absurd rfl c) (by omega) (by omega)
  refine g_iload 1 dL_law_627 rfl ?_
  refine g_if_ne 644 dL_law_629 (by decide) (fun _ => ?_) (fun c => ?_) (by omega)
  · refine g_goto 1422 dL_law_644 (by decide) ?_
    refine g_lv [2, 3, 4, 5, 6] rfl ?_
    exact kk V1 W1 _ hi1
  · refine g_aload_n 5 dL_law_632 rfl rfl ?_
    refine g_iconst dL_law_633 ?_
    refine g_lald 143 0 al_143 dL_law_634 rfl (by decide) ?_
    refine g_topl (v := o1) rfl ?_
    rw [ho1 c]
    refine g_iload 0 dL_law_635 rfl ?_
    refine g_canon ?_
    refine g_i2l dL_law_637 (cz_in z1) ?_
    refine g_lcmp 0 dL_law_638 (lcmp_same (by have := cz_in z1; omega)) ?_
    refine g_if_eq 644 dL_law_639 (by decide) (fun _ => ?_) (fun c => absurd rfl c) (by omega)
    refine g_goto 1422 dL_law_644 (by decide) ?_
    refine g_lv [2, 3, 4, 5, 6] rfl ?_
    exact kk V1 W1 _ hi1
set_option maxHeartbeats 8000000 in
theorem law_slot {l : Launch} {D : va_G} {τ : Nat → ClassId} {a : Nat → Nat} {x : Ctx} {b N i c0 s0 : Nat} {xs : Nat → Int32} {V W : Mem} {o : Int} (ha : Apart (LL τ) a) (hx : scr x b N xs) (z0 : zer x) (rd : rdy x) (hi : i + 8 ≤ N) (hN : N ≤ 4098) (hR : c0 + 1 ≤ 601024 ∧ s0 + 6 ≤ 7293000) {P R : Int → Mem → Prop} (hH : CH l D (tysL τ) (LL τ) a yL_slot iL_slot hhL_slot [.ref (a 0), .int (iN (xs (i + 1)).toInt), .int (iN (xs (i + 2)).toInt), .ref (a 143)] (mem3 V W o) P) (hM : CI l D (tysL τ) (LM τ) (fun i => a (121 + i)) yX7_slot mX7_slot [.ref (a 121), .int (iN (xs (i + 1)).toInt), .int (iN (xs (i + 2)).toInt)] W R) (hj : ∀ r U, P r U → ∃ V1 o1, U = mem3 V1 W o1 ∧ (0 ≤ r ∧ r ≤ 2) ∧ ∀ z1 W1, R z1 W1 → inv V1 W1 ∧ W1 0 0 = r ∧ (r = 0 → o1 = (cz z1))) (kk : ∀ V' W' o', inv V' W' → G l D (tysL τ) (LL τ) a iLaw (bmp x (c0 + 1) (s0 + 6)) 1422 (LV a b i) [] (mem3 V' W' o')) : G l D (tysL τ) (LL τ) a iLaw (bmp x c0 s0) 647 (LV a b i) [] (mem3 V W o) := by
  refine g_aload_n 1 dL_law_647 rfl rfl ?_
  refine g_aload_n 0 dL_law_648 rfl rfl ?_
  refine g_iload 4 dL_law_649 rfl ?_
  refine g_iconst dL_law_651 ?_
  refine g_iadd dL_law_652 ?_
  refine g_sld (i := i + 1) hx.bmp (by omega) (by omega) (by omega) dL_law_653 ?_
  refine g_aload_n 0 dL_law_654 rfl rfl ?_
  refine g_iload 4 dL_law_655 rfl ?_
  refine g_iconst dL_law_657 ?_
  refine g_iadd dL_law_658 ?_
  refine g_sld (i := i + 2) hx.bmp (by omega) (by omega) (by omega) dL_law_659 ?_
  refine g_aload_n 3 dL_law_660 rfl rfl ?_
  refine g_callSH [.ref (a 0), .int (iN (xs (i + 1)).toInt), .int (iN (xs (i + 2)).toInt), .ref (a 143)] z0 rd hH wL_slot ⟨by decide, by decide, rfl, rfl⟩ hR rfl (Nat.le_of_ble_eq_true rfl) dL_law_661 rfl (fun r U hU => ?_)
  obtain ⟨V1, o1, rfl, hr, hj1⟩ := hj r U hU
  refine g_istore ((5, .int (iN r)) :: LV a b i) dL_law_664 (by decide) rfl ?_
  refine g_aload_n 3 dL_law_666 rfl rfl ?_
  refine g_aload_n 1 dL_law_667 rfl rfl ?_
  refine g_iload 5 dL_law_668 rfl ?_
  refine g_iconst dL_law_670 ?_
  refine g_iadd dL_law_671 ?_
  refine g_sld (i := i + 1) hx.bmp (by omega) (by omega) (by omega) dL_law_672 ?_
  refine g_aload_n 1 dL_law_673 rfl rfl ?_
  refine g_iload 5 dL_law_674 rfl ?_
  refine g_iconst dL_law_676 ?_
  refine g_iadd dL_law_677 ?_
  refine g_sld (i := i + 2) hx.bmp (by omega) (by omega) (by omega) dL_law_678 ?_
  refine g_embI (k := 0) [.int (iN (xs (i + 1)).toInt), .int (iN (xs (i + 2)).toInt)] emb_M hM u102 om_0 rfl rfl ⟨rfl, rfl, by decide, by decide⟩ rfl (Nat.le_of_ble_eq_true rfl) dL_law_679 rfl (fun z1 W1 hz => ?_)
  rw [put_M]
  obtain ⟨hi1, ht1, ho1⟩ := hj1 z1 W1 hz
  refine g_istore ((6, .int (iN z1)) :: (5, .int (iN r)) :: LV a b i) dL_law_682 (by decide) rfl ?_
  refine g_aload_n 4 dL_law_684 rfl rfl ?_
  refine g_embI (k := 0) [] emb_M (met_X7_thrown (ap_M ha)) u80 om_0 rfl rfl ⟨rfl, rfl, by decide, by decide⟩ rfl (Nat.le_of_ble_eq_true rfl) dL_law_685 rfl (fun z2 W2 hz2 => ?_)
  rw [put_M, hz2.2, hz2.1, ht1]
  refine g_iload 1 dL_law_688 rfl ?_
  refine g_icmp_eq 695 dL_law_690 (by decide) (fun _ => ?_) (fun c => absurd rfl c) (by omega) (by omega)
  refine g_iload 1 dL_law_695 rfl ?_
  refine g_if_ne 712 dL_law_697 (by decide) (fun _ => ?_) (fun c => ?_) (by omega)
  · refine g_goto 1422 dL_law_712 (by decide) ?_
    refine g_lv [2, 3, 4, 5, 6] rfl ?_
    exact kk V1 W1 _ hi1
  · refine g_aload_n 5 dL_law_700 rfl rfl ?_
    refine g_iconst dL_law_701 ?_
    refine g_lald 143 0 al_143 dL_law_702 rfl (by decide) ?_
    refine g_topl (v := o1) rfl ?_
    rw [ho1 c]
    refine g_iload 0 dL_law_703 rfl ?_
    refine g_canon ?_
    refine g_i2l dL_law_705 (cz_in z1) ?_
    refine g_lcmp 0 dL_law_706 (lcmp_same (by have := cz_in z1; omega)) ?_
    refine g_if_eq 712 dL_law_707 (by decide) (fun _ => ?_) (fun c => absurd rfl c) (by omega)
    refine g_goto 1422 dL_law_712 (by decide) ?_
    refine g_lv [2, 3, 4, 5, 6] rfl ?_
    exact kk V1 W1 _ hi1
set_option maxHeartbeats 8000000 in
theorem law_order {l : Launch} {D : va_G} {τ : Nat → ClassId} {a : Nat → Nat} {x : Ctx} {b N i c0 s0 : Nat} {xs : Nat → Int32} {V W : Mem} {o : Int} (ha : Apart (LL τ) a) (hx : scr x b N xs) (z0 : zer x) (rd : rdy x) (hi : i + 8 ≤ N) (hN : N ≤ 4098) (hR : c0 + 1 ≤ 601024 ∧ s0 + 6 ≤ 7293000) {P R : Int → Mem → Prop} (hH : CH l D (tysL τ) (LL τ) a yL_order iL_order hhL_order [.ref (a 0), .int (iN (xs (i + 1)).toInt), .int (iN (xs (i + 2)).toInt), .ref (a 143)] (mem3 V W o) P) (hM : CI l D (tysL τ) (LM τ) (fun i => a (121 + i)) yX7_order mX7_order [.ref (a 121), .int (iN (xs (i + 1)).toInt), .int (iN (xs (i + 2)).toInt)] W R) (hj : ∀ r U, P r U → ∃ V1 o1, U = mem3 V1 W o1 ∧ (0 ≤ r ∧ r ≤ 2) ∧ ∀ z1 W1, R z1 W1 → inv V1 W1 ∧ W1 0 0 = r ∧ (r = 0 → o1 = (cz z1))) (kk : ∀ V' W' o', inv V' W' → G l D (tysL τ) (LL τ) a iLaw (bmp x (c0 + 1) (s0 + 6)) 1422 (LV a b i) [] (mem3 V' W' o')) : G l D (tysL τ) (LL τ) a iLaw (bmp x c0 s0) 715 (LV a b i) [] (mem3 V W o) := by
  refine g_aload_n 1 dL_law_715 rfl rfl ?_
  refine g_aload_n 0 dL_law_716 rfl rfl ?_
  refine g_iload 4 dL_law_717 rfl ?_
  refine g_iconst dL_law_719 ?_
  refine g_iadd dL_law_720 ?_
  refine g_sld (i := i + 1) hx.bmp (by omega) (by omega) (by omega) dL_law_721 ?_
  refine g_aload_n 0 dL_law_722 rfl rfl ?_
  refine g_iload 4 dL_law_723 rfl ?_
  refine g_iconst dL_law_725 ?_
  refine g_iadd dL_law_726 ?_
  refine g_sld (i := i + 2) hx.bmp (by omega) (by omega) (by omega) dL_law_727 ?_
  refine g_aload_n 3 dL_law_728 rfl rfl ?_
  refine g_callSH [.ref (a 0), .int (iN (xs (i + 1)).toInt), .int (iN (xs (i + 2)).toInt), .ref (a 143)] z0 rd hH wL_order ⟨by decide, by decide, rfl, rfl⟩ hR rfl (Nat.le_of_ble_eq_true rfl) dL_law_729 rfl (fun r U hU => ?_)
  obtain ⟨V1, o1, rfl, hr, hj1⟩ := hj r U hU
  refine g_istore ((5, .int (iN r)) :: LV a b i) dL_law_732 (by decide) rfl ?_
  refine g_aload_n 3 dL_law_734 rfl rfl ?_
  refine g_aload_n 1 dL_law_735 rfl rfl ?_
  refine g_iload 5 dL_law_736 rfl ?_
  refine g_iconst dL_law_738 ?_
  refine g_iadd dL_law_739 ?_
  refine g_sld (i := i + 1) hx.bmp (by omega) (by omega) (by omega) dL_law_740 ?_
  refine g_aload_n 1 dL_law_741 rfl rfl ?_
  refine g_iload 5 dL_law_742 rfl ?_
  refine g_iconst dL_law_744 ?_
  refine g_iadd dL_law_745 ?_
  refine g_sld (i := i + 2) hx.bmp (by omega) (by omega) (by omega) dL_law_746 ?_
  refine g_embI (k := 0) [.int (iN (xs (i + 1)).toInt), .int (iN (xs (i + 2)).toInt)] emb_M hM u105 om_0 rfl rfl ⟨rfl, rfl, by decide, by decide⟩ rfl (Nat.le_of_ble_eq_true rfl) dL_law_747 rfl (fun z1 W1 hz => ?_)
  rw [put_M]
  obtain ⟨hi1, ht1, ho1⟩ := hj1 z1 W1 hz
  refine g_istore ((6, .int (iN z1)) :: (5, .int (iN r)) :: LV a b i) dL_law_750 (by decide) rfl ?_
  refine g_aload_n 4 dL_law_752 rfl rfl ?_
  refine g_embI (k := 0) [] emb_M (met_X7_thrown (ap_M ha)) u80 om_0 rfl rfl ⟨rfl, rfl, by decide, by decide⟩ rfl (Nat.le_of_ble_eq_true rfl) dL_law_753 rfl (fun z2 W2 hz2 => ?_)
  rw [put_M, hz2.2, hz2.1, ht1]
  refine g_iload 1 dL_law_756 rfl ?_
  refine g_icmp_eq 763 dL_law_758 (by decide) (fun _ => ?_) (fun c => absurd rfl c) (by omega) (by omega)
  refine g_iload 1 dL_law_763 rfl ?_
  refine g_if_ne 780 dL_law_765 (by decide) (fun _ => ?_) (fun c => ?_) (by omega)
  · refine g_goto 1422 dL_law_780 (by decide) ?_
    refine g_lv [2, 3, 4, 5, 6] rfl ?_
    exact kk V1 W1 _ hi1
  · refine g_aload_n 5 dL_law_768 rfl rfl ?_
    refine g_iconst dL_law_769 ?_
    refine g_lald 143 0 al_143 dL_law_770 rfl (by decide) ?_
    refine g_topl (v := o1) rfl ?_
    rw [ho1 c]
    refine g_iload 0 dL_law_771 rfl ?_
    refine g_canon ?_
    refine g_i2l dL_law_773 (cz_in z1) ?_
    refine g_lcmp 0 dL_law_774 (lcmp_same (by have := cz_in z1; omega)) ?_
    refine g_if_eq 780 dL_law_775 (by decide) (fun _ => ?_) (fun c => absurd rfl c) (by omega)
    refine g_goto 1422 dL_law_780 (by decide) ?_
    refine g_lv [2, 3, 4, 5, 6] rfl ?_
    exact kk V1 W1 _ hi1
set_option maxHeartbeats 8000000 in
theorem law_trip {l : Launch} {D : va_G} {τ : Nat → ClassId} {a : Nat → Nat} {x : Ctx} {b N i c0 s0 : Nat} {xs : Nat → Int32} {V W : Mem} {o : Int} (ha : Apart (LL τ) a) (hx : scr x b N xs) (z0 : zer x) (rd : rdy x) (hi : i + 8 ≤ N) (hN : N ≤ 4098) (hR : c0 + 1 ≤ 601024 ∧ s0 + 6 ≤ 7293000) {P R : Int → Mem → Prop} (hH : CH l D (tysL τ) (LL τ) a yL_trip iL_trip hhL_trip [.ref (a 0), .int (iN (xs (i + 1)).toInt), .int (iN (xs (i + 2)).toInt), .ref (a 143)] (mem3 V W o) P) (hM : CI l D (tysL τ) (LM τ) (fun i => a (121 + i)) yX7_trip mX7_trip [.ref (a 121), .int (iN (xs (i + 1)).toInt), .int (iN (xs (i + 2)).toInt)] W R) (hj : ∀ r U, P r U → ∃ V1 o1, U = mem3 V1 W o1 ∧ (0 ≤ r ∧ r ≤ 2) ∧ ∀ z1 W1, R z1 W1 → inv V1 W1 ∧ W1 0 0 = r ∧ (r = 0 → o1 = (cz z1))) (kk : ∀ V' W' o', inv V' W' → G l D (tysL τ) (LL τ) a iLaw (bmp x (c0 + 1) (s0 + 6)) 1422 (LV a b i) [] (mem3 V' W' o')) : G l D (tysL τ) (LL τ) a iLaw (bmp x c0 s0) 783 (LV a b i) [] (mem3 V W o) := by
  refine g_aload_n 1 dL_law_783 rfl rfl ?_
  refine g_aload_n 0 dL_law_784 rfl rfl ?_
  refine g_iload 4 dL_law_785 rfl ?_
  refine g_iconst dL_law_787 ?_
  refine g_iadd dL_law_788 ?_
  refine g_sld (i := i + 1) hx.bmp (by omega) (by omega) (by omega) dL_law_789 ?_
  refine g_aload_n 0 dL_law_790 rfl rfl ?_
  refine g_iload 4 dL_law_791 rfl ?_
  refine g_iconst dL_law_793 ?_
  refine g_iadd dL_law_794 ?_
  refine g_sld (i := i + 2) hx.bmp (by omega) (by omega) (by omega) dL_law_795 ?_
  refine g_aload_n 3 dL_law_796 rfl rfl ?_
  refine g_callSH [.ref (a 0), .int (iN (xs (i + 1)).toInt), .int (iN (xs (i + 2)).toInt), .ref (a 143)] z0 rd hH wL_trip ⟨by decide, by decide, rfl, rfl⟩ hR rfl (Nat.le_of_ble_eq_true rfl) dL_law_797 rfl (fun r U hU => ?_)
  obtain ⟨V1, o1, rfl, hr, hj1⟩ := hj r U hU
  refine g_istore ((5, .int (iN r)) :: LV a b i) dL_law_800 (by decide) rfl ?_
  refine g_aload_n 3 dL_law_802 rfl rfl ?_
  refine g_aload_n 1 dL_law_803 rfl rfl ?_
  refine g_iload 5 dL_law_804 rfl ?_
  refine g_iconst dL_law_806 ?_
  refine g_iadd dL_law_807 ?_
  refine g_sld (i := i + 1) hx.bmp (by omega) (by omega) (by omega) dL_law_808 ?_
  refine g_aload_n 1 dL_law_809 rfl rfl ?_
  refine g_iload 5 dL_law_810 rfl ?_
  refine g_iconst dL_law_812 ?_
  refine g_iadd dL_law_813 ?_
  refine g_sld (i := i + 2) hx.bmp (by omega) (by omega) (by omega) dL_law_814 ?_
  refine g_embI (k := 0) [.int (iN (xs (i + 1)).toInt), .int (iN (xs (i + 2)).toInt)] emb_M hM u108 om_0 rfl rfl ⟨rfl, rfl, by decide, by decide⟩ rfl (Nat.le_of_ble_eq_true rfl) dL_law_815 rfl (fun z1 W1 hz => ?_)
  rw [put_M]
  obtain ⟨hi1, ht1, ho1⟩ := hj1 z1 W1 hz
  refine g_istore ((6, .int (iN z1)) :: (5, .int (iN r)) :: LV a b i) dL_law_818 (by decide) rfl ?_
  refine g_aload_n 4 dL_law_820 rfl rfl ?_
  refine g_embI (k := 0) [] emb_M (met_X7_thrown (ap_M ha)) u80 om_0 rfl rfl ⟨rfl, rfl, by decide, by decide⟩ rfl (Nat.le_of_ble_eq_true rfl) dL_law_821 rfl (fun z2 W2 hz2 => ?_)
  rw [put_M, hz2.2, hz2.1, ht1]
  refine g_iload 1 dL_law_824 rfl ?_
  refine g_icmp_eq 831 dL_law_826 (by decide) (fun _ => ?_) (fun c => absurd rfl c) (by omega) (by omega)
  refine g_iload 1 dL_law_831 rfl ?_
  refine g_if_ne 848 dL_law_833 (by decide) (fun _ => ?_) (fun c => ?_) (by omega)
  · refine g_goto 1422 dL_law_848 (by decide) ?_
    refine g_lv [2, 3, 4, 5, 6] rfl ?_
    exact kk V1 W1 _ hi1
  · refine g_aload_n 5 dL_law_836 rfl rfl ?_
    refine g_iconst dL_law_837 ?_
    refine g_lald 143 0 al_143 dL_law_838 rfl (by decide) ?_
    refine g_topl (v := o1) rfl ?_
    rw [ho1 c]
    refine g_iload 0 dL_law_839 rfl ?_
    refine g_canon ?_
    refine g_i2l dL_law_841 (cz_in z1) ?_
    refine g_lcmp 0 dL_law_842 (lcmp_same (by have := cz_in z1; omega)) ?_
    refine g_if_eq 848 dL_law_843 (by decide) (fun _ => ?_) (fun c => absurd rfl c) (by omega)
    refine g_goto 1422 dL_law_848 (by decide) ?_
    refine g_lv [2, 3, 4, 5, 6] rfl ?_
    exact kk V1 W1 _ hi1
set_option maxHeartbeats 8000000 in
theorem law_lower {l : Launch} {D : va_G} {τ : Nat → ClassId} {a : Nat → Nat} {x : Ctx} {b N i c0 s0 : Nat} {xs : Nat → Int32} {V W : Mem} {o : Int} (ha : Apart (LL τ) a) (hx : scr x b N xs) (z0 : zer x) (rd : rdy x) (hi : i + 8 ≤ N) (hN : N ≤ 4098) (hR : c0 + 1 ≤ 601024 ∧ s0 + 6 ≤ 7293000) {P R : Int → Mem → Prop} (hH : CH l D (tysL τ) (LL τ) a yL_lower iL_lower hhL_lower [.ref (a 0), .int (iN (xs (i + 1)).toInt), .int (iN (xs (i + 2)).toInt), .ref (a 143)] (mem3 V W o) P) (hM : CI l D (tysL τ) (LM τ) (fun i => a (121 + i)) yX7_lower mX7_lower [.ref (a 121), .int (iN (xs (i + 1)).toInt), .int (iN (xs (i + 2)).toInt)] W R) (hj : ∀ r U, P r U → ∃ V1 o1, U = mem3 V1 W o1 ∧ (0 ≤ r ∧ r ≤ 2) ∧ ∀ z1 W1, R z1 W1 → inv V1 W1 ∧ W1 0 0 = r ∧ (r = 0 → o1 = (if cz z1 = 0 then 0 else 1))) (kk : ∀ V' W' o', inv V' W' → G l D (tysL τ) (LL τ) a iLaw (bmp x (c0 + 1) (s0 + 6)) 1422 (LV a b i) [] (mem3 V' W' o')) : G l D (tysL τ) (LL τ) a iLaw (bmp x c0 s0) 878 (LV a b i) [] (mem3 V W o) := by
  refine g_aload_n 1 dL_law_878 rfl rfl ?_
  refine g_aload_n 0 dL_law_879 rfl rfl ?_
  refine g_iload 4 dL_law_880 rfl ?_
  refine g_iconst dL_law_882 ?_
  refine g_iadd dL_law_883 ?_
  refine g_sld (i := i + 1) hx.bmp (by omega) (by omega) (by omega) dL_law_884 ?_
  refine g_aload_n 0 dL_law_885 rfl rfl ?_
  refine g_iload 4 dL_law_886 rfl ?_
  refine g_iconst dL_law_888 ?_
  refine g_iadd dL_law_889 ?_
  refine g_sld (i := i + 2) hx.bmp (by omega) (by omega) (by omega) dL_law_890 ?_
  refine g_aload_n 3 dL_law_891 rfl rfl ?_
  refine g_callSH [.ref (a 0), .int (iN (xs (i + 1)).toInt), .int (iN (xs (i + 2)).toInt), .ref (a 143)] z0 rd hH wL_lower ⟨by decide, by decide, rfl, rfl⟩ hR rfl (Nat.le_of_ble_eq_true rfl) dL_law_892 rfl (fun r U hU => ?_)
  obtain ⟨V1, o1, rfl, hr, hj1⟩ := hj r U hU
  refine g_istore ((5, .int (iN r)) :: LV a b i) dL_law_895 (by decide) rfl ?_
  refine g_aload_n 3 dL_law_897 rfl rfl ?_
  refine g_aload_n 1 dL_law_898 rfl rfl ?_
  refine g_iload 5 dL_law_899 rfl ?_
  refine g_iconst dL_law_901 ?_
  refine g_iadd dL_law_902 ?_
  refine g_sld (i := i + 1) hx.bmp (by omega) (by omega) (by omega) dL_law_903 ?_
  refine g_aload_n 1 dL_law_904 rfl rfl ?_
  refine g_iload 5 dL_law_905 rfl ?_
  refine g_iconst dL_law_907 ?_
  refine g_iadd dL_law_908 ?_
  refine g_sld (i := i + 2) hx.bmp (by omega) (by omega) (by omega) dL_law_909 ?_
  refine g_embI (k := 0) [.int (iN (xs (i + 1)).toInt), .int (iN (xs (i + 2)).toInt)] emb_M hM u121 om_0 rfl rfl ⟨rfl, rfl, by decide, by decide⟩ rfl (Nat.le_of_ble_eq_true rfl) dL_law_910 rfl (fun z1 W1 hz => ?_)
  rw [put_M]
  obtain ⟨hi1, ht1, ho1⟩ := hj1 z1 W1 hz
  refine g_istore ((6, .int (iN z1)) :: (5, .int (iN r)) :: LV a b i) dL_law_913 (by decide) rfl ?_
  refine g_aload_n 4 dL_law_915 rfl rfl ?_
  refine g_embI (k := 0) [] emb_M (met_X7_thrown (ap_M ha)) u80 om_0 rfl rfl ⟨rfl, rfl, by decide, by decide⟩ rfl (Nat.le_of_ble_eq_true rfl) dL_law_916 rfl (fun z2 W2 hz2 => ?_)
  rw [put_M, hz2.2, hz2.1, ht1]
  refine g_iload 1 dL_law_919 rfl ?_
  refine g_icmp_eq 926 dL_law_921 (by decide) (fun _ => ?_) (fun c => absurd rfl c) (by omega) (by omega)
  refine g_iload 1 dL_law_926 rfl ?_
  refine g_if_ne 950 dL_law_928 (by decide) (fun _ => ?_) (fun c => ?_) (by omega)
  · refine g_goto 1422 dL_law_950 (by decide) ?_
    refine g_lv [2, 3, 4, 5, 6] rfl ?_
    exact kk V1 W1 _ hi1
  · refine g_aload_n 5 dL_law_931 rfl rfl ?_
    refine g_iconst dL_law_932 ?_
    refine g_lald 143 0 al_143 dL_law_933 rfl (by decide) ?_
    refine g_topl (v := o1) rfl ?_
    rw [ho1 c]
    refine g_iload 0 dL_law_934 rfl ?_
    refine g_canon ?_
    refine g_if_eq 943 dL_law_936 (by decide) (fun c1 => ?_) (fun c1 => ?_) (cz_in z1)
    · rw [if_pos c1]
      refine g_lconst 0 dL_law_943 rfl ?_
      refine g_lcmp 0 dL_law_944 (lcmp_same (by omega)) ?_
      refine g_if_eq 950 dL_law_945 (by decide) (fun _ => ?_) (fun c => absurd rfl c) (by omega)
      refine g_goto 1422 dL_law_950 (by decide) ?_
      refine g_lv [2, 3, 4, 5, 6] rfl ?_
      exact kk V1 W1 _ hi1
    · rw [if_neg c1]
      refine g_lconst 1 dL_law_939 rfl ?_
      refine g_goto 944 dL_law_940 (by decide) ?_
      refine g_lcmp 0 dL_law_944 (lcmp_same (by omega)) ?_
      refine g_if_eq 950 dL_law_945 (by decide) (fun _ => ?_) (fun c => absurd rfl c) (by omega)
      refine g_goto 1422 dL_law_950 (by decide) ?_
      refine g_lv [2, 3, 4, 5, 6] rfl ?_
      exact kk V1 W1 _ hi1
set_option maxHeartbeats 8000000 in
theorem law_refill {l : Launch} {D : va_G} {τ : Nat → ClassId} {a : Nat → Nat} {x : Ctx} {b N i c0 s0 : Nat} {xs : Nat → Int32} {V W : Mem} {o : Int} (ha : Apart (LL τ) a) (hx : scr x b N xs) (z0 : zer x) (rd : rdy x) (hi : i + 8 ≤ N) (hN : N ≤ 4098) (hR : c0 + 1 ≤ 601024 ∧ s0 + 6 ≤ 7293000) {P R : Int → Mem → Prop} (hH : CH l D (tysL τ) (LL τ) a yL_refill iL_refill hhL_refill [.ref (a 0), .int (iN (xs (i + 1)).toInt), .int (iN (xs (i + 2)).toInt), .ref (a 143)] (mem3 V W o) P) (hM : CI l D (tysL τ) (LM τ) (fun i => a (121 + i)) yX7_refill mX7_refill [.ref (a 121), .int (iN (xs (i + 1)).toInt), .int (iN (xs (i + 2)).toInt)] W R) (hj : ∀ r U, P r U → ∃ V1 o1, U = mem3 V1 W o1 ∧ (0 ≤ r ∧ r ≤ 2) ∧ ∀ z1 W1, R z1 W1 → inv V1 W1 ∧ W1 0 0 = r ∧ (r = 0 → o1 = (if cz z1 = 0 then 0 else 1))) (kk : ∀ V' W' o', inv V' W' → G l D (tysL τ) (LL τ) a iLaw (bmp x (c0 + 1) (s0 + 6)) 1422 (LV a b i) [] (mem3 V' W' o')) : G l D (tysL τ) (LL τ) a iLaw (bmp x c0 s0) 953 (LV a b i) [] (mem3 V W o) := by
  refine g_aload_n 1 dL_law_953 rfl rfl ?_
  refine g_aload_n 0 dL_law_954 rfl rfl ?_
  refine g_iload 4 dL_law_955 rfl ?_
  refine g_iconst dL_law_957 ?_
  refine g_iadd dL_law_958 ?_
  refine g_sld (i := i + 1) hx.bmp (by omega) (by omega) (by omega) dL_law_959 ?_
  refine g_aload_n 0 dL_law_960 rfl rfl ?_
  refine g_iload 4 dL_law_961 rfl ?_
  refine g_iconst dL_law_963 ?_
  refine g_iadd dL_law_964 ?_
  refine g_sld (i := i + 2) hx.bmp (by omega) (by omega) (by omega) dL_law_965 ?_
  refine g_aload_n 3 dL_law_966 rfl rfl ?_
  refine g_callSH [.ref (a 0), .int (iN (xs (i + 1)).toInt), .int (iN (xs (i + 2)).toInt), .ref (a 143)] z0 rd hH wL_refill ⟨by decide, by decide, rfl, rfl⟩ hR rfl (Nat.le_of_ble_eq_true rfl) dL_law_967 rfl (fun r U hU => ?_)
  obtain ⟨V1, o1, rfl, hr, hj1⟩ := hj r U hU
  refine g_istore ((5, .int (iN r)) :: LV a b i) dL_law_970 (by decide) rfl ?_
  refine g_aload_n 3 dL_law_972 rfl rfl ?_
  refine g_aload_n 1 dL_law_973 rfl rfl ?_
  refine g_iload 5 dL_law_974 rfl ?_
  refine g_iconst dL_law_976 ?_
  refine g_iadd dL_law_977 ?_
  refine g_sld (i := i + 1) hx.bmp (by omega) (by omega) (by omega) dL_law_978 ?_
  refine g_aload_n 1 dL_law_979 rfl rfl ?_
  refine g_iload 5 dL_law_980 rfl ?_
  refine g_iconst dL_law_982 ?_
  refine g_iadd dL_law_983 ?_
  refine g_sld (i := i + 2) hx.bmp (by omega) (by omega) (by omega) dL_law_984 ?_
  refine g_embI (k := 0) [.int (iN (xs (i + 1)).toInt), .int (iN (xs (i + 2)).toInt)] emb_M hM u124 om_0 rfl rfl ⟨rfl, rfl, by decide, by decide⟩ rfl (Nat.le_of_ble_eq_true rfl) dL_law_985 rfl (fun z1 W1 hz => ?_)
  rw [put_M]
  obtain ⟨hi1, ht1, ho1⟩ := hj1 z1 W1 hz
  refine g_istore ((6, .int (iN z1)) :: (5, .int (iN r)) :: LV a b i) dL_law_988 (by decide) rfl ?_
  refine g_aload_n 4 dL_law_990 rfl rfl ?_
  refine g_embI (k := 0) [] emb_M (met_X7_thrown (ap_M ha)) u80 om_0 rfl rfl ⟨rfl, rfl, by decide, by decide⟩ rfl (Nat.le_of_ble_eq_true rfl) dL_law_991 rfl (fun z2 W2 hz2 => ?_)
  rw [put_M, hz2.2, hz2.1, ht1]
  refine g_iload 1 dL_law_994 rfl ?_
  refine g_icmp_eq 1001 dL_law_996 (by decide) (fun _ => ?_) (fun c => absurd rfl c) (by omega) (by omega)
  refine g_iload 1 dL_law_1001 rfl ?_
  refine g_if_ne 1025 dL_law_1003 (by decide) (fun _ => ?_) (fun c => ?_) (by omega)
  · refine g_goto 1422 dL_law_1025 (by decide) ?_
    refine g_lv [2, 3, 4, 5, 6] rfl ?_
    exact kk V1 W1 _ hi1
  · refine g_aload_n 5 dL_law_1006 rfl rfl ?_
    refine g_iconst dL_law_1007 ?_
    refine g_lald 143 0 al_143 dL_law_1008 rfl (by decide) ?_
    refine g_topl (v := o1) rfl ?_
    rw [ho1 c]
    refine g_iload 0 dL_law_1009 rfl ?_
    refine g_canon ?_
    refine g_if_eq 1018 dL_law_1011 (by decide) (fun c1 => ?_) (fun c1 => ?_) (cz_in z1)
    · rw [if_pos c1]
      refine g_lconst 0 dL_law_1018 rfl ?_
      refine g_lcmp 0 dL_law_1019 (lcmp_same (by omega)) ?_
      refine g_if_eq 1025 dL_law_1020 (by decide) (fun _ => ?_) (fun c => absurd rfl c) (by omega)
      refine g_goto 1422 dL_law_1025 (by decide) ?_
      refine g_lv [2, 3, 4, 5, 6] rfl ?_
      exact kk V1 W1 _ hi1
    · rw [if_neg c1]
      refine g_lconst 1 dL_law_1014 rfl ?_
      refine g_goto 1019 dL_law_1015 (by decide) ?_
      refine g_lcmp 0 dL_law_1019 (lcmp_same (by omega)) ?_
      refine g_if_eq 1025 dL_law_1020 (by decide) (fun _ => ?_) (fun c => absurd rfl c) (by omega)
      refine g_goto 1422 dL_law_1025 (by decide) ?_
      refine g_lv [2, 3, 4, 5, 6] rfl ?_
      exact kk V1 W1 _ hi1
set_option maxHeartbeats 8000000 in
theorem law_reject {l : Launch} {D : va_G} {τ : Nat → ClassId} {a : Nat → Nat} {x : Ctx} {b N i c0 s0 : Nat} {xs : Nat → Int32} {V W : Mem} {o : Int} (ha : Apart (LL τ) a) (hx : scr x b N xs) (z0 : zer x) (rd : rdy x) (hi : i + 8 ≤ N) (hN : N ≤ 4098) (hR : c0 + 1 ≤ 601024 ∧ s0 + 6 ≤ 7293000) {P R : Int → Mem → Prop} (hH : CH l D (tysL τ) (LL τ) a yL_reject iL_reject hhL_reject [.ref (a 0), .int (iN (xs (i + 1)).toInt), .long (jN (lng (xs (i + 2)).toInt (xs (i + 3)).toInt)), .long (jN (lng (xs (i + 4)).toInt (xs (i + 5)).toInt)), .ref (a 143)] (mem3 V W o) P) (hM : CI l D (tysL τ) (LM τ) (fun i => a (121 + i)) yX7_reject mX7_reject [.ref (a 121), .int (iN (xs (i + 1)).toInt), .long (jN (lng (xs (i + 2)).toInt (xs (i + 3)).toInt)), .long (jN (lng (xs (i + 4)).toInt (xs (i + 5)).toInt))] W R) (hj : ∀ r U, P r U → ∃ V1 o1, U = mem3 V1 W o1 ∧ (0 ≤ r ∧ r ≤ 2) ∧ ∀ z1 W1, R z1 W1 → inv V1 W1 ∧ W1 0 0 = r ∧ (r = 0 → o1 = (if cz z1 = 0 then 0 else 1))) (kk : ∀ V' W' o', inv V' W' → G l D (tysL τ) (LL τ) a iLaw (bmp x (c0 + 1) (s0 + 6)) 1422 (LV a b i) [] (mem3 V' W' o')) : G l D (tysL τ) (LL τ) a iLaw (bmp x c0 s0) 1028 (LV a b i) [] (mem3 V W o) := by
  refine g_aload_n 1 dL_law_1028 rfl rfl ?_
  refine g_aload_n 0 dL_law_1029 rfl rfl ?_
  refine g_iload 4 dL_law_1030 rfl ?_
  refine g_iconst dL_law_1032 ?_
  refine g_iadd dL_law_1033 ?_
  refine g_sld (i := i + 1) hx.bmp (by omega) (by omega) (by omega) dL_law_1034 ?_
  refine g_aload_n 0 dL_law_1035 rfl rfl ?_
  refine g_iload 4 dL_law_1036 rfl ?_
  refine g_iconst dL_law_1038 ?_
  refine g_iadd dL_law_1039 ?_
  refine g_sld (i := i + 2) hx.bmp (by omega) (by omega) (by omega) dL_law_1040 ?_
  refine g_i2l dL_law_1041 (s_in _) ?_
  refine g_bipush dL_law_1042 rfl ?_
  refine g_lshl (shl32 (xs (i + 2)).toInt) dL_law_1044 (Int64.ofInt_toInt _).symm ?_
  refine g_aload_n 0 dL_law_1045 rfl rfl ?_
  refine g_iload 4 dL_law_1046 rfl ?_
  refine g_iconst dL_law_1048 ?_
  refine g_iadd dL_law_1049 ?_
  refine g_sld (i := i + 3) hx.bmp (by omega) (by omega) (by omega) dL_law_1050 ?_
  refine g_i2l dL_law_1051 (s_in _) ?_
  refine g_ldc2 4294967295 k84 rfl dL_law_1052 ?_
  refine g_land (low32 (xs (i + 3)).toInt) dL_law_1055 (Int64.ofInt_toInt _).symm ?_
  refine g_lor (lng (xs (i + 2)).toInt (xs (i + 3)).toInt) dL_law_1056 (Int64.ofInt_toInt _).symm ?_
  refine g_aload_n 0 dL_law_1057 rfl rfl ?_
  refine g_iload 4 dL_law_1058 rfl ?_
  refine g_iconst dL_law_1060 ?_
  refine g_iadd dL_law_1061 ?_
  refine g_sld (i := i + 4) hx.bmp (by omega) (by omega) (by omega) dL_law_1062 ?_
  refine g_i2l dL_law_1063 (s_in _) ?_
  refine g_bipush dL_law_1064 rfl ?_
  refine g_lshl (shl32 (xs (i + 4)).toInt) dL_law_1066 (Int64.ofInt_toInt _).symm ?_
  refine g_aload_n 0 dL_law_1067 rfl rfl ?_
  refine g_iload 4 dL_law_1068 rfl ?_
  refine g_iconst dL_law_1070 ?_
  refine g_iadd dL_law_1071 ?_
  refine g_sld (i := i + 5) hx.bmp (by omega) (by omega) (by omega) dL_law_1072 ?_
  refine g_i2l dL_law_1073 (s_in _) ?_
  refine g_ldc2 4294967295 k84 rfl dL_law_1074 ?_
  refine g_land (low32 (xs (i + 5)).toInt) dL_law_1077 (Int64.ofInt_toInt _).symm ?_
  refine g_lor (lng (xs (i + 4)).toInt (xs (i + 5)).toInt) dL_law_1078 (Int64.ofInt_toInt _).symm ?_
  refine g_aload_n 3 dL_law_1079 rfl rfl ?_
  refine g_callSH [.ref (a 0), .int (iN (xs (i + 1)).toInt), .long (jN (lng (xs (i + 2)).toInt (xs (i + 3)).toInt)), .long (jN (lng (xs (i + 4)).toInt (xs (i + 5)).toInt)), .ref (a 143)] z0 rd hH wL_reject ⟨by decide, by decide, rfl, rfl⟩ hR rfl (Nat.le_of_ble_eq_true rfl) dL_law_1080 rfl (fun r U hU => ?_)
  obtain ⟨V1, o1, rfl, hr, hj1⟩ := hj r U hU
  refine g_istore ((5, .int (iN r)) :: LV a b i) dL_law_1083 (by decide) rfl ?_
  refine g_aload_n 3 dL_law_1085 rfl rfl ?_
  refine g_aload_n 1 dL_law_1086 rfl rfl ?_
  refine g_iload 5 dL_law_1087 rfl ?_
  refine g_iconst dL_law_1089 ?_
  refine g_iadd dL_law_1090 ?_
  refine g_sld (i := i + 1) hx.bmp (by omega) (by omega) (by omega) dL_law_1091 ?_
  refine g_aload_n 1 dL_law_1092 rfl rfl ?_
  refine g_iload 5 dL_law_1093 rfl ?_
  refine g_iconst dL_law_1095 ?_
  refine g_iadd dL_law_1096 ?_
  refine g_sld (i := i + 2) hx.bmp (by omega) (by omega) (by omega) dL_law_1097 ?_
  refine g_i2l dL_law_1098 (s_in _) ?_
  refine g_bipush dL_law_1099 rfl ?_
  refine g_lshl (shl32 (xs (i + 2)).toInt) dL_law_1101 (Int64.ofInt_toInt _).symm ?_
  refine g_aload_n 1 dL_law_1102 rfl rfl ?_
  refine g_iload 5 dL_law_1103 rfl ?_
  refine g_iconst dL_law_1105 ?_
  refine g_iadd dL_law_1106 ?_
  refine g_sld (i := i + 3) hx.bmp (by omega) (by omega) (by omega) dL_law_1107 ?_
  refine g_i2l dL_law_1108 (s_in _) ?_
  refine g_ldc2 4294967295 k84 rfl dL_law_1109 ?_
  refine g_land (low32 (xs (i + 3)).toInt) dL_law_1112 (Int64.ofInt_toInt _).symm ?_
  refine g_lor (lng (xs (i + 2)).toInt (xs (i + 3)).toInt) dL_law_1113 (Int64.ofInt_toInt _).symm ?_
  refine g_aload_n 1 dL_law_1114 rfl rfl ?_
  refine g_iload 5 dL_law_1115 rfl ?_
  refine g_iconst dL_law_1117 ?_
  refine g_iadd dL_law_1118 ?_
  refine g_sld (i := i + 4) hx.bmp (by omega) (by omega) (by omega) dL_law_1119 ?_
  refine g_i2l dL_law_1120 (s_in _) ?_
  refine g_bipush dL_law_1121 rfl ?_
  refine g_lshl (shl32 (xs (i + 4)).toInt) dL_law_1123 (Int64.ofInt_toInt _).symm ?_
  refine g_aload_n 1 dL_law_1124 rfl rfl ?_
  refine g_iload 5 dL_law_1125 rfl ?_
  refine g_iconst dL_law_1127 ?_
  refine g_iadd dL_law_1128 ?_
  refine g_sld (i := i + 5) hx.bmp (by omega) (by omega) (by omega) dL_law_1129 ?_
  refine g_i2l dL_law_1130 (s_in _) ?_
  refine g_ldc2 4294967295 k84 rfl dL_law_1131 ?_
  refine g_land (low32 (xs (i + 5)).toInt) dL_law_1134 (Int64.ofInt_toInt _).symm ?_
  refine g_lor (lng (xs (i + 4)).toInt (xs (i + 5)).toInt) dL_law_1135 (Int64.ofInt_toInt _).symm ?_
  refine g_embI (k := 0) [.int (iN (xs (i + 1)).toInt), .long (jN (lng (xs (i + 2)).toInt (xs (i + 3)).toInt)), .long (jN (lng (xs (i + 4)).toInt (xs (i + 5)).toInt))] emb_M hM u128 om_0 rfl rfl ⟨rfl, rfl, by decide, by decide⟩ rfl (Nat.le_of_ble_eq_true rfl) dL_law_1136 rfl (fun z1 W1 hz => ?_)
  rw [put_M]
  obtain ⟨hi1, ht1, ho1⟩ := hj1 z1 W1 hz
  refine g_istore ((6, .int (iN z1)) :: (5, .int (iN r)) :: LV a b i) dL_law_1139 (by decide) rfl ?_
  refine g_aload_n 4 dL_law_1141 rfl rfl ?_
  refine g_embI (k := 0) [] emb_M (met_X7_thrown (ap_M ha)) u80 om_0 rfl rfl ⟨rfl, rfl, by decide, by decide⟩ rfl (Nat.le_of_ble_eq_true rfl) dL_law_1142 rfl (fun z2 W2 hz2 => ?_)
  rw [put_M, hz2.2, hz2.1, ht1]
  refine g_iload 1 dL_law_1145 rfl ?_
  refine g_icmp_eq 1152 dL_law_1147 (by decide) (fun _ => ?_) (fun c => absurd rfl c) (by omega) (by omega)
  refine g_iload 1 dL_law_1152 rfl ?_
  refine g_if_ne 1176 dL_law_1154 (by decide) (fun _ => ?_) (fun c => ?_) (by omega)
  · refine g_goto 1422 dL_law_1176 (by decide) ?_
    refine g_lv [2, 3, 4, 5, 6] rfl ?_
    exact kk V1 W1 _ hi1
  · refine g_aload_n 5 dL_law_1157 rfl rfl ?_
    refine g_iconst dL_law_1158 ?_
    refine g_lald 143 0 al_143 dL_law_1159 rfl (by decide) ?_
    refine g_topl (v := o1) rfl ?_
    rw [ho1 c]
    refine g_iload 0 dL_law_1160 rfl ?_
    refine g_canon ?_
    refine g_if_eq 1169 dL_law_1162 (by decide) (fun c1 => ?_) (fun c1 => ?_) (cz_in z1)
    · rw [if_pos c1]
      refine g_lconst 0 dL_law_1169 rfl ?_
      refine g_lcmp 0 dL_law_1170 (lcmp_same (by omega)) ?_
      refine g_if_eq 1176 dL_law_1171 (by decide) (fun _ => ?_) (fun c => absurd rfl c) (by omega)
      refine g_goto 1422 dL_law_1176 (by decide) ?_
      refine g_lv [2, 3, 4, 5, 6] rfl ?_
      exact kk V1 W1 _ hi1
    · rw [if_neg c1]
      refine g_lconst 1 dL_law_1165 rfl ?_
      refine g_goto 1170 dL_law_1166 (by decide) ?_
      refine g_lcmp 0 dL_law_1170 (lcmp_same (by omega)) ?_
      refine g_if_eq 1176 dL_law_1171 (by decide) (fun _ => ?_) (fun c => absurd rfl c) (by omega)
      refine g_goto 1422 dL_law_1176 (by decide) ?_
      refine g_lv [2, 3, 4, 5, 6] rfl ?_
      exact kk V1 W1 _ hi1
set_option maxHeartbeats 8000000 in
theorem law_machineOf {l : Launch} {D : va_G} {τ : Nat → ClassId} {a : Nat → Nat} {x : Ctx} {b N i c0 s0 : Nat} {xs : Nat → Int32} {V W : Mem} {o : Int} (ha : Apart (LL τ) a) (hx : scr x b N xs) (z0 : zer x) (rd : rdy x) (hi : i + 8 ≤ N) (hN : N ≤ 4098) (hR : c0 + 1 ≤ 601024 ∧ s0 + 6 ≤ 7293000) {P R : Int → Mem → Prop} (hH : CH l D (tysL τ) (LL τ) a yL_machineOf iL_machineOf hhL_machineOf [.ref (a 0), .int (iN (xs (i + 1)).toInt), .ref (a 143)] (mem3 V W o) P) (hM : CI l D (tysL τ) (LM τ) (fun i => a (121 + i)) yX7_machineOf mX7_machineOf [.ref (a 121), .int (iN (xs (i + 1)).toInt)] W R) (hj : ∀ r U, P r U → ∃ V1 o1, U = mem3 V1 W o1 ∧ (0 ≤ r ∧ r ≤ 2) ∧ ∀ z1 W1, R z1 W1 → inv V1 W1 ∧ W1 0 0 = r ∧ (r = 0 → o1 = (cz z1))) (kk : ∀ V' W' o', inv V' W' → G l D (tysL τ) (LL τ) a iLaw (bmp x (c0 + 1) (s0 + 6)) 1422 (LV a b i) [] (mem3 V' W' o')) : G l D (tysL τ) (LL τ) a iLaw (bmp x c0 s0) 1179 (LV a b i) [] (mem3 V W o) := by
  refine g_aload_n 1 dL_law_1179 rfl rfl ?_
  refine g_aload_n 0 dL_law_1180 rfl rfl ?_
  refine g_iload 4 dL_law_1181 rfl ?_
  refine g_iconst dL_law_1183 ?_
  refine g_iadd dL_law_1184 ?_
  refine g_sld (i := i + 1) hx.bmp (by omega) (by omega) (by omega) dL_law_1185 ?_
  refine g_aload_n 3 dL_law_1186 rfl rfl ?_
  refine g_callSH [.ref (a 0), .int (iN (xs (i + 1)).toInt), .ref (a 143)] z0 rd hH wL_machineOf ⟨by decide, by decide, rfl, rfl⟩ hR rfl (Nat.le_of_ble_eq_true rfl) dL_law_1187 rfl (fun r U hU => ?_)
  obtain ⟨V1, o1, rfl, hr, hj1⟩ := hj r U hU
  refine g_istore ((5, .int (iN r)) :: LV a b i) dL_law_1190 (by decide) rfl ?_
  refine g_aload_n 3 dL_law_1192 rfl rfl ?_
  refine g_aload_n 1 dL_law_1193 rfl rfl ?_
  refine g_iload 5 dL_law_1194 rfl ?_
  refine g_iconst dL_law_1196 ?_
  refine g_iadd dL_law_1197 ?_
  refine g_sld (i := i + 1) hx.bmp (by omega) (by omega) (by omega) dL_law_1198 ?_
  refine g_embI (k := 0) [.int (iN (xs (i + 1)).toInt)] emb_M hM u132 om_0 rfl rfl ⟨rfl, rfl, by decide, by decide⟩ rfl (Nat.le_of_ble_eq_true rfl) dL_law_1199 rfl (fun z1 W1 hz => ?_)
  rw [put_M]
  obtain ⟨hi1, ht1, ho1⟩ := hj1 z1 W1 hz
  refine g_istore ((6, .int (iN z1)) :: (5, .int (iN r)) :: LV a b i) dL_law_1202 (by decide) rfl ?_
  refine g_aload_n 4 dL_law_1204 rfl rfl ?_
  refine g_embI (k := 0) [] emb_M (met_X7_thrown (ap_M ha)) u80 om_0 rfl rfl ⟨rfl, rfl, by decide, by decide⟩ rfl (Nat.le_of_ble_eq_true rfl) dL_law_1205 rfl (fun z2 W2 hz2 => ?_)
  rw [put_M, hz2.2, hz2.1, ht1]
  refine g_iload 1 dL_law_1208 rfl ?_
  refine g_icmp_eq 1215 dL_law_1210 (by decide) (fun _ => ?_) (fun c => absurd rfl c) (by omega) (by omega)
  refine g_iload 1 dL_law_1215 rfl ?_
  refine g_if_ne 1232 dL_law_1217 (by decide) (fun _ => ?_) (fun c => ?_) (by omega)
  · refine g_goto 1422 dL_law_1232 (by decide) ?_
    refine g_lv [2, 3, 4, 5, 6] rfl ?_
    exact kk V1 W1 _ hi1
  · refine g_aload_n 5 dL_law_1220 rfl rfl ?_
    refine g_iconst dL_law_1221 ?_
    refine g_lald 143 0 al_143 dL_law_1222 rfl (by decide) ?_
    refine g_topl (v := o1) rfl ?_
    rw [ho1 c]
    refine g_iload 0 dL_law_1223 rfl ?_
    refine g_canon ?_
    refine g_i2l dL_law_1225 (cz_in z1) ?_
    refine g_lcmp 0 dL_law_1226 (lcmp_same (by have := cz_in z1; omega)) ?_
    refine g_if_eq 1232 dL_law_1227 (by decide) (fun _ => ?_) (fun c => absurd rfl c) (by omega)
    refine g_goto 1422 dL_law_1232 (by decide) ?_
    refine g_lv [2, 3, 4, 5, 6] rfl ?_
    exact kk V1 W1 _ hi1
set_option maxHeartbeats 8000000 in
theorem law_improve {l : Launch} {D : va_G} {τ : Nat → ClassId} {a : Nat → Nat} {x : Ctx} {b N i c0 s0 : Nat} {xs : Nat → Int32} {V W : Mem} {o : Int} (ha : Apart (LL τ) a) (hx : scr x b N xs) (z0 : zer x) (rd : rdy x) (hi : i + 8 ≤ N) (hN : N ≤ 4098) (hR : c0 + 1 ≤ 601024 ∧ s0 + 6 ≤ 7293000) {P R : Int → Mem → Prop} (hH : CH l D (tysL τ) (LL τ) a yL_improve iL_improve hhL_improve [.ref (a 0), .int (iN (xs (i + 1)).toInt), .ref (a 143)] (mem3 V W o) P) (hM : CI l D (tysL τ) (LM τ) (fun i => a (121 + i)) yX7_improve mX7_improve [.ref (a 121), .int (iN (xs (i + 1)).toInt)] W R) (hj : ∀ r U, P r U → ∃ V1 o1, U = mem3 V1 W o1 ∧ (0 ≤ r ∧ r ≤ 2) ∧ ∀ z1 W1, R z1 W1 → inv V1 W1 ∧ W1 0 0 = r ∧ (r = 0 → o1 = (cz z1))) (kk : ∀ V' W' o', inv V' W' → G l D (tysL τ) (LL τ) a iLaw (bmp x (c0 + 1) (s0 + 6)) 1422 (LV a b i) [] (mem3 V' W' o')) : G l D (tysL τ) (LL τ) a iLaw (bmp x c0 s0) 1235 (LV a b i) [] (mem3 V W o) := by
  refine g_aload_n 1 dL_law_1235 rfl rfl ?_
  refine g_aload_n 0 dL_law_1236 rfl rfl ?_
  refine g_iload 4 dL_law_1237 rfl ?_
  refine g_iconst dL_law_1239 ?_
  refine g_iadd dL_law_1240 ?_
  refine g_sld (i := i + 1) hx.bmp (by omega) (by omega) (by omega) dL_law_1241 ?_
  refine g_aload_n 3 dL_law_1242 rfl rfl ?_
  refine g_callSH [.ref (a 0), .int (iN (xs (i + 1)).toInt), .ref (a 143)] z0 rd hH wL_improve ⟨by decide, by decide, rfl, rfl⟩ hR rfl (Nat.le_of_ble_eq_true rfl) dL_law_1243 rfl (fun r U hU => ?_)
  obtain ⟨V1, o1, rfl, hr, hj1⟩ := hj r U hU
  refine g_istore ((5, .int (iN r)) :: LV a b i) dL_law_1246 (by decide) rfl ?_
  refine g_aload_n 3 dL_law_1248 rfl rfl ?_
  refine g_aload_n 1 dL_law_1249 rfl rfl ?_
  refine g_iload 5 dL_law_1250 rfl ?_
  refine g_iconst dL_law_1252 ?_
  refine g_iadd dL_law_1253 ?_
  refine g_sld (i := i + 1) hx.bmp (by omega) (by omega) (by omega) dL_law_1254 ?_
  refine g_embI (k := 0) [.int (iN (xs (i + 1)).toInt)] emb_M hM u135 om_0 rfl rfl ⟨rfl, rfl, by decide, by decide⟩ rfl (Nat.le_of_ble_eq_true rfl) dL_law_1255 rfl (fun z1 W1 hz => ?_)
  rw [put_M]
  obtain ⟨hi1, ht1, ho1⟩ := hj1 z1 W1 hz
  refine g_istore ((6, .int (iN z1)) :: (5, .int (iN r)) :: LV a b i) dL_law_1258 (by decide) rfl ?_
  refine g_aload_n 4 dL_law_1260 rfl rfl ?_
  refine g_embI (k := 0) [] emb_M (met_X7_thrown (ap_M ha)) u80 om_0 rfl rfl ⟨rfl, rfl, by decide, by decide⟩ rfl (Nat.le_of_ble_eq_true rfl) dL_law_1261 rfl (fun z2 W2 hz2 => ?_)
  rw [put_M, hz2.2, hz2.1, ht1]
  refine g_iload 1 dL_law_1264 rfl ?_
  refine g_icmp_eq 1271 dL_law_1266 (by decide) (fun _ => ?_) (fun c => absurd rfl c) (by omega) (by omega)
  refine g_iload 1 dL_law_1271 rfl ?_
  refine g_if_ne 1288 dL_law_1273 (by decide) (fun _ => ?_) (fun c => ?_) (by omega)
  · refine g_goto 1422 dL_law_1288 (by decide) ?_
    refine g_lv [2, 3, 4, 5, 6] rfl ?_
    exact kk V1 W1 _ hi1
  · refine g_aload_n 5 dL_law_1276 rfl rfl ?_
    refine g_iconst dL_law_1277 ?_
    refine g_lald 143 0 al_143 dL_law_1278 rfl (by decide) ?_
    refine g_topl (v := o1) rfl ?_
    rw [ho1 c]
    refine g_iload 0 dL_law_1279 rfl ?_
    refine g_canon ?_
    refine g_i2l dL_law_1281 (cz_in z1) ?_
    refine g_lcmp 0 dL_law_1282 (lcmp_same (by have := cz_in z1; omega)) ?_
    refine g_if_eq 1288 dL_law_1283 (by decide) (fun _ => ?_) (fun c => absurd rfl c) (by omega)
    refine g_goto 1422 dL_law_1288 (by decide) ?_
    refine g_lv [2, 3, 4, 5, 6] rfl ?_
    exact kk V1 W1 _ hi1
set_option maxHeartbeats 8000000 in
theorem law_common {l : Launch} {D : va_G} {τ : Nat → ClassId} {a : Nat → Nat} {x : Ctx} {b N i c0 s0 : Nat} {xs : Nat → Int32} {V W : Mem} {o : Int} (ha : Apart (LL τ) a) (hx : scr x b N xs) (z0 : zer x) (rd : rdy x) (hi : i + 8 ≤ N) (hN : N ≤ 4098) (hR : c0 + 1 ≤ 601024 ∧ s0 + 6 ≤ 7293000) {P R : Int → Mem → Prop} (hH : CH l D (tysL τ) (LL τ) a yL_common iL_common hhL_common [.ref (a 0), .int (iN (xs (i + 1)).toInt), .int (iN (xs (i + 2)).toInt), .ref (a 143)] (mem3 V W o) P) (hM : CI l D (tysL τ) (LM τ) (fun i => a (121 + i)) yX7_common mX7_common [.ref (a 121), .int (iN (xs (i + 1)).toInt), .int (iN (xs (i + 2)).toInt)] W R) (hj : ∀ r U, P r U → ∃ V1 o1, U = mem3 V1 W o1 ∧ (0 ≤ r ∧ r ≤ 2) ∧ ∀ z1 W1, R z1 W1 → inv V1 W1 ∧ W1 0 0 = r ∧ (r = 0 → o1 = (if cz z1 = 0 then 0 else 1))) (kk : ∀ V' W' o', inv V' W' → G l D (tysL τ) (LL τ) a iLaw (bmp x (c0 + 1) (s0 + 6)) 1422 (LV a b i) [] (mem3 V' W' o')) : G l D (tysL τ) (LL τ) a iLaw (bmp x c0 s0) 1291 (LV a b i) [] (mem3 V W o) := by
  refine g_aload_n 1 dL_law_1291 rfl rfl ?_
  refine g_aload_n 0 dL_law_1292 rfl rfl ?_
  refine g_iload 4 dL_law_1293 rfl ?_
  refine g_iconst dL_law_1295 ?_
  refine g_iadd dL_law_1296 ?_
  refine g_sld (i := i + 1) hx.bmp (by omega) (by omega) (by omega) dL_law_1297 ?_
  refine g_aload_n 0 dL_law_1298 rfl rfl ?_
  refine g_iload 4 dL_law_1299 rfl ?_
  refine g_iconst dL_law_1301 ?_
  refine g_iadd dL_law_1302 ?_
  refine g_sld (i := i + 2) hx.bmp (by omega) (by omega) (by omega) dL_law_1303 ?_
  refine g_aload_n 3 dL_law_1304 rfl rfl ?_
  refine g_callSH [.ref (a 0), .int (iN (xs (i + 1)).toInt), .int (iN (xs (i + 2)).toInt), .ref (a 143)] z0 rd hH wL_common ⟨by decide, by decide, rfl, rfl⟩ hR rfl (Nat.le_of_ble_eq_true rfl) dL_law_1305 rfl (fun r U hU => ?_)
  obtain ⟨V1, o1, rfl, hr, hj1⟩ := hj r U hU
  refine g_istore ((5, .int (iN r)) :: LV a b i) dL_law_1308 (by decide) rfl ?_
  refine g_aload_n 3 dL_law_1310 rfl rfl ?_
  refine g_aload_n 1 dL_law_1311 rfl rfl ?_
  refine g_iload 5 dL_law_1312 rfl ?_
  refine g_iconst dL_law_1314 ?_
  refine g_iadd dL_law_1315 ?_
  refine g_sld (i := i + 1) hx.bmp (by omega) (by omega) (by omega) dL_law_1316 ?_
  refine g_aload_n 1 dL_law_1317 rfl rfl ?_
  refine g_iload 5 dL_law_1318 rfl ?_
  refine g_iconst dL_law_1320 ?_
  refine g_iadd dL_law_1321 ?_
  refine g_sld (i := i + 2) hx.bmp (by omega) (by omega) (by omega) dL_law_1322 ?_
  refine g_embI (k := 0) [.int (iN (xs (i + 1)).toInt), .int (iN (xs (i + 2)).toInt)] emb_M hM u138 om_0 rfl rfl ⟨rfl, rfl, by decide, by decide⟩ rfl (Nat.le_of_ble_eq_true rfl) dL_law_1323 rfl (fun z1 W1 hz => ?_)
  rw [put_M]
  obtain ⟨hi1, ht1, ho1⟩ := hj1 z1 W1 hz
  refine g_istore ((6, .int (iN z1)) :: (5, .int (iN r)) :: LV a b i) dL_law_1326 (by decide) rfl ?_
  refine g_aload_n 4 dL_law_1328 rfl rfl ?_
  refine g_embI (k := 0) [] emb_M (met_X7_thrown (ap_M ha)) u80 om_0 rfl rfl ⟨rfl, rfl, by decide, by decide⟩ rfl (Nat.le_of_ble_eq_true rfl) dL_law_1329 rfl (fun z2 W2 hz2 => ?_)
  rw [put_M, hz2.2, hz2.1, ht1]
  refine g_iload 1 dL_law_1332 rfl ?_
  refine g_icmp_eq 1339 dL_law_1334 (by decide) (fun _ => ?_) (fun c => absurd rfl c) (by omega) (by omega)
  refine g_iload 1 dL_law_1339 rfl ?_
  refine g_if_ne 1363 dL_law_1341 (by decide) (fun _ => ?_) (fun c => ?_) (by omega)
  · refine g_goto 1422 dL_law_1363 (by decide) ?_
    refine g_lv [2, 3, 4, 5, 6] rfl ?_
    exact kk V1 W1 _ hi1
  · refine g_aload_n 5 dL_law_1344 rfl rfl ?_
    refine g_iconst dL_law_1345 ?_
    refine g_lald 143 0 al_143 dL_law_1346 rfl (by decide) ?_
    refine g_topl (v := o1) rfl ?_
    rw [ho1 c]
    refine g_iload 0 dL_law_1347 rfl ?_
    refine g_canon ?_
    refine g_if_eq 1356 dL_law_1349 (by decide) (fun c1 => ?_) (fun c1 => ?_) (cz_in z1)
    · rw [if_pos c1]
      refine g_lconst 0 dL_law_1356 rfl ?_
      refine g_lcmp 0 dL_law_1357 (lcmp_same (by omega)) ?_
      refine g_if_eq 1363 dL_law_1358 (by decide) (fun _ => ?_) (fun c => absurd rfl c) (by omega)
      refine g_goto 1422 dL_law_1363 (by decide) ?_
      refine g_lv [2, 3, 4, 5, 6] rfl ?_
      exact kk V1 W1 _ hi1
    · rw [if_neg c1]
      refine g_lconst 1 dL_law_1352 rfl ?_
      refine g_goto 1357 dL_law_1353 (by decide) ?_
      refine g_lcmp 0 dL_law_1357 (lcmp_same (by omega)) ?_
      refine g_if_eq 1363 dL_law_1358 (by decide) (fun _ => ?_) (fun c => absurd rfl c) (by omega)
      refine g_goto 1422 dL_law_1363 (by decide) ?_
      refine g_lv [2, 3, 4, 5, 6] rfl ?_
      exact kk V1 W1 _ hi1
set_option maxHeartbeats 8000000 in
theorem law_changes {l : Launch} {D : va_G} {τ : Nat → ClassId} {a : Nat → Nat} {x : Ctx} {b N i c0 s0 : Nat} {xs : Nat → Int32} {V W : Mem} {o : Int} (ha : Apart (LL τ) a) (hx : scr x b N xs) (z0 : zer x) (rd : rdy x) (hi : i + 8 ≤ N) (hN : N ≤ 4098) (hR : c0 + 1 ≤ 601024 ∧ s0 + 6 ≤ 7293000) {P R : Int → Mem → Prop} (hH : CH l D (tysL τ) (LL τ) a yL_changes iL_changes hhL_changes [.ref (a 0), .int (iN (xs (i + 1)).toInt), .ref (a 143)] (mem3 V W o) P) (hM : CI l D (tysL τ) (LM τ) (fun i => a (121 + i)) yX7_changes mX7_changes [.ref (a 121), .int (iN (xs (i + 1)).toInt)] W R) (hj : ∀ r U, P r U → ∃ V1 o1, U = mem3 V1 W o1 ∧ (0 ≤ r ∧ r ≤ 2) ∧ ∀ z1 W1, R z1 W1 → inv V1 W1 ∧ W1 0 0 = r ∧ (r = 0 → o1 = (cz z1))) (kk : ∀ V' W' o', inv V' W' → G l D (tysL τ) (LL τ) a iLaw (bmp x (c0 + 1) (s0 + 6)) 1422 (LV a b i) [] (mem3 V' W' o')) : G l D (tysL τ) (LL τ) a iLaw (bmp x c0 s0) 1366 (LV a b i) [] (mem3 V W o) := by
  refine g_aload_n 1 dL_law_1366 rfl rfl ?_
  refine g_aload_n 0 dL_law_1367 rfl rfl ?_
  refine g_iload 4 dL_law_1368 rfl ?_
  refine g_iconst dL_law_1370 ?_
  refine g_iadd dL_law_1371 ?_
  refine g_sld (i := i + 1) hx.bmp (by omega) (by omega) (by omega) dL_law_1372 ?_
  refine g_aload_n 3 dL_law_1373 rfl rfl ?_
  refine g_callSH [.ref (a 0), .int (iN (xs (i + 1)).toInt), .ref (a 143)] z0 rd hH wL_changes ⟨by decide, by decide, rfl, rfl⟩ hR rfl (Nat.le_of_ble_eq_true rfl) dL_law_1374 rfl (fun r U hU => ?_)
  obtain ⟨V1, o1, rfl, hr, hj1⟩ := hj r U hU
  refine g_istore ((5, .int (iN r)) :: LV a b i) dL_law_1377 (by decide) rfl ?_
  refine g_aload_n 3 dL_law_1379 rfl rfl ?_
  refine g_aload_n 1 dL_law_1380 rfl rfl ?_
  refine g_iload 5 dL_law_1381 rfl ?_
  refine g_iconst dL_law_1383 ?_
  refine g_iadd dL_law_1384 ?_
  refine g_sld (i := i + 1) hx.bmp (by omega) (by omega) (by omega) dL_law_1385 ?_
  refine g_embI (k := 0) [.int (iN (xs (i + 1)).toInt)] emb_M hM u141 om_0 rfl rfl ⟨rfl, rfl, by decide, by decide⟩ rfl (Nat.le_of_ble_eq_true rfl) dL_law_1386 rfl (fun z1 W1 hz => ?_)
  rw [put_M]
  obtain ⟨hi1, ht1, ho1⟩ := hj1 z1 W1 hz
  refine g_istore ((6, .int (iN z1)) :: (5, .int (iN r)) :: LV a b i) dL_law_1389 (by decide) rfl ?_
  refine g_aload_n 4 dL_law_1391 rfl rfl ?_
  refine g_embI (k := 0) [] emb_M (met_X7_thrown (ap_M ha)) u80 om_0 rfl rfl ⟨rfl, rfl, by decide, by decide⟩ rfl (Nat.le_of_ble_eq_true rfl) dL_law_1392 rfl (fun z2 W2 hz2 => ?_)
  rw [put_M, hz2.2, hz2.1, ht1]
  refine g_iload 1 dL_law_1395 rfl ?_
  refine g_icmp_eq 1402 dL_law_1397 (by decide) (fun _ => ?_) (fun c => absurd rfl c) (by omega) (by omega)
  refine g_iload 1 dL_law_1402 rfl ?_
  refine g_if_ne 1419 dL_law_1404 (by decide) (fun _ => ?_) (fun c => ?_) (by omega)
  · refine g_goto 1422 dL_law_1419 (by decide) ?_
    refine g_lv [2, 3, 4, 5, 6] rfl ?_
    exact kk V1 W1 _ hi1
  · refine g_aload_n 5 dL_law_1407 rfl rfl ?_
    refine g_iconst dL_law_1408 ?_
    refine g_lald 143 0 al_143 dL_law_1409 rfl (by decide) ?_
    refine g_topl (v := o1) rfl ?_
    rw [ho1 c]
    refine g_iload 0 dL_law_1410 rfl ?_
    refine g_canon ?_
    refine g_i2l dL_law_1412 (cz_in z1) ?_
    refine g_lcmp 0 dL_law_1413 (lcmp_same (by have := cz_in z1; omega)) ?_
    refine g_if_eq 1419 dL_law_1414 (by decide) (fun _ => ?_) (fun c => absurd rfl c) (by omega)
    refine g_goto 1422 dL_law_1419 (by decide) ?_
    refine g_lv [2, 3, 4, 5, 6] rfl ?_
    exact kk V1 W1 _ hi1
set_option maxHeartbeats 8000000 in
theorem law_proved {l : Launch} {D : va_G} {τ : Nat → ClassId} {a : Nat → Nat} {x : Ctx} {b N i c0 s0 : Nat} {xs : Nat → Int32} {V W : Mem} {o : Int} (ha : Apart (LL τ) a) (hx : scr x b N xs) (z0 : zer x) (rd : rdy x) (hi : i + 8 ≤ N) (hN : N ≤ 4098) (hR : c0 + 1 ≤ 601024 ∧ s0 + 6 ≤ 7293000) (hinv : inv V W) (kk : ∀ V' W' o', inv V' W' → G l D (tysL τ) (LL τ) a iLaw (bmp x (c0 + 1) (s0 + 6)) 1422 (LV a b i) [] (mem3 V' W' o')) : G l D (tysL τ) (LL τ) a iLaw (bmp x c0 s0) 851 (LV a b i) [] (mem3 V W o) := by
  obtain ⟨us, hus⟩ : ∃ us : Nat, V 0 9 = (us : Int) := ⟨_, (Int.toNat_of_nonneg hinv.1.1.2.2.1.1).symm⟩
  refine g_aload_n 1 dL_law_851 rfl rfl ?_
  refine g_embI (k := 0) [] emb_X (met_X6_proved (ap_X ha) us hinv.1.1 hus) u109 ox_0 rfl rfl ⟨rfl, rfl, by decide, by decide⟩ rfl (Nat.le_of_ble_eq_true rfl) dL_law_852 rfl (fun z1 V1 hz1 => ?_)
  rw [put_X]
  refine g_aload_n 2 dL_law_855 rfl rfl ?_
  refine g_embI (k := 0) [] emb_M (met_X7_proved (ap_M ha) us (okR_of hinv) (by rw [hinv.2.2.2.2.2.2.1]; exact hus)) u113 om_0 rfl rfl ⟨rfl, rfl, by decide, by decide⟩ rfl (Nat.le_of_ble_eq_true rfl) dL_law_856 rfl (fun z2 W2 hz2 => ?_)
  rw [put_M]
  obtain ⟨e1, e2, e3, e4⟩ := ans_proved us hus hinv hz1 hz2
  subst e1
  refine g_icmp_eq 1422 dL_law_859 (by decide) (fun _ => ?_) (fun c => absurd rfl c) (by omega) (by omega)
  refine g_wid z0 (c1 := c0 + 1) (s1 := s0 + 6) (by omega) (by omega) hR ?_
  exact kk V1 W2 o e2
set_option maxHeartbeats 8000000 in
theorem law_bound {l : Launch} {D : va_G} {τ : Nat → ClassId} {a : Nat → Nat} {x : Ctx} {b N i c0 s0 : Nat} {xs : Nat → Int32} {V W : Mem} {o : Int} (ha : Apart (LL τ) a) (hx : scr x b N xs) (z0 : zer x) (rd : rdy x) (hi : i + 8 ≤ N) (hN : N ≤ 4098) (hR : c0 + 1 ≤ 601024 ∧ s0 + 6 ≤ 7293000) (hinv : inv V W) (kk : ∀ V' W' o', inv V' W' → G l D (tysL τ) (LL τ) a iLaw (bmp x (c0 + 1) (s0 + 6)) 1422 (LV a b i) [] (mem3 V' W' o')) : G l D (tysL τ) (LL τ) a iLaw (bmp x c0 s0) 864 (LV a b i) [] (mem3 V W o) := by
  obtain ⟨us, hus⟩ : ∃ us : Nat, V 0 9 = (us : Int) := ⟨_, (Int.toNat_of_nonneg hinv.1.1.2.2.1.1).symm⟩
  obtain ⟨kc, hkc⟩ : ∃ kc : Nat, V 2 6 = (kc : Int) := ⟨_, (Int.toNat_of_nonneg hinv.1.1.2.2.2.1.1).symm⟩
  refine g_aload_n 1 dL_law_864 rfl rfl ?_
  refine g_embL (k := 0) [] emb_X (met_X6_bound (ap_X ha) us kc hinv.1.1 hus hkc) u114 ox_0 rfl rfl ⟨rfl, rfl, by decide, by decide⟩ rfl (Nat.le_of_ble_eq_true rfl) dL_law_865 rfl (fun z1 V1 hz1 => ?_)
  rw [put_X]
  refine g_aload_n 2 dL_law_868 rfl rfl ?_
  refine g_embL (k := 0) [] emb_M (met_X7_bound (ap_M ha) kc (by rw [hinv.2.2.2.1]; exact hkc) us (by rw [hinv.2.2.2.2.2.2.1]; exact hus) (okR_of hinv)) u118 om_0 rfl rfl ⟨rfl, rfl, by decide, by decide⟩ rfl (Nat.le_of_ble_eq_true rfl) dL_law_869 rfl (fun z2 W2 hz2 => ?_)
  rw [put_M]
  obtain ⟨e1, e2, e3, e4⟩ := ans_bound us kc hus hkc hinv hz1 hz2
  subst e1
  refine g_lcmp 0 dL_law_872 (lcmp_same (by omega)) ?_
  refine g_if_eq 1422 dL_law_873 (by decide) (fun _ => ?_) (fun c => absurd rfl c) (by omega)
  refine g_wid z0 (c1 := c0 + 1) (s1 := s0 + 6) (by omega) (by omega) hR ?_
  exact kk V1 W2 o e2

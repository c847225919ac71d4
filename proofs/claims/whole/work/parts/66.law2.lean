/-! ===== the law: its twenty calls ===== -/
section LAW2
variable {x : mX} {p : Program} {e : Env} {s : State} {m : MethodId} {below : List Frame} {meth : Method} {c : Code} {b L : Nat} {xs : Nat → Int32} {Qe : State → Prop} {pc : Nat} {i : Int} {h : mH} {a : Ab}
theorem la_type (C : Lc x p s m c b L xs) (i0 : 0 ≤ i) (i1 : i + 6 ≤ L) (I : LpS h a ∧ MdS h a ∧ AbOk a) (K : ∀ (h' : mH) (a' : Ab), LpS h' a' ∧ MdS h' a' ∧ AbOk a' → La x p e s m below meth c b Qe 608 i [] h') : La x p e s m below meth c b Qe 128 i [] h := by
  refine la_x C dL_law_128 ?_
  refine la_arg (k := 1) C i0 i1 dL_law_129 dL_law_130 dL_law_131 dL_law_132 dL_law_133 (by decide) (by decide) ?_
  refine la_call (N := mtX9_type) (o := 0) (cc := 8) (as := [xI (sc xs i 1)]) (st := []) C rfl vlL_13 dL_law_134 (by decide) rfl rfl rfl (by decide) (Nat.le_of_ble_eq_true rfl) rfl ?_
  refine lp_type I.1 I.2.2 (fun h1 L1 F1 => ?_)
  refine la_m C dL_law_137 ?_
  refine la_arg (k := 1) C i0 i1 dL_law_138 dL_law_139 dL_law_140 dL_law_141 dL_law_142 (by decide) (by decide) ?_
  refine la_call (N := mtX10_type) (o := 52) (cc := 9) (as := [xI (sc xs i 1)]) (st := [xI _]) C rfl vlL_17 dL_law_143 (by decide) rfl rfl rfl (by decide) (Nat.le_of_ble_eq_true rfl) rfl ?_
  refine md_type (I.2.1.congr F1) I.2.2 (fun h2 M2 F2 => ?_)
  refine la_eq C dL_law_146 rfl ?_
  exact K _ _ ⟨(L1.congr F2), M2, (ok_type _ I.2.2)⟩
theorem la_clear (C : Lc x p s m c b L xs) (i0 : 0 ≤ i) (i1 : i + 6 ≤ L) (I : LpS h a ∧ MdS h a ∧ AbOk a) (K : ∀ (h' : mH) (a' : Ab), LpS h' a' ∧ MdS h' a' ∧ AbOk a' → La x p e s m below meth c b Qe 608 i [] h') : La x p e s m below meth c b Qe 151 i [] h := by
  refine la_x C dL_law_151 ?_
  refine la_call (N := mtX9_clear) (o := 0) (cc := 8) (as := []) (st := []) C rfl vlL_18 dL_law_152 (by decide) rfl rfl rfl (by decide) (Nat.le_of_ble_eq_true rfl) rfl ?_
  refine lp_clear I.1 I.2.2 (fun h1 L1 F1 => ?_)
  refine la_m C dL_law_155 ?_
  refine la_call (N := mtX10_clear) (o := 52) (cc := 9) (as := []) (st := [xI _]) C rfl vlL_22 dL_law_156 (by decide) rfl rfl rfl (by decide) (Nat.le_of_ble_eq_true rfl) rfl ?_
  refine md_clear (I.2.1.congr F1) I.2.2 (fun h2 M2 F2 => ?_)
  refine la_eq C dL_law_159 rfl ?_
  exact K _ _ ⟨(L1.congr F2), M2, (ok_clear I.2.2)⟩
theorem la_begins (C : Lc x p s m c b L xs) (i0 : 0 ≤ i) (i1 : i + 6 ≤ L) (I : LpS h a ∧ MdS h a ∧ AbOk a) (K : ∀ (h' : mH) (a' : Ab), LpS h' a' ∧ MdS h' a' ∧ AbOk a' → La x p e s m below meth c b Qe 608 i [] h') : La x p e s m below meth c b Qe 164 i [] h := by
  refine la_x C dL_law_164 ?_
  refine la_arg (k := 1) C i0 i1 dL_law_165 dL_law_166 dL_law_167 dL_law_168 dL_law_169 (by decide) (by decide) ?_
  refine la_arg (k := 2) C i0 i1 dL_law_170 dL_law_171 dL_law_172 dL_law_173 dL_law_174 (by decide) (by decide) ?_
  refine la_arg (k := 3) C i0 i1 dL_law_175 dL_law_176 dL_law_177 dL_law_178 dL_law_179 (by decide) (by decide) ?_
  refine la_arg (k := 4) C i0 i1 dL_law_180 dL_law_181 dL_law_182 dL_law_183 dL_law_184 (by decide) (by decide) ?_
  refine la_call (N := mtX9_begins) (o := 0) (cc := 8) (as := [xI (sc xs i 1), xI (sc xs i 2), xI (sc xs i 3), xI (sc xs i 4)]) (st := []) C rfl vlL_23 dL_law_185 (by decide) rfl rfl rfl (by decide) (Nat.le_of_ble_eq_true rfl) rfl ?_
  refine lp_begins I.1 I.2.2 (fun h1 L1 F1 => ?_)
  refine la_m C dL_law_188 ?_
  refine la_arg (k := 1) C i0 i1 dL_law_189 dL_law_190 dL_law_191 dL_law_192 dL_law_193 (by decide) (by decide) ?_
  refine la_arg (k := 2) C i0 i1 dL_law_194 dL_law_195 dL_law_196 dL_law_197 dL_law_198 (by decide) (by decide) ?_
  refine la_arg (k := 3) C i0 i1 dL_law_199 dL_law_200 dL_law_201 dL_law_202 dL_law_203 (by decide) (by decide) ?_
  refine la_arg (k := 4) C i0 i1 dL_law_204 dL_law_205 dL_law_206 dL_law_207 dL_law_208 (by decide) (by decide) ?_
  refine la_call (N := mtX10_begins) (o := 52) (cc := 9) (as := [xI (sc xs i 1), xI (sc xs i 2), xI (sc xs i 3), xI (sc xs i 4)]) (st := [xI _]) C rfl vlL_27 dL_law_209 (by decide) rfl rfl rfl (by decide) (Nat.le_of_ble_eq_true rfl) rfl ?_
  refine md_begins (I.2.1.congr F1) I.2.2 (fun h2 M2 F2 => ?_)
  refine la_eq C dL_law_212 rfl ?_
  exact K _ _ ⟨(L1.congr F2), M2, (ok_begins _ _ _ _ I.2.2)⟩
theorem la_packs (C : Lc x p s m c b L xs) (i0 : 0 ≤ i) (i1 : i + 6 ≤ L) (I : LpS h a ∧ MdS h a ∧ AbOk a) (K : ∀ (h' : mH) (a' : Ab), LpS h' a' ∧ MdS h' a' ∧ AbOk a' → La x p e s m below meth c b Qe 608 i [] h') : La x p e s m below meth c b Qe 217 i [] h := by
  refine la_x C dL_law_217 ?_
  refine la_arg (k := 1) C i0 i1 dL_law_218 dL_law_219 dL_law_220 dL_law_221 dL_law_222 (by decide) (by decide) ?_
  refine la_call (N := mtX9_packs) (o := 0) (cc := 8) (as := [xI (sc xs i 1)]) (st := []) C rfl vlL_28 dL_law_223 (by decide) rfl rfl rfl (by decide) (Nat.le_of_ble_eq_true rfl) rfl ?_
  refine lp_packs I.1 I.2.2 (fun h1 L1 F1 => ?_)
  refine la_m C dL_law_226 ?_
  refine la_arg (k := 1) C i0 i1 dL_law_227 dL_law_228 dL_law_229 dL_law_230 dL_law_231 (by decide) (by decide) ?_
  refine la_call (N := mtX10_packs) (o := 52) (cc := 9) (as := [xI (sc xs i 1)]) (st := [xI _]) C rfl vlL_31 dL_law_232 (by decide) rfl rfl rfl (by decide) (Nat.le_of_ble_eq_true rfl) rfl ?_
  refine md_packs (I.2.1.congr F1) I.2.2 (fun h2 M2 F2 => ?_)
  refine la_eq C dL_law_235 rfl ?_
  exact K _ _ ⟨(L1.congr F2), M2, (ok_packs _ I.2.2)⟩
theorem la_word (C : Lc x p s m c b L xs) (i0 : 0 ≤ i) (i1 : i + 6 ≤ L) (I : LpS h a ∧ MdS h a ∧ AbOk a) (K : ∀ (h' : mH) (a' : Ab), LpS h' a' ∧ MdS h' a' ∧ AbOk a' → La x p e s m below meth c b Qe 608 i [] h') : La x p e s m below meth c b Qe 240 i [] h := by
  refine la_x C dL_law_240 ?_
  refine la_call (N := mtX9_word) (o := 0) (cc := 8) (as := []) (st := []) C rfl vlL_32 dL_law_241 (by decide) rfl rfl rfl (by decide) (Nat.le_of_ble_eq_true rfl) rfl ?_
  refine lp_word I.1 I.2.2 (fun h1 L1 F1 => ?_)
  refine la_m C dL_law_244 ?_
  refine la_call (N := mtX10_word) (o := 52) (cc := 9) (as := []) (st := [xI _]) C rfl vlL_35 dL_law_245 (by decide) rfl rfl rfl (by decide) (Nat.le_of_ble_eq_true rfl) rfl ?_
  refine md_word (I.2.1.congr F1) I.2.2 (fun h2 M2 F2 => ?_)
  refine la_eq C dL_law_248 rfl ?_
  exact K _ _ ⟨(L1.congr F2), M2, (ok_word I.2.2)⟩
theorem la_cuts (C : Lc x p s m c b L xs) (i0 : 0 ≤ i) (i1 : i + 6 ≤ L) (I : LpS h a ∧ MdS h a ∧ AbOk a) (K : ∀ (h' : mH) (a' : Ab), LpS h' a' ∧ MdS h' a' ∧ AbOk a' → La x p e s m below meth c b Qe 608 i [] h') : La x p e s m below meth c b Qe 253 i [] h := by
  refine la_x C dL_law_253 ?_
  refine la_arg (k := 1) C i0 i1 dL_law_254 dL_law_255 dL_law_256 dL_law_257 dL_law_258 (by decide) (by decide) ?_
  refine la_call (N := mtX9_cuts) (o := 0) (cc := 8) (as := [xI (sc xs i 1)]) (st := []) C rfl vlL_36 dL_law_259 (by decide) rfl rfl rfl (by decide) (Nat.le_of_ble_eq_true rfl) rfl ?_
  refine lp_cuts I.1 I.2.2 (fun h1 L1 F1 => ?_)
  refine la_m C dL_law_262 ?_
  refine la_arg (k := 1) C i0 i1 dL_law_263 dL_law_264 dL_law_265 dL_law_266 dL_law_267 (by decide) (by decide) ?_
  refine la_call (N := mtX10_cuts) (o := 52) (cc := 9) (as := [xI (sc xs i 1)]) (st := [xI _]) C rfl vlL_39 dL_law_268 (by decide) rfl rfl rfl (by decide) (Nat.le_of_ble_eq_true rfl) rfl ?_
  refine md_cuts (I.2.1.congr F1) I.2.2 (fun h2 M2 F2 => ?_)
  refine la_eq C dL_law_271 rfl ?_
  exact K _ _ ⟨(L1.congr F2), M2, (ok_cuts _ I.2.2)⟩
theorem la_undo (C : Lc x p s m c b L xs) (i0 : 0 ≤ i) (i1 : i + 6 ≤ L) (I : LpS h a ∧ MdS h a ∧ AbOk a) (K : ∀ (h' : mH) (a' : Ab), LpS h' a' ∧ MdS h' a' ∧ AbOk a' → La x p e s m below meth c b Qe 608 i [] h') : La x p e s m below meth c b Qe 276 i [] h := by
  refine la_x C dL_law_276 ?_
  refine la_call (N := mtX9_undo) (o := 0) (cc := 8) (as := []) (st := []) C rfl vlL_40 dL_law_277 (by decide) rfl rfl rfl (by decide) (Nat.le_of_ble_eq_true rfl) rfl ?_
  refine lp_undo I.1 I.2.2 (fun h1 L1 F1 => ?_)
  refine la_m C dL_law_280 ?_
  refine la_call (N := mtX10_undo) (o := 52) (cc := 9) (as := []) (st := [xI _]) C rfl vlL_43 dL_law_281 (by decide) rfl rfl rfl (by decide) (Nat.le_of_ble_eq_true rfl) rfl ?_
  refine md_undo (I.2.1.congr F1) I.2.2 (fun h2 M2 F2 => ?_)
  refine la_eq C dL_law_284 rfl ?_
  exact K _ _ ⟨(L1.congr F2), M2, (ok_undo I.2.2)⟩
theorem la_sign (C : Lc x p s m c b L xs) (i0 : 0 ≤ i) (i1 : i + 6 ≤ L) (I : LpS h a ∧ MdS h a ∧ AbOk a) (K : ∀ (h' : mH) (a' : Ab), LpS h' a' ∧ MdS h' a' ∧ AbOk a' → La x p e s m below meth c b Qe 608 i [] h') : La x p e s m below meth c b Qe 289 i [] h := by
  refine la_x C dL_law_289 ?_
  refine la_arg (k := 1) C i0 i1 dL_law_290 dL_law_291 dL_law_292 dL_law_293 dL_law_294 (by decide) (by decide) ?_
  refine la_call (N := mtX9_sign) (o := 0) (cc := 8) (as := [xI (sc xs i 1)]) (st := []) C rfl vlL_44 dL_law_295 (by decide) rfl rfl rfl (by decide) (Nat.le_of_ble_eq_true rfl) rfl ?_
  refine lp_sign I.1 I.2.2 ?_
  refine la_m C dL_law_298 ?_
  refine la_arg (k := 1) C i0 i1 dL_law_299 dL_law_300 dL_law_301 dL_law_302 dL_law_303 (by decide) (by decide) ?_
  refine la_call (N := mtX10_sign) (o := 52) (cc := 9) (as := [xI (sc xs i 1)]) (st := [xI _]) C rfl vlL_47 dL_law_304 (by decide) rfl rfl rfl (by decide) (Nat.le_of_ble_eq_true rfl) rfl ?_
  refine md_sign I.2.1 I.2.2 ?_
  refine la_eq C dL_law_307 rfl ?_
  exact K _ _ ⟨I.1, I.2.1, I.2.2⟩
theorem la_count (C : Lc x p s m c b L xs) (i0 : 0 ≤ i) (i1 : i + 6 ≤ L) (I : LpS h a ∧ MdS h a ∧ AbOk a) (K : ∀ (h' : mH) (a' : Ab), LpS h' a' ∧ MdS h' a' ∧ AbOk a' → La x p e s m below meth c b Qe 608 i [] h') : La x p e s m below meth c b Qe 312 i [] h := by
  refine la_x C dL_law_312 ?_
  refine la_arg (k := 1) C i0 i1 dL_law_313 dL_law_314 dL_law_315 dL_law_316 dL_law_317 (by decide) (by decide) ?_
  refine la_arg (k := 2) C i0 i1 dL_law_318 dL_law_319 dL_law_320 dL_law_321 dL_law_322 (by decide) (by decide) ?_
  refine la_arg (k := 3) C i0 i1 dL_law_323 dL_law_324 dL_law_325 dL_law_326 dL_law_327 (by decide) (by decide) ?_
  refine la_arg (k := 4) C i0 i1 dL_law_328 dL_law_329 dL_law_330 dL_law_331 dL_law_332 (by decide) (by decide) ?_
  refine la_arg (k := 5) C i0 i1 dL_law_333 dL_law_334 dL_law_335 dL_law_336 dL_law_337 (by decide) (by decide) ?_
  refine la_call (N := mtX9_count) (o := 0) (cc := 8) (as := [xI (sc xs i 1), xI (sc xs i 2), xI (sc xs i 3), xI (sc xs i 4), xI (sc xs i 5)]) (st := []) C rfl vlL_48 dL_law_338 (by decide) rfl rfl rfl (by decide) (Nat.le_of_ble_eq_true rfl) rfl ?_
  refine lp_count I.1 I.2.2 ?_
  refine la_m C dL_law_341 ?_
  refine la_arg (k := 1) C i0 i1 dL_law_342 dL_law_343 dL_law_344 dL_law_345 dL_law_346 (by decide) (by decide) ?_
  refine la_arg (k := 2) C i0 i1 dL_law_347 dL_law_348 dL_law_349 dL_law_350 dL_law_351 (by decide) (by decide) ?_
  refine la_arg (k := 3) C i0 i1 dL_law_352 dL_law_353 dL_law_354 dL_law_355 dL_law_356 (by decide) (by decide) ?_
  refine la_arg (k := 4) C i0 i1 dL_law_357 dL_law_358 dL_law_359 dL_law_360 dL_law_361 (by decide) (by decide) ?_
  refine la_arg (k := 5) C i0 i1 dL_law_362 dL_law_363 dL_law_364 dL_law_365 dL_law_366 (by decide) (by decide) ?_
  refine la_call (N := mtX10_count) (o := 52) (cc := 9) (as := [xI (sc xs i 1), xI (sc xs i 2), xI (sc xs i 3), xI (sc xs i 4), xI (sc xs i 5)]) (st := [xI _]) C rfl vlL_52 dL_law_367 (by decide) rfl rfl rfl (by decide) (Nat.le_of_ble_eq_true rfl) rfl ?_
  refine md_count I.2.1 I.2.2 (fun h2 M2 F2 => ?_)
  refine la_eq C dL_law_370 rfl ?_
  exact K _ _ ⟨(I.1.congr F2), M2, I.2.2⟩
theorem la_bit (C : Lc x p s m c b L xs) (i0 : 0 ≤ i) (i1 : i + 6 ≤ L) (I : LpS h a ∧ MdS h a ∧ AbOk a) (K : ∀ (h' : mH) (a' : Ab), LpS h' a' ∧ MdS h' a' ∧ AbOk a' → La x p e s m below meth c b Qe 608 i [] h') : La x p e s m below meth c b Qe 375 i [] h := by
  refine la_x C dL_law_375 ?_
  refine la_arg (k := 1) C i0 i1 dL_law_376 dL_law_377 dL_law_378 dL_law_379 dL_law_380 (by decide) (by decide) ?_
  refine la_call (N := mtX9_bit) (o := 0) (cc := 8) (as := [xI (sc xs i 1)]) (st := []) C rfl vlL_53 dL_law_381 (by decide) rfl rfl rfl (by decide) (Nat.le_of_ble_eq_true rfl) rfl ?_
  refine lp_bit I.1 I.2.2 ?_
  refine la_m C dL_law_384 ?_
  refine la_arg (k := 1) C i0 i1 dL_law_385 dL_law_386 dL_law_387 dL_law_388 dL_law_389 (by decide) (by decide) ?_
  refine la_call (N := mtX10_bit) (o := 52) (cc := 9) (as := [xI (sc xs i 1)]) (st := [xI _]) C rfl vlL_56 dL_law_390 (by decide) rfl rfl rfl (by decide) (Nat.le_of_ble_eq_true rfl) rfl ?_
  refine md_bit I.2.1 I.2.2 (fun h2 M2 F2 => ?_)
  refine la_eq C dL_law_393 rfl ?_
  exact K _ _ ⟨(I.1.congr F2), M2, I.2.2⟩
theorem la_chance (C : Lc x p s m c b L xs) (i0 : 0 ≤ i) (i1 : i + 6 ≤ L) (I : LpS h a ∧ MdS h a ∧ AbOk a) (K : ∀ (h' : mH) (a' : Ab), LpS h' a' ∧ MdS h' a' ∧ AbOk a' → La x p e s m below meth c b Qe 608 i [] h') : La x p e s m below meth c b Qe 398 i [] h := by
  refine la_x C dL_law_398 ?_
  refine la_arg (k := 1) C i0 i1 dL_law_399 dL_law_400 dL_law_401 dL_law_402 dL_law_403 (by decide) (by decide) ?_
  refine la_arg (k := 2) C i0 i1 dL_law_404 dL_law_405 dL_law_406 dL_law_407 dL_law_408 (by decide) (by decide) ?_
  refine la_call (N := mtX9_chance) (o := 0) (cc := 8) (as := [xI (sc xs i 1), xI (sc xs i 2)]) (st := []) C rfl vlL_57 dL_law_409 (by decide) rfl rfl rfl (by decide) (Nat.le_of_ble_eq_true rfl) rfl ?_
  refine lp_chance I.1 I.2.2 (fun h1 L1 F1 => ?_)
  refine la_m C dL_law_412 ?_
  refine la_arg (k := 1) C i0 i1 dL_law_413 dL_law_414 dL_law_415 dL_law_416 dL_law_417 (by decide) (by decide) ?_
  refine la_arg (k := 2) C i0 i1 dL_law_418 dL_law_419 dL_law_420 dL_law_421 dL_law_422 (by decide) (by decide) ?_
  refine la_call (N := mtX10_chance) (o := 52) (cc := 9) (as := [xI (sc xs i 1), xI (sc xs i 2)]) (st := [xI _]) C rfl vlL_61 dL_law_423 (by decide) rfl rfl rfl (by decide) (Nat.le_of_ble_eq_true rfl) rfl ?_
  refine md_chance (I.2.1.congr F1) I.2.2 (fun h2 M2 F2 => ?_)
  refine la_eq C dL_law_426 rfl ?_
  exact K _ _ ⟨(L1.congr F2), M2, I.2.2⟩
theorem la_escapes (C : Lc x p s m c b L xs) (i0 : 0 ≤ i) (i1 : i + 6 ≤ L) (I : LpS h a ∧ MdS h a ∧ AbOk a) (K : ∀ (h' : mH) (a' : Ab), LpS h' a' ∧ MdS h' a' ∧ AbOk a' → La x p e s m below meth c b Qe 608 i [] h') : La x p e s m below meth c b Qe 431 i [] h := by
  refine la_x C dL_law_431 ?_
  refine la_arg (k := 1) C i0 i1 dL_law_432 dL_law_433 dL_law_434 dL_law_435 dL_law_436 (by decide) (by decide) ?_
  refine la_arg (k := 2) C i0 i1 dL_law_437 dL_law_438 dL_law_439 dL_law_440 dL_law_441 (by decide) (by decide) ?_
  refine la_call (N := mtX9_escapes) (o := 0) (cc := 8) (as := [xI (sc xs i 1), xI (sc xs i 2)]) (st := []) C rfl vlL_62 dL_law_442 (by decide) rfl rfl rfl (by decide) (Nat.le_of_ble_eq_true rfl) rfl ?_
  refine lp_escapes I.1 I.2.2 (fun h1 L1 F1 => ?_)
  refine la_m C dL_law_445 ?_
  refine la_arg (k := 1) C i0 i1 dL_law_446 dL_law_447 dL_law_448 dL_law_449 dL_law_450 (by decide) (by decide) ?_
  refine la_arg (k := 2) C i0 i1 dL_law_451 dL_law_452 dL_law_453 dL_law_454 dL_law_455 (by decide) (by decide) ?_
  refine la_call (N := mtX10_escapes) (o := 52) (cc := 9) (as := [xI (sc xs i 1), xI (sc xs i 2)]) (st := [xI _]) C rfl vlL_65 dL_law_456 (by decide) rfl rfl rfl (by decide) (Nat.le_of_ble_eq_true rfl) rfl ?_
  refine md_escapes (I.2.1.congr F1) I.2.2 (fun h2 M2 F2 => ?_)
  refine la_eq C dL_law_459 rfl ?_
  exact K _ _ ⟨(L1.congr F2), M2, I.2.2⟩
theorem la_likeliest (C : Lc x p s m c b L xs) (i0 : 0 ≤ i) (i1 : i + 6 ≤ L) (I : LpS h a ∧ MdS h a ∧ AbOk a) (K : ∀ (h' : mH) (a' : Ab), LpS h' a' ∧ MdS h' a' ∧ AbOk a' → La x p e s m below meth c b Qe 608 i [] h') : La x p e s m below meth c b Qe 464 i [] h := by
  refine la_x C dL_law_464 ?_
  refine la_call (N := mtX9_likeliest) (o := 0) (cc := 8) (as := []) (st := []) C rfl vlL_66 dL_law_465 (by decide) rfl rfl rfl (by decide) (Nat.le_of_ble_eq_true rfl) rfl ?_
  refine lp_likeliest I.1 I.2.2 (fun h1 L1 F1 => ?_)
  refine la_m C dL_law_468 ?_
  refine la_call (N := mtX10_likeliest) (o := 52) (cc := 9) (as := []) (st := [xI _]) C rfl vlL_69 dL_law_469 (by decide) rfl rfl rfl (by decide) (Nat.le_of_ble_eq_true rfl) rfl ?_
  refine md_likeliest (I.2.1.congr F1) I.2.2 (fun h2 M2 F2 => ?_)
  refine la_eq C dL_law_472 rfl ?_
  exact K _ _ ⟨(L1.congr F2), M2, I.2.2⟩
theorem la_length (C : Lc x p s m c b L xs) (i0 : 0 ≤ i) (i1 : i + 6 ≤ L) (I : LpS h a ∧ MdS h a ∧ AbOk a) (K : ∀ (h' : mH) (a' : Ab), LpS h' a' ∧ MdS h' a' ∧ AbOk a' → La x p e s m below meth c b Qe 608 i [] h') : La x p e s m below meth c b Qe 477 i [] h := by
  refine la_x C dL_law_477 ?_
  refine la_call (N := mtX9_length) (o := 0) (cc := 8) (as := []) (st := []) C rfl vlL_70 dL_law_478 (by decide) rfl rfl rfl (by decide) (Nat.le_of_ble_eq_true rfl) rfl ?_
  refine lp_length I.1 I.2.2 ?_
  refine la_m C dL_law_481 ?_
  refine la_call (N := mtX10_length) (o := 52) (cc := 9) (as := []) (st := [xI _]) C rfl vlL_73 dL_law_482 (by decide) rfl rfl rfl (by decide) (Nat.le_of_ble_eq_true rfl) rfl ?_
  refine md_length I.2.1 I.2.2 (fun h2 M2 F2 => ?_)
  refine la_eq C dL_law_485 rfl ?_
  exact K _ _ ⟨(I.1.congr F2), M2, I.2.2⟩
theorem la_best (C : Lc x p s m c b L xs) (i0 : 0 ≤ i) (i1 : i + 6 ≤ L) (I : LpS h a ∧ MdS h a ∧ AbOk a) (K : ∀ (h' : mH) (a' : Ab), LpS h' a' ∧ MdS h' a' ∧ AbOk a' → La x p e s m below meth c b Qe 608 i [] h') : La x p e s m below meth c b Qe 490 i [] h := by
  refine la_x C dL_law_490 ?_
  refine la_call (N := mtX9_best) (o := 0) (cc := 8) (as := []) (st := []) C rfl vlL_74 dL_law_491 (by decide) rfl rfl rfl (by decide) (Nat.le_of_ble_eq_true rfl) rfl ?_
  refine lp_best I.1 I.2.2 (fun h1 L1 F1 => ?_)
  refine la_m C dL_law_494 ?_
  refine la_call (N := mtX10_best) (o := 52) (cc := 9) (as := []) (st := [xI _]) C rfl vlL_77 dL_law_495 (by decide) rfl rfl rfl (by decide) (Nat.le_of_ble_eq_true rfl) rfl ?_
  refine md_best (I.2.1.congr F1) I.2.2 (fun h2 M2 F2 => ?_)
  refine la_eq C dL_law_498 rfl ?_
  exact K _ _ ⟨(L1.congr F2), M2, I.2.2⟩
theorem la_unpacked (C : Lc x p s m c b L xs) (i0 : 0 ≤ i) (i1 : i + 6 ≤ L) (I : LpS h a ∧ MdS h a ∧ AbOk a) (K : ∀ (h' : mH) (a' : Ab), LpS h' a' ∧ MdS h' a' ∧ AbOk a' → La x p e s m below meth c b Qe 608 i [] h') : La x p e s m below meth c b Qe 503 i [] h := by
  refine la_x C dL_law_503 ?_
  refine la_arg (k := 1) C i0 i1 dL_law_504 dL_law_505 dL_law_506 dL_law_507 dL_law_508 (by decide) (by decide) ?_
  refine la_call (N := mtX9_unpacked) (o := 0) (cc := 8) (as := [xI (sc xs i 1)]) (st := []) C rfl vlL_78 dL_law_509 (by decide) rfl rfl rfl (by decide) (Nat.le_of_ble_eq_true rfl) rfl ?_
  refine lp_unpacked I.1 I.2.2 (fun h1 L1 F1 => ?_)
  refine la_m C dL_law_512 ?_
  refine la_arg (k := 1) C i0 i1 dL_law_513 dL_law_514 dL_law_515 dL_law_516 dL_law_517 (by decide) (by decide) ?_
  refine la_call (N := mtX10_unpacked) (o := 52) (cc := 9) (as := [xI (sc xs i 1)]) (st := [xI _]) C rfl vlL_81 dL_law_518 (by decide) rfl rfl rfl (by decide) (Nat.le_of_ble_eq_true rfl) rfl ?_
  refine md_unpacked (I.2.1.congr F1) I.2.2 (fun h2 M2 F2 => ?_)
  refine la_eq C dL_law_521 rfl ?_
  exact K _ _ ⟨(L1.congr F2), M2, I.2.2⟩
theorem la_agrees (C : Lc x p s m c b L xs) (i0 : 0 ≤ i) (i1 : i + 6 ≤ L) (I : LpS h a ∧ MdS h a ∧ AbOk a) (K : ∀ (h' : mH) (a' : Ab), LpS h' a' ∧ MdS h' a' ∧ AbOk a' → La x p e s m below meth c b Qe 608 i [] h') : La x p e s m below meth c b Qe 526 i [] h := by
  refine la_x C dL_law_526 ?_
  refine la_call (N := mtX9_agrees) (o := 0) (cc := 8) (as := []) (st := []) C rfl vlL_82 dL_law_527 (by decide) rfl rfl rfl (by decide) (Nat.le_of_ble_eq_true rfl) rfl ?_
  refine lp_agrees I.1 I.2.2 (fun h1 L1 F1 => ?_)
  refine la_m C dL_law_530 ?_
  refine la_call (N := mtX10_agrees) (o := 52) (cc := 9) (as := []) (st := [xI _]) C rfl vlL_85 dL_law_531 (by decide) rfl rfl rfl (by decide) (Nat.le_of_ble_eq_true rfl) rfl ?_
  refine md_agrees (I.2.1.congr F1) I.2.2 (fun h2 M2 F2 => ?_)
  refine la_eq C dL_law_534 rfl ?_
  exact K _ _ ⟨(L1.congr F2), M2, I.2.2⟩
theorem la_keep (C : Lc x p s m c b L xs) (i0 : 0 ≤ i) (i1 : i + 6 ≤ L) (I : LpS h a ∧ MdS h a ∧ AbOk a) (K : ∀ (h' : mH) (a' : Ab), LpS h' a' ∧ MdS h' a' ∧ AbOk a' → La x p e s m below meth c b Qe 608 i [] h') : La x p e s m below meth c b Qe 539 i [] h := by
  refine la_x C dL_law_539 ?_
  refine la_arg (k := 1) C i0 i1 dL_law_540 dL_law_541 dL_law_542 dL_law_543 dL_law_544 (by decide) (by decide) ?_
  refine la_call (N := mtX9_keep) (o := 0) (cc := 8) (as := [xI (sc xs i 1)]) (st := []) C rfl vlL_86 dL_law_545 (by decide) rfl rfl rfl (by decide) (Nat.le_of_ble_eq_true rfl) rfl ?_
  refine lp_keep I.1 I.2.2 (fun h1 L1 F1 => ?_)
  refine la_m C dL_law_548 ?_
  refine la_arg (k := 1) C i0 i1 dL_law_549 dL_law_550 dL_law_551 dL_law_552 dL_law_553 (by decide) (by decide) ?_
  refine la_call (N := mtX10_keep) (o := 52) (cc := 9) (as := [xI (sc xs i 1)]) (st := [xI _]) C rfl vlL_89 dL_law_554 (by decide) rfl rfl rfl (by decide) (Nat.le_of_ble_eq_true rfl) rfl ?_
  refine md_keep (I.2.1.congr F1) I.2.2 (fun h2 M2 F2 => ?_)
  refine la_eq C dL_law_557 rfl ?_
  exact K _ _ ⟨(L1.congr F2), M2, (ok_keep _ I.2.2)⟩
theorem la_back (C : Lc x p s m c b L xs) (i0 : 0 ≤ i) (i1 : i + 6 ≤ L) (I : LpS h a ∧ MdS h a ∧ AbOk a) (K : ∀ (h' : mH) (a' : Ab), LpS h' a' ∧ MdS h' a' ∧ AbOk a' → La x p e s m below meth c b Qe 608 i [] h') : La x p e s m below meth c b Qe 562 i [] h := by
  refine la_x C dL_law_562 ?_
  refine la_arg (k := 1) C i0 i1 dL_law_563 dL_law_564 dL_law_565 dL_law_566 dL_law_567 (by decide) (by decide) ?_
  refine la_call (N := mtX9_back) (o := 0) (cc := 8) (as := [xI (sc xs i 1)]) (st := []) C rfl vlL_90 dL_law_568 (by decide) rfl rfl rfl (by decide) (Nat.le_of_ble_eq_true rfl) rfl ?_
  refine lp_back I.1 I.2.2 (fun h1 L1 F1 => ?_)
  refine la_m C dL_law_571 ?_
  refine la_arg (k := 1) C i0 i1 dL_law_572 dL_law_573 dL_law_574 dL_law_575 dL_law_576 (by decide) (by decide) ?_
  refine la_call (N := mtX10_back) (o := 52) (cc := 9) (as := [xI (sc xs i 1)]) (st := [xI _]) C rfl vlL_93 dL_law_577 (by decide) rfl rfl rfl (by decide) (Nat.le_of_ble_eq_true rfl) rfl ?_
  refine md_back (I.2.1.congr F1) I.2.2 (fun h2 M2 F2 => ?_)
  refine la_eq C dL_law_580 rfl ?_
  exact K _ _ ⟨(L1.congr F2), M2, (ok_back _ I.2.2)⟩
theorem la_told (C : Lc x p s m c b L xs) (i0 : 0 ≤ i) (i1 : i + 6 ≤ L) (I : LpS h a ∧ MdS h a ∧ AbOk a) (K : ∀ (h' : mH) (a' : Ab), LpS h' a' ∧ MdS h' a' ∧ AbOk a' → La x p e s m below meth c b Qe 608 i [] h') : La x p e s m below meth c b Qe 585 i [] h := by
  refine la_x C dL_law_585 ?_
  refine la_arg (k := 1) C i0 i1 dL_law_586 dL_law_587 dL_law_588 dL_law_589 dL_law_590 (by decide) (by decide) ?_
  refine la_call (N := mtX9_told) (o := 0) (cc := 8) (as := [xI (sc xs i 1)]) (st := []) C rfl vlL_94 dL_law_591 (by decide) rfl rfl rfl (by decide) (Nat.le_of_ble_eq_true rfl) rfl ?_
  refine lp_told I.1 ?_
  refine la_m C dL_law_594 ?_
  refine la_arg (k := 1) C i0 i1 dL_law_595 dL_law_596 dL_law_597 dL_law_598 dL_law_599 (by decide) (by decide) ?_
  refine la_call (N := mtX10_told) (o := 52) (cc := 9) (as := [xI (sc xs i 1)]) (st := [xI _]) C rfl vlL_97 dL_law_600 (by decide) rfl rfl rfl (by decide) (Nat.le_of_ble_eq_true rfl) rfl ?_
  refine md_told I.2.1 I.2.2 (fun h2 M2 F2 => ?_)
  refine la_eq C dL_law_603 rfl ?_
  exact K _ _ ⟨(I.1.congr F2), M2, I.2.2⟩
theorem la_calls (C : Lc x p s m c b L xs) (i0 : 0 ≤ i) (i1 : i + 6 ≤ L) (I : LpS h a ∧ MdS h a ∧ AbOk a) (K : ∀ (h' : mH) (a' : Ab), LpS h' a' ∧ MdS h' a' ∧ AbOk a' → La x p e s m below meth c b Qe 608 i [] h') : ∀ j, j < 20 → La x p e s m below meth c b Qe (tg j) i [] h
  | 0, _ => la_type C i0 i1 I K
  | 1, _ => la_clear C i0 i1 I K
  | 2, _ => la_begins C i0 i1 I K
  | 3, _ => la_packs C i0 i1 I K
  | 4, _ => la_word C i0 i1 I K
  | 5, _ => la_cuts C i0 i1 I K
  | 6, _ => la_undo C i0 i1 I K
  | 7, _ => la_sign C i0 i1 I K
  | 8, _ => la_count C i0 i1 I K
  | 9, _ => la_bit C i0 i1 I K
  | 10, _ => la_chance C i0 i1 I K
  | 11, _ => la_escapes C i0 i1 I K
  | 12, _ => la_likeliest C i0 i1 I K
  | 13, _ => la_length C i0 i1 I K
  | 14, _ => la_best C i0 i1 I K
  | 15, _ => la_unpacked C i0 i1 I K
  | 16, _ => la_agrees C i0 i1 I K
  | 17, _ => la_keep C i0 i1 I K
  | 18, _ => la_back C i0 i1 I K
  | 19, _ => la_told C i0 i1 I K
  | j + 20, hj => absurd hj (by omega)
end LAW2
theorem la_loop {x : mX} {p : Program} {e : Env} {s : State} {m : MethodId} {below : List Frame} {meth : Method} {c : Code} {b L : Nat} {xs : Nat → Int32} (C : Lc x p s m c b L xs) (hr : meth.sig.returnType = ret) (hlocks : meth.locks = false) : ∀ (n : Nat) (i : Int) (h : mH) (a : Ab), (L : Int) - i ≤ n → 0 ≤ i → i ≤ 4000 → LpS h a ∧ MdS h a ∧ AbOk a → La x p e s m below meth c b (lw_Z below #[Value.ref b] s) 18 i [] h
  | 0, i, h, a, hn, i0, i4, I => la_top C i0 i4 (fun q => absurd q (by omega)) (la_end C hr hlocks rfl)
  | n + 1, i, h, a, hn, i0, i4, I => by
    have hLb : L ≤ 3072 := C.2.2.2.2.2.2.2.2.2.2.1
    refine la_top C i0 i4 (fun q => ?_) (la_end C hr hlocks rfl)
    have K : ∀ (h' : mH) (a' : Ab), LpS h' a' ∧ MdS h' a' ∧ AbOk a' → La x p e s m below meth c b (lw_Z below #[Value.ref b] s) 608 i [] h' := fun h' a' I' => la_608 C (la_loop C hr hlocks n (i + 6) h' a' (by omega) (by omega) (by omega) I')
    exact la_sw C i0 q (la_calls C i0 q I K) (K h a I)

/-! the law's cases -/
def q_lvs (s : State) (sb i : Nat) : List (Nat × Value) := [(3, .int (Int32.ofInt (i : Int))), (2, .ref (s.heap.size + 64)), (1, .ref (s.heap.size + 0)), (0, .ref sb)]
theorem q_lv0 (s : State) (sb i : Nat) : (0, Value.ref sb) ∈ q_lvs s sb i := by unfold q_lvs; simp
theorem q_lv1 (s : State) (sb i : Nat) : (1, Value.ref (s.heap.size + 0)) ∈ q_lvs s sb i := by unfold q_lvs; simp
theorem q_lv2 (s : State) (sb i : Nat) : (2, Value.ref (s.heap.size + 64)) ∈ q_lvs s sb i := by unfold q_lvs; simp
theorem q_lv3 (s : State) (sb i : Nat) : (3, Value.int (Int32.ofInt (i : Int))) ∈ q_lvs s sb i := by unfold q_lvs; simp
def q_LN (p : Program) (l : Launch) (e : Env) (s : State) (m : MethodId) (below : List Frame) (meth : Method) (c : Code) (sb : Nat) (D : va_G) (dA : Nat → ClassId) (i cells slots : Nat) : Prop := ∀ (cells' slots' : Nat) (w0 : q_W) (μ ξ : m_S) (B P : Nat) (g : Int → Option Nat), cells ≤ cells' → cells' ≤ cells + 5 → slots' ≤ slots + 30 → z_R μ ξ B P g → q_L p l e s m below meth c sb D dA cells' slots' 1389 (q_lvs s sb i) [] (x_w (m_w w0 μ) ξ B P g)
theorem x_pw_m {w : q_W} {ξ μ : m_S} {B P : Nat} (hB : 76 ≤ B) : x_pw (m_w w μ) ξ B P = m_w (x_pw w ξ B P) μ := by
  funext a
  by_cases h7 : a < 76
  · have e1 : x_pw (m_w w μ) ξ B P a = m_w w μ a := if_neg (by omega)
    have e2 : x_pw w ξ B P a = w a := if_neg (by omega)
    rw [e1]
    unfold m_w
    rw [e2]
  · have e3 : m_w (x_pw w ξ B P) μ a = x_pw w ξ B P a := by
      unfold m_w
      repeat rw [if_neg (by omega)]
    have e4 : m_w w μ a = w a := by
      unfold m_w
      repeat rw [if_neg (by omega)]
    rw [e3]
    unfold x_pw
    rw [e4]
section QC
variable {p : Program} {l : Launch} {e : Env} {s : State} {m : MethodId} {below : List Frame} {meth : Method} {c : Code} {sb L : Nat} {xs : Nat → Int32} {D : va_G} {dA : Nat → ClassId} {cells slots i : Nat} {w0 : q_W} {μ ξ : m_S} {B P : Nat} {g : Int → Option Nat}
set_option maxRecDepth 20000 in
theorem q_Lc0 (C : q_LC p s m meth c sb L xs D dA) (hL : L ≤ 384) (hi : i + 6 ≤ L) (hc : cells + 5 ≤ 600000) (hs : slots + 30 ≤ 7302250) (h76 : 76 ≤ cells) (hR : z_R μ ξ B P g) (hK : q_LN p l e s m below meth c sb D dA i cells slots) : q_L p l e s m below meth c sb D dA cells slots 224 (q_lvs s sb i) [] (x_w (m_w w0 μ) ξ B P g) := by
  refine q_Lrf (i := 1) C (q_lv1 _ _ _) rfl dL_law_224 ?_
  refine q_Larg (i := i) (j := 1) C hL (by omega) (q_lv0 _ _ _) (q_lv3 _ _ _) dL_law_225 dL_law_226 dL_law_227 dL_law_228 dL_law_229 ?_
  refine q_Larg (i := i) (j := 2) C hL (by omega) (q_lv0 _ _ _) (q_lv3 _ _ _) dL_law_230 dL_law_231 dL_law_232 dL_law_233 dL_law_234 ?_
  refine q_Lcls [q_i ((xs (i + 1)).toInt), q_i ((xs (i + 2)).toInt)] C kL_13_11 (tX11_row (m_w w0 μ) μ ξ B P g hR ((xs (i + 1)).toInt) ((xs (i + 2)).toInt) (q_r_of _) (q_r_of _)) dL_law_235 rfl (by decide) (Nat.le_of_ble_eq_true rfl) rfl (by omega) (by omega) (fun σ hσ => ?_)
  refine q_Lrf (i := 2) C (q_lv2 _ _ _) rfl dL_law_238 ?_
  refine q_Larg (i := i) (j := 1) C hL (by omega) (q_lv0 _ _ _) (q_lv3 _ _ _) dL_law_239 dL_law_240 dL_law_241 dL_law_242 dL_law_243 ?_
  refine q_Larg (i := i) (j := 2) C hL (by omega) (q_lv0 _ _ _) (q_lv3 _ _ _) dL_law_244 dL_law_245 dL_law_246 dL_law_247 dL_law_248 ?_
  refine q_Lref [q_i ((xs (i + 1)).toInt), q_i ((xs (i + 2)).toInt)] C (hR.Ps.1) kL_17_12 (tX12_row (x_w w0 σ B P g) μ ((xs (i + 1)).toInt) ((xs (i + 2)).toInt) (q_r_of _) (q_r_of _)) dL_law_249 rfl (by decide) (Nat.le_of_ble_eq_true rfl) rfl (by omega) (by omega) ?_
  refine q_Leq C dL_law_252 (tgt := 1389) (by decide) ?_
  exact hK cells slots w0 _ σ B P g (by omega) (by omega) (by omega) hσ
set_option maxRecDepth 20000 in
theorem q_Lc1 (C : q_LC p s m meth c sb L xs D dA) (hL : L ≤ 384) (hi : i + 6 ≤ L) (hc : cells + 5 ≤ 600000) (hs : slots + 30 ≤ 7302250) (h76 : 76 ≤ cells) (hR : z_R μ ξ B P g) (hK : q_LN p l e s m below meth c sb D dA i cells slots) : q_L p l e s m below meth c sb D dA cells slots 257 (q_lvs s sb i) [] (x_w (m_w w0 μ) ξ B P g) := by
  refine q_Lrf (i := 1) C (q_lv1 _ _ _) rfl dL_law_257 ?_
  refine q_Larg (i := i) (j := 1) C hL (by omega) (q_lv0 _ _ _) (q_lv3 _ _ _) dL_law_258 dL_law_259 dL_law_260 dL_law_261 dL_law_262 ?_
  refine q_Larg (i := i) (j := 2) C hL (by omega) (q_lv0 _ _ _) (q_lv3 _ _ _) dL_law_263 dL_law_264 dL_law_265 dL_law_266 dL_law_267 ?_
  refine q_Larg (i := i) (j := 3) C hL (by omega) (q_lv0 _ _ _) (q_lv3 _ _ _) dL_law_268 dL_law_269 dL_law_270 dL_law_271 dL_law_272 ?_
  refine q_Lcls [q_i ((xs (i + 1)).toInt), q_i ((xs (i + 2)).toInt), q_i ((xs (i + 3)).toInt)] C kL_18_11 (tX11_lay (m_w w0 μ) μ ξ B P g hR ((xs (i + 1)).toInt) ((xs (i + 2)).toInt) ((xs (i + 3)).toInt) (q_r_of _) (q_r_of _) (q_r_of _)) dL_law_273 rfl (by decide) (Nat.le_of_ble_eq_true rfl) rfl (by omega) (by omega) (fun σ hσ => ?_)
  refine q_Lrf (i := 2) C (q_lv2 _ _ _) rfl dL_law_276 ?_
  refine q_Larg (i := i) (j := 1) C hL (by omega) (q_lv0 _ _ _) (q_lv3 _ _ _) dL_law_277 dL_law_278 dL_law_279 dL_law_280 dL_law_281 ?_
  refine q_Larg (i := i) (j := 2) C hL (by omega) (q_lv0 _ _ _) (q_lv3 _ _ _) dL_law_282 dL_law_283 dL_law_284 dL_law_285 dL_law_286 ?_
  refine q_Larg (i := i) (j := 3) C hL (by omega) (q_lv0 _ _ _) (q_lv3 _ _ _) dL_law_287 dL_law_288 dL_law_289 dL_law_290 dL_law_291 ?_
  refine q_Lref [q_i ((xs (i + 1)).toInt), q_i ((xs (i + 2)).toInt), q_i ((xs (i + 3)).toInt)] C (hR.Ps.1) kL_22_12 (tX12_lay (x_w w0 σ B P g) μ ((xs (i + 1)).toInt) ((xs (i + 2)).toInt) ((xs (i + 3)).toInt) (q_r_of _) (q_r_of _) hR.I) dL_law_292 rfl (by decide) (Nat.le_of_ble_eq_true rfl) rfl (by omega) (by omega) ?_
  refine q_Leq C dL_law_295 (tgt := 1389) (by decide) ?_
  exact hK cells slots w0 _ σ B P g (by omega) (by omega) (by omega) hσ
set_option maxRecDepth 20000 in
theorem q_Lc2 (C : q_LC p s m meth c sb L xs D dA) (hL : L ≤ 384) (hi : i + 6 ≤ L) (hc : cells + 5 ≤ 600000) (hs : slots + 30 ≤ 7302250) (h76 : 76 ≤ cells) (hR : z_R μ ξ B P g) (hK : q_LN p l e s m below meth c sb D dA i cells slots) : q_L p l e s m below meth c sb D dA cells slots 300 (q_lvs s sb i) [] (x_w (m_w w0 μ) ξ B P g) := by
  refine q_Lrf (i := 1) C (q_lv1 _ _ _) rfl dL_law_300 ?_
  refine q_Larg (i := i) (j := 1) C hL (by omega) (q_lv0 _ _ _) (q_lv3 _ _ _) dL_law_301 dL_law_302 dL_law_303 dL_law_304 dL_law_305 ?_
  refine q_Larg (i := i) (j := 2) C hL (by omega) (q_lv0 _ _ _) (q_lv3 _ _ _) dL_law_306 dL_law_307 dL_law_308 dL_law_309 dL_law_310 ?_
  refine q_Lcls [q_i ((xs (i + 1)).toInt), q_i ((xs (i + 2)).toInt)] C kL_23_11 (tX11_at (m_w w0 μ) μ ξ B P g hR ((xs (i + 1)).toInt) ((xs (i + 2)).toInt) (q_r_of _) (q_r_of _)) dL_law_311 rfl (by decide) (Nat.le_of_ble_eq_true rfl) rfl (by omega) (by omega) (fun σ hσ => ?_)
  refine q_Lrf (i := 2) C (q_lv2 _ _ _) rfl dL_law_314 ?_
  refine q_Larg (i := i) (j := 1) C hL (by omega) (q_lv0 _ _ _) (q_lv3 _ _ _) dL_law_315 dL_law_316 dL_law_317 dL_law_318 dL_law_319 ?_
  refine q_Larg (i := i) (j := 2) C hL (by omega) (q_lv0 _ _ _) (q_lv3 _ _ _) dL_law_320 dL_law_321 dL_law_322 dL_law_323 dL_law_324 ?_
  refine q_Lref [q_i ((xs (i + 1)).toInt), q_i ((xs (i + 2)).toInt)] C (hR.Ps.1) kL_26_12 (tX12_at (x_w w0 σ B P g) μ ((xs (i + 1)).toInt) ((xs (i + 2)).toInt) (q_r_of _) (q_r_of _) hR.I) dL_law_325 rfl (by decide) (Nat.le_of_ble_eq_true rfl) rfl (by omega) (by omega) ?_
  refine q_Leq C dL_law_328 (tgt := 1389) (by decide) ?_
  exact hK cells slots w0 _ σ B P g (by omega) (by omega) (by omega) hσ
set_option maxRecDepth 20000 in
theorem q_Lc3 (C : q_LC p s m meth c sb L xs D dA) (hL : L ≤ 384) (hi : i + 6 ≤ L) (hc : cells + 5 ≤ 600000) (hs : slots + 30 ≤ 7302250) (h76 : 76 ≤ cells) (hR : z_R μ ξ B P g) (hK : q_LN p l e s m below meth c sb D dA i cells slots) : q_L p l e s m below meth c sb D dA cells slots 333 (q_lvs s sb i) [] (x_w (m_w w0 μ) ξ B P g) := by
  refine q_Lrf (i := 1) C (q_lv1 _ _ _) rfl dL_law_333 ?_
  refine q_Larg (i := i) (j := 1) C hL (by omega) (q_lv0 _ _ _) (q_lv3 _ _ _) dL_law_334 dL_law_335 dL_law_336 dL_law_337 dL_law_338 ?_
  refine q_Lcls [q_i ((xs (i + 1)).toInt)] C kL_27_11 (tX11_tear (m_w w0 μ) μ ξ B P g hR ((xs (i + 1)).toInt) (q_r_of _)) dL_law_339 rfl (by decide) (Nat.le_of_ble_eq_true rfl) rfl (by omega) (by omega) (fun σ hσ => ?_)
  refine q_Lrf (i := 2) C (q_lv2 _ _ _) rfl dL_law_342 ?_
  refine q_Larg (i := i) (j := 1) C hL (by omega) (q_lv0 _ _ _) (q_lv3 _ _ _) dL_law_343 dL_law_344 dL_law_345 dL_law_346 dL_law_347 ?_
  refine q_Lref [q_i ((xs (i + 1)).toInt)] C (hR.Ps.1) kL_31_12 (tX12_tear (x_w w0 σ B P g) μ ((xs (i + 1)).toInt) (q_r_of _) hR.I) dL_law_348 rfl (by decide) (Nat.le_of_ble_eq_true rfl) rfl (by omega) (by omega) ?_
  refine q_Leq C dL_law_351 (tgt := 1389) (by decide) ?_
  exact hK cells slots w0 _ σ B P g (by omega) (by omega) (by omega) hσ
set_option maxRecDepth 20000 in
theorem q_Lc4 (C : q_LC p s m meth c sb L xs D dA) (hL : L ≤ 384) (hi : i + 6 ≤ L) (hc : cells + 5 ≤ 600000) (hs : slots + 30 ≤ 7302250) (h76 : 76 ≤ cells) (hR : z_R μ ξ B P g) (hK : q_LN p l e s m below meth c sb D dA i cells slots) : q_L p l e s m below meth c sb D dA cells slots 356 (q_lvs s sb i) [] (x_w (m_w w0 μ) ξ B P g) := by
  refine q_Lrf (i := 1) C (q_lv1 _ _ _) rfl dL_law_356 ?_
  refine q_Larg (i := i) (j := 1) C hL (by omega) (q_lv0 _ _ _) (q_lv3 _ _ _) dL_law_357 dL_law_358 dL_law_359 dL_law_360 dL_law_361 ?_
  refine q_Larg (i := i) (j := 2) C hL (by omega) (q_lv0 _ _ _) (q_lv3 _ _ _) dL_law_362 dL_law_363 dL_law_364 dL_law_365 dL_law_366 ?_
  refine q_Larg (i := i) (j := 3) C hL (by omega) (q_lv0 _ _ _) (q_lv3 _ _ _) dL_law_367 dL_law_368 dL_law_369 dL_law_370 dL_law_371 ?_
  refine q_Larg (i := i) (j := 4) C hL (by omega) (q_lv0 _ _ _) (q_lv3 _ _ _) dL_law_372 dL_law_373 dL_law_374 dL_law_375 dL_law_376 ?_
  refine q_Larg (i := i) (j := 5) C hL (by omega) (q_lv0 _ _ _) (q_lv3 _ _ _) dL_law_377 dL_law_378 dL_law_379 dL_law_380 dL_law_381 ?_
  refine q_Lcls [q_i ((xs (i + 1)).toInt), q_i ((xs (i + 2)).toInt), q_i ((xs (i + 3)).toInt), q_i ((xs (i + 4)).toInt), q_i ((xs (i + 5)).toInt)] C kL_32_11 (tX11_copy (m_w w0 μ) μ ξ B P g hR ((xs (i + 1)).toInt) ((xs (i + 2)).toInt) ((xs (i + 3)).toInt) ((xs (i + 4)).toInt) ((xs (i + 5)).toInt) (q_r_of _) (q_r_of _) (q_r_of _) (q_r_of _) (q_r_of _)) dL_law_382 rfl (by decide) (Nat.le_of_ble_eq_true rfl) rfl (by omega) (by omega) (fun σ hσ => ?_)
  refine q_Lrf (i := 2) C (q_lv2 _ _ _) rfl dL_law_385 ?_
  refine q_Larg (i := i) (j := 1) C hL (by omega) (q_lv0 _ _ _) (q_lv3 _ _ _) dL_law_386 dL_law_387 dL_law_388 dL_law_389 dL_law_390 ?_
  refine q_Larg (i := i) (j := 2) C hL (by omega) (q_lv0 _ _ _) (q_lv3 _ _ _) dL_law_391 dL_law_392 dL_law_393 dL_law_394 dL_law_395 ?_
  refine q_Larg (i := i) (j := 3) C hL (by omega) (q_lv0 _ _ _) (q_lv3 _ _ _) dL_law_396 dL_law_397 dL_law_398 dL_law_399 dL_law_400 ?_
  refine q_Larg (i := i) (j := 4) C hL (by omega) (q_lv0 _ _ _) (q_lv3 _ _ _) dL_law_401 dL_law_402 dL_law_403 dL_law_404 dL_law_405 ?_
  refine q_Larg (i := i) (j := 5) C hL (by omega) (q_lv0 _ _ _) (q_lv3 _ _ _) dL_law_406 dL_law_407 dL_law_408 dL_law_409 dL_law_410 ?_
  refine q_Lref [q_i ((xs (i + 1)).toInt), q_i ((xs (i + 2)).toInt), q_i ((xs (i + 3)).toInt), q_i ((xs (i + 4)).toInt), q_i ((xs (i + 5)).toInt)] C (hR.Ps.1) kL_36_12 (tX12_copy (x_w w0 σ B P g) μ ((xs (i + 1)).toInt) ((xs (i + 2)).toInt) ((xs (i + 3)).toInt) ((xs (i + 4)).toInt) ((xs (i + 5)).toInt) (q_r_of _) (q_r_of _) (q_r_of _) (q_r_of _) (q_r_of _) hR.I) dL_law_411 rfl (by decide) (Nat.le_of_ble_eq_true rfl) rfl (by omega) (by omega) ?_
  refine q_Leq C dL_law_414 (tgt := 1389) (by decide) ?_
  exact hK cells slots w0 _ σ B P g (by omega) (by omega) (by omega) hσ
set_option maxRecDepth 20000 in
theorem q_Lc5 (C : q_LC p s m meth c sb L xs D dA) (hL : L ≤ 384) (hi : i + 6 ≤ L) (hc : cells + 5 ≤ 600000) (hs : slots + 30 ≤ 7302250) (h76 : 76 ≤ cells) (hR : z_R μ ξ B P g) (hK : q_LN p l e s m below meth c sb D dA i cells slots) : q_L p l e s m below meth c sb D dA cells slots 419 (q_lvs s sb i) [] (x_w (m_w w0 μ) ξ B P g) := by
  refine q_Lrf (i := 1) C (q_lv1 _ _ _) rfl dL_law_419 ?_
  refine q_Larg (i := i) (j := 1) C hL (by omega) (q_lv0 _ _ _) (q_lv3 _ _ _) dL_law_420 dL_law_421 dL_law_422 dL_law_423 dL_law_424 ?_
  refine q_Lcls [q_i ((xs (i + 1)).toInt)] C kL_37_11 (tX11_mean (m_w w0 μ) μ ξ B P g hR ((xs (i + 1)).toInt) (q_r_of _)) dL_law_425 rfl (by decide) (Nat.le_of_ble_eq_true rfl) rfl (by omega) (by omega) (fun σ hσ => ?_)
  refine q_Lrf (i := 2) C (q_lv2 _ _ _) rfl dL_law_428 ?_
  refine q_Larg (i := i) (j := 1) C hL (by omega) (q_lv0 _ _ _) (q_lv3 _ _ _) dL_law_429 dL_law_430 dL_law_431 dL_law_432 dL_law_433 ?_
  refine q_Lref [q_i ((xs (i + 1)).toInt)] C (hR.Ps.1) kL_40_12 (tX12_mean (x_w w0 σ B P g) μ ((xs (i + 1)).toInt) (q_r_of _) hR.I) dL_law_434 rfl (by decide) (Nat.le_of_ble_eq_true rfl) rfl (by omega) (by omega) ?_
  refine q_Leq C dL_law_437 (tgt := 1389) (by decide) ?_
  exact hK cells slots w0 _ σ B P g (by omega) (by omega) (by omega) hσ
set_option maxRecDepth 20000 in
theorem q_Lc6 (C : q_LC p s m meth c sb L xs D dA) (hL : L ≤ 384) (hi : i + 6 ≤ L) (hc : cells + 5 ≤ 600000) (hs : slots + 30 ≤ 7302250) (h76 : 76 ≤ cells) (hR : z_R μ ξ B P g) (hK : q_LN p l e s m below meth c sb D dA i cells slots) : q_L p l e s m below meth c sb D dA cells slots 442 (q_lvs s sb i) [] (x_w (m_w w0 μ) ξ B P g) := by
  refine q_Lrf (i := 1) C (q_lv1 _ _ _) rfl dL_law_442 ?_
  refine q_Larg (i := i) (j := 1) C hL (by omega) (q_lv0 _ _ _) (q_lv3 _ _ _) dL_law_443 dL_law_444 dL_law_445 dL_law_446 dL_law_447 ?_
  refine q_Larg (i := i) (j := 2) C hL (by omega) (q_lv0 _ _ _) (q_lv3 _ _ _) dL_law_448 dL_law_449 dL_law_450 dL_law_451 dL_law_452 ?_
  refine q_Lcls [q_i ((xs (i + 1)).toInt), q_i ((xs (i + 2)).toInt)] C kL_41_11 (tX11_text (m_w w0 μ) μ ξ B P g hR ((xs (i + 1)).toInt) ((xs (i + 2)).toInt) (q_r_of _) (q_r_of _)) dL_law_453 rfl (by decide) (Nat.le_of_ble_eq_true rfl) rfl (by omega) (by omega) (fun σ hσ => ?_)
  refine q_Lrf (i := 2) C (q_lv2 _ _ _) rfl dL_law_456 ?_
  refine q_Larg (i := i) (j := 1) C hL (by omega) (q_lv0 _ _ _) (q_lv3 _ _ _) dL_law_457 dL_law_458 dL_law_459 dL_law_460 dL_law_461 ?_
  refine q_Larg (i := i) (j := 2) C hL (by omega) (q_lv0 _ _ _) (q_lv3 _ _ _) dL_law_462 dL_law_463 dL_law_464 dL_law_465 dL_law_466 ?_
  refine q_Lref [q_i ((xs (i + 1)).toInt), q_i ((xs (i + 2)).toInt)] C (hR.Ps.1) kL_44_12 (tX12_text (x_w w0 σ B P g) μ ((xs (i + 1)).toInt) ((xs (i + 2)).toInt) (q_r_of _) (q_r_of _)) dL_law_467 rfl (by decide) (Nat.le_of_ble_eq_true rfl) rfl (by omega) (by omega) ?_
  refine q_Leq C dL_law_470 (tgt := 1389) (by decide) ?_
  exact hK cells slots w0 _ σ B P g (by omega) (by omega) (by omega) hσ
set_option maxRecDepth 20000 in
theorem q_Lc7 (C : q_LC p s m meth c sb L xs D dA) (hL : L ≤ 384) (hi : i + 6 ≤ L) (hc : cells + 5 ≤ 600000) (hs : slots + 30 ≤ 7302250) (h76 : 76 ≤ cells) (hR : z_R μ ξ B P g) (hK : q_LN p l e s m below meth c sb D dA i cells slots) : q_L p l e s m below meth c sb D dA cells slots 475 (q_lvs s sb i) [] (x_w (m_w w0 μ) ξ B P g) := by
  refine q_Lrf (i := 1) C (q_lv1 _ _ _) rfl dL_law_475 ?_
  refine q_Larg (i := i) (j := 1) C hL (by omega) (q_lv0 _ _ _) (q_lv3 _ _ _) dL_law_476 dL_law_477 dL_law_478 dL_law_479 dL_law_480 ?_
  refine q_Larg (i := i) (j := 2) C hL (by omega) (q_lv0 _ _ _) (q_lv3 _ _ _) dL_law_481 dL_law_482 dL_law_483 dL_law_484 dL_law_485 ?_
  refine q_Larg (i := i) (j := 3) C hL (by omega) (q_lv0 _ _ _) (q_lv3 _ _ _) dL_law_486 dL_law_487 dL_law_488 dL_law_489 dL_law_490 ?_
  refine q_Lcls [q_i ((xs (i + 1)).toInt), q_i ((xs (i + 2)).toInt), q_i ((xs (i + 3)).toInt)] C kL_45_11 (tX11_put (m_w w0 μ) μ ξ B P g hR ((xs (i + 1)).toInt) ((xs (i + 2)).toInt) ((xs (i + 3)).toInt) (q_r_of _) (q_r_of _) (q_r_of _)) dL_law_491 rfl (by decide) (Nat.le_of_ble_eq_true rfl) rfl (by omega) (by omega) (fun σ hσ => ?_)
  refine q_Lrf (i := 2) C (q_lv2 _ _ _) rfl dL_law_494 ?_
  refine q_Larg (i := i) (j := 1) C hL (by omega) (q_lv0 _ _ _) (q_lv3 _ _ _) dL_law_495 dL_law_496 dL_law_497 dL_law_498 dL_law_499 ?_
  refine q_Larg (i := i) (j := 2) C hL (by omega) (q_lv0 _ _ _) (q_lv3 _ _ _) dL_law_500 dL_law_501 dL_law_502 dL_law_503 dL_law_504 ?_
  refine q_Larg (i := i) (j := 3) C hL (by omega) (q_lv0 _ _ _) (q_lv3 _ _ _) dL_law_505 dL_law_506 dL_law_507 dL_law_508 dL_law_509 ?_
  refine q_Lref [q_i ((xs (i + 1)).toInt), q_i ((xs (i + 2)).toInt), q_i ((xs (i + 3)).toInt)] C (hR.Ps.1) kL_48_12 (tX12_put (x_w w0 σ B P g) μ ((xs (i + 1)).toInt) ((xs (i + 2)).toInt) ((xs (i + 3)).toInt) (q_r_of _) (q_r_of _) (q_r_of _) hR.I) dL_law_510 rfl (by decide) (Nat.le_of_ble_eq_true rfl) rfl (by omega) (by omega) ?_
  refine q_Leq C dL_law_513 (tgt := 1389) (by decide) ?_
  exact hK cells slots w0 _ σ B P g (by omega) (by omega) (by omega) hσ
set_option maxRecDepth 20000 in
theorem q_Lc8 (C : q_LC p s m meth c sb L xs D dA) (hL : L ≤ 384) (hi : i + 6 ≤ L) (hc : cells + 5 ≤ 600000) (hs : slots + 30 ≤ 7302250) (h76 : 76 ≤ cells) (hR : z_R μ ξ B P g) (hK : q_LN p l e s m below meth c sb D dA i cells slots) : q_L p l e s m below meth c sb D dA cells slots 518 (q_lvs s sb i) [] (x_w (m_w w0 μ) ξ B P g) := by
  refine q_Lrf (i := 1) C (q_lv1 _ _ _) rfl dL_law_518 ?_
  refine q_Larg (i := i) (j := 1) C hL (by omega) (q_lv0 _ _ _) (q_lv3 _ _ _) dL_law_519 dL_law_520 dL_law_521 dL_law_522 dL_law_523 ?_
  refine q_Lcls [q_i ((xs (i + 1)).toInt)] C kL_49_11 (tX11_fault (m_w w0 μ) μ ξ B P g hR ((xs (i + 1)).toInt) (q_r_of _)) dL_law_524 rfl (by decide) (Nat.le_of_ble_eq_true rfl) rfl (by omega) (by omega) (fun σ hσ => ?_)
  refine q_Lrf (i := 2) C (q_lv2 _ _ _) rfl dL_law_527 ?_
  refine q_Larg (i := i) (j := 1) C hL (by omega) (q_lv0 _ _ _) (q_lv3 _ _ _) dL_law_528 dL_law_529 dL_law_530 dL_law_531 dL_law_532 ?_
  refine q_Lref [q_i ((xs (i + 1)).toInt)] C (hR.Ps.1) kL_52_12 (tX12_fault (x_w w0 σ B P g) μ ((xs (i + 1)).toInt) (q_r_of _) hR.I) dL_law_533 rfl (by decide) (Nat.le_of_ble_eq_true rfl) rfl (by omega) (by omega) ?_
  refine q_Leq C dL_law_536 (tgt := 1389) (by decide) ?_
  exact hK cells slots w0 _ σ B P g (by omega) (by omega) (by omega) hσ
set_option maxRecDepth 20000 in
theorem q_Lc9 (C : q_LC p s m meth c sb L xs D dA) (hL : L ≤ 384) (hi : i + 6 ≤ L) (hc : cells + 5 ≤ 600000) (hs : slots + 30 ≤ 7302250) (h76 : 76 ≤ cells) (hR : z_R μ ξ B P g) (hK : q_LN p l e s m below meth c sb D dA i cells slots) : q_L p l e s m below meth c sb D dA cells slots 541 (q_lvs s sb i) [] (x_w (m_w w0 μ) ξ B P g) := by
  refine q_Lrf (i := 1) C (q_lv1 _ _ _) rfl dL_law_541 ?_
  refine q_Larg (i := i) (j := 1) C hL (by omega) (q_lv0 _ _ _) (q_lv3 _ _ _) dL_law_542 dL_law_543 dL_law_544 dL_law_545 dL_law_546 ?_
  by_cases hsh : (0 ≤ ((xs (i + 1)).toInt) ∧ ((xs (i + 1)).toInt) ≤ 3) ∧ 0 ≤ μ 9 ((xs (i + 1)).toInt) ∧ m_fo_v μ ((xs (i + 1)).toInt) = -9
  · have hν5 := (m_fo_Rd (m_f1_R hR.I (t := ((xs (i + 1)).toInt)) hsh.1.1 hsh.1.2 hsh.2.1) hsh.2.2).1.2.2.2.1
    refine q_Ldom (fun hdm => ?_)
    refine q_LcV [q_i ((xs (i + 1)).toInt)] C kL_53_11 rfl (tX11_shed_y (m_w w0 μ) μ ξ B P g hR cells hdm h76 ((xs (i + 1)).toInt) hsh.1.1 (by omega) hsh.2.1 hsh.2.2) dL_law_547 rfl (by decide) (Nat.le_of_ble_eq_true rfl) rfl (by omega) (by omega) (fun v9 w9 h9 => ?_)
    obtain ⟨hv9, σ, g', hw9, hσ⟩ := h9
    rw [hv9, hw9, x_pw_m hR.Ps.1]
    refine q_Lrf (i := 2) C (q_lv2 _ _ _) rfl dL_law_550 ?_
    refine q_Larg (i := i) (j := 1) C hL (by omega) (q_lv0 _ _ _) (q_lv3 _ _ _) dL_law_551 dL_law_552 dL_law_553 dL_law_554 dL_law_555 ?_
    refine q_Lref [q_i ((xs (i + 1)).toInt)] C h76 kL_56_12 (tX12_shed (x_w (x_pw w0 ξ B P) σ cells (m_fo_s μ ((xs (i + 1)).toInt) 22 0).toNat g') μ ((xs (i + 1)).toInt) (q_r_of _) hR.I) dL_law_556 rfl (by decide) (Nat.le_of_ble_eq_true rfl) rfl (by omega) (by omega) ?_
    refine q_Leq C dL_law_559 (tgt := 1389) (by decide) ?_
    exact hK _ _ (x_pw w0 ξ B P) _ σ cells (m_fo_s μ ((xs (i + 1)).toInt) 22 0).toNat g' (by omega) (by omega) (by omega) hσ
  · refine q_Lcls [q_i ((xs (i + 1)).toInt)] C kL_53_11 (tX11_shed_n (m_w w0 μ) μ ξ B P g hR ((xs (i + 1)).toInt) (q_r_of _) hsh) dL_law_547 rfl (by decide) (Nat.le_of_ble_eq_true rfl) rfl (by omega) (by omega) (fun σ hσ => ?_)
    refine q_Lrf (i := 2) C (q_lv2 _ _ _) rfl dL_law_550 ?_
    refine q_Larg (i := i) (j := 1) C hL (by omega) (q_lv0 _ _ _) (q_lv3 _ _ _) dL_law_551 dL_law_552 dL_law_553 dL_law_554 dL_law_555 ?_
    refine q_Lref [q_i ((xs (i + 1)).toInt)] C (hR.Ps.1) kL_56_12 (tX12_shed (x_w w0 σ B P g) μ ((xs (i + 1)).toInt) (q_r_of _) hR.I) dL_law_556 rfl (by decide) (Nat.le_of_ble_eq_true rfl) rfl (by omega) (by omega) ?_
    refine q_Leq C dL_law_559 (tgt := 1389) (by decide) ?_
    exact hK cells slots w0 _ σ B P g (by omega) (by omega) (by omega) hσ
set_option maxRecDepth 20000 in
theorem q_Lc10 (C : q_LC p s m meth c sb L xs D dA) (hL : L ≤ 384) (hi : i + 6 ≤ L) (hc : cells + 5 ≤ 600000) (hs : slots + 30 ≤ 7302250) (h76 : 76 ≤ cells) (hR : z_R μ ξ B P g) (hK : q_LN p l e s m below meth c sb D dA i cells slots) : q_L p l e s m below meth c sb D dA cells slots 564 (q_lvs s sb i) [] (x_w (m_w w0 μ) ξ B P g) := by
  refine q_Lrf (i := 1) C (q_lv1 _ _ _) rfl dL_law_564 ?_
  refine q_Larg (i := i) (j := 1) C hL (by omega) (q_lv0 _ _ _) (q_lv3 _ _ _) dL_law_565 dL_law_566 dL_law_567 dL_law_568 dL_law_569 ?_
  refine q_Larg (i := i) (j := 2) C hL (by omega) (q_lv0 _ _ _) (q_lv3 _ _ _) dL_law_570 dL_law_571 dL_law_572 dL_law_573 dL_law_574 ?_
  refine q_Lcls [q_i ((xs (i + 1)).toInt), q_i ((xs (i + 2)).toInt)] C kL_57_11 (tX11_person (m_w w0 μ) μ ξ B P g hR ((xs (i + 1)).toInt) ((xs (i + 2)).toInt) (q_r_of _) (q_r_of _)) dL_law_575 rfl (by decide) (Nat.le_of_ble_eq_true rfl) rfl (by omega) (by omega) (fun σ hσ => ?_)
  refine q_Lrf (i := 2) C (q_lv2 _ _ _) rfl dL_law_578 ?_
  refine q_Larg (i := i) (j := 1) C hL (by omega) (q_lv0 _ _ _) (q_lv3 _ _ _) dL_law_579 dL_law_580 dL_law_581 dL_law_582 dL_law_583 ?_
  refine q_Larg (i := i) (j := 2) C hL (by omega) (q_lv0 _ _ _) (q_lv3 _ _ _) dL_law_584 dL_law_585 dL_law_586 dL_law_587 dL_law_588 ?_
  refine q_Lref [q_i ((xs (i + 1)).toInt), q_i ((xs (i + 2)).toInt)] C (hR.Ps.1) kL_60_12 (tX12_person (x_w w0 σ B P g) μ ((xs (i + 1)).toInt) ((xs (i + 2)).toInt) (q_r_of _) (q_r_of _) hR.Sh hR.De) dL_law_589 rfl (by decide) (Nat.le_of_ble_eq_true rfl) rfl (by omega) (by omega) ?_
  refine q_Leq C dL_law_592 (tgt := 1389) (by decide) ?_
  exact hK cells slots w0 _ σ B P g (by omega) (by omega) (by omega) hσ
set_option maxRecDepth 20000 in
theorem q_Lc11 (C : q_LC p s m meth c sb L xs D dA) (hL : L ≤ 384) (hi : i + 6 ≤ L) (hc : cells + 5 ≤ 600000) (hs : slots + 30 ≤ 7302250) (h76 : 76 ≤ cells) (hR : z_R μ ξ B P g) (hK : q_LN p l e s m below meth c sb D dA i cells slots) : q_L p l e s m below meth c sb D dA cells slots 597 (q_lvs s sb i) [] (x_w (m_w w0 μ) ξ B P g) := by
  refine q_Lrf (i := 1) C (q_lv1 _ _ _) rfl dL_law_597 ?_
  refine q_Larg (i := i) (j := 1) C hL (by omega) (q_lv0 _ _ _) (q_lv3 _ _ _) dL_law_598 dL_law_599 dL_law_600 dL_law_601 dL_law_602 ?_
  refine q_Larg (i := i) (j := 2) C hL (by omega) (q_lv0 _ _ _) (q_lv3 _ _ _) dL_law_603 dL_law_604 dL_law_605 dL_law_606 dL_law_607 ?_
  refine q_Lcls [q_i ((xs (i + 1)).toInt), q_i ((xs (i + 2)).toInt)] C kL_61_11 (tX11_mark (m_w w0 μ) μ ξ B P g hR ((xs (i + 1)).toInt) ((xs (i + 2)).toInt) (q_r_of _) (q_r_of _)) dL_law_608 rfl (by decide) (Nat.le_of_ble_eq_true rfl) rfl (by omega) (by omega) (fun σ hσ => ?_)
  refine q_Lrf (i := 2) C (q_lv2 _ _ _) rfl dL_law_611 ?_
  refine q_Larg (i := i) (j := 1) C hL (by omega) (q_lv0 _ _ _) (q_lv3 _ _ _) dL_law_612 dL_law_613 dL_law_614 dL_law_615 dL_law_616 ?_
  refine q_Larg (i := i) (j := 2) C hL (by omega) (q_lv0 _ _ _) (q_lv3 _ _ _) dL_law_617 dL_law_618 dL_law_619 dL_law_620 dL_law_621 ?_
  refine q_Lref [q_i ((xs (i + 1)).toInt), q_i ((xs (i + 2)).toInt)] C (hR.Ps.1) kL_64_12 (tX12_mark (x_w w0 σ B P g) μ ((xs (i + 1)).toInt) ((xs (i + 2)).toInt) (q_r_of _) (q_r_of _) hR.Sh hR.mV) dL_law_622 rfl (by decide) (Nat.le_of_ble_eq_true rfl) rfl (by omega) (by omega) ?_
  refine q_Leq C dL_law_625 (tgt := 1389) (by decide) ?_
  exact hK cells slots w0 _ σ B P g (by omega) (by omega) (by omega) hσ
set_option maxRecDepth 20000 in
theorem q_Lc12 (C : q_LC p s m meth c sb L xs D dA) (hL : L ≤ 384) (hi : i + 6 ≤ L) (hc : cells + 5 ≤ 600000) (hs : slots + 30 ≤ 7302250) (h76 : 76 ≤ cells) (hR : z_R μ ξ B P g) (hK : q_LN p l e s m below meth c sb D dA i cells slots) : q_L p l e s m below meth c sb D dA cells slots 630 (q_lvs s sb i) [] (x_w (m_w w0 μ) ξ B P g) := by
  refine q_Lrf (i := 1) C (q_lv1 _ _ _) rfl dL_law_630 ?_
  refine q_Larg (i := i) (j := 1) C hL (by omega) (q_lv0 _ _ _) (q_lv3 _ _ _) dL_law_631 dL_law_632 dL_law_633 dL_law_634 dL_law_635 ?_
  refine q_Larg (i := i) (j := 2) C hL (by omega) (q_lv0 _ _ _) (q_lv3 _ _ _) dL_law_636 dL_law_637 dL_law_638 dL_law_639 dL_law_640 ?_
  refine q_Lcls [q_i ((xs (i + 1)).toInt), q_i ((xs (i + 2)).toInt)] C kL_65_11 (tX11_flicks (m_w w0 μ) μ ξ B P g hR ((xs (i + 1)).toInt) ((xs (i + 2)).toInt) (q_r_of _) (q_r_of _)) dL_law_641 rfl (by decide) (Nat.le_of_ble_eq_true rfl) rfl (by omega) (by omega) (fun σ hσ => ?_)
  refine q_Lrf (i := 2) C (q_lv2 _ _ _) rfl dL_law_644 ?_
  refine q_Larg (i := i) (j := 1) C hL (by omega) (q_lv0 _ _ _) (q_lv3 _ _ _) dL_law_645 dL_law_646 dL_law_647 dL_law_648 dL_law_649 ?_
  refine q_Larg (i := i) (j := 2) C hL (by omega) (q_lv0 _ _ _) (q_lv3 _ _ _) dL_law_650 dL_law_651 dL_law_652 dL_law_653 dL_law_654 ?_
  refine q_Lref [q_i ((xs (i + 1)).toInt), q_i ((xs (i + 2)).toInt)] C (hR.Ps.1) kL_68_12 (tX12_flicks (x_w w0 σ B P g) μ ((xs (i + 1)).toInt) ((xs (i + 2)).toInt) (q_r_of _) (q_r_of _) hR.Sh hR.De) dL_law_655 rfl (by decide) (Nat.le_of_ble_eq_true rfl) rfl (by omega) (by omega) ?_
  refine q_Leq C dL_law_658 (tgt := 1389) (by decide) ?_
  exact hK cells slots w0 _ σ B P g (by omega) (by omega) (by omega) hσ
set_option maxRecDepth 20000 in
theorem q_Lc13 (C : q_LC p s m meth c sb L xs D dA) (hL : L ≤ 384) (hi : i + 6 ≤ L) (hc : cells + 5 ≤ 600000) (hs : slots + 30 ≤ 7302250) (h76 : 76 ≤ cells) (hR : z_R μ ξ B P g) (hK : q_LN p l e s m below meth c sb D dA i cells slots) : q_L p l e s m below meth c sb D dA cells slots 663 (q_lvs s sb i) [] (x_w (m_w w0 μ) ξ B P g) := by
  refine q_Lrf (i := 1) C (q_lv1 _ _ _) rfl dL_law_663 ?_
  refine q_Larg (i := i) (j := 1) C hL (by omega) (q_lv0 _ _ _) (q_lv3 _ _ _) dL_law_664 dL_law_665 dL_law_666 dL_law_667 dL_law_668 ?_
  refine q_Larg (i := i) (j := 2) C hL (by omega) (q_lv0 _ _ _) (q_lv3 _ _ _) dL_law_669 dL_law_670 dL_law_671 dL_law_672 dL_law_673 ?_
  refine q_Lcls [q_i ((xs (i + 1)).toInt), q_i ((xs (i + 2)).toInt)] C kL_69_11 (tX11_look (m_w w0 μ) μ ξ B P g hR ((xs (i + 1)).toInt) ((xs (i + 2)).toInt) (q_r_of _) (q_r_of _)) dL_law_674 rfl (by decide) (Nat.le_of_ble_eq_true rfl) rfl (by omega) (by omega) (fun σ hσ => ?_)
  refine q_Lrf (i := 2) C (q_lv2 _ _ _) rfl dL_law_677 ?_
  refine q_Larg (i := i) (j := 1) C hL (by omega) (q_lv0 _ _ _) (q_lv3 _ _ _) dL_law_678 dL_law_679 dL_law_680 dL_law_681 dL_law_682 ?_
  refine q_Larg (i := i) (j := 2) C hL (by omega) (q_lv0 _ _ _) (q_lv3 _ _ _) dL_law_683 dL_law_684 dL_law_685 dL_law_686 dL_law_687 ?_
  refine q_Lref [q_i ((xs (i + 1)).toInt), q_i ((xs (i + 2)).toInt)] C (hR.Ps.1) kL_72_12 (tX12_look (x_w w0 σ B P g) μ ((xs (i + 1)).toInt) ((xs (i + 2)).toInt) (q_r_of _) (q_r_of _) hR.Sh hR.De hR.mV) dL_law_688 rfl (by decide) (Nat.le_of_ble_eq_true rfl) rfl (by omega) (by omega) ?_
  refine q_Leq C dL_law_691 (tgt := 1389) (by decide) ?_
  exact hK cells slots w0 _ σ B P g (by omega) (by omega) (by omega) hσ
set_option maxRecDepth 20000 in
theorem q_Lc14 (C : q_LC p s m meth c sb L xs D dA) (hL : L ≤ 384) (hi : i + 6 ≤ L) (hc : cells + 5 ≤ 600000) (hs : slots + 30 ≤ 7302250) (h76 : 76 ≤ cells) (hR : z_R μ ξ B P g) (hK : q_LN p l e s m below meth c sb D dA i cells slots) : q_L p l e s m below meth c sb D dA cells slots 696 (q_lvs s sb i) [] (x_w (m_w w0 μ) ξ B P g) := by
  refine q_Lrf (i := 1) C (q_lv1 _ _ _) rfl dL_law_696 ?_
  refine q_Larg (i := i) (j := 1) C hL (by omega) (q_lv0 _ _ _) (q_lv3 _ _ _) dL_law_697 dL_law_698 dL_law_699 dL_law_700 dL_law_701 ?_
  refine q_Lcls [q_i ((xs (i + 1)).toInt)] C kL_73_11 (tX11_vain (m_w w0 μ) μ ξ B P g hR ((xs (i + 1)).toInt) (q_r_of _)) dL_law_702 rfl (by decide) (Nat.le_of_ble_eq_true rfl) rfl (by omega) (by omega) (fun σ hσ => ?_)
  refine q_Lrf (i := 2) C (q_lv2 _ _ _) rfl dL_law_705 ?_
  refine q_Larg (i := i) (j := 1) C hL (by omega) (q_lv0 _ _ _) (q_lv3 _ _ _) dL_law_706 dL_law_707 dL_law_708 dL_law_709 dL_law_710 ?_
  refine q_Lref [q_i ((xs (i + 1)).toInt)] C (hR.Ps.1) kL_76_12 (tX12_vain (x_w w0 σ B P g) μ ((xs (i + 1)).toInt) (q_r_of _) hR.Sh hR.De hR.mV) dL_law_711 rfl (by decide) (Nat.le_of_ble_eq_true rfl) rfl (by omega) (by omega) ?_
  refine q_Leq C dL_law_714 (tgt := 1389) (by decide) ?_
  exact hK cells slots w0 _ σ B P g (by omega) (by omega) (by omega) hσ
set_option maxRecDepth 20000 in
theorem q_Lc15 (C : q_LC p s m meth c sb L xs D dA) (hL : L ≤ 384) (hi : i + 6 ≤ L) (hc : cells + 5 ≤ 600000) (hs : slots + 30 ≤ 7302250) (h76 : 76 ≤ cells) (hR : z_R μ ξ B P g) (hK : q_LN p l e s m below meth c sb D dA i cells slots) : q_L p l e s m below meth c sb D dA cells slots 719 (q_lvs s sb i) [] (x_w (m_w w0 μ) ξ B P g) := by
  refine q_Lrf (i := 1) C (q_lv1 _ _ _) rfl dL_law_719 ?_
  refine q_Larg (i := i) (j := 1) C hL (by omega) (q_lv0 _ _ _) (q_lv3 _ _ _) dL_law_720 dL_law_721 dL_law_722 dL_law_723 dL_law_724 ?_
  refine q_Lcls [q_i ((xs (i + 1)).toInt)] C kL_77_11 (tX11_undo (m_w w0 μ) μ ξ B P g hR ((xs (i + 1)).toInt) (q_r_of _)) dL_law_725 rfl (by decide) (Nat.le_of_ble_eq_true rfl) rfl (by omega) (by omega) (fun σ hσ => ?_)
  refine q_Lrf (i := 2) C (q_lv2 _ _ _) rfl dL_law_728 ?_
  refine q_Larg (i := i) (j := 1) C hL (by omega) (q_lv0 _ _ _) (q_lv3 _ _ _) dL_law_729 dL_law_730 dL_law_731 dL_law_732 dL_law_733 ?_
  refine q_Lref [q_i ((xs (i + 1)).toInt)] C (hR.Ps.1) kL_80_12 (tX12_undo (x_w w0 σ B P g) μ ((xs (i + 1)).toInt) (q_r_of _) hR.Sh hR.De) dL_law_734 rfl (by decide) (Nat.le_of_ble_eq_true rfl) rfl (by omega) (by omega) ?_
  refine q_Leq C dL_law_737 (tgt := 1389) (by decide) ?_
  exact hK cells slots w0 _ σ B P g (by omega) (by omega) (by omega) hσ
set_option maxRecDepth 20000 in
theorem q_Lc16 (C : q_LC p s m meth c sb L xs D dA) (hL : L ≤ 384) (hi : i + 6 ≤ L) (hc : cells + 5 ≤ 600000) (hs : slots + 30 ≤ 7302250) (h76 : 76 ≤ cells) (hR : z_R μ ξ B P g) (hK : q_LN p l e s m below meth c sb D dA i cells slots) : q_L p l e s m below meth c sb D dA cells slots 742 (q_lvs s sb i) [] (x_w (m_w w0 μ) ξ B P g) := by
  refine q_Lrf (i := 1) C (q_lv1 _ _ _) rfl dL_law_742 ?_
  refine q_Larg (i := i) (j := 1) C hL (by omega) (q_lv0 _ _ _) (q_lv3 _ _ _) dL_law_743 dL_law_744 dL_law_745 dL_law_746 dL_law_747 ?_
  refine q_Lcls [q_i ((xs (i + 1)).toInt)] C kL_81_11 (tX11_keep (m_w w0 μ) μ ξ B P g hR ((xs (i + 1)).toInt) (q_r_of _)) dL_law_748 rfl (by decide) (Nat.le_of_ble_eq_true rfl) rfl (by omega) (by omega) (fun σ hσ => ?_)
  refine q_Lrf (i := 2) C (q_lv2 _ _ _) rfl dL_law_751 ?_
  refine q_Larg (i := i) (j := 1) C hL (by omega) (q_lv0 _ _ _) (q_lv3 _ _ _) dL_law_752 dL_law_753 dL_law_754 dL_law_755 dL_law_756 ?_
  refine q_Lref [q_i ((xs (i + 1)).toInt)] C (hR.Ps.1) kL_84_12 (tX12_keep (x_w w0 σ B P g) μ ((xs (i + 1)).toInt) (q_r_of _) hR.Sh) dL_law_757 rfl (by decide) (Nat.le_of_ble_eq_true rfl) rfl (by omega) (by omega) ?_
  refine q_Leq C dL_law_760 (tgt := 1389) (by decide) ?_
  exact hK cells slots w0 _ σ B P g (by omega) (by omega) (by omega) hσ
set_option maxRecDepth 20000 in
theorem q_Lc17 (C : q_LC p s m meth c sb L xs D dA) (hL : L ≤ 384) (hi : i + 6 ≤ L) (hc : cells + 5 ≤ 600000) (hs : slots + 30 ≤ 7302250) (h76 : 76 ≤ cells) (hR : z_R μ ξ B P g) (hK : q_LN p l e s m below meth c sb D dA i cells slots) : q_L p l e s m below meth c sb D dA cells slots 765 (q_lvs s sb i) [] (x_w (m_w w0 μ) ξ B P g) := by
  refine q_Lrf (i := 1) C (q_lv1 _ _ _) rfl dL_law_765 ?_
  refine q_Larg (i := i) (j := 1) C hL (by omega) (q_lv0 _ _ _) (q_lv3 _ _ _) dL_law_766 dL_law_767 dL_law_768 dL_law_769 dL_law_770 ?_
  refine q_Lcls [q_i ((xs (i + 1)).toInt)] C kL_85_11 (tX11_on (m_w w0 μ) μ ξ B P g hR ((xs (i + 1)).toInt) (q_r_of _)) dL_law_771 rfl (by decide) (Nat.le_of_ble_eq_true rfl) rfl (by omega) (by omega) (fun σ hσ => ?_)
  refine q_Lrf (i := 2) C (q_lv2 _ _ _) rfl dL_law_774 ?_
  refine q_Larg (i := i) (j := 1) C hL (by omega) (q_lv0 _ _ _) (q_lv3 _ _ _) dL_law_775 dL_law_776 dL_law_777 dL_law_778 dL_law_779 ?_
  refine q_Lref [q_i ((xs (i + 1)).toInt)] C (hR.Ps.1) kL_88_12 (tX12_on (x_w w0 σ B P g) μ ((xs (i + 1)).toInt) (q_r_of _) hR.Sh hR.Ke) dL_law_780 rfl (by decide) (Nat.le_of_ble_eq_true rfl) rfl (by omega) (by omega) ?_
  refine q_Leq C dL_law_783 (tgt := 1389) (by decide) ?_
  exact hK cells slots w0 _ σ B P g (by omega) (by omega) (by omega) hσ
set_option maxRecDepth 20000 in
theorem q_Lc18 (C : q_LC p s m meth c sb L xs D dA) (hL : L ≤ 384) (hi : i + 6 ≤ L) (hc : cells + 5 ≤ 600000) (hs : slots + 30 ≤ 7302250) (h76 : 76 ≤ cells) (hR : z_R μ ξ B P g) (hK : q_LN p l e s m below meth c sb D dA i cells slots) : q_L p l e s m below meth c sb D dA cells slots 788 (q_lvs s sb i) [] (x_w (m_w w0 μ) ξ B P g) := by
  refine q_Lrf (i := 1) C (q_lv1 _ _ _) rfl dL_law_788 ?_
  refine q_Larg (i := i) (j := 1) C hL (by omega) (q_lv0 _ _ _) (q_lv3 _ _ _) dL_law_789 dL_law_790 dL_law_791 dL_law_792 dL_law_793 ?_
  refine q_Lcls [q_i ((xs (i + 1)).toInt)] C kL_89_11 (tX11_likely (m_w w0 μ) μ ξ B P g hR ((xs (i + 1)).toInt) (q_r_of _)) dL_law_794 rfl (by decide) (Nat.le_of_ble_eq_true rfl) rfl (by omega) (by omega) (fun σ hσ => ?_)
  refine q_Lrf (i := 2) C (q_lv2 _ _ _) rfl dL_law_797 ?_
  refine q_Larg (i := i) (j := 1) C hL (by omega) (q_lv0 _ _ _) (q_lv3 _ _ _) dL_law_798 dL_law_799 dL_law_800 dL_law_801 dL_law_802 ?_
  refine q_Lref [q_i ((xs (i + 1)).toInt)] C (hR.Ps.1) kL_92_12 (tX12_likely (x_w w0 σ B P g) μ ((xs (i + 1)).toInt) (q_r_of _) hR.Po) dL_law_803 rfl (by decide) (Nat.le_of_ble_eq_true rfl) rfl (by omega) (by omega) ?_
  refine q_Leq C dL_law_806 (tgt := 1389) (by decide) ?_
  exact hK cells slots w0 _ σ B P g (by omega) (by omega) (by omega) hσ
set_option maxRecDepth 20000 in
theorem q_Lc19 (C : q_LC p s m meth c sb L xs D dA) (hL : L ≤ 384) (hi : i + 6 ≤ L) (hc : cells + 5 ≤ 600000) (hs : slots + 30 ≤ 7302250) (h76 : 76 ≤ cells) (hR : z_R μ ξ B P g) (hK : q_LN p l e s m below meth c sb D dA i cells slots) : q_L p l e s m below meth c sb D dA cells slots 811 (q_lvs s sb i) [] (x_w (m_w w0 μ) ξ B P g) := by
  refine q_Lrf (i := 1) C (q_lv1 _ _ _) rfl dL_law_811 ?_
  refine q_Lcls [] C kL_93_11 (tX11_best (m_w w0 μ) μ ξ B P g hR ) dL_law_812 rfl (by decide) (Nat.le_of_ble_eq_true rfl) rfl (by omega) (by omega) (fun σ hσ => ?_)
  refine q_Lrf (i := 2) C (q_lv2 _ _ _) rfl dL_law_815 ?_
  refine q_Lref [] C (hR.Ps.1) kL_97_12 (tX12_best (x_w w0 σ B P g) μ hR.Sh hR.mV) dL_law_816 rfl (by decide) (Nat.le_of_ble_eq_true rfl) rfl (by omega) (by omega) ?_
  refine q_Leq C dL_law_819 (tgt := 1389) (by decide) ?_
  exact hK cells slots w0 _ σ B P g (by omega) (by omega) (by omega) hσ
set_option maxRecDepth 20000 in
theorem q_Lc20 (C : q_LC p s m meth c sb L xs D dA) (hL : L ≤ 384) (hi : i + 6 ≤ L) (hc : cells + 5 ≤ 600000) (hs : slots + 30 ≤ 7302250) (h76 : 76 ≤ cells) (hR : z_R μ ξ B P g) (hK : q_LN p l e s m below meth c sb D dA i cells slots) : q_L p l e s m below meth c sb D dA cells slots 824 (q_lvs s sb i) [] (x_w (m_w w0 μ) ξ B P g) := by
  refine q_Lrf (i := 1) C (q_lv1 _ _ _) rfl dL_law_824 ?_
  refine q_Larg (i := i) (j := 1) C hL (by omega) (q_lv0 _ _ _) (q_lv3 _ _ _) dL_law_825 dL_law_826 dL_law_827 dL_law_828 dL_law_829 ?_
  refine q_Larg (i := i) (j := 2) C hL (by omega) (q_lv0 _ _ _) (q_lv3 _ _ _) dL_law_830 dL_law_831 dL_law_832 dL_law_833 dL_law_834 ?_
  refine q_Lcls [q_i ((xs (i + 1)).toInt), q_i ((xs (i + 2)).toInt)] C kL_98_11 (tX11_wheel (m_w w0 μ) μ ξ B P g hR ((xs (i + 1)).toInt) ((xs (i + 2)).toInt) (q_r_of _) (q_r_of _)) dL_law_835 rfl (by decide) (Nat.le_of_ble_eq_true rfl) rfl (by omega) (by omega) (fun σ hσ => ?_)
  refine q_Lrf (i := 2) C (q_lv2 _ _ _) rfl dL_law_838 ?_
  refine q_Larg (i := i) (j := 1) C hL (by omega) (q_lv0 _ _ _) (q_lv3 _ _ _) dL_law_839 dL_law_840 dL_law_841 dL_law_842 dL_law_843 ?_
  refine q_Larg (i := i) (j := 2) C hL (by omega) (q_lv0 _ _ _) (q_lv3 _ _ _) dL_law_844 dL_law_845 dL_law_846 dL_law_847 dL_law_848 ?_
  refine q_Lref [q_i ((xs (i + 1)).toInt), q_i ((xs (i + 2)).toInt)] C (hR.Ps.1) kL_101_12 (tX12_wheel (x_w w0 σ B P g) μ ((xs (i + 1)).toInt) ((xs (i + 2)).toInt) (q_r_of _) (q_r_of _) hR.Sh hR.Po) dL_law_849 rfl (by decide) (Nat.le_of_ble_eq_true rfl) rfl (by omega) (by omega) ?_
  refine q_Leq C dL_law_852 (tgt := 1389) (by decide) ?_
  exact hK cells slots w0 _ σ B P g (by omega) (by omega) (by omega) hσ
set_option maxRecDepth 20000 in
theorem q_Lc21 (C : q_LC p s m meth c sb L xs D dA) (hL : L ≤ 384) (hi : i + 6 ≤ L) (hc : cells + 5 ≤ 600000) (hs : slots + 30 ≤ 7302250) (h76 : 76 ≤ cells) (hR : z_R μ ξ B P g) (hK : q_LN p l e s m below meth c sb D dA i cells slots) : q_L p l e s m below meth c sb D dA cells slots 857 (q_lvs s sb i) [] (x_w (m_w w0 μ) ξ B P g) := by
  refine q_Lrf (i := 1) C (q_lv1 _ _ _) rfl dL_law_857 ?_
  refine q_Lcls [] C kL_102_11 (tX11_certain (m_w w0 μ) μ ξ B P g hR ) dL_law_858 rfl (by decide) (Nat.le_of_ble_eq_true rfl) rfl (by omega) (by omega) (fun σ hσ => ?_)
  refine q_Lrf (i := 2) C (q_lv2 _ _ _) rfl dL_law_861 ?_
  refine q_Lref [] C (hR.Ps.1) kL_105_12 (tX12_certain (x_w w0 σ B P g) μ hR.Sh hR.mV) dL_law_862 rfl (by decide) (Nat.le_of_ble_eq_true rfl) rfl (by omega) (by omega) ?_
  refine q_Leq C dL_law_865 (tgt := 1389) (by decide) ?_
  exact hK cells slots w0 _ σ B P g (by omega) (by omega) (by omega) hσ
set_option maxRecDepth 20000 in
theorem q_Lc22 (C : q_LC p s m meth c sb L xs D dA) (hL : L ≤ 384) (hi : i + 6 ≤ L) (hc : cells + 5 ≤ 600000) (hs : slots + 30 ≤ 7302250) (h76 : 76 ≤ cells) (hR : z_R μ ξ B P g) (hK : q_LN p l e s m below meth c sb D dA i cells slots) : q_L p l e s m below meth c sb D dA cells slots 870 (q_lvs s sb i) [] (x_w (m_w w0 μ) ξ B P g) := by
  refine q_Lrf (i := 1) C (q_lv1 _ _ _) rfl dL_law_870 ?_
  refine q_Larg (i := i) (j := 1) C hL (by omega) (q_lv0 _ _ _) (q_lv3 _ _ _) dL_law_871 dL_law_872 dL_law_873 dL_law_874 dL_law_875 ?_
  refine q_Larg (i := i) (j := 2) C hL (by omega) (q_lv0 _ _ _) (q_lv3 _ _ _) dL_law_876 dL_law_877 dL_law_878 dL_law_879 dL_law_880 ?_
  refine q_Lcls [q_i ((xs (i + 1)).toInt), q_i ((xs (i + 2)).toInt)] C kL_106_11 (tX11_order (m_w w0 μ) μ ξ B P g hR ((xs (i + 1)).toInt) ((xs (i + 2)).toInt) (q_r_of _) (q_r_of _)) dL_law_881 rfl (by decide) (Nat.le_of_ble_eq_true rfl) rfl (by omega) (by omega) (fun σ hσ => ?_)
  refine q_Lrf (i := 2) C (q_lv2 _ _ _) rfl dL_law_884 ?_
  refine q_Larg (i := i) (j := 1) C hL (by omega) (q_lv0 _ _ _) (q_lv3 _ _ _) dL_law_885 dL_law_886 dL_law_887 dL_law_888 dL_law_889 ?_
  refine q_Larg (i := i) (j := 2) C hL (by omega) (q_lv0 _ _ _) (q_lv3 _ _ _) dL_law_890 dL_law_891 dL_law_892 dL_law_893 dL_law_894 ?_
  refine q_Lref [q_i ((xs (i + 1)).toInt), q_i ((xs (i + 2)).toInt)] C (hR.Ps.1) kL_109_12 (tX12_order (x_w w0 σ B P g) μ ((xs (i + 1)).toInt) ((xs (i + 2)).toInt) (q_r_of _) (q_r_of _) hR.Sh hR.mV) dL_law_895 rfl (by decide) (Nat.le_of_ble_eq_true rfl) rfl (by omega) (by omega) ?_
  refine q_Leq C dL_law_898 (tgt := 1389) (by decide) ?_
  exact hK cells slots w0 _ σ B P g (by omega) (by omega) (by omega) hσ
set_option maxRecDepth 20000 in
theorem q_Lc23 (C : q_LC p s m meth c sb L xs D dA) (hL : L ≤ 384) (hi : i + 6 ≤ L) (hc : cells + 5 ≤ 600000) (hs : slots + 30 ≤ 7302250) (h76 : 76 ≤ cells) (hR : z_R μ ξ B P g) (hK : q_LN p l e s m below meth c sb D dA i cells slots) : q_L p l e s m below meth c sb D dA cells slots 903 (q_lvs s sb i) [] (x_w (m_w w0 μ) ξ B P g) := by
  refine q_Lrf (i := 1) C (q_lv1 _ _ _) rfl dL_law_903 ?_
  refine q_Lcls [] C kL_110_11 (tX11_tries (m_w w0 μ) μ ξ B P g hR ) dL_law_904 rfl (by decide) (Nat.le_of_ble_eq_true rfl) rfl (by omega) (by omega) (fun σ hσ => ?_)
  refine q_Lrf (i := 2) C (q_lv2 _ _ _) rfl dL_law_907 ?_
  refine q_Lref [] C (hR.Ps.1) kL_113_12 (tX12_tries (x_w w0 σ B P g) μ hR.Sh hR.Po) dL_law_908 rfl (by decide) (Nat.le_of_ble_eq_true rfl) rfl (by omega) (by omega) ?_
  refine q_Leq C dL_law_911 (tgt := 1389) (by decide) ?_
  exact hK cells slots w0 _ σ B P g (by omega) (by omega) (by omega) hσ
set_option maxRecDepth 20000 in
theorem q_Lc24 (C : q_LC p s m meth c sb L xs D dA) (hL : L ≤ 384) (hi : i + 6 ≤ L) (hc : cells + 5 ≤ 600000) (hs : slots + 30 ≤ 7302250) (h76 : 76 ≤ cells) (hR : z_R μ ξ B P g) (hK : q_LN p l e s m below meth c sb D dA i cells slots) : q_L p l e s m below meth c sb D dA cells slots 916 (q_lvs s sb i) [] (x_w (m_w w0 μ) ξ B P g) := by
  refine q_Lrf (i := 1) C (q_lv1 _ _ _) rfl dL_law_916 ?_
  refine q_Larg (i := i) (j := 1) C hL (by omega) (q_lv0 _ _ _) (q_lv3 _ _ _) dL_law_917 dL_law_918 dL_law_919 dL_law_920 dL_law_921 ?_
  refine q_Lcls [q_i ((xs (i + 1)).toInt)] C kL_114_11 (tX11_within (m_w w0 μ) μ ξ B P g hR ((xs (i + 1)).toInt) (q_r_of _)) dL_law_922 rfl (by decide) (Nat.le_of_ble_eq_true rfl) rfl (by omega) (by omega) (fun σ hσ => ?_)
  refine q_Lrf (i := 2) C (q_lv2 _ _ _) rfl dL_law_925 ?_
  refine q_Larg (i := i) (j := 1) C hL (by omega) (q_lv0 _ _ _) (q_lv3 _ _ _) dL_law_926 dL_law_927 dL_law_928 dL_law_929 dL_law_930 ?_
  refine q_Lref [q_i ((xs (i + 1)).toInt)] C (hR.Ps.1) kL_117_12 (tX12_within (x_w w0 σ B P g) μ ((xs (i + 1)).toInt) (q_r_of _) hR.Sh hR.Po) dL_law_931 rfl (by decide) (Nat.le_of_ble_eq_true rfl) rfl (by omega) (by omega) ?_
  refine q_Leq C dL_law_934 (tgt := 1389) (by decide) ?_
  exact hK cells slots w0 _ σ B P g (by omega) (by omega) (by omega) hσ
set_option maxRecDepth 20000 in
theorem q_Lc25 (C : q_LC p s m meth c sb L xs D dA) (hL : L ≤ 384) (hi : i + 6 ≤ L) (hc : cells + 5 ≤ 600000) (hs : slots + 30 ≤ 7302250) (h76 : 76 ≤ cells) (hR : z_R μ ξ B P g) (hK : q_LN p l e s m below meth c sb D dA i cells slots) : q_L p l e s m below meth c sb D dA cells slots 939 (q_lvs s sb i) [] (x_w (m_w w0 μ) ξ B P g) := by
  refine q_Lrf (i := 1) C (q_lv1 _ _ _) rfl dL_law_939 ?_
  refine q_Larg (i := i) (j := 1) C hL (by omega) (q_lv0 _ _ _) (q_lv3 _ _ _) dL_law_940 dL_law_941 dL_law_942 dL_law_943 dL_law_944 ?_
  refine q_Lcls [q_i ((xs (i + 1)).toInt)] C kL_118_11 (tX11_worth (m_w w0 μ) μ ξ B P g hR ((xs (i + 1)).toInt) (q_r_of _)) dL_law_945 rfl (by decide) (Nat.le_of_ble_eq_true rfl) rfl (by omega) (by omega) (fun σ hσ => ?_)
  refine q_Lrf (i := 2) C (q_lv2 _ _ _) rfl dL_law_948 ?_
  refine q_Larg (i := i) (j := 1) C hL (by omega) (q_lv0 _ _ _) (q_lv3 _ _ _) dL_law_949 dL_law_950 dL_law_951 dL_law_952 dL_law_953 ?_
  refine q_Lref [q_i ((xs (i + 1)).toInt)] C (hR.Ps.1) kL_121_12 (tX12_worth (x_w w0 σ B P g) μ ((xs (i + 1)).toInt) (q_r_of _) hR.Sh hR.Po) dL_law_954 rfl (by decide) (Nat.le_of_ble_eq_true rfl) rfl (by omega) (by omega) ?_
  refine q_Leq C dL_law_957 (tgt := 1389) (by decide) ?_
  exact hK cells slots w0 _ σ B P g (by omega) (by omega) (by omega) hσ
set_option maxRecDepth 20000 in
theorem q_Lc26 (C : q_LC p s m meth c sb L xs D dA) (hL : L ≤ 384) (hi : i + 6 ≤ L) (hc : cells + 5 ≤ 600000) (hs : slots + 30 ≤ 7302250) (h76 : 76 ≤ cells) (hR : z_R μ ξ B P g) (hK : q_LN p l e s m below meth c sb D dA i cells slots) : q_L p l e s m below meth c sb D dA cells slots 962 (q_lvs s sb i) [] (x_w (m_w w0 μ) ξ B P g) := by
  refine q_Lrf (i := 1) C (q_lv1 _ _ _) rfl dL_law_962 ?_
  refine q_Lcls [] C kL_122_11 (tX11_whose (m_w w0 μ) μ ξ B P g hR ) dL_law_963 rfl (by decide) (Nat.le_of_ble_eq_true rfl) rfl (by omega) (by omega) (fun σ hσ => ?_)
  refine q_Lrf (i := 2) C (q_lv2 _ _ _) rfl dL_law_966 ?_
  refine q_Lref [] C (hR.Ps.1) kL_125_12 (tX12_whose (x_w w0 σ B P g) μ hR.Sh hR.mV) dL_law_967 rfl (by decide) (Nat.le_of_ble_eq_true rfl) rfl (by omega) (by omega) ?_
  refine q_Leq C dL_law_970 (tgt := 1389) (by decide) ?_
  exact hK cells slots w0 _ σ B P g (by omega) (by omega) (by omega) hσ
set_option maxRecDepth 20000 in
theorem q_Lc27 (C : q_LC p s m meth c sb L xs D dA) (hL : L ≤ 384) (hi : i + 6 ≤ L) (hc : cells + 5 ≤ 600000) (hs : slots + 30 ≤ 7302250) (h76 : 76 ≤ cells) (hR : z_R μ ξ B P g) (hK : q_LN p l e s m below meth c sb D dA i cells slots) : q_L p l e s m below meth c sb D dA cells slots 975 (q_lvs s sb i) [] (x_w (m_w w0 μ) ξ B P g) := by
  refine q_Lrf (i := 1) C (q_lv1 _ _ _) rfl dL_law_975 ?_
  refine q_Larg (i := i) (j := 1) C hL (by omega) (q_lv0 _ _ _) (q_lv3 _ _ _) dL_law_976 dL_law_977 dL_law_978 dL_law_979 dL_law_980 ?_
  refine q_Larg (i := i) (j := 2) C hL (by omega) (q_lv0 _ _ _) (q_lv3 _ _ _) dL_law_981 dL_law_982 dL_law_983 dL_law_984 dL_law_985 ?_
  refine q_Lcls [q_i ((xs (i + 1)).toInt), q_i ((xs (i + 2)).toInt)] C kL_126_11 (tX11_seen (m_w w0 μ) μ ξ B P g hR ((xs (i + 1)).toInt) ((xs (i + 2)).toInt) (q_r_of _) (q_r_of _)) dL_law_986 rfl (by decide) (Nat.le_of_ble_eq_true rfl) rfl (by omega) (by omega) (fun σ hσ => ?_)
  refine q_Lrf (i := 2) C (q_lv2 _ _ _) rfl dL_law_989 ?_
  refine q_Larg (i := i) (j := 1) C hL (by omega) (q_lv0 _ _ _) (q_lv3 _ _ _) dL_law_990 dL_law_991 dL_law_992 dL_law_993 dL_law_994 ?_
  refine q_Larg (i := i) (j := 2) C hL (by omega) (q_lv0 _ _ _) (q_lv3 _ _ _) dL_law_995 dL_law_996 dL_law_997 dL_law_998 dL_law_999 ?_
  refine q_Lref [q_i ((xs (i + 1)).toInt), q_i ((xs (i + 2)).toInt)] C (hR.Ps.1) kL_129_12 (tX12_seen (x_w w0 σ B P g) μ ((xs (i + 1)).toInt) ((xs (i + 2)).toInt) (q_r_of _) (q_r_of _) hR.Sh hR.Po) dL_law_1000 rfl (by decide) (Nat.le_of_ble_eq_true rfl) rfl (by omega) (by omega) ?_
  refine q_Leq C dL_law_1003 (tgt := 1389) (by decide) ?_
  exact hK cells slots w0 _ σ B P g (by omega) (by omega) (by omega) hσ
set_option maxRecDepth 20000 in
theorem q_Lc28 (C : q_LC p s m meth c sb L xs D dA) (hL : L ≤ 384) (hi : i + 6 ≤ L) (hc : cells + 5 ≤ 600000) (hs : slots + 30 ≤ 7302250) (h76 : 76 ≤ cells) (hR : z_R μ ξ B P g) (hK : q_LN p l e s m below meth c sb D dA i cells slots) : q_L p l e s m below meth c sb D dA cells slots 1008 (q_lvs s sb i) [] (x_w (m_w w0 μ) ξ B P g) := by
  refine q_Lrf (i := 1) C (q_lv1 _ _ _) rfl dL_law_1008 ?_
  refine q_Larg (i := i) (j := 1) C hL (by omega) (q_lv0 _ _ _) (q_lv3 _ _ _) dL_law_1009 dL_law_1010 dL_law_1011 dL_law_1012 dL_law_1013 ?_
  refine q_Lcls [q_i ((xs (i + 1)).toInt)] C kL_130_11 (tX11_sights (m_w w0 μ) μ ξ B P g hR ((xs (i + 1)).toInt) (q_r_of _)) dL_law_1014 rfl (by decide) (Nat.le_of_ble_eq_true rfl) rfl (by omega) (by omega) (fun σ hσ => ?_)
  refine q_Lrf (i := 2) C (q_lv2 _ _ _) rfl dL_law_1017 ?_
  refine q_Larg (i := i) (j := 1) C hL (by omega) (q_lv0 _ _ _) (q_lv3 _ _ _) dL_law_1018 dL_law_1019 dL_law_1020 dL_law_1021 dL_law_1022 ?_
  refine q_Lref [q_i ((xs (i + 1)).toInt)] C (hR.Ps.1) kL_133_12 (tX12_sights (x_w w0 σ B P g) μ ((xs (i + 1)).toInt) (q_r_of _) hR.Sh hR.mV) dL_law_1023 rfl (by decide) (Nat.le_of_ble_eq_true rfl) rfl (by omega) (by omega) ?_
  refine q_Leq C dL_law_1026 (tgt := 1389) (by decide) ?_
  exact hK cells slots w0 _ σ B P g (by omega) (by omega) (by omega) hσ
set_option maxRecDepth 20000 in
theorem q_Lc29 (C : q_LC p s m meth c sb L xs D dA) (hL : L ≤ 384) (hi : i + 6 ≤ L) (hc : cells + 5 ≤ 600000) (hs : slots + 30 ≤ 7302250) (h76 : 76 ≤ cells) (hR : z_R μ ξ B P g) (hK : q_LN p l e s m below meth c sb D dA i cells slots) : q_L p l e s m below meth c sb D dA cells slots 1031 (q_lvs s sb i) [] (x_w (m_w w0 μ) ξ B P g) := by
  refine q_Lrf (i := 1) C (q_lv1 _ _ _) rfl dL_law_1031 ?_
  refine q_Larg (i := i) (j := 1) C hL (by omega) (q_lv0 _ _ _) (q_lv3 _ _ _) dL_law_1032 dL_law_1033 dL_law_1034 dL_law_1035 dL_law_1036 ?_
  refine q_Lcls [q_i ((xs (i + 1)).toInt)] C kL_134_11 (tX11_fits (m_w w0 μ) μ ξ B P g hR ((xs (i + 1)).toInt) (q_r_of _)) dL_law_1037 rfl (by decide) (Nat.le_of_ble_eq_true rfl) rfl (by omega) (by omega) (fun σ hσ => ?_)
  refine q_Lrf (i := 2) C (q_lv2 _ _ _) rfl dL_law_1040 ?_
  refine q_Larg (i := i) (j := 1) C hL (by omega) (q_lv0 _ _ _) (q_lv3 _ _ _) dL_law_1041 dL_law_1042 dL_law_1043 dL_law_1044 dL_law_1045 ?_
  refine q_Lref [q_i ((xs (i + 1)).toInt)] C (hR.Ps.1) kL_137_12 (tX12_fits (x_w w0 σ B P g) μ ((xs (i + 1)).toInt) (q_r_of _) hR.Sh hR.I) dL_law_1046 rfl (by decide) (Nat.le_of_ble_eq_true rfl) rfl (by omega) (by omega) ?_
  refine q_Leq C dL_law_1049 (tgt := 1389) (by decide) ?_
  exact hK cells slots w0 _ σ B P g (by omega) (by omega) (by omega) hσ
set_option maxRecDepth 20000 in
theorem q_Lc30 (C : q_LC p s m meth c sb L xs D dA) (hL : L ≤ 384) (hi : i + 6 ≤ L) (hc : cells + 5 ≤ 600000) (hs : slots + 30 ≤ 7302250) (h76 : 76 ≤ cells) (hR : z_R μ ξ B P g) (hK : q_LN p l e s m below meth c sb D dA i cells slots) : q_L p l e s m below meth c sb D dA cells slots 1054 (q_lvs s sb i) [] (x_w (m_w w0 μ) ξ B P g) := by
  refine q_Lrf (i := 1) C (q_lv1 _ _ _) rfl dL_law_1054 ?_
  refine q_Larg (i := i) (j := 1) C hL (by omega) (q_lv0 _ _ _) (q_lv3 _ _ _) dL_law_1055 dL_law_1056 dL_law_1057 dL_law_1058 dL_law_1059 ?_
  refine q_Lcls [q_i ((xs (i + 1)).toInt)] C kL_138_11 (tX11_chance (m_w w0 μ) μ ξ B P g hR ((xs (i + 1)).toInt) (q_r_of _)) dL_law_1060 rfl (by decide) (Nat.le_of_ble_eq_true rfl) rfl (by omega) (by omega) (fun σ hσ => ?_)
  refine q_Lrf (i := 2) C (q_lv2 _ _ _) rfl dL_law_1063 ?_
  refine q_Larg (i := i) (j := 1) C hL (by omega) (q_lv0 _ _ _) (q_lv3 _ _ _) dL_law_1064 dL_law_1065 dL_law_1066 dL_law_1067 dL_law_1068 ?_
  refine q_Lref [q_i ((xs (i + 1)).toInt)] C (hR.Ps.1) kL_141_12 (tX12_chance (x_w w0 σ B P g) μ ((xs (i + 1)).toInt) (q_r_of _) hR.Sh hR.I) dL_law_1069 rfl (by decide) (Nat.le_of_ble_eq_true rfl) rfl (by omega) (by omega) ?_
  refine q_Leq C dL_law_1072 (tgt := 1389) (by decide) ?_
  exact hK cells slots w0 _ σ B P g (by omega) (by omega) (by omega) hσ
set_option maxRecDepth 20000 in
theorem q_Lc31 (C : q_LC p s m meth c sb L xs D dA) (hL : L ≤ 384) (hi : i + 6 ≤ L) (hc : cells + 5 ≤ 600000) (hs : slots + 30 ≤ 7302250) (h76 : 76 ≤ cells) (hR : z_R μ ξ B P g) (hK : q_LN p l e s m below meth c sb D dA i cells slots) : q_L p l e s m below meth c sb D dA cells slots 1077 (q_lvs s sb i) [] (x_w (m_w w0 μ) ξ B P g) := by
  refine q_Lrf (i := 1) C (q_lv1 _ _ _) rfl dL_law_1077 ?_
  refine q_Larg (i := i) (j := 1) C hL (by omega) (q_lv0 _ _ _) (q_lv3 _ _ _) dL_law_1078 dL_law_1079 dL_law_1080 dL_law_1081 dL_law_1082 ?_
  refine q_Lcls [q_i ((xs (i + 1)).toInt)] C kL_142_11 (tX11_read (m_w w0 μ) μ ξ B P g hR ((xs (i + 1)).toInt) (q_r_of _)) dL_law_1083 rfl (by decide) (Nat.le_of_ble_eq_true rfl) rfl (by omega) (by omega) (fun σ hσ => ?_)
  refine q_Lrf (i := 2) C (q_lv2 _ _ _) rfl dL_law_1086 ?_
  refine q_Larg (i := i) (j := 1) C hL (by omega) (q_lv0 _ _ _) (q_lv3 _ _ _) dL_law_1087 dL_law_1088 dL_law_1089 dL_law_1090 dL_law_1091 ?_
  refine q_Lref [q_i ((xs (i + 1)).toInt)] C (hR.Ps.1) kL_145_12 (tX12_read (x_w w0 σ B P g) μ ((xs (i + 1)).toInt) (q_r_of _) hR.Sh hR.I) dL_law_1092 rfl (by decide) (Nat.le_of_ble_eq_true rfl) rfl (by omega) (by omega) ?_
  refine q_Leq C dL_law_1095 (tgt := 1389) (by decide) ?_
  exact hK cells slots w0 _ σ B P g (by omega) (by omega) (by omega) hσ
set_option maxRecDepth 20000 in
theorem q_Lc32 (C : q_LC p s m meth c sb L xs D dA) (hL : L ≤ 384) (hi : i + 6 ≤ L) (hc : cells + 5 ≤ 600000) (hs : slots + 30 ≤ 7302250) (h76 : 76 ≤ cells) (hR : z_R μ ξ B P g) (hK : q_LN p l e s m below meth c sb D dA i cells slots) : q_L p l e s m below meth c sb D dA cells slots 1100 (q_lvs s sb i) [] (x_w (m_w w0 μ) ξ B P g) := by
  refine q_Lrf (i := 1) C (q_lv1 _ _ _) rfl dL_law_1100 ?_
  refine q_Larg (i := i) (j := 1) C hL (by omega) (q_lv0 _ _ _) (q_lv3 _ _ _) dL_law_1101 dL_law_1102 dL_law_1103 dL_law_1104 dL_law_1105 ?_
  refine q_Larg (i := i) (j := 2) C hL (by omega) (q_lv0 _ _ _) (q_lv3 _ _ _) dL_law_1106 dL_law_1107 dL_law_1108 dL_law_1109 dL_law_1110 ?_
  refine q_Lcls [q_i ((xs (i + 1)).toInt), q_i ((xs (i + 2)).toInt)] C kL_146_11 (tX11_who (m_w w0 μ) μ ξ B P g hR ((xs (i + 1)).toInt) ((xs (i + 2)).toInt) (q_r_of _) (q_r_of _)) dL_law_1111 rfl (by decide) (Nat.le_of_ble_eq_true rfl) rfl (by omega) (by omega) (fun σ hσ => ?_)
  refine q_Lrf (i := 2) C (q_lv2 _ _ _) rfl dL_law_1114 ?_
  refine q_Larg (i := i) (j := 1) C hL (by omega) (q_lv0 _ _ _) (q_lv3 _ _ _) dL_law_1115 dL_law_1116 dL_law_1117 dL_law_1118 dL_law_1119 ?_
  refine q_Larg (i := i) (j := 2) C hL (by omega) (q_lv0 _ _ _) (q_lv3 _ _ _) dL_law_1120 dL_law_1121 dL_law_1122 dL_law_1123 dL_law_1124 ?_
  refine q_Lref [q_i ((xs (i + 1)).toInt), q_i ((xs (i + 2)).toInt)] C (hR.Ps.1) kL_149_12 (tX12_who (x_w w0 σ B P g) μ ((xs (i + 1)).toInt) ((xs (i + 2)).toInt) (q_r_of _) (q_r_of _) hR.Sh) dL_law_1125 rfl (by decide) (Nat.le_of_ble_eq_true rfl) rfl (by omega) (by omega) ?_
  refine q_Leq C dL_law_1128 (tgt := 1389) (by decide) ?_
  exact hK cells slots w0 _ σ B P g (by omega) (by omega) (by omega) hσ
set_option maxRecDepth 20000 in
theorem q_Lc33 (C : q_LC p s m meth c sb L xs D dA) (hL : L ≤ 384) (hi : i + 6 ≤ L) (hc : cells + 5 ≤ 600000) (hs : slots + 30 ≤ 7302250) (h76 : 76 ≤ cells) (hR : z_R μ ξ B P g) (hK : q_LN p l e s m below meth c sb D dA i cells slots) : q_L p l e s m below meth c sb D dA cells slots 1133 (q_lvs s sb i) [] (x_w (m_w w0 μ) ξ B P g) := by
  refine q_Lrf (i := 1) C (q_lv1 _ _ _) rfl dL_law_1133 ?_
  refine q_Larg (i := i) (j := 1) C hL (by omega) (q_lv0 _ _ _) (q_lv3 _ _ _) dL_law_1134 dL_law_1135 dL_law_1136 dL_law_1137 dL_law_1138 ?_
  refine q_Larg (i := i) (j := 2) C hL (by omega) (q_lv0 _ _ _) (q_lv3 _ _ _) dL_law_1139 dL_law_1140 dL_law_1141 dL_law_1142 dL_law_1143 ?_
  refine q_Larg (i := i) (j := 3) C hL (by omega) (q_lv0 _ _ _) (q_lv3 _ _ _) dL_law_1144 dL_law_1145 dL_law_1146 dL_law_1147 dL_law_1148 ?_
  refine q_Lcls [q_i ((xs (i + 1)).toInt), q_i ((xs (i + 2)).toInt), q_i ((xs (i + 3)).toInt)] C kL_150_11 (tX11_ways (m_w w0 μ) μ ξ B P g hR ((xs (i + 1)).toInt) ((xs (i + 2)).toInt) ((xs (i + 3)).toInt) (q_r_of _) (q_r_of _) (q_r_of _)) dL_law_1149 rfl (by decide) (Nat.le_of_ble_eq_true rfl) rfl (by omega) (by omega) (fun σ hσ => ?_)
  refine q_Lrf (i := 2) C (q_lv2 _ _ _) rfl dL_law_1152 ?_
  refine q_Larg (i := i) (j := 1) C hL (by omega) (q_lv0 _ _ _) (q_lv3 _ _ _) dL_law_1153 dL_law_1154 dL_law_1155 dL_law_1156 dL_law_1157 ?_
  refine q_Larg (i := i) (j := 2) C hL (by omega) (q_lv0 _ _ _) (q_lv3 _ _ _) dL_law_1158 dL_law_1159 dL_law_1160 dL_law_1161 dL_law_1162 ?_
  refine q_Larg (i := i) (j := 3) C hL (by omega) (q_lv0 _ _ _) (q_lv3 _ _ _) dL_law_1163 dL_law_1164 dL_law_1165 dL_law_1166 dL_law_1167 ?_
  refine q_Lref [q_i ((xs (i + 1)).toInt), q_i ((xs (i + 2)).toInt), q_i ((xs (i + 3)).toInt)] C (hR.Ps.1) kL_153_12 (tX12_ways (x_w w0 σ B P g) μ ((xs (i + 1)).toInt) ((xs (i + 2)).toInt) ((xs (i + 3)).toInt) (q_r_of _) (q_r_of _) (q_r_of _) hR.Sh) dL_law_1168 rfl (by decide) (Nat.le_of_ble_eq_true rfl) rfl (by omega) (by omega) ?_
  refine q_Leq C dL_law_1171 (tgt := 1389) (by decide) ?_
  exact hK cells slots w0 _ σ B P g (by omega) (by omega) (by omega) hσ
set_option maxRecDepth 20000 in
theorem q_Lc34 (C : q_LC p s m meth c sb L xs D dA) (hL : L ≤ 384) (hi : i + 6 ≤ L) (hc : cells + 5 ≤ 600000) (hs : slots + 30 ≤ 7302250) (h76 : 76 ≤ cells) (hR : z_R μ ξ B P g) (hK : q_LN p l e s m below meth c sb D dA i cells slots) : q_L p l e s m below meth c sb D dA cells slots 1176 (q_lvs s sb i) [] (x_w (m_w w0 μ) ξ B P g) := by
  refine q_Lrf (i := 1) C (q_lv1 _ _ _) rfl dL_law_1176 ?_
  refine q_Larg (i := i) (j := 1) C hL (by omega) (q_lv0 _ _ _) (q_lv3 _ _ _) dL_law_1177 dL_law_1178 dL_law_1179 dL_law_1180 dL_law_1181 ?_
  refine q_Larg (i := i) (j := 2) C hL (by omega) (q_lv0 _ _ _) (q_lv3 _ _ _) dL_law_1182 dL_law_1183 dL_law_1184 dL_law_1185 dL_law_1186 ?_
  refine q_Lcls [q_i ((xs (i + 1)).toInt), q_i ((xs (i + 2)).toInt)] C kL_154_11 (tX11_apart (m_w w0 μ) μ ξ B P g hR ((xs (i + 1)).toInt) ((xs (i + 2)).toInt) (q_r_of _) (q_r_of _)) dL_law_1187 rfl (by decide) (Nat.le_of_ble_eq_true rfl) rfl (by omega) (by omega) (fun σ hσ => ?_)
  refine q_Lrf (i := 2) C (q_lv2 _ _ _) rfl dL_law_1190 ?_
  refine q_Larg (i := i) (j := 1) C hL (by omega) (q_lv0 _ _ _) (q_lv3 _ _ _) dL_law_1191 dL_law_1192 dL_law_1193 dL_law_1194 dL_law_1195 ?_
  refine q_Larg (i := i) (j := 2) C hL (by omega) (q_lv0 _ _ _) (q_lv3 _ _ _) dL_law_1196 dL_law_1197 dL_law_1198 dL_law_1199 dL_law_1200 ?_
  refine q_Lref [q_i ((xs (i + 1)).toInt), q_i ((xs (i + 2)).toInt)] C (hR.Ps.1) kL_157_12 (tX12_apart (x_w w0 σ B P g) μ ((xs (i + 1)).toInt) ((xs (i + 2)).toInt) (q_r_of _) (q_r_of _) hR.Sh) dL_law_1201 rfl (by decide) (Nat.le_of_ble_eq_true rfl) rfl (by omega) (by omega) ?_
  refine q_Leq C dL_law_1204 (tgt := 1389) (by decide) ?_
  exact hK cells slots w0 _ σ B P g (by omega) (by omega) (by omega) hσ
set_option maxRecDepth 20000 in
theorem q_Lc35 (C : q_LC p s m meth c sb L xs D dA) (hL : L ≤ 384) (hi : i + 6 ≤ L) (hc : cells + 5 ≤ 600000) (hs : slots + 30 ≤ 7302250) (h76 : 76 ≤ cells) (hR : z_R μ ξ B P g) (hK : q_LN p l e s m below meth c sb D dA i cells slots) : q_L p l e s m below meth c sb D dA cells slots 1209 (q_lvs s sb i) [] (x_w (m_w w0 μ) ξ B P g) := by
  refine q_Lrf (i := 1) C (q_lv1 _ _ _) rfl dL_law_1209 ?_
  refine q_Larg (i := i) (j := 1) C hL (by omega) (q_lv0 _ _ _) (q_lv3 _ _ _) dL_law_1210 dL_law_1211 dL_law_1212 dL_law_1213 dL_law_1214 ?_
  refine q_Larg (i := i) (j := 2) C hL (by omega) (q_lv0 _ _ _) (q_lv3 _ _ _) dL_law_1215 dL_law_1216 dL_law_1217 dL_law_1218 dL_law_1219 ?_
  refine q_Lcls [q_i ((xs (i + 1)).toInt), q_i ((xs (i + 2)).toInt)] C kL_158_11 (tX11_near (m_w w0 μ) μ ξ B P g hR ((xs (i + 1)).toInt) ((xs (i + 2)).toInt) (q_r_of _) (q_r_of _)) dL_law_1220 rfl (by decide) (Nat.le_of_ble_eq_true rfl) rfl (by omega) (by omega) (fun σ hσ => ?_)
  refine q_Lrf (i := 2) C (q_lv2 _ _ _) rfl dL_law_1223 ?_
  refine q_Larg (i := i) (j := 1) C hL (by omega) (q_lv0 _ _ _) (q_lv3 _ _ _) dL_law_1224 dL_law_1225 dL_law_1226 dL_law_1227 dL_law_1228 ?_
  refine q_Larg (i := i) (j := 2) C hL (by omega) (q_lv0 _ _ _) (q_lv3 _ _ _) dL_law_1229 dL_law_1230 dL_law_1231 dL_law_1232 dL_law_1233 ?_
  refine q_Lref [q_i ((xs (i + 1)).toInt), q_i ((xs (i + 2)).toInt)] C (hR.Ps.1) kL_161_12 (tX12_near (x_w w0 σ B P g) μ ((xs (i + 1)).toInt) ((xs (i + 2)).toInt) (q_r_of _) (q_r_of _) hR.Sh) dL_law_1234 rfl (by decide) (Nat.le_of_ble_eq_true rfl) rfl (by omega) (by omega) ?_
  refine q_Leq C dL_law_1237 (tgt := 1389) (by decide) ?_
  exact hK cells slots w0 _ σ B P g (by omega) (by omega) (by omega) hσ
set_option maxRecDepth 20000 in
theorem q_Lc36 (C : q_LC p s m meth c sb L xs D dA) (hL : L ≤ 384) (hi : i + 6 ≤ L) (hc : cells + 5 ≤ 600000) (hs : slots + 30 ≤ 7302250) (h76 : 76 ≤ cells) (hR : z_R μ ξ B P g) (hK : q_LN p l e s m below meth c sb D dA i cells slots) : q_L p l e s m below meth c sb D dA cells slots 1242 (q_lvs s sb i) [] (x_w (m_w w0 μ) ξ B P g) := by
  refine q_Lrf (i := 1) C (q_lv1 _ _ _) rfl dL_law_1242 ?_
  refine q_Larg (i := i) (j := 1) C hL (by omega) (q_lv0 _ _ _) (q_lv3 _ _ _) dL_law_1243 dL_law_1244 dL_law_1245 dL_law_1246 dL_law_1247 ?_
  refine q_Larg (i := i) (j := 2) C hL (by omega) (q_lv0 _ _ _) (q_lv3 _ _ _) dL_law_1248 dL_law_1249 dL_law_1250 dL_law_1251 dL_law_1252 ?_
  refine q_Lcls [q_i ((xs (i + 1)).toInt), q_i ((xs (i + 2)).toInt)] C kL_162_11 (tX11_lots (m_w w0 μ) μ ξ B P g hR ((xs (i + 1)).toInt) ((xs (i + 2)).toInt) (q_r_of _) (q_r_of _)) dL_law_1253 rfl (by decide) (Nat.le_of_ble_eq_true rfl) rfl (by omega) (by omega) (fun σ hσ => ?_)
  refine q_Lrf (i := 2) C (q_lv2 _ _ _) rfl dL_law_1256 ?_
  refine q_Larg (i := i) (j := 1) C hL (by omega) (q_lv0 _ _ _) (q_lv3 _ _ _) dL_law_1257 dL_law_1258 dL_law_1259 dL_law_1260 dL_law_1261 ?_
  refine q_Larg (i := i) (j := 2) C hL (by omega) (q_lv0 _ _ _) (q_lv3 _ _ _) dL_law_1262 dL_law_1263 dL_law_1264 dL_law_1265 dL_law_1266 ?_
  refine q_Lref [q_i ((xs (i + 1)).toInt), q_i ((xs (i + 2)).toInt)] C (hR.Ps.1) kL_165_12 (tX12_lots (x_w w0 σ B P g) μ ((xs (i + 1)).toInt) ((xs (i + 2)).toInt) (q_r_of _) (q_r_of _) hR.Sh) dL_law_1267 rfl (by decide) (Nat.le_of_ble_eq_true rfl) rfl (by omega) (by omega) ?_
  refine q_Leq C dL_law_1270 (tgt := 1389) (by decide) ?_
  exact hK cells slots w0 _ σ B P g (by omega) (by omega) (by omega) hσ
set_option maxRecDepth 20000 in
theorem q_Lc37 (C : q_LC p s m meth c sb L xs D dA) (hL : L ≤ 384) (hi : i + 6 ≤ L) (hc : cells + 5 ≤ 600000) (hs : slots + 30 ≤ 7302250) (h76 : 76 ≤ cells) (hR : z_R μ ξ B P g) (hK : q_LN p l e s m below meth c sb D dA i cells slots) : q_L p l e s m below meth c sb D dA cells slots 1275 (q_lvs s sb i) [] (x_w (m_w w0 μ) ξ B P g) := by
  refine q_Lrf (i := 1) C (q_lv1 _ _ _) rfl dL_law_1275 ?_
  refine q_Lcls [] C kL_166_11 (tX11_asked (m_w w0 μ) μ ξ B P g hR ) dL_law_1276 rfl (by decide) (Nat.le_of_ble_eq_true rfl) rfl (by omega) (by omega) (fun σ hσ => ?_)
  refine q_Lrf (i := 2) C (q_lv2 _ _ _) rfl dL_law_1279 ?_
  refine q_Lref [] C (hR.Ps.1) kL_169_12 (tX12_asked (x_w w0 σ B P g) μ ) dL_law_1280 rfl (by decide) (Nat.le_of_ble_eq_true rfl) rfl (by omega) (by omega) ?_
  refine q_Leq C dL_law_1283 (tgt := 1389) (by decide) ?_
  exact hK cells slots w0 _ σ B P g (by omega) (by omega) (by omega) hσ
set_option maxRecDepth 20000 in
theorem q_Lc38 (C : q_LC p s m meth c sb L xs D dA) (hL : L ≤ 384) (hi : i + 6 ≤ L) (hc : cells + 5 ≤ 600000) (hs : slots + 30 ≤ 7302250) (h76 : 76 ≤ cells) (hR : z_R μ ξ B P g) (hK : q_LN p l e s m below meth c sb D dA i cells slots) : q_L p l e s m below meth c sb D dA cells slots 1288 (q_lvs s sb i) [] (x_w (m_w w0 μ) ξ B P g) := by
  refine q_Lrf (i := 1) C (q_lv1 _ _ _) rfl dL_law_1288 ?_
  refine q_Lcls [] C kL_170_11 (tX11_upper (m_w w0 μ) μ ξ B P g hR ) dL_law_1289 rfl (by decide) (Nat.le_of_ble_eq_true rfl) rfl (by omega) (by omega) (fun σ hσ => ?_)
  refine q_Lrf (i := 2) C (q_lv2 _ _ _) rfl dL_law_1292 ?_
  refine q_Lref [] C (hR.Ps.1) kL_174_12 (tX12_upper (x_w w0 σ B P g) μ ) dL_law_1293 rfl (by decide) (Nat.le_of_ble_eq_true rfl) rfl (by omega) (by omega) ?_
  refine q_Llq C dL_law_1296 dL_law_1297 (tgt := 1389) (by decide) ?_
  exact hK cells slots w0 _ σ B P g (by omega) (by omega) (by omega) hσ
set_option maxRecDepth 20000 in
theorem q_Lc39 (C : q_LC p s m meth c sb L xs D dA) (hL : L ≤ 384) (hi : i + 6 ≤ L) (hc : cells + 5 ≤ 600000) (hs : slots + 30 ≤ 7302250) (h76 : 76 ≤ cells) (hR : z_R μ ξ B P g) (hK : q_LN p l e s m below meth c sb D dA i cells slots) : q_L p l e s m below meth c sb D dA cells slots 1302 (q_lvs s sb i) [] (x_w (m_w w0 μ) ξ B P g) := by
  refine q_Lrf (i := 1) C (q_lv1 _ _ _) rfl dL_law_1302 ?_
  refine q_Lcls [] C kL_175_11 (tX11_lower (m_w w0 μ) μ ξ B P g hR ) dL_law_1303 rfl (by decide) (Nat.le_of_ble_eq_true rfl) rfl (by omega) (by omega) (fun σ hσ => ?_)
  refine q_Lrf (i := 2) C (q_lv2 _ _ _) rfl dL_law_1306 ?_
  refine q_Lref [] C (hR.Ps.1) kL_178_12 (tX12_lower (x_w w0 σ B P g) μ ) dL_law_1307 rfl (by decide) (Nat.le_of_ble_eq_true rfl) rfl (by omega) (by omega) ?_
  refine q_Llq C dL_law_1310 dL_law_1311 (tgt := 1389) (by decide) ?_
  exact hK cells slots w0 _ σ B P g (by omega) (by omega) (by omega) hσ
set_option maxRecDepth 20000 in
theorem q_Lc40 (C : q_LC p s m meth c sb L xs D dA) (hL : L ≤ 384) (hi : i + 6 ≤ L) (hc : cells + 5 ≤ 600000) (hs : slots + 30 ≤ 7302250) (h76 : 76 ≤ cells) (hR : z_R μ ξ B P g) (hK : q_LN p l e s m below meth c sb D dA i cells slots) : q_L p l e s m below meth c sb D dA cells slots 1316 (q_lvs s sb i) [] (x_w (m_w w0 μ) ξ B P g) := by
  refine q_Lrf (i := 1) C (q_lv1 _ _ _) rfl dL_law_1316 ?_
  refine q_Larg (i := i) (j := 1) C hL (by omega) (q_lv0 _ _ _) (q_lv3 _ _ _) dL_law_1317 dL_law_1318 dL_law_1319 dL_law_1320 dL_law_1321 ?_
  refine q_Lcls [q_i ((xs (i + 1)).toInt)] C kL_179_11 (tX11_count (m_w w0 μ) μ ξ B P g hR ((xs (i + 1)).toInt) (q_r_of _)) dL_law_1322 rfl (by decide) (Nat.le_of_ble_eq_true rfl) rfl (by omega) (by omega) (fun σ hσ => ?_)
  refine q_Lrf (i := 2) C (q_lv2 _ _ _) rfl dL_law_1325 ?_
  refine q_Larg (i := i) (j := 1) C hL (by omega) (q_lv0 _ _ _) (q_lv3 _ _ _) dL_law_1326 dL_law_1327 dL_law_1328 dL_law_1329 dL_law_1330 ?_
  refine q_Lref [q_i ((xs (i + 1)).toInt)] C (hR.Ps.1) kL_182_12 (tX12_count (x_w w0 σ B P g) μ ((xs (i + 1)).toInt) (q_r_of _) hR.Sh hR.mV hR.I hR.Ke) dL_law_1331 rfl (by decide) (Nat.le_of_ble_eq_true rfl) rfl (by omega) (by omega) ?_
  refine q_Leq C dL_law_1334 (tgt := 1389) (by decide) ?_
  exact hK cells slots w0 _ σ B P g (by omega) (by omega) (by omega) hσ
set_option maxRecDepth 20000 in
theorem q_Lc41 (C : q_LC p s m meth c sb L xs D dA) (hL : L ≤ 384) (hi : i + 6 ≤ L) (hc : cells + 5 ≤ 600000) (hs : slots + 30 ≤ 7302250) (h76 : 76 ≤ cells) (hR : z_R μ ξ B P g) (hK : q_LN p l e s m below meth c sb D dA i cells slots) : q_L p l e s m below meth c sb D dA cells slots 1339 (q_lvs s sb i) [] (x_w (m_w w0 μ) ξ B P g) := by
  refine q_Lrf (i := 1) C (q_lv1 _ _ _) rfl dL_law_1339 ?_
  refine q_Lcls [] C kL_183_11 (tX11_finding (m_w w0 μ) μ ξ B P g hR ) dL_law_1340 rfl (by decide) (Nat.le_of_ble_eq_true rfl) rfl (by omega) (by omega) (fun σ hσ => ?_)
  refine q_Lrf (i := 2) C (q_lv2 _ _ _) rfl dL_law_1343 ?_
  refine q_Lref [] C (hR.Ps.1) kL_186_12 (tX12_finding (x_w w0 σ B P g) μ ) dL_law_1344 rfl (by decide) (Nat.le_of_ble_eq_true rfl) rfl (by omega) (by omega) ?_
  refine q_Leq C dL_law_1347 (tgt := 1389) (by decide) ?_
  exact hK cells slots w0 _ σ B P g (by omega) (by omega) (by omega) hσ
set_option maxRecDepth 20000 in
theorem q_Lc42 (C : q_LC p s m meth c sb L xs D dA) (hL : L ≤ 384) (hi : i + 6 ≤ L) (hc : cells + 5 ≤ 600000) (hs : slots + 30 ≤ 7302250) (h76 : 76 ≤ cells) (hR : z_R μ ξ B P g) (hK : q_LN p l e s m below meth c sb D dA i cells slots) : q_L p l e s m below meth c sb D dA cells slots 1352 (q_lvs s sb i) [] (x_w (m_w w0 μ) ξ B P g) := by
  refine q_Lrf (i := 1) C (q_lv1 _ _ _) rfl dL_law_1352 ?_
  refine q_Larg (i := i) (j := 1) C hL (by omega) (q_lv0 _ _ _) (q_lv3 _ _ _) dL_law_1353 dL_law_1354 dL_law_1355 dL_law_1356 dL_law_1357 ?_
  refine q_Lcls [q_i ((xs (i + 1)).toInt)] C kL_187_11 (tX11_findings (m_w w0 μ) μ ξ B P g hR ((xs (i + 1)).toInt) (q_r_of _)) dL_law_1358 rfl (by decide) (Nat.le_of_ble_eq_true rfl) rfl (by omega) (by omega) (fun σ hσ => ?_)
  refine q_Lrf (i := 2) C (q_lv2 _ _ _) rfl dL_law_1361 ?_
  refine q_Larg (i := i) (j := 1) C hL (by omega) (q_lv0 _ _ _) (q_lv3 _ _ _) dL_law_1362 dL_law_1363 dL_law_1364 dL_law_1365 dL_law_1366 ?_
  refine q_Lref [q_i ((xs (i + 1)).toInt)] C (hR.Ps.1) kL_190_12 (tX12_findings (x_w w0 σ B P g) μ ((xs (i + 1)).toInt) (q_r_of _)) dL_law_1367 rfl (by decide) (Nat.le_of_ble_eq_true rfl) rfl (by omega) (by omega) ?_
  refine q_Leq C dL_law_1370 (tgt := 1389) (by decide) ?_
  exact hK cells slots w0 _ σ B P g (by omega) (by omega) (by omega) hσ
set_option maxRecDepth 20000 in
theorem q_Lc43 (C : q_LC p s m meth c sb L xs D dA) (hL : L ≤ 384) (hi : i + 6 ≤ L) (hc : cells + 5 ≤ 600000) (hs : slots + 30 ≤ 7302250) (h76 : 76 ≤ cells) (hR : z_R μ ξ B P g) (hK : q_LN p l e s m below meth c sb D dA i cells slots) : q_L p l e s m below meth c sb D dA cells slots 1375 (q_lvs s sb i) [] (x_w (m_w w0 μ) ξ B P g) := by
  refine q_Lrf (i := 1) C (q_lv1 _ _ _) rfl dL_law_1375 ?_
  refine q_Lcls [] C kL_191_11 (tX11_digest (m_w w0 μ) μ ξ B P g hR ) dL_law_1376 rfl (by decide) (Nat.le_of_ble_eq_true rfl) rfl (by omega) (by omega) (fun σ hσ => ?_)
  refine q_Lrf (i := 2) C (q_lv2 _ _ _) rfl dL_law_1379 ?_
  refine q_Lref [] C (hR.Ps.1) kL_194_12 (tX12_digest (x_w w0 σ B P g) μ hR.Sh hR.mV hR.I hR.Ke hR.De) dL_law_1380 rfl (by decide) (Nat.le_of_ble_eq_true rfl) rfl (by omega) (by omega) ?_
  refine q_Llq C dL_law_1383 dL_law_1384 (tgt := 1389) (by decide) ?_
  exact hK cells slots w0 _ σ B P g (by omega) (by omega) (by omega) hσ
end QC

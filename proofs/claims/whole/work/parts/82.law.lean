/-! ===== the law's own walk ===== -/
def mL : zM := (RL, cL_law, ret, 4, 100, 600000, 7302250)
abbrev lA : Nat := 600000
abbrev lB : Nat := 7302250
def lX (G : zG) (X : zX) (b Ln : Nat) (xs : Nat → Int32) : Prop := va_X b Ln xs (zXs X) (zXs X).heap ∧ b < (zXs X).heap.size ∧ ¬ zA G b ∧ Ln ≤ 384
theorem lcmp0 (x : Int64) : lg_cmp x x = 0 := by simp [lg_cmp]
section LW
variable {G : zG} {X : zX} {a b : Nat} {ws : va_W} {pc : Nat} {L : List (Option Value)} {S : List Value} {q Ln : Nat} {xs : Nat → Int32}
theorem l_sld (n j : Nat) (hX : lX G X q Ln xs) {i : Int32} (hi : i = nI j) (hj : j < Ln) (hd : decode (zMc mL) pc = .ok (.iaload, 1)) (hn : pc + 1 = n) (k : Z G X mL a b ws n L (.int (xs j) :: S)) : Z G X mL a b ws pc L (.int i :: .ref q :: S) := by
  subst hn; subst hi
  intro ok H locs ls hP hD hS hl
  obtain ⟨h1, h2, h3, h4⟩ := hX
  refine va_sld ok.1 ok.2.1 h1 h2 h3 hS (vp_in_nI hj (by omega)) hd ?_
  rw [nI_clamp (by omega)]
  exact k ok H locs ls hP hD hS hl
theorem l_slen (n : Nat) (hX : lX G X q Ln xs) (hd : decode (zMc mL) pc = .ok (.arraylength, 1)) (hn : pc + 1 = n) (k : Z G X mL a b ws n L (.int (nI Ln) :: S)) : Z G X mL a b ws pc L (.ref q :: S) := by
  subst hn
  intro ok H locs ls hP hD hS hl
  obtain ⟨h1, h2, h3, h4⟩ := hX
  exact va_slen ok.1 ok.2.1 h1 h2 h3 hS hd (k ok H locs ls hP hD hS hl)
theorem l_arg (n c : Nat) {m : Int} {j : Nat} {x1 x2 : Value} (hX : lX G X q Ln xs) (hm : Int32.ofInt m = nI c) (hj : j + c < Ln) (d1 : decode (zMc mL) pc = .ok (.aload_n 0, 1)) (d2 : decode (zMc mL) (pc + 1) = .ok (.iload_n 3, 1)) (d3 : decode (zMc mL) (pc + 2) = .ok (.iconst m, 1)) (d4 : decode (zMc mL) (pc + 3) = .ok (.iadd, 1)) (d5 : decode (zMc mL) (pc + 4) = .ok (.iaload, 1)) (hn : pc + 5 = n)
    (k : Z G X mL a b ws n [some (.ref q), some x1, some x2, some (.int (nI j))] (.int (xs (j + c)) :: S)) : Z G X mL a b ws pc [some (.ref q), some x1, some x2, some (.int (nI j))] S := by
  subst hn
  refine z_aload_n (pc + 1) d1 rfl rfl ?_
  refine z_iload_n (pc + 2) d2 rfl rfl ?_
  refine z_iconst (pc + 3) d3 hm rfl ?_
  refine z_iadd (pc + 4) d4 rfl ?_
  exact l_sld (pc + 5) (j + c) hX (nI_add j c) hj d5 rfl k
end LW
abbrev YL (G : zG) (X : zX) (σ : Nat → Int32) (pc q j : Nat) (S : List Value) : Prop := Z G X mL lA lB (zW G σ) pc [some (.ref q), some (.ref (zGa G 0)), some (.ref (zGa G 158)), some (.int (nI j))] S
section LC
variable {G : zG} {X : zX} {σ : Nat → Int32} {q Ln j : Nat} {xs : Nat → Int32}
theorem lc_feed (hX : lX G X q Ln xs) (hj : j + 6 ≤ Ln) (hI : Inv σ) (k : ∀ τ, Inv τ → YL G X τ 1503 q j []) : YL G X σ 204 q j [] := by
  obtain ⟨V, P, hx, h⟩ := q_feed (l := zXl X) (G := G) (a := xs (j + 1)) hI
  refine z_aload_n 205 dL_law_204 rfl rfl ?_
  refine l_arg 210 1 hX vi1 (by omega) dL_law_205 dL_law_206 dL_law_207 dL_law_208 dL_law_209 rfl ?_
  refine z_callV 213 0 (As := [.int (xs (j + 1))]) (S := []) hx (zW_at sh0) cv_L_13 ⟨(Nat.le_of_ble_eq_true rfl), (Nat.le_of_ble_eq_true rfl), (Nat.le_of_ble_eq_true rfl), (Nat.le_of_ble_eq_true rfl)⟩ (Nat.le_of_ble_eq_true rfl) dL_law_210 rfl rfl fun v w hw => ?_
  obtain ⟨σ1, hp, rfl⟩ := hw
  obtain ⟨rfl, P2, hr, h2⟩ := h v σ1 hp
  show YL G X σ1 213 q j [.int V]
  refine z_aload_n 214 dL_law_213 rfl rfl ?_
  refine l_arg 219 1 hX vi1 (by omega) dL_law_214 dL_law_215 dL_law_216 dL_law_217 dL_law_218 rfl ?_
  refine z_callV 222 158 (As := [.int (xs (j + 1))]) (S := [.int V]) hr (zW_at sh158) cv_L_17 ⟨(Nat.le_of_ble_eq_true rfl), (Nat.le_of_ble_eq_true rfl), (Nat.le_of_ble_eq_true rfl), (Nat.le_of_ble_eq_true rfl)⟩ (Nat.le_of_ble_eq_true rfl) dL_law_219 rfl rfl fun v w hw => ?_
  obtain ⟨σ2, hp2, rfl⟩ := hw
  obtain ⟨rfl, hI2⟩ := h2 v σ2 hp2
  show YL G X σ2 222 q j [.int V, .int V]
  refine z_icmp_eq_t 1503 dL_law_222 rfl rfl ?_
  exact k σ2 hI2
theorem lc_end (hX : lX G X q Ln xs) (hj : j + 6 ≤ Ln) (hI : Inv σ) (k : ∀ τ, Inv τ → YL G X τ 1503 q j []) : YL G X σ 227 q j [] := by
  obtain ⟨V, P, hx, h⟩ := q_end (l := zXl X) (G := G) (a := xs (j + 1)) hI
  refine z_aload_n 228 dL_law_227 rfl rfl ?_
  refine l_arg 233 1 hX vi1 (by omega) dL_law_228 dL_law_229 dL_law_230 dL_law_231 dL_law_232 rfl ?_
  refine z_callV 236 0 (As := [.int (xs (j + 1))]) (S := []) hx (zW_at sh0) cv_L_18 ⟨(Nat.le_of_ble_eq_true rfl), (Nat.le_of_ble_eq_true rfl), (Nat.le_of_ble_eq_true rfl), (Nat.le_of_ble_eq_true rfl)⟩ (Nat.le_of_ble_eq_true rfl) dL_law_233 rfl rfl fun v w hw => ?_
  obtain ⟨σ1, hp, rfl⟩ := hw
  obtain ⟨rfl, P2, hr, h2⟩ := h v σ1 hp
  show YL G X σ1 236 q j [.int V]
  refine z_aload_n 237 dL_law_236 rfl rfl ?_
  refine l_arg 242 1 hX vi1 (by omega) dL_law_237 dL_law_238 dL_law_239 dL_law_240 dL_law_241 rfl ?_
  refine z_callV 245 158 (As := [.int (xs (j + 1))]) (S := [.int V]) hr (zW_at sh158) cv_L_21 ⟨(Nat.le_of_ble_eq_true rfl), (Nat.le_of_ble_eq_true rfl), (Nat.le_of_ble_eq_true rfl), (Nat.le_of_ble_eq_true rfl)⟩ (Nat.le_of_ble_eq_true rfl) dL_law_242 rfl rfl fun v w hw => ?_
  obtain ⟨σ2, hp2, rfl⟩ := hw
  obtain ⟨rfl, hI2⟩ := h2 v σ2 hp2
  show YL G X σ2 245 q j [.int V, .int V]
  refine z_icmp_eq_t 1503 dL_law_245 rfl rfl ?_
  exact k σ2 hI2
theorem lc_text (hX : lX G X q Ln xs) (hj : j + 6 ≤ Ln) (hI : Inv σ) (k : ∀ τ, Inv τ → YL G X τ 1503 q j []) : YL G X σ 250 q j [] := by
  obtain ⟨V, P, hx, h⟩ := q_text (l := zXl X) (G := G)  hI
  refine z_aload_n 251 dL_law_250 rfl rfl ?_
  refine z_callV 254 0 (As := []) (S := []) hx (zW_at sh0) cv_L_22 ⟨(Nat.le_of_ble_eq_true rfl), (Nat.le_of_ble_eq_true rfl), (Nat.le_of_ble_eq_true rfl), (Nat.le_of_ble_eq_true rfl)⟩ (Nat.le_of_ble_eq_true rfl) dL_law_251 rfl rfl fun v w hw => ?_
  obtain ⟨σ1, hp, rfl⟩ := hw
  obtain ⟨rfl, P2, hr, h2⟩ := h v σ1 hp
  show YL G X σ1 254 q j [.int V]
  refine z_aload_n 255 dL_law_254 rfl rfl ?_
  refine z_callV 258 158 (As := []) (S := [.int V]) hr (zW_at sh158) cv_L_26 ⟨(Nat.le_of_ble_eq_true rfl), (Nat.le_of_ble_eq_true rfl), (Nat.le_of_ble_eq_true rfl), (Nat.le_of_ble_eq_true rfl)⟩ (Nat.le_of_ble_eq_true rfl) dL_law_255 rfl rfl fun v w hw => ?_
  obtain ⟨σ2, hp2, rfl⟩ := hw
  obtain ⟨rfl, hI2⟩ := h2 v σ2 hp2
  show YL G X σ2 258 q j [.int V, .int V]
  refine z_icmp_eq_t 1503 dL_law_258 rfl rfl ?_
  exact k σ2 hI2
theorem lc_fault (hX : lX G X q Ln xs) (hj : j + 6 ≤ Ln) (hI : Inv σ) (k : ∀ τ, Inv τ → YL G X τ 1503 q j []) : YL G X σ 263 q j [] := by
  obtain ⟨V, P, hx, h⟩ := q_fault (l := zXl X) (G := G)  hI
  refine z_aload_n 264 dL_law_263 rfl rfl ?_
  refine z_callV 267 0 (As := []) (S := []) hx (zW_at sh0) cv_L_27 ⟨(Nat.le_of_ble_eq_true rfl), (Nat.le_of_ble_eq_true rfl), (Nat.le_of_ble_eq_true rfl), (Nat.le_of_ble_eq_true rfl)⟩ (Nat.le_of_ble_eq_true rfl) dL_law_264 rfl rfl fun v w hw => ?_
  obtain ⟨σ1, hp, rfl⟩ := hw
  obtain ⟨rfl, P2, hr, h2⟩ := h v σ1 hp
  show YL G X σ1 267 q j [.int V]
  refine z_aload_n 268 dL_law_267 rfl rfl ?_
  refine z_callV 271 158 (As := []) (S := [.int V]) hr (zW_at sh158) cv_L_30 ⟨(Nat.le_of_ble_eq_true rfl), (Nat.le_of_ble_eq_true rfl), (Nat.le_of_ble_eq_true rfl), (Nat.le_of_ble_eq_true rfl)⟩ (Nat.le_of_ble_eq_true rfl) dL_law_268 rfl rfl fun v w hw => ?_
  obtain ⟨σ2, hp2, rfl⟩ := hw
  obtain ⟨rfl, hI2⟩ := h2 v σ2 hp2
  show YL G X σ2 271 q j [.int V, .int V]
  refine z_icmp_eq_t 1503 dL_law_271 rfl rfl ?_
  exact k σ2 hI2
theorem lc_rule (hX : lX G X q Ln xs) (hj : j + 6 ≤ Ln) (hI : Inv σ) (k : ∀ τ, Inv τ → YL G X τ 1503 q j []) : YL G X σ 276 q j [] := by
  obtain ⟨V, P, hx, h⟩ := q_rule (l := zXl X) (G := G) (a := xs (j + 1)) hI
  refine z_aload_n 277 dL_law_276 rfl rfl ?_
  refine l_arg 282 1 hX vi1 (by omega) dL_law_277 dL_law_278 dL_law_279 dL_law_280 dL_law_281 rfl ?_
  refine z_callV 285 0 (As := [.int (xs (j + 1))]) (S := []) hx (zW_at sh0) cv_L_31 ⟨(Nat.le_of_ble_eq_true rfl), (Nat.le_of_ble_eq_true rfl), (Nat.le_of_ble_eq_true rfl), (Nat.le_of_ble_eq_true rfl)⟩ (Nat.le_of_ble_eq_true rfl) dL_law_282 rfl rfl fun v w hw => ?_
  obtain ⟨σ1, hp, rfl⟩ := hw
  obtain ⟨rfl, P2, hr, h2⟩ := h v σ1 hp
  show YL G X σ1 285 q j [.int V]
  refine z_aload_n 286 dL_law_285 rfl rfl ?_
  refine l_arg 291 1 hX vi1 (by omega) dL_law_286 dL_law_287 dL_law_288 dL_law_289 dL_law_290 rfl ?_
  refine z_callV 294 158 (As := [.int (xs (j + 1))]) (S := [.int V]) hr (zW_at sh158) cv_L_34 ⟨(Nat.le_of_ble_eq_true rfl), (Nat.le_of_ble_eq_true rfl), (Nat.le_of_ble_eq_true rfl), (Nat.le_of_ble_eq_true rfl)⟩ (Nat.le_of_ble_eq_true rfl) dL_law_291 rfl rfl fun v w hw => ?_
  obtain ⟨σ2, hp2, rfl⟩ := hw
  obtain ⟨rfl, hI2⟩ := h2 v σ2 hp2
  show YL G X σ2 294 q j [.int V, .int V]
  refine z_icmp_eq_t 1503 dL_law_294 rfl rfl ?_
  exact k σ2 hI2
theorem lc_colour (hX : lX G X q Ln xs) (hj : j + 6 ≤ Ln) (hI : Inv σ) (k : ∀ τ, Inv τ → YL G X τ 1503 q j []) : YL G X σ 299 q j [] := by
  obtain ⟨V, P, hx, h⟩ := q_colour (l := zXl X) (G := G) (a := xs (j + 1)) (b := xs (j + 2)) hI
  refine z_aload_n 300 dL_law_299 rfl rfl ?_
  refine l_arg 305 1 hX vi1 (by omega) dL_law_300 dL_law_301 dL_law_302 dL_law_303 dL_law_304 rfl ?_
  refine l_arg 310 2 hX vi2 (by omega) dL_law_305 dL_law_306 dL_law_307 dL_law_308 dL_law_309 rfl ?_
  refine z_callV 313 0 (As := [.int (xs (j + 1)), .int (xs (j + 2))]) (S := []) hx (zW_at sh0) cv_L_35 ⟨(Nat.le_of_ble_eq_true rfl), (Nat.le_of_ble_eq_true rfl), (Nat.le_of_ble_eq_true rfl), (Nat.le_of_ble_eq_true rfl)⟩ (Nat.le_of_ble_eq_true rfl) dL_law_310 rfl rfl fun v w hw => ?_
  obtain ⟨σ1, hp, rfl⟩ := hw
  obtain ⟨rfl, P2, hr, h2⟩ := h v σ1 hp
  show YL G X σ1 313 q j [.int V]
  refine z_aload_n 314 dL_law_313 rfl rfl ?_
  refine l_arg 319 1 hX vi1 (by omega) dL_law_314 dL_law_315 dL_law_316 dL_law_317 dL_law_318 rfl ?_
  refine l_arg 324 2 hX vi2 (by omega) dL_law_319 dL_law_320 dL_law_321 dL_law_322 dL_law_323 rfl ?_
  refine z_callV 327 158 (As := [.int (xs (j + 1)), .int (xs (j + 2))]) (S := [.int V]) hr (zW_at sh158) cv_L_39 ⟨(Nat.le_of_ble_eq_true rfl), (Nat.le_of_ble_eq_true rfl), (Nat.le_of_ble_eq_true rfl), (Nat.le_of_ble_eq_true rfl)⟩ (Nat.le_of_ble_eq_true rfl) dL_law_324 rfl rfl fun v w hw => ?_
  obtain ⟨σ2, hp2, rfl⟩ := hw
  obtain ⟨rfl, hI2⟩ := h2 v σ2 hp2
  show YL G X σ2 327 q j [.int V, .int V]
  refine z_icmp_eq_t 1503 dL_law_327 rfl rfl ?_
  exact k σ2 hI2
theorem lc_one (hX : lX G X q Ln xs) (hj : j + 6 ≤ Ln) (hI : Inv σ) (k : ∀ τ, Inv τ → YL G X τ 1503 q j []) : YL G X σ 332 q j [] := by
  obtain ⟨V, P, hx, h⟩ := q_one (l := zXl X) (G := G) (a := xs (j + 1)) (b := xs (j + 2)) hI
  refine z_aload_n 333 dL_law_332 rfl rfl ?_
  refine l_arg 338 1 hX vi1 (by omega) dL_law_333 dL_law_334 dL_law_335 dL_law_336 dL_law_337 rfl ?_
  refine l_arg 343 2 hX vi2 (by omega) dL_law_338 dL_law_339 dL_law_340 dL_law_341 dL_law_342 rfl ?_
  refine z_callV 346 0 (As := [.int (xs (j + 1)), .int (xs (j + 2))]) (S := []) hx (zW_at sh0) cv_L_40 ⟨(Nat.le_of_ble_eq_true rfl), (Nat.le_of_ble_eq_true rfl), (Nat.le_of_ble_eq_true rfl), (Nat.le_of_ble_eq_true rfl)⟩ (Nat.le_of_ble_eq_true rfl) dL_law_343 rfl rfl fun v w hw => ?_
  obtain ⟨σ1, hp, rfl⟩ := hw
  obtain ⟨rfl, P2, hr, h2⟩ := h v σ1 hp
  show YL G X σ1 346 q j [.int V]
  refine z_aload_n 347 dL_law_346 rfl rfl ?_
  refine l_arg 352 1 hX vi1 (by omega) dL_law_347 dL_law_348 dL_law_349 dL_law_350 dL_law_351 rfl ?_
  refine l_arg 357 2 hX vi2 (by omega) dL_law_352 dL_law_353 dL_law_354 dL_law_355 dL_law_356 rfl ?_
  refine z_callV 360 158 (As := [.int (xs (j + 1)), .int (xs (j + 2))]) (S := [.int V]) hr (zW_at sh158) cv_L_43 ⟨(Nat.le_of_ble_eq_true rfl), (Nat.le_of_ble_eq_true rfl), (Nat.le_of_ble_eq_true rfl), (Nat.le_of_ble_eq_true rfl)⟩ (Nat.le_of_ble_eq_true rfl) dL_law_357 rfl rfl fun v w hw => ?_
  obtain ⟨σ2, hp2, rfl⟩ := hw
  obtain ⟨rfl, hI2⟩ := h2 v σ2 hp2
  show YL G X σ2 360 q j [.int V, .int V]
  refine z_icmp_eq_t 1503 dL_law_360 rfl rfl ?_
  exact k σ2 hI2
theorem lc_holds (hX : lX G X q Ln xs) (hj : j + 6 ≤ Ln) (hI : Inv σ) (k : ∀ τ, Inv τ → YL G X τ 1503 q j []) : YL G X σ 365 q j [] := by
  obtain ⟨V, P, hx, h⟩ := q_holds (l := zXl X) (G := G) (a := xs (j + 1)) (b := xs (j + 2)) hI
  refine z_aload_n 366 dL_law_365 rfl rfl ?_
  refine l_arg 371 1 hX vi1 (by omega) dL_law_366 dL_law_367 dL_law_368 dL_law_369 dL_law_370 rfl ?_
  refine l_arg 376 2 hX vi2 (by omega) dL_law_371 dL_law_372 dL_law_373 dL_law_374 dL_law_375 rfl ?_
  refine z_callV 379 0 (As := [.int (xs (j + 1)), .int (xs (j + 2))]) (S := []) hx (zW_at sh0) cv_L_44 ⟨(Nat.le_of_ble_eq_true rfl), (Nat.le_of_ble_eq_true rfl), (Nat.le_of_ble_eq_true rfl), (Nat.le_of_ble_eq_true rfl)⟩ (Nat.le_of_ble_eq_true rfl) dL_law_376 rfl rfl fun v w hw => ?_
  obtain ⟨σ1, hp, rfl⟩ := hw
  obtain ⟨rfl, P2, hr, h2⟩ := h v σ1 hp
  show YL G X σ1 379 q j [.int V]
  refine z_aload_n 380 dL_law_379 rfl rfl ?_
  refine l_arg 385 1 hX vi1 (by omega) dL_law_380 dL_law_381 dL_law_382 dL_law_383 dL_law_384 rfl ?_
  refine l_arg 390 2 hX vi2 (by omega) dL_law_385 dL_law_386 dL_law_387 dL_law_388 dL_law_389 rfl ?_
  refine z_callV 393 158 (As := [.int (xs (j + 1)), .int (xs (j + 2))]) (S := [.int V]) hr (zW_at sh158) cv_L_47 ⟨(Nat.le_of_ble_eq_true rfl), (Nat.le_of_ble_eq_true rfl), (Nat.le_of_ble_eq_true rfl), (Nat.le_of_ble_eq_true rfl)⟩ (Nat.le_of_ble_eq_true rfl) dL_law_390 rfl rfl fun v w hw => ?_
  obtain ⟨σ2, hp2, rfl⟩ := hw
  obtain ⟨rfl, hI2⟩ := h2 v σ2 hp2
  show YL G X σ2 393 q j [.int V, .int V]
  refine z_icmp_eq_t 1503 dL_law_393 rfl rfl ?_
  exact k σ2 hI2
theorem lc_off (hX : lX G X q Ln xs) (hj : j + 6 ≤ Ln) (hI : Inv σ) (k : ∀ τ, Inv τ → YL G X τ 1503 q j []) : YL G X σ 398 q j [] := by
  obtain ⟨V, P, hx, h⟩ := q_off (l := zXl X) (G := G) (a := xs (j + 1)) (b := xs (j + 2)) hI
  refine z_aload_n 399 dL_law_398 rfl rfl ?_
  refine l_arg 404 1 hX vi1 (by omega) dL_law_399 dL_law_400 dL_law_401 dL_law_402 dL_law_403 rfl ?_
  refine l_arg 409 2 hX vi2 (by omega) dL_law_404 dL_law_405 dL_law_406 dL_law_407 dL_law_408 rfl ?_
  refine z_callV 412 0 (As := [.int (xs (j + 1)), .int (xs (j + 2))]) (S := []) hx (zW_at sh0) cv_L_48 ⟨(Nat.le_of_ble_eq_true rfl), (Nat.le_of_ble_eq_true rfl), (Nat.le_of_ble_eq_true rfl), (Nat.le_of_ble_eq_true rfl)⟩ (Nat.le_of_ble_eq_true rfl) dL_law_409 rfl rfl fun v w hw => ?_
  obtain ⟨σ1, hp, rfl⟩ := hw
  obtain ⟨rfl, P2, hr, h2⟩ := h v σ1 hp
  show YL G X σ1 412 q j [.int V]
  refine z_aload_n 413 dL_law_412 rfl rfl ?_
  refine l_arg 418 1 hX vi1 (by omega) dL_law_413 dL_law_414 dL_law_415 dL_law_416 dL_law_417 rfl ?_
  refine l_arg 423 2 hX vi2 (by omega) dL_law_418 dL_law_419 dL_law_420 dL_law_421 dL_law_422 rfl ?_
  refine z_callV 426 158 (As := [.int (xs (j + 1)), .int (xs (j + 2))]) (S := [.int V]) hr (zW_at sh158) cv_L_51 ⟨(Nat.le_of_ble_eq_true rfl), (Nat.le_of_ble_eq_true rfl), (Nat.le_of_ble_eq_true rfl), (Nat.le_of_ble_eq_true rfl)⟩ (Nat.le_of_ble_eq_true rfl) dL_law_423 rfl rfl fun v w hw => ?_
  obtain ⟨σ2, hp2, rfl⟩ := hw
  obtain ⟨rfl, hI2⟩ := h2 v σ2 hp2
  show YL G X σ2 426 q j [.int V, .int V]
  refine z_icmp_eq_t 1503 dL_law_426 rfl rfl ?_
  exact k σ2 hI2
theorem lc_alter (hX : lX G X q Ln xs) (hj : j + 6 ≤ Ln) (hI : Inv σ) (k : ∀ τ, Inv τ → YL G X τ 1503 q j []) : YL G X σ 431 q j [] := by
  obtain ⟨V, P, hx, h⟩ := q_alter (l := zXl X) (G := G) (a := xs (j + 1)) (b := xs (j + 2)) (c := xs (j + 3)) hI
  refine z_aload_n 432 dL_law_431 rfl rfl ?_
  refine l_arg 437 1 hX vi1 (by omega) dL_law_432 dL_law_433 dL_law_434 dL_law_435 dL_law_436 rfl ?_
  refine l_arg 442 2 hX vi2 (by omega) dL_law_437 dL_law_438 dL_law_439 dL_law_440 dL_law_441 rfl ?_
  refine l_arg 447 3 hX vi3 (by omega) dL_law_442 dL_law_443 dL_law_444 dL_law_445 dL_law_446 rfl ?_
  refine z_callV 450 0 (As := [.int (xs (j + 1)), .int (xs (j + 2)), .int (xs (j + 3))]) (S := []) hx (zW_at sh0) cv_L_52 ⟨(Nat.le_of_ble_eq_true rfl), (Nat.le_of_ble_eq_true rfl), (Nat.le_of_ble_eq_true rfl), (Nat.le_of_ble_eq_true rfl)⟩ (Nat.le_of_ble_eq_true rfl) dL_law_447 rfl rfl fun v w hw => ?_
  obtain ⟨σ1, hp, rfl⟩ := hw
  obtain ⟨rfl, P2, hr, h2⟩ := h v σ1 hp
  show YL G X σ1 450 q j [.int V]
  refine z_aload_n 451 dL_law_450 rfl rfl ?_
  refine l_arg 456 1 hX vi1 (by omega) dL_law_451 dL_law_452 dL_law_453 dL_law_454 dL_law_455 rfl ?_
  refine l_arg 461 2 hX vi2 (by omega) dL_law_456 dL_law_457 dL_law_458 dL_law_459 dL_law_460 rfl ?_
  refine l_arg 466 3 hX vi3 (by omega) dL_law_461 dL_law_462 dL_law_463 dL_law_464 dL_law_465 rfl ?_
  refine z_callV 469 158 (As := [.int (xs (j + 1)), .int (xs (j + 2)), .int (xs (j + 3))]) (S := [.int V]) hr (zW_at sh158) cv_L_56 ⟨(Nat.le_of_ble_eq_true rfl), (Nat.le_of_ble_eq_true rfl), (Nat.le_of_ble_eq_true rfl), (Nat.le_of_ble_eq_true rfl)⟩ (Nat.le_of_ble_eq_true rfl) dL_law_466 rfl rfl fun v w hw => ?_
  obtain ⟨σ2, hp2, rfl⟩ := hw
  obtain ⟨rfl, hI2⟩ := h2 v σ2 hp2
  show YL G X σ2 469 q j [.int V, .int V]
  refine z_icmp_eq_t 1503 dL_law_469 rfl rfl ?_
  exact k σ2 hI2
theorem lc_pay (hX : lX G X q Ln xs) (hj : j + 6 ≤ Ln) (hI : Inv σ) (k : ∀ τ, Inv τ → YL G X τ 1503 q j []) : YL G X σ 474 q j [] := by
  obtain ⟨V, P, hx, h⟩ := q_pay (l := zXl X) (G := G) (a := xs (j + 1)) (b := xs (j + 2)) (c := xs (j + 3)) hI
  refine z_aload_n 475 dL_law_474 rfl rfl ?_
  refine l_arg 480 1 hX vi1 (by omega) dL_law_475 dL_law_476 dL_law_477 dL_law_478 dL_law_479 rfl ?_
  refine l_arg 485 2 hX vi2 (by omega) dL_law_480 dL_law_481 dL_law_482 dL_law_483 dL_law_484 rfl ?_
  refine l_arg 490 3 hX vi3 (by omega) dL_law_485 dL_law_486 dL_law_487 dL_law_488 dL_law_489 rfl ?_
  refine z_callV 493 0 (As := [.int (xs (j + 1)), .int (xs (j + 2)), .int (xs (j + 3))]) (S := []) hx (zW_at sh0) cv_L_57 ⟨(Nat.le_of_ble_eq_true rfl), (Nat.le_of_ble_eq_true rfl), (Nat.le_of_ble_eq_true rfl), (Nat.le_of_ble_eq_true rfl)⟩ (Nat.le_of_ble_eq_true rfl) dL_law_490 rfl rfl fun v w hw => ?_
  obtain ⟨σ1, hp, rfl⟩ := hw
  obtain ⟨rfl, P2, hr, h2⟩ := h v σ1 hp
  show YL G X σ1 493 q j [.int V]
  refine z_aload_n 494 dL_law_493 rfl rfl ?_
  refine l_arg 499 1 hX vi1 (by omega) dL_law_494 dL_law_495 dL_law_496 dL_law_497 dL_law_498 rfl ?_
  refine l_arg 504 2 hX vi2 (by omega) dL_law_499 dL_law_500 dL_law_501 dL_law_502 dL_law_503 rfl ?_
  refine l_arg 509 3 hX vi3 (by omega) dL_law_504 dL_law_505 dL_law_506 dL_law_507 dL_law_508 rfl ?_
  refine z_callV 512 158 (As := [.int (xs (j + 1)), .int (xs (j + 2)), .int (xs (j + 3))]) (S := [.int V]) hr (zW_at sh158) cv_L_60 ⟨(Nat.le_of_ble_eq_true rfl), (Nat.le_of_ble_eq_true rfl), (Nat.le_of_ble_eq_true rfl), (Nat.le_of_ble_eq_true rfl)⟩ (Nat.le_of_ble_eq_true rfl) dL_law_509 rfl rfl fun v w hw => ?_
  obtain ⟨σ2, hp2, rfl⟩ := hw
  obtain ⟨rfl, hI2⟩ := h2 v σ2 hp2
  show YL G X σ2 512 q j [.int V, .int V]
  refine z_icmp_eq_t 1503 dL_law_512 rfl rfl ?_
  exact k σ2 hI2
theorem lc_lend (hX : lX G X q Ln xs) (hj : j + 6 ≤ Ln) (hI : Inv σ) (k : ∀ τ, Inv τ → YL G X τ 1503 q j []) : YL G X σ 517 q j [] := by
  obtain ⟨V, P, hx, h⟩ := q_lend (l := zXl X) (G := G) (a := xs (j + 1)) (b := xs (j + 2)) (c := xs (j + 3)) hI
  refine z_aload_n 518 dL_law_517 rfl rfl ?_
  refine l_arg 523 1 hX vi1 (by omega) dL_law_518 dL_law_519 dL_law_520 dL_law_521 dL_law_522 rfl ?_
  refine l_arg 528 2 hX vi2 (by omega) dL_law_523 dL_law_524 dL_law_525 dL_law_526 dL_law_527 rfl ?_
  refine l_arg 533 3 hX vi3 (by omega) dL_law_528 dL_law_529 dL_law_530 dL_law_531 dL_law_532 rfl ?_
  refine z_callV 536 0 (As := [.int (xs (j + 1)), .int (xs (j + 2)), .int (xs (j + 3))]) (S := []) hx (zW_at sh0) cv_L_61 ⟨(Nat.le_of_ble_eq_true rfl), (Nat.le_of_ble_eq_true rfl), (Nat.le_of_ble_eq_true rfl), (Nat.le_of_ble_eq_true rfl)⟩ (Nat.le_of_ble_eq_true rfl) dL_law_533 rfl rfl fun v w hw => ?_
  obtain ⟨σ1, hp, rfl⟩ := hw
  obtain ⟨rfl, P2, hr, h2⟩ := h v σ1 hp
  show YL G X σ1 536 q j [.int V]
  refine z_aload_n 537 dL_law_536 rfl rfl ?_
  refine l_arg 542 1 hX vi1 (by omega) dL_law_537 dL_law_538 dL_law_539 dL_law_540 dL_law_541 rfl ?_
  refine l_arg 547 2 hX vi2 (by omega) dL_law_542 dL_law_543 dL_law_544 dL_law_545 dL_law_546 rfl ?_
  refine l_arg 552 3 hX vi3 (by omega) dL_law_547 dL_law_548 dL_law_549 dL_law_550 dL_law_551 rfl ?_
  refine z_callV 555 158 (As := [.int (xs (j + 1)), .int (xs (j + 2)), .int (xs (j + 3))]) (S := [.int V]) hr (zW_at sh158) cv_L_64 ⟨(Nat.le_of_ble_eq_true rfl), (Nat.le_of_ble_eq_true rfl), (Nat.le_of_ble_eq_true rfl), (Nat.le_of_ble_eq_true rfl)⟩ (Nat.le_of_ble_eq_true rfl) dL_law_552 rfl rfl fun v w hw => ?_
  obtain ⟨σ2, hp2, rfl⟩ := hw
  obtain ⟨rfl, hI2⟩ := h2 v σ2 hp2
  show YL G X σ2 555 q j [.int V, .int V]
  refine z_icmp_eq_t 1503 dL_law_555 rfl rfl ?_
  exact k σ2 hI2
theorem lc_bring (hX : lX G X q Ln xs) (hj : j + 6 ≤ Ln) (hI : Inv σ) (k : ∀ τ, Inv τ → YL G X τ 1503 q j []) : YL G X σ 560 q j [] := by
  obtain ⟨V, P, hx, h⟩ := q_bring (l := zXl X) (G := G) (a := xs (j + 1)) (b := xs (j + 2)) (c := xs (j + 3)) hI
  refine z_aload_n 561 dL_law_560 rfl rfl ?_
  refine l_arg 566 1 hX vi1 (by omega) dL_law_561 dL_law_562 dL_law_563 dL_law_564 dL_law_565 rfl ?_
  refine l_arg 571 2 hX vi2 (by omega) dL_law_566 dL_law_567 dL_law_568 dL_law_569 dL_law_570 rfl ?_
  refine l_arg 576 3 hX vi3 (by omega) dL_law_571 dL_law_572 dL_law_573 dL_law_574 dL_law_575 rfl ?_
  refine z_callV 579 0 (As := [.int (xs (j + 1)), .int (xs (j + 2)), .int (xs (j + 3))]) (S := []) hx (zW_at sh0) cv_L_65 ⟨(Nat.le_of_ble_eq_true rfl), (Nat.le_of_ble_eq_true rfl), (Nat.le_of_ble_eq_true rfl), (Nat.le_of_ble_eq_true rfl)⟩ (Nat.le_of_ble_eq_true rfl) dL_law_576 rfl rfl fun v w hw => ?_
  obtain ⟨σ1, hp, rfl⟩ := hw
  obtain ⟨rfl, P2, hr, h2⟩ := h v σ1 hp
  show YL G X σ1 579 q j [.int V]
  refine z_aload_n 580 dL_law_579 rfl rfl ?_
  refine l_arg 585 1 hX vi1 (by omega) dL_law_580 dL_law_581 dL_law_582 dL_law_583 dL_law_584 rfl ?_
  refine l_arg 590 2 hX vi2 (by omega) dL_law_585 dL_law_586 dL_law_587 dL_law_588 dL_law_589 rfl ?_
  refine l_arg 595 3 hX vi3 (by omega) dL_law_590 dL_law_591 dL_law_592 dL_law_593 dL_law_594 rfl ?_
  refine z_callV 598 158 (As := [.int (xs (j + 1)), .int (xs (j + 2)), .int (xs (j + 3))]) (S := [.int V]) hr (zW_at sh158) cv_L_68 ⟨(Nat.le_of_ble_eq_true rfl), (Nat.le_of_ble_eq_true rfl), (Nat.le_of_ble_eq_true rfl), (Nat.le_of_ble_eq_true rfl)⟩ (Nat.le_of_ble_eq_true rfl) dL_law_595 rfl rfl fun v w hw => ?_
  obtain ⟨σ2, hp2, rfl⟩ := hw
  obtain ⟨rfl, hI2⟩ := h2 v σ2 hp2
  show YL G X σ2 598 q j [.int V, .int V]
  refine z_icmp_eq_t 1503 dL_law_598 rfl rfl ?_
  exact k σ2 hI2
theorem lc_days (hX : lX G X q Ln xs) (hj : j + 6 ≤ Ln) (hI : Inv σ) (k : ∀ τ, Inv τ → YL G X τ 1503 q j []) : YL G X σ 603 q j [] := by
  obtain ⟨V, P, hx, h⟩ := q_days (l := zXl X) (G := G) (a := xs (j + 1)) hI
  refine z_aload_n 604 dL_law_603 rfl rfl ?_
  refine l_arg 609 1 hX vi1 (by omega) dL_law_604 dL_law_605 dL_law_606 dL_law_607 dL_law_608 rfl ?_
  refine z_callV 612 0 (As := [.int (xs (j + 1))]) (S := []) hx (zW_at sh0) cv_L_69 ⟨(Nat.le_of_ble_eq_true rfl), (Nat.le_of_ble_eq_true rfl), (Nat.le_of_ble_eq_true rfl), (Nat.le_of_ble_eq_true rfl)⟩ (Nat.le_of_ble_eq_true rfl) dL_law_609 rfl rfl fun v w hw => ?_
  obtain ⟨σ1, hp, rfl⟩ := hw
  obtain ⟨rfl, P2, hr, h2⟩ := h v σ1 hp
  show YL G X σ1 612 q j [.int V]
  refine z_aload_n 613 dL_law_612 rfl rfl ?_
  refine l_arg 618 1 hX vi1 (by omega) dL_law_613 dL_law_614 dL_law_615 dL_law_616 dL_law_617 rfl ?_
  refine z_callV 621 158 (As := [.int (xs (j + 1))]) (S := [.int V]) hr (zW_at sh158) cv_L_72 ⟨(Nat.le_of_ble_eq_true rfl), (Nat.le_of_ble_eq_true rfl), (Nat.le_of_ble_eq_true rfl), (Nat.le_of_ble_eq_true rfl)⟩ (Nat.le_of_ble_eq_true rfl) dL_law_618 rfl rfl fun v w hw => ?_
  obtain ⟨σ2, hp2, rfl⟩ := hw
  obtain ⟨rfl, hI2⟩ := h2 v σ2 hp2
  show YL G X σ2 621 q j [.int V, .int V]
  refine z_icmp_eq_t 1503 dL_law_621 rfl rfl ?_
  exact k σ2 hI2
theorem lc_runs (hX : lX G X q Ln xs) (hj : j + 6 ≤ Ln) (hI : Inv σ) (k : ∀ τ, Inv τ → YL G X τ 1503 q j []) : YL G X σ 626 q j [] := by
  obtain ⟨V, P, hx, h⟩ := q_runs (l := zXl X) (G := G) (a := xs (j + 1)) (b := xs (j + 2)) hI
  refine z_aload_n 627 dL_law_626 rfl rfl ?_
  refine l_arg 632 1 hX vi1 (by omega) dL_law_627 dL_law_628 dL_law_629 dL_law_630 dL_law_631 rfl ?_
  refine l_arg 637 2 hX vi2 (by omega) dL_law_632 dL_law_633 dL_law_634 dL_law_635 dL_law_636 rfl ?_
  refine z_callV 640 0 (As := [.int (xs (j + 1)), .int (xs (j + 2))]) (S := []) hx (zW_at sh0) cv_L_73 ⟨(Nat.le_of_ble_eq_true rfl), (Nat.le_of_ble_eq_true rfl), (Nat.le_of_ble_eq_true rfl), (Nat.le_of_ble_eq_true rfl)⟩ (Nat.le_of_ble_eq_true rfl) dL_law_637 rfl rfl fun v w hw => ?_
  obtain ⟨σ1, hp, rfl⟩ := hw
  obtain ⟨rfl, P2, hr, h2⟩ := h v σ1 hp
  show YL G X σ1 640 q j [.int V]
  refine z_aload_n 641 dL_law_640 rfl rfl ?_
  refine l_arg 646 1 hX vi1 (by omega) dL_law_641 dL_law_642 dL_law_643 dL_law_644 dL_law_645 rfl ?_
  refine l_arg 651 2 hX vi2 (by omega) dL_law_646 dL_law_647 dL_law_648 dL_law_649 dL_law_650 rfl ?_
  refine z_callV 654 158 (As := [.int (xs (j + 1)), .int (xs (j + 2))]) (S := [.int V]) hr (zW_at sh158) cv_L_76 ⟨(Nat.le_of_ble_eq_true rfl), (Nat.le_of_ble_eq_true rfl), (Nat.le_of_ble_eq_true rfl), (Nat.le_of_ble_eq_true rfl)⟩ (Nat.le_of_ble_eq_true rfl) dL_law_651 rfl rfl fun v w hw => ?_
  obtain ⟨σ2, hp2, rfl⟩ := hw
  obtain ⟨rfl, hI2⟩ := h2 v σ2 hp2
  show YL G X σ2 654 q j [.int V, .int V]
  refine z_icmp_eq_t 1503 dL_law_654 rfl rfl ?_
  exact k σ2 hI2
theorem lc_ahead (hX : lX G X q Ln xs) (hj : j + 6 ≤ Ln) (hI : Inv σ) (k : ∀ τ, Inv τ → YL G X τ 1503 q j []) : YL G X σ 659 q j [] := by
  obtain ⟨V, P, hx, h⟩ := q_ahead (l := zXl X) (G := G) (a := xs (j + 1)) (b := xs (j + 2)) (c := xs (j + 3)) hI
  refine z_aload_n 660 dL_law_659 rfl rfl ?_
  refine l_arg 665 1 hX vi1 (by omega) dL_law_660 dL_law_661 dL_law_662 dL_law_663 dL_law_664 rfl ?_
  refine l_arg 670 2 hX vi2 (by omega) dL_law_665 dL_law_666 dL_law_667 dL_law_668 dL_law_669 rfl ?_
  refine l_arg 675 3 hX vi3 (by omega) dL_law_670 dL_law_671 dL_law_672 dL_law_673 dL_law_674 rfl ?_
  refine z_callV 678 0 (As := [.int (xs (j + 1)), .int (xs (j + 2)), .int (xs (j + 3))]) (S := []) hx (zW_at sh0) cv_L_77 ⟨(Nat.le_of_ble_eq_true rfl), (Nat.le_of_ble_eq_true rfl), (Nat.le_of_ble_eq_true rfl), (Nat.le_of_ble_eq_true rfl)⟩ (Nat.le_of_ble_eq_true rfl) dL_law_675 rfl rfl fun v w hw => ?_
  obtain ⟨σ1, hp, rfl⟩ := hw
  obtain ⟨rfl, P2, hr, h2⟩ := h v σ1 hp
  show YL G X σ1 678 q j [.int V]
  refine z_aload_n 679 dL_law_678 rfl rfl ?_
  refine l_arg 684 1 hX vi1 (by omega) dL_law_679 dL_law_680 dL_law_681 dL_law_682 dL_law_683 rfl ?_
  refine l_arg 689 2 hX vi2 (by omega) dL_law_684 dL_law_685 dL_law_686 dL_law_687 dL_law_688 rfl ?_
  refine l_arg 694 3 hX vi3 (by omega) dL_law_689 dL_law_690 dL_law_691 dL_law_692 dL_law_693 rfl ?_
  refine z_callV 697 158 (As := [.int (xs (j + 1)), .int (xs (j + 2)), .int (xs (j + 3))]) (S := [.int V]) hr (zW_at sh158) cv_L_80 ⟨(Nat.le_of_ble_eq_true rfl), (Nat.le_of_ble_eq_true rfl), (Nat.le_of_ble_eq_true rfl), (Nat.le_of_ble_eq_true rfl)⟩ (Nat.le_of_ble_eq_true rfl) dL_law_694 rfl rfl fun v w hw => ?_
  obtain ⟨σ2, hp2, rfl⟩ := hw
  obtain ⟨rfl, hI2⟩ := h2 v σ2 hp2
  show YL G X σ2 697 q j [.int V, .int V]
  refine z_icmp_eq_t 1503 dL_law_697 rfl rfl ?_
  exact k σ2 hI2
theorem lc_lasts (hX : lX G X q Ln xs) (hj : j + 6 ≤ Ln) (hI : Inv σ) (k : ∀ τ, Inv τ → YL G X τ 1503 q j []) : YL G X σ 702 q j [] := by
  obtain ⟨V, P, hx, h⟩ := q_lasts (l := zXl X) (G := G) (a := xs (j + 1)) hI
  refine z_aload_n 703 dL_law_702 rfl rfl ?_
  refine l_arg 708 1 hX vi1 (by omega) dL_law_703 dL_law_704 dL_law_705 dL_law_706 dL_law_707 rfl ?_
  refine z_callV 711 0 (As := [.int (xs (j + 1))]) (S := []) hx (zW_at sh0) cv_L_81 ⟨(Nat.le_of_ble_eq_true rfl), (Nat.le_of_ble_eq_true rfl), (Nat.le_of_ble_eq_true rfl), (Nat.le_of_ble_eq_true rfl)⟩ (Nat.le_of_ble_eq_true rfl) dL_law_708 rfl rfl fun v w hw => ?_
  obtain ⟨σ1, hp, rfl⟩ := hw
  obtain ⟨rfl, P2, hr, h2⟩ := h v σ1 hp
  show YL G X σ1 711 q j [.int V]
  refine z_aload_n 712 dL_law_711 rfl rfl ?_
  refine l_arg 717 1 hX vi1 (by omega) dL_law_712 dL_law_713 dL_law_714 dL_law_715 dL_law_716 rfl ?_
  refine z_callV 720 158 (As := [.int (xs (j + 1))]) (S := [.int V]) hr (zW_at sh158) cv_L_84 ⟨(Nat.le_of_ble_eq_true rfl), (Nat.le_of_ble_eq_true rfl), (Nat.le_of_ble_eq_true rfl), (Nat.le_of_ble_eq_true rfl)⟩ (Nat.le_of_ble_eq_true rfl) dL_law_717 rfl rfl fun v w hw => ?_
  obtain ⟨σ2, hp2, rfl⟩ := hw
  obtain ⟨rfl, hI2⟩ := h2 v σ2 hp2
  show YL G X σ2 720 q j [.int V, .int V]
  refine z_icmp_eq_t 1503 dL_law_720 rfl rfl ?_
  exact k σ2 hI2
theorem lc_mix (hX : lX G X q Ln xs) (hj : j + 6 ≤ Ln) (hI : Inv σ) (k : ∀ τ, Inv τ → YL G X τ 1503 q j []) : YL G X σ 725 q j [] := by
  obtain ⟨V, P, hx, h⟩ := q_mix (l := zXl X) (G := G) (a := xs (j + 1)) (b := xs (j + 2)) (c := xs (j + 3)) hI
  refine z_aload_n 726 dL_law_725 rfl rfl ?_
  refine l_arg 731 1 hX vi1 (by omega) dL_law_726 dL_law_727 dL_law_728 dL_law_729 dL_law_730 rfl ?_
  refine l_arg 736 2 hX vi2 (by omega) dL_law_731 dL_law_732 dL_law_733 dL_law_734 dL_law_735 rfl ?_
  refine l_arg 741 3 hX vi3 (by omega) dL_law_736 dL_law_737 dL_law_738 dL_law_739 dL_law_740 rfl ?_
  refine z_callV 744 0 (As := [.int (xs (j + 1)), .int (xs (j + 2)), .int (xs (j + 3))]) (S := []) hx (zW_at sh0) cv_L_85 ⟨(Nat.le_of_ble_eq_true rfl), (Nat.le_of_ble_eq_true rfl), (Nat.le_of_ble_eq_true rfl), (Nat.le_of_ble_eq_true rfl)⟩ (Nat.le_of_ble_eq_true rfl) dL_law_741 rfl rfl fun v w hw => ?_
  obtain ⟨σ1, hp, rfl⟩ := hw
  obtain ⟨rfl, P2, hr, h2⟩ := h v σ1 hp
  show YL G X σ1 744 q j [.int V]
  refine z_aload_n 745 dL_law_744 rfl rfl ?_
  refine l_arg 750 1 hX vi1 (by omega) dL_law_745 dL_law_746 dL_law_747 dL_law_748 dL_law_749 rfl ?_
  refine l_arg 755 2 hX vi2 (by omega) dL_law_750 dL_law_751 dL_law_752 dL_law_753 dL_law_754 rfl ?_
  refine l_arg 760 3 hX vi3 (by omega) dL_law_755 dL_law_756 dL_law_757 dL_law_758 dL_law_759 rfl ?_
  refine z_callV 763 158 (As := [.int (xs (j + 1)), .int (xs (j + 2)), .int (xs (j + 3))]) (S := [.int V]) hr (zW_at sh158) cv_L_88 ⟨(Nat.le_of_ble_eq_true rfl), (Nat.le_of_ble_eq_true rfl), (Nat.le_of_ble_eq_true rfl), (Nat.le_of_ble_eq_true rfl)⟩ (Nat.le_of_ble_eq_true rfl) dL_law_760 rfl rfl fun v w hw => ?_
  obtain ⟨σ2, hp2, rfl⟩ := hw
  obtain ⟨rfl, hI2⟩ := h2 v σ2 hp2
  show YL G X σ2 763 q j [.int V, .int V]
  refine z_icmp_eq_t 1503 dL_law_763 rfl rfl ?_
  exact k σ2 hI2
theorem lc_cheap (hX : lX G X q Ln xs) (hj : j + 6 ≤ Ln) (hI : Inv σ) (k : ∀ τ, Inv τ → YL G X τ 1503 q j []) : YL G X σ 768 q j [] := by
  obtain ⟨V, P, hx, h⟩ := q_cheap (l := zXl X) (G := G) (a := xs (j + 1)) (b := xs (j + 2)) (c := xs (j + 3)) hI
  refine z_aload_n 769 dL_law_768 rfl rfl ?_
  refine l_arg 774 1 hX vi1 (by omega) dL_law_769 dL_law_770 dL_law_771 dL_law_772 dL_law_773 rfl ?_
  refine l_arg 779 2 hX vi2 (by omega) dL_law_774 dL_law_775 dL_law_776 dL_law_777 dL_law_778 rfl ?_
  refine l_arg 784 3 hX vi3 (by omega) dL_law_779 dL_law_780 dL_law_781 dL_law_782 dL_law_783 rfl ?_
  refine z_callV 787 0 (As := [.int (xs (j + 1)), .int (xs (j + 2)), .int (xs (j + 3))]) (S := []) hx (zW_at sh0) cv_L_89 ⟨(Nat.le_of_ble_eq_true rfl), (Nat.le_of_ble_eq_true rfl), (Nat.le_of_ble_eq_true rfl), (Nat.le_of_ble_eq_true rfl)⟩ (Nat.le_of_ble_eq_true rfl) dL_law_784 rfl rfl fun v w hw => ?_
  obtain ⟨σ1, hp, rfl⟩ := hw
  obtain ⟨rfl, P2, hr, h2⟩ := h v σ1 hp
  show YL G X σ1 787 q j [.int V]
  refine z_aload_n 788 dL_law_787 rfl rfl ?_
  refine l_arg 793 1 hX vi1 (by omega) dL_law_788 dL_law_789 dL_law_790 dL_law_791 dL_law_792 rfl ?_
  refine l_arg 798 2 hX vi2 (by omega) dL_law_793 dL_law_794 dL_law_795 dL_law_796 dL_law_797 rfl ?_
  refine l_arg 803 3 hX vi3 (by omega) dL_law_798 dL_law_799 dL_law_800 dL_law_801 dL_law_802 rfl ?_
  refine z_callV 806 158 (As := [.int (xs (j + 1)), .int (xs (j + 2)), .int (xs (j + 3))]) (S := [.int V]) hr (zW_at sh158) cv_L_92 ⟨(Nat.le_of_ble_eq_true rfl), (Nat.le_of_ble_eq_true rfl), (Nat.le_of_ble_eq_true rfl), (Nat.le_of_ble_eq_true rfl)⟩ (Nat.le_of_ble_eq_true rfl) dL_law_803 rfl rfl fun v w hw => ?_
  obtain ⟨σ2, hp2, rfl⟩ := hw
  obtain ⟨rfl, hI2⟩ := h2 v σ2 hp2
  show YL G X σ2 806 q j [.int V, .int V]
  refine z_icmp_eq_t 1503 dL_law_806 rfl rfl ?_
  exact k σ2 hI2
theorem lc_more (hX : lX G X q Ln xs) (hj : j + 6 ≤ Ln) (hI : Inv σ) (k : ∀ τ, Inv τ → YL G X τ 1503 q j []) : YL G X σ 811 q j [] := by
  obtain ⟨V, P, hx, h⟩ := q_more (l := zXl X) (G := G) (a := xs (j + 1)) (b := xs (j + 2)) hI
  refine z_aload_n 812 dL_law_811 rfl rfl ?_
  refine l_arg 817 1 hX vi1 (by omega) dL_law_812 dL_law_813 dL_law_814 dL_law_815 dL_law_816 rfl ?_
  refine l_arg 822 2 hX vi2 (by omega) dL_law_817 dL_law_818 dL_law_819 dL_law_820 dL_law_821 rfl ?_
  refine z_callV 825 0 (As := [.int (xs (j + 1)), .int (xs (j + 2))]) (S := []) hx (zW_at sh0) cv_L_93 ⟨(Nat.le_of_ble_eq_true rfl), (Nat.le_of_ble_eq_true rfl), (Nat.le_of_ble_eq_true rfl), (Nat.le_of_ble_eq_true rfl)⟩ (Nat.le_of_ble_eq_true rfl) dL_law_822 rfl rfl fun v w hw => ?_
  obtain ⟨σ1, hp, rfl⟩ := hw
  obtain ⟨rfl, P2, hr, h2⟩ := h v σ1 hp
  show YL G X σ1 825 q j [.int V]
  refine z_aload_n 826 dL_law_825 rfl rfl ?_
  refine l_arg 831 1 hX vi1 (by omega) dL_law_826 dL_law_827 dL_law_828 dL_law_829 dL_law_830 rfl ?_
  refine l_arg 836 2 hX vi2 (by omega) dL_law_831 dL_law_832 dL_law_833 dL_law_834 dL_law_835 rfl ?_
  refine z_callV 839 158 (As := [.int (xs (j + 1)), .int (xs (j + 2))]) (S := [.int V]) hr (zW_at sh158) cv_L_96 ⟨(Nat.le_of_ble_eq_true rfl), (Nat.le_of_ble_eq_true rfl), (Nat.le_of_ble_eq_true rfl), (Nat.le_of_ble_eq_true rfl)⟩ (Nat.le_of_ble_eq_true rfl) dL_law_836 rfl rfl fun v w hw => ?_
  obtain ⟨σ2, hp2, rfl⟩ := hw
  obtain ⟨rfl, hI2⟩ := h2 v σ2 hp2
  show YL G X σ2 839 q j [.int V, .int V]
  refine z_icmp_eq_t 1503 dL_law_839 rfl rfl ?_
  exact k σ2 hI2
theorem lc_swap (hX : lX G X q Ln xs) (hj : j + 6 ≤ Ln) (hI : Inv σ) (k : ∀ τ, Inv τ → YL G X τ 1503 q j []) : YL G X σ 844 q j [] := by
  obtain ⟨V, P, hx, h⟩ := q_swap (l := zXl X) (G := G) (a := xs (j + 1)) hI
  refine z_aload_n 845 dL_law_844 rfl rfl ?_
  refine l_arg 850 1 hX vi1 (by omega) dL_law_845 dL_law_846 dL_law_847 dL_law_848 dL_law_849 rfl ?_
  refine z_callV 853 0 (As := [.int (xs (j + 1))]) (S := []) hx (zW_at sh0) cv_L_97 ⟨(Nat.le_of_ble_eq_true rfl), (Nat.le_of_ble_eq_true rfl), (Nat.le_of_ble_eq_true rfl), (Nat.le_of_ble_eq_true rfl)⟩ (Nat.le_of_ble_eq_true rfl) dL_law_850 rfl rfl fun v w hw => ?_
  obtain ⟨σ1, hp, rfl⟩ := hw
  obtain ⟨rfl, P2, hr, h2⟩ := h v σ1 hp
  show YL G X σ1 853 q j [.int V]
  refine z_aload_n 854 dL_law_853 rfl rfl ?_
  refine l_arg 859 1 hX vi1 (by omega) dL_law_854 dL_law_855 dL_law_856 dL_law_857 dL_law_858 rfl ?_
  refine z_callV 862 158 (As := [.int (xs (j + 1))]) (S := [.int V]) hr (zW_at sh158) cv_L_100 ⟨(Nat.le_of_ble_eq_true rfl), (Nat.le_of_ble_eq_true rfl), (Nat.le_of_ble_eq_true rfl), (Nat.le_of_ble_eq_true rfl)⟩ (Nat.le_of_ble_eq_true rfl) dL_law_859 rfl rfl fun v w hw => ?_
  obtain ⟨σ2, hp2, rfl⟩ := hw
  obtain ⟨rfl, hI2⟩ := h2 v σ2 hp2
  show YL G X σ2 862 q j [.int V, .int V]
  refine z_icmp_eq_t 1503 dL_law_862 rfl rfl ?_
  exact k σ2 hI2
theorem lc_shed (hX : lX G X q Ln xs) (hj : j + 6 ≤ Ln) (hI : Inv σ) (k : ∀ τ, Inv τ → YL G X τ 1503 q j []) : YL G X σ 867 q j [] := by
  obtain ⟨V, P, hx, h⟩ := q_shed (l := zXl X) (G := G) (a := xs (j + 1)) (b := xs (j + 2)) hI
  refine z_aload_n 868 dL_law_867 rfl rfl ?_
  refine l_arg 873 1 hX vi1 (by omega) dL_law_868 dL_law_869 dL_law_870 dL_law_871 dL_law_872 rfl ?_
  refine l_arg 878 2 hX vi2 (by omega) dL_law_873 dL_law_874 dL_law_875 dL_law_876 dL_law_877 rfl ?_
  refine z_callV 881 0 (As := [.int (xs (j + 1)), .int (xs (j + 2))]) (S := []) hx (zW_at sh0) cv_L_101 ⟨(Nat.le_of_ble_eq_true rfl), (Nat.le_of_ble_eq_true rfl), (Nat.le_of_ble_eq_true rfl), (Nat.le_of_ble_eq_true rfl)⟩ (Nat.le_of_ble_eq_true rfl) dL_law_878 rfl rfl fun v w hw => ?_
  obtain ⟨σ1, hp, rfl⟩ := hw
  obtain ⟨rfl, P2, hr, h2⟩ := h v σ1 hp
  show YL G X σ1 881 q j [.int V]
  refine z_aload_n 882 dL_law_881 rfl rfl ?_
  refine l_arg 887 1 hX vi1 (by omega) dL_law_882 dL_law_883 dL_law_884 dL_law_885 dL_law_886 rfl ?_
  refine l_arg 892 2 hX vi2 (by omega) dL_law_887 dL_law_888 dL_law_889 dL_law_890 dL_law_891 rfl ?_
  refine z_callV 895 158 (As := [.int (xs (j + 1)), .int (xs (j + 2))]) (S := [.int V]) hr (zW_at sh158) cv_L_104 ⟨(Nat.le_of_ble_eq_true rfl), (Nat.le_of_ble_eq_true rfl), (Nat.le_of_ble_eq_true rfl), (Nat.le_of_ble_eq_true rfl)⟩ (Nat.le_of_ble_eq_true rfl) dL_law_892 rfl rfl fun v w hw => ?_
  obtain ⟨σ2, hp2, rfl⟩ := hw
  obtain ⟨rfl, hI2⟩ := h2 v σ2 hp2
  show YL G X σ2 895 q j [.int V, .int V]
  refine z_icmp_eq_t 1503 dL_law_895 rfl rfl ?_
  exact k σ2 hI2
theorem lc_need (hX : lX G X q Ln xs) (hj : j + 6 ≤ Ln) (hI : Inv σ) (k : ∀ τ, Inv τ → YL G X τ 1503 q j []) : YL G X σ 900 q j [] := by
  obtain ⟨V, P, hx, h⟩ := q_need (l := zXl X) (G := G) (a := xs (j + 1)) (b := xs (j + 2)) hI
  refine z_aload_n 901 dL_law_900 rfl rfl ?_
  refine l_arg 906 1 hX vi1 (by omega) dL_law_901 dL_law_902 dL_law_903 dL_law_904 dL_law_905 rfl ?_
  refine l_arg 911 2 hX vi2 (by omega) dL_law_906 dL_law_907 dL_law_908 dL_law_909 dL_law_910 rfl ?_
  refine z_callV 914 0 (As := [.int (xs (j + 1)), .int (xs (j + 2))]) (S := []) hx (zW_at sh0) cv_L_105 ⟨(Nat.le_of_ble_eq_true rfl), (Nat.le_of_ble_eq_true rfl), (Nat.le_of_ble_eq_true rfl), (Nat.le_of_ble_eq_true rfl)⟩ (Nat.le_of_ble_eq_true rfl) dL_law_911 rfl rfl fun v w hw => ?_
  obtain ⟨σ1, hp, rfl⟩ := hw
  obtain ⟨rfl, P2, hr, h2⟩ := h v σ1 hp
  show YL G X σ1 914 q j [.int V]
  refine z_aload_n 915 dL_law_914 rfl rfl ?_
  refine l_arg 920 1 hX vi1 (by omega) dL_law_915 dL_law_916 dL_law_917 dL_law_918 dL_law_919 rfl ?_
  refine l_arg 925 2 hX vi2 (by omega) dL_law_920 dL_law_921 dL_law_922 dL_law_923 dL_law_924 rfl ?_
  refine z_callV 928 158 (As := [.int (xs (j + 1)), .int (xs (j + 2))]) (S := [.int V]) hr (zW_at sh158) cv_L_108 ⟨(Nat.le_of_ble_eq_true rfl), (Nat.le_of_ble_eq_true rfl), (Nat.le_of_ble_eq_true rfl), (Nat.le_of_ble_eq_true rfl)⟩ (Nat.le_of_ble_eq_true rfl) dL_law_925 rfl rfl fun v w hw => ?_
  obtain ⟨σ2, hp2, rfl⟩ := hw
  obtain ⟨rfl, hI2⟩ := h2 v σ2 hp2
  show YL G X σ2 928 q j [.int V, .int V]
  refine z_icmp_eq_t 1503 dL_law_928 rfl rfl ?_
  exact k σ2 hI2
theorem lc_kind (hX : lX G X q Ln xs) (hj : j + 6 ≤ Ln) (hI : Inv σ) (k : ∀ τ, Inv τ → YL G X τ 1503 q j []) : YL G X σ 933 q j [] := by
  obtain ⟨V, P, hx, h⟩ := q_kind (l := zXl X) (G := G) (a := xs (j + 1)) (b := xs (j + 2)) (c := xs (j + 3)) hI
  refine z_aload_n 934 dL_law_933 rfl rfl ?_
  refine l_arg 939 1 hX vi1 (by omega) dL_law_934 dL_law_935 dL_law_936 dL_law_937 dL_law_938 rfl ?_
  refine l_arg 944 2 hX vi2 (by omega) dL_law_939 dL_law_940 dL_law_941 dL_law_942 dL_law_943 rfl ?_
  refine l_arg 949 3 hX vi3 (by omega) dL_law_944 dL_law_945 dL_law_946 dL_law_947 dL_law_948 rfl ?_
  refine z_callV 952 0 (As := [.int (xs (j + 1)), .int (xs (j + 2)), .int (xs (j + 3))]) (S := []) hx (zW_at sh0) cv_L_109 ⟨(Nat.le_of_ble_eq_true rfl), (Nat.le_of_ble_eq_true rfl), (Nat.le_of_ble_eq_true rfl), (Nat.le_of_ble_eq_true rfl)⟩ (Nat.le_of_ble_eq_true rfl) dL_law_949 rfl rfl fun v w hw => ?_
  obtain ⟨σ1, hp, rfl⟩ := hw
  obtain ⟨rfl, P2, hr, h2⟩ := h v σ1 hp
  show YL G X σ1 952 q j [.int V]
  refine z_aload_n 953 dL_law_952 rfl rfl ?_
  refine l_arg 958 1 hX vi1 (by omega) dL_law_953 dL_law_954 dL_law_955 dL_law_956 dL_law_957 rfl ?_
  refine l_arg 963 2 hX vi2 (by omega) dL_law_958 dL_law_959 dL_law_960 dL_law_961 dL_law_962 rfl ?_
  refine l_arg 968 3 hX vi3 (by omega) dL_law_963 dL_law_964 dL_law_965 dL_law_966 dL_law_967 rfl ?_
  refine z_callV 971 158 (As := [.int (xs (j + 1)), .int (xs (j + 2)), .int (xs (j + 3))]) (S := [.int V]) hr (zW_at sh158) cv_L_112 ⟨(Nat.le_of_ble_eq_true rfl), (Nat.le_of_ble_eq_true rfl), (Nat.le_of_ble_eq_true rfl), (Nat.le_of_ble_eq_true rfl)⟩ (Nat.le_of_ble_eq_true rfl) dL_law_968 rfl rfl fun v w hw => ?_
  obtain ⟨σ2, hp2, rfl⟩ := hw
  obtain ⟨rfl, hI2⟩ := h2 v σ2 hp2
  show YL G X σ2 971 q j [.int V, .int V]
  refine z_icmp_eq_t 1503 dL_law_971 rfl rfl ?_
  exact k σ2 hI2
theorem lc_luck (hX : lX G X q Ln xs) (hj : j + 6 ≤ Ln) (hI : Inv σ) (k : ∀ τ, Inv τ → YL G X τ 1503 q j []) : YL G X σ 976 q j [] := by
  obtain ⟨V, P, hx, h⟩ := q_luck (l := zXl X) (G := G) (a := xs (j + 1)) (b := xs (j + 2)) (c := xs (j + 3)) (d := xs (j + 4)) (e := xs (j + 5)) hI
  refine z_aload_n 977 dL_law_976 rfl rfl ?_
  refine l_arg 982 1 hX vi1 (by omega) dL_law_977 dL_law_978 dL_law_979 dL_law_980 dL_law_981 rfl ?_
  refine l_arg 987 2 hX vi2 (by omega) dL_law_982 dL_law_983 dL_law_984 dL_law_985 dL_law_986 rfl ?_
  refine l_arg 992 3 hX vi3 (by omega) dL_law_987 dL_law_988 dL_law_989 dL_law_990 dL_law_991 rfl ?_
  refine l_arg 997 4 hX vi4 (by omega) dL_law_992 dL_law_993 dL_law_994 dL_law_995 dL_law_996 rfl ?_
  refine l_arg 1002 5 hX vi5 (by omega) dL_law_997 dL_law_998 dL_law_999 dL_law_1000 dL_law_1001 rfl ?_
  refine z_callV 1005 0 (As := [.int (xs (j + 1)), .int (xs (j + 2)), .int (xs (j + 3)), .int (xs (j + 4)), .int (xs (j + 5))]) (S := []) hx (zW_at sh0) cv_L_113 ⟨(Nat.le_of_ble_eq_true rfl), (Nat.le_of_ble_eq_true rfl), (Nat.le_of_ble_eq_true rfl), (Nat.le_of_ble_eq_true rfl)⟩ (Nat.le_of_ble_eq_true rfl) dL_law_1002 rfl rfl fun v w hw => ?_
  obtain ⟨σ1, hp, rfl⟩ := hw
  obtain ⟨rfl, P2, hr, h2⟩ := h v σ1 hp
  show YL G X σ1 1005 q j [.long V]
  refine z_aload_n 1006 dL_law_1005 rfl rfl ?_
  refine l_arg 1011 1 hX vi1 (by omega) dL_law_1006 dL_law_1007 dL_law_1008 dL_law_1009 dL_law_1010 rfl ?_
  refine l_arg 1016 2 hX vi2 (by omega) dL_law_1011 dL_law_1012 dL_law_1013 dL_law_1014 dL_law_1015 rfl ?_
  refine l_arg 1021 3 hX vi3 (by omega) dL_law_1016 dL_law_1017 dL_law_1018 dL_law_1019 dL_law_1020 rfl ?_
  refine l_arg 1026 4 hX vi4 (by omega) dL_law_1021 dL_law_1022 dL_law_1023 dL_law_1024 dL_law_1025 rfl ?_
  refine l_arg 1031 5 hX vi5 (by omega) dL_law_1026 dL_law_1027 dL_law_1028 dL_law_1029 dL_law_1030 rfl ?_
  refine z_callV 1034 158 (As := [.int (xs (j + 1)), .int (xs (j + 2)), .int (xs (j + 3)), .int (xs (j + 4)), .int (xs (j + 5))]) (S := [.long V]) hr (zW_at sh158) cv_L_117 ⟨(Nat.le_of_ble_eq_true rfl), (Nat.le_of_ble_eq_true rfl), (Nat.le_of_ble_eq_true rfl), (Nat.le_of_ble_eq_true rfl)⟩ (Nat.le_of_ble_eq_true rfl) dL_law_1031 rfl rfl fun v w hw => ?_
  obtain ⟨σ2, hp2, rfl⟩ := hw
  obtain ⟨rfl, hI2⟩ := h2 v σ2 hp2
  show YL G X σ2 1034 q j [.long V, .long V]
  refine z_lcmp 1035 dL_law_1034 rfl ?_
  refine z_if_eq_t 1503 dL_law_1035 rfl (lcmp0 V) ?_
  exact k σ2 hI2
theorem lc_mean (hX : lX G X q Ln xs) (hj : j + 6 ≤ Ln) (hI : Inv σ) (k : ∀ τ, Inv τ → YL G X τ 1503 q j []) : YL G X σ 1040 q j [] := by
  obtain ⟨V, P, hx, h⟩ := q_mean (l := zXl X) (G := G) (a := xs (j + 1)) (b := xs (j + 2)) (c := xs (j + 3)) hI
  refine z_aload_n 1041 dL_law_1040 rfl rfl ?_
  refine l_arg 1046 1 hX vi1 (by omega) dL_law_1041 dL_law_1042 dL_law_1043 dL_law_1044 dL_law_1045 rfl ?_
  refine l_arg 1051 2 hX vi2 (by omega) dL_law_1046 dL_law_1047 dL_law_1048 dL_law_1049 dL_law_1050 rfl ?_
  refine l_arg 1056 3 hX vi3 (by omega) dL_law_1051 dL_law_1052 dL_law_1053 dL_law_1054 dL_law_1055 rfl ?_
  refine z_callV 1059 0 (As := [.int (xs (j + 1)), .int (xs (j + 2)), .int (xs (j + 3))]) (S := []) hx (zW_at sh0) cv_L_118 ⟨(Nat.le_of_ble_eq_true rfl), (Nat.le_of_ble_eq_true rfl), (Nat.le_of_ble_eq_true rfl), (Nat.le_of_ble_eq_true rfl)⟩ (Nat.le_of_ble_eq_true rfl) dL_law_1056 rfl rfl fun v w hw => ?_
  obtain ⟨σ1, hp, rfl⟩ := hw
  obtain ⟨rfl, P2, hr, h2⟩ := h v σ1 hp
  show YL G X σ1 1059 q j [.long V]
  refine z_aload_n 1060 dL_law_1059 rfl rfl ?_
  refine l_arg 1065 1 hX vi1 (by omega) dL_law_1060 dL_law_1061 dL_law_1062 dL_law_1063 dL_law_1064 rfl ?_
  refine l_arg 1070 2 hX vi2 (by omega) dL_law_1065 dL_law_1066 dL_law_1067 dL_law_1068 dL_law_1069 rfl ?_
  refine l_arg 1075 3 hX vi3 (by omega) dL_law_1070 dL_law_1071 dL_law_1072 dL_law_1073 dL_law_1074 rfl ?_
  refine z_callV 1078 158 (As := [.int (xs (j + 1)), .int (xs (j + 2)), .int (xs (j + 3))]) (S := [.long V]) hr (zW_at sh158) cv_L_122 ⟨(Nat.le_of_ble_eq_true rfl), (Nat.le_of_ble_eq_true rfl), (Nat.le_of_ble_eq_true rfl), (Nat.le_of_ble_eq_true rfl)⟩ (Nat.le_of_ble_eq_true rfl) dL_law_1075 rfl rfl fun v w hw => ?_
  obtain ⟨σ2, hp2, rfl⟩ := hw
  obtain ⟨rfl, hI2⟩ := h2 v σ2 hp2
  show YL G X σ2 1078 q j [.long V, .long V]
  refine z_lcmp 1079 dL_law_1078 rfl ?_
  refine z_if_eq_t 1503 dL_law_1079 rfl (lcmp0 V) ?_
  exact k σ2 hI2
theorem lc_see (hX : lX G X q Ln xs) (hj : j + 6 ≤ Ln) (hI : Inv σ) (k : ∀ τ, Inv τ → YL G X τ 1503 q j []) : YL G X σ 1084 q j [] := by
  obtain ⟨V, P, hx, h⟩ := q_see (l := zXl X) (G := G) (a := xs (j + 1)) (b := xs (j + 2)) (c := xs (j + 3)) hI
  refine z_aload_n 1085 dL_law_1084 rfl rfl ?_
  refine l_arg 1090 1 hX vi1 (by omega) dL_law_1085 dL_law_1086 dL_law_1087 dL_law_1088 dL_law_1089 rfl ?_
  refine l_arg 1095 2 hX vi2 (by omega) dL_law_1090 dL_law_1091 dL_law_1092 dL_law_1093 dL_law_1094 rfl ?_
  refine l_arg 1100 3 hX vi3 (by omega) dL_law_1095 dL_law_1096 dL_law_1097 dL_law_1098 dL_law_1099 rfl ?_
  refine z_callV 1103 0 (As := [.int (xs (j + 1)), .int (xs (j + 2)), .int (xs (j + 3))]) (S := []) hx (zW_at sh0) cv_L_123 ⟨(Nat.le_of_ble_eq_true rfl), (Nat.le_of_ble_eq_true rfl), (Nat.le_of_ble_eq_true rfl), (Nat.le_of_ble_eq_true rfl)⟩ (Nat.le_of_ble_eq_true rfl) dL_law_1100 rfl rfl fun v w hw => ?_
  obtain ⟨σ1, hp, rfl⟩ := hw
  obtain ⟨rfl, P2, hr, h2⟩ := h v σ1 hp
  show YL G X σ1 1103 q j [.int V]
  refine z_aload_n 1104 dL_law_1103 rfl rfl ?_
  refine l_arg 1109 1 hX vi1 (by omega) dL_law_1104 dL_law_1105 dL_law_1106 dL_law_1107 dL_law_1108 rfl ?_
  refine l_arg 1114 2 hX vi2 (by omega) dL_law_1109 dL_law_1110 dL_law_1111 dL_law_1112 dL_law_1113 rfl ?_
  refine l_arg 1119 3 hX vi3 (by omega) dL_law_1114 dL_law_1115 dL_law_1116 dL_law_1117 dL_law_1118 rfl ?_
  refine z_callV 1122 158 (As := [.int (xs (j + 1)), .int (xs (j + 2)), .int (xs (j + 3))]) (S := [.int V]) hr (zW_at sh158) cv_L_126 ⟨(Nat.le_of_ble_eq_true rfl), (Nat.le_of_ble_eq_true rfl), (Nat.le_of_ble_eq_true rfl), (Nat.le_of_ble_eq_true rfl)⟩ (Nat.le_of_ble_eq_true rfl) dL_law_1119 rfl rfl fun v w hw => ?_
  obtain ⟨σ2, hp2, rfl⟩ := hw
  obtain ⟨rfl, hI2⟩ := h2 v σ2 hp2
  show YL G X σ2 1122 q j [.int V, .int V]
  refine z_icmp_eq_t 1503 dL_law_1122 rfl rfl ?_
  exact k σ2 hI2
theorem lc_forget (hX : lX G X q Ln xs) (hj : j + 6 ≤ Ln) (hI : Inv σ) (k : ∀ τ, Inv τ → YL G X τ 1503 q j []) : YL G X σ 1127 q j [] := by
  obtain ⟨V, P, hx, h⟩ := q_forget (l := zXl X) (G := G) (a := xs (j + 1)) hI
  refine z_aload_n 1128 dL_law_1127 rfl rfl ?_
  refine l_arg 1133 1 hX vi1 (by omega) dL_law_1128 dL_law_1129 dL_law_1130 dL_law_1131 dL_law_1132 rfl ?_
  refine z_callV 1136 0 (As := [.int (xs (j + 1))]) (S := []) hx (zW_at sh0) cv_L_127 ⟨(Nat.le_of_ble_eq_true rfl), (Nat.le_of_ble_eq_true rfl), (Nat.le_of_ble_eq_true rfl), (Nat.le_of_ble_eq_true rfl)⟩ (Nat.le_of_ble_eq_true rfl) dL_law_1133 rfl rfl fun v w hw => ?_
  obtain ⟨σ1, hp, rfl⟩ := hw
  obtain ⟨rfl, P2, hr, h2⟩ := h v σ1 hp
  show YL G X σ1 1136 q j [.int V]
  refine z_aload_n 1137 dL_law_1136 rfl rfl ?_
  refine l_arg 1142 1 hX vi1 (by omega) dL_law_1137 dL_law_1138 dL_law_1139 dL_law_1140 dL_law_1141 rfl ?_
  refine z_callV 1145 158 (As := [.int (xs (j + 1))]) (S := [.int V]) hr (zW_at sh158) cv_L_130 ⟨(Nat.le_of_ble_eq_true rfl), (Nat.le_of_ble_eq_true rfl), (Nat.le_of_ble_eq_true rfl), (Nat.le_of_ble_eq_true rfl)⟩ (Nat.le_of_ble_eq_true rfl) dL_law_1142 rfl rfl fun v w hw => ?_
  obtain ⟨σ2, hp2, rfl⟩ := hw
  obtain ⟨rfl, hI2⟩ := h2 v σ2 hp2
  show YL G X σ2 1145 q j [.int V, .int V]
  refine z_icmp_eq_t 1503 dL_law_1145 rfl rfl ?_
  exact k σ2 hI2
theorem lc_kinds (hX : lX G X q Ln xs) (hj : j + 6 ≤ Ln) (hI : Inv σ) (k : ∀ τ, Inv τ → YL G X τ 1503 q j []) : YL G X σ 1150 q j [] := by
  obtain ⟨V, P, hx, h⟩ := q_kinds (l := zXl X) (G := G) (a := xs (j + 1)) hI
  refine z_aload_n 1151 dL_law_1150 rfl rfl ?_
  refine l_arg 1156 1 hX vi1 (by omega) dL_law_1151 dL_law_1152 dL_law_1153 dL_law_1154 dL_law_1155 rfl ?_
  refine z_callV 1159 0 (As := [.int (xs (j + 1))]) (S := []) hx (zW_at sh0) cv_L_131 ⟨(Nat.le_of_ble_eq_true rfl), (Nat.le_of_ble_eq_true rfl), (Nat.le_of_ble_eq_true rfl), (Nat.le_of_ble_eq_true rfl)⟩ (Nat.le_of_ble_eq_true rfl) dL_law_1156 rfl rfl fun v w hw => ?_
  obtain ⟨σ1, hp, rfl⟩ := hw
  obtain ⟨rfl, P2, hr, h2⟩ := h v σ1 hp
  show YL G X σ1 1159 q j [.int V]
  refine z_aload_n 1160 dL_law_1159 rfl rfl ?_
  refine l_arg 1165 1 hX vi1 (by omega) dL_law_1160 dL_law_1161 dL_law_1162 dL_law_1163 dL_law_1164 rfl ?_
  refine z_callV 1168 158 (As := [.int (xs (j + 1))]) (S := [.int V]) hr (zW_at sh158) cv_L_134 ⟨(Nat.le_of_ble_eq_true rfl), (Nat.le_of_ble_eq_true rfl), (Nat.le_of_ble_eq_true rfl), (Nat.le_of_ble_eq_true rfl)⟩ (Nat.le_of_ble_eq_true rfl) dL_law_1165 rfl rfl fun v w hw => ?_
  obtain ⟨σ2, hp2, rfl⟩ := hw
  obtain ⟨rfl, hI2⟩ := h2 v σ2 hp2
  show YL G X σ2 1168 q j [.int V, .int V]
  refine z_icmp_eq_t 1503 dL_law_1168 rfl rfl ?_
  exact k σ2 hI2
theorem lc_drops (hX : lX G X q Ln xs) (hj : j + 6 ≤ Ln) (hI : Inv σ) (k : ∀ τ, Inv τ → YL G X τ 1503 q j []) : YL G X σ 1173 q j [] := by
  obtain ⟨V, P, hx, h⟩ := q_drops (l := zXl X) (G := G) (a := xs (j + 1)) (b := xs (j + 2)) hI
  refine z_aload_n 1174 dL_law_1173 rfl rfl ?_
  refine l_arg 1179 1 hX vi1 (by omega) dL_law_1174 dL_law_1175 dL_law_1176 dL_law_1177 dL_law_1178 rfl ?_
  refine l_arg 1184 2 hX vi2 (by omega) dL_law_1179 dL_law_1180 dL_law_1181 dL_law_1182 dL_law_1183 rfl ?_
  refine z_callV 1187 0 (As := [.int (xs (j + 1)), .int (xs (j + 2))]) (S := []) hx (zW_at sh0) cv_L_135 ⟨(Nat.le_of_ble_eq_true rfl), (Nat.le_of_ble_eq_true rfl), (Nat.le_of_ble_eq_true rfl), (Nat.le_of_ble_eq_true rfl)⟩ (Nat.le_of_ble_eq_true rfl) dL_law_1184 rfl rfl fun v w hw => ?_
  obtain ⟨σ1, hp, rfl⟩ := hw
  obtain ⟨rfl, P2, hr, h2⟩ := h v σ1 hp
  show YL G X σ1 1187 q j [.int V]
  refine z_aload_n 1188 dL_law_1187 rfl rfl ?_
  refine l_arg 1193 1 hX vi1 (by omega) dL_law_1188 dL_law_1189 dL_law_1190 dL_law_1191 dL_law_1192 rfl ?_
  refine l_arg 1198 2 hX vi2 (by omega) dL_law_1193 dL_law_1194 dL_law_1195 dL_law_1196 dL_law_1197 rfl ?_
  refine z_callV 1201 158 (As := [.int (xs (j + 1)), .int (xs (j + 2))]) (S := [.int V]) hr (zW_at sh158) cv_L_138 ⟨(Nat.le_of_ble_eq_true rfl), (Nat.le_of_ble_eq_true rfl), (Nat.le_of_ble_eq_true rfl), (Nat.le_of_ble_eq_true rfl)⟩ (Nat.le_of_ble_eq_true rfl) dL_law_1198 rfl rfl fun v w hw => ?_
  obtain ⟨σ2, hp2, rfl⟩ := hw
  obtain ⟨rfl, hI2⟩ := h2 v σ2 hp2
  show YL G X σ2 1201 q j [.int V, .int V]
  refine z_icmp_eq_t 1503 dL_law_1201 rfl rfl ?_
  exact k σ2 hI2
theorem lc_ask (hX : lX G X q Ln xs) (hj : j + 6 ≤ Ln) (hI : Inv σ) (k : ∀ τ, Inv τ → YL G X τ 1503 q j []) : YL G X σ 1206 q j [] := by
  obtain ⟨V, P, hx, h⟩ := q_ask (l := zXl X) (G := G) (a := xs (j + 1)) (b := xs (j + 2)) hI
  refine z_aload_n 1207 dL_law_1206 rfl rfl ?_
  refine l_arg 1212 1 hX vi1 (by omega) dL_law_1207 dL_law_1208 dL_law_1209 dL_law_1210 dL_law_1211 rfl ?_
  refine l_arg 1217 2 hX vi2 (by omega) dL_law_1212 dL_law_1213 dL_law_1214 dL_law_1215 dL_law_1216 rfl ?_
  refine z_callV 1220 0 (As := [.int (xs (j + 1)), .int (xs (j + 2))]) (S := []) hx (zW_at sh0) cv_L_139 ⟨(Nat.le_of_ble_eq_true rfl), (Nat.le_of_ble_eq_true rfl), (Nat.le_of_ble_eq_true rfl), (Nat.le_of_ble_eq_true rfl)⟩ (Nat.le_of_ble_eq_true rfl) dL_law_1217 rfl rfl fun v w hw => ?_
  obtain ⟨σ1, hp, rfl⟩ := hw
  obtain ⟨rfl, P2, hr, h2⟩ := h v σ1 hp
  show YL G X σ1 1220 q j [.int V]
  refine z_aload_n 1221 dL_law_1220 rfl rfl ?_
  refine l_arg 1226 1 hX vi1 (by omega) dL_law_1221 dL_law_1222 dL_law_1223 dL_law_1224 dL_law_1225 rfl ?_
  refine l_arg 1231 2 hX vi2 (by omega) dL_law_1226 dL_law_1227 dL_law_1228 dL_law_1229 dL_law_1230 rfl ?_
  refine z_callV 1234 158 (As := [.int (xs (j + 1)), .int (xs (j + 2))]) (S := [.int V]) hr (zW_at sh158) cv_L_142 ⟨(Nat.le_of_ble_eq_true rfl), (Nat.le_of_ble_eq_true rfl), (Nat.le_of_ble_eq_true rfl), (Nat.le_of_ble_eq_true rfl)⟩ (Nat.le_of_ble_eq_true rfl) dL_law_1231 rfl rfl fun v w hw => ?_
  obtain ⟨σ2, hp2, rfl⟩ := hw
  obtain ⟨rfl, hI2⟩ := h2 v σ2 hp2
  show YL G X σ2 1234 q j [.int V, .int V]
  refine z_icmp_eq_t 1503 dL_law_1234 rfl rfl ?_
  exact k σ2 hI2
theorem lc_drift (hX : lX G X q Ln xs) (hj : j + 6 ≤ Ln) (hI : Inv σ) (k : ∀ τ, Inv τ → YL G X τ 1503 q j []) : YL G X σ 1239 q j [] := by
  obtain ⟨V, P, hx, h⟩ := q_drift (l := zXl X) (G := G) (a := xs (j + 1)) (b := xs (j + 2)) (c := xs (j + 3)) hI
  refine z_aload_n 1240 dL_law_1239 rfl rfl ?_
  refine l_arg 1245 1 hX vi1 (by omega) dL_law_1240 dL_law_1241 dL_law_1242 dL_law_1243 dL_law_1244 rfl ?_
  refine l_arg 1250 2 hX vi2 (by omega) dL_law_1245 dL_law_1246 dL_law_1247 dL_law_1248 dL_law_1249 rfl ?_
  refine l_arg 1255 3 hX vi3 (by omega) dL_law_1250 dL_law_1251 dL_law_1252 dL_law_1253 dL_law_1254 rfl ?_
  refine z_callV 1258 0 (As := [.int (xs (j + 1)), .int (xs (j + 2)), .int (xs (j + 3))]) (S := []) hx (zW_at sh0) cv_L_143 ⟨(Nat.le_of_ble_eq_true rfl), (Nat.le_of_ble_eq_true rfl), (Nat.le_of_ble_eq_true rfl), (Nat.le_of_ble_eq_true rfl)⟩ (Nat.le_of_ble_eq_true rfl) dL_law_1255 rfl rfl fun v w hw => ?_
  obtain ⟨σ1, hp, rfl⟩ := hw
  obtain ⟨rfl, P2, hr, h2⟩ := h v σ1 hp
  show YL G X σ1 1258 q j [.int V]
  refine z_aload_n 1259 dL_law_1258 rfl rfl ?_
  refine l_arg 1264 1 hX vi1 (by omega) dL_law_1259 dL_law_1260 dL_law_1261 dL_law_1262 dL_law_1263 rfl ?_
  refine l_arg 1269 2 hX vi2 (by omega) dL_law_1264 dL_law_1265 dL_law_1266 dL_law_1267 dL_law_1268 rfl ?_
  refine l_arg 1274 3 hX vi3 (by omega) dL_law_1269 dL_law_1270 dL_law_1271 dL_law_1272 dL_law_1273 rfl ?_
  refine z_callV 1277 158 (As := [.int (xs (j + 1)), .int (xs (j + 2)), .int (xs (j + 3))]) (S := [.int V]) hr (zW_at sh158) cv_L_146 ⟨(Nat.le_of_ble_eq_true rfl), (Nat.le_of_ble_eq_true rfl), (Nat.le_of_ble_eq_true rfl), (Nat.le_of_ble_eq_true rfl)⟩ (Nat.le_of_ble_eq_true rfl) dL_law_1274 rfl rfl fun v w hw => ?_
  obtain ⟨σ2, hp2, rfl⟩ := hw
  obtain ⟨rfl, hI2⟩ := h2 v σ2 hp2
  show YL G X σ2 1277 q j [.int V, .int V]
  refine z_icmp_eq_t 1503 dL_law_1277 rfl rfl ?_
  exact k σ2 hI2
theorem lc_keep (hX : lX G X q Ln xs) (hj : j + 6 ≤ Ln) (hI : Inv σ) (k : ∀ τ, Inv τ → YL G X τ 1503 q j []) : YL G X σ 1282 q j [] := by
  obtain ⟨V, P, hx, h⟩ := q_keep (l := zXl X) (G := G) (a := xs (j + 1)) hI
  refine z_aload_n 1283 dL_law_1282 rfl rfl ?_
  refine l_arg 1288 1 hX vi1 (by omega) dL_law_1283 dL_law_1284 dL_law_1285 dL_law_1286 dL_law_1287 rfl ?_
  refine z_callV 1291 0 (As := [.int (xs (j + 1))]) (S := []) hx (zW_at sh0) cv_L_147 ⟨(Nat.le_of_ble_eq_true rfl), (Nat.le_of_ble_eq_true rfl), (Nat.le_of_ble_eq_true rfl), (Nat.le_of_ble_eq_true rfl)⟩ (Nat.le_of_ble_eq_true rfl) dL_law_1288 rfl rfl fun v w hw => ?_
  obtain ⟨σ1, hp, rfl⟩ := hw
  obtain ⟨rfl, P2, hr, h2⟩ := h v σ1 hp
  show YL G X σ1 1291 q j [.int V]
  refine z_aload_n 1292 dL_law_1291 rfl rfl ?_
  refine l_arg 1297 1 hX vi1 (by omega) dL_law_1292 dL_law_1293 dL_law_1294 dL_law_1295 dL_law_1296 rfl ?_
  refine z_callV 1300 158 (As := [.int (xs (j + 1))]) (S := [.int V]) hr (zW_at sh158) cv_L_150 ⟨(Nat.le_of_ble_eq_true rfl), (Nat.le_of_ble_eq_true rfl), (Nat.le_of_ble_eq_true rfl), (Nat.le_of_ble_eq_true rfl)⟩ (Nat.le_of_ble_eq_true rfl) dL_law_1297 rfl rfl fun v w hw => ?_
  obtain ⟨σ2, hp2, rfl⟩ := hw
  obtain ⟨rfl, hI2⟩ := h2 v σ2 hp2
  show YL G X σ2 1300 q j [.int V, .int V]
  refine z_icmp_eq_t 1503 dL_law_1300 rfl rfl ?_
  exact k σ2 hI2
theorem lc_back (hX : lX G X q Ln xs) (hj : j + 6 ≤ Ln) (hI : Inv σ) (k : ∀ τ, Inv τ → YL G X τ 1503 q j []) : YL G X σ 1305 q j [] := by
  obtain ⟨V, P, hx, h⟩ := q_back (l := zXl X) (G := G) (a := xs (j + 1)) hI
  refine z_aload_n 1306 dL_law_1305 rfl rfl ?_
  refine l_arg 1311 1 hX vi1 (by omega) dL_law_1306 dL_law_1307 dL_law_1308 dL_law_1309 dL_law_1310 rfl ?_
  refine z_callV 1314 0 (As := [.int (xs (j + 1))]) (S := []) hx (zW_at sh0) cv_L_151 ⟨(Nat.le_of_ble_eq_true rfl), (Nat.le_of_ble_eq_true rfl), (Nat.le_of_ble_eq_true rfl), (Nat.le_of_ble_eq_true rfl)⟩ (Nat.le_of_ble_eq_true rfl) dL_law_1311 rfl rfl fun v w hw => ?_
  obtain ⟨σ1, hp, rfl⟩ := hw
  obtain ⟨rfl, P2, hr, h2⟩ := h v σ1 hp
  show YL G X σ1 1314 q j [.int V]
  refine z_aload_n 1315 dL_law_1314 rfl rfl ?_
  refine l_arg 1320 1 hX vi1 (by omega) dL_law_1315 dL_law_1316 dL_law_1317 dL_law_1318 dL_law_1319 rfl ?_
  refine z_callV 1323 158 (As := [.int (xs (j + 1))]) (S := [.int V]) hr (zW_at sh158) cv_L_154 ⟨(Nat.le_of_ble_eq_true rfl), (Nat.le_of_ble_eq_true rfl), (Nat.le_of_ble_eq_true rfl), (Nat.le_of_ble_eq_true rfl)⟩ (Nat.le_of_ble_eq_true rfl) dL_law_1320 rfl rfl fun v w hw => ?_
  obtain ⟨σ2, hp2, rfl⟩ := hw
  obtain ⟨rfl, hI2⟩ := h2 v σ2 hp2
  show YL G X σ2 1323 q j [.int V, .int V]
  refine z_icmp_eq_t 1503 dL_law_1323 rfl rfl ?_
  exact k σ2 hI2
theorem lc_sheet (hX : lX G X q Ln xs) (hj : j + 6 ≤ Ln) (hI : Inv σ) (k : ∀ τ, Inv τ → YL G X τ 1503 q j []) : YL G X σ 1328 q j [] := by
  obtain ⟨V, P, hx, h⟩ := q_sheet (l := zXl X) (G := G) (a := xs (j + 1)) (b := xs (j + 2)) (c := xs (j + 3)) hI
  refine z_aload_n 1329 dL_law_1328 rfl rfl ?_
  refine l_arg 1334 1 hX vi1 (by omega) dL_law_1329 dL_law_1330 dL_law_1331 dL_law_1332 dL_law_1333 rfl ?_
  refine l_arg 1339 2 hX vi2 (by omega) dL_law_1334 dL_law_1335 dL_law_1336 dL_law_1337 dL_law_1338 rfl ?_
  refine l_arg 1344 3 hX vi3 (by omega) dL_law_1339 dL_law_1340 dL_law_1341 dL_law_1342 dL_law_1343 rfl ?_
  refine z_callV 1347 0 (As := [.int (xs (j + 1)), .int (xs (j + 2)), .int (xs (j + 3))]) (S := []) hx (zW_at sh0) cv_L_155 ⟨(Nat.le_of_ble_eq_true rfl), (Nat.le_of_ble_eq_true rfl), (Nat.le_of_ble_eq_true rfl), (Nat.le_of_ble_eq_true rfl)⟩ (Nat.le_of_ble_eq_true rfl) dL_law_1344 rfl rfl fun v w hw => ?_
  obtain ⟨σ1, hp, rfl⟩ := hw
  obtain ⟨rfl, P2, hr, h2⟩ := h v σ1 hp
  show YL G X σ1 1347 q j [.int V]
  refine z_aload_n 1348 dL_law_1347 rfl rfl ?_
  refine l_arg 1353 1 hX vi1 (by omega) dL_law_1348 dL_law_1349 dL_law_1350 dL_law_1351 dL_law_1352 rfl ?_
  refine l_arg 1358 2 hX vi2 (by omega) dL_law_1353 dL_law_1354 dL_law_1355 dL_law_1356 dL_law_1357 rfl ?_
  refine l_arg 1363 3 hX vi3 (by omega) dL_law_1358 dL_law_1359 dL_law_1360 dL_law_1361 dL_law_1362 rfl ?_
  refine z_callV 1366 158 (As := [.int (xs (j + 1)), .int (xs (j + 2)), .int (xs (j + 3))]) (S := [.int V]) hr (zW_at sh158) cv_L_158 ⟨(Nat.le_of_ble_eq_true rfl), (Nat.le_of_ble_eq_true rfl), (Nat.le_of_ble_eq_true rfl), (Nat.le_of_ble_eq_true rfl)⟩ (Nat.le_of_ble_eq_true rfl) dL_law_1363 rfl rfl fun v w hw => ?_
  obtain ⟨σ2, hp2, rfl⟩ := hw
  obtain ⟨rfl, hI2⟩ := h2 v σ2 hp2
  show YL G X σ2 1366 q j [.int V, .int V]
  refine z_icmp_eq_t 1503 dL_law_1366 rfl rfl ?_
  exact k σ2 hI2
theorem lc_lay (hX : lX G X q Ln xs) (hj : j + 6 ≤ Ln) (hI : Inv σ) (k : ∀ τ, Inv τ → YL G X τ 1503 q j []) : YL G X σ 1371 q j [] := by
  obtain ⟨V, P, hx, h⟩ := q_lay (l := zXl X) (G := G) (a := xs (j + 1)) (b := xs (j + 2)) (c := xs (j + 3)) hI
  refine z_aload_n 1372 dL_law_1371 rfl rfl ?_
  refine l_arg 1377 1 hX vi1 (by omega) dL_law_1372 dL_law_1373 dL_law_1374 dL_law_1375 dL_law_1376 rfl ?_
  refine l_arg 1382 2 hX vi2 (by omega) dL_law_1377 dL_law_1378 dL_law_1379 dL_law_1380 dL_law_1381 rfl ?_
  refine l_arg 1387 3 hX vi3 (by omega) dL_law_1382 dL_law_1383 dL_law_1384 dL_law_1385 dL_law_1386 rfl ?_
  refine z_callV 1390 0 (As := [.int (xs (j + 1)), .int (xs (j + 2)), .int (xs (j + 3))]) (S := []) hx (zW_at sh0) cv_L_159 ⟨(Nat.le_of_ble_eq_true rfl), (Nat.le_of_ble_eq_true rfl), (Nat.le_of_ble_eq_true rfl), (Nat.le_of_ble_eq_true rfl)⟩ (Nat.le_of_ble_eq_true rfl) dL_law_1387 rfl rfl fun v w hw => ?_
  obtain ⟨σ1, hp, rfl⟩ := hw
  obtain ⟨rfl, P2, hr, h2⟩ := h v σ1 hp
  show YL G X σ1 1390 q j [.int V]
  refine z_aload_n 1391 dL_law_1390 rfl rfl ?_
  refine l_arg 1396 1 hX vi1 (by omega) dL_law_1391 dL_law_1392 dL_law_1393 dL_law_1394 dL_law_1395 rfl ?_
  refine l_arg 1401 2 hX vi2 (by omega) dL_law_1396 dL_law_1397 dL_law_1398 dL_law_1399 dL_law_1400 rfl ?_
  refine l_arg 1406 3 hX vi3 (by omega) dL_law_1401 dL_law_1402 dL_law_1403 dL_law_1404 dL_law_1405 rfl ?_
  refine z_callV 1409 158 (As := [.int (xs (j + 1)), .int (xs (j + 2)), .int (xs (j + 3))]) (S := [.int V]) hr (zW_at sh158) cv_L_162 ⟨(Nat.le_of_ble_eq_true rfl), (Nat.le_of_ble_eq_true rfl), (Nat.le_of_ble_eq_true rfl), (Nat.le_of_ble_eq_true rfl)⟩ (Nat.le_of_ble_eq_true rfl) dL_law_1406 rfl rfl fun v w hw => ?_
  obtain ⟨σ2, hp2, rfl⟩ := hw
  obtain ⟨rfl, hI2⟩ := h2 v σ2 hp2
  show YL G X σ2 1409 q j [.int V, .int V]
  refine z_icmp_eq_t 1503 dL_law_1409 rfl rfl ?_
  exact k σ2 hI2
theorem lc_read (hX : lX G X q Ln xs) (hj : j + 6 ≤ Ln) (hI : Inv σ) (k : ∀ τ, Inv τ → YL G X τ 1503 q j []) : YL G X σ 1414 q j [] := by
  obtain ⟨V, P, hx, h⟩ := q_read (l := zXl X) (G := G) (a := xs (j + 1)) (b := xs (j + 2)) (c := xs (j + 3)) (d := xs (j + 4)) hI
  refine z_aload_n 1415 dL_law_1414 rfl rfl ?_
  refine l_arg 1420 1 hX vi1 (by omega) dL_law_1415 dL_law_1416 dL_law_1417 dL_law_1418 dL_law_1419 rfl ?_
  refine l_arg 1425 2 hX vi2 (by omega) dL_law_1420 dL_law_1421 dL_law_1422 dL_law_1423 dL_law_1424 rfl ?_
  refine l_arg 1430 3 hX vi3 (by omega) dL_law_1425 dL_law_1426 dL_law_1427 dL_law_1428 dL_law_1429 rfl ?_
  refine l_arg 1435 4 hX vi4 (by omega) dL_law_1430 dL_law_1431 dL_law_1432 dL_law_1433 dL_law_1434 rfl ?_
  refine z_callV 1438 0 (As := [.int (xs (j + 1)), .int (xs (j + 2)), .int (xs (j + 3)), .int (xs (j + 4))]) (S := []) hx (zW_at sh0) cv_L_163 ⟨(Nat.le_of_ble_eq_true rfl), (Nat.le_of_ble_eq_true rfl), (Nat.le_of_ble_eq_true rfl), (Nat.le_of_ble_eq_true rfl)⟩ (Nat.le_of_ble_eq_true rfl) dL_law_1435 rfl rfl fun v w hw => ?_
  obtain ⟨σ1, hp, rfl⟩ := hw
  obtain ⟨rfl, P2, hr, h2⟩ := h v σ1 hp
  show YL G X σ1 1438 q j [.int V]
  refine z_aload_n 1439 dL_law_1438 rfl rfl ?_
  refine l_arg 1444 1 hX vi1 (by omega) dL_law_1439 dL_law_1440 dL_law_1441 dL_law_1442 dL_law_1443 rfl ?_
  refine l_arg 1449 2 hX vi2 (by omega) dL_law_1444 dL_law_1445 dL_law_1446 dL_law_1447 dL_law_1448 rfl ?_
  refine l_arg 1454 3 hX vi3 (by omega) dL_law_1449 dL_law_1450 dL_law_1451 dL_law_1452 dL_law_1453 rfl ?_
  refine l_arg 1459 4 hX vi4 (by omega) dL_law_1454 dL_law_1455 dL_law_1456 dL_law_1457 dL_law_1458 rfl ?_
  refine z_callV 1462 158 (As := [.int (xs (j + 1)), .int (xs (j + 2)), .int (xs (j + 3)), .int (xs (j + 4))]) (S := [.int V]) hr (zW_at sh158) cv_L_167 ⟨(Nat.le_of_ble_eq_true rfl), (Nat.le_of_ble_eq_true rfl), (Nat.le_of_ble_eq_true rfl), (Nat.le_of_ble_eq_true rfl)⟩ (Nat.le_of_ble_eq_true rfl) dL_law_1459 rfl rfl fun v w hw => ?_
  obtain ⟨σ2, hp2, rfl⟩ := hw
  obtain ⟨rfl, hI2⟩ := h2 v σ2 hp2
  show YL G X σ2 1462 q j [.int V, .int V]
  refine z_icmp_eq_t 1503 dL_law_1462 rfl rfl ?_
  exact k σ2 hI2
theorem lc_torn (hX : lX G X q Ln xs) (hj : j + 6 ≤ Ln) (hI : Inv σ) (k : ∀ τ, Inv τ → YL G X τ 1503 q j []) : YL G X σ 1467 q j [] := by
  obtain ⟨V, P, hx, h⟩ := q_torn (l := zXl X) (G := G)  hI
  refine z_aload_n 1468 dL_law_1467 rfl rfl ?_
  refine z_callV 1471 0 (As := []) (S := []) hx (zW_at sh0) cv_L_168 ⟨(Nat.le_of_ble_eq_true rfl), (Nat.le_of_ble_eq_true rfl), (Nat.le_of_ble_eq_true rfl), (Nat.le_of_ble_eq_true rfl)⟩ (Nat.le_of_ble_eq_true rfl) dL_law_1468 rfl rfl fun v w hw => ?_
  obtain ⟨σ1, hp, rfl⟩ := hw
  obtain ⟨rfl, P2, hr, h2⟩ := h v σ1 hp
  show YL G X σ1 1471 q j [.int V]
  refine z_aload_n 1472 dL_law_1471 rfl rfl ?_
  refine z_callV 1475 158 (As := []) (S := [.int V]) hr (zW_at sh158) cv_L_171 ⟨(Nat.le_of_ble_eq_true rfl), (Nat.le_of_ble_eq_true rfl), (Nat.le_of_ble_eq_true rfl), (Nat.le_of_ble_eq_true rfl)⟩ (Nat.le_of_ble_eq_true rfl) dL_law_1472 rfl rfl fun v w hw => ?_
  obtain ⟨σ2, hp2, rfl⟩ := hw
  obtain ⟨rfl, hI2⟩ := h2 v σ2 hp2
  show YL G X σ2 1475 q j [.int V, .int V]
  refine z_icmp_eq_t 1503 dL_law_1475 rfl rfl ?_
  exact k σ2 hI2
theorem lc_count (hX : lX G X q Ln xs) (hj : j + 6 ≤ Ln) (hI : Inv σ) (k : ∀ τ, Inv τ → YL G X τ 1503 q j []) : YL G X σ 1480 q j [] := by
  obtain ⟨V, P, hx, h⟩ := q_count (l := zXl X) (G := G) (a := xs (j + 1)) hI
  refine z_aload_n 1481 dL_law_1480 rfl rfl ?_
  refine l_arg 1486 1 hX vi1 (by omega) dL_law_1481 dL_law_1482 dL_law_1483 dL_law_1484 dL_law_1485 rfl ?_
  refine z_callV 1489 0 (As := [.int (xs (j + 1))]) (S := []) hx (zW_at sh0) cv_L_172 ⟨(Nat.le_of_ble_eq_true rfl), (Nat.le_of_ble_eq_true rfl), (Nat.le_of_ble_eq_true rfl), (Nat.le_of_ble_eq_true rfl)⟩ (Nat.le_of_ble_eq_true rfl) dL_law_1486 rfl rfl fun v w hw => ?_
  obtain ⟨σ1, hp, rfl⟩ := hw
  obtain ⟨rfl, P2, hr, h2⟩ := h v σ1 hp
  show YL G X σ1 1489 q j [.int V]
  refine z_aload_n 1490 dL_law_1489 rfl rfl ?_
  refine l_arg 1495 1 hX vi1 (by omega) dL_law_1490 dL_law_1491 dL_law_1492 dL_law_1493 dL_law_1494 rfl ?_
  refine z_callV 1498 158 (As := [.int (xs (j + 1))]) (S := [.int V]) hr (zW_at sh158) cv_L_175 ⟨(Nat.le_of_ble_eq_true rfl), (Nat.le_of_ble_eq_true rfl), (Nat.le_of_ble_eq_true rfl), (Nat.le_of_ble_eq_true rfl)⟩ (Nat.le_of_ble_eq_true rfl) dL_law_1495 rfl rfl fun v w hw => ?_
  obtain ⟨σ2, hp2, rfl⟩ := hw
  obtain ⟨rfl, hI2⟩ := h2 v σ2 hp2
  show YL G X σ2 1498 q j [.int V, .int V]
  refine z_icmp_eq_t 1503 dL_law_1498 rfl rfl ?_
  exact k σ2 hI2
theorem lw_lt {Ln j : Nat} (h1 : Ln < j + 6) (hL : Ln ≤ 384) (hj : j ≤ 1000) : nI Ln - 6 < nI j := by
  by_cases h : 6 ≤ Ln
  · rw [show (6 : Int32) = nI 6 from rfl, pk_sub h]; exact nI_lt (by omega) (by omega)
  · have h0 : nI Ln - 6 < 0 := by
      have : Ln = 0 ∨ Ln = 1 ∨ Ln = 2 ∨ Ln = 3 ∨ Ln = 4 ∨ Ln = 5 := by omega
      rcases this with rfl | rfl | rfl | rfl | rfl | rfl <;> decide
    have h2 : (0 : Int32) ≤ nI j := nI_pos' (by omega)
    rw [Int32.lt_iff_toInt_lt] at h0 ⊢
    rw [Int32.le_iff_toInt_le] at h2
    omega
theorem lw_loop (hX : lX G X q Ln xs) (fin : ∀ τ j, YL G X τ 1509 q j []) : ∀ (d j : Nat), Ln ≤ j + d → j ≤ 1000 → ∀ σ, Inv σ → YL G X σ 18 q j []
  | d, j, hd, hj, σ, hI => by
    have hL := hX.2.2.2
    refine z_iload_n 19 dL_law_18 rfl rfl ?_
    refine z_aload_n 20 dL_law_19 rfl rfl ?_
    refine l_slen 21 hX dL_law_20 rfl ?_
    refine z_bipush 23 dL_law_21 vb6 rfl ?_
    refine z_isub 24 dL_law_23 rfl ?_
    by_cases hh : j + 6 ≤ Ln
    · refine z_icmp_gt_f 27 1509 dL_law_24 rfl (by
        rw [show (6 : Int32) = nI 6 from rfl, pk_sub (by omega)]
        exact nI_nlt (by omega) (by omega)) rfl ?_
      match d, hd with
      | 0, hd => omega
      | d + 1, hd =>
        have next : ∀ τ, Inv τ → YL G X τ 1503 q j [] := fun τ hτ => by
          refine z_iinc 1506 [_, _, _, _] dL_law_1503 rfl (show _ + _ = nI (j + 6) from nI_add j 6) (by decide) rfl rfl rfl ?_
          refine z_goto 18 dL_law_1506 rfl ?_
          exact lw_loop hX fin d (j + 6) (by omega) (by omega) τ hτ
        refine z_aload_n 28 dL_law_27 rfl rfl ?_
        refine z_iload_n 29 dL_law_28 rfl rfl ?_
        refine l_sld 30 j hX rfl (by omega) dL_law_29 rfl ?_
        refine z_bipush 32 dL_law_30 vb63 rfl ?_
        refine z_iand 33 dL_law_32 rfl ?_
        rw [pk_and (xs j) 6 (by decide)]
        have hr : (xs j).toBitVec.toNat % 2 ^ 6 < 64 := Nat.mod_lt _ (by decide)
        generalize (xs j).toBitVec.toNat % 2 ^ 6 = r at hr
        by_cases h9 : r < 39
        · match r, h9 with
          | 0, _ => exact z_tsIn 204 dL_law_33 (by decide) (by decide) (off := 171) rfl rfl (lc_feed hX hh hI next)
          | 1, _ => exact z_tsIn 227 dL_law_33 (by decide) (by decide) (off := 194) rfl rfl (lc_end hX hh hI next)
          | 2, _ => exact z_tsIn 250 dL_law_33 (by decide) (by decide) (off := 217) rfl rfl (lc_text hX hh hI next)
          | 3, _ => exact z_tsIn 263 dL_law_33 (by decide) (by decide) (off := 230) rfl rfl (lc_fault hX hh hI next)
          | 4, _ => exact z_tsIn 276 dL_law_33 (by decide) (by decide) (off := 243) rfl rfl (lc_rule hX hh hI next)
          | 5, _ => exact z_tsIn 299 dL_law_33 (by decide) (by decide) (off := 266) rfl rfl (lc_colour hX hh hI next)
          | 6, _ => exact z_tsIn 332 dL_law_33 (by decide) (by decide) (off := 299) rfl rfl (lc_one hX hh hI next)
          | 7, _ => exact z_tsIn 365 dL_law_33 (by decide) (by decide) (off := 332) rfl rfl (lc_holds hX hh hI next)
          | 8, _ => exact z_tsIn 398 dL_law_33 (by decide) (by decide) (off := 365) rfl rfl (lc_off hX hh hI next)
          | 9, _ => exact z_tsIn 431 dL_law_33 (by decide) (by decide) (off := 398) rfl rfl (lc_alter hX hh hI next)
          | 10, _ => exact z_tsIn 474 dL_law_33 (by decide) (by decide) (off := 441) rfl rfl (lc_pay hX hh hI next)
          | 11, _ => exact z_tsIn 517 dL_law_33 (by decide) (by decide) (off := 484) rfl rfl (lc_lend hX hh hI next)
          | 12, _ => exact z_tsIn 560 dL_law_33 (by decide) (by decide) (off := 527) rfl rfl (lc_bring hX hh hI next)
          | 13, _ => exact z_tsIn 603 dL_law_33 (by decide) (by decide) (off := 570) rfl rfl (lc_days hX hh hI next)
          | 14, _ => exact z_tsIn 626 dL_law_33 (by decide) (by decide) (off := 593) rfl rfl (lc_runs hX hh hI next)
          | 15, _ => exact z_tsIn 659 dL_law_33 (by decide) (by decide) (off := 626) rfl rfl (lc_ahead hX hh hI next)
          | 16, _ => exact z_tsIn 702 dL_law_33 (by decide) (by decide) (off := 669) rfl rfl (lc_lasts hX hh hI next)
          | 17, _ => exact z_tsIn 725 dL_law_33 (by decide) (by decide) (off := 692) rfl rfl (lc_mix hX hh hI next)
          | 18, _ => exact z_tsIn 768 dL_law_33 (by decide) (by decide) (off := 735) rfl rfl (lc_cheap hX hh hI next)
          | 19, _ => exact z_tsIn 811 dL_law_33 (by decide) (by decide) (off := 778) rfl rfl (lc_more hX hh hI next)
          | 20, _ => exact z_tsIn 844 dL_law_33 (by decide) (by decide) (off := 811) rfl rfl (lc_swap hX hh hI next)
          | 21, _ => exact z_tsIn 867 dL_law_33 (by decide) (by decide) (off := 834) rfl rfl (lc_shed hX hh hI next)
          | 22, _ => exact z_tsIn 900 dL_law_33 (by decide) (by decide) (off := 867) rfl rfl (lc_need hX hh hI next)
          | 23, _ => exact z_tsIn 933 dL_law_33 (by decide) (by decide) (off := 900) rfl rfl (lc_kind hX hh hI next)
          | 24, _ => exact z_tsIn 976 dL_law_33 (by decide) (by decide) (off := 943) rfl rfl (lc_luck hX hh hI next)
          | 25, _ => exact z_tsIn 1040 dL_law_33 (by decide) (by decide) (off := 1007) rfl rfl (lc_mean hX hh hI next)
          | 26, _ => exact z_tsIn 1084 dL_law_33 (by decide) (by decide) (off := 1051) rfl rfl (lc_see hX hh hI next)
          | 27, _ => exact z_tsIn 1127 dL_law_33 (by decide) (by decide) (off := 1094) rfl rfl (lc_forget hX hh hI next)
          | 28, _ => exact z_tsIn 1150 dL_law_33 (by decide) (by decide) (off := 1117) rfl rfl (lc_kinds hX hh hI next)
          | 29, _ => exact z_tsIn 1173 dL_law_33 (by decide) (by decide) (off := 1140) rfl rfl (lc_drops hX hh hI next)
          | 30, _ => exact z_tsIn 1206 dL_law_33 (by decide) (by decide) (off := 1173) rfl rfl (lc_ask hX hh hI next)
          | 31, _ => exact z_tsIn 1239 dL_law_33 (by decide) (by decide) (off := 1206) rfl rfl (lc_drift hX hh hI next)
          | 32, _ => exact z_tsIn 1282 dL_law_33 (by decide) (by decide) (off := 1249) rfl rfl (lc_keep hX hh hI next)
          | 33, _ => exact z_tsIn 1305 dL_law_33 (by decide) (by decide) (off := 1272) rfl rfl (lc_back hX hh hI next)
          | 34, _ => exact z_tsIn 1328 dL_law_33 (by decide) (by decide) (off := 1295) rfl rfl (lc_sheet hX hh hI next)
          | 35, _ => exact z_tsIn 1371 dL_law_33 (by decide) (by decide) (off := 1338) rfl rfl (lc_lay hX hh hI next)
          | 36, _ => exact z_tsIn 1414 dL_law_33 (by decide) (by decide) (off := 1381) rfl rfl (lc_read hX hh hI next)
          | 37, _ => exact z_tsIn 1467 dL_law_33 (by decide) (by decide) (off := 1434) rfl rfl (lc_torn hX hh hI next)
          | 38, _ => exact z_tsIn 1480 dL_law_33 (by decide) (by decide) (off := 1447) rfl rfl (lc_count hX hh hI next)
          | r + 39, h => omega
        · refine z_tsOut 1503 dL_law_33 (Or.inr (by rw [nI_toInt (by omega)]; omega)) rfl ?_
          exact next σ hI
    · refine z_icmp_gt_t 1509 dL_law_24 rfl (lw_lt (by omega) hL hj) ?_
      exact fin σ j
end LC

-- part 82: the law's cases (printed by wip/whole/gen/p82.py)
/-- the law answers 1 -/
def lwE : Option Int → Nat → aM → aR → Prop := fun v _ _ _ => v = some 1
def lwV (i : Int) : List (Nat × Value) := [(0, .ref 0), (1, .ref 1), (2, .ref 58), (3, iI i)]
/-- the law at pc, both sides made -/
def AL (L : Nat) (xs : Int → Int) (ck sk pc : Nat) (i : Int) (st : List Value) (mi : aM) (mr : aR) : Prop := AW RL cL_law 4 20 false 600000 7302250 (some (L, xs)) lwE 94 pc (lwV i) st mi mr ck sk
section ALR
variable {own : String} {cc : ByteArray} {nL d : Nat} {ini : Bool} {kc ks : Nat} {xo : Option (Nat × (Int → Int))} {Po : Option Int → Nat → aM → aR → Prop} {n pc : Nat} {lv : List (Nat × Value)} {st : List Value} {mi : aM} {mr : aR} {ck sk : Nat}
theorem aw_c1 {y : MethodName} {ccg : ByteArray} {nLg dg idx na : Nat} {rtg : Option FieldType} {a ci N : Nat} {F : u_T} {As st0 : List Value} {PC : Option Int → Nat → aM → aR → Prop} (hcal : aCalV own idx y ccg nLg rtg na) (hM : SPg y ccg nLg rtg dg (.ref a :: As) mi mr PC) (hs : SH a = (0, ci)) (hc : vwCl[ci]? = some (y.cls, F, N)) (ha : 0 < a ∧ a ≤ 94) (hna : As.length = na) (hst9 : st0 = As.reverse ++ .ref a :: st) (hr : (st.map fun v => v.category).sum ≤ 8) (hdd : dg + 1 ≤ d) (hnl : nLg ≤ 40) (hck : ck ≤ kc) (hsk : sk ≤ ks) (hd : decode cc pc = .ok (.invokevirtual idx, 3)) (k : ∀ (v : Option Int) (n' : Nat) (m : aM) (s : aR), PC v n' m s → ∃ r : Int, v = some r ∧ n' = 94 ∧ AW own cc nL d ini kc ks xo Po 94 (pc + 3) lv (iI r :: st) m s ck sk) : AW own cc nL d ini kc ks xo Po 94 pc lv st0 mi mr ck sk := by
  refine aw_callV hcal hM hs hc ha hna hst9 hr hdd hnl (by omega) (by omega) hd (fun v n' mi' mr' h => ?_)
  obtain ⟨r, h1, h2, h3⟩ := k v n' mi' mr' h
  subst h1 h2
  exact h3
theorem aw_same {x off : Int} {tgt : Nat} (hd : decode cc pc = .ok (.if_icmp .eq off, 3)) (ht : (pc : Int) + off = (tgt : Int)) (k : AW own cc nL d ini kc ks xo Po n tgt lv st mi mr ck sk) : AW own cc nL d ini kc ks xo Po n pc lv (iI x :: iI x :: st) mi mr ck sk := by
  intro p l e R s m args below meth c H locs ls D cA b base Q C I S L T
  exact lv_icmp_eq (x := Int32.ofInt x) (y := Int32.ofInt x) (rest := (st.map (cv b base))) C.1 C.2.1 hd ht (fun _ => k p l e R s m args below meth c H locs ls D cA b base Q C I S L T) (fun q => absurd rfl q)
end ALR
section CASES
variable {L : Nat} {xs : Int → Int} {ck sk : Nat} {i : Int} {mi : aM} {mr : aR} {E : Int → Nat}
theorem lc_0 (hx : ∀ j : Int, -2147483648 ≤ xs j ∧ xs j ≤ 2147483647) (hi : 0 ≤ i ∧ i + 6 ≤ L) (hL9 : L ≤ 2147483647) (hck : ck ≤ 600000) (hsk : sk ≤ 7302250) (h : RS mi mr E) (kx : ∀ (m : aM) (s : aR) (F : Int → Nat), RS m s F → AL L xs ck sk 1523 i [] m s) : AL L xs ck sk 236 i [] mi mr := by
  unfold AL lwV at kx ⊢
  obtain ⟨PC, hC, hk⟩ := o_addBell h (hx (i + 1)) (hx (i + 2)) (hx (i + 3)) (hx (i + 4))
  refine aw_aload_n (i := 1) (q := 1) dL_law_236 rfl rfl ?_
  refine aw_aload_n (i := 0) (q := 0) dL_law_237 rfl rfl ?_
  refine aw_iload_n (i := 3) (q := 3) dL_law_238 rfl rfl ?_
  refine aw_iconst dL_law_239 ?_
  refine aw_iadd dL_law_240 ?_
  refine aw_sld rfl ⟨by omega, by omega⟩ hL9 dL_law_241 ?_
  refine aw_aload_n (i := 0) (q := 0) dL_law_242 rfl rfl ?_
  refine aw_iload_n (i := 3) (q := 3) dL_law_243 rfl rfl ?_
  refine aw_iconst dL_law_244 ?_
  refine aw_iadd dL_law_245 ?_
  refine aw_sld rfl ⟨by omega, by omega⟩ hL9 dL_law_246 ?_
  refine aw_aload_n (i := 0) (q := 0) dL_law_247 rfl rfl ?_
  refine aw_iload_n (i := 3) (q := 3) dL_law_248 rfl rfl ?_
  refine aw_iconst dL_law_249 ?_
  refine aw_iadd dL_law_250 ?_
  refine aw_sld rfl ⟨by omega, by omega⟩ hL9 dL_law_251 ?_
  refine aw_aload_n (i := 0) (q := 0) dL_law_252 rfl rfl ?_
  refine aw_iload_n (i := 3) (q := 3) dL_law_253 rfl rfl ?_
  refine aw_iconst dL_law_254 ?_
  refine aw_iadd dL_law_255 ?_
  refine aw_sld rfl ⟨by omega, by omega⟩ hL9 dL_law_256 ?_
  refine aw_c1 (As := [iI (xs (i + 1)), iI (xs (i + 2)), iI (xs (i + 3)), iI (xs (i + 4))]) (st := []) clL_13 hC SH_1 rfl (by decide) rfl rfl (Nat.le_of_ble_eq_true rfl) (by decide) (by decide) hck hsk dL_law_257 (fun v n1 m s hp => ?_)
  obtain ⟨r, e1, e2, PM, hM, hk2⟩ := hk v n1 m s hp
  refine ⟨r, e1, e2, ?_⟩
  refine aw_aload_n (i := 2) (q := 2) dL_law_260 rfl rfl ?_
  refine aw_aload_n (i := 0) (q := 0) dL_law_261 rfl rfl ?_
  refine aw_iload_n (i := 3) (q := 3) dL_law_262 rfl rfl ?_
  refine aw_iconst dL_law_263 ?_
  refine aw_iadd dL_law_264 ?_
  refine aw_sld rfl ⟨by omega, by omega⟩ hL9 dL_law_265 ?_
  refine aw_aload_n (i := 0) (q := 0) dL_law_266 rfl rfl ?_
  refine aw_iload_n (i := 3) (q := 3) dL_law_267 rfl rfl ?_
  refine aw_iconst dL_law_268 ?_
  refine aw_iadd dL_law_269 ?_
  refine aw_sld rfl ⟨by omega, by omega⟩ hL9 dL_law_270 ?_
  refine aw_aload_n (i := 0) (q := 0) dL_law_271 rfl rfl ?_
  refine aw_iload_n (i := 3) (q := 3) dL_law_272 rfl rfl ?_
  refine aw_iconst dL_law_273 ?_
  refine aw_iadd dL_law_274 ?_
  refine aw_sld rfl ⟨by omega, by omega⟩ hL9 dL_law_275 ?_
  refine aw_aload_n (i := 0) (q := 0) dL_law_276 rfl rfl ?_
  refine aw_iload_n (i := 3) (q := 3) dL_law_277 rfl rfl ?_
  refine aw_iconst dL_law_278 ?_
  refine aw_iadd dL_law_279 ?_
  refine aw_sld rfl ⟨by omega, by omega⟩ hL9 dL_law_280 ?_
  refine aw_c1 (As := [iI (xs (i + 1)), iI (xs (i + 2)), iI (xs (i + 3)), iI (xs (i + 4))]) (st := [iI r]) clL_17 hM SH_58 rfl (by decide) rfl rfl (Nat.le_of_ble_eq_true rfl) (by decide) (by decide) hck hsk dL_law_281 (fun v2 n2 m2 s2 hq => ?_)
  obtain ⟨e3, e4, F, h9⟩ := hk2 v2 n2 m2 s2 hq
  refine ⟨r, e3, e4, ?_⟩
  exact aw_same dL_law_284 (by decide) (kx m2 s2 F h9)
theorem lc_1 (hx : ∀ j : Int, -2147483648 ≤ xs j ∧ xs j ≤ 2147483647) (hi : 0 ≤ i ∧ i + 6 ≤ L) (hL9 : L ≤ 2147483647) (hck : ck ≤ 600000) (hsk : sk ≤ 7302250) (h : RS mi mr E) (kx : ∀ (m : aM) (s : aR) (F : Int → Nat), RS m s F → AL L xs ck sk 1523 i [] m s) : AL L xs ck sk 289 i [] mi mr := by
  unfold AL lwV at kx ⊢
  obtain ⟨PC, hC, hk⟩ := o_bellCount h
  refine aw_aload_n (i := 1) (q := 1) dL_law_289 rfl rfl ?_
  refine aw_c1 (As := []) (st := []) clL_18 hC SH_1 rfl (by decide) rfl rfl (Nat.le_of_ble_eq_true rfl) (by decide) (by decide) hck hsk dL_law_290 (fun v n1 m s hp => ?_)
  obtain ⟨r, e1, e2, PM, hM, hk2⟩ := hk v n1 m s hp
  refine ⟨r, e1, e2, ?_⟩
  refine aw_aload_n (i := 2) (q := 2) dL_law_293 rfl rfl ?_
  refine aw_c1 (As := []) (st := [iI r]) clL_22 hM SH_58 rfl (by decide) rfl rfl (Nat.le_of_ble_eq_true rfl) (by decide) (by decide) hck hsk dL_law_294 (fun v2 n2 m2 s2 hq => ?_)
  obtain ⟨e3, e4, F, h9⟩ := hk2 v2 n2 m2 s2 hq
  refine ⟨r, e3, e4, ?_⟩
  exact aw_same dL_law_297 (by decide) (kx m2 s2 F h9)
theorem lc_2 (hx : ∀ j : Int, -2147483648 ≤ xs j ∧ xs j ≤ 2147483647) (hi : 0 ≤ i ∧ i + 6 ≤ L) (hL9 : L ≤ 2147483647) (hck : ck ≤ 600000) (hsk : sk ≤ 7302250) (h : RS mi mr E) (kx : ∀ (m : aM) (s : aR) (F : Int → Nat), RS m s F → AL L xs ck sk 1523 i [] m s) : AL L xs ck sk 302 i [] mi mr := by
  unfold AL lwV at kx ⊢
  obtain ⟨PC, hC, hk⟩ := o_delay h (hx (i + 1))
  refine aw_aload_n (i := 1) (q := 1) dL_law_302 rfl rfl ?_
  refine aw_aload_n (i := 0) (q := 0) dL_law_303 rfl rfl ?_
  refine aw_iload_n (i := 3) (q := 3) dL_law_304 rfl rfl ?_
  refine aw_iconst dL_law_305 ?_
  refine aw_iadd dL_law_306 ?_
  refine aw_sld rfl ⟨by omega, by omega⟩ hL9 dL_law_307 ?_
  refine aw_c1 (As := [iI (xs (i + 1))]) (st := []) clL_23 hC SH_1 rfl (by decide) rfl rfl (Nat.le_of_ble_eq_true rfl) (by decide) (by decide) hck hsk dL_law_308 (fun v n1 m s hp => ?_)
  obtain ⟨r, e1, e2, PM, hM, hk2⟩ := hk v n1 m s hp
  refine ⟨r, e1, e2, ?_⟩
  refine aw_aload_n (i := 2) (q := 2) dL_law_311 rfl rfl ?_
  refine aw_aload_n (i := 0) (q := 0) dL_law_312 rfl rfl ?_
  refine aw_iload_n (i := 3) (q := 3) dL_law_313 rfl rfl ?_
  refine aw_iconst dL_law_314 ?_
  refine aw_iadd dL_law_315 ?_
  refine aw_sld rfl ⟨by omega, by omega⟩ hL9 dL_law_316 ?_
  refine aw_c1 (As := [iI (xs (i + 1))]) (st := [iI r]) clL_27 hM SH_58 rfl (by decide) rfl rfl (Nat.le_of_ble_eq_true rfl) (by decide) (by decide) hck hsk dL_law_317 (fun v2 n2 m2 s2 hq => ?_)
  obtain ⟨e3, e4, F, h9⟩ := hk2 v2 n2 m2 s2 hq
  refine ⟨r, e3, e4, ?_⟩
  exact aw_same dL_law_320 (by decide) (kx m2 s2 F h9)
theorem lc_3 (hx : ∀ j : Int, -2147483648 ≤ xs j ∧ xs j ≤ 2147483647) (hi : 0 ≤ i ∧ i + 6 ≤ L) (hL9 : L ≤ 2147483647) (hck : ck ≤ 600000) (hsk : sk ≤ 7302250) (h : RS mi mr E) (kx : ∀ (m : aM) (s : aR) (F : Int → Nat), RS m s F → AL L xs ck sk 1523 i [] m s) : AL L xs ck sk 325 i [] mi mr := by
  unfold AL lwV at kx ⊢
  obtain ⟨PC, hC, hk⟩ := o_calibrate h (hx (i + 1)) (hx (i + 2))
  refine aw_aload_n (i := 1) (q := 1) dL_law_325 rfl rfl ?_
  refine aw_aload_n (i := 0) (q := 0) dL_law_326 rfl rfl ?_
  refine aw_iload_n (i := 3) (q := 3) dL_law_327 rfl rfl ?_
  refine aw_iconst dL_law_328 ?_
  refine aw_iadd dL_law_329 ?_
  refine aw_sld rfl ⟨by omega, by omega⟩ hL9 dL_law_330 ?_
  refine aw_aload_n (i := 0) (q := 0) dL_law_331 rfl rfl ?_
  refine aw_iload_n (i := 3) (q := 3) dL_law_332 rfl rfl ?_
  refine aw_iconst dL_law_333 ?_
  refine aw_iadd dL_law_334 ?_
  refine aw_sld rfl ⟨by omega, by omega⟩ hL9 dL_law_335 ?_
  refine aw_c1 (As := [iI (xs (i + 1)), iI (xs (i + 2))]) (st := []) clL_28 hC SH_1 rfl (by decide) rfl rfl (Nat.le_of_ble_eq_true rfl) (by decide) (by decide) hck hsk dL_law_336 (fun v n1 m s hp => ?_)
  obtain ⟨r, e1, e2, PM, hM, hk2⟩ := hk v n1 m s hp
  refine ⟨r, e1, e2, ?_⟩
  refine aw_aload_n (i := 2) (q := 2) dL_law_339 rfl rfl ?_
  refine aw_aload_n (i := 0) (q := 0) dL_law_340 rfl rfl ?_
  refine aw_iload_n (i := 3) (q := 3) dL_law_341 rfl rfl ?_
  refine aw_iconst dL_law_342 ?_
  refine aw_iadd dL_law_343 ?_
  refine aw_sld rfl ⟨by omega, by omega⟩ hL9 dL_law_344 ?_
  refine aw_aload_n (i := 0) (q := 0) dL_law_345 rfl rfl ?_
  refine aw_iload_n (i := 3) (q := 3) dL_law_346 rfl rfl ?_
  refine aw_iconst dL_law_347 ?_
  refine aw_iadd dL_law_348 ?_
  refine aw_sld rfl ⟨by omega, by omega⟩ hL9 dL_law_349 ?_
  refine aw_c1 (As := [iI (xs (i + 1)), iI (xs (i + 2))]) (st := [iI r]) clL_32 hM SH_58 rfl (by decide) rfl rfl (Nat.le_of_ble_eq_true rfl) (by decide) (by decide) hck hsk dL_law_350 (fun v2 n2 m2 s2 hq => ?_)
  obtain ⟨e3, e4, F, h9⟩ := hk2 v2 n2 m2 s2 hq
  refine ⟨r, e3, e4, ?_⟩
  exact aw_same dL_law_353 (by decide) (kx m2 s2 F h9)
theorem lc_4 (hx : ∀ j : Int, -2147483648 ≤ xs j ∧ xs j ≤ 2147483647) (hi : 0 ≤ i ∧ i + 6 ≤ L) (hL9 : L ≤ 2147483647) (hck : ck ≤ 600000) (hsk : sk ≤ 7302250) (h : RS mi mr E) (kx : ∀ (m : aM) (s : aR) (F : Int → Nat), RS m s F → AL L xs ck sk 1523 i [] m s) : AL L xs ck sk 358 i [] mi mr := by
  unfold AL lwV at kx ⊢
  obtain ⟨PC, hC, hk⟩ := o_setPowerLimit h (hx (i + 1))
  refine aw_aload_n (i := 1) (q := 1) dL_law_358 rfl rfl ?_
  refine aw_aload_n (i := 0) (q := 0) dL_law_359 rfl rfl ?_
  refine aw_iload_n (i := 3) (q := 3) dL_law_360 rfl rfl ?_
  refine aw_iconst dL_law_361 ?_
  refine aw_iadd dL_law_362 ?_
  refine aw_sld rfl ⟨by omega, by omega⟩ hL9 dL_law_363 ?_
  refine aw_c1 (As := [iI (xs (i + 1))]) (st := []) clL_33 hC SH_1 rfl (by decide) rfl rfl (Nat.le_of_ble_eq_true rfl) (by decide) (by decide) hck hsk dL_law_364 (fun v n1 m s hp => ?_)
  obtain ⟨r, e1, e2, PM, hM, hk2⟩ := hk v n1 m s hp
  refine ⟨r, e1, e2, ?_⟩
  refine aw_aload_n (i := 2) (q := 2) dL_law_367 rfl rfl ?_
  refine aw_aload_n (i := 0) (q := 0) dL_law_368 rfl rfl ?_
  refine aw_iload_n (i := 3) (q := 3) dL_law_369 rfl rfl ?_
  refine aw_iconst dL_law_370 ?_
  refine aw_iadd dL_law_371 ?_
  refine aw_sld rfl ⟨by omega, by omega⟩ hL9 dL_law_372 ?_
  refine aw_c1 (As := [iI (xs (i + 1))]) (st := [iI r]) clL_36 hM SH_58 rfl (by decide) rfl rfl (Nat.le_of_ble_eq_true rfl) (by decide) (by decide) hck hsk dL_law_373 (fun v2 n2 m2 s2 hq => ?_)
  obtain ⟨e3, e4, F, h9⟩ := hk2 v2 n2 m2 s2 hq
  refine ⟨r, e3, e4, ?_⟩
  exact aw_same dL_law_376 (by decide) (kx m2 s2 F h9)
theorem lc_5 (hx : ∀ j : Int, -2147483648 ≤ xs j ∧ xs j ≤ 2147483647) (hi : 0 ≤ i ∧ i + 6 ≤ L) (hL9 : L ≤ 2147483647) (hck : ck ≤ 600000) (hsk : sk ≤ 7302250) (h : RS mi mr E) (kx : ∀ (m : aM) (s : aR) (F : Int → Nat), RS m s F → AL L xs ck sk 1523 i [] m s) : AL L xs ck sk 381 i [] mi mr := by
  unfold AL lwV at kx ⊢
  obtain ⟨PC, hC, hk⟩ := o_currentTime h
  refine aw_aload_n (i := 1) (q := 1) dL_law_381 rfl rfl ?_
  refine aw_c1 (As := []) (st := []) clL_37 hC SH_1 rfl (by decide) rfl rfl (Nat.le_of_ble_eq_true rfl) (by decide) (by decide) hck hsk dL_law_382 (fun v n1 m s hp => ?_)
  obtain ⟨r, e1, e2, PM, hM, hk2⟩ := hk v n1 m s hp
  refine ⟨r, e1, e2, ?_⟩
  refine aw_aload_n (i := 2) (q := 2) dL_law_385 rfl rfl ?_
  refine aw_c1 (As := []) (st := [iI r]) clL_40 hM SH_58 rfl (by decide) rfl rfl (Nat.le_of_ble_eq_true rfl) (by decide) (by decide) hck hsk dL_law_386 (fun v2 n2 m2 s2 hq => ?_)
  obtain ⟨e3, e4, F, h9⟩ := hk2 v2 n2 m2 s2 hq
  refine ⟨r, e3, e4, ?_⟩
  exact aw_same dL_law_389 (by decide) (kx m2 s2 F h9)
theorem lc_6 (hx : ∀ j : Int, -2147483648 ≤ xs j ∧ xs j ≤ 2147483647) (hi : 0 ≤ i ∧ i + 6 ≤ L) (hL9 : L ≤ 2147483647) (hck : ck ≤ 600000) (hsk : sk ≤ 7302250) (h : RS mi mr E) (kx : ∀ (m : aM) (s : aR) (F : Int → Nat), RS m s F → AL L xs ck sk 1523 i [] m s) : AL L xs ck sk 394 i [] mi mr := by
  unfold AL lwV at kx ⊢
  obtain ⟨PC, hC, hk⟩ := o_advance h (hx (i + 1))
  refine aw_aload_n (i := 1) (q := 1) dL_law_394 rfl rfl ?_
  refine aw_aload_n (i := 0) (q := 0) dL_law_395 rfl rfl ?_
  refine aw_iload_n (i := 3) (q := 3) dL_law_396 rfl rfl ?_
  refine aw_iconst dL_law_397 ?_
  refine aw_iadd dL_law_398 ?_
  refine aw_sld rfl ⟨by omega, by omega⟩ hL9 dL_law_399 ?_
  refine aw_c1 (As := [iI (xs (i + 1))]) (st := []) clL_41 hC SH_1 rfl (by decide) rfl rfl (Nat.le_of_ble_eq_true rfl) (by decide) (by decide) hck hsk dL_law_400 (fun v n1 m s hp => ?_)
  obtain ⟨r, e1, e2, PM, hM, hk2⟩ := hk v n1 m s hp
  refine ⟨r, e1, e2, ?_⟩
  refine aw_aload_n (i := 2) (q := 2) dL_law_403 rfl rfl ?_
  refine aw_aload_n (i := 0) (q := 0) dL_law_404 rfl rfl ?_
  refine aw_iload_n (i := 3) (q := 3) dL_law_405 rfl rfl ?_
  refine aw_iconst dL_law_406 ?_
  refine aw_iadd dL_law_407 ?_
  refine aw_sld rfl ⟨by omega, by omega⟩ hL9 dL_law_408 ?_
  refine aw_c1 (As := [iI (xs (i + 1))]) (st := [iI r]) clL_44 hM SH_58 rfl (by decide) rfl rfl (Nat.le_of_ble_eq_true rfl) (by decide) (by decide) hck hsk dL_law_409 (fun v2 n2 m2 s2 hq => ?_)
  obtain ⟨e3, e4, F, h9⟩ := hk2 v2 n2 m2 s2 hq
  refine ⟨r, e3, e4, ?_⟩
  exact aw_same dL_law_412 (by decide) (kx m2 s2 F h9)
theorem lc_7 (hx : ∀ j : Int, -2147483648 ≤ xs j ∧ xs j ≤ 2147483647) (hi : 0 ≤ i ∧ i + 6 ≤ L) (hL9 : L ≤ 2147483647) (hck : ck ≤ 600000) (hsk : sk ≤ 7302250) (h : RS mi mr E) (kx : ∀ (m : aM) (s : aR) (F : Int → Nat), RS m s F → AL L xs ck sk 1523 i [] m s) : AL L xs ck sk 417 i [] mi mr := by
  unfold AL lwV at kx ⊢
  obtain ⟨PC, hC, hk⟩ := o_recordLength h
  refine aw_aload_n (i := 1) (q := 1) dL_law_417 rfl rfl ?_
  refine aw_c1 (As := []) (st := []) clL_45 hC SH_1 rfl (by decide) rfl rfl (Nat.le_of_ble_eq_true rfl) (by decide) (by decide) hck hsk dL_law_418 (fun v n1 m s hp => ?_)
  obtain ⟨r, e1, e2, PM, hM, hk2⟩ := hk v n1 m s hp
  refine ⟨r, e1, e2, ?_⟩
  refine aw_aload_n (i := 2) (q := 2) dL_law_421 rfl rfl ?_
  refine aw_c1 (As := []) (st := [iI r]) clL_48 hM SH_58 rfl (by decide) rfl rfl (Nat.le_of_ble_eq_true rfl) (by decide) (by decide) hck hsk dL_law_422 (fun v2 n2 m2 s2 hq => ?_)
  obtain ⟨e3, e4, F, h9⟩ := hk2 v2 n2 m2 s2 hq
  refine ⟨r, e3, e4, ?_⟩
  exact aw_same dL_law_425 (by decide) (kx m2 s2 F h9)
theorem lc_8 (hx : ∀ j : Int, -2147483648 ≤ xs j ∧ xs j ≤ 2147483647) (hi : 0 ≤ i ∧ i + 6 ≤ L) (hL9 : L ≤ 2147483647) (hck : ck ≤ 600000) (hsk : sk ≤ 7302250) (h : RS mi mr E) (kx : ∀ (m : aM) (s : aR) (F : Int → Nat), RS m s F → AL L xs ck sk 1523 i [] m s) : AL L xs ck sk 430 i [] mi mr := by
  unfold AL lwV at kx ⊢
  obtain ⟨PC, hC, hk⟩ := o_recordBell h (hx (i + 1))
  refine aw_aload_n (i := 1) (q := 1) dL_law_430 rfl rfl ?_
  refine aw_aload_n (i := 0) (q := 0) dL_law_431 rfl rfl ?_
  refine aw_iload_n (i := 3) (q := 3) dL_law_432 rfl rfl ?_
  refine aw_iconst dL_law_433 ?_
  refine aw_iadd dL_law_434 ?_
  refine aw_sld rfl ⟨by omega, by omega⟩ hL9 dL_law_435 ?_
  refine aw_c1 (As := [iI (xs (i + 1))]) (st := []) clL_49 hC SH_1 rfl (by decide) rfl rfl (Nat.le_of_ble_eq_true rfl) (by decide) (by decide) hck hsk dL_law_436 (fun v n1 m s hp => ?_)
  obtain ⟨r, e1, e2, PM, hM, hk2⟩ := hk v n1 m s hp
  refine ⟨r, e1, e2, ?_⟩
  refine aw_aload_n (i := 2) (q := 2) dL_law_439 rfl rfl ?_
  refine aw_aload_n (i := 0) (q := 0) dL_law_440 rfl rfl ?_
  refine aw_iload_n (i := 3) (q := 3) dL_law_441 rfl rfl ?_
  refine aw_iconst dL_law_442 ?_
  refine aw_iadd dL_law_443 ?_
  refine aw_sld rfl ⟨by omega, by omega⟩ hL9 dL_law_444 ?_
  refine aw_c1 (As := [iI (xs (i + 1))]) (st := [iI r]) clL_52 hM SH_58 rfl (by decide) rfl rfl (Nat.le_of_ble_eq_true rfl) (by decide) (by decide) hck hsk dL_law_445 (fun v2 n2 m2 s2 hq => ?_)
  obtain ⟨e3, e4, F, h9⟩ := hk2 v2 n2 m2 s2 hq
  refine ⟨r, e3, e4, ?_⟩
  exact aw_same dL_law_448 (by decide) (kx m2 s2 F h9)
theorem lc_9 (hx : ∀ j : Int, -2147483648 ≤ xs j ∧ xs j ≤ 2147483647) (hi : 0 ≤ i ∧ i + 6 ≤ L) (hL9 : L ≤ 2147483647) (hck : ck ≤ 600000) (hsk : sk ≤ 7302250) (h : RS mi mr E) (kx : ∀ (m : aM) (s : aR) (F : Int → Nat), RS m s F → AL L xs ck sk 1523 i [] m s) : AL L xs ck sk 453 i [] mi mr := by
  unfold AL lwV at kx ⊢
  obtain ⟨PC, hC, hk⟩ := o_recordTime h (hx (i + 1))
  refine aw_aload_n (i := 1) (q := 1) dL_law_453 rfl rfl ?_
  refine aw_aload_n (i := 0) (q := 0) dL_law_454 rfl rfl ?_
  refine aw_iload_n (i := 3) (q := 3) dL_law_455 rfl rfl ?_
  refine aw_iconst dL_law_456 ?_
  refine aw_iadd dL_law_457 ?_
  refine aw_sld rfl ⟨by omega, by omega⟩ hL9 dL_law_458 ?_
  refine aw_c1 (As := [iI (xs (i + 1))]) (st := []) clL_53 hC SH_1 rfl (by decide) rfl rfl (Nat.le_of_ble_eq_true rfl) (by decide) (by decide) hck hsk dL_law_459 (fun v n1 m s hp => ?_)
  obtain ⟨r, e1, e2, PM, hM, hk2⟩ := hk v n1 m s hp
  refine ⟨r, e1, e2, ?_⟩
  refine aw_aload_n (i := 2) (q := 2) dL_law_462 rfl rfl ?_
  refine aw_aload_n (i := 0) (q := 0) dL_law_463 rfl rfl ?_
  refine aw_iload_n (i := 3) (q := 3) dL_law_464 rfl rfl ?_
  refine aw_iconst dL_law_465 ?_
  refine aw_iadd dL_law_466 ?_
  refine aw_sld rfl ⟨by omega, by omega⟩ hL9 dL_law_467 ?_
  refine aw_c1 (As := [iI (xs (i + 1))]) (st := [iI r]) clL_56 hM SH_58 rfl (by decide) rfl rfl (Nat.le_of_ble_eq_true rfl) (by decide) (by decide) hck hsk dL_law_468 (fun v2 n2 m2 s2 hq => ?_)
  obtain ⟨e3, e4, F, h9⟩ := hk2 v2 n2 m2 s2 hq
  refine ⟨r, e3, e4, ?_⟩
  exact aw_same dL_law_471 (by decide) (kx m2 s2 F h9)
theorem lc_10 (hx : ∀ j : Int, -2147483648 ≤ xs j ∧ xs j ≤ 2147483647) (hi : 0 ≤ i ∧ i + 6 ≤ L) (hL9 : L ≤ 2147483647) (hck : ck ≤ 600000) (hsk : sk ≤ 7302250) (h : RS mi mr E) (kx : ∀ (m : aM) (s : aR) (F : Int → Nat), RS m s F → AL L xs ck sk 1523 i [] m s) : AL L xs ck sk 476 i [] mi mr := by
  unfold AL lwV at kx ⊢
  obtain ⟨PC, hC, hk⟩ := o_recordClapper h (hx (i + 1))
  refine aw_aload_n (i := 1) (q := 1) dL_law_476 rfl rfl ?_
  refine aw_aload_n (i := 0) (q := 0) dL_law_477 rfl rfl ?_
  refine aw_iload_n (i := 3) (q := 3) dL_law_478 rfl rfl ?_
  refine aw_iconst dL_law_479 ?_
  refine aw_iadd dL_law_480 ?_
  refine aw_sld rfl ⟨by omega, by omega⟩ hL9 dL_law_481 ?_
  refine aw_c1 (As := [iI (xs (i + 1))]) (st := []) clL_57 hC SH_1 rfl (by decide) rfl rfl (Nat.le_of_ble_eq_true rfl) (by decide) (by decide) hck hsk dL_law_482 (fun v n1 m s hp => ?_)
  obtain ⟨r, e1, e2, PM, hM, hk2⟩ := hk v n1 m s hp
  refine ⟨r, e1, e2, ?_⟩
  refine aw_aload_n (i := 2) (q := 2) dL_law_485 rfl rfl ?_
  refine aw_aload_n (i := 0) (q := 0) dL_law_486 rfl rfl ?_
  refine aw_iload_n (i := 3) (q := 3) dL_law_487 rfl rfl ?_
  refine aw_iconst dL_law_488 ?_
  refine aw_iadd dL_law_489 ?_
  refine aw_sld rfl ⟨by omega, by omega⟩ hL9 dL_law_490 ?_
  refine aw_c1 (As := [iI (xs (i + 1))]) (st := [iI r]) clL_60 hM SH_58 rfl (by decide) rfl rfl (Nat.le_of_ble_eq_true rfl) (by decide) (by decide) hck hsk dL_law_491 (fun v2 n2 m2 s2 hq => ?_)
  obtain ⟨e3, e4, F, h9⟩ := hk2 v2 n2 m2 s2 hq
  refine ⟨r, e3, e4, ?_⟩
  exact aw_same dL_law_494 (by decide) (kx m2 s2 F h9)
theorem lc_11 (hx : ∀ j : Int, -2147483648 ≤ xs j ∧ xs j ≤ 2147483647) (hi : 0 ≤ i ∧ i + 6 ≤ L) (hL9 : L ≤ 2147483647) (hck : ck ≤ 600000) (hsk : sk ≤ 7302250) (h : RS mi mr E) (kx : ∀ (m : aM) (s : aR) (F : Int → Nat), RS m s F → AL L xs ck sk 1523 i [] m s) : AL L xs ck sk 499 i [] mi mr := by
  unfold AL lwV at kx ⊢
  obtain ⟨PC, hC, hk⟩ := o_scheduleStroke h (hx (i + 1)) (hx (i + 2))
  refine aw_aload_n (i := 1) (q := 1) dL_law_499 rfl rfl ?_
  refine aw_aload_n (i := 0) (q := 0) dL_law_500 rfl rfl ?_
  refine aw_iload_n (i := 3) (q := 3) dL_law_501 rfl rfl ?_
  refine aw_iconst dL_law_502 ?_
  refine aw_iadd dL_law_503 ?_
  refine aw_sld rfl ⟨by omega, by omega⟩ hL9 dL_law_504 ?_
  refine aw_aload_n (i := 0) (q := 0) dL_law_505 rfl rfl ?_
  refine aw_iload_n (i := 3) (q := 3) dL_law_506 rfl rfl ?_
  refine aw_iconst dL_law_507 ?_
  refine aw_iadd dL_law_508 ?_
  refine aw_sld rfl ⟨by omega, by omega⟩ hL9 dL_law_509 ?_
  refine aw_c1 (As := [iI (xs (i + 1)), iI (xs (i + 2))]) (st := []) clL_61 hC SH_1 rfl (by decide) rfl rfl (Nat.le_of_ble_eq_true rfl) (by decide) (by decide) hck hsk dL_law_510 (fun v n1 m s hp => ?_)
  obtain ⟨r, e1, e2, PM, hM, hk2⟩ := hk v n1 m s hp
  refine ⟨r, e1, e2, ?_⟩
  refine aw_aload_n (i := 2) (q := 2) dL_law_513 rfl rfl ?_
  refine aw_aload_n (i := 0) (q := 0) dL_law_514 rfl rfl ?_
  refine aw_iload_n (i := 3) (q := 3) dL_law_515 rfl rfl ?_
  refine aw_iconst dL_law_516 ?_
  refine aw_iadd dL_law_517 ?_
  refine aw_sld rfl ⟨by omega, by omega⟩ hL9 dL_law_518 ?_
  refine aw_aload_n (i := 0) (q := 0) dL_law_519 rfl rfl ?_
  refine aw_iload_n (i := 3) (q := 3) dL_law_520 rfl rfl ?_
  refine aw_iconst dL_law_521 ?_
  refine aw_iadd dL_law_522 ?_
  refine aw_sld rfl ⟨by omega, by omega⟩ hL9 dL_law_523 ?_
  refine aw_c1 (As := [iI (xs (i + 1)), iI (xs (i + 2))]) (st := [iI r]) clL_64 hM SH_58 rfl (by decide) rfl rfl (Nat.le_of_ble_eq_true rfl) (by decide) (by decide) hck hsk dL_law_524 (fun v2 n2 m2 s2 hq => ?_)
  obtain ⟨e3, e4, F, h9⟩ := hk2 v2 n2 m2 s2 hq
  refine ⟨r, e3, e4, ?_⟩
  exact aw_same dL_law_527 (by decide) (kx m2 s2 F h9)
theorem lc_12 (hx : ∀ j : Int, -2147483648 ≤ xs j ∧ xs j ≤ 2147483647) (hi : 0 ≤ i ∧ i + 6 ≤ L) (hL9 : L ≤ 2147483647) (hck : ck ≤ 600000) (hsk : sk ≤ 7302250) (h : RS mi mr E) (kx : ∀ (m : aM) (s : aR) (F : Int → Nat), RS m s F → AL L xs ck sk 1523 i [] m s) : AL L xs ck sk 532 i [] mi mr := by
  unfold AL lwV at kx ⊢
  obtain ⟨PC, hC, hk⟩ := o_cancelStroke h (hx (i + 1)) (hx (i + 2))
  refine aw_aload_n (i := 1) (q := 1) dL_law_532 rfl rfl ?_
  refine aw_aload_n (i := 0) (q := 0) dL_law_533 rfl rfl ?_
  refine aw_iload_n (i := 3) (q := 3) dL_law_534 rfl rfl ?_
  refine aw_iconst dL_law_535 ?_
  refine aw_iadd dL_law_536 ?_
  refine aw_sld rfl ⟨by omega, by omega⟩ hL9 dL_law_537 ?_
  refine aw_aload_n (i := 0) (q := 0) dL_law_538 rfl rfl ?_
  refine aw_iload_n (i := 3) (q := 3) dL_law_539 rfl rfl ?_
  refine aw_iconst dL_law_540 ?_
  refine aw_iadd dL_law_541 ?_
  refine aw_sld rfl ⟨by omega, by omega⟩ hL9 dL_law_542 ?_
  refine aw_c1 (As := [iI (xs (i + 1)), iI (xs (i + 2))]) (st := []) clL_65 hC SH_1 rfl (by decide) rfl rfl (Nat.le_of_ble_eq_true rfl) (by decide) (by decide) hck hsk dL_law_543 (fun v n1 m s hp => ?_)
  obtain ⟨r, e1, e2, PM, hM, hk2⟩ := hk v n1 m s hp
  refine ⟨r, e1, e2, ?_⟩
  refine aw_aload_n (i := 2) (q := 2) dL_law_546 rfl rfl ?_
  refine aw_aload_n (i := 0) (q := 0) dL_law_547 rfl rfl ?_
  refine aw_iload_n (i := 3) (q := 3) dL_law_548 rfl rfl ?_
  refine aw_iconst dL_law_549 ?_
  refine aw_iadd dL_law_550 ?_
  refine aw_sld rfl ⟨by omega, by omega⟩ hL9 dL_law_551 ?_
  refine aw_aload_n (i := 0) (q := 0) dL_law_552 rfl rfl ?_
  refine aw_iload_n (i := 3) (q := 3) dL_law_553 rfl rfl ?_
  refine aw_iconst dL_law_554 ?_
  refine aw_iadd dL_law_555 ?_
  refine aw_sld rfl ⟨by omega, by omega⟩ hL9 dL_law_556 ?_
  refine aw_c1 (As := [iI (xs (i + 1)), iI (xs (i + 2))]) (st := [iI r]) clL_68 hM SH_58 rfl (by decide) rfl rfl (Nat.le_of_ble_eq_true rfl) (by decide) (by decide) hck hsk dL_law_557 (fun v2 n2 m2 s2 hq => ?_)
  obtain ⟨e3, e4, F, h9⟩ := hk2 v2 n2 m2 s2 hq
  refine ⟨r, e3, e4, ?_⟩
  exact aw_same dL_law_560 (by decide) (kx m2 s2 F h9)
theorem lc_13 (hx : ∀ j : Int, -2147483648 ≤ xs j ∧ xs j ≤ 2147483647) (hi : 0 ≤ i ∧ i + 6 ≤ L) (hL9 : L ≤ 2147483647) (hck : ck ≤ 600000) (hsk : sk ≤ 7302250) (h : RS mi mr E) (kx : ∀ (m : aM) (s : aR) (F : Int → Nat), RS m s F → AL L xs ck sk 1523 i [] m s) : AL L xs ck sk 565 i [] mi mr := by
  unfold AL lwV at kx ⊢
  obtain ⟨PC, hC, hk⟩ := o_scheduledCount h
  refine aw_aload_n (i := 1) (q := 1) dL_law_565 rfl rfl ?_
  refine aw_c1 (As := []) (st := []) clL_69 hC SH_1 rfl (by decide) rfl rfl (Nat.le_of_ble_eq_true rfl) (by decide) (by decide) hck hsk dL_law_566 (fun v n1 m s hp => ?_)
  obtain ⟨r, e1, e2, PM, hM, hk2⟩ := hk v n1 m s hp
  refine ⟨r, e1, e2, ?_⟩
  refine aw_aload_n (i := 2) (q := 2) dL_law_569 rfl rfl ?_
  refine aw_c1 (As := []) (st := [iI r]) clL_72 hM SH_58 rfl (by decide) rfl rfl (Nat.le_of_ble_eq_true rfl) (by decide) (by decide) hck hsk dL_law_570 (fun v2 n2 m2 s2 hq => ?_)
  obtain ⟨e3, e4, F, h9⟩ := hk2 v2 n2 m2 s2 hq
  refine ⟨r, e3, e4, ?_⟩
  exact aw_same dL_law_573 (by decide) (kx m2 s2 F h9)
theorem lc_14 (hx : ∀ j : Int, -2147483648 ≤ xs j ∧ xs j ≤ 2147483647) (hi : 0 ≤ i ∧ i + 6 ≤ L) (hL9 : L ≤ 2147483647) (hck : ck ≤ 600000) (hsk : sk ≤ 7302250) (h : RS mi mr E) (kx : ∀ (m : aM) (s : aR) (F : Int → Nat), RS m s F → AL L xs ck sk 1523 i [] m s) : AL L xs ck sk 578 i [] mi mr := by
  unfold AL lwV at kx ⊢
  obtain ⟨PC, hC, hk⟩ := o_nextStroke h (hx (i + 1))
  refine aw_aload_n (i := 1) (q := 1) dL_law_578 rfl rfl ?_
  refine aw_aload_n (i := 0) (q := 0) dL_law_579 rfl rfl ?_
  refine aw_iload_n (i := 3) (q := 3) dL_law_580 rfl rfl ?_
  refine aw_iconst dL_law_581 ?_
  refine aw_iadd dL_law_582 ?_
  refine aw_sld rfl ⟨by omega, by omega⟩ hL9 dL_law_583 ?_
  refine aw_c1 (As := [iI (xs (i + 1))]) (st := []) clL_73 hC SH_1 rfl (by decide) rfl rfl (Nat.le_of_ble_eq_true rfl) (by decide) (by decide) hck hsk dL_law_584 (fun v n1 m s hp => ?_)
  obtain ⟨r, e1, e2, PM, hM, hk2⟩ := hk v n1 m s hp
  refine ⟨r, e1, e2, ?_⟩
  refine aw_aload_n (i := 2) (q := 2) dL_law_587 rfl rfl ?_
  refine aw_aload_n (i := 0) (q := 0) dL_law_588 rfl rfl ?_
  refine aw_iload_n (i := 3) (q := 3) dL_law_589 rfl rfl ?_
  refine aw_iconst dL_law_590 ?_
  refine aw_iadd dL_law_591 ?_
  refine aw_sld rfl ⟨by omega, by omega⟩ hL9 dL_law_592 ?_
  refine aw_c1 (As := [iI (xs (i + 1))]) (st := [iI r]) clL_76 hM SH_58 rfl (by decide) rfl rfl (Nat.le_of_ble_eq_true rfl) (by decide) (by decide) hck hsk dL_law_593 (fun v2 n2 m2 s2 hq => ?_)
  obtain ⟨e3, e4, F, h9⟩ := hk2 v2 n2 m2 s2 hq
  refine ⟨r, e3, e4, ?_⟩
  exact aw_same dL_law_596 (by decide) (kx m2 s2 F h9)
theorem lc_15 (hx : ∀ j : Int, -2147483648 ≤ xs j ∧ xs j ≤ 2147483647) (hi : 0 ≤ i ∧ i + 6 ≤ L) (hL9 : L ≤ 2147483647) (hck : ck ≤ 600000) (hsk : sk ≤ 7302250) (h : RS mi mr E) (kx : ∀ (m : aM) (s : aR) (F : Int → Nat), RS m s F → AL L xs ck sk 1523 i [] m s) : AL L xs ck sk 601 i [] mi mr := by
  unfold AL lwV at kx ⊢
  obtain ⟨PC, hC, hk⟩ := o_commandTime h (hx (i + 1))
  refine aw_aload_n (i := 1) (q := 1) dL_law_601 rfl rfl ?_
  refine aw_aload_n (i := 0) (q := 0) dL_law_602 rfl rfl ?_
  refine aw_iload_n (i := 3) (q := 3) dL_law_603 rfl rfl ?_
  refine aw_iconst dL_law_604 ?_
  refine aw_iadd dL_law_605 ?_
  refine aw_sld rfl ⟨by omega, by omega⟩ hL9 dL_law_606 ?_
  refine aw_c1 (As := [iI (xs (i + 1))]) (st := []) clL_77 hC SH_1 rfl (by decide) rfl rfl (Nat.le_of_ble_eq_true rfl) (by decide) (by decide) hck hsk dL_law_607 (fun v n1 m s hp => ?_)
  obtain ⟨r, e1, e2, PM, hM, hk2⟩ := hk v n1 m s hp
  refine ⟨r, e1, e2, ?_⟩
  refine aw_aload_n (i := 2) (q := 2) dL_law_610 rfl rfl ?_
  refine aw_aload_n (i := 0) (q := 0) dL_law_611 rfl rfl ?_
  refine aw_iload_n (i := 3) (q := 3) dL_law_612 rfl rfl ?_
  refine aw_iconst dL_law_613 ?_
  refine aw_iadd dL_law_614 ?_
  refine aw_sld rfl ⟨by omega, by omega⟩ hL9 dL_law_615 ?_
  refine aw_c1 (As := [iI (xs (i + 1))]) (st := [iI r]) clL_80 hM SH_58 rfl (by decide) rfl rfl (Nat.le_of_ble_eq_true rfl) (by decide) (by decide) hck hsk dL_law_616 (fun v2 n2 m2 s2 hq => ?_)
  obtain ⟨e3, e4, F, h9⟩ := hk2 v2 n2 m2 s2 hq
  refine ⟨r, e3, e4, ?_⟩
  exact aw_same dL_law_619 (by decide) (kx m2 s2 F h9)
theorem lc_16 (hx : ∀ j : Int, -2147483648 ≤ xs j ∧ xs j ≤ 2147483647) (hi : 0 ≤ i ∧ i + 6 ≤ L) (hL9 : L ≤ 2147483647) (hck : ck ≤ 600000) (hsk : sk ≤ 7302250) (h : RS mi mr E) (kx : ∀ (m : aM) (s : aR) (F : Int → Nat), RS m s F → AL L xs ck sk 1523 i [] m s) : AL L xs ck sk 624 i [] mi mr := by
  unfold AL lwV at kx ⊢
  obtain ⟨PC, hC, hk⟩ := o_commandBell h (hx (i + 1))
  refine aw_aload_n (i := 1) (q := 1) dL_law_624 rfl rfl ?_
  refine aw_aload_n (i := 0) (q := 0) dL_law_625 rfl rfl ?_
  refine aw_iload_n (i := 3) (q := 3) dL_law_626 rfl rfl ?_
  refine aw_iconst dL_law_627 ?_
  refine aw_iadd dL_law_628 ?_
  refine aw_sld rfl ⟨by omega, by omega⟩ hL9 dL_law_629 ?_
  refine aw_c1 (As := [iI (xs (i + 1))]) (st := []) clL_81 hC SH_1 rfl (by decide) rfl rfl (Nat.le_of_ble_eq_true rfl) (by decide) (by decide) hck hsk dL_law_630 (fun v n1 m s hp => ?_)
  obtain ⟨r, e1, e2, PM, hM, hk2⟩ := hk v n1 m s hp
  refine ⟨r, e1, e2, ?_⟩
  refine aw_aload_n (i := 2) (q := 2) dL_law_633 rfl rfl ?_
  refine aw_aload_n (i := 0) (q := 0) dL_law_634 rfl rfl ?_
  refine aw_iload_n (i := 3) (q := 3) dL_law_635 rfl rfl ?_
  refine aw_iconst dL_law_636 ?_
  refine aw_iadd dL_law_637 ?_
  refine aw_sld rfl ⟨by omega, by omega⟩ hL9 dL_law_638 ?_
  refine aw_c1 (As := [iI (xs (i + 1))]) (st := [iI r]) clL_84 hM SH_58 rfl (by decide) rfl rfl (Nat.le_of_ble_eq_true rfl) (by decide) (by decide) hck hsk dL_law_639 (fun v2 n2 m2 s2 hq => ?_)
  obtain ⟨e3, e4, F, h9⟩ := hk2 v2 n2 m2 s2 hq
  refine ⟨r, e3, e4, ?_⟩
  exact aw_same dL_law_642 (by decide) (kx m2 s2 F h9)
theorem lc_17 (hx : ∀ j : Int, -2147483648 ≤ xs j ∧ xs j ≤ 2147483647) (hi : 0 ≤ i ∧ i + 6 ≤ L) (hL9 : L ≤ 2147483647) (hck : ck ≤ 600000) (hsk : sk ≤ 7302250) (h : RS mi mr E) (kx : ∀ (m : aM) (s : aR) (F : Int → Nat), RS m s F → AL L xs ck sk 1523 i [] m s) : AL L xs ck sk 647 i [] mi mr := by
  unfold AL lwV at kx ⊢
  obtain ⟨PC, hC, hk⟩ := o_movingHammers h (hx (i + 1))
  refine aw_aload_n (i := 1) (q := 1) dL_law_647 rfl rfl ?_
  refine aw_aload_n (i := 0) (q := 0) dL_law_648 rfl rfl ?_
  refine aw_iload_n (i := 3) (q := 3) dL_law_649 rfl rfl ?_
  refine aw_iconst dL_law_650 ?_
  refine aw_iadd dL_law_651 ?_
  refine aw_sld rfl ⟨by omega, by omega⟩ hL9 dL_law_652 ?_
  refine aw_c1 (As := [iI (xs (i + 1))]) (st := []) clL_85 hC SH_1 rfl (by decide) rfl rfl (Nat.le_of_ble_eq_true rfl) (by decide) (by decide) hck hsk dL_law_653 (fun v n1 m s hp => ?_)
  obtain ⟨r, e1, e2, PM, hM, hk2⟩ := hk v n1 m s hp
  refine ⟨r, e1, e2, ?_⟩
  refine aw_aload_n (i := 2) (q := 2) dL_law_656 rfl rfl ?_
  refine aw_aload_n (i := 0) (q := 0) dL_law_657 rfl rfl ?_
  refine aw_iload_n (i := 3) (q := 3) dL_law_658 rfl rfl ?_
  refine aw_iconst dL_law_659 ?_
  refine aw_iadd dL_law_660 ?_
  refine aw_sld rfl ⟨by omega, by omega⟩ hL9 dL_law_661 ?_
  refine aw_c1 (As := [iI (xs (i + 1))]) (st := [iI r]) clL_88 hM SH_58 rfl (by decide) rfl rfl (Nat.le_of_ble_eq_true rfl) (by decide) (by decide) hck hsk dL_law_662 (fun v2 n2 m2 s2 hq => ?_)
  obtain ⟨e3, e4, F, h9⟩ := hk2 v2 n2 m2 s2 hq
  refine ⟨r, e3, e4, ?_⟩
  exact aw_same dL_law_665 (by decide) (kx m2 s2 F h9)
theorem lc_18 (hx : ∀ j : Int, -2147483648 ≤ xs j ∧ xs j ≤ 2147483647) (hi : 0 ≤ i ∧ i + 6 ≤ L) (hL9 : L ≤ 2147483647) (hck : ck ≤ 600000) (hsk : sk ≤ 7302250) (h : RS mi mr E) (kx : ∀ (m : aM) (s : aR) (F : Int → Nat), RS m s F → AL L xs ck sk 1523 i [] m s) : AL L xs ck sk 670 i [] mi mr := by
  unfold AL lwV at kx ⊢
  obtain ⟨PC, hC, hk⟩ := o_earliestStroke h (hx (i + 1)) (hx (i + 2))
  refine aw_aload_n (i := 1) (q := 1) dL_law_670 rfl rfl ?_
  refine aw_aload_n (i := 0) (q := 0) dL_law_671 rfl rfl ?_
  refine aw_iload_n (i := 3) (q := 3) dL_law_672 rfl rfl ?_
  refine aw_iconst dL_law_673 ?_
  refine aw_iadd dL_law_674 ?_
  refine aw_sld rfl ⟨by omega, by omega⟩ hL9 dL_law_675 ?_
  refine aw_aload_n (i := 0) (q := 0) dL_law_676 rfl rfl ?_
  refine aw_iload_n (i := 3) (q := 3) dL_law_677 rfl rfl ?_
  refine aw_iconst dL_law_678 ?_
  refine aw_iadd dL_law_679 ?_
  refine aw_sld rfl ⟨by omega, by omega⟩ hL9 dL_law_680 ?_
  refine aw_c1 (As := [iI (xs (i + 1)), iI (xs (i + 2))]) (st := []) clL_89 hC SH_1 rfl (by decide) rfl rfl (Nat.le_of_ble_eq_true rfl) (by decide) (by decide) hck hsk dL_law_681 (fun v n1 m s hp => ?_)
  obtain ⟨r, e1, e2, PM, hM, hk2⟩ := hk v n1 m s hp
  refine ⟨r, e1, e2, ?_⟩
  refine aw_aload_n (i := 2) (q := 2) dL_law_684 rfl rfl ?_
  refine aw_aload_n (i := 0) (q := 0) dL_law_685 rfl rfl ?_
  refine aw_iload_n (i := 3) (q := 3) dL_law_686 rfl rfl ?_
  refine aw_iconst dL_law_687 ?_
  refine aw_iadd dL_law_688 ?_
  refine aw_sld rfl ⟨by omega, by omega⟩ hL9 dL_law_689 ?_
  refine aw_aload_n (i := 0) (q := 0) dL_law_690 rfl rfl ?_
  refine aw_iload_n (i := 3) (q := 3) dL_law_691 rfl rfl ?_
  refine aw_iconst dL_law_692 ?_
  refine aw_iadd dL_law_693 ?_
  refine aw_sld rfl ⟨by omega, by omega⟩ hL9 dL_law_694 ?_
  refine aw_c1 (As := [iI (xs (i + 1)), iI (xs (i + 2))]) (st := [iI r]) clL_92 hM SH_58 rfl (by decide) rfl rfl (Nat.le_of_ble_eq_true rfl) (by decide) (by decide) hck hsk dL_law_695 (fun v2 n2 m2 s2 hq => ?_)
  obtain ⟨e3, e4, F, h9⟩ := hk2 v2 n2 m2 s2 hq
  refine ⟨r, e3, e4, ?_⟩
  exact aw_same dL_law_698 (by decide) (kx m2 s2 F h9)
theorem lc_19 (hx : ∀ j : Int, -2147483648 ≤ xs j ∧ xs j ≤ 2147483647) (hi : 0 ≤ i ∧ i + 6 ≤ L) (hL9 : L ≤ 2147483647) (hck : ck ≤ 600000) (hsk : sk ≤ 7302250) (h : RS mi mr E) (kx : ∀ (m : aM) (s : aR) (F : Int → Nat), RS m s F → AL L xs ck sk 1523 i [] m s) : AL L xs ck sk 703 i [] mi mr := by
  unfold AL lwV at kx ⊢
  obtain ⟨PC, hC, hk⟩ := o_appendBytes h (hx (i + 1)) (hx (i + 2)) (hx (i + 3)) (hx (i + 4)) (hx (i + 5))
  refine aw_aload_n (i := 1) (q := 1) dL_law_703 rfl rfl ?_
  refine aw_aload_n (i := 0) (q := 0) dL_law_704 rfl rfl ?_
  refine aw_iload_n (i := 3) (q := 3) dL_law_705 rfl rfl ?_
  refine aw_iconst dL_law_706 ?_
  refine aw_iadd dL_law_707 ?_
  refine aw_sld rfl ⟨by omega, by omega⟩ hL9 dL_law_708 ?_
  refine aw_aload_n (i := 0) (q := 0) dL_law_709 rfl rfl ?_
  refine aw_iload_n (i := 3) (q := 3) dL_law_710 rfl rfl ?_
  refine aw_iconst dL_law_711 ?_
  refine aw_iadd dL_law_712 ?_
  refine aw_sld rfl ⟨by omega, by omega⟩ hL9 dL_law_713 ?_
  refine aw_aload_n (i := 0) (q := 0) dL_law_714 rfl rfl ?_
  refine aw_iload_n (i := 3) (q := 3) dL_law_715 rfl rfl ?_
  refine aw_iconst dL_law_716 ?_
  refine aw_iadd dL_law_717 ?_
  refine aw_sld rfl ⟨by omega, by omega⟩ hL9 dL_law_718 ?_
  refine aw_aload_n (i := 0) (q := 0) dL_law_719 rfl rfl ?_
  refine aw_iload_n (i := 3) (q := 3) dL_law_720 rfl rfl ?_
  refine aw_iconst dL_law_721 ?_
  refine aw_iadd dL_law_722 ?_
  refine aw_sld rfl ⟨by omega, by omega⟩ hL9 dL_law_723 ?_
  refine aw_aload_n (i := 0) (q := 0) dL_law_724 rfl rfl ?_
  refine aw_iload_n (i := 3) (q := 3) dL_law_725 rfl rfl ?_
  refine aw_iconst dL_law_726 ?_
  refine aw_iadd dL_law_727 ?_
  refine aw_sld rfl ⟨by omega, by omega⟩ hL9 dL_law_728 ?_
  refine aw_c1 (As := [iI (xs (i + 1)), iI (xs (i + 2)), iI (xs (i + 3)), iI (xs (i + 4)), iI (xs (i + 5))]) (st := []) clL_93 hC SH_1 rfl (by decide) rfl rfl (Nat.le_of_ble_eq_true rfl) (by decide) (by decide) hck hsk dL_law_729 (fun v n1 m s hp => ?_)
  obtain ⟨r, e1, e2, PM, hM, hk2⟩ := hk v n1 m s hp
  refine ⟨r, e1, e2, ?_⟩
  refine aw_aload_n (i := 2) (q := 2) dL_law_732 rfl rfl ?_
  refine aw_aload_n (i := 0) (q := 0) dL_law_733 rfl rfl ?_
  refine aw_iload_n (i := 3) (q := 3) dL_law_734 rfl rfl ?_
  refine aw_iconst dL_law_735 ?_
  refine aw_iadd dL_law_736 ?_
  refine aw_sld rfl ⟨by omega, by omega⟩ hL9 dL_law_737 ?_
  refine aw_aload_n (i := 0) (q := 0) dL_law_738 rfl rfl ?_
  refine aw_iload_n (i := 3) (q := 3) dL_law_739 rfl rfl ?_
  refine aw_iconst dL_law_740 ?_
  refine aw_iadd dL_law_741 ?_
  refine aw_sld rfl ⟨by omega, by omega⟩ hL9 dL_law_742 ?_
  refine aw_aload_n (i := 0) (q := 0) dL_law_743 rfl rfl ?_
  refine aw_iload_n (i := 3) (q := 3) dL_law_744 rfl rfl ?_
  refine aw_iconst dL_law_745 ?_
  refine aw_iadd dL_law_746 ?_
  refine aw_sld rfl ⟨by omega, by omega⟩ hL9 dL_law_747 ?_
  refine aw_aload_n (i := 0) (q := 0) dL_law_748 rfl rfl ?_
  refine aw_iload_n (i := 3) (q := 3) dL_law_749 rfl rfl ?_
  refine aw_iconst dL_law_750 ?_
  refine aw_iadd dL_law_751 ?_
  refine aw_sld rfl ⟨by omega, by omega⟩ hL9 dL_law_752 ?_
  refine aw_aload_n (i := 0) (q := 0) dL_law_753 rfl rfl ?_
  refine aw_iload_n (i := 3) (q := 3) dL_law_754 rfl rfl ?_
  refine aw_iconst dL_law_755 ?_
  refine aw_iadd dL_law_756 ?_
  refine aw_sld rfl ⟨by omega, by omega⟩ hL9 dL_law_757 ?_
  refine aw_c1 (As := [iI (xs (i + 1)), iI (xs (i + 2)), iI (xs (i + 3)), iI (xs (i + 4)), iI (xs (i + 5))]) (st := [iI r]) clL_97 hM SH_58 rfl (by decide) rfl rfl (Nat.le_of_ble_eq_true rfl) (by decide) (by decide) hck hsk dL_law_758 (fun v2 n2 m2 s2 hq => ?_)
  obtain ⟨e3, e4, F, h9⟩ := hk2 v2 n2 m2 s2 hq
  refine ⟨r, e3, e4, ?_⟩
  exact aw_same dL_law_761 (by decide) (kx m2 s2 F h9)
theorem lc_20 (hx : ∀ j : Int, -2147483648 ≤ xs j ∧ xs j ≤ 2147483647) (hi : 0 ≤ i ∧ i + 6 ≤ L) (hL9 : L ≤ 2147483647) (hck : ck ≤ 600000) (hsk : sk ≤ 7302250) (h : RS mi mr E) (kx : ∀ (m : aM) (s : aR) (F : Int → Nat), RS m s F → AL L xs ck sk 1523 i [] m s) : AL L xs ck sk 766 i [] mi mr := by
  unfold AL lwV at kx ⊢
  obtain ⟨PC, hC, hk⟩ := o_loadPattern h (hx (i + 1)) (hx (i + 2))
  refine aw_aload_n (i := 1) (q := 1) dL_law_766 rfl rfl ?_
  refine aw_aload_n (i := 0) (q := 0) dL_law_767 rfl rfl ?_
  refine aw_iload_n (i := 3) (q := 3) dL_law_768 rfl rfl ?_
  refine aw_iconst dL_law_769 ?_
  refine aw_iadd dL_law_770 ?_
  refine aw_sld rfl ⟨by omega, by omega⟩ hL9 dL_law_771 ?_
  refine aw_aload_n (i := 0) (q := 0) dL_law_772 rfl rfl ?_
  refine aw_iload_n (i := 3) (q := 3) dL_law_773 rfl rfl ?_
  refine aw_iconst dL_law_774 ?_
  refine aw_iadd dL_law_775 ?_
  refine aw_sld rfl ⟨by omega, by omega⟩ hL9 dL_law_776 ?_
  refine aw_c1 (As := [iI (xs (i + 1)), iI (xs (i + 2))]) (st := []) clL_98 hC SH_1 rfl (by decide) rfl rfl (Nat.le_of_ble_eq_true rfl) (by decide) (by decide) hck hsk dL_law_777 (fun v n1 m s hp => ?_)
  obtain ⟨r, e1, e2, PM, hM, hk2⟩ := hk v n1 m s hp
  refine ⟨r, e1, e2, ?_⟩
  refine aw_aload_n (i := 2) (q := 2) dL_law_780 rfl rfl ?_
  refine aw_aload_n (i := 0) (q := 0) dL_law_781 rfl rfl ?_
  refine aw_iload_n (i := 3) (q := 3) dL_law_782 rfl rfl ?_
  refine aw_iconst dL_law_783 ?_
  refine aw_iadd dL_law_784 ?_
  refine aw_sld rfl ⟨by omega, by omega⟩ hL9 dL_law_785 ?_
  refine aw_aload_n (i := 0) (q := 0) dL_law_786 rfl rfl ?_
  refine aw_iload_n (i := 3) (q := 3) dL_law_787 rfl rfl ?_
  refine aw_iconst dL_law_788 ?_
  refine aw_iadd dL_law_789 ?_
  refine aw_sld rfl ⟨by omega, by omega⟩ hL9 dL_law_790 ?_
  refine aw_c1 (As := [iI (xs (i + 1)), iI (xs (i + 2))]) (st := [iI r]) clL_101 hM SH_58 rfl (by decide) rfl rfl (Nat.le_of_ble_eq_true rfl) (by decide) (by decide) hck hsk dL_law_791 (fun v2 n2 m2 s2 hq => ?_)
  obtain ⟨e3, e4, F, h9⟩ := hk2 v2 n2 m2 s2 hq
  refine ⟨r, e3, e4, ?_⟩
  exact aw_same dL_law_794 (by decide) (kx m2 s2 F h9)
theorem lc_21 (hx : ∀ j : Int, -2147483648 ≤ xs j ∧ xs j ≤ 2147483647) (hi : 0 ≤ i ∧ i + 6 ≤ L) (hL9 : L ≤ 2147483647) (hck : ck ≤ 600000) (hsk : sk ≤ 7302250) (h : RS mi mr E) (kx : ∀ (m : aM) (s : aR) (F : Int → Nat), RS m s F → AL L xs ck sk 1523 i [] m s) : AL L xs ck sk 799 i [] mi mr := by
  unfold AL lwV at kx ⊢
  obtain ⟨PC, hC, hk⟩ := o_patternError h
  refine aw_aload_n (i := 1) (q := 1) dL_law_799 rfl rfl ?_
  refine aw_c1 (As := []) (st := []) clL_102 hC SH_1 rfl (by decide) rfl rfl (Nat.le_of_ble_eq_true rfl) (by decide) (by decide) hck hsk dL_law_800 (fun v n1 m s hp => ?_)
  obtain ⟨r, e1, e2, PM, hM, hk2⟩ := hk v n1 m s hp
  refine ⟨r, e1, e2, ?_⟩
  refine aw_aload_n (i := 2) (q := 2) dL_law_803 rfl rfl ?_
  refine aw_c1 (As := []) (st := [iI r]) clL_105 hM SH_58 rfl (by decide) rfl rfl (Nat.le_of_ble_eq_true rfl) (by decide) (by decide) hck hsk dL_law_804 (fun v2 n2 m2 s2 hq => ?_)
  obtain ⟨e3, e4, F, h9⟩ := hk2 v2 n2 m2 s2 hq
  refine ⟨r, e3, e4, ?_⟩
  exact aw_same dL_law_807 (by decide) (kx m2 s2 F h9)
theorem lc_22 (hx : ∀ j : Int, -2147483648 ≤ xs j ∧ xs j ≤ 2147483647) (hi : 0 ≤ i ∧ i + 6 ≤ L) (hL9 : L ≤ 2147483647) (hck : ck ≤ 600000) (hsk : sk ≤ 7302250) (h : RS mi mr E) (kx : ∀ (m : aM) (s : aR) (F : Int → Nat), RS m s F → AL L xs ck sk 1523 i [] m s) : AL L xs ck sk 812 i [] mi mr := by
  unfold AL lwV at kx ⊢
  obtain ⟨PC, hC, hk⟩ := o_patternErrorPosition h
  refine aw_aload_n (i := 1) (q := 1) dL_law_812 rfl rfl ?_
  refine aw_c1 (As := []) (st := []) clL_106 hC SH_1 rfl (by decide) rfl rfl (Nat.le_of_ble_eq_true rfl) (by decide) (by decide) hck hsk dL_law_813 (fun v n1 m s hp => ?_)
  obtain ⟨r, e1, e2, PM, hM, hk2⟩ := hk v n1 m s hp
  refine ⟨r, e1, e2, ?_⟩
  refine aw_aload_n (i := 2) (q := 2) dL_law_816 rfl rfl ?_
  refine aw_c1 (As := []) (st := [iI r]) clL_109 hM SH_58 rfl (by decide) rfl rfl (Nat.le_of_ble_eq_true rfl) (by decide) (by decide) hck hsk dL_law_817 (fun v2 n2 m2 s2 hq => ?_)
  obtain ⟨e3, e4, F, h9⟩ := hk2 v2 n2 m2 s2 hq
  refine ⟨r, e3, e4, ?_⟩
  exact aw_same dL_law_820 (by decide) (kx m2 s2 F h9)
theorem lc_23 (hx : ∀ j : Int, -2147483648 ≤ xs j ∧ xs j ≤ 2147483647) (hi : 0 ≤ i ∧ i + 6 ≤ L) (hL9 : L ≤ 2147483647) (hck : ck ≤ 600000) (hsk : sk ≤ 7302250) (h : RS mi mr E) (kx : ∀ (m : aM) (s : aR) (F : Int → Nat), RS m s F → AL L xs ck sk 1523 i [] m s) : AL L xs ck sk 825 i [] mi mr := by
  unfold AL lwV at kx ⊢
  obtain ⟨PC, hC, hk⟩ := o_stepBells h (hx (i + 1)) (hx (i + 2))
  refine aw_aload_n (i := 1) (q := 1) dL_law_825 rfl rfl ?_
  refine aw_aload_n (i := 0) (q := 0) dL_law_826 rfl rfl ?_
  refine aw_iload_n (i := 3) (q := 3) dL_law_827 rfl rfl ?_
  refine aw_iconst dL_law_828 ?_
  refine aw_iadd dL_law_829 ?_
  refine aw_sld rfl ⟨by omega, by omega⟩ hL9 dL_law_830 ?_
  refine aw_aload_n (i := 0) (q := 0) dL_law_831 rfl rfl ?_
  refine aw_iload_n (i := 3) (q := 3) dL_law_832 rfl rfl ?_
  refine aw_iconst dL_law_833 ?_
  refine aw_iadd dL_law_834 ?_
  refine aw_sld rfl ⟨by omega, by omega⟩ hL9 dL_law_835 ?_
  refine aw_c1 (As := [iI (xs (i + 1)), iI (xs (i + 2))]) (st := []) clL_110 hC SH_1 rfl (by decide) rfl rfl (Nat.le_of_ble_eq_true rfl) (by decide) (by decide) hck hsk dL_law_836 (fun v n1 m s hp => ?_)
  obtain ⟨r, e1, e2, PM, hM, hk2⟩ := hk v n1 m s hp
  refine ⟨r, e1, e2, ?_⟩
  refine aw_aload_n (i := 2) (q := 2) dL_law_839 rfl rfl ?_
  refine aw_aload_n (i := 0) (q := 0) dL_law_840 rfl rfl ?_
  refine aw_iload_n (i := 3) (q := 3) dL_law_841 rfl rfl ?_
  refine aw_iconst dL_law_842 ?_
  refine aw_iadd dL_law_843 ?_
  refine aw_sld rfl ⟨by omega, by omega⟩ hL9 dL_law_844 ?_
  refine aw_aload_n (i := 0) (q := 0) dL_law_845 rfl rfl ?_
  refine aw_iload_n (i := 3) (q := 3) dL_law_846 rfl rfl ?_
  refine aw_iconst dL_law_847 ?_
  refine aw_iadd dL_law_848 ?_
  refine aw_sld rfl ⟨by omega, by omega⟩ hL9 dL_law_849 ?_
  refine aw_c1 (As := [iI (xs (i + 1)), iI (xs (i + 2))]) (st := [iI r]) clL_113 hM SH_58 rfl (by decide) rfl rfl (Nat.le_of_ble_eq_true rfl) (by decide) (by decide) hck hsk dL_law_850 (fun v2 n2 m2 s2 hq => ?_)
  obtain ⟨e3, e4, F, h9⟩ := hk2 v2 n2 m2 s2 hq
  refine ⟨r, e3, e4, ?_⟩
  exact aw_same dL_law_853 (by decide) (kx m2 s2 F h9)
theorem lc_24 (hx : ∀ j : Int, -2147483648 ≤ xs j ∧ xs j ≤ 2147483647) (hi : 0 ≤ i ∧ i + 6 ≤ L) (hL9 : L ≤ 2147483647) (hck : ck ≤ 600000) (hsk : sk ≤ 7302250) (h : RS mi mr E) (kx : ∀ (m : aM) (s : aR) (F : Int → Nat), RS m s F → AL L xs ck sk 1523 i [] m s) : AL L xs ck sk 858 i [] mi mr := by
  unfold AL lwV at kx ⊢
  obtain ⟨PC, hC, hk⟩ := o_patternStrokes h (hx (i + 1))
  refine aw_aload_n (i := 1) (q := 1) dL_law_858 rfl rfl ?_
  refine aw_aload_n (i := 0) (q := 0) dL_law_859 rfl rfl ?_
  refine aw_iload_n (i := 3) (q := 3) dL_law_860 rfl rfl ?_
  refine aw_iconst dL_law_861 ?_
  refine aw_iadd dL_law_862 ?_
  refine aw_sld rfl ⟨by omega, by omega⟩ hL9 dL_law_863 ?_
  refine aw_c1 (As := [iI (xs (i + 1))]) (st := []) clL_114 hC SH_1 rfl (by decide) rfl rfl (Nat.le_of_ble_eq_true rfl) (by decide) (by decide) hck hsk dL_law_864 (fun v n1 m s hp => ?_)
  obtain ⟨r, e1, e2, PM, hM, hk2⟩ := hk v n1 m s hp
  refine ⟨r, e1, e2, ?_⟩
  refine aw_aload_n (i := 2) (q := 2) dL_law_867 rfl rfl ?_
  refine aw_aload_n (i := 0) (q := 0) dL_law_868 rfl rfl ?_
  refine aw_iload_n (i := 3) (q := 3) dL_law_869 rfl rfl ?_
  refine aw_iconst dL_law_870 ?_
  refine aw_iadd dL_law_871 ?_
  refine aw_sld rfl ⟨by omega, by omega⟩ hL9 dL_law_872 ?_
  refine aw_c1 (As := [iI (xs (i + 1))]) (st := [iI r]) clL_117 hM SH_58 rfl (by decide) rfl rfl (Nat.le_of_ble_eq_true rfl) (by decide) (by decide) hck hsk dL_law_873 (fun v2 n2 m2 s2 hq => ?_)
  obtain ⟨e3, e4, F, h9⟩ := hk2 v2 n2 m2 s2 hq
  refine ⟨r, e3, e4, ?_⟩
  exact aw_same dL_law_876 (by decide) (kx m2 s2 F h9)
theorem lc_25 (hx : ∀ j : Int, -2147483648 ≤ xs j ∧ xs j ≤ 2147483647) (hi : 0 ≤ i ∧ i + 6 ≤ L) (hL9 : L ≤ 2147483647) (hck : ck ≤ 600000) (hsk : sk ≤ 7302250) (h : RS mi mr E) (kx : ∀ (m : aM) (s : aR) (F : Int → Nat), RS m s F → AL L xs ck sk 1523 i [] m s) : AL L xs ck sk 881 i [] mi mr := by
  unfold AL lwV at kx ⊢
  obtain ⟨PC, hC, hk⟩ := o_play h (hx (i + 1)) (hx (i + 2)) (hx (i + 3))
  refine aw_aload_n (i := 1) (q := 1) dL_law_881 rfl rfl ?_
  refine aw_aload_n (i := 0) (q := 0) dL_law_882 rfl rfl ?_
  refine aw_iload_n (i := 3) (q := 3) dL_law_883 rfl rfl ?_
  refine aw_iconst dL_law_884 ?_
  refine aw_iadd dL_law_885 ?_
  refine aw_sld rfl ⟨by omega, by omega⟩ hL9 dL_law_886 ?_
  refine aw_aload_n (i := 0) (q := 0) dL_law_887 rfl rfl ?_
  refine aw_iload_n (i := 3) (q := 3) dL_law_888 rfl rfl ?_
  refine aw_iconst dL_law_889 ?_
  refine aw_iadd dL_law_890 ?_
  refine aw_sld rfl ⟨by omega, by omega⟩ hL9 dL_law_891 ?_
  refine aw_aload_n (i := 0) (q := 0) dL_law_892 rfl rfl ?_
  refine aw_iload_n (i := 3) (q := 3) dL_law_893 rfl rfl ?_
  refine aw_iconst dL_law_894 ?_
  refine aw_iadd dL_law_895 ?_
  refine aw_sld rfl ⟨by omega, by omega⟩ hL9 dL_law_896 ?_
  refine aw_c1 (As := [iI (xs (i + 1)), iI (xs (i + 2)), iI (xs (i + 3))]) (st := []) clL_118 hC SH_1 rfl (by decide) rfl rfl (Nat.le_of_ble_eq_true rfl) (by decide) (by decide) hck hsk dL_law_897 (fun v n1 m s hp => ?_)
  obtain ⟨r, e1, e2, PM, hM, hk2⟩ := hk v n1 m s hp
  refine ⟨r, e1, e2, ?_⟩
  refine aw_aload_n (i := 2) (q := 2) dL_law_900 rfl rfl ?_
  refine aw_aload_n (i := 0) (q := 0) dL_law_901 rfl rfl ?_
  refine aw_iload_n (i := 3) (q := 3) dL_law_902 rfl rfl ?_
  refine aw_iconst dL_law_903 ?_
  refine aw_iadd dL_law_904 ?_
  refine aw_sld rfl ⟨by omega, by omega⟩ hL9 dL_law_905 ?_
  refine aw_aload_n (i := 0) (q := 0) dL_law_906 rfl rfl ?_
  refine aw_iload_n (i := 3) (q := 3) dL_law_907 rfl rfl ?_
  refine aw_iconst dL_law_908 ?_
  refine aw_iadd dL_law_909 ?_
  refine aw_sld rfl ⟨by omega, by omega⟩ hL9 dL_law_910 ?_
  refine aw_aload_n (i := 0) (q := 0) dL_law_911 rfl rfl ?_
  refine aw_iload_n (i := 3) (q := 3) dL_law_912 rfl rfl ?_
  refine aw_iconst dL_law_913 ?_
  refine aw_iadd dL_law_914 ?_
  refine aw_sld rfl ⟨by omega, by omega⟩ hL9 dL_law_915 ?_
  refine aw_c1 (As := [iI (xs (i + 1)), iI (xs (i + 2)), iI (xs (i + 3))]) (st := [iI r]) clL_122 hM SH_58 rfl (by decide) rfl rfl (Nat.le_of_ble_eq_true rfl) (by decide) (by decide) hck hsk dL_law_916 (fun v2 n2 m2 s2 hq => ?_)
  obtain ⟨e3, e4, F, h9⟩ := hk2 v2 n2 m2 s2 hq
  refine ⟨r, e3, e4, ?_⟩
  exact aw_same dL_law_919 (by decide) (kx m2 s2 F h9)
theorem lc_26 (hx : ∀ j : Int, -2147483648 ≤ xs j ∧ xs j ≤ 2147483647) (hi : 0 ≤ i ∧ i + 6 ≤ L) (hL9 : L ≤ 2147483647) (hck : ck ≤ 600000) (hsk : sk ≤ 7302250) (h : RS mi mr E) (kx : ∀ (m : aM) (s : aR) (F : Int → Nat), RS m s F → AL L xs ck sk 1523 i [] m s) : AL L xs ck sk 924 i [] mi mr := by
  unfold AL lwV at kx ⊢
  obtain ⟨PC, hC, hk⟩ := o_weave h (hx (i + 1)) (hx (i + 2)) (hx (i + 3)) (hx (i + 4))
  refine aw_aload_n (i := 1) (q := 1) dL_law_924 rfl rfl ?_
  refine aw_aload_n (i := 0) (q := 0) dL_law_925 rfl rfl ?_
  refine aw_iload_n (i := 3) (q := 3) dL_law_926 rfl rfl ?_
  refine aw_iconst dL_law_927 ?_
  refine aw_iadd dL_law_928 ?_
  refine aw_sld rfl ⟨by omega, by omega⟩ hL9 dL_law_929 ?_
  refine aw_aload_n (i := 0) (q := 0) dL_law_930 rfl rfl ?_
  refine aw_iload_n (i := 3) (q := 3) dL_law_931 rfl rfl ?_
  refine aw_iconst dL_law_932 ?_
  refine aw_iadd dL_law_933 ?_
  refine aw_sld rfl ⟨by omega, by omega⟩ hL9 dL_law_934 ?_
  refine aw_aload_n (i := 0) (q := 0) dL_law_935 rfl rfl ?_
  refine aw_iload_n (i := 3) (q := 3) dL_law_936 rfl rfl ?_
  refine aw_iconst dL_law_937 ?_
  refine aw_iadd dL_law_938 ?_
  refine aw_sld rfl ⟨by omega, by omega⟩ hL9 dL_law_939 ?_
  refine aw_aload_n (i := 0) (q := 0) dL_law_940 rfl rfl ?_
  refine aw_iload_n (i := 3) (q := 3) dL_law_941 rfl rfl ?_
  refine aw_iconst dL_law_942 ?_
  refine aw_iadd dL_law_943 ?_
  refine aw_sld rfl ⟨by omega, by omega⟩ hL9 dL_law_944 ?_
  refine aw_c1 (As := [iI (xs (i + 1)), iI (xs (i + 2)), iI (xs (i + 3)), iI (xs (i + 4))]) (st := []) clL_123 hC SH_1 rfl (by decide) rfl rfl (Nat.le_of_ble_eq_true rfl) (by decide) (by decide) hck hsk dL_law_945 (fun v n1 m s hp => ?_)
  obtain ⟨r, e1, e2, PM, hM, hk2⟩ := hk v n1 m s hp
  refine ⟨r, e1, e2, ?_⟩
  refine aw_aload_n (i := 2) (q := 2) dL_law_948 rfl rfl ?_
  refine aw_aload_n (i := 0) (q := 0) dL_law_949 rfl rfl ?_
  refine aw_iload_n (i := 3) (q := 3) dL_law_950 rfl rfl ?_
  refine aw_iconst dL_law_951 ?_
  refine aw_iadd dL_law_952 ?_
  refine aw_sld rfl ⟨by omega, by omega⟩ hL9 dL_law_953 ?_
  refine aw_aload_n (i := 0) (q := 0) dL_law_954 rfl rfl ?_
  refine aw_iload_n (i := 3) (q := 3) dL_law_955 rfl rfl ?_
  refine aw_iconst dL_law_956 ?_
  refine aw_iadd dL_law_957 ?_
  refine aw_sld rfl ⟨by omega, by omega⟩ hL9 dL_law_958 ?_
  refine aw_aload_n (i := 0) (q := 0) dL_law_959 rfl rfl ?_
  refine aw_iload_n (i := 3) (q := 3) dL_law_960 rfl rfl ?_
  refine aw_iconst dL_law_961 ?_
  refine aw_iadd dL_law_962 ?_
  refine aw_sld rfl ⟨by omega, by omega⟩ hL9 dL_law_963 ?_
  refine aw_aload_n (i := 0) (q := 0) dL_law_964 rfl rfl ?_
  refine aw_iload_n (i := 3) (q := 3) dL_law_965 rfl rfl ?_
  refine aw_iconst dL_law_966 ?_
  refine aw_iadd dL_law_967 ?_
  refine aw_sld rfl ⟨by omega, by omega⟩ hL9 dL_law_968 ?_
  refine aw_c1 (As := [iI (xs (i + 1)), iI (xs (i + 2)), iI (xs (i + 3)), iI (xs (i + 4))]) (st := [iI r]) clL_126 hM SH_58 rfl (by decide) rfl rfl (Nat.le_of_ble_eq_true rfl) (by decide) (by decide) hck hsk dL_law_969 (fun v2 n2 m2 s2 hq => ?_)
  obtain ⟨e3, e4, F, h9⟩ := hk2 v2 n2 m2 s2 hq
  refine ⟨r, e3, e4, ?_⟩
  exact aw_same dL_law_972 (by decide) (kx m2 s2 F h9)
theorem lc_27 (hx : ∀ j : Int, -2147483648 ≤ xs j ∧ xs j ≤ 2147483647) (hi : 0 ≤ i ∧ i + 6 ≤ L) (hL9 : L ≤ 2147483647) (hck : ck ≤ 600000) (hsk : sk ≤ 7302250) (h : RS mi mr E) (kx : ∀ (m : aM) (s : aR) (F : Int → Nat), RS m s F → AL L xs ck sk 1523 i [] m s) : AL L xs ck sk 977 i [] mi mr := by
  unfold AL lwV at kx ⊢
  obtain ⟨PC, hC, hk⟩ := o_fastestTicks h (hx (i + 1))
  refine aw_aload_n (i := 1) (q := 1) dL_law_977 rfl rfl ?_
  refine aw_aload_n (i := 0) (q := 0) dL_law_978 rfl rfl ?_
  refine aw_iload_n (i := 3) (q := 3) dL_law_979 rfl rfl ?_
  refine aw_iconst dL_law_980 ?_
  refine aw_iadd dL_law_981 ?_
  refine aw_sld rfl ⟨by omega, by omega⟩ hL9 dL_law_982 ?_
  refine aw_c1 (As := [iI (xs (i + 1))]) (st := []) clL_127 hC SH_1 rfl (by decide) rfl rfl (Nat.le_of_ble_eq_true rfl) (by decide) (by decide) hck hsk dL_law_983 (fun v n1 m s hp => ?_)
  obtain ⟨r, e1, e2, PM, hM, hk2⟩ := hk v n1 m s hp
  refine ⟨r, e1, e2, ?_⟩
  refine aw_aload_n (i := 2) (q := 2) dL_law_986 rfl rfl ?_
  refine aw_aload_n (i := 0) (q := 0) dL_law_987 rfl rfl ?_
  refine aw_iload_n (i := 3) (q := 3) dL_law_988 rfl rfl ?_
  refine aw_iconst dL_law_989 ?_
  refine aw_iadd dL_law_990 ?_
  refine aw_sld rfl ⟨by omega, by omega⟩ hL9 dL_law_991 ?_
  refine aw_c1 (As := [iI (xs (i + 1))]) (st := [iI r]) clL_130 hM SH_58 rfl (by decide) rfl rfl (Nat.le_of_ble_eq_true rfl) (by decide) (by decide) hck hsk dL_law_992 (fun v2 n2 m2 s2 hq => ?_)
  obtain ⟨e3, e4, F, h9⟩ := hk2 v2 n2 m2 s2 hq
  refine ⟨r, e3, e4, ?_⟩
  exact aw_same dL_law_995 (by decide) (kx m2 s2 F h9)
theorem lc_28 (hx : ∀ j : Int, -2147483648 ≤ xs j ∧ xs j ≤ 2147483647) (hi : 0 ≤ i ∧ i + 6 ≤ L) (hL9 : L ≤ 2147483647) (hck : ck ≤ 600000) (hsk : sk ≤ 7302250) (h : RS mi mr E) (kx : ∀ (m : aM) (s : aR) (F : Int → Nat), RS m s F → AL L xs ck sk 1523 i [] m s) : AL L xs ck sk 1000 i [] mi mr := by
  unfold AL lwV at kx ⊢
  obtain ⟨PC, hC, hk⟩ := o_powerNeeded h (hx (i + 1)) (hx (i + 2))
  refine aw_aload_n (i := 1) (q := 1) dL_law_1000 rfl rfl ?_
  refine aw_aload_n (i := 0) (q := 0) dL_law_1001 rfl rfl ?_
  refine aw_iload_n (i := 3) (q := 3) dL_law_1002 rfl rfl ?_
  refine aw_iconst dL_law_1003 ?_
  refine aw_iadd dL_law_1004 ?_
  refine aw_sld rfl ⟨by omega, by omega⟩ hL9 dL_law_1005 ?_
  refine aw_aload_n (i := 0) (q := 0) dL_law_1006 rfl rfl ?_
  refine aw_iload_n (i := 3) (q := 3) dL_law_1007 rfl rfl ?_
  refine aw_iconst dL_law_1008 ?_
  refine aw_iadd dL_law_1009 ?_
  refine aw_sld rfl ⟨by omega, by omega⟩ hL9 dL_law_1010 ?_
  refine aw_c1 (As := [iI (xs (i + 1)), iI (xs (i + 2))]) (st := []) clL_131 hC SH_1 rfl (by decide) rfl rfl (Nat.le_of_ble_eq_true rfl) (by decide) (by decide) hck hsk dL_law_1011 (fun v n1 m s hp => ?_)
  obtain ⟨r, e1, e2, PM, hM, hk2⟩ := hk v n1 m s hp
  refine ⟨r, e1, e2, ?_⟩
  refine aw_aload_n (i := 2) (q := 2) dL_law_1014 rfl rfl ?_
  refine aw_aload_n (i := 0) (q := 0) dL_law_1015 rfl rfl ?_
  refine aw_iload_n (i := 3) (q := 3) dL_law_1016 rfl rfl ?_
  refine aw_iconst dL_law_1017 ?_
  refine aw_iadd dL_law_1018 ?_
  refine aw_sld rfl ⟨by omega, by omega⟩ hL9 dL_law_1019 ?_
  refine aw_aload_n (i := 0) (q := 0) dL_law_1020 rfl rfl ?_
  refine aw_iload_n (i := 3) (q := 3) dL_law_1021 rfl rfl ?_
  refine aw_iconst dL_law_1022 ?_
  refine aw_iadd dL_law_1023 ?_
  refine aw_sld rfl ⟨by omega, by omega⟩ hL9 dL_law_1024 ?_
  refine aw_c1 (As := [iI (xs (i + 1)), iI (xs (i + 2))]) (st := [iI r]) clL_134 hM SH_58 rfl (by decide) rfl rfl (Nat.le_of_ble_eq_true rfl) (by decide) (by decide) hck hsk dL_law_1025 (fun v2 n2 m2 s2 hq => ?_)
  obtain ⟨e3, e4, F, h9⟩ := hk2 v2 n2 m2 s2 hq
  refine ⟨r, e3, e4, ?_⟩
  exact aw_same dL_law_1028 (by decide) (kx m2 s2 F h9)
theorem lc_29 (hx : ∀ j : Int, -2147483648 ≤ xs j ∧ xs j ≤ 2147483647) (hi : 0 ≤ i ∧ i + 6 ≤ L) (hL9 : L ≤ 2147483647) (hck : ck ≤ 600000) (hsk : sk ≤ 7302250) (h : RS mi mr E) (kx : ∀ (m : aM) (s : aR) (F : Int → Nat), RS m s F → AL L xs ck sk 1523 i [] m s) : AL L xs ck sk 1033 i [] mi mr := by
  unfold AL lwV at kx ⊢
  obtain ⟨PC, hC, hk⟩ := o_addEntry h (hx (i + 1)) (hx (i + 2)) (hx (i + 3)) (hx (i + 4)) (hx (i + 5))
  refine aw_aload_n (i := 1) (q := 1) dL_law_1033 rfl rfl ?_
  refine aw_aload_n (i := 0) (q := 0) dL_law_1034 rfl rfl ?_
  refine aw_iload_n (i := 3) (q := 3) dL_law_1035 rfl rfl ?_
  refine aw_iconst dL_law_1036 ?_
  refine aw_iadd dL_law_1037 ?_
  refine aw_sld rfl ⟨by omega, by omega⟩ hL9 dL_law_1038 ?_
  refine aw_aload_n (i := 0) (q := 0) dL_law_1039 rfl rfl ?_
  refine aw_iload_n (i := 3) (q := 3) dL_law_1040 rfl rfl ?_
  refine aw_iconst dL_law_1041 ?_
  refine aw_iadd dL_law_1042 ?_
  refine aw_sld rfl ⟨by omega, by omega⟩ hL9 dL_law_1043 ?_
  refine aw_aload_n (i := 0) (q := 0) dL_law_1044 rfl rfl ?_
  refine aw_iload_n (i := 3) (q := 3) dL_law_1045 rfl rfl ?_
  refine aw_iconst dL_law_1046 ?_
  refine aw_iadd dL_law_1047 ?_
  refine aw_sld rfl ⟨by omega, by omega⟩ hL9 dL_law_1048 ?_
  refine aw_aload_n (i := 0) (q := 0) dL_law_1049 rfl rfl ?_
  refine aw_iload_n (i := 3) (q := 3) dL_law_1050 rfl rfl ?_
  refine aw_iconst dL_law_1051 ?_
  refine aw_iadd dL_law_1052 ?_
  refine aw_sld rfl ⟨by omega, by omega⟩ hL9 dL_law_1053 ?_
  refine aw_aload_n (i := 0) (q := 0) dL_law_1054 rfl rfl ?_
  refine aw_iload_n (i := 3) (q := 3) dL_law_1055 rfl rfl ?_
  refine aw_iconst dL_law_1056 ?_
  refine aw_iadd dL_law_1057 ?_
  refine aw_sld rfl ⟨by omega, by omega⟩ hL9 dL_law_1058 ?_
  refine aw_c1 (As := [iI (xs (i + 1)), iI (xs (i + 2)), iI (xs (i + 3)), iI (xs (i + 4)), iI (xs (i + 5))]) (st := []) clL_135 hC SH_1 rfl (by decide) rfl rfl (Nat.le_of_ble_eq_true rfl) (by decide) (by decide) hck hsk dL_law_1059 (fun v n1 m s hp => ?_)
  obtain ⟨r, e1, e2, PM, hM, hk2⟩ := hk v n1 m s hp
  refine ⟨r, e1, e2, ?_⟩
  refine aw_aload_n (i := 2) (q := 2) dL_law_1062 rfl rfl ?_
  refine aw_aload_n (i := 0) (q := 0) dL_law_1063 rfl rfl ?_
  refine aw_iload_n (i := 3) (q := 3) dL_law_1064 rfl rfl ?_
  refine aw_iconst dL_law_1065 ?_
  refine aw_iadd dL_law_1066 ?_
  refine aw_sld rfl ⟨by omega, by omega⟩ hL9 dL_law_1067 ?_
  refine aw_aload_n (i := 0) (q := 0) dL_law_1068 rfl rfl ?_
  refine aw_iload_n (i := 3) (q := 3) dL_law_1069 rfl rfl ?_
  refine aw_iconst dL_law_1070 ?_
  refine aw_iadd dL_law_1071 ?_
  refine aw_sld rfl ⟨by omega, by omega⟩ hL9 dL_law_1072 ?_
  refine aw_aload_n (i := 0) (q := 0) dL_law_1073 rfl rfl ?_
  refine aw_iload_n (i := 3) (q := 3) dL_law_1074 rfl rfl ?_
  refine aw_iconst dL_law_1075 ?_
  refine aw_iadd dL_law_1076 ?_
  refine aw_sld rfl ⟨by omega, by omega⟩ hL9 dL_law_1077 ?_
  refine aw_aload_n (i := 0) (q := 0) dL_law_1078 rfl rfl ?_
  refine aw_iload_n (i := 3) (q := 3) dL_law_1079 rfl rfl ?_
  refine aw_iconst dL_law_1080 ?_
  refine aw_iadd dL_law_1081 ?_
  refine aw_sld rfl ⟨by omega, by omega⟩ hL9 dL_law_1082 ?_
  refine aw_aload_n (i := 0) (q := 0) dL_law_1083 rfl rfl ?_
  refine aw_iload_n (i := 3) (q := 3) dL_law_1084 rfl rfl ?_
  refine aw_iconst dL_law_1085 ?_
  refine aw_iadd dL_law_1086 ?_
  refine aw_sld rfl ⟨by omega, by omega⟩ hL9 dL_law_1087 ?_
  refine aw_c1 (As := [iI (xs (i + 1)), iI (xs (i + 2)), iI (xs (i + 3)), iI (xs (i + 4)), iI (xs (i + 5))]) (st := [iI r]) clL_138 hM SH_58 rfl (by decide) rfl rfl (Nat.le_of_ble_eq_true rfl) (by decide) (by decide) hck hsk dL_law_1088 (fun v2 n2 m2 s2 hq => ?_)
  obtain ⟨e3, e4, F, h9⟩ := hk2 v2 n2 m2 s2 hq
  refine ⟨r, e3, e4, ?_⟩
  exact aw_same dL_law_1091 (by decide) (kx m2 s2 F h9)
theorem lc_30 (hx : ∀ j : Int, -2147483648 ≤ xs j ∧ xs j ≤ 2147483647) (hi : 0 ≤ i ∧ i + 6 ≤ L) (hL9 : L ≤ 2147483647) (hck : ck ≤ 600000) (hsk : sk ≤ 7302250) (h : RS mi mr E) (kx : ∀ (m : aM) (s : aR) (F : Int → Nat), RS m s F → AL L xs ck sk 1523 i [] m s) : AL L xs ck sk 1096 i [] mi mr := by
  unfold AL lwV at kx ⊢
  obtain ⟨PC, hC, hk⟩ := o_removeEntry h (hx (i + 1))
  refine aw_aload_n (i := 1) (q := 1) dL_law_1096 rfl rfl ?_
  refine aw_aload_n (i := 0) (q := 0) dL_law_1097 rfl rfl ?_
  refine aw_iload_n (i := 3) (q := 3) dL_law_1098 rfl rfl ?_
  refine aw_iconst dL_law_1099 ?_
  refine aw_iadd dL_law_1100 ?_
  refine aw_sld rfl ⟨by omega, by omega⟩ hL9 dL_law_1101 ?_
  refine aw_c1 (As := [iI (xs (i + 1))]) (st := []) clL_139 hC SH_1 rfl (by decide) rfl rfl (Nat.le_of_ble_eq_true rfl) (by decide) (by decide) hck hsk dL_law_1102 (fun v n1 m s hp => ?_)
  obtain ⟨r, e1, e2, PM, hM, hk2⟩ := hk v n1 m s hp
  refine ⟨r, e1, e2, ?_⟩
  refine aw_aload_n (i := 2) (q := 2) dL_law_1105 rfl rfl ?_
  refine aw_aload_n (i := 0) (q := 0) dL_law_1106 rfl rfl ?_
  refine aw_iload_n (i := 3) (q := 3) dL_law_1107 rfl rfl ?_
  refine aw_iconst dL_law_1108 ?_
  refine aw_iadd dL_law_1109 ?_
  refine aw_sld rfl ⟨by omega, by omega⟩ hL9 dL_law_1110 ?_
  refine aw_c1 (As := [iI (xs (i + 1))]) (st := [iI r]) clL_142 hM SH_58 rfl (by decide) rfl rfl (Nat.le_of_ble_eq_true rfl) (by decide) (by decide) hck hsk dL_law_1111 (fun v2 n2 m2 s2 hq => ?_)
  obtain ⟨e3, e4, F, h9⟩ := hk2 v2 n2 m2 s2 hq
  refine ⟨r, e3, e4, ?_⟩
  exact aw_same dL_law_1114 (by decide) (kx m2 s2 F h9)
theorem lc_31 (hx : ∀ j : Int, -2147483648 ≤ xs j ∧ xs j ≤ 2147483647) (hi : 0 ≤ i ∧ i + 6 ≤ L) (hL9 : L ≤ 2147483647) (hck : ck ≤ 600000) (hsk : sk ≤ 7302250) (h : RS mi mr E) (kx : ∀ (m : aM) (s : aR) (F : Int → Nat), RS m s F → AL L xs ck sk 1523 i [] m s) : AL L xs ck sk 1119 i [] mi mr := by
  unfold AL lwV at kx ⊢
  obtain ⟨PC, hC, hk⟩ := o_entryCount h
  refine aw_aload_n (i := 1) (q := 1) dL_law_1119 rfl rfl ?_
  refine aw_c1 (As := []) (st := []) clL_143 hC SH_1 rfl (by decide) rfl rfl (Nat.le_of_ble_eq_true rfl) (by decide) (by decide) hck hsk dL_law_1120 (fun v n1 m s hp => ?_)
  obtain ⟨r, e1, e2, PM, hM, hk2⟩ := hk v n1 m s hp
  refine ⟨r, e1, e2, ?_⟩
  refine aw_aload_n (i := 2) (q := 2) dL_law_1123 rfl rfl ?_
  refine aw_c1 (As := []) (st := [iI r]) clL_146 hM SH_58 rfl (by decide) rfl rfl (Nat.le_of_ble_eq_true rfl) (by decide) (by decide) hck hsk dL_law_1124 (fun v2 n2 m2 s2 hq => ?_)
  obtain ⟨e3, e4, F, h9⟩ := hk2 v2 n2 m2 s2 hq
  refine ⟨r, e3, e4, ?_⟩
  exact aw_same dL_law_1127 (by decide) (kx m2 s2 F h9)
theorem lc_32 (hx : ∀ j : Int, -2147483648 ≤ xs j ∧ xs j ≤ 2147483647) (hi : 0 ≤ i ∧ i + 6 ≤ L) (hL9 : L ≤ 2147483647) (hck : ck ≤ 600000) (hsk : sk ≤ 7302250) (h : RS mi mr E) (kx : ∀ (m : aM) (s : aR) (F : Int → Nat), RS m s F → AL L xs ck sk 1523 i [] m s) : AL L xs ck sk 1132 i [] mi mr := by
  unfold AL lwV at kx ⊢
  obtain ⟨PC, hC, hk⟩ := o_dueTime h (hx (i + 1))
  refine aw_aload_n (i := 1) (q := 1) dL_law_1132 rfl rfl ?_
  refine aw_aload_n (i := 0) (q := 0) dL_law_1133 rfl rfl ?_
  refine aw_iload_n (i := 3) (q := 3) dL_law_1134 rfl rfl ?_
  refine aw_iconst dL_law_1135 ?_
  refine aw_iadd dL_law_1136 ?_
  refine aw_sld rfl ⟨by omega, by omega⟩ hL9 dL_law_1137 ?_
  refine aw_c1 (As := [iI (xs (i + 1))]) (st := []) clL_147 hC SH_1 rfl (by decide) rfl rfl (Nat.le_of_ble_eq_true rfl) (by decide) (by decide) hck hsk dL_law_1138 (fun v n1 m s hp => ?_)
  obtain ⟨r, e1, e2, PM, hM, hk2⟩ := hk v n1 m s hp
  refine ⟨r, e1, e2, ?_⟩
  refine aw_aload_n (i := 2) (q := 2) dL_law_1141 rfl rfl ?_
  refine aw_aload_n (i := 0) (q := 0) dL_law_1142 rfl rfl ?_
  refine aw_iload_n (i := 3) (q := 3) dL_law_1143 rfl rfl ?_
  refine aw_iconst dL_law_1144 ?_
  refine aw_iadd dL_law_1145 ?_
  refine aw_sld rfl ⟨by omega, by omega⟩ hL9 dL_law_1146 ?_
  refine aw_c1 (As := [iI (xs (i + 1))]) (st := [iI r]) clL_150 hM SH_58 rfl (by decide) rfl rfl (Nat.le_of_ble_eq_true rfl) (by decide) (by decide) hck hsk dL_law_1147 (fun v2 n2 m2 s2 hq => ?_)
  obtain ⟨e3, e4, F, h9⟩ := hk2 v2 n2 m2 s2 hq
  refine ⟨r, e3, e4, ?_⟩
  exact aw_same dL_law_1150 (by decide) (kx m2 s2 F h9)
theorem lc_33 (hx : ∀ j : Int, -2147483648 ≤ xs j ∧ xs j ≤ 2147483647) (hi : 0 ≤ i ∧ i + 6 ≤ L) (hL9 : L ≤ 2147483647) (hck : ck ≤ 600000) (hsk : sk ≤ 7302250) (h : RS mi mr E) (kx : ∀ (m : aM) (s : aR) (F : Int → Nat), RS m s F → AL L xs ck sk 1523 i [] m s) : AL L xs ck sk 1155 i [] mi mr := by
  unfold AL lwV at kx ⊢
  obtain ⟨PC, hC, hk⟩ := o_lastShift h (hx (i + 1))
  refine aw_aload_n (i := 1) (q := 1) dL_law_1155 rfl rfl ?_
  refine aw_aload_n (i := 0) (q := 0) dL_law_1156 rfl rfl ?_
  refine aw_iload_n (i := 3) (q := 3) dL_law_1157 rfl rfl ?_
  refine aw_iconst dL_law_1158 ?_
  refine aw_iadd dL_law_1159 ?_
  refine aw_sld rfl ⟨by omega, by omega⟩ hL9 dL_law_1160 ?_
  refine aw_c1 (As := [iI (xs (i + 1))]) (st := []) clL_151 hC SH_1 rfl (by decide) rfl rfl (Nat.le_of_ble_eq_true rfl) (by decide) (by decide) hck hsk dL_law_1161 (fun v n1 m s hp => ?_)
  obtain ⟨r, e1, e2, PM, hM, hk2⟩ := hk v n1 m s hp
  refine ⟨r, e1, e2, ?_⟩
  refine aw_aload_n (i := 2) (q := 2) dL_law_1164 rfl rfl ?_
  refine aw_aload_n (i := 0) (q := 0) dL_law_1165 rfl rfl ?_
  refine aw_iload_n (i := 3) (q := 3) dL_law_1166 rfl rfl ?_
  refine aw_iconst dL_law_1167 ?_
  refine aw_iadd dL_law_1168 ?_
  refine aw_sld rfl ⟨by omega, by omega⟩ hL9 dL_law_1169 ?_
  refine aw_c1 (As := [iI (xs (i + 1))]) (st := [iI r]) clL_154 hM SH_58 rfl (by decide) rfl rfl (Nat.le_of_ble_eq_true rfl) (by decide) (by decide) hck hsk dL_law_1170 (fun v2 n2 m2 s2 hq => ?_)
  obtain ⟨e3, e4, F, h9⟩ := hk2 v2 n2 m2 s2 hq
  refine ⟨r, e3, e4, ?_⟩
  exact aw_same dL_law_1173 (by decide) (kx m2 s2 F h9)
theorem lc_34 (hx : ∀ j : Int, -2147483648 ≤ xs j ∧ xs j ≤ 2147483647) (hi : 0 ≤ i ∧ i + 6 ≤ L) (hL9 : L ≤ 2147483647) (hck : ck ≤ 600000) (hsk : sk ≤ 7302250) (h : RS mi mr E) (kx : ∀ (m : aM) (s : aR) (F : Int → Nat), RS m s F → AL L xs ck sk 1523 i [] m s) : AL L xs ck sk 1178 i [] mi mr := by
  unfold AL lwV at kx ⊢
  obtain ⟨PC, hC, hk⟩ := o_failureCount h
  refine aw_aload_n (i := 1) (q := 1) dL_law_1178 rfl rfl ?_
  refine aw_c1 (As := []) (st := []) clL_155 hC SH_1 rfl (by decide) rfl rfl (Nat.le_of_ble_eq_true rfl) (by decide) (by decide) hck hsk dL_law_1179 (fun v n1 m s hp => ?_)
  obtain ⟨r, e1, e2, PM, hM, hk2⟩ := hk v n1 m s hp
  refine ⟨r, e1, e2, ?_⟩
  refine aw_aload_n (i := 2) (q := 2) dL_law_1182 rfl rfl ?_
  refine aw_c1 (As := []) (st := [iI r]) clL_158 hM SH_58 rfl (by decide) rfl rfl (Nat.le_of_ble_eq_true rfl) (by decide) (by decide) hck hsk dL_law_1183 (fun v2 n2 m2 s2 hq => ?_)
  obtain ⟨e3, e4, F, h9⟩ := hk2 v2 n2 m2 s2 hq
  refine ⟨r, e3, e4, ?_⟩
  exact aw_same dL_law_1186 (by decide) (kx m2 s2 F h9)
theorem lc_35 (hx : ∀ j : Int, -2147483648 ≤ xs j ∧ xs j ≤ 2147483647) (hi : 0 ≤ i ∧ i + 6 ≤ L) (hL9 : L ≤ 2147483647) (hck : ck ≤ 600000) (hsk : sk ≤ 7302250) (h : RS mi mr E) (kx : ∀ (m : aM) (s : aR) (F : Int → Nat), RS m s F → AL L xs ck sk 1523 i [] m s) : AL L xs ck sk 1191 i [] mi mr := by
  unfold AL lwV at kx ⊢
  obtain ⟨PC, hC, hk⟩ := o_startSwing h (hx (i + 1)) (hx (i + 2))
  refine aw_aload_n (i := 1) (q := 1) dL_law_1191 rfl rfl ?_
  refine aw_aload_n (i := 0) (q := 0) dL_law_1192 rfl rfl ?_
  refine aw_iload_n (i := 3) (q := 3) dL_law_1193 rfl rfl ?_
  refine aw_iconst dL_law_1194 ?_
  refine aw_iadd dL_law_1195 ?_
  refine aw_sld rfl ⟨by omega, by omega⟩ hL9 dL_law_1196 ?_
  refine aw_aload_n (i := 0) (q := 0) dL_law_1197 rfl rfl ?_
  refine aw_iload_n (i := 3) (q := 3) dL_law_1198 rfl rfl ?_
  refine aw_iconst dL_law_1199 ?_
  refine aw_iadd dL_law_1200 ?_
  refine aw_sld rfl ⟨by omega, by omega⟩ hL9 dL_law_1201 ?_
  refine aw_c1 (As := [iI (xs (i + 1)), iI (xs (i + 2))]) (st := []) clL_159 hC SH_1 rfl (by decide) rfl rfl (Nat.le_of_ble_eq_true rfl) (by decide) (by decide) hck hsk dL_law_1202 (fun v n1 m s hp => ?_)
  obtain ⟨r, e1, e2, PM, hM, hk2⟩ := hk v n1 m s hp
  refine ⟨r, e1, e2, ?_⟩
  refine aw_aload_n (i := 2) (q := 2) dL_law_1205 rfl rfl ?_
  refine aw_aload_n (i := 0) (q := 0) dL_law_1206 rfl rfl ?_
  refine aw_iload_n (i := 3) (q := 3) dL_law_1207 rfl rfl ?_
  refine aw_iconst dL_law_1208 ?_
  refine aw_iadd dL_law_1209 ?_
  refine aw_sld rfl ⟨by omega, by omega⟩ hL9 dL_law_1210 ?_
  refine aw_aload_n (i := 0) (q := 0) dL_law_1211 rfl rfl ?_
  refine aw_iload_n (i := 3) (q := 3) dL_law_1212 rfl rfl ?_
  refine aw_iconst dL_law_1213 ?_
  refine aw_iadd dL_law_1214 ?_
  refine aw_sld rfl ⟨by omega, by omega⟩ hL9 dL_law_1215 ?_
  refine aw_c1 (As := [iI (xs (i + 1)), iI (xs (i + 2))]) (st := [iI r]) clL_162 hM SH_58 rfl (by decide) rfl rfl (Nat.le_of_ble_eq_true rfl) (by decide) (by decide) hck hsk dL_law_1216 (fun v2 n2 m2 s2 hq => ?_)
  obtain ⟨e3, e4, F, h9⟩ := hk2 v2 n2 m2 s2 hq
  refine ⟨r, e3, e4, ?_⟩
  exact aw_same dL_law_1219 (by decide) (kx m2 s2 F h9)
theorem lc_36 (hx : ∀ j : Int, -2147483648 ≤ xs j ∧ xs j ≤ 2147483647) (hi : 0 ≤ i ∧ i + 6 ≤ L) (hL9 : L ≤ 2147483647) (hck : ck ≤ 600000) (hsk : sk ≤ 7302250) (h : RS mi mr E) (kx : ∀ (m : aM) (s : aR) (F : Int → Nat), RS m s F → AL L xs ck sk 1523 i [] m s) : AL L xs ck sk 1224 i [] mi mr := by
  unfold AL lwV at kx ⊢
  obtain ⟨PC, hC, hk⟩ := o_stopMotor h (hx (i + 1))
  refine aw_aload_n (i := 1) (q := 1) dL_law_1224 rfl rfl ?_
  refine aw_aload_n (i := 0) (q := 0) dL_law_1225 rfl rfl ?_
  refine aw_iload_n (i := 3) (q := 3) dL_law_1226 rfl rfl ?_
  refine aw_iconst dL_law_1227 ?_
  refine aw_iadd dL_law_1228 ?_
  refine aw_sld rfl ⟨by omega, by omega⟩ hL9 dL_law_1229 ?_
  refine aw_c1 (As := [iI (xs (i + 1))]) (st := []) clL_163 hC SH_1 rfl (by decide) rfl rfl (Nat.le_of_ble_eq_true rfl) (by decide) (by decide) hck hsk dL_law_1230 (fun v n1 m s hp => ?_)
  obtain ⟨r, e1, e2, PM, hM, hk2⟩ := hk v n1 m s hp
  refine ⟨r, e1, e2, ?_⟩
  refine aw_aload_n (i := 2) (q := 2) dL_law_1233 rfl rfl ?_
  refine aw_aload_n (i := 0) (q := 0) dL_law_1234 rfl rfl ?_
  refine aw_iload_n (i := 3) (q := 3) dL_law_1235 rfl rfl ?_
  refine aw_iconst dL_law_1236 ?_
  refine aw_iadd dL_law_1237 ?_
  refine aw_sld rfl ⟨by omega, by omega⟩ hL9 dL_law_1238 ?_
  refine aw_c1 (As := [iI (xs (i + 1))]) (st := [iI r]) clL_166 hM SH_58 rfl (by decide) rfl rfl (Nat.le_of_ble_eq_true rfl) (by decide) (by decide) hck hsk dL_law_1239 (fun v2 n2 m2 s2 hq => ?_)
  obtain ⟨e3, e4, F, h9⟩ := hk2 v2 n2 m2 s2 hq
  refine ⟨r, e3, e4, ?_⟩
  exact aw_same dL_law_1242 (by decide) (kx m2 s2 F h9)
theorem lc_37 (hx : ∀ j : Int, -2147483648 ≤ xs j ∧ xs j ≤ 2147483647) (hi : 0 ≤ i ∧ i + 6 ≤ L) (hL9 : L ≤ 2147483647) (hck : ck ≤ 600000) (hsk : sk ≤ 7302250) (h : RS mi mr E) (kx : ∀ (m : aM) (s : aR) (F : Int → Nat), RS m s F → AL L xs ck sk 1523 i [] m s) : AL L xs ck sk 1247 i [] mi mr := by
  unfold AL lwV at kx ⊢
  by_cases z : xs (i + 2) = 0
  · obtain ⟨PC, hC, hk⟩ := o_holdClapper h (hx (i + 1)) (x := 0) (Or.inl rfl)
    refine aw_aload_n (i := 1) (q := 1) dL_law_1247 rfl rfl ?_
    refine aw_aload_n (i := 0) (q := 0) dL_law_1248 rfl rfl ?_
    refine aw_iload_n (i := 3) (q := 3) dL_law_1249 rfl rfl ?_
    refine aw_iconst dL_law_1250 ?_
    refine aw_iadd dL_law_1251 ?_
    refine aw_sld rfl ⟨by omega, by omega⟩ hL9 dL_law_1252 ?_
    refine aw_aload_n (i := 0) (q := 0) dL_law_1253 rfl rfl ?_
    refine aw_iload_n (i := 3) (q := 3) dL_law_1254 rfl rfl ?_
    refine aw_iconst dL_law_1255 ?_
    refine aw_iadd dL_law_1256 ?_
    refine aw_sld rfl ⟨by omega, by omega⟩ hL9 dL_law_1257 ?_
    refine aw_if_eq (tgt := 1265) dL_law_1258 (by decide) (hx _) (fun c => ?_) (fun c => absurd z c)
    refine aw_iconst dL_law_1265 ?_
    refine aw_c1 (As := [iI (xs (i + 1)), iI 0]) (st := []) clL_167 hC SH_1 rfl (by decide) rfl rfl (Nat.le_of_ble_eq_true rfl) (by decide) (by decide) hck hsk dL_law_1266 (fun v n1 m s hp => ?_)
    obtain ⟨r, e1, e2, PM, hM, hk2⟩ := hk v n1 m s hp
    refine ⟨r, e1, e2, ?_⟩
    refine aw_aload_n (i := 2) (q := 2) dL_law_1269 rfl rfl ?_
    refine aw_aload_n (i := 0) (q := 0) dL_law_1270 rfl rfl ?_
    refine aw_iload_n (i := 3) (q := 3) dL_law_1271 rfl rfl ?_
    refine aw_iconst dL_law_1272 ?_
    refine aw_iadd dL_law_1273 ?_
    refine aw_sld rfl ⟨by omega, by omega⟩ hL9 dL_law_1274 ?_
    refine aw_aload_n (i := 0) (q := 0) dL_law_1275 rfl rfl ?_
    refine aw_iload_n (i := 3) (q := 3) dL_law_1276 rfl rfl ?_
    refine aw_iconst dL_law_1277 ?_
    refine aw_iadd dL_law_1278 ?_
    refine aw_sld rfl ⟨by omega, by omega⟩ hL9 dL_law_1279 ?_
    refine aw_if_eq (tgt := 1287) dL_law_1280 (by decide) (hx _) (fun c => ?_) (fun c => absurd z c)
    refine aw_iconst dL_law_1287 ?_
    refine aw_c1 (As := [iI (xs (i + 1)), iI 0]) (st := [iI r]) clL_171 hM SH_58 rfl (by decide) rfl rfl (Nat.le_of_ble_eq_true rfl) (by decide) (by decide) hck hsk dL_law_1288 (fun v2 n2 m2 s2 hq => ?_)
    obtain ⟨e3, e4, F, h9⟩ := hk2 v2 n2 m2 s2 hq
    refine ⟨r, e3, e4, ?_⟩
    exact aw_same dL_law_1291 (by decide) (kx m2 s2 F h9)
  · obtain ⟨PC, hC, hk⟩ := o_holdClapper h (hx (i + 1)) (x := 1) (Or.inr rfl)
    refine aw_aload_n (i := 1) (q := 1) dL_law_1247 rfl rfl ?_
    refine aw_aload_n (i := 0) (q := 0) dL_law_1248 rfl rfl ?_
    refine aw_iload_n (i := 3) (q := 3) dL_law_1249 rfl rfl ?_
    refine aw_iconst dL_law_1250 ?_
    refine aw_iadd dL_law_1251 ?_
    refine aw_sld rfl ⟨by omega, by omega⟩ hL9 dL_law_1252 ?_
    refine aw_aload_n (i := 0) (q := 0) dL_law_1253 rfl rfl ?_
    refine aw_iload_n (i := 3) (q := 3) dL_law_1254 rfl rfl ?_
    refine aw_iconst dL_law_1255 ?_
    refine aw_iadd dL_law_1256 ?_
    refine aw_sld rfl ⟨by omega, by omega⟩ hL9 dL_law_1257 ?_
    refine aw_if_eq (tgt := 1265) dL_law_1258 (by decide) (hx _) (fun c => absurd c z) (fun c => ?_)
    refine aw_iconst dL_law_1261 ?_
    refine aw_goto (tgt := 1266) dL_law_1262 (by decide) ?_
    refine aw_c1 (As := [iI (xs (i + 1)), iI 1]) (st := []) clL_167 hC SH_1 rfl (by decide) rfl rfl (Nat.le_of_ble_eq_true rfl) (by decide) (by decide) hck hsk dL_law_1266 (fun v n1 m s hp => ?_)
    obtain ⟨r, e1, e2, PM, hM, hk2⟩ := hk v n1 m s hp
    refine ⟨r, e1, e2, ?_⟩
    refine aw_aload_n (i := 2) (q := 2) dL_law_1269 rfl rfl ?_
    refine aw_aload_n (i := 0) (q := 0) dL_law_1270 rfl rfl ?_
    refine aw_iload_n (i := 3) (q := 3) dL_law_1271 rfl rfl ?_
    refine aw_iconst dL_law_1272 ?_
    refine aw_iadd dL_law_1273 ?_
    refine aw_sld rfl ⟨by omega, by omega⟩ hL9 dL_law_1274 ?_
    refine aw_aload_n (i := 0) (q := 0) dL_law_1275 rfl rfl ?_
    refine aw_iload_n (i := 3) (q := 3) dL_law_1276 rfl rfl ?_
    refine aw_iconst dL_law_1277 ?_
    refine aw_iadd dL_law_1278 ?_
    refine aw_sld rfl ⟨by omega, by omega⟩ hL9 dL_law_1279 ?_
    refine aw_if_eq (tgt := 1287) dL_law_1280 (by decide) (hx _) (fun c => absurd c z) (fun c => ?_)
    refine aw_iconst dL_law_1283 ?_
    refine aw_goto (tgt := 1288) dL_law_1284 (by decide) ?_
    refine aw_c1 (As := [iI (xs (i + 1)), iI 1]) (st := [iI r]) clL_171 hM SH_58 rfl (by decide) rfl rfl (Nat.le_of_ble_eq_true rfl) (by decide) (by decide) hck hsk dL_law_1288 (fun v2 n2 m2 s2 hq => ?_)
    obtain ⟨e3, e4, F, h9⟩ := hk2 v2 n2 m2 s2 hq
    refine ⟨r, e3, e4, ?_⟩
    exact aw_same dL_law_1291 (by decide) (kx m2 s2 F h9)
theorem lc_38 (hx : ∀ j : Int, -2147483648 ≤ xs j ∧ xs j ≤ 2147483647) (hi : 0 ≤ i ∧ i + 6 ≤ L) (hL9 : L ≤ 2147483647) (hck : ck ≤ 600000) (hsk : sk ≤ 7302250) (h : RS mi mr E) (kx : ∀ (m : aM) (s : aR) (F : Int → Nat), RS m s F → AL L xs ck sk 1523 i [] m s) : AL L xs ck sk 1296 i [] mi mr := by
  unfold AL lwV at kx ⊢
  obtain ⟨PC, hC, hk⟩ := o_amplitude h (hx (i + 1))
  refine aw_aload_n (i := 1) (q := 1) dL_law_1296 rfl rfl ?_
  refine aw_aload_n (i := 0) (q := 0) dL_law_1297 rfl rfl ?_
  refine aw_iload_n (i := 3) (q := 3) dL_law_1298 rfl rfl ?_
  refine aw_iconst dL_law_1299 ?_
  refine aw_iadd dL_law_1300 ?_
  refine aw_sld rfl ⟨by omega, by omega⟩ hL9 dL_law_1301 ?_
  refine aw_c1 (As := [iI (xs (i + 1))]) (st := []) clL_172 hC SH_1 rfl (by decide) rfl rfl (Nat.le_of_ble_eq_true rfl) (by decide) (by decide) hck hsk dL_law_1302 (fun v n1 m s hp => ?_)
  obtain ⟨r, e1, e2, PM, hM, hk2⟩ := hk v n1 m s hp
  refine ⟨r, e1, e2, ?_⟩
  refine aw_aload_n (i := 2) (q := 2) dL_law_1305 rfl rfl ?_
  refine aw_aload_n (i := 0) (q := 0) dL_law_1306 rfl rfl ?_
  refine aw_iload_n (i := 3) (q := 3) dL_law_1307 rfl rfl ?_
  refine aw_iconst dL_law_1308 ?_
  refine aw_iadd dL_law_1309 ?_
  refine aw_sld rfl ⟨by omega, by omega⟩ hL9 dL_law_1310 ?_
  refine aw_c1 (As := [iI (xs (i + 1))]) (st := [iI r]) clL_175 hM SH_58 rfl (by decide) rfl rfl (Nat.le_of_ble_eq_true rfl) (by decide) (by decide) hck hsk dL_law_1311 (fun v2 n2 m2 s2 hq => ?_)
  obtain ⟨e3, e4, F, h9⟩ := hk2 v2 n2 m2 s2 hq
  refine ⟨r, e3, e4, ?_⟩
  exact aw_same dL_law_1314 (by decide) (kx m2 s2 F h9)
theorem lc_39 (hx : ∀ j : Int, -2147483648 ≤ xs j ∧ xs j ≤ 2147483647) (hi : 0 ≤ i ∧ i + 6 ≤ L) (hL9 : L ≤ 2147483647) (hck : ck ≤ 600000) (hsk : sk ≤ 7302250) (h : RS mi mr E) (kx : ∀ (m : aM) (s : aR) (F : Int → Nat), RS m s F → AL L xs ck sk 1523 i [] m s) : AL L xs ck sk 1319 i [] mi mr := by
  unfold AL lwV at kx ⊢
  obtain ⟨PC, hC, hk⟩ := o_nextTurn h (hx (i + 1))
  refine aw_aload_n (i := 1) (q := 1) dL_law_1319 rfl rfl ?_
  refine aw_aload_n (i := 0) (q := 0) dL_law_1320 rfl rfl ?_
  refine aw_iload_n (i := 3) (q := 3) dL_law_1321 rfl rfl ?_
  refine aw_iconst dL_law_1322 ?_
  refine aw_iadd dL_law_1323 ?_
  refine aw_sld rfl ⟨by omega, by omega⟩ hL9 dL_law_1324 ?_
  refine aw_c1 (As := [iI (xs (i + 1))]) (st := []) clL_176 hC SH_1 rfl (by decide) rfl rfl (Nat.le_of_ble_eq_true rfl) (by decide) (by decide) hck hsk dL_law_1325 (fun v n1 m s hp => ?_)
  obtain ⟨r, e1, e2, PM, hM, hk2⟩ := hk v n1 m s hp
  refine ⟨r, e1, e2, ?_⟩
  refine aw_aload_n (i := 2) (q := 2) dL_law_1328 rfl rfl ?_
  refine aw_aload_n (i := 0) (q := 0) dL_law_1329 rfl rfl ?_
  refine aw_iload_n (i := 3) (q := 3) dL_law_1330 rfl rfl ?_
  refine aw_iconst dL_law_1331 ?_
  refine aw_iadd dL_law_1332 ?_
  refine aw_sld rfl ⟨by omega, by omega⟩ hL9 dL_law_1333 ?_
  refine aw_c1 (As := [iI (xs (i + 1))]) (st := [iI r]) clL_179 hM SH_58 rfl (by decide) rfl rfl (Nat.le_of_ble_eq_true rfl) (by decide) (by decide) hck hsk dL_law_1334 (fun v2 n2 m2 s2 hq => ?_)
  obtain ⟨e3, e4, F, h9⟩ := hk2 v2 n2 m2 s2 hq
  refine ⟨r, e3, e4, ?_⟩
  exact aw_same dL_law_1337 (by decide) (kx m2 s2 F h9)
theorem lc_40 (hx : ∀ j : Int, -2147483648 ≤ xs j ∧ xs j ≤ 2147483647) (hi : 0 ≤ i ∧ i + 6 ≤ L) (hL9 : L ≤ 2147483647) (hck : ck ≤ 600000) (hsk : sk ≤ 7302250) (h : RS mi mr E) (kx : ∀ (m : aM) (s : aR) (F : Int → Nat), RS m s F → AL L xs ck sk 1523 i [] m s) : AL L xs ck sk 1342 i [] mi mr := by
  unfold AL lwV at kx ⊢
  obtain ⟨PC, hC, hk⟩ := o_amplitudeAfter h (hx (i + 1)) (hx (i + 2))
  refine aw_aload_n (i := 1) (q := 1) dL_law_1342 rfl rfl ?_
  refine aw_aload_n (i := 0) (q := 0) dL_law_1343 rfl rfl ?_
  refine aw_iload_n (i := 3) (q := 3) dL_law_1344 rfl rfl ?_
  refine aw_iconst dL_law_1345 ?_
  refine aw_iadd dL_law_1346 ?_
  refine aw_sld rfl ⟨by omega, by omega⟩ hL9 dL_law_1347 ?_
  refine aw_aload_n (i := 0) (q := 0) dL_law_1348 rfl rfl ?_
  refine aw_iload_n (i := 3) (q := 3) dL_law_1349 rfl rfl ?_
  refine aw_iconst dL_law_1350 ?_
  refine aw_iadd dL_law_1351 ?_
  refine aw_sld rfl ⟨by omega, by omega⟩ hL9 dL_law_1352 ?_
  refine aw_c1 (As := [iI (xs (i + 1)), iI (xs (i + 2))]) (st := []) clL_180 hC SH_1 rfl (by decide) rfl rfl (Nat.le_of_ble_eq_true rfl) (by decide) (by decide) hck hsk dL_law_1353 (fun v n1 m s hp => ?_)
  obtain ⟨r, e1, e2, PM, hM, hk2⟩ := hk v n1 m s hp
  refine ⟨r, e1, e2, ?_⟩
  refine aw_aload_n (i := 2) (q := 2) dL_law_1356 rfl rfl ?_
  refine aw_aload_n (i := 0) (q := 0) dL_law_1357 rfl rfl ?_
  refine aw_iload_n (i := 3) (q := 3) dL_law_1358 rfl rfl ?_
  refine aw_iconst dL_law_1359 ?_
  refine aw_iadd dL_law_1360 ?_
  refine aw_sld rfl ⟨by omega, by omega⟩ hL9 dL_law_1361 ?_
  refine aw_aload_n (i := 0) (q := 0) dL_law_1362 rfl rfl ?_
  refine aw_iload_n (i := 3) (q := 3) dL_law_1363 rfl rfl ?_
  refine aw_iconst dL_law_1364 ?_
  refine aw_iadd dL_law_1365 ?_
  refine aw_sld rfl ⟨by omega, by omega⟩ hL9 dL_law_1366 ?_
  refine aw_c1 (As := [iI (xs (i + 1)), iI (xs (i + 2))]) (st := [iI r]) clL_183 hM SH_58 rfl (by decide) rfl rfl (Nat.le_of_ble_eq_true rfl) (by decide) (by decide) hck hsk dL_law_1367 (fun v2 n2 m2 s2 hq => ?_)
  obtain ⟨e3, e4, F, h9⟩ := hk2 v2 n2 m2 s2 hq
  refine ⟨r, e3, e4, ?_⟩
  exact aw_same dL_law_1370 (by decide) (kx m2 s2 F h9)
theorem lc_41 (hx : ∀ j : Int, -2147483648 ≤ xs j ∧ xs j ≤ 2147483647) (hi : 0 ≤ i ∧ i + 6 ≤ L) (hL9 : L ≤ 2147483647) (hck : ck ≤ 600000) (hsk : sk ≤ 7302250) (h : RS mi mr E) (kx : ∀ (m : aM) (s : aR) (F : Int → Nat), RS m s F → AL L xs ck sk 1523 i [] m s) : AL L xs ck sk 1375 i [] mi mr := by
  unfold AL lwV at kx ⊢
  obtain ⟨PC, hC, hk⟩ := o_turnsUntilLoud h (hx (i + 1))
  refine aw_aload_n (i := 1) (q := 1) dL_law_1375 rfl rfl ?_
  refine aw_aload_n (i := 0) (q := 0) dL_law_1376 rfl rfl ?_
  refine aw_iload_n (i := 3) (q := 3) dL_law_1377 rfl rfl ?_
  refine aw_iconst dL_law_1378 ?_
  refine aw_iadd dL_law_1379 ?_
  refine aw_sld rfl ⟨by omega, by omega⟩ hL9 dL_law_1380 ?_
  refine aw_c1 (As := [iI (xs (i + 1))]) (st := []) clL_184 hC SH_1 rfl (by decide) rfl rfl (Nat.le_of_ble_eq_true rfl) (by decide) (by decide) hck hsk dL_law_1381 (fun v n1 m s hp => ?_)
  obtain ⟨r, e1, e2, PM, hM, hk2⟩ := hk v n1 m s hp
  refine ⟨r, e1, e2, ?_⟩
  refine aw_aload_n (i := 2) (q := 2) dL_law_1384 rfl rfl ?_
  refine aw_aload_n (i := 0) (q := 0) dL_law_1385 rfl rfl ?_
  refine aw_iload_n (i := 3) (q := 3) dL_law_1386 rfl rfl ?_
  refine aw_iconst dL_law_1387 ?_
  refine aw_iadd dL_law_1388 ?_
  refine aw_sld rfl ⟨by omega, by omega⟩ hL9 dL_law_1389 ?_
  refine aw_c1 (As := [iI (xs (i + 1))]) (st := [iI r]) clL_187 hM SH_58 rfl (by decide) rfl rfl (Nat.le_of_ble_eq_true rfl) (by decide) (by decide) hck hsk dL_law_1390 (fun v2 n2 m2 s2 hq => ?_)
  obtain ⟨e3, e4, F, h9⟩ := hk2 v2 n2 m2 s2 hq
  refine ⟨r, e3, e4, ?_⟩
  exact aw_same dL_law_1393 (by decide) (kx m2 s2 F h9)
theorem lc_42 (hx : ∀ j : Int, -2147483648 ≤ xs j ∧ xs j ≤ 2147483647) (hi : 0 ≤ i ∧ i + 6 ≤ L) (hL9 : L ≤ 2147483647) (hck : ck ≤ 600000) (hsk : sk ≤ 7302250) (h : RS mi mr E) (kx : ∀ (m : aM) (s : aR) (F : Int → Nat), RS m s F → AL L xs ck sk 1523 i [] m s) : AL L xs ck sk 1398 i [] mi mr := by
  unfold AL lwV at kx ⊢
  obtain ⟨PC, hC, hk⟩ := o_force h (hx (i + 1))
  refine aw_aload_n (i := 1) (q := 1) dL_law_1398 rfl rfl ?_
  refine aw_aload_n (i := 0) (q := 0) dL_law_1399 rfl rfl ?_
  refine aw_iload_n (i := 3) (q := 3) dL_law_1400 rfl rfl ?_
  refine aw_iconst dL_law_1401 ?_
  refine aw_iadd dL_law_1402 ?_
  refine aw_sld rfl ⟨by omega, by omega⟩ hL9 dL_law_1403 ?_
  refine aw_c1 (As := [iI (xs (i + 1))]) (st := []) clL_188 hC SH_1 rfl (by decide) rfl rfl (Nat.le_of_ble_eq_true rfl) (by decide) (by decide) hck hsk dL_law_1404 (fun v n1 m s hp => ?_)
  obtain ⟨r, e1, e2, PM, hM, hk2⟩ := hk v n1 m s hp
  refine ⟨r, e1, e2, ?_⟩
  refine aw_aload_n (i := 2) (q := 2) dL_law_1407 rfl rfl ?_
  refine aw_aload_n (i := 0) (q := 0) dL_law_1408 rfl rfl ?_
  refine aw_iload_n (i := 3) (q := 3) dL_law_1409 rfl rfl ?_
  refine aw_iconst dL_law_1410 ?_
  refine aw_iadd dL_law_1411 ?_
  refine aw_sld rfl ⟨by omega, by omega⟩ hL9 dL_law_1412 ?_
  refine aw_c1 (As := [iI (xs (i + 1))]) (st := [iI r]) clL_191 hM SH_58 rfl (by decide) rfl rfl (Nat.le_of_ble_eq_true rfl) (by decide) (by decide) hck hsk dL_law_1413 (fun v2 n2 m2 s2 hq => ?_)
  obtain ⟨e3, e4, F, h9⟩ := hk2 v2 n2 m2 s2 hq
  refine ⟨r, e3, e4, ?_⟩
  exact aw_same dL_law_1416 (by decide) (kx m2 s2 F h9)
theorem lc_43 (hx : ∀ j : Int, -2147483648 ≤ xs j ∧ xs j ≤ 2147483647) (hi : 0 ≤ i ∧ i + 6 ≤ L) (hL9 : L ≤ 2147483647) (hck : ck ≤ 600000) (hsk : sk ≤ 7302250) (h : RS mi mr E) (kx : ∀ (m : aM) (s : aR) (F : Int → Nat), RS m s F → AL L xs ck sk 1523 i [] m s) : AL L xs ck sk 1421 i [] mi mr := by
  unfold AL lwV at kx ⊢
  obtain ⟨PC, hC, hk⟩ := o_shake h (hx (i + 1))
  refine aw_aload_n (i := 1) (q := 1) dL_law_1421 rfl rfl ?_
  refine aw_aload_n (i := 0) (q := 0) dL_law_1422 rfl rfl ?_
  refine aw_iload_n (i := 3) (q := 3) dL_law_1423 rfl rfl ?_
  refine aw_iconst dL_law_1424 ?_
  refine aw_iadd dL_law_1425 ?_
  refine aw_sld rfl ⟨by omega, by omega⟩ hL9 dL_law_1426 ?_
  refine aw_c1 (As := [iI (xs (i + 1))]) (st := []) clL_192 hC SH_1 rfl (by decide) rfl rfl (Nat.le_of_ble_eq_true rfl) (by decide) (by decide) hck hsk dL_law_1427 (fun v n1 m s hp => ?_)
  obtain ⟨r, e1, e2, PM, hM, hk2⟩ := hk v n1 m s hp
  refine ⟨r, e1, e2, ?_⟩
  refine aw_aload_n (i := 2) (q := 2) dL_law_1430 rfl rfl ?_
  refine aw_aload_n (i := 0) (q := 0) dL_law_1431 rfl rfl ?_
  refine aw_iload_n (i := 3) (q := 3) dL_law_1432 rfl rfl ?_
  refine aw_iconst dL_law_1433 ?_
  refine aw_iadd dL_law_1434 ?_
  refine aw_sld rfl ⟨by omega, by omega⟩ hL9 dL_law_1435 ?_
  refine aw_c1 (As := [iI (xs (i + 1))]) (st := [iI r]) clL_195 hM SH_58 rfl (by decide) rfl rfl (Nat.le_of_ble_eq_true rfl) (by decide) (by decide) hck hsk dL_law_1436 (fun v2 n2 m2 s2 hq => ?_)
  obtain ⟨e3, e4, F, h9⟩ := hk2 v2 n2 m2 s2 hq
  refine ⟨r, e3, e4, ?_⟩
  exact aw_same dL_law_1439 (by decide) (kx m2 s2 F h9)
theorem lc_44 (hx : ∀ j : Int, -2147483648 ≤ xs j ∧ xs j ≤ 2147483647) (hi : 0 ≤ i ∧ i + 6 ≤ L) (hL9 : L ≤ 2147483647) (hck : ck ≤ 600000) (hsk : sk ≤ 7302250) (h : RS mi mr E) (kx : ∀ (m : aM) (s : aR) (F : Int → Nat), RS m s F → AL L xs ck sk 1523 i [] m s) : AL L xs ck sk 1444 i [] mi mr := by
  unfold AL lwV at kx ⊢
  obtain ⟨PC, hC, hk⟩ := o_greatestShake h (hx (i + 1))
  refine aw_aload_n (i := 1) (q := 1) dL_law_1444 rfl rfl ?_
  refine aw_aload_n (i := 0) (q := 0) dL_law_1445 rfl rfl ?_
  refine aw_iload_n (i := 3) (q := 3) dL_law_1446 rfl rfl ?_
  refine aw_iconst dL_law_1447 ?_
  refine aw_iadd dL_law_1448 ?_
  refine aw_sld rfl ⟨by omega, by omega⟩ hL9 dL_law_1449 ?_
  refine aw_c1 (As := [iI (xs (i + 1))]) (st := []) clL_196 hC SH_1 rfl (by decide) rfl rfl (Nat.le_of_ble_eq_true rfl) (by decide) (by decide) hck hsk dL_law_1450 (fun v n1 m s hp => ?_)
  obtain ⟨r, e1, e2, PM, hM, hk2⟩ := hk v n1 m s hp
  refine ⟨r, e1, e2, ?_⟩
  refine aw_aload_n (i := 2) (q := 2) dL_law_1453 rfl rfl ?_
  refine aw_aload_n (i := 0) (q := 0) dL_law_1454 rfl rfl ?_
  refine aw_iload_n (i := 3) (q := 3) dL_law_1455 rfl rfl ?_
  refine aw_iconst dL_law_1456 ?_
  refine aw_iadd dL_law_1457 ?_
  refine aw_sld rfl ⟨by omega, by omega⟩ hL9 dL_law_1458 ?_
  refine aw_c1 (As := [iI (xs (i + 1))]) (st := [iI r]) clL_199 hM SH_58 rfl (by decide) rfl rfl (Nat.le_of_ble_eq_true rfl) (by decide) (by decide) hck hsk dL_law_1459 (fun v2 n2 m2 s2 hq => ?_)
  obtain ⟨e3, e4, F, h9⟩ := hk2 v2 n2 m2 s2 hq
  refine ⟨r, e3, e4, ?_⟩
  exact aw_same dL_law_1462 (by decide) (kx m2 s2 F h9)
theorem lc_45 (hx : ∀ j : Int, -2147483648 ≤ xs j ∧ xs j ≤ 2147483647) (hi : 0 ≤ i ∧ i + 6 ≤ L) (hL9 : L ≤ 2147483647) (hck : ck ≤ 600000) (hsk : sk ≤ 7302250) (h : RS mi mr E) (kx : ∀ (m : aM) (s : aR) (F : Int → Nat), RS m s F → AL L xs ck sk 1523 i [] m s) : AL L xs ck sk 1467 i [] mi mr := by
  unfold AL lwV at kx ⊢
  obtain ⟨PC, hC, hk⟩ := o_setShakeLimit h (hx (i + 1))
  refine aw_aload_n (i := 1) (q := 1) dL_law_1467 rfl rfl ?_
  refine aw_aload_n (i := 0) (q := 0) dL_law_1468 rfl rfl ?_
  refine aw_iload_n (i := 3) (q := 3) dL_law_1469 rfl rfl ?_
  refine aw_iconst dL_law_1470 ?_
  refine aw_iadd dL_law_1471 ?_
  refine aw_sld rfl ⟨by omega, by omega⟩ hL9 dL_law_1472 ?_
  refine aw_c1 (As := [iI (xs (i + 1))]) (st := []) clL_200 hC SH_1 rfl (by decide) rfl rfl (Nat.le_of_ble_eq_true rfl) (by decide) (by decide) hck hsk dL_law_1473 (fun v n1 m s hp => ?_)
  obtain ⟨r, e1, e2, PM, hM, hk2⟩ := hk v n1 m s hp
  refine ⟨r, e1, e2, ?_⟩
  refine aw_aload_n (i := 2) (q := 2) dL_law_1476 rfl rfl ?_
  refine aw_aload_n (i := 0) (q := 0) dL_law_1477 rfl rfl ?_
  refine aw_iload_n (i := 3) (q := 3) dL_law_1478 rfl rfl ?_
  refine aw_iconst dL_law_1479 ?_
  refine aw_iadd dL_law_1480 ?_
  refine aw_sld rfl ⟨by omega, by omega⟩ hL9 dL_law_1481 ?_
  refine aw_c1 (As := [iI (xs (i + 1))]) (st := [iI r]) clL_203 hM SH_58 rfl (by decide) rfl rfl (Nat.le_of_ble_eq_true rfl) (by decide) (by decide) hck hsk dL_law_1482 (fun v2 n2 m2 s2 hq => ?_)
  obtain ⟨e3, e4, F, h9⟩ := hk2 v2 n2 m2 s2 hq
  refine ⟨r, e3, e4, ?_⟩
  exact aw_same dL_law_1485 (by decide) (kx m2 s2 F h9)
theorem lc_46 (hx : ∀ j : Int, -2147483648 ≤ xs j ∧ xs j ≤ 2147483647) (hi : 0 ≤ i ∧ i + 6 ≤ L) (hL9 : L ≤ 2147483647) (hck : ck ≤ 600000) (hsk : sk ≤ 7302250) (h : RS mi mr E) (kx : ∀ (m : aM) (s : aR) (F : Int → Nat), RS m s F → AL L xs ck sk 1523 i [] m s) : AL L xs ck sk 1490 i [] mi mr := by
  unfold AL lwV at kx ⊢
  obtain ⟨PC, hC, hk⟩ := o_calmestWait h (hx (i + 1)) (hx (i + 2))
  refine aw_aload_n (i := 1) (q := 1) dL_law_1490 rfl rfl ?_
  refine aw_aload_n (i := 0) (q := 0) dL_law_1491 rfl rfl ?_
  refine aw_iload_n (i := 3) (q := 3) dL_law_1492 rfl rfl ?_
  refine aw_iconst dL_law_1493 ?_
  refine aw_iadd dL_law_1494 ?_
  refine aw_sld rfl ⟨by omega, by omega⟩ hL9 dL_law_1495 ?_
  refine aw_aload_n (i := 0) (q := 0) dL_law_1496 rfl rfl ?_
  refine aw_iload_n (i := 3) (q := 3) dL_law_1497 rfl rfl ?_
  refine aw_iconst dL_law_1498 ?_
  refine aw_iadd dL_law_1499 ?_
  refine aw_sld rfl ⟨by omega, by omega⟩ hL9 dL_law_1500 ?_
  refine aw_c1 (As := [iI (xs (i + 1)), iI (xs (i + 2))]) (st := []) clL_204 hC SH_1 rfl (by decide) rfl rfl (Nat.le_of_ble_eq_true rfl) (by decide) (by decide) hck hsk dL_law_1501 (fun v n1 m s hp => ?_)
  obtain ⟨r, e1, e2, PM, hM, hk2⟩ := hk v n1 m s hp
  refine ⟨r, e1, e2, ?_⟩
  refine aw_aload_n (i := 2) (q := 2) dL_law_1504 rfl rfl ?_
  refine aw_aload_n (i := 0) (q := 0) dL_law_1505 rfl rfl ?_
  refine aw_iload_n (i := 3) (q := 3) dL_law_1506 rfl rfl ?_
  refine aw_iconst dL_law_1507 ?_
  refine aw_iadd dL_law_1508 ?_
  refine aw_sld rfl ⟨by omega, by omega⟩ hL9 dL_law_1509 ?_
  refine aw_aload_n (i := 0) (q := 0) dL_law_1510 rfl rfl ?_
  refine aw_iload_n (i := 3) (q := 3) dL_law_1511 rfl rfl ?_
  refine aw_iconst dL_law_1512 ?_
  refine aw_iadd dL_law_1513 ?_
  refine aw_sld rfl ⟨by omega, by omega⟩ hL9 dL_law_1514 ?_
  refine aw_c1 (As := [iI (xs (i + 1)), iI (xs (i + 2))]) (st := [iI r]) clL_207 hM SH_58 rfl (by decide) rfl rfl (Nat.le_of_ble_eq_true rfl) (by decide) (by decide) hck hsk dL_law_1515 (fun v2 n2 m2 s2 hq => ?_)
  obtain ⟨e3, e4, F, h9⟩ := hk2 v2 n2 m2 s2 hq
  refine ⟨r, e3, e4, ?_⟩
  exact aw_same dL_law_1518 (by decide) (kx m2 s2 F h9)
end CASES

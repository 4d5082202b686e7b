/-! THE LAW'S CASES -/
set_option maxRecDepth 100000 in
set_option maxHeartbeats 4000000 in
theorem lw_addResource {l : Launch} {dd : kDD} {g : kG} (X : kX dd g cL_law RL wsLaw) (hRR : kR g = room_1) (hnL : knL g = 9) (hl0 : kL g = l) {sc L i : Nat} {xs : Nat → Int32} (hs : kScr g sc L xs) (hLL : L ≤ 3584) (hi : i + 6 < L) {a b : Nat} {c x : kT} {M : mS} {xa o1 o2 : Nat} {adr : Nat → Nat} (hw : LWS dd c M xa) (hx : XW dd x o1 o2) (ha : a + 8 ≤ 603072) (hb : b + 140 ≤ 7219306) (K : ∀ (c2 x2 : kT) (M2 : mS), LWS dd c2 M2 xa → XW dd x2 o1 o2 → kv dd g (a + 8) (b + 140) 2529 [(0, .ref sc), (1, .ref xa), (2, .ref (adr 0)), (3, .ref o1), (4, .ref o2), (5, .int (nI i))] [] (jk c2 (mK, adr, mE dd adr M2) x2) (jd c2 (mK, adr, mE dd adr M2) x2) (jE c2 (mK, adr, mE dd adr M2) x2)) : kv dd g a b 220 [(0, .ref sc), (1, .ref xa), (2, .ref (adr 0)), (3, .ref o1), (4, .ref o2), (5, .int (nI i))] [] (jk c (mK, adr, mE dd adr M) x) (jd c (mK, adr, mE dd adr M) x) (jE c (mK, adr, mE dd adr M) x) := by
  obtain ⟨ks, ad, E, e, nR, nC, nt, nL, nW, nV, nM, cn, nm, mn, me, li, rl, hks, hcf, rfl, hI, hO, hR, hC, hT, hL, hW, hV, hM⟩ := LWS_open hw
  obtain ⟨iR, iC, iT, iL, iW, iV, iM, hcn, hnm, hmn, hme, hs2, hli, hB, hpk, hmI, hmR, hmIc, hmRc, hlG⟩ := rI_all hI
  have hxx := hx
  obtain ⟨hx0, hx1, rfl, rfl, ⟨f0, hf0⟩, ⟨f1, hf1⟩⟩ := hx
  refine kv_cf ?_
  rw [hcf]
  refine kv_aload_n X 1 dL_law_220 rfl rfl ?_
  refine kv_arg X hs hLL 1 (by omega) 0 5 rfl rfl (by decide) dL_law_221 dL_law_222 dL_law_224 dL_law_225 dL_law_226 ?_
  refine kv_arg X hs hLL 2 (by omega) 0 5 rfl rfl (by decide) dL_law_227 dL_law_228 dL_law_230 dL_law_231 dL_law_232 ?_
  refine kv_arg X hs hLL 3 (by omega) 0 5 rfl rfl (by decide) dL_law_233 dL_law_234 dL_law_236 dL_law_237 dL_law_238 ?_
  refine kv_arg X hs hLL 4 (by omega) 0 5 rfl rfl (by decide) dL_law_239 dL_law_240 dL_law_242 dL_law_243 dL_law_244 ?_
  refine kv_aload_n X 3 dL_law_245 rfl rfl ?_
  refine kv_calliSW (As := [.ref (ad 0), .int (xs (i + 1)), .int (xs (i + 2)), .int (xs (i + 3)), .int (xs (i + 4)), .ref (x.2.1 0)]) [] X (c_L_addResource l dd ks ad E e (mK, adr, mE dd adr M) x hks M nR nC nt nL nW nV nM cn nm mn me li rl (M.1 24) hO hR hC hT hL hW hV hM hB (cmI (M.2.1 22) nV) (cmI (M.2.1 23) nV) hmIc hmRc hpk (xs (i + 1)) (xs (i + 2)) (xs (i + 3)) (xs (i + 4)) f0 ⟨hx0, hf0⟩) hl0 (kCSW_of X 6 (show GoodIn wsLaw (va_wsS RL 138 yL_addResource (wsL_addResource ++ kHx)) from gK (pre := [Cond.methodLink RL 138 yL_addResource, Cond.static yL_addResource, Cond.initialized yL_addResource.cls]) gL_law_L_addResource) rfl rfl rfl (by decide +kernel) hRR ⟨(Nat.le_of_ble_eq_true rfl), (Nat.le_of_ble_eq_true rfl)⟩) rfl rfl (Nat.le_of_ble_eq_true rfl) hRR ⟨ha, hb⟩ dL_law_246 (fun r9 z hp => ?_)
  obtain ⟨z1, z2⟩ := z
  show kv dd g (a + 8) (b + 140) 249 [(0, .ref sc), (1, .ref (ad 0)), (2, .ref (adr 0)), (3, .ref (x.2.1 0)), (4, .ref (x.2.1 1)), (5, .int (nI i))] [.int r9] (jk z1 (mK, adr, mE dd adr M) z2) (jd z1 (mK, adr, mE dd adr M) z2) (jE z1 (mK, adr, mE dd adr M) z2)
  refine kv_istore (lv2 := [(6, .int r9), (0, .ref sc), (1, .ref (ad 0)), (2, .ref (adr 0)), (3, .ref (x.2.1 0)), (4, .ref (x.2.1 1)), (5, .int (nI i))]) X dL_law_249 (by rw [hnL]; decide) rfl ?_
  refine kv_aload_n X 3 dL_law_251 rfl rfl ?_
  refine kv_arg X hs hLL 1 (by omega) 1 6 rfl rfl (by decide) dL_law_252 dL_law_253 dL_law_255 dL_law_256 dL_law_257 ?_
  refine kv_arg X hs hLL 2 (by omega) 1 6 rfl rfl (by decide) dL_law_258 dL_law_259 dL_law_261 dL_law_262 dL_law_263 ?_
  refine kv_arg X hs hLL 3 (by omega) 1 6 rfl rfl (by decide) dL_law_264 dL_law_265 dL_law_267 dL_law_268 dL_law_269 ?_
  refine kv_arg X hs hLL 4 (by omega) 1 6 rfl rfl (by decide) dL_law_270 dL_law_271 dL_law_273 dL_law_274 dL_law_275 ?_
  refine kv_calliV (As := [.int (xs (i + 1)), .int (xs (i + 2)), .int (xs (i + 3)), .int (xs (i + 4))]) [] (ci := 14) (κ := 1000) (rm := ({ frames := 1, cells := 0, slots := 0, locals := 22 } : Room)) (mc := 0) (ms := 0) (r1 := (TX11, 34)) X (kCi_frR (c := z1) (r := (mK, adr, mE dd adr M)) (x := z2) (by rw [cf_id mK_lt]; exact c_X11_addResource l dd adr M (xs (i + 1)) (xs (i + 2)) (xs (i + 3)) (xs (i + 4)) nR iR)) hl0 (kCV_of X 4 (gW gL_law_X11_addResource) rfl rfl rfl (by decide +kernel) hRR ⟨(Nat.le_of_ble_eq_true rfl), (Nat.le_of_ble_eq_true rfl)⟩) (j_r0.1.mpr (show 0 ∈ mK by decide)) (j_r0.2.2.trans rfl) rfl rfl rfl (Nat.le_of_ble_eq_true rfl) hRR ⟨ha, hb⟩ dL_law_276 (fun b9 M2 hq => ?_)
  have hst := st_addResource (e := e) (wx := x) (f0 := f0) hI hO hR hC hT hL hW hV hM hp hq
  obtain ⟨h1, h2, h3, h4⟩ := hst
  show kv dd g (a + 8) (b + 140) 279 [(6, .int r9), (0, .ref sc), (1, .ref (ad 0)), (2, .ref (adr 0)), (3, .ref (x.2.1 0)), (4, .ref (x.2.1 1)), (5, .int (nI i))] [.int b9] (jk z1 (mK, adr, mE dd adr M2) z2) (jd z1 (mK, adr, mE dd adr M2) z2) (jE z1 (mK, adr, mE dd adr M2) z2)
  refine kv_istore (lv2 := [(7, .int b9), (6, .int r9), (0, .ref sc), (1, .ref (ad 0)), (2, .ref (adr 0)), (3, .ref (x.2.1 0)), (4, .ref (x.2.1 1)), (5, .int (nI i))]) X dL_law_279 (by rw [hnL]; decide) rfl ?_
  refine kv_aload_n X 4 dL_law_281 rfl rfl ?_
  refine kv_calliV (As := []) [] (ci := 14) (κ := 1000) (rm := ({ frames := 0, cells := 0, slots := 0, locals := 0 } : Room)) (mc := 0) (ms := 0) (r1 := (TX11, 34)) X (kCi_frR (c := z1) (r := (mK, adr, mE dd adr M2)) (x := z2) (by rw [cf_id mK_lt]; exact c_X11_thrown l dd adr M2 )) hl0 (kCV_of X 0 (gW gL_law_X11_thrown) rfl rfl rfl (by decide +kernel) hRR ⟨(Nat.le_of_ble_eq_true rfl), (Nat.le_of_ble_eq_true rfl)⟩) (j_r0.1.mpr (show 0 ∈ mK by decide)) (j_r0.2.2.trans rfl) rfl rfl rfl (Nat.le_of_ble_eq_true rfl) hRR ⟨ha, hb⟩ dL_law_282 (fun t9 M3 ht => ?_)
  obtain ⟨rfl, rfl⟩ := ht
  show kv dd g (a + 8) (b + 140) 285 [(7, .int b9), (6, .int r9), (0, .ref sc), (1, .ref (ad 0)), (2, .ref (adr 0)), (3, .ref (x.2.1 0)), (4, .ref (x.2.1 1)), (5, .int (nI i))] [.int (M2.1 0)] (jk z1 (mK, adr, mE dd adr M2) z2) (jd z1 (mK, adr, mE dd adr M2) z2) (jE z1 (mK, adr, mE dd adr M2) z2)
  refine kv_iload X 1 dL_law_285 rfl ?_
  refine kv_icmp_eq (tgt := 292) X dL_law_287 (by decide) (fun _ => ?_) (fun h => absurd h1 h)
  refine kv_iload X 1 dL_law_292 rfl ?_
  refine kv_if_ne (tgt := 309) X dL_law_294 (by decide) (fun h => ?_) (fun h => ?_)
  ·
    replace h3 : z2 = x := h3 h
    subst h3
    refine kv_goto (tgt := 2529) X dL_law_309 (by decide) ?_
    refine kv_lv [2, 3, 4, 5, 6, 7] rfl ?_
    exact K z1 _ M2 h4 hxx
  ·
    replace h2 : z2 = xJ dd x f0 b9.toInt64 := h2 h
    subst h2
    refine kv_aload_n X 5 dL_law_297 rfl rfl ?_
    refine kv_iconst (v := 0) X dL_law_298 (by decide) ?_
    refine kv_laload X (κ := 2000) (n := 1) (j := 0) (f := va_up f0 0 b9.toInt64) (j_x0.1.mpr hx0) (j_x0.2.2.trans (va_up_self x.2.2 0 (kJ dd 1 (va_up f0 0 b9.toInt64)))) (by omega) (by omega) dL_law_299 ?_
    show kv dd g (a + 8) (b + 140) 300 [(7, .int b9), (6, .int r9), (0, .ref sc), (1, .ref (ad 0)), (2, .ref (adr 0)), (3, .ref (x.2.1 0)), (4, .ref (x.2.1 1)), (5, .int (nI i))] [.long b9.toInt64] (jk z1 (mK, adr, mE dd adr M2) (xJ dd x f0 b9.toInt64)) (jd z1 (mK, adr, mE dd adr M2) (xJ dd x f0 b9.toInt64)) (jE z1 (mK, adr, mE dd adr M2) (xJ dd x f0 b9.toInt64))
    refine kv_iload X 0 dL_law_300 rfl ?_
    refine kv_i2l X dL_law_302 rfl ?_
    refine kv_lcmp X dL_law_303 ?_
    refine kv_if_eq (tgt := 309) X dL_law_304 (by decide) (fun _ => ?_) (fun h9 => absurd lcs h9)
    refine kv_goto (tgt := 2529) X dL_law_309 (by decide) ?_
    refine kv_lv [2, 3, 4, 5, 6, 7] rfl ?_
    exact K z1 _ M2 h4 (XW_xJ hxx)

set_option maxRecDepth 100000 in
set_option maxHeartbeats 4000000 in
theorem lw_setPrice {l : Launch} {dd : kDD} {g : kG} (X : kX dd g cL_law RL wsLaw) (hRR : kR g = room_1) (hnL : knL g = 9) (hl0 : kL g = l) {sc L i : Nat} {xs : Nat → Int32} (hs : kScr g sc L xs) (hLL : L ≤ 3584) (hi : i + 6 < L) {a b : Nat} {c x : kT} {M : mS} {xa o1 o2 : Nat} {adr : Nat → Nat} (hw : LWS dd c M xa) (hx : XW dd x o1 o2) (ha : a + 2 ≤ 603072) (hb : b + 12 ≤ 7219306) (K : ∀ (c2 x2 : kT) (M2 : mS), LWS dd c2 M2 xa → XW dd x2 o1 o2 → kv dd g (a + 2) (b + 12) 2529 [(0, .ref sc), (1, .ref xa), (2, .ref (adr 0)), (3, .ref o1), (4, .ref o2), (5, .int (nI i))] [] (jk c2 (mK, adr, mE dd adr M2) x2) (jd c2 (mK, adr, mE dd adr M2) x2) (jE c2 (mK, adr, mE dd adr M2) x2)) : kv dd g a b 312 [(0, .ref sc), (1, .ref xa), (2, .ref (adr 0)), (3, .ref o1), (4, .ref o2), (5, .int (nI i))] [] (jk c (mK, adr, mE dd adr M) x) (jd c (mK, adr, mE dd adr M) x) (jE c (mK, adr, mE dd adr M) x) := by
  obtain ⟨ks, ad, E, e, nR, nC, nt, nL, nW, nV, nM, cn, nm, mn, me, li, rl, hks, hcf, rfl, hI, hO, hR, hC, hT, hL, hW, hV, hM⟩ := LWS_open hw
  obtain ⟨iR, iC, iT, iL, iW, iV, iM, hcn, hnm, hmn, hme, hs2, hli, hB, hpk, hmI, hmR, hmIc, hmRc, hlG⟩ := rI_all hI
  have hxx := hx
  obtain ⟨hx0, hx1, rfl, rfl, ⟨f0, hf0⟩, ⟨f1, hf1⟩⟩ := hx
  refine kv_cf ?_
  rw [hcf]
  refine kv_aload_n X 1 dL_law_312 rfl rfl ?_
  refine kv_arg X hs hLL 1 (by omega) 0 5 rfl rfl (by decide) dL_law_313 dL_law_314 dL_law_316 dL_law_317 dL_law_318 ?_
  refine kv_arg X hs hLL 2 (by omega) 0 5 rfl rfl (by decide) dL_law_319 dL_law_320 dL_law_322 dL_law_323 dL_law_324 ?_
  refine kv_aload_n X 3 dL_law_325 rfl rfl ?_
  refine kv_calliSW (As := [.ref (ad 0), .int (xs (i + 1)), .int (xs (i + 2)), .ref (x.2.1 0)]) [] X (c_L_setPrice l dd ks ad E e (mK, adr, mE dd adr M) x hks M nR nC nt nL nW nV nM cn nm mn me li rl (M.1 24) hO hR hC hT hL hW hV hM hB (cmI (M.2.1 22) nV) (cmI (M.2.1 23) nV) hmIc hmRc hpk (xs (i + 1)) (xs (i + 2)) f0 ⟨hx0, hf0⟩) hl0 (kCSW_of X 4 (show GoodIn wsLaw (va_wsS RL 147 yL_setPrice (wsL_setPrice ++ kHx)) from gK (pre := [Cond.methodLink RL 147 yL_setPrice, Cond.static yL_setPrice, Cond.initialized yL_setPrice.cls]) gL_law_L_setPrice) rfl rfl rfl (by decide +kernel) hRR ⟨(Nat.le_of_ble_eq_true rfl), (Nat.le_of_ble_eq_true rfl)⟩) rfl rfl (Nat.le_of_ble_eq_true rfl) hRR ⟨ha, hb⟩ dL_law_326 (fun r9 z hp => ?_)
  obtain ⟨z1, z2⟩ := z
  show kv dd g (a + 2) (b + 12) 329 [(0, .ref sc), (1, .ref (ad 0)), (2, .ref (adr 0)), (3, .ref (x.2.1 0)), (4, .ref (x.2.1 1)), (5, .int (nI i))] [.int r9] (jk z1 (mK, adr, mE dd adr M) z2) (jd z1 (mK, adr, mE dd adr M) z2) (jE z1 (mK, adr, mE dd adr M) z2)
  refine kv_istore (lv2 := [(6, .int r9), (0, .ref sc), (1, .ref (ad 0)), (2, .ref (adr 0)), (3, .ref (x.2.1 0)), (4, .ref (x.2.1 1)), (5, .int (nI i))]) X dL_law_329 (by rw [hnL]; decide) rfl ?_
  refine kv_aload_n X 3 dL_law_331 rfl rfl ?_
  refine kv_arg X hs hLL 1 (by omega) 1 6 rfl rfl (by decide) dL_law_332 dL_law_333 dL_law_335 dL_law_336 dL_law_337 ?_
  refine kv_arg X hs hLL 2 (by omega) 1 6 rfl rfl (by decide) dL_law_338 dL_law_339 dL_law_341 dL_law_342 dL_law_343 ?_
  refine kv_calliV (As := [.int (xs (i + 1)), .int (xs (i + 2))]) [] (ci := 14) (κ := 1000) (rm := ({ frames := 2, cells := 0, slots := 0, locals := 43 } : Room)) (mc := 0) (ms := 0) (r1 := (TX11, 34)) X (kCi_frR (c := z1) (r := (mK, adr, mE dd adr M)) (x := z2) (by rw [cf_id mK_lt]; exact c_X11_setPrice l dd adr M (xs (i + 1)) (xs (i + 2)) nR iR)) hl0 (kCV_of X 2 (gW gL_law_X11_setPrice) rfl rfl rfl (by decide +kernel) hRR ⟨(Nat.le_of_ble_eq_true rfl), (Nat.le_of_ble_eq_true rfl)⟩) (j_r0.1.mpr (show 0 ∈ mK by decide)) (j_r0.2.2.trans rfl) rfl rfl rfl (Nat.le_of_ble_eq_true rfl) hRR ⟨ha, hb⟩ dL_law_344 (fun b9 M2 hq => ?_)
  have hst := st_setPrice (e := e) (wx := x) (f0 := f0) hI hO hR hC hT hL hW hV hM hp hq
  obtain ⟨h1, h2, h3, h4⟩ := hst
  show kv dd g (a + 2) (b + 12) 347 [(6, .int r9), (0, .ref sc), (1, .ref (ad 0)), (2, .ref (adr 0)), (3, .ref (x.2.1 0)), (4, .ref (x.2.1 1)), (5, .int (nI i))] [.int b9] (jk z1 (mK, adr, mE dd adr M2) z2) (jd z1 (mK, adr, mE dd adr M2) z2) (jE z1 (mK, adr, mE dd adr M2) z2)
  refine kv_istore (lv2 := [(7, .int b9), (6, .int r9), (0, .ref sc), (1, .ref (ad 0)), (2, .ref (adr 0)), (3, .ref (x.2.1 0)), (4, .ref (x.2.1 1)), (5, .int (nI i))]) X dL_law_347 (by rw [hnL]; decide) rfl ?_
  refine kv_aload_n X 4 dL_law_349 rfl rfl ?_
  refine kv_calliV (As := []) [] (ci := 14) (κ := 1000) (rm := ({ frames := 0, cells := 0, slots := 0, locals := 0 } : Room)) (mc := 0) (ms := 0) (r1 := (TX11, 34)) X (kCi_frR (c := z1) (r := (mK, adr, mE dd adr M2)) (x := z2) (by rw [cf_id mK_lt]; exact c_X11_thrown l dd adr M2 )) hl0 (kCV_of X 0 (gW gL_law_X11_thrown) rfl rfl rfl (by decide +kernel) hRR ⟨(Nat.le_of_ble_eq_true rfl), (Nat.le_of_ble_eq_true rfl)⟩) (j_r0.1.mpr (show 0 ∈ mK by decide)) (j_r0.2.2.trans rfl) rfl rfl rfl (Nat.le_of_ble_eq_true rfl) hRR ⟨ha, hb⟩ dL_law_350 (fun t9 M3 ht => ?_)
  obtain ⟨rfl, rfl⟩ := ht
  show kv dd g (a + 2) (b + 12) 353 [(7, .int b9), (6, .int r9), (0, .ref sc), (1, .ref (ad 0)), (2, .ref (adr 0)), (3, .ref (x.2.1 0)), (4, .ref (x.2.1 1)), (5, .int (nI i))] [.int (M2.1 0)] (jk z1 (mK, adr, mE dd adr M2) z2) (jd z1 (mK, adr, mE dd adr M2) z2) (jE z1 (mK, adr, mE dd adr M2) z2)
  refine kv_iload X 1 dL_law_353 rfl ?_
  refine kv_icmp_eq (tgt := 360) X dL_law_355 (by decide) (fun _ => ?_) (fun h => absurd h1 h)
  refine kv_iload X 1 dL_law_360 rfl ?_
  refine kv_if_ne (tgt := 377) X dL_law_362 (by decide) (fun h => ?_) (fun h => ?_)
  ·
    replace h3 : z2 = x := h3 h
    subst h3
    refine kv_goto (tgt := 2529) X dL_law_377 (by decide) ?_
    refine kv_lv [2, 3, 4, 5, 6, 7] rfl ?_
    exact K z1 _ M2 h4 hxx
  ·
    replace h2 : z2 = xJ dd x f0 b9.toInt64 := h2 h
    subst h2
    refine kv_aload_n X 5 dL_law_365 rfl rfl ?_
    refine kv_iconst (v := 0) X dL_law_366 (by decide) ?_
    refine kv_laload X (κ := 2000) (n := 1) (j := 0) (f := va_up f0 0 b9.toInt64) (j_x0.1.mpr hx0) (j_x0.2.2.trans (va_up_self x.2.2 0 (kJ dd 1 (va_up f0 0 b9.toInt64)))) (by omega) (by omega) dL_law_367 ?_
    show kv dd g (a + 2) (b + 12) 368 [(7, .int b9), (6, .int r9), (0, .ref sc), (1, .ref (ad 0)), (2, .ref (adr 0)), (3, .ref (x.2.1 0)), (4, .ref (x.2.1 1)), (5, .int (nI i))] [.long b9.toInt64] (jk z1 (mK, adr, mE dd adr M2) (xJ dd x f0 b9.toInt64)) (jd z1 (mK, adr, mE dd adr M2) (xJ dd x f0 b9.toInt64)) (jE z1 (mK, adr, mE dd adr M2) (xJ dd x f0 b9.toInt64))
    refine kv_iload X 0 dL_law_368 rfl ?_
    refine kv_i2l X dL_law_370 rfl ?_
    refine kv_lcmp X dL_law_371 ?_
    refine kv_if_eq (tgt := 377) X dL_law_372 (by decide) (fun _ => ?_) (fun h9 => absurd lcs h9)
    refine kv_goto (tgt := 2529) X dL_law_377 (by decide) ?_
    refine kv_lv [2, 3, 4, 5, 6, 7] rfl ?_
    exact K z1 _ M2 h4 (XW_xJ hxx)

set_option maxRecDepth 100000 in
set_option maxHeartbeats 4000000 in
theorem lw_addCrew {l : Launch} {dd : kDD} {g : kG} (X : kX dd g cL_law RL wsLaw) (hRR : kR g = room_1) (hnL : knL g = 9) (hl0 : kL g = l) {sc L i : Nat} {xs : Nat → Int32} (hs : kScr g sc L xs) (hLL : L ≤ 3584) (hi : i + 6 < L) {a b : Nat} {c x : kT} {M : mS} {xa o1 o2 : Nat} {adr : Nat → Nat} (hw : LWS dd c M xa) (hx : XW dd x o1 o2) (ha : a + 8 ≤ 603072) (hb : b + 150 ≤ 7219306) (K : ∀ (c2 x2 : kT) (M2 : mS), LWS dd c2 M2 xa → XW dd x2 o1 o2 → kv dd g (a + 8) (b + 150) 2529 [(0, .ref sc), (1, .ref xa), (2, .ref (adr 0)), (3, .ref o1), (4, .ref o2), (5, .int (nI i))] [] (jk c2 (mK, adr, mE dd adr M2) x2) (jd c2 (mK, adr, mE dd adr M2) x2) (jE c2 (mK, adr, mE dd adr M2) x2)) : kv dd g a b 380 [(0, .ref sc), (1, .ref xa), (2, .ref (adr 0)), (3, .ref o1), (4, .ref o2), (5, .int (nI i))] [] (jk c (mK, adr, mE dd adr M) x) (jd c (mK, adr, mE dd adr M) x) (jE c (mK, adr, mE dd adr M) x) := by
  obtain ⟨ks, ad, E, e, nR, nC, nt, nL, nW, nV, nM, cn, nm, mn, me, li, rl, hks, hcf, rfl, hI, hO, hR, hC, hT, hL, hW, hV, hM⟩ := LWS_open hw
  obtain ⟨iR, iC, iT, iL, iW, iV, iM, hcn, hnm, hmn, hme, hs2, hli, hB, hpk, hmI, hmR, hmIc, hmRc, hlG⟩ := rI_all hI
  have hxx := hx
  obtain ⟨hx0, hx1, rfl, rfl, ⟨f0, hf0⟩, ⟨f1, hf1⟩⟩ := hx
  refine kv_cf ?_
  rw [hcf]
  refine kv_aload_n X 1 dL_law_380 rfl rfl ?_
  refine kv_aload_n X 3 dL_law_381 rfl rfl ?_
  refine kv_calliSW (As := [.ref (ad 0), .ref (x.2.1 0)]) [] X (c_L_addCrew l dd ks ad E e (mK, adr, mE dd adr M) x hks M nR nC nt nL nW nV nM cn nm mn me li rl (M.1 24) hO hR hC hT hL hW hV hM hB (cmI (M.2.1 22) nV) (cmI (M.2.1 23) nV) hmIc hmRc hpk (rI_m0 hI) f0 ⟨hx0, hf0⟩) hl0 (kCSW_of X 2 (show GoodIn wsLaw (va_wsS RL 151 yL_addCrew (wsL_addCrew ++ kHx)) from gK (pre := [Cond.methodLink RL 151 yL_addCrew, Cond.static yL_addCrew, Cond.initialized yL_addCrew.cls]) gL_law_L_addCrew) rfl rfl rfl (by decide +kernel) hRR ⟨(Nat.le_of_ble_eq_true rfl), (Nat.le_of_ble_eq_true rfl)⟩) rfl rfl (Nat.le_of_ble_eq_true rfl) hRR ⟨ha, hb⟩ dL_law_382 (fun r9 z hp => ?_)
  obtain ⟨z1, z2⟩ := z
  show kv dd g (a + 8) (b + 150) 385 [(0, .ref sc), (1, .ref (ad 0)), (2, .ref (adr 0)), (3, .ref (x.2.1 0)), (4, .ref (x.2.1 1)), (5, .int (nI i))] [.int r9] (jk z1 (mK, adr, mE dd adr M) z2) (jd z1 (mK, adr, mE dd adr M) z2) (jE z1 (mK, adr, mE dd adr M) z2)
  refine kv_istore (lv2 := [(6, .int r9), (0, .ref sc), (1, .ref (ad 0)), (2, .ref (adr 0)), (3, .ref (x.2.1 0)), (4, .ref (x.2.1 1)), (5, .int (nI i))]) X dL_law_385 (by rw [hnL]; decide) rfl ?_
  refine kv_aload_n X 3 dL_law_387 rfl rfl ?_
  refine kv_calliV (As := []) [] (ci := 14) (κ := 1000) (rm := ({ frames := 1, cells := 0, slots := 0, locals := 22 } : Room)) (mc := 0) (ms := 0) (r1 := (TX11, 34)) X (kCi_frR (c := z1) (r := (mK, adr, mE dd adr M)) (x := z2) (by rw [cf_id mK_lt]; exact c_X11_addCrew l dd adr M nC iC)) hl0 (kCV_of X 0 (gW gL_law_X11_addCrew) rfl rfl rfl (by decide +kernel) hRR ⟨(Nat.le_of_ble_eq_true rfl), (Nat.le_of_ble_eq_true rfl)⟩) (j_r0.1.mpr (show 0 ∈ mK by decide)) (j_r0.2.2.trans rfl) rfl rfl rfl (Nat.le_of_ble_eq_true rfl) hRR ⟨ha, hb⟩ dL_law_388 (fun b9 M2 hq => ?_)
  have hst := st_addCrew (e := e) (wx := x) (f0 := f0) hI hO hR hC hT hL hW hV hM hp hq
  obtain ⟨h1, h2, h3, h4⟩ := hst
  show kv dd g (a + 8) (b + 150) 391 [(6, .int r9), (0, .ref sc), (1, .ref (ad 0)), (2, .ref (adr 0)), (3, .ref (x.2.1 0)), (4, .ref (x.2.1 1)), (5, .int (nI i))] [.int b9] (jk z1 (mK, adr, mE dd adr M2) z2) (jd z1 (mK, adr, mE dd adr M2) z2) (jE z1 (mK, adr, mE dd adr M2) z2)
  refine kv_istore (lv2 := [(7, .int b9), (6, .int r9), (0, .ref sc), (1, .ref (ad 0)), (2, .ref (adr 0)), (3, .ref (x.2.1 0)), (4, .ref (x.2.1 1)), (5, .int (nI i))]) X dL_law_391 (by rw [hnL]; decide) rfl ?_
  refine kv_aload_n X 4 dL_law_393 rfl rfl ?_
  refine kv_calliV (As := []) [] (ci := 14) (κ := 1000) (rm := ({ frames := 0, cells := 0, slots := 0, locals := 0 } : Room)) (mc := 0) (ms := 0) (r1 := (TX11, 34)) X (kCi_frR (c := z1) (r := (mK, adr, mE dd adr M2)) (x := z2) (by rw [cf_id mK_lt]; exact c_X11_thrown l dd adr M2 )) hl0 (kCV_of X 0 (gW gL_law_X11_thrown) rfl rfl rfl (by decide +kernel) hRR ⟨(Nat.le_of_ble_eq_true rfl), (Nat.le_of_ble_eq_true rfl)⟩) (j_r0.1.mpr (show 0 ∈ mK by decide)) (j_r0.2.2.trans rfl) rfl rfl rfl (Nat.le_of_ble_eq_true rfl) hRR ⟨ha, hb⟩ dL_law_394 (fun t9 M3 ht => ?_)
  obtain ⟨rfl, rfl⟩ := ht
  show kv dd g (a + 8) (b + 150) 397 [(7, .int b9), (6, .int r9), (0, .ref sc), (1, .ref (ad 0)), (2, .ref (adr 0)), (3, .ref (x.2.1 0)), (4, .ref (x.2.1 1)), (5, .int (nI i))] [.int (M2.1 0)] (jk z1 (mK, adr, mE dd adr M2) z2) (jd z1 (mK, adr, mE dd adr M2) z2) (jE z1 (mK, adr, mE dd adr M2) z2)
  refine kv_iload X 1 dL_law_397 rfl ?_
  refine kv_icmp_eq (tgt := 404) X dL_law_399 (by decide) (fun _ => ?_) (fun h => absurd h1 h)
  refine kv_iload X 1 dL_law_404 rfl ?_
  refine kv_if_ne (tgt := 421) X dL_law_406 (by decide) (fun h => ?_) (fun h => ?_)
  ·
    replace h3 : z2 = x := h3 h
    subst h3
    refine kv_goto (tgt := 2529) X dL_law_421 (by decide) ?_
    refine kv_lv [2, 3, 4, 5, 6, 7] rfl ?_
    exact K z1 _ M2 h4 hxx
  ·
    replace h2 : z2 = xJ dd x f0 b9.toInt64 := h2 h
    subst h2
    refine kv_aload_n X 5 dL_law_409 rfl rfl ?_
    refine kv_iconst (v := 0) X dL_law_410 (by decide) ?_
    refine kv_laload X (κ := 2000) (n := 1) (j := 0) (f := va_up f0 0 b9.toInt64) (j_x0.1.mpr hx0) (j_x0.2.2.trans (va_up_self x.2.2 0 (kJ dd 1 (va_up f0 0 b9.toInt64)))) (by omega) (by omega) dL_law_411 ?_
    show kv dd g (a + 8) (b + 150) 412 [(7, .int b9), (6, .int r9), (0, .ref sc), (1, .ref (ad 0)), (2, .ref (adr 0)), (3, .ref (x.2.1 0)), (4, .ref (x.2.1 1)), (5, .int (nI i))] [.long b9.toInt64] (jk z1 (mK, adr, mE dd adr M2) (xJ dd x f0 b9.toInt64)) (jd z1 (mK, adr, mE dd adr M2) (xJ dd x f0 b9.toInt64)) (jE z1 (mK, adr, mE dd adr M2) (xJ dd x f0 b9.toInt64))
    refine kv_iload X 0 dL_law_412 rfl ?_
    refine kv_i2l X dL_law_414 rfl ?_
    refine kv_lcmp X dL_law_415 ?_
    refine kv_if_eq (tgt := 421) X dL_law_416 (by decide) (fun _ => ?_) (fun h9 => absurd lcs h9)
    refine kv_goto (tgt := 2529) X dL_law_421 (by decide) ?_
    refine kv_lv [2, 3, 4, 5, 6, 7] rfl ?_
    exact K z1 _ M2 h4 (XW_xJ hxx)

set_option maxRecDepth 100000 in
set_option maxHeartbeats 4000000 in
theorem lw_addMember {l : Launch} {dd : kDD} {g : kG} (X : kX dd g cL_law RL wsLaw) (hRR : kR g = room_1) (hnL : knL g = 9) (hl0 : kL g = l) {sc L i : Nat} {xs : Nat → Int32} (hs : kScr g sc L xs) (hLL : L ≤ 3584) (hi : i + 6 < L) {a b : Nat} {c x : kT} {M : mS} {xa o1 o2 : Nat} {adr : Nat → Nat} (hw : LWS dd c M xa) (hx : XW dd x o1 o2) (ha : a + 6 ≤ 603072) (hb : b + 36 ≤ 7219306) (K : ∀ (c2 x2 : kT) (M2 : mS), LWS dd c2 M2 xa → XW dd x2 o1 o2 → kv dd g (a + 6) (b + 36) 2529 [(0, .ref sc), (1, .ref xa), (2, .ref (adr 0)), (3, .ref o1), (4, .ref o2), (5, .int (nI i))] [] (jk c2 (mK, adr, mE dd adr M2) x2) (jd c2 (mK, adr, mE dd adr M2) x2) (jE c2 (mK, adr, mE dd adr M2) x2)) : kv dd g a b 424 [(0, .ref sc), (1, .ref xa), (2, .ref (adr 0)), (3, .ref o1), (4, .ref o2), (5, .int (nI i))] [] (jk c (mK, adr, mE dd adr M) x) (jd c (mK, adr, mE dd adr M) x) (jE c (mK, adr, mE dd adr M) x) := by
  obtain ⟨ks, ad, E, e, nR, nC, nt, nL, nW, nV, nM, cn, nm, mn, me, li, rl, hks, hcf, rfl, hI, hO, hR, hC, hT, hL, hW, hV, hM⟩ := LWS_open hw
  obtain ⟨iR, iC, iT, iL, iW, iV, iM, hcn, hnm, hmn, hme, hs2, hli, hB, hpk, hmI, hmR, hmIc, hmRc, hlG⟩ := rI_all hI
  have hxx := hx
  obtain ⟨hx0, hx1, rfl, rfl, ⟨f0, hf0⟩, ⟨f1, hf1⟩⟩ := hx
  refine kv_cf ?_
  rw [hcf]
  refine kv_aload_n X 1 dL_law_424 rfl rfl ?_
  refine kv_arg X hs hLL 1 (by omega) 0 5 rfl rfl (by decide) dL_law_425 dL_law_426 dL_law_428 dL_law_429 dL_law_430 ?_
  refine kv_arg X hs hLL 2 (by omega) 0 5 rfl rfl (by decide) dL_law_431 dL_law_432 dL_law_434 dL_law_435 dL_law_436 ?_
  refine kv_arg X hs hLL 3 (by omega) 0 5 rfl rfl (by decide) dL_law_437 dL_law_438 dL_law_440 dL_law_441 dL_law_442 ?_
  refine kv_aload_n X 3 dL_law_443 rfl rfl ?_
  refine kv_calliSW (As := [.ref (ad 0), .int (xs (i + 1)), .int (xs (i + 2)), .int (xs (i + 3)), .ref (x.2.1 0)]) [] X (c_L_addMember l dd ks ad E e (mK, adr, mE dd adr M) x hks M nR nC nt nL nW nV nM cn nm mn me li rl (M.1 24) hO hR hC hT hL hW hV hM hB (cmI (M.2.1 22) nV) (cmI (M.2.1 23) nV) hmIc hmRc hpk (xs (i + 1)) (xs (i + 2)) (xs (i + 3)) f0 ⟨hx0, hf0⟩) hl0 (kCSW_of X 5 (show GoodIn wsLaw (va_wsS RL 155 yL_addMember (wsL_addMember ++ kHx)) from gK (pre := [Cond.methodLink RL 155 yL_addMember, Cond.static yL_addMember, Cond.initialized yL_addMember.cls]) gL_law_L_addMember) rfl rfl rfl (by decide +kernel) hRR ⟨(Nat.le_of_ble_eq_true rfl), (Nat.le_of_ble_eq_true rfl)⟩) rfl rfl (Nat.le_of_ble_eq_true rfl) hRR ⟨ha, hb⟩ dL_law_444 (fun r9 z hp => ?_)
  obtain ⟨z1, z2⟩ := z
  show kv dd g (a + 6) (b + 36) 447 [(0, .ref sc), (1, .ref (ad 0)), (2, .ref (adr 0)), (3, .ref (x.2.1 0)), (4, .ref (x.2.1 1)), (5, .int (nI i))] [.int r9] (jk z1 (mK, adr, mE dd adr M) z2) (jd z1 (mK, adr, mE dd adr M) z2) (jE z1 (mK, adr, mE dd adr M) z2)
  refine kv_istore (lv2 := [(6, .int r9), (0, .ref sc), (1, .ref (ad 0)), (2, .ref (adr 0)), (3, .ref (x.2.1 0)), (4, .ref (x.2.1 1)), (5, .int (nI i))]) X dL_law_447 (by rw [hnL]; decide) rfl ?_
  refine kv_aload_n X 3 dL_law_449 rfl rfl ?_
  refine kv_arg X hs hLL 1 (by omega) 1 6 rfl rfl (by decide) dL_law_450 dL_law_451 dL_law_453 dL_law_454 dL_law_455 ?_
  refine kv_arg X hs hLL 2 (by omega) 1 6 rfl rfl (by decide) dL_law_456 dL_law_457 dL_law_459 dL_law_460 dL_law_461 ?_
  refine kv_arg X hs hLL 3 (by omega) 1 6 rfl rfl (by decide) dL_law_462 dL_law_463 dL_law_465 dL_law_466 dL_law_467 ?_
  refine kv_calliV (As := [.int (xs (i + 1)), .int (xs (i + 2)), .int (xs (i + 3))]) [] (ci := 14) (κ := 1000) (rm := ({ frames := 2, cells := 0, slots := 0, locals := 43 } : Room)) (mc := 0) (ms := 0) (r1 := (TX11, 34)) X (kCi_frR (c := z1) (r := (mK, adr, mE dd adr M)) (x := z2) (by rw [cf_id mK_lt]; exact c_X11_addMember l dd adr M (xs (i + 1)) (xs (i + 2)) (xs (i + 3)) nC iC nR iR mn hmn)) hl0 (kCV_of X 3 (gW gL_law_X11_addMember) rfl rfl rfl (by decide +kernel) hRR ⟨(Nat.le_of_ble_eq_true rfl), (Nat.le_of_ble_eq_true rfl)⟩) (j_r0.1.mpr (show 0 ∈ mK by decide)) (j_r0.2.2.trans rfl) rfl rfl rfl (Nat.le_of_ble_eq_true rfl) hRR ⟨ha, hb⟩ dL_law_468 (fun b9 M2 hq => ?_)
  have hst := st_addMember (e := e) (wx := x) (f0 := f0) hI hO hR hC hT hL hW hV hM hp hq
  obtain ⟨h1, h2, h3, h4⟩ := hst
  show kv dd g (a + 6) (b + 36) 471 [(6, .int r9), (0, .ref sc), (1, .ref (ad 0)), (2, .ref (adr 0)), (3, .ref (x.2.1 0)), (4, .ref (x.2.1 1)), (5, .int (nI i))] [.int b9] (jk z1 (mK, adr, mE dd adr M2) z2) (jd z1 (mK, adr, mE dd adr M2) z2) (jE z1 (mK, adr, mE dd adr M2) z2)
  refine kv_istore (lv2 := [(7, .int b9), (6, .int r9), (0, .ref sc), (1, .ref (ad 0)), (2, .ref (adr 0)), (3, .ref (x.2.1 0)), (4, .ref (x.2.1 1)), (5, .int (nI i))]) X dL_law_471 (by rw [hnL]; decide) rfl ?_
  refine kv_aload_n X 4 dL_law_473 rfl rfl ?_
  refine kv_calliV (As := []) [] (ci := 14) (κ := 1000) (rm := ({ frames := 0, cells := 0, slots := 0, locals := 0 } : Room)) (mc := 0) (ms := 0) (r1 := (TX11, 34)) X (kCi_frR (c := z1) (r := (mK, adr, mE dd adr M2)) (x := z2) (by rw [cf_id mK_lt]; exact c_X11_thrown l dd adr M2 )) hl0 (kCV_of X 0 (gW gL_law_X11_thrown) rfl rfl rfl (by decide +kernel) hRR ⟨(Nat.le_of_ble_eq_true rfl), (Nat.le_of_ble_eq_true rfl)⟩) (j_r0.1.mpr (show 0 ∈ mK by decide)) (j_r0.2.2.trans rfl) rfl rfl rfl (Nat.le_of_ble_eq_true rfl) hRR ⟨ha, hb⟩ dL_law_474 (fun t9 M3 ht => ?_)
  obtain ⟨rfl, rfl⟩ := ht
  show kv dd g (a + 6) (b + 36) 477 [(7, .int b9), (6, .int r9), (0, .ref sc), (1, .ref (ad 0)), (2, .ref (adr 0)), (3, .ref (x.2.1 0)), (4, .ref (x.2.1 1)), (5, .int (nI i))] [.int (M2.1 0)] (jk z1 (mK, adr, mE dd adr M2) z2) (jd z1 (mK, adr, mE dd adr M2) z2) (jE z1 (mK, adr, mE dd adr M2) z2)
  refine kv_iload X 1 dL_law_477 rfl ?_
  refine kv_icmp_eq (tgt := 484) X dL_law_479 (by decide) (fun _ => ?_) (fun h => absurd h1 h)
  refine kv_iload X 1 dL_law_484 rfl ?_
  refine kv_if_ne (tgt := 501) X dL_law_486 (by decide) (fun h => ?_) (fun h => ?_)
  ·
    replace h3 : z2 = x := h3 h
    subst h3
    refine kv_goto (tgt := 2529) X dL_law_501 (by decide) ?_
    refine kv_lv [2, 3, 4, 5, 6, 7] rfl ?_
    exact K z1 _ M2 h4 hxx
  ·
    replace h2 : z2 = xJ dd x f0 b9.toInt64 := h2 h
    subst h2
    refine kv_aload_n X 5 dL_law_489 rfl rfl ?_
    refine kv_iconst (v := 0) X dL_law_490 (by decide) ?_
    refine kv_laload X (κ := 2000) (n := 1) (j := 0) (f := va_up f0 0 b9.toInt64) (j_x0.1.mpr hx0) (j_x0.2.2.trans (va_up_self x.2.2 0 (kJ dd 1 (va_up f0 0 b9.toInt64)))) (by omega) (by omega) dL_law_491 ?_
    show kv dd g (a + 6) (b + 36) 492 [(7, .int b9), (6, .int r9), (0, .ref sc), (1, .ref (ad 0)), (2, .ref (adr 0)), (3, .ref (x.2.1 0)), (4, .ref (x.2.1 1)), (5, .int (nI i))] [.long b9.toInt64] (jk z1 (mK, adr, mE dd adr M2) (xJ dd x f0 b9.toInt64)) (jd z1 (mK, adr, mE dd adr M2) (xJ dd x f0 b9.toInt64)) (jE z1 (mK, adr, mE dd adr M2) (xJ dd x f0 b9.toInt64))
    refine kv_iload X 0 dL_law_492 rfl ?_
    refine kv_i2l X dL_law_494 rfl ?_
    refine kv_lcmp X dL_law_495 ?_
    refine kv_if_eq (tgt := 501) X dL_law_496 (by decide) (fun _ => ?_) (fun h9 => absurd lcs h9)
    refine kv_goto (tgt := 2529) X dL_law_501 (by decide) ?_
    refine kv_lv [2, 3, 4, 5, 6, 7] rfl ?_
    exact K z1 _ M2 h4 (XW_xJ hxx)

set_option maxRecDepth 100000 in
set_option maxHeartbeats 4000000 in
theorem lw_addItem {l : Launch} {dd : kDD} {g : kG} (X : kX dd g cL_law RL wsLaw) (hRR : kR g = room_1) (hnL : knL g = 9) (hl0 : kL g = l) {sc L i : Nat} {xs : Nat → Int32} (hs : kScr g sc L xs) (hLL : L ≤ 3584) (hi : i + 6 < L) {a b : Nat} {c x : kT} {M : mS} {xa o1 o2 : Nat} {adr : Nat → Nat} (hw : LWS dd c M xa) (hx : XW dd x o1 o2) (ha : a + 8 ≤ 603072) (hb : b + 150 ≤ 7219306) (K : ∀ (c2 x2 : kT) (M2 : mS), LWS dd c2 M2 xa → XW dd x2 o1 o2 → kv dd g (a + 8) (b + 150) 2529 [(0, .ref sc), (1, .ref xa), (2, .ref (adr 0)), (3, .ref o1), (4, .ref o2), (5, .int (nI i))] [] (jk c2 (mK, adr, mE dd adr M2) x2) (jd c2 (mK, adr, mE dd adr M2) x2) (jE c2 (mK, adr, mE dd adr M2) x2)) : kv dd g a b 504 [(0, .ref sc), (1, .ref xa), (2, .ref (adr 0)), (3, .ref o1), (4, .ref o2), (5, .int (nI i))] [] (jk c (mK, adr, mE dd adr M) x) (jd c (mK, adr, mE dd adr M) x) (jE c (mK, adr, mE dd adr M) x) := by
  obtain ⟨ks, ad, E, e, nR, nC, nt, nL, nW, nV, nM, cn, nm, mn, me, li, rl, hks, hcf, rfl, hI, hO, hR, hC, hT, hL, hW, hV, hM⟩ := LWS_open hw
  obtain ⟨iR, iC, iT, iL, iW, iV, iM, hcn, hnm, hmn, hme, hs2, hli, hB, hpk, hmI, hmR, hmIc, hmRc, hlG⟩ := rI_all hI
  have hxx := hx
  obtain ⟨hx0, hx1, rfl, rfl, ⟨f0, hf0⟩, ⟨f1, hf1⟩⟩ := hx
  refine kv_cf ?_
  rw [hcf]
  refine kv_aload_n X 1 dL_law_504 rfl rfl ?_
  refine kv_arg X hs hLL 1 (by omega) 0 5 rfl rfl (by decide) dL_law_505 dL_law_506 dL_law_508 dL_law_509 dL_law_510 ?_
  refine kv_aload_n X 3 dL_law_511 rfl rfl ?_
  refine kv_calliSW (As := [.ref (ad 0), .int (xs (i + 1)), .ref (x.2.1 0)]) [] X (c_L_addItem l dd ks ad E e (mK, adr, mE dd adr M) x hks M nR nC nt nL nW nV nM cn nm mn me li rl (M.1 24) hO hR hC hT hL hW hV hM hB (cmI (M.2.1 22) nV) (cmI (M.2.1 23) nV) hmIc hmRc hpk (xs (i + 1)) f0 ⟨hx0, hf0⟩) hl0 (kCSW_of X 3 (show GoodIn wsLaw (va_wsS RL 159 yL_addItem (wsL_addItem ++ kHx)) from gK (pre := [Cond.methodLink RL 159 yL_addItem, Cond.static yL_addItem, Cond.initialized yL_addItem.cls]) gL_law_L_addItem) rfl rfl rfl (by decide +kernel) hRR ⟨(Nat.le_of_ble_eq_true rfl), (Nat.le_of_ble_eq_true rfl)⟩) rfl rfl (Nat.le_of_ble_eq_true rfl) hRR ⟨ha, hb⟩ dL_law_512 (fun r9 z hp => ?_)
  obtain ⟨z1, z2⟩ := z
  show kv dd g (a + 8) (b + 150) 515 [(0, .ref sc), (1, .ref (ad 0)), (2, .ref (adr 0)), (3, .ref (x.2.1 0)), (4, .ref (x.2.1 1)), (5, .int (nI i))] [.int r9] (jk z1 (mK, adr, mE dd adr M) z2) (jd z1 (mK, adr, mE dd adr M) z2) (jE z1 (mK, adr, mE dd adr M) z2)
  refine kv_istore (lv2 := [(6, .int r9), (0, .ref sc), (1, .ref (ad 0)), (2, .ref (adr 0)), (3, .ref (x.2.1 0)), (4, .ref (x.2.1 1)), (5, .int (nI i))]) X dL_law_515 (by rw [hnL]; decide) rfl ?_
  refine kv_aload_n X 3 dL_law_517 rfl rfl ?_
  refine kv_arg X hs hLL 1 (by omega) 1 6 rfl rfl (by decide) dL_law_518 dL_law_519 dL_law_521 dL_law_522 dL_law_523 ?_
  refine kv_calliV (As := [.int (xs (i + 1))]) [] (ci := 14) (κ := 1000) (rm := ({ frames := 1, cells := 0, slots := 0, locals := 22 } : Room)) (mc := 0) (ms := 0) (r1 := (TX11, 34)) X (kCi_frR (c := z1) (r := (mK, adr, mE dd adr M)) (x := z2) (by rw [cf_id mK_lt]; exact c_X11_addItem l dd adr M (xs (i + 1)) nt iT)) hl0 (kCV_of X 1 (gW gL_law_X11_addItem) rfl rfl rfl (by decide +kernel) hRR ⟨(Nat.le_of_ble_eq_true rfl), (Nat.le_of_ble_eq_true rfl)⟩) (j_r0.1.mpr (show 0 ∈ mK by decide)) (j_r0.2.2.trans rfl) rfl rfl rfl (Nat.le_of_ble_eq_true rfl) hRR ⟨ha, hb⟩ dL_law_524 (fun b9 M2 hq => ?_)
  have hst := st_addItem (e := e) (wx := x) (f0 := f0) hI hO hR hC hT hL hW hV hM hp hq
  obtain ⟨h1, h2, h3, h4⟩ := hst
  show kv dd g (a + 8) (b + 150) 527 [(6, .int r9), (0, .ref sc), (1, .ref (ad 0)), (2, .ref (adr 0)), (3, .ref (x.2.1 0)), (4, .ref (x.2.1 1)), (5, .int (nI i))] [.int b9] (jk z1 (mK, adr, mE dd adr M2) z2) (jd z1 (mK, adr, mE dd adr M2) z2) (jE z1 (mK, adr, mE dd adr M2) z2)
  refine kv_istore (lv2 := [(7, .int b9), (6, .int r9), (0, .ref sc), (1, .ref (ad 0)), (2, .ref (adr 0)), (3, .ref (x.2.1 0)), (4, .ref (x.2.1 1)), (5, .int (nI i))]) X dL_law_527 (by rw [hnL]; decide) rfl ?_
  refine kv_aload_n X 4 dL_law_529 rfl rfl ?_
  refine kv_calliV (As := []) [] (ci := 14) (κ := 1000) (rm := ({ frames := 0, cells := 0, slots := 0, locals := 0 } : Room)) (mc := 0) (ms := 0) (r1 := (TX11, 34)) X (kCi_frR (c := z1) (r := (mK, adr, mE dd adr M2)) (x := z2) (by rw [cf_id mK_lt]; exact c_X11_thrown l dd adr M2 )) hl0 (kCV_of X 0 (gW gL_law_X11_thrown) rfl rfl rfl (by decide +kernel) hRR ⟨(Nat.le_of_ble_eq_true rfl), (Nat.le_of_ble_eq_true rfl)⟩) (j_r0.1.mpr (show 0 ∈ mK by decide)) (j_r0.2.2.trans rfl) rfl rfl rfl (Nat.le_of_ble_eq_true rfl) hRR ⟨ha, hb⟩ dL_law_530 (fun t9 M3 ht => ?_)
  obtain ⟨rfl, rfl⟩ := ht
  show kv dd g (a + 8) (b + 150) 533 [(7, .int b9), (6, .int r9), (0, .ref sc), (1, .ref (ad 0)), (2, .ref (adr 0)), (3, .ref (x.2.1 0)), (4, .ref (x.2.1 1)), (5, .int (nI i))] [.int (M2.1 0)] (jk z1 (mK, adr, mE dd adr M2) z2) (jd z1 (mK, adr, mE dd adr M2) z2) (jE z1 (mK, adr, mE dd adr M2) z2)
  refine kv_iload X 1 dL_law_533 rfl ?_
  refine kv_icmp_eq (tgt := 540) X dL_law_535 (by decide) (fun _ => ?_) (fun h => absurd h1 h)
  refine kv_iload X 1 dL_law_540 rfl ?_
  refine kv_if_ne (tgt := 557) X dL_law_542 (by decide) (fun h => ?_) (fun h => ?_)
  ·
    replace h3 : z2 = x := h3 h
    subst h3
    refine kv_goto (tgt := 2529) X dL_law_557 (by decide) ?_
    refine kv_lv [2, 3, 4, 5, 6, 7] rfl ?_
    exact K z1 _ M2 h4 hxx
  ·
    replace h2 : z2 = xJ dd x f0 b9.toInt64 := h2 h
    subst h2
    refine kv_aload_n X 5 dL_law_545 rfl rfl ?_
    refine kv_iconst (v := 0) X dL_law_546 (by decide) ?_
    refine kv_laload X (κ := 2000) (n := 1) (j := 0) (f := va_up f0 0 b9.toInt64) (j_x0.1.mpr hx0) (j_x0.2.2.trans (va_up_self x.2.2 0 (kJ dd 1 (va_up f0 0 b9.toInt64)))) (by omega) (by omega) dL_law_547 ?_
    show kv dd g (a + 8) (b + 150) 548 [(7, .int b9), (6, .int r9), (0, .ref sc), (1, .ref (ad 0)), (2, .ref (adr 0)), (3, .ref (x.2.1 0)), (4, .ref (x.2.1 1)), (5, .int (nI i))] [.long b9.toInt64] (jk z1 (mK, adr, mE dd adr M2) (xJ dd x f0 b9.toInt64)) (jd z1 (mK, adr, mE dd adr M2) (xJ dd x f0 b9.toInt64)) (jE z1 (mK, adr, mE dd adr M2) (xJ dd x f0 b9.toInt64))
    refine kv_iload X 0 dL_law_548 rfl ?_
    refine kv_i2l X dL_law_550 rfl ?_
    refine kv_lcmp X dL_law_551 ?_
    refine kv_if_eq (tgt := 557) X dL_law_552 (by decide) (fun _ => ?_) (fun h9 => absurd lcs h9)
    refine kv_goto (tgt := 2529) X dL_law_557 (by decide) ?_
    refine kv_lv [2, 3, 4, 5, 6, 7] rfl ?_
    exact K z1 _ M2 h4 (XW_xJ hxx)

set_option maxRecDepth 100000 in
set_option maxHeartbeats 4000000 in
theorem lw_addPart {l : Launch} {dd : kDD} {g : kG} (X : kX dd g cL_law RL wsLaw) (hRR : kR g = room_1) (hnL : knL g = 9) (hl0 : kL g = l) {sc L i : Nat} {xs : Nat → Int32} (hs : kScr g sc L xs) (hLL : L ≤ 3584) (hi : i + 6 < L) {a b : Nat} {c x : kT} {M : mS} {xa o1 o2 : Nat} {adr : Nat → Nat} (hw : LWS dd c M xa) (hx : XW dd x o1 o2) (ha : a + 9 ≤ 603072) (hb : b + 160 ≤ 7219306) (K : ∀ (c2 x2 : kT) (M2 : mS), LWS dd c2 M2 xa → XW dd x2 o1 o2 → kv dd g (a + 9) (b + 160) 2529 [(0, .ref sc), (1, .ref xa), (2, .ref (adr 0)), (3, .ref o1), (4, .ref o2), (5, .int (nI i))] [] (jk c2 (mK, adr, mE dd adr M2) x2) (jd c2 (mK, adr, mE dd adr M2) x2) (jE c2 (mK, adr, mE dd adr M2) x2)) : kv dd g a b 560 [(0, .ref sc), (1, .ref xa), (2, .ref (adr 0)), (3, .ref o1), (4, .ref o2), (5, .int (nI i))] [] (jk c (mK, adr, mE dd adr M) x) (jd c (mK, adr, mE dd adr M) x) (jE c (mK, adr, mE dd adr M) x) := by
  obtain ⟨ks, ad, E, e, nR, nC, nt, nL, nW, nV, nM, cn, nm, mn, me, li, rl, hks, hcf, rfl, hI, hO, hR, hC, hT, hL, hW, hV, hM⟩ := LWS_open hw
  obtain ⟨iR, iC, iT, iL, iW, iV, iM, hcn, hnm, hmn, hme, hs2, hli, hB, hpk, hmI, hmR, hmIc, hmRc, hlG⟩ := rI_all hI
  have hxx := hx
  obtain ⟨hx0, hx1, rfl, rfl, ⟨f0, hf0⟩, ⟨f1, hf1⟩⟩ := hx
  refine kv_cf ?_
  rw [hcf]
  refine kv_aload_n X 1 dL_law_560 rfl rfl ?_
  refine kv_arg X hs hLL 1 (by omega) 0 5 rfl rfl (by decide) dL_law_561 dL_law_562 dL_law_564 dL_law_565 dL_law_566 ?_
  refine kv_arg X hs hLL 2 (by omega) 0 5 rfl rfl (by decide) dL_law_567 dL_law_568 dL_law_570 dL_law_571 dL_law_572 ?_
  refine kv_arg X hs hLL 3 (by omega) 0 5 rfl rfl (by decide) dL_law_573 dL_law_574 dL_law_576 dL_law_577 dL_law_578 ?_
  refine kv_aload_n X 3 dL_law_579 rfl rfl ?_
  refine kv_calliSW (As := [.ref (ad 0), .int (xs (i + 1)), .int (xs (i + 2)), .int (xs (i + 3)), .ref (x.2.1 0)]) [] X (c_L_addPart l dd ks ad E e (mK, adr, mE dd adr M) x hks M nR nC nt nL nW nV nM cn nm mn me li rl (M.1 24) hO hR hC hT hL hW hV hM hB (cmI (M.2.1 22) nV) (cmI (M.2.1 23) nV) hmIc hmRc hpk (xs (i + 1)) (xs (i + 2)) (xs (i + 3)) f0 ⟨hx0, hf0⟩) hl0 (kCSW_of X 5 (show GoodIn wsLaw (va_wsS RL 163 yL_addPart (wsL_addPart ++ kHx)) from gK (pre := [Cond.methodLink RL 163 yL_addPart, Cond.static yL_addPart, Cond.initialized yL_addPart.cls]) gL_law_L_addPart) rfl rfl rfl (by decide +kernel) hRR ⟨(Nat.le_of_ble_eq_true rfl), (Nat.le_of_ble_eq_true rfl)⟩) rfl rfl (Nat.le_of_ble_eq_true rfl) hRR ⟨ha, hb⟩ dL_law_580 (fun r9 z hp => ?_)
  obtain ⟨z1, z2⟩ := z
  show kv dd g (a + 9) (b + 160) 583 [(0, .ref sc), (1, .ref (ad 0)), (2, .ref (adr 0)), (3, .ref (x.2.1 0)), (4, .ref (x.2.1 1)), (5, .int (nI i))] [.int r9] (jk z1 (mK, adr, mE dd adr M) z2) (jd z1 (mK, adr, mE dd adr M) z2) (jE z1 (mK, adr, mE dd adr M) z2)
  refine kv_istore (lv2 := [(6, .int r9), (0, .ref sc), (1, .ref (ad 0)), (2, .ref (adr 0)), (3, .ref (x.2.1 0)), (4, .ref (x.2.1 1)), (5, .int (nI i))]) X dL_law_583 (by rw [hnL]; decide) rfl ?_
  refine kv_aload_n X 3 dL_law_585 rfl rfl ?_
  refine kv_arg X hs hLL 1 (by omega) 1 6 rfl rfl (by decide) dL_law_586 dL_law_587 dL_law_589 dL_law_590 dL_law_591 ?_
  refine kv_arg X hs hLL 2 (by omega) 1 6 rfl rfl (by decide) dL_law_592 dL_law_593 dL_law_595 dL_law_596 dL_law_597 ?_
  refine kv_arg X hs hLL 3 (by omega) 1 6 rfl rfl (by decide) dL_law_598 dL_law_599 dL_law_601 dL_law_602 dL_law_603 ?_
  refine kv_calliV (As := [.int (xs (i + 1)), .int (xs (i + 2)), .int (xs (i + 3))]) [] (ci := 14) (κ := 1000) (rm := ({ frames := 3, cells := 0, slots := 0, locals := 68 } : Room)) (mc := 0) (ms := 0) (r1 := (TX11, 34)) X (kCi_frR (c := z1) (r := (mK, adr, mE dd adr M)) (x := z2) (by rw [cf_id mK_lt]; exact c_X11_addPart l dd adr M (xs (i + 1)) (xs (i + 2)) (xs (i + 3)) nt iT nV iV cn hcn nm hnm ((cmI (M.2.1 22) nV) (M.1 24)) (hmI (M.1 24)))) hl0 (kCV_of X 3 (gW gL_law_X11_addPart) rfl rfl rfl (by decide +kernel) hRR ⟨(Nat.le_of_ble_eq_true rfl), (Nat.le_of_ble_eq_true rfl)⟩) (j_r0.1.mpr (show 0 ∈ mK by decide)) (j_r0.2.2.trans rfl) rfl rfl rfl (Nat.le_of_ble_eq_true rfl) hRR ⟨ha, hb⟩ dL_law_604 (fun b9 M2 hq => ?_)
  have hst := st_addPart (e := e) (wx := x) (f0 := f0) hI hO hR hC hT hL hW hV hM hp hq
  obtain ⟨h1, h2, h3, h4⟩ := hst
  show kv dd g (a + 9) (b + 160) 607 [(6, .int r9), (0, .ref sc), (1, .ref (ad 0)), (2, .ref (adr 0)), (3, .ref (x.2.1 0)), (4, .ref (x.2.1 1)), (5, .int (nI i))] [.int b9] (jk z1 (mK, adr, mE dd adr M2) z2) (jd z1 (mK, adr, mE dd adr M2) z2) (jE z1 (mK, adr, mE dd adr M2) z2)
  refine kv_istore (lv2 := [(7, .int b9), (6, .int r9), (0, .ref sc), (1, .ref (ad 0)), (2, .ref (adr 0)), (3, .ref (x.2.1 0)), (4, .ref (x.2.1 1)), (5, .int (nI i))]) X dL_law_607 (by rw [hnL]; decide) rfl ?_
  refine kv_aload_n X 4 dL_law_609 rfl rfl ?_
  refine kv_calliV (As := []) [] (ci := 14) (κ := 1000) (rm := ({ frames := 0, cells := 0, slots := 0, locals := 0 } : Room)) (mc := 0) (ms := 0) (r1 := (TX11, 34)) X (kCi_frR (c := z1) (r := (mK, adr, mE dd adr M2)) (x := z2) (by rw [cf_id mK_lt]; exact c_X11_thrown l dd adr M2 )) hl0 (kCV_of X 0 (gW gL_law_X11_thrown) rfl rfl rfl (by decide +kernel) hRR ⟨(Nat.le_of_ble_eq_true rfl), (Nat.le_of_ble_eq_true rfl)⟩) (j_r0.1.mpr (show 0 ∈ mK by decide)) (j_r0.2.2.trans rfl) rfl rfl rfl (Nat.le_of_ble_eq_true rfl) hRR ⟨ha, hb⟩ dL_law_610 (fun t9 M3 ht => ?_)
  obtain ⟨rfl, rfl⟩ := ht
  show kv dd g (a + 9) (b + 160) 613 [(7, .int b9), (6, .int r9), (0, .ref sc), (1, .ref (ad 0)), (2, .ref (adr 0)), (3, .ref (x.2.1 0)), (4, .ref (x.2.1 1)), (5, .int (nI i))] [.int (M2.1 0)] (jk z1 (mK, adr, mE dd adr M2) z2) (jd z1 (mK, adr, mE dd adr M2) z2) (jE z1 (mK, adr, mE dd adr M2) z2)
  refine kv_iload X 1 dL_law_613 rfl ?_
  refine kv_icmp_eq (tgt := 620) X dL_law_615 (by decide) (fun _ => ?_) (fun h => absurd h1 h)
  refine kv_iload X 1 dL_law_620 rfl ?_
  refine kv_if_ne (tgt := 637) X dL_law_622 (by decide) (fun h => ?_) (fun h => ?_)
  ·
    replace h3 : z2 = x := h3 h
    subst h3
    refine kv_goto (tgt := 2529) X dL_law_637 (by decide) ?_
    refine kv_lv [2, 3, 4, 5, 6, 7] rfl ?_
    exact K z1 _ M2 h4 hxx
  ·
    replace h2 : z2 = xJ dd x f0 b9.toInt64 := h2 h
    subst h2
    refine kv_aload_n X 5 dL_law_625 rfl rfl ?_
    refine kv_iconst (v := 0) X dL_law_626 (by decide) ?_
    refine kv_laload X (κ := 2000) (n := 1) (j := 0) (f := va_up f0 0 b9.toInt64) (j_x0.1.mpr hx0) (j_x0.2.2.trans (va_up_self x.2.2 0 (kJ dd 1 (va_up f0 0 b9.toInt64)))) (by omega) (by omega) dL_law_627 ?_
    show kv dd g (a + 9) (b + 160) 628 [(7, .int b9), (6, .int r9), (0, .ref sc), (1, .ref (ad 0)), (2, .ref (adr 0)), (3, .ref (x.2.1 0)), (4, .ref (x.2.1 1)), (5, .int (nI i))] [.long b9.toInt64] (jk z1 (mK, adr, mE dd adr M2) (xJ dd x f0 b9.toInt64)) (jd z1 (mK, adr, mE dd adr M2) (xJ dd x f0 b9.toInt64)) (jE z1 (mK, adr, mE dd adr M2) (xJ dd x f0 b9.toInt64))
    refine kv_iload X 0 dL_law_628 rfl ?_
    refine kv_i2l X dL_law_630 rfl ?_
    refine kv_lcmp X dL_law_631 ?_
    refine kv_if_eq (tgt := 637) X dL_law_632 (by decide) (fun _ => ?_) (fun h9 => absurd lcs h9)
    refine kv_goto (tgt := 2529) X dL_law_637 (by decide) ?_
    refine kv_lv [2, 3, 4, 5, 6, 7] rfl ?_
    exact K z1 _ M2 h4 (XW_xJ hxx)

set_option maxRecDepth 100000 in
set_option maxHeartbeats 4000000 in
theorem lw_addUse {l : Launch} {dd : kDD} {g : kG} (X : kX dd g cL_law RL wsLaw) (hRR : kR g = room_1) (hnL : knL g = 9) (hl0 : kL g = l) {sc L i : Nat} {xs : Nat → Int32} (hs : kScr g sc L xs) (hLL : L ≤ 3584) (hi : i + 6 < L) {a b : Nat} {c x : kT} {M : mS} {xa o1 o2 : Nat} {adr : Nat → Nat} (hw : LWS dd c M xa) (hx : XW dd x o1 o2) (ha : a + 8 ≤ 603072) (hb : b + 150 ≤ 7219306) (K : ∀ (c2 x2 : kT) (M2 : mS), LWS dd c2 M2 xa → XW dd x2 o1 o2 → kv dd g (a + 8) (b + 150) 2529 [(0, .ref sc), (1, .ref xa), (2, .ref (adr 0)), (3, .ref o1), (4, .ref o2), (5, .int (nI i))] [] (jk c2 (mK, adr, mE dd adr M2) x2) (jd c2 (mK, adr, mE dd adr M2) x2) (jE c2 (mK, adr, mE dd adr M2) x2)) : kv dd g a b 640 [(0, .ref sc), (1, .ref xa), (2, .ref (adr 0)), (3, .ref o1), (4, .ref o2), (5, .int (nI i))] [] (jk c (mK, adr, mE dd adr M) x) (jd c (mK, adr, mE dd adr M) x) (jE c (mK, adr, mE dd adr M) x) := by
  obtain ⟨ks, ad, E, e, nR, nC, nt, nL, nW, nV, nM, cn, nm, mn, me, li, rl, hks, hcf, rfl, hI, hO, hR, hC, hT, hL, hW, hV, hM⟩ := LWS_open hw
  obtain ⟨iR, iC, iT, iL, iW, iV, iM, hcn, hnm, hmn, hme, hs2, hli, hB, hpk, hmI, hmR, hmIc, hmRc, hlG⟩ := rI_all hI
  have hxx := hx
  obtain ⟨hx0, hx1, rfl, rfl, ⟨f0, hf0⟩, ⟨f1, hf1⟩⟩ := hx
  refine kv_cf ?_
  rw [hcf]
  refine kv_aload_n X 1 dL_law_640 rfl rfl ?_
  refine kv_arg X hs hLL 1 (by omega) 0 5 rfl rfl (by decide) dL_law_641 dL_law_642 dL_law_644 dL_law_645 dL_law_646 ?_
  refine kv_arg X hs hLL 2 (by omega) 0 5 rfl rfl (by decide) dL_law_647 dL_law_648 dL_law_650 dL_law_651 dL_law_652 ?_
  refine kv_arg X hs hLL 3 (by omega) 0 5 rfl rfl (by decide) dL_law_653 dL_law_654 dL_law_656 dL_law_657 dL_law_658 ?_
  refine kv_aload_n X 3 dL_law_659 rfl rfl ?_
  refine kv_calliSW (As := [.ref (ad 0), .int (xs (i + 1)), .int (xs (i + 2)), .int (xs (i + 3)), .ref (x.2.1 0)]) [] X (c_L_addUse l dd ks ad E e (mK, adr, mE dd adr M) x hks M nR nC nt nL nW nV nM cn nm mn me li rl (M.1 24) hO hR hC hT hL hW hV hM hB (cmI (M.2.1 22) nV) (cmI (M.2.1 23) nV) hmIc hmRc hpk (xs (i + 1)) (xs (i + 2)) (xs (i + 3)) f0 ⟨hx0, hf0⟩) hl0 (kCSW_of X 5 (show GoodIn wsLaw (va_wsS RL 166 yL_addUse (wsL_addUse ++ kHx)) from gK (pre := [Cond.methodLink RL 166 yL_addUse, Cond.static yL_addUse, Cond.initialized yL_addUse.cls]) gL_law_L_addUse) rfl rfl rfl (by decide +kernel) hRR ⟨(Nat.le_of_ble_eq_true rfl), (Nat.le_of_ble_eq_true rfl)⟩) rfl rfl (Nat.le_of_ble_eq_true rfl) hRR ⟨ha, hb⟩ dL_law_660 (fun r9 z hp => ?_)
  obtain ⟨z1, z2⟩ := z
  show kv dd g (a + 8) (b + 150) 663 [(0, .ref sc), (1, .ref (ad 0)), (2, .ref (adr 0)), (3, .ref (x.2.1 0)), (4, .ref (x.2.1 1)), (5, .int (nI i))] [.int r9] (jk z1 (mK, adr, mE dd adr M) z2) (jd z1 (mK, adr, mE dd adr M) z2) (jE z1 (mK, adr, mE dd adr M) z2)
  refine kv_istore (lv2 := [(6, .int r9), (0, .ref sc), (1, .ref (ad 0)), (2, .ref (adr 0)), (3, .ref (x.2.1 0)), (4, .ref (x.2.1 1)), (5, .int (nI i))]) X dL_law_663 (by rw [hnL]; decide) rfl ?_
  refine kv_aload_n X 3 dL_law_665 rfl rfl ?_
  refine kv_arg X hs hLL 1 (by omega) 1 6 rfl rfl (by decide) dL_law_666 dL_law_667 dL_law_669 dL_law_670 dL_law_671 ?_
  refine kv_arg X hs hLL 2 (by omega) 1 6 rfl rfl (by decide) dL_law_672 dL_law_673 dL_law_675 dL_law_676 dL_law_677 ?_
  refine kv_arg X hs hLL 3 (by omega) 1 6 rfl rfl (by decide) dL_law_678 dL_law_679 dL_law_681 dL_law_682 dL_law_683 ?_
  refine kv_calliV (As := [.int (xs (i + 1)), .int (xs (i + 2)), .int (xs (i + 3))]) [] (ci := 14) (κ := 1000) (rm := ({ frames := 2, cells := 0, slots := 0, locals := 43 } : Room)) (mc := 0) (ms := 0) (r1 := (TX11, 34)) X (kCi_frR (c := z1) (r := (mK, adr, mE dd adr M)) (x := z2) (by rw [cf_id mK_lt]; exact c_X11_addUse l dd adr M (xs (i + 1)) (xs (i + 2)) (xs (i + 3)) nt iT nR iR cn hcn)) hl0 (kCV_of X 3 (gW gL_law_X11_addUse) rfl rfl rfl (by decide +kernel) hRR ⟨(Nat.le_of_ble_eq_true rfl), (Nat.le_of_ble_eq_true rfl)⟩) (j_r0.1.mpr (show 0 ∈ mK by decide)) (j_r0.2.2.trans rfl) rfl rfl rfl (Nat.le_of_ble_eq_true rfl) hRR ⟨ha, hb⟩ dL_law_684 (fun b9 M2 hq => ?_)
  have hst := st_addUse (e := e) (wx := x) (f0 := f0) hI hO hR hC hT hL hW hV hM hp hq
  obtain ⟨h1, h2, h3, h4⟩ := hst
  show kv dd g (a + 8) (b + 150) 687 [(6, .int r9), (0, .ref sc), (1, .ref (ad 0)), (2, .ref (adr 0)), (3, .ref (x.2.1 0)), (4, .ref (x.2.1 1)), (5, .int (nI i))] [.int b9] (jk z1 (mK, adr, mE dd adr M2) z2) (jd z1 (mK, adr, mE dd adr M2) z2) (jE z1 (mK, adr, mE dd adr M2) z2)
  refine kv_istore (lv2 := [(7, .int b9), (6, .int r9), (0, .ref sc), (1, .ref (ad 0)), (2, .ref (adr 0)), (3, .ref (x.2.1 0)), (4, .ref (x.2.1 1)), (5, .int (nI i))]) X dL_law_687 (by rw [hnL]; decide) rfl ?_
  refine kv_aload_n X 4 dL_law_689 rfl rfl ?_
  refine kv_calliV (As := []) [] (ci := 14) (κ := 1000) (rm := ({ frames := 0, cells := 0, slots := 0, locals := 0 } : Room)) (mc := 0) (ms := 0) (r1 := (TX11, 34)) X (kCi_frR (c := z1) (r := (mK, adr, mE dd adr M2)) (x := z2) (by rw [cf_id mK_lt]; exact c_X11_thrown l dd adr M2 )) hl0 (kCV_of X 0 (gW gL_law_X11_thrown) rfl rfl rfl (by decide +kernel) hRR ⟨(Nat.le_of_ble_eq_true rfl), (Nat.le_of_ble_eq_true rfl)⟩) (j_r0.1.mpr (show 0 ∈ mK by decide)) (j_r0.2.2.trans rfl) rfl rfl rfl (Nat.le_of_ble_eq_true rfl) hRR ⟨ha, hb⟩ dL_law_690 (fun t9 M3 ht => ?_)
  obtain ⟨rfl, rfl⟩ := ht
  show kv dd g (a + 8) (b + 150) 693 [(7, .int b9), (6, .int r9), (0, .ref sc), (1, .ref (ad 0)), (2, .ref (adr 0)), (3, .ref (x.2.1 0)), (4, .ref (x.2.1 1)), (5, .int (nI i))] [.int (M2.1 0)] (jk z1 (mK, adr, mE dd adr M2) z2) (jd z1 (mK, adr, mE dd adr M2) z2) (jE z1 (mK, adr, mE dd adr M2) z2)
  refine kv_iload X 1 dL_law_693 rfl ?_
  refine kv_icmp_eq (tgt := 700) X dL_law_695 (by decide) (fun _ => ?_) (fun h => absurd h1 h)
  refine kv_iload X 1 dL_law_700 rfl ?_
  refine kv_if_ne (tgt := 717) X dL_law_702 (by decide) (fun h => ?_) (fun h => ?_)
  ·
    replace h3 : z2 = x := h3 h
    subst h3
    refine kv_goto (tgt := 2529) X dL_law_717 (by decide) ?_
    refine kv_lv [2, 3, 4, 5, 6, 7] rfl ?_
    exact K z1 _ M2 h4 hxx
  ·
    replace h2 : z2 = xJ dd x f0 b9.toInt64 := h2 h
    subst h2
    refine kv_aload_n X 5 dL_law_705 rfl rfl ?_
    refine kv_iconst (v := 0) X dL_law_706 (by decide) ?_
    refine kv_laload X (κ := 2000) (n := 1) (j := 0) (f := va_up f0 0 b9.toInt64) (j_x0.1.mpr hx0) (j_x0.2.2.trans (va_up_self x.2.2 0 (kJ dd 1 (va_up f0 0 b9.toInt64)))) (by omega) (by omega) dL_law_707 ?_
    show kv dd g (a + 8) (b + 150) 708 [(7, .int b9), (6, .int r9), (0, .ref sc), (1, .ref (ad 0)), (2, .ref (adr 0)), (3, .ref (x.2.1 0)), (4, .ref (x.2.1 1)), (5, .int (nI i))] [.long b9.toInt64] (jk z1 (mK, adr, mE dd adr M2) (xJ dd x f0 b9.toInt64)) (jd z1 (mK, adr, mE dd adr M2) (xJ dd x f0 b9.toInt64)) (jE z1 (mK, adr, mE dd adr M2) (xJ dd x f0 b9.toInt64))
    refine kv_iload X 0 dL_law_708 rfl ?_
    refine kv_i2l X dL_law_710 rfl ?_
    refine kv_lcmp X dL_law_711 ?_
    refine kv_if_eq (tgt := 717) X dL_law_712 (by decide) (fun _ => ?_) (fun h9 => absurd lcs h9)
    refine kv_goto (tgt := 2529) X dL_law_717 (by decide) ?_
    refine kv_lv [2, 3, 4, 5, 6, 7] rfl ?_
    exact K z1 _ M2 h4 (XW_xJ hxx)

set_option maxRecDepth 100000 in
set_option maxHeartbeats 4000000 in
theorem lw_addWork {l : Launch} {dd : kDD} {g : kG} (X : kX dd g cL_law RL wsLaw) (hRR : kR g = room_1) (hnL : knL g = 9) (hl0 : kL g = l) {sc L i : Nat} {xs : Nat → Int32} (hs : kScr g sc L xs) (hLL : L ≤ 3584) (hi : i + 6 < L) {a b : Nat} {c x : kT} {M : mS} {xa o1 o2 : Nat} {adr : Nat → Nat} (hw : LWS dd c M xa) (hx : XW dd x o1 o2) (ha : a + 8 ≤ 603072) (hb : b + 150 ≤ 7219306) (K : ∀ (c2 x2 : kT) (M2 : mS), LWS dd c2 M2 xa → XW dd x2 o1 o2 → kv dd g (a + 8) (b + 150) 2529 [(0, .ref sc), (1, .ref xa), (2, .ref (adr 0)), (3, .ref o1), (4, .ref o2), (5, .int (nI i))] [] (jk c2 (mK, adr, mE dd adr M2) x2) (jd c2 (mK, adr, mE dd adr M2) x2) (jE c2 (mK, adr, mE dd adr M2) x2)) : kv dd g a b 720 [(0, .ref sc), (1, .ref xa), (2, .ref (adr 0)), (3, .ref o1), (4, .ref o2), (5, .int (nI i))] [] (jk c (mK, adr, mE dd adr M) x) (jd c (mK, adr, mE dd adr M) x) (jE c (mK, adr, mE dd adr M) x) := by
  obtain ⟨ks, ad, E, e, nR, nC, nt, nL, nW, nV, nM, cn, nm, mn, me, li, rl, hks, hcf, rfl, hI, hO, hR, hC, hT, hL, hW, hV, hM⟩ := LWS_open hw
  obtain ⟨iR, iC, iT, iL, iW, iV, iM, hcn, hnm, hmn, hme, hs2, hli, hB, hpk, hmI, hmR, hmIc, hmRc, hlG⟩ := rI_all hI
  have hxx := hx
  obtain ⟨hx0, hx1, rfl, rfl, ⟨f0, hf0⟩, ⟨f1, hf1⟩⟩ := hx
  refine kv_cf ?_
  rw [hcf]
  refine kv_aload_n X 1 dL_law_720 rfl rfl ?_
  refine kv_arg X hs hLL 1 (by omega) 0 5 rfl rfl (by decide) dL_law_721 dL_law_722 dL_law_724 dL_law_725 dL_law_726 ?_
  refine kv_arg X hs hLL 2 (by omega) 0 5 rfl rfl (by decide) dL_law_727 dL_law_728 dL_law_730 dL_law_731 dL_law_732 ?_
  refine kv_arg X hs hLL 3 (by omega) 0 5 rfl rfl (by decide) dL_law_733 dL_law_734 dL_law_736 dL_law_737 dL_law_738 ?_
  refine kv_aload_n X 3 dL_law_739 rfl rfl ?_
  refine kv_calliSW (As := [.ref (ad 0), .int (xs (i + 1)), .int (xs (i + 2)), .int (xs (i + 3)), .ref (x.2.1 0)]) [] X (c_L_addWork l dd ks ad E e (mK, adr, mE dd adr M) x hks M nR nC nt nL nW nV nM cn nm mn me li rl (M.1 24) hO hR hC hT hL hW hV hM hB (cmI (M.2.1 22) nV) (cmI (M.2.1 23) nV) hmIc hmRc hpk (xs (i + 1)) (xs (i + 2)) (xs (i + 3)) f0 ⟨hx0, hf0⟩) hl0 (kCSW_of X 5 (show GoodIn wsLaw (va_wsS RL 169 yL_addWork (wsL_addWork ++ kHx)) from gK (pre := [Cond.methodLink RL 169 yL_addWork, Cond.static yL_addWork, Cond.initialized yL_addWork.cls]) gL_law_L_addWork) rfl rfl rfl (by decide +kernel) hRR ⟨(Nat.le_of_ble_eq_true rfl), (Nat.le_of_ble_eq_true rfl)⟩) rfl rfl (Nat.le_of_ble_eq_true rfl) hRR ⟨ha, hb⟩ dL_law_740 (fun r9 z hp => ?_)
  obtain ⟨z1, z2⟩ := z
  show kv dd g (a + 8) (b + 150) 743 [(0, .ref sc), (1, .ref (ad 0)), (2, .ref (adr 0)), (3, .ref (x.2.1 0)), (4, .ref (x.2.1 1)), (5, .int (nI i))] [.int r9] (jk z1 (mK, adr, mE dd adr M) z2) (jd z1 (mK, adr, mE dd adr M) z2) (jE z1 (mK, adr, mE dd adr M) z2)
  refine kv_istore (lv2 := [(6, .int r9), (0, .ref sc), (1, .ref (ad 0)), (2, .ref (adr 0)), (3, .ref (x.2.1 0)), (4, .ref (x.2.1 1)), (5, .int (nI i))]) X dL_law_743 (by rw [hnL]; decide) rfl ?_
  refine kv_aload_n X 3 dL_law_745 rfl rfl ?_
  refine kv_arg X hs hLL 1 (by omega) 1 6 rfl rfl (by decide) dL_law_746 dL_law_747 dL_law_749 dL_law_750 dL_law_751 ?_
  refine kv_arg X hs hLL 2 (by omega) 1 6 rfl rfl (by decide) dL_law_752 dL_law_753 dL_law_755 dL_law_756 dL_law_757 ?_
  refine kv_arg X hs hLL 3 (by omega) 1 6 rfl rfl (by decide) dL_law_758 dL_law_759 dL_law_761 dL_law_762 dL_law_763 ?_
  refine kv_calliV (As := [.int (xs (i + 1)), .int (xs (i + 2)), .int (xs (i + 3))]) [] (ci := 14) (κ := 1000) (rm := ({ frames := 2, cells := 0, slots := 0, locals := 43 } : Room)) (mc := 0) (ms := 0) (r1 := (TX11, 34)) X (kCi_frR (c := z1) (r := (mK, adr, mE dd adr M)) (x := z2) (by rw [cf_id mK_lt]; exact c_X11_addWork l dd adr M (xs (i + 1)) (xs (i + 2)) (xs (i + 3)) nt iT nC iC cn hcn)) hl0 (kCV_of X 3 (gW gL_law_X11_addWork) rfl rfl rfl (by decide +kernel) hRR ⟨(Nat.le_of_ble_eq_true rfl), (Nat.le_of_ble_eq_true rfl)⟩) (j_r0.1.mpr (show 0 ∈ mK by decide)) (j_r0.2.2.trans rfl) rfl rfl rfl (Nat.le_of_ble_eq_true rfl) hRR ⟨ha, hb⟩ dL_law_764 (fun b9 M2 hq => ?_)
  have hst := st_addWork (e := e) (wx := x) (f0 := f0) hI hO hR hC hT hL hW hV hM hp hq
  obtain ⟨h1, h2, h3, h4⟩ := hst
  show kv dd g (a + 8) (b + 150) 767 [(6, .int r9), (0, .ref sc), (1, .ref (ad 0)), (2, .ref (adr 0)), (3, .ref (x.2.1 0)), (4, .ref (x.2.1 1)), (5, .int (nI i))] [.int b9] (jk z1 (mK, adr, mE dd adr M2) z2) (jd z1 (mK, adr, mE dd adr M2) z2) (jE z1 (mK, adr, mE dd adr M2) z2)
  refine kv_istore (lv2 := [(7, .int b9), (6, .int r9), (0, .ref sc), (1, .ref (ad 0)), (2, .ref (adr 0)), (3, .ref (x.2.1 0)), (4, .ref (x.2.1 1)), (5, .int (nI i))]) X dL_law_767 (by rw [hnL]; decide) rfl ?_
  refine kv_aload_n X 4 dL_law_769 rfl rfl ?_
  refine kv_calliV (As := []) [] (ci := 14) (κ := 1000) (rm := ({ frames := 0, cells := 0, slots := 0, locals := 0 } : Room)) (mc := 0) (ms := 0) (r1 := (TX11, 34)) X (kCi_frR (c := z1) (r := (mK, adr, mE dd adr M2)) (x := z2) (by rw [cf_id mK_lt]; exact c_X11_thrown l dd adr M2 )) hl0 (kCV_of X 0 (gW gL_law_X11_thrown) rfl rfl rfl (by decide +kernel) hRR ⟨(Nat.le_of_ble_eq_true rfl), (Nat.le_of_ble_eq_true rfl)⟩) (j_r0.1.mpr (show 0 ∈ mK by decide)) (j_r0.2.2.trans rfl) rfl rfl rfl (Nat.le_of_ble_eq_true rfl) hRR ⟨ha, hb⟩ dL_law_770 (fun t9 M3 ht => ?_)
  obtain ⟨rfl, rfl⟩ := ht
  show kv dd g (a + 8) (b + 150) 773 [(7, .int b9), (6, .int r9), (0, .ref sc), (1, .ref (ad 0)), (2, .ref (adr 0)), (3, .ref (x.2.1 0)), (4, .ref (x.2.1 1)), (5, .int (nI i))] [.int (M2.1 0)] (jk z1 (mK, adr, mE dd adr M2) z2) (jd z1 (mK, adr, mE dd adr M2) z2) (jE z1 (mK, adr, mE dd adr M2) z2)
  refine kv_iload X 1 dL_law_773 rfl ?_
  refine kv_icmp_eq (tgt := 780) X dL_law_775 (by decide) (fun _ => ?_) (fun h => absurd h1 h)
  refine kv_iload X 1 dL_law_780 rfl ?_
  refine kv_if_ne (tgt := 797) X dL_law_782 (by decide) (fun h => ?_) (fun h => ?_)
  ·
    replace h3 : z2 = x := h3 h
    subst h3
    refine kv_goto (tgt := 2529) X dL_law_797 (by decide) ?_
    refine kv_lv [2, 3, 4, 5, 6, 7] rfl ?_
    exact K z1 _ M2 h4 hxx
  ·
    replace h2 : z2 = xJ dd x f0 b9.toInt64 := h2 h
    subst h2
    refine kv_aload_n X 5 dL_law_785 rfl rfl ?_
    refine kv_iconst (v := 0) X dL_law_786 (by decide) ?_
    refine kv_laload X (κ := 2000) (n := 1) (j := 0) (f := va_up f0 0 b9.toInt64) (j_x0.1.mpr hx0) (j_x0.2.2.trans (va_up_self x.2.2 0 (kJ dd 1 (va_up f0 0 b9.toInt64)))) (by omega) (by omega) dL_law_787 ?_
    show kv dd g (a + 8) (b + 150) 788 [(7, .int b9), (6, .int r9), (0, .ref sc), (1, .ref (ad 0)), (2, .ref (adr 0)), (3, .ref (x.2.1 0)), (4, .ref (x.2.1 1)), (5, .int (nI i))] [.long b9.toInt64] (jk z1 (mK, adr, mE dd adr M2) (xJ dd x f0 b9.toInt64)) (jd z1 (mK, adr, mE dd adr M2) (xJ dd x f0 b9.toInt64)) (jE z1 (mK, adr, mE dd adr M2) (xJ dd x f0 b9.toInt64))
    refine kv_iload X 0 dL_law_788 rfl ?_
    refine kv_i2l X dL_law_790 rfl ?_
    refine kv_lcmp X dL_law_791 ?_
    refine kv_if_eq (tgt := 797) X dL_law_792 (by decide) (fun _ => ?_) (fun h9 => absurd lcs h9)
    refine kv_goto (tgt := 2529) X dL_law_797 (by decide) ?_
    refine kv_lv [2, 3, 4, 5, 6, 7] rfl ?_
    exact K z1 _ M2 h4 (XW_xJ hxx)

set_option maxRecDepth 100000 in
set_option maxHeartbeats 4000000 in
theorem lw_dropLast {l : Launch} {dd : kDD} {g : kG} (X : kX dd g cL_law RL wsLaw) (hRR : kR g = room_1) (hnL : knL g = 9) (hl0 : kL g = l) {sc L i : Nat} {xs : Nat → Int32} (hs : kScr g sc L xs) (hLL : L ≤ 3584) (hi : i + 6 < L) {a b : Nat} {c x : kT} {M : mS} {xa o1 o2 : Nat} {adr : Nat → Nat} (hw : LWS dd c M xa) (hx : XW dd x o1 o2) (ha : a + 2 ≤ 603072) (hb : b + 12 ≤ 7219306) (K : ∀ (c2 x2 : kT) (M2 : mS), LWS dd c2 M2 xa → XW dd x2 o1 o2 → kv dd g (a + 2) (b + 12) 2529 [(0, .ref sc), (1, .ref xa), (2, .ref (adr 0)), (3, .ref o1), (4, .ref o2), (5, .int (nI i))] [] (jk c2 (mK, adr, mE dd adr M2) x2) (jd c2 (mK, adr, mE dd adr M2) x2) (jE c2 (mK, adr, mE dd adr M2) x2)) : kv dd g a b 800 [(0, .ref sc), (1, .ref xa), (2, .ref (adr 0)), (3, .ref o1), (4, .ref o2), (5, .int (nI i))] [] (jk c (mK, adr, mE dd adr M) x) (jd c (mK, adr, mE dd adr M) x) (jE c (mK, adr, mE dd adr M) x) := by
  obtain ⟨ks, ad, E, e, nR, nC, nt, nL, nW, nV, nM, cn, nm, mn, me, li, rl, hks, hcf, rfl, hI, hO, hR, hC, hT, hL, hW, hV, hM⟩ := LWS_open hw
  obtain ⟨iR, iC, iT, iL, iW, iV, iM, hcn, hnm, hmn, hme, hs2, hli, hB, hpk, hmI, hmR, hmIc, hmRc, hlG⟩ := rI_all hI
  have hxx := hx
  obtain ⟨hx0, hx1, rfl, rfl, ⟨f0, hf0⟩, ⟨f1, hf1⟩⟩ := hx
  refine kv_cf ?_
  rw [hcf]
  refine kv_aload_n X 1 dL_law_800 rfl rfl ?_
  refine kv_arg X hs hLL 1 (by omega) 0 5 rfl rfl (by decide) dL_law_801 dL_law_802 dL_law_804 dL_law_805 dL_law_806 ?_
  refine kv_aload_n X 3 dL_law_807 rfl rfl ?_
  refine kv_calliSW (As := [.ref (ad 0), .int (xs (i + 1)), .ref (x.2.1 0)]) [] X (c_L_dropLast l dd ks ad E e (mK, adr, mE dd adr M) x hks M nR nC nt nL nW nV nM cn nm mn me li rl (M.1 24) hO hR hC hT hL hW hV hM hB (cmI (M.2.1 22) nV) (cmI (M.2.1 23) nV) hmIc hmRc hpk (xs (i + 1)) f0 ⟨hx0, hf0⟩) hl0 (kCSW_of X 3 (show GoodIn wsLaw (va_wsS RL 172 yL_dropLast (wsL_dropLast ++ kHx)) from gK (pre := [Cond.methodLink RL 172 yL_dropLast, Cond.static yL_dropLast, Cond.initialized yL_dropLast.cls]) gL_law_L_dropLast) rfl rfl rfl (by decide +kernel) hRR ⟨(Nat.le_of_ble_eq_true rfl), (Nat.le_of_ble_eq_true rfl)⟩) rfl rfl (Nat.le_of_ble_eq_true rfl) hRR ⟨ha, hb⟩ dL_law_808 (fun r9 z hp => ?_)
  obtain ⟨z1, z2⟩ := z
  show kv dd g (a + 2) (b + 12) 811 [(0, .ref sc), (1, .ref (ad 0)), (2, .ref (adr 0)), (3, .ref (x.2.1 0)), (4, .ref (x.2.1 1)), (5, .int (nI i))] [.int r9] (jk z1 (mK, adr, mE dd adr M) z2) (jd z1 (mK, adr, mE dd adr M) z2) (jE z1 (mK, adr, mE dd adr M) z2)
  refine kv_istore (lv2 := [(6, .int r9), (0, .ref sc), (1, .ref (ad 0)), (2, .ref (adr 0)), (3, .ref (x.2.1 0)), (4, .ref (x.2.1 1)), (5, .int (nI i))]) X dL_law_811 (by rw [hnL]; decide) rfl ?_
  refine kv_aload_n X 3 dL_law_813 rfl rfl ?_
  refine kv_arg X hs hLL 1 (by omega) 1 6 rfl rfl (by decide) dL_law_814 dL_law_815 dL_law_817 dL_law_818 dL_law_819 ?_
  refine kv_calliV (As := [.int (xs (i + 1))]) [] (ci := 14) (κ := 1000) (rm := ({ frames := 2, cells := 0, slots := 0, locals := 43 } : Room)) (mc := 0) (ms := 0) (r1 := (TX11, 34)) X (kCi_frR (c := z1) (r := (mK, adr, mE dd adr M)) (x := z2) (by rw [cf_id mK_lt]; exact c_X11_dropLast l dd adr M (xs (i + 1)) nt iT cn hcn)) hl0 (kCV_of X 1 (gW gL_law_X11_dropLast) rfl rfl rfl (by decide +kernel) hRR ⟨(Nat.le_of_ble_eq_true rfl), (Nat.le_of_ble_eq_true rfl)⟩) (j_r0.1.mpr (show 0 ∈ mK by decide)) (j_r0.2.2.trans rfl) rfl rfl rfl (Nat.le_of_ble_eq_true rfl) hRR ⟨ha, hb⟩ dL_law_820 (fun b9 M2 hq => ?_)
  have hst := st_dropLast (e := e) (wx := x) (f0 := f0) hI hO hR hC hT hL hW hV hM hp hq
  obtain ⟨h1, h2, h3, h4⟩ := hst
  show kv dd g (a + 2) (b + 12) 823 [(6, .int r9), (0, .ref sc), (1, .ref (ad 0)), (2, .ref (adr 0)), (3, .ref (x.2.1 0)), (4, .ref (x.2.1 1)), (5, .int (nI i))] [.int b9] (jk z1 (mK, adr, mE dd adr M2) z2) (jd z1 (mK, adr, mE dd adr M2) z2) (jE z1 (mK, adr, mE dd adr M2) z2)
  refine kv_istore (lv2 := [(7, .int b9), (6, .int r9), (0, .ref sc), (1, .ref (ad 0)), (2, .ref (adr 0)), (3, .ref (x.2.1 0)), (4, .ref (x.2.1 1)), (5, .int (nI i))]) X dL_law_823 (by rw [hnL]; decide) rfl ?_
  refine kv_aload_n X 4 dL_law_825 rfl rfl ?_
  refine kv_calliV (As := []) [] (ci := 14) (κ := 1000) (rm := ({ frames := 0, cells := 0, slots := 0, locals := 0 } : Room)) (mc := 0) (ms := 0) (r1 := (TX11, 34)) X (kCi_frR (c := z1) (r := (mK, adr, mE dd adr M2)) (x := z2) (by rw [cf_id mK_lt]; exact c_X11_thrown l dd adr M2 )) hl0 (kCV_of X 0 (gW gL_law_X11_thrown) rfl rfl rfl (by decide +kernel) hRR ⟨(Nat.le_of_ble_eq_true rfl), (Nat.le_of_ble_eq_true rfl)⟩) (j_r0.1.mpr (show 0 ∈ mK by decide)) (j_r0.2.2.trans rfl) rfl rfl rfl (Nat.le_of_ble_eq_true rfl) hRR ⟨ha, hb⟩ dL_law_826 (fun t9 M3 ht => ?_)
  obtain ⟨rfl, rfl⟩ := ht
  show kv dd g (a + 2) (b + 12) 829 [(7, .int b9), (6, .int r9), (0, .ref sc), (1, .ref (ad 0)), (2, .ref (adr 0)), (3, .ref (x.2.1 0)), (4, .ref (x.2.1 1)), (5, .int (nI i))] [.int (M2.1 0)] (jk z1 (mK, adr, mE dd adr M2) z2) (jd z1 (mK, adr, mE dd adr M2) z2) (jE z1 (mK, adr, mE dd adr M2) z2)
  refine kv_iload X 1 dL_law_829 rfl ?_
  refine kv_icmp_eq (tgt := 836) X dL_law_831 (by decide) (fun _ => ?_) (fun h => absurd h1 h)
  refine kv_iload X 1 dL_law_836 rfl ?_
  refine kv_if_ne (tgt := 853) X dL_law_838 (by decide) (fun h => ?_) (fun h => ?_)
  ·
    replace h3 : z2 = x := h3 h
    subst h3
    refine kv_goto (tgt := 2529) X dL_law_853 (by decide) ?_
    refine kv_lv [2, 3, 4, 5, 6, 7] rfl ?_
    exact K z1 _ M2 h4 hxx
  ·
    replace h2 : z2 = xJ dd x f0 b9.toInt64 := h2 h
    subst h2
    refine kv_aload_n X 5 dL_law_841 rfl rfl ?_
    refine kv_iconst (v := 0) X dL_law_842 (by decide) ?_
    refine kv_laload X (κ := 2000) (n := 1) (j := 0) (f := va_up f0 0 b9.toInt64) (j_x0.1.mpr hx0) (j_x0.2.2.trans (va_up_self x.2.2 0 (kJ dd 1 (va_up f0 0 b9.toInt64)))) (by omega) (by omega) dL_law_843 ?_
    show kv dd g (a + 2) (b + 12) 844 [(7, .int b9), (6, .int r9), (0, .ref sc), (1, .ref (ad 0)), (2, .ref (adr 0)), (3, .ref (x.2.1 0)), (4, .ref (x.2.1 1)), (5, .int (nI i))] [.long b9.toInt64] (jk z1 (mK, adr, mE dd adr M2) (xJ dd x f0 b9.toInt64)) (jd z1 (mK, adr, mE dd adr M2) (xJ dd x f0 b9.toInt64)) (jE z1 (mK, adr, mE dd adr M2) (xJ dd x f0 b9.toInt64))
    refine kv_iload X 0 dL_law_844 rfl ?_
    refine kv_i2l X dL_law_846 rfl ?_
    refine kv_lcmp X dL_law_847 ?_
    refine kv_if_eq (tgt := 853) X dL_law_848 (by decide) (fun _ => ?_) (fun h9 => absurd lcs h9)
    refine kv_goto (tgt := 2529) X dL_law_853 (by decide) ?_
    refine kv_lv [2, 3, 4, 5, 6, 7] rfl ?_
    exact K z1 _ M2 h4 (XW_xJ hxx)

/-! THE LAW'S CASES -/
set_option maxRecDepth 100000 in
set_option maxHeartbeats 4000000 in
theorem lw_replaceItem {l : Launch} {dd : kDD} {g : kG} (X : kX dd g cL_law RL wsLaw) (hRR : kR g = room_1) (hnL : knL g = 9) (hl0 : kL g = l) {sc L i : Nat} {xs : Nat → Int32} (hs : kScr g sc L xs) (hLL : L ≤ 3584) (hi : i + 6 < L) {a b : Nat} {c x : kT} {M : mS} {xa o1 o2 : Nat} {adr : Nat → Nat} (hw : LWS dd c M xa) (hx : XW dd x o1 o2) (ha : a + 5 ≤ 603072) (hb : b + 30 ≤ 7219306) (K : ∀ (c2 x2 : kT) (M2 : mS), LWS dd c2 M2 xa → XW dd x2 o1 o2 → kv dd g (a + 5) (b + 30) 2529 [(0, .ref sc), (1, .ref xa), (2, .ref (adr 0)), (3, .ref o1), (4, .ref o2), (5, .int (nI i))] [] (jk c2 (mK, adr, mE dd adr M2) x2) (jd c2 (mK, adr, mE dd adr M2) x2) (jE c2 (mK, adr, mE dd adr M2) x2)) : kv dd g a b 1435 [(0, .ref sc), (1, .ref xa), (2, .ref (adr 0)), (3, .ref o1), (4, .ref o2), (5, .int (nI i))] [] (jk c (mK, adr, mE dd adr M) x) (jd c (mK, adr, mE dd adr M) x) (jE c (mK, adr, mE dd adr M) x) := by
  obtain ⟨ks, ad, E, e, nR, nC, nt, nL, nW, nV, nM, cn, nm, mn, me, li, rl, hks, hcf, rfl, hI, hO, hR, hC, hT, hL, hW, hV, hM⟩ := LWS_open hw
  obtain ⟨iR, iC, iT, iL, iW, iV, iM, hcn, hnm, hmn, hme, hs2, hli, hB, hpk, hmI, hmR, hmIc, hmRc, hlG⟩ := rI_all hI
  have hxx := hx
  obtain ⟨hx0, hx1, rfl, rfl, ⟨f0, hf0⟩, ⟨f1, hf1⟩⟩ := hx
  refine kv_cf ?_
  rw [hcf]
  refine kv_aload_n X 1 dL_law_1435 rfl rfl ?_
  refine kv_arg X hs hLL 1 (by omega) 0 5 rfl rfl (by decide) dL_law_1436 dL_law_1437 dL_law_1439 dL_law_1440 dL_law_1441 ?_
  refine kv_arg X hs hLL 2 (by omega) 0 5 rfl rfl (by decide) dL_law_1442 dL_law_1443 dL_law_1445 dL_law_1446 dL_law_1447 ?_
  refine kv_arg X hs hLL 3 (by omega) 0 5 rfl rfl (by decide) dL_law_1448 dL_law_1449 dL_law_1451 dL_law_1452 dL_law_1453 ?_
  refine kv_aload_n X 3 dL_law_1454 rfl rfl ?_
  refine kv_calliSW (As := [.ref (ad 0), .int (xs (i + 1)), .int (xs (i + 2)), .int (xs (i + 3)), .ref (x.2.1 0)]) [] X (c_L_replaceItem l dd ks ad E e (mK, adr, mE dd adr M) x hks M nR nC nt nL nW nV nM cn nm mn me li rl (M.1 24) hO hR hC hT hL hW hV hM hB (cmI (M.2.1 22) nV) (cmI (M.2.1 23) nV) hmIc hmRc hpk (xs (i + 1)) (xs (i + 2)) (xs (i + 3)) f0 ⟨hx0, hf0⟩) hl0 (kCSW_of X 5 (show GoodIn wsLaw (va_wsS RL 207 yL_replaceItem (wsL_replaceItem ++ kHx)) from gK (pre := [Cond.methodLink RL 207 yL_replaceItem, Cond.static yL_replaceItem, Cond.initialized yL_replaceItem.cls]) gL_law_L_replaceItem) rfl rfl rfl (by decide +kernel) hRR ⟨(Nat.le_of_ble_eq_true rfl), (Nat.le_of_ble_eq_true rfl)⟩) rfl rfl (Nat.le_of_ble_eq_true rfl) hRR ⟨ha, hb⟩ dL_law_1455 (fun r9 z hp => ?_)
  obtain ⟨z1, z2⟩ := z
  show kv dd g (a + 5) (b + 30) 1458 [(0, .ref sc), (1, .ref (ad 0)), (2, .ref (adr 0)), (3, .ref (x.2.1 0)), (4, .ref (x.2.1 1)), (5, .int (nI i))] [.int r9] (jk z1 (mK, adr, mE dd adr M) z2) (jd z1 (mK, adr, mE dd adr M) z2) (jE z1 (mK, adr, mE dd adr M) z2)
  refine kv_istore (lv2 := [(6, .int r9), (0, .ref sc), (1, .ref (ad 0)), (2, .ref (adr 0)), (3, .ref (x.2.1 0)), (4, .ref (x.2.1 1)), (5, .int (nI i))]) X dL_law_1458 (by rw [hnL]; decide) rfl ?_
  refine kv_aload_n X 3 dL_law_1460 rfl rfl ?_
  refine kv_arg X hs hLL 1 (by omega) 1 6 rfl rfl (by decide) dL_law_1461 dL_law_1462 dL_law_1464 dL_law_1465 dL_law_1466 ?_
  refine kv_arg X hs hLL 2 (by omega) 1 6 rfl rfl (by decide) dL_law_1467 dL_law_1468 dL_law_1470 dL_law_1471 dL_law_1472 ?_
  refine kv_arg X hs hLL 3 (by omega) 1 6 rfl rfl (by decide) dL_law_1473 dL_law_1474 dL_law_1476 dL_law_1477 dL_law_1478 ?_
  refine kv_calliV (As := [.int (xs (i + 1)), .int (xs (i + 2)), .int (xs (i + 3))]) [] (ci := 14) (κ := 1000) (rm := ({ frames := 2, cells := 0, slots := 0, locals := 43 } : Room)) (mc := 0) (ms := 0) (r1 := (TX11, 34)) X (kCi_frR (c := z1) (r := (mK, adr, mE dd adr M)) (x := z2) (by rw [cf_id mK_lt]; exact c_X11_replaceItem l dd adr M (xs (i + 1)) (xs (i + 2)) (xs (i + 3)) nV iV nt iT)) hl0 (kCV_of X 3 (gW gL_law_X11_replaceItem) rfl rfl rfl (by decide +kernel) hRR ⟨(Nat.le_of_ble_eq_true rfl), (Nat.le_of_ble_eq_true rfl)⟩) (j_r0.1.mpr (show 0 ∈ mK by decide)) (j_r0.2.2.trans rfl) rfl rfl rfl (Nat.le_of_ble_eq_true rfl) hRR ⟨ha, hb⟩ dL_law_1479 (fun b9 M2 hq => ?_)
  have hst := st_replaceItem (e := e) (wx := x) (f0 := f0) hI hO hR hC hT hL hW hV hM hp hq
  obtain ⟨h1, h2, h3, h4⟩ := hst
  show kv dd g (a + 5) (b + 30) 1482 [(6, .int r9), (0, .ref sc), (1, .ref (ad 0)), (2, .ref (adr 0)), (3, .ref (x.2.1 0)), (4, .ref (x.2.1 1)), (5, .int (nI i))] [.int b9] (jk z1 (mK, adr, mE dd adr M2) z2) (jd z1 (mK, adr, mE dd adr M2) z2) (jE z1 (mK, adr, mE dd adr M2) z2)
  refine kv_istore (lv2 := [(7, .int b9), (6, .int r9), (0, .ref sc), (1, .ref (ad 0)), (2, .ref (adr 0)), (3, .ref (x.2.1 0)), (4, .ref (x.2.1 1)), (5, .int (nI i))]) X dL_law_1482 (by rw [hnL]; decide) rfl ?_
  refine kv_aload_n X 4 dL_law_1484 rfl rfl ?_
  refine kv_calliV (As := []) [] (ci := 14) (κ := 1000) (rm := ({ frames := 0, cells := 0, slots := 0, locals := 0 } : Room)) (mc := 0) (ms := 0) (r1 := (TX11, 34)) X (kCi_frR (c := z1) (r := (mK, adr, mE dd adr M2)) (x := z2) (by rw [cf_id mK_lt]; exact c_X11_thrown l dd adr M2 )) hl0 (kCV_of X 0 (gW gL_law_X11_thrown) rfl rfl rfl (by decide +kernel) hRR ⟨(Nat.le_of_ble_eq_true rfl), (Nat.le_of_ble_eq_true rfl)⟩) (j_r0.1.mpr (show 0 ∈ mK by decide)) (j_r0.2.2.trans rfl) rfl rfl rfl (Nat.le_of_ble_eq_true rfl) hRR ⟨ha, hb⟩ dL_law_1485 (fun t9 M3 ht => ?_)
  obtain ⟨rfl, rfl⟩ := ht
  show kv dd g (a + 5) (b + 30) 1488 [(7, .int b9), (6, .int r9), (0, .ref sc), (1, .ref (ad 0)), (2, .ref (adr 0)), (3, .ref (x.2.1 0)), (4, .ref (x.2.1 1)), (5, .int (nI i))] [.int (M2.1 0)] (jk z1 (mK, adr, mE dd adr M2) z2) (jd z1 (mK, adr, mE dd adr M2) z2) (jE z1 (mK, adr, mE dd adr M2) z2)
  refine kv_iload X 1 dL_law_1488 rfl ?_
  refine kv_icmp_eq (tgt := 1495) X dL_law_1490 (by decide) (fun _ => ?_) (fun h => absurd h1 h)
  refine kv_iload X 1 dL_law_1495 rfl ?_
  refine kv_if_ne (tgt := 1512) X dL_law_1497 (by decide) (fun h => ?_) (fun h => ?_)
  ·
    replace h3 : z2 = x := h3 h
    subst h3
    refine kv_goto (tgt := 2529) X dL_law_1512 (by decide) ?_
    refine kv_lv [2, 3, 4, 5, 6, 7] rfl ?_
    exact K z1 _ M2 h4 hxx
  ·
    replace h2 : z2 = xJ dd x f0 b9.toInt64 := h2 h
    subst h2
    refine kv_aload_n X 5 dL_law_1500 rfl rfl ?_
    refine kv_iconst (v := 0) X dL_law_1501 (by decide) ?_
    refine kv_laload X (κ := 2000) (n := 1) (j := 0) (f := va_up f0 0 b9.toInt64) (j_x0.1.mpr hx0) (j_x0.2.2.trans (va_up_self x.2.2 0 (kJ dd 1 (va_up f0 0 b9.toInt64)))) (by omega) (by omega) dL_law_1502 ?_
    show kv dd g (a + 5) (b + 30) 1503 [(7, .int b9), (6, .int r9), (0, .ref sc), (1, .ref (ad 0)), (2, .ref (adr 0)), (3, .ref (x.2.1 0)), (4, .ref (x.2.1 1)), (5, .int (nI i))] [.long b9.toInt64] (jk z1 (mK, adr, mE dd adr M2) (xJ dd x f0 b9.toInt64)) (jd z1 (mK, adr, mE dd adr M2) (xJ dd x f0 b9.toInt64)) (jE z1 (mK, adr, mE dd adr M2) (xJ dd x f0 b9.toInt64))
    refine kv_iload X 0 dL_law_1503 rfl ?_
    refine kv_i2l X dL_law_1505 rfl ?_
    refine kv_lcmp X dL_law_1506 ?_
    refine kv_if_eq (tgt := 1512) X dL_law_1507 (by decide) (fun _ => ?_) (fun h9 => absurd lcs h9)
    refine kv_goto (tgt := 2529) X dL_law_1512 (by decide) ?_
    refine kv_lv [2, 3, 4, 5, 6, 7] rfl ?_
    exact K z1 _ M2 h4 (XW_xJ hxx)

set_option maxRecDepth 100000 in
set_option maxHeartbeats 4000000 in
theorem lw_replaceResource {l : Launch} {dd : kDD} {g : kG} (X : kX dd g cL_law RL wsLaw) (hRR : kR g = room_1) (hnL : knL g = 9) (hl0 : kL g = l) {sc L i : Nat} {xs : Nat → Int32} (hs : kScr g sc L xs) (hLL : L ≤ 3584) (hi : i + 6 < L) {a b : Nat} {c x : kT} {M : mS} {xa o1 o2 : Nat} {adr : Nat → Nat} (hw : LWS dd c M xa) (hx : XW dd x o1 o2) (ha : a + 5 ≤ 603072) (hb : b + 30 ≤ 7219306) (K : ∀ (c2 x2 : kT) (M2 : mS), LWS dd c2 M2 xa → XW dd x2 o1 o2 → kv dd g (a + 5) (b + 30) 2529 [(0, .ref sc), (1, .ref xa), (2, .ref (adr 0)), (3, .ref o1), (4, .ref o2), (5, .int (nI i))] [] (jk c2 (mK, adr, mE dd adr M2) x2) (jd c2 (mK, adr, mE dd adr M2) x2) (jE c2 (mK, adr, mE dd adr M2) x2)) : kv dd g a b 1515 [(0, .ref sc), (1, .ref xa), (2, .ref (adr 0)), (3, .ref o1), (4, .ref o2), (5, .int (nI i))] [] (jk c (mK, adr, mE dd adr M) x) (jd c (mK, adr, mE dd adr M) x) (jE c (mK, adr, mE dd adr M) x) := by
  obtain ⟨ks, ad, E, e, nR, nC, nt, nL, nW, nV, nM, cn, nm, mn, me, li, rl, hks, hcf, rfl, hI, hO, hR, hC, hT, hL, hW, hV, hM⟩ := LWS_open hw
  obtain ⟨iR, iC, iT, iL, iW, iV, iM, hcn, hnm, hmn, hme, hs2, hli, hB, hpk, hmI, hmR, hmIc, hmRc, hlG⟩ := rI_all hI
  have hxx := hx
  obtain ⟨hx0, hx1, rfl, rfl, ⟨f0, hf0⟩, ⟨f1, hf1⟩⟩ := hx
  refine kv_cf ?_
  rw [hcf]
  refine kv_aload_n X 1 dL_law_1515 rfl rfl ?_
  refine kv_arg X hs hLL 1 (by omega) 0 5 rfl rfl (by decide) dL_law_1516 dL_law_1517 dL_law_1519 dL_law_1520 dL_law_1521 ?_
  refine kv_arg X hs hLL 2 (by omega) 0 5 rfl rfl (by decide) dL_law_1522 dL_law_1523 dL_law_1525 dL_law_1526 dL_law_1527 ?_
  refine kv_arg X hs hLL 3 (by omega) 0 5 rfl rfl (by decide) dL_law_1528 dL_law_1529 dL_law_1531 dL_law_1532 dL_law_1533 ?_
  refine kv_aload_n X 3 dL_law_1534 rfl rfl ?_
  refine kv_calliSW (As := [.ref (ad 0), .int (xs (i + 1)), .int (xs (i + 2)), .int (xs (i + 3)), .ref (x.2.1 0)]) [] X (c_L_replaceResource l dd ks ad E e (mK, adr, mE dd adr M) x hks M nR nC nt nL nW nV nM cn nm mn me li rl (M.1 24) hO hR hC hT hL hW hV hM hB (cmI (M.2.1 22) nV) (cmI (M.2.1 23) nV) hmIc hmRc hpk (xs (i + 1)) (xs (i + 2)) (xs (i + 3)) f0 ⟨hx0, hf0⟩) hl0 (kCSW_of X 5 (show GoodIn wsLaw (va_wsS RL 210 yL_replaceResource (wsL_replaceResource ++ kHx)) from gK (pre := [Cond.methodLink RL 210 yL_replaceResource, Cond.static yL_replaceResource, Cond.initialized yL_replaceResource.cls]) gL_law_L_replaceResource) rfl rfl rfl (by decide +kernel) hRR ⟨(Nat.le_of_ble_eq_true rfl), (Nat.le_of_ble_eq_true rfl)⟩) rfl rfl (Nat.le_of_ble_eq_true rfl) hRR ⟨ha, hb⟩ dL_law_1535 (fun r9 z hp => ?_)
  obtain ⟨z1, z2⟩ := z
  show kv dd g (a + 5) (b + 30) 1538 [(0, .ref sc), (1, .ref (ad 0)), (2, .ref (adr 0)), (3, .ref (x.2.1 0)), (4, .ref (x.2.1 1)), (5, .int (nI i))] [.int r9] (jk z1 (mK, adr, mE dd adr M) z2) (jd z1 (mK, adr, mE dd adr M) z2) (jE z1 (mK, adr, mE dd adr M) z2)
  refine kv_istore (lv2 := [(6, .int r9), (0, .ref sc), (1, .ref (ad 0)), (2, .ref (adr 0)), (3, .ref (x.2.1 0)), (4, .ref (x.2.1 1)), (5, .int (nI i))]) X dL_law_1538 (by rw [hnL]; decide) rfl ?_
  refine kv_aload_n X 3 dL_law_1540 rfl rfl ?_
  refine kv_arg X hs hLL 1 (by omega) 1 6 rfl rfl (by decide) dL_law_1541 dL_law_1542 dL_law_1544 dL_law_1545 dL_law_1546 ?_
  refine kv_arg X hs hLL 2 (by omega) 1 6 rfl rfl (by decide) dL_law_1547 dL_law_1548 dL_law_1550 dL_law_1551 dL_law_1552 ?_
  refine kv_arg X hs hLL 3 (by omega) 1 6 rfl rfl (by decide) dL_law_1553 dL_law_1554 dL_law_1556 dL_law_1557 dL_law_1558 ?_
  refine kv_calliV (As := [.int (xs (i + 1)), .int (xs (i + 2)), .int (xs (i + 3))]) [] (ci := 14) (κ := 1000) (rm := ({ frames := 2, cells := 0, slots := 0, locals := 43 } : Room)) (mc := 0) (ms := 0) (r1 := (TX11, 34)) X (kCi_frR (c := z1) (r := (mK, adr, mE dd adr M)) (x := z2) (by rw [cf_id mK_lt]; exact c_X11_replaceResource l dd adr M (xs (i + 1)) (xs (i + 2)) (xs (i + 3)) nV iV nR iR)) hl0 (kCV_of X 3 (gW gL_law_X11_replaceResource) rfl rfl rfl (by decide +kernel) hRR ⟨(Nat.le_of_ble_eq_true rfl), (Nat.le_of_ble_eq_true rfl)⟩) (j_r0.1.mpr (show 0 ∈ mK by decide)) (j_r0.2.2.trans rfl) rfl rfl rfl (Nat.le_of_ble_eq_true rfl) hRR ⟨ha, hb⟩ dL_law_1559 (fun b9 M2 hq => ?_)
  have hst := st_replaceResource (e := e) (wx := x) (f0 := f0) hI hO hR hC hT hL hW hV hM hp hq
  obtain ⟨h1, h2, h3, h4⟩ := hst
  show kv dd g (a + 5) (b + 30) 1562 [(6, .int r9), (0, .ref sc), (1, .ref (ad 0)), (2, .ref (adr 0)), (3, .ref (x.2.1 0)), (4, .ref (x.2.1 1)), (5, .int (nI i))] [.int b9] (jk z1 (mK, adr, mE dd adr M2) z2) (jd z1 (mK, adr, mE dd adr M2) z2) (jE z1 (mK, adr, mE dd adr M2) z2)
  refine kv_istore (lv2 := [(7, .int b9), (6, .int r9), (0, .ref sc), (1, .ref (ad 0)), (2, .ref (adr 0)), (3, .ref (x.2.1 0)), (4, .ref (x.2.1 1)), (5, .int (nI i))]) X dL_law_1562 (by rw [hnL]; decide) rfl ?_
  refine kv_aload_n X 4 dL_law_1564 rfl rfl ?_
  refine kv_calliV (As := []) [] (ci := 14) (κ := 1000) (rm := ({ frames := 0, cells := 0, slots := 0, locals := 0 } : Room)) (mc := 0) (ms := 0) (r1 := (TX11, 34)) X (kCi_frR (c := z1) (r := (mK, adr, mE dd adr M2)) (x := z2) (by rw [cf_id mK_lt]; exact c_X11_thrown l dd adr M2 )) hl0 (kCV_of X 0 (gW gL_law_X11_thrown) rfl rfl rfl (by decide +kernel) hRR ⟨(Nat.le_of_ble_eq_true rfl), (Nat.le_of_ble_eq_true rfl)⟩) (j_r0.1.mpr (show 0 ∈ mK by decide)) (j_r0.2.2.trans rfl) rfl rfl rfl (Nat.le_of_ble_eq_true rfl) hRR ⟨ha, hb⟩ dL_law_1565 (fun t9 M3 ht => ?_)
  obtain ⟨rfl, rfl⟩ := ht
  show kv dd g (a + 5) (b + 30) 1568 [(7, .int b9), (6, .int r9), (0, .ref sc), (1, .ref (ad 0)), (2, .ref (adr 0)), (3, .ref (x.2.1 0)), (4, .ref (x.2.1 1)), (5, .int (nI i))] [.int (M2.1 0)] (jk z1 (mK, adr, mE dd adr M2) z2) (jd z1 (mK, adr, mE dd adr M2) z2) (jE z1 (mK, adr, mE dd adr M2) z2)
  refine kv_iload X 1 dL_law_1568 rfl ?_
  refine kv_icmp_eq (tgt := 1575) X dL_law_1570 (by decide) (fun _ => ?_) (fun h => absurd h1 h)
  refine kv_iload X 1 dL_law_1575 rfl ?_
  refine kv_if_ne (tgt := 1592) X dL_law_1577 (by decide) (fun h => ?_) (fun h => ?_)
  ·
    replace h3 : z2 = x := h3 h
    subst h3
    refine kv_goto (tgt := 2529) X dL_law_1592 (by decide) ?_
    refine kv_lv [2, 3, 4, 5, 6, 7] rfl ?_
    exact K z1 _ M2 h4 hxx
  ·
    replace h2 : z2 = xJ dd x f0 b9.toInt64 := h2 h
    subst h2
    refine kv_aload_n X 5 dL_law_1580 rfl rfl ?_
    refine kv_iconst (v := 0) X dL_law_1581 (by decide) ?_
    refine kv_laload X (κ := 2000) (n := 1) (j := 0) (f := va_up f0 0 b9.toInt64) (j_x0.1.mpr hx0) (j_x0.2.2.trans (va_up_self x.2.2 0 (kJ dd 1 (va_up f0 0 b9.toInt64)))) (by omega) (by omega) dL_law_1582 ?_
    show kv dd g (a + 5) (b + 30) 1583 [(7, .int b9), (6, .int r9), (0, .ref sc), (1, .ref (ad 0)), (2, .ref (adr 0)), (3, .ref (x.2.1 0)), (4, .ref (x.2.1 1)), (5, .int (nI i))] [.long b9.toInt64] (jk z1 (mK, adr, mE dd adr M2) (xJ dd x f0 b9.toInt64)) (jd z1 (mK, adr, mE dd adr M2) (xJ dd x f0 b9.toInt64)) (jE z1 (mK, adr, mE dd adr M2) (xJ dd x f0 b9.toInt64))
    refine kv_iload X 0 dL_law_1583 rfl ?_
    refine kv_i2l X dL_law_1585 rfl ?_
    refine kv_lcmp X dL_law_1586 ?_
    refine kv_if_eq (tgt := 1592) X dL_law_1587 (by decide) (fun _ => ?_) (fun h9 => absurd lcs h9)
    refine kv_goto (tgt := 2529) X dL_law_1592 (by decide) ?_
    refine kv_lv [2, 3, 4, 5, 6, 7] rfl ?_
    exact K z1 _ M2 h4 (XW_xJ hxx)

set_option maxRecDepth 100000 in
set_option maxHeartbeats 4000000 in
theorem lw_turn {l : Launch} {dd : kDD} {g : kG} (X : kX dd g cL_law RL wsLaw) (hRR : kR g = room_1) (hnL : knL g = 9) (hl0 : kL g = l) {sc L i : Nat} {xs : Nat → Int32} (hs : kScr g sc L xs) (hLL : L ≤ 3584) (hi : i + 6 < L) {a b : Nat} {c x : kT} {M : mS} {xa o1 o2 : Nat} {adr : Nat → Nat} (hw : LWS dd c M xa) (hx : XW dd x o1 o2) (ha : a + 2 ≤ 603072) (hb : b + 12 ≤ 7219306) (K : ∀ (c2 x2 : kT) (M2 : mS), LWS dd c2 M2 xa → XW dd x2 o1 o2 → kv dd g (a + 2) (b + 12) 2529 [(0, .ref sc), (1, .ref xa), (2, .ref (adr 0)), (3, .ref o1), (4, .ref o2), (5, .int (nI i))] [] (jk c2 (mK, adr, mE dd adr M2) x2) (jd c2 (mK, adr, mE dd adr M2) x2) (jE c2 (mK, adr, mE dd adr M2) x2)) : kv dd g a b 1595 [(0, .ref sc), (1, .ref xa), (2, .ref (adr 0)), (3, .ref o1), (4, .ref o2), (5, .int (nI i))] [] (jk c (mK, adr, mE dd adr M) x) (jd c (mK, adr, mE dd adr M) x) (jE c (mK, adr, mE dd adr M) x) := by
  obtain ⟨ks, ad, E, e, nR, nC, nt, nL, nW, nV, nM, cn, nm, mn, me, li, rl, hks, hcf, rfl, hI, hO, hR, hC, hT, hL, hW, hV, hM⟩ := LWS_open hw
  obtain ⟨iR, iC, iT, iL, iW, iV, iM, hcn, hnm, hmn, hme, hs2, hli, hB, hpk, hmI, hmR, hmIc, hmRc, hlG⟩ := rI_all hI
  have hxx := hx
  obtain ⟨hx0, hx1, rfl, rfl, ⟨f0, hf0⟩, ⟨f1, hf1⟩⟩ := hx
  refine kv_cf ?_
  rw [hcf]
  refine kv_aload_n X 1 dL_law_1595 rfl rfl ?_
  refine kv_arg X hs hLL 1 (by omega) 0 5 rfl rfl (by decide) dL_law_1596 dL_law_1597 dL_law_1599 dL_law_1600 dL_law_1601 ?_
  refine kv_arg X hs hLL 2 (by omega) 0 5 rfl rfl (by decide) dL_law_1602 dL_law_1603 dL_law_1605 dL_law_1606 dL_law_1607 ?_
  refine kv_bool X dL_law_1608 dL_law_1611 dL_law_1612 dL_law_1615 ?_
  refine kv_aload_n X 3 dL_law_1616 rfl rfl ?_
  refine kv_calliSW (As := [.ref (ad 0), .int (xs (i + 1)), .int (if (xs (i + 2)) = 0 then 0 else 1), .ref (x.2.1 0)]) [] X (c_L_turn l dd ks ad E e (mK, adr, mE dd adr M) x hks M nR nC nt nL nW nV nM cn nm mn me li rl (M.1 24) hO hR hC hT hL hW hV hM hB (cmI (M.2.1 22) nV) (cmI (M.2.1 23) nV) hmIc hmRc hpk (xs (i + 1)) (if (xs (i + 2)) = 0 then 0 else 1) f0 ⟨hx0, hf0⟩) hl0 (kCSW_of X 4 (show GoodIn wsLaw (va_wsS RL 213 yL_turn (wsL_turn ++ kHx)) from gK (pre := [Cond.methodLink RL 213 yL_turn, Cond.static yL_turn, Cond.initialized yL_turn.cls]) gL_law_L_turn) rfl rfl rfl (by decide +kernel) hRR ⟨(Nat.le_of_ble_eq_true rfl), (Nat.le_of_ble_eq_true rfl)⟩) rfl rfl (Nat.le_of_ble_eq_true rfl) hRR ⟨ha, hb⟩ dL_law_1617 (fun r9 z hp => ?_)
  obtain ⟨z1, z2⟩ := z
  show kv dd g (a + 2) (b + 12) 1620 [(0, .ref sc), (1, .ref (ad 0)), (2, .ref (adr 0)), (3, .ref (x.2.1 0)), (4, .ref (x.2.1 1)), (5, .int (nI i))] [.int r9] (jk z1 (mK, adr, mE dd adr M) z2) (jd z1 (mK, adr, mE dd adr M) z2) (jE z1 (mK, adr, mE dd adr M) z2)
  refine kv_istore (lv2 := [(6, .int r9), (0, .ref sc), (1, .ref (ad 0)), (2, .ref (adr 0)), (3, .ref (x.2.1 0)), (4, .ref (x.2.1 1)), (5, .int (nI i))]) X dL_law_1620 (by rw [hnL]; decide) rfl ?_
  refine kv_aload_n X 3 dL_law_1622 rfl rfl ?_
  refine kv_arg X hs hLL 1 (by omega) 1 6 rfl rfl (by decide) dL_law_1623 dL_law_1624 dL_law_1626 dL_law_1627 dL_law_1628 ?_
  refine kv_arg X hs hLL 2 (by omega) 1 6 rfl rfl (by decide) dL_law_1629 dL_law_1630 dL_law_1632 dL_law_1633 dL_law_1634 ?_
  refine kv_bool X dL_law_1635 dL_law_1638 dL_law_1639 dL_law_1642 ?_
  refine kv_calliV (As := [.int (xs (i + 1)), .int (if (xs (i + 2)) = 0 then 0 else 1)]) [] (ci := 14) (κ := 1000) (rm := ({ frames := 3, cells := 0, slots := 0, locals := 68 } : Room)) (mc := 0) (ms := 0) (r1 := (TX11, 34)) X (kCi_frR (c := z1) (r := (mK, adr, mE dd adr M)) (x := z2) (by rw [cf_id mK_lt]; exact c_X11_turn l dd adr M (xs (i + 1)) (if (xs (i + 2)) = 0 then 0 else 1) nt iT nV iV cn hcn nm hnm (cmI (M.2.1 22) nV) hmI)) hl0 (kCV_of X 2 (gW gL_law_X11_turn) rfl rfl rfl (by decide +kernel) hRR ⟨(Nat.le_of_ble_eq_true rfl), (Nat.le_of_ble_eq_true rfl)⟩) (j_r0.1.mpr (show 0 ∈ mK by decide)) (j_r0.2.2.trans rfl) rfl rfl rfl (Nat.le_of_ble_eq_true rfl) hRR ⟨ha, hb⟩ dL_law_1643 (fun b9 M2 hq => ?_)
  have hst := st_turn (e := e) (wx := x) (f0 := f0) hI hO hR hC hT hL hW hV hM (by split <;> simp) hp hq
  obtain ⟨h1, h2, h3, h4⟩ := hst
  show kv dd g (a + 2) (b + 12) 1646 [(6, .int r9), (0, .ref sc), (1, .ref (ad 0)), (2, .ref (adr 0)), (3, .ref (x.2.1 0)), (4, .ref (x.2.1 1)), (5, .int (nI i))] [.int b9] (jk z1 (mK, adr, mE dd adr M2) z2) (jd z1 (mK, adr, mE dd adr M2) z2) (jE z1 (mK, adr, mE dd adr M2) z2)
  refine kv_istore (lv2 := [(7, .int b9), (6, .int r9), (0, .ref sc), (1, .ref (ad 0)), (2, .ref (adr 0)), (3, .ref (x.2.1 0)), (4, .ref (x.2.1 1)), (5, .int (nI i))]) X dL_law_1646 (by rw [hnL]; decide) rfl ?_
  refine kv_aload_n X 4 dL_law_1648 rfl rfl ?_
  refine kv_calliV (As := []) [] (ci := 14) (κ := 1000) (rm := ({ frames := 0, cells := 0, slots := 0, locals := 0 } : Room)) (mc := 0) (ms := 0) (r1 := (TX11, 34)) X (kCi_frR (c := z1) (r := (mK, adr, mE dd adr M2)) (x := z2) (by rw [cf_id mK_lt]; exact c_X11_thrown l dd adr M2 )) hl0 (kCV_of X 0 (gW gL_law_X11_thrown) rfl rfl rfl (by decide +kernel) hRR ⟨(Nat.le_of_ble_eq_true rfl), (Nat.le_of_ble_eq_true rfl)⟩) (j_r0.1.mpr (show 0 ∈ mK by decide)) (j_r0.2.2.trans rfl) rfl rfl rfl (Nat.le_of_ble_eq_true rfl) hRR ⟨ha, hb⟩ dL_law_1649 (fun t9 M3 ht => ?_)
  obtain ⟨rfl, rfl⟩ := ht
  show kv dd g (a + 2) (b + 12) 1652 [(7, .int b9), (6, .int r9), (0, .ref sc), (1, .ref (ad 0)), (2, .ref (adr 0)), (3, .ref (x.2.1 0)), (4, .ref (x.2.1 1)), (5, .int (nI i))] [.int (M2.1 0)] (jk z1 (mK, adr, mE dd adr M2) z2) (jd z1 (mK, adr, mE dd adr M2) z2) (jE z1 (mK, adr, mE dd adr M2) z2)
  refine kv_iload X 1 dL_law_1652 rfl ?_
  refine kv_icmp_eq (tgt := 1659) X dL_law_1654 (by decide) (fun _ => ?_) (fun h => absurd h1 h)
  refine kv_iload X 1 dL_law_1659 rfl ?_
  refine kv_if_ne (tgt := 1683) X dL_law_1661 (by decide) (fun h => ?_) (fun h => ?_)
  ·
    replace h3 : z2 = x := h3 h
    subst h3
    refine kv_goto (tgt := 2529) X dL_law_1683 (by decide) ?_
    refine kv_lv [2, 3, 4, 5, 6, 7] rfl ?_
    exact K z1 _ M2 h4 hxx
  ·
    replace h2 : z2 = xJ dd x f0 (if b9 = 0 then 0 else 1) := h2 h
    subst h2
    refine kv_aload_n X 5 dL_law_1664 rfl rfl ?_
    refine kv_iconst (v := 0) X dL_law_1665 (by decide) ?_
    refine kv_laload X (κ := 2000) (n := 1) (j := 0) (f := va_up f0 0 (if b9 = 0 then 0 else 1)) (j_x0.1.mpr hx0) (j_x0.2.2.trans (va_up_self x.2.2 0 (kJ dd 1 (va_up f0 0 (if b9 = 0 then 0 else 1))))) (by omega) (by omega) dL_law_1666 ?_
    show kv dd g (a + 2) (b + 12) 1667 [(7, .int b9), (6, .int r9), (0, .ref sc), (1, .ref (ad 0)), (2, .ref (adr 0)), (3, .ref (x.2.1 0)), (4, .ref (x.2.1 1)), (5, .int (nI i))] [.long (if b9 = 0 then 0 else 1)] (jk z1 (mK, adr, mE dd adr M2) (xJ dd x f0 (if b9 = 0 then 0 else 1))) (jd z1 (mK, adr, mE dd adr M2) (xJ dd x f0 (if b9 = 0 then 0 else 1))) (jE z1 (mK, adr, mE dd adr M2) (xJ dd x f0 (if b9 = 0 then 0 else 1)))
    refine kv_iload X 0 dL_law_1667 rfl ?_
    refine kv_boolL X dL_law_1669 dL_law_1672 dL_law_1673 dL_law_1676 ?_
    refine kv_lcmp X dL_law_1677 ?_
    refine kv_if_eq (tgt := 1683) X dL_law_1678 (by decide) (fun _ => ?_) (fun h9 => absurd lcs h9)
    refine kv_goto (tgt := 2529) X dL_law_1683 (by decide) ?_
    refine kv_lv [2, 3, 4, 5, 6, 7] rfl ?_
    exact K z1 _ M2 h4 (XW_xJ hxx)

set_option maxRecDepth 100000 in
set_option maxHeartbeats 4000000 in
theorem lw_difference {l : Launch} {dd : kDD} {g : kG} (X : kX dd g cL_law RL wsLaw) (hRR : kR g = room_1) (hnL : knL g = 9) (hl0 : kL g = l) {sc L i : Nat} {xs : Nat → Int32} (hs : kScr g sc L xs) (hLL : L ≤ 3584) (hi : i + 6 < L) {a b : Nat} {c x : kT} {M : mS} {xa o1 o2 : Nat} {adr : Nat → Nat} (hw : LWS dd c M xa) (hx : XW dd x o1 o2) (ha : a + 2 ≤ 603072) (hb : b + 12 ≤ 7219306) (K : ∀ (c2 x2 : kT) (M2 : mS), LWS dd c2 M2 xa → XW dd x2 o1 o2 → kv dd g (a + 2) (b + 12) 2529 [(0, .ref sc), (1, .ref xa), (2, .ref (adr 0)), (3, .ref o1), (4, .ref o2), (5, .int (nI i))] [] (jk c2 (mK, adr, mE dd adr M2) x2) (jd c2 (mK, adr, mE dd adr M2) x2) (jE c2 (mK, adr, mE dd adr M2) x2)) : kv dd g a b 1686 [(0, .ref sc), (1, .ref xa), (2, .ref (adr 0)), (3, .ref o1), (4, .ref o2), (5, .int (nI i))] [] (jk c (mK, adr, mE dd adr M) x) (jd c (mK, adr, mE dd adr M) x) (jE c (mK, adr, mE dd adr M) x) := by
  obtain ⟨ks, ad, E, e, nR, nC, nt, nL, nW, nV, nM, cn, nm, mn, me, li, rl, hks, hcf, rfl, hI, hO, hR, hC, hT, hL, hW, hV, hM⟩ := LWS_open hw
  obtain ⟨iR, iC, iT, iL, iW, iV, iM, hcn, hnm, hmn, hme, hs2, hli, hB, hpk, hmI, hmR, hmIc, hmRc, hlG⟩ := rI_all hI
  have hxx := hx
  obtain ⟨hx0, hx1, rfl, rfl, ⟨f0, hf0⟩, ⟨f1, hf1⟩⟩ := hx
  refine kv_cf ?_
  rw [hcf]
  refine kv_aload_n X 1 dL_law_1686 rfl rfl ?_
  refine kv_arg X hs hLL 1 (by omega) 0 5 rfl rfl (by decide) dL_law_1687 dL_law_1688 dL_law_1690 dL_law_1691 dL_law_1692 ?_
  refine kv_aload_n X 3 dL_law_1693 rfl rfl ?_
  refine kv_calliSW (As := [.ref (ad 0), .int (xs (i + 1)), .ref (x.2.1 0)]) [] X (c_L_difference l dd ks ad E e (mK, adr, mE dd adr M) x hks M nR nC nt nL nW nV nM cn nm mn me li rl (M.1 24) hO hR hC hT hL hW hV hM hB (cmI (M.2.1 22) nV) (cmI (M.2.1 23) nV) hmIc hmRc hpk (xs (i + 1)) (rI_fx hI) f0 ⟨hx0, hf0⟩) hl0 (kCSW_of X 3 (show GoodIn wsLaw (va_wsS RL 217 yL_difference (wsL_difference ++ kHx)) from gK (pre := [Cond.methodLink RL 217 yL_difference, Cond.static yL_difference, Cond.initialized yL_difference.cls]) gL_law_L_difference) rfl rfl rfl (by decide +kernel) hRR ⟨(Nat.le_of_ble_eq_true rfl), (Nat.le_of_ble_eq_true rfl)⟩) rfl rfl (Nat.le_of_ble_eq_true rfl) hRR ⟨ha, hb⟩ dL_law_1694 (fun r9 z hp => ?_)
  obtain ⟨z1, z2⟩ := z
  show kv dd g (a + 2) (b + 12) 1697 [(0, .ref sc), (1, .ref (ad 0)), (2, .ref (adr 0)), (3, .ref (x.2.1 0)), (4, .ref (x.2.1 1)), (5, .int (nI i))] [.int r9] (jk z1 (mK, adr, mE dd adr M) z2) (jd z1 (mK, adr, mE dd adr M) z2) (jE z1 (mK, adr, mE dd adr M) z2)
  refine kv_istore (lv2 := [(6, .int r9), (0, .ref sc), (1, .ref (ad 0)), (2, .ref (adr 0)), (3, .ref (x.2.1 0)), (4, .ref (x.2.1 1)), (5, .int (nI i))]) X dL_law_1697 (by rw [hnL]; decide) rfl ?_
  refine kv_aload_n X 3 dL_law_1699 rfl rfl ?_
  refine kv_arg X hs hLL 1 (by omega) 1 6 rfl rfl (by decide) dL_law_1700 dL_law_1701 dL_law_1703 dL_law_1704 dL_law_1705 ?_
  refine kv_calllV (As := [.int (xs (i + 1))]) [] (ci := 14) (κ := 1000) (rm := ({ frames := 6, cells := 0, slots := 0, locals := 146 } : Room)) (mc := 0) (ms := 0) (r1 := (TX11, 34)) X (kCl_frR (c := z1) (r := (mK, adr, mE dd adr M)) (x := z2) (by rw [cf_id mK_lt]; exact c_X11_difference l dd adr M (xs (i + 1)) nt iT nV iV cn hcn nm hnm mn hmn (cmI (M.2.1 22) nV) hmI (cmI (M.2.1 23) nV) hmR me hme hs2 (rI_val hI) nL iL nW iW li hli hlG nR iR nM iM hpk)) hl0 (kCV_of X 1 (gW gL_law_X11_difference) rfl rfl rfl (by decide +kernel) hRR ⟨(Nat.le_of_ble_eq_true rfl), (Nat.le_of_ble_eq_true rfl)⟩) (j_r0.1.mpr (show 0 ∈ mK by decide)) (j_r0.2.2.trans rfl) rfl rfl rfl (Nat.le_of_ble_eq_true rfl) hRR ⟨ha, hb⟩ dL_law_1706 (fun b9 M2 hq => ?_)
  have hst := st_difference (e := e) (wx := x) (f0 := f0) hI hO hR hC hT hL hW hV hM hp hq
  obtain ⟨h1, h2, h3, h4⟩ := hst
  show kv dd g (a + 2) (b + 12) 1709 [(6, .int r9), (0, .ref sc), (1, .ref (ad 0)), (2, .ref (adr 0)), (3, .ref (x.2.1 0)), (4, .ref (x.2.1 1)), (5, .int (nI i))] [.long b9] (jk z1 (mK, adr, mE dd adr M2) z2) (jd z1 (mK, adr, mE dd adr M2) z2) (jE z1 (mK, adr, mE dd adr M2) z2)
  refine kv_lstore (lv2 := [(7, .long b9), (6, .int r9), (0, .ref sc), (1, .ref (ad 0)), (2, .ref (adr 0)), (3, .ref (x.2.1 0)), (4, .ref (x.2.1 1)), (5, .int (nI i))]) X dL_law_1709 (by rw [hnL]; decide) rfl ?_
  refine kv_aload_n X 4 dL_law_1711 rfl rfl ?_
  refine kv_calliV (As := []) [] (ci := 14) (κ := 1000) (rm := ({ frames := 0, cells := 0, slots := 0, locals := 0 } : Room)) (mc := 0) (ms := 0) (r1 := (TX11, 34)) X (kCi_frR (c := z1) (r := (mK, adr, mE dd adr M2)) (x := z2) (by rw [cf_id mK_lt]; exact c_X11_thrown l dd adr M2 )) hl0 (kCV_of X 0 (gW gL_law_X11_thrown) rfl rfl rfl (by decide +kernel) hRR ⟨(Nat.le_of_ble_eq_true rfl), (Nat.le_of_ble_eq_true rfl)⟩) (j_r0.1.mpr (show 0 ∈ mK by decide)) (j_r0.2.2.trans rfl) rfl rfl rfl (Nat.le_of_ble_eq_true rfl) hRR ⟨ha, hb⟩ dL_law_1712 (fun t9 M3 ht => ?_)
  obtain ⟨rfl, rfl⟩ := ht
  show kv dd g (a + 2) (b + 12) 1715 [(7, .long b9), (6, .int r9), (0, .ref sc), (1, .ref (ad 0)), (2, .ref (adr 0)), (3, .ref (x.2.1 0)), (4, .ref (x.2.1 1)), (5, .int (nI i))] [.int (M2.1 0)] (jk z1 (mK, adr, mE dd adr M2) z2) (jd z1 (mK, adr, mE dd adr M2) z2) (jE z1 (mK, adr, mE dd adr M2) z2)
  refine kv_iload X 1 dL_law_1715 rfl ?_
  refine kv_icmp_eq (tgt := 1722) X dL_law_1717 (by decide) (fun _ => ?_) (fun h => absurd h1 h)
  refine kv_iload X 1 dL_law_1722 rfl ?_
  refine kv_if_ne (tgt := 1738) X dL_law_1724 (by decide) (fun h => ?_) (fun h => ?_)
  ·
    replace h3 : z2 = x := h3 h
    subst h3
    refine kv_goto (tgt := 2529) X dL_law_1738 (by decide) ?_
    refine kv_lv [2, 3, 4, 5, 6, 7] rfl ?_
    exact K z1 _ M2 h4 hxx
  ·
    replace h2 : z2 = xJ dd x f0 b9 := h2 h
    subst h2
    refine kv_aload_n X 5 dL_law_1727 rfl rfl ?_
    refine kv_iconst (v := 0) X dL_law_1728 (by decide) ?_
    refine kv_laload X (κ := 2000) (n := 1) (j := 0) (f := va_up f0 0 b9) (j_x0.1.mpr hx0) (j_x0.2.2.trans (va_up_self x.2.2 0 (kJ dd 1 (va_up f0 0 b9)))) (by omega) (by omega) dL_law_1729 ?_
    show kv dd g (a + 2) (b + 12) 1730 [(7, .long b9), (6, .int r9), (0, .ref sc), (1, .ref (ad 0)), (2, .ref (adr 0)), (3, .ref (x.2.1 0)), (4, .ref (x.2.1 1)), (5, .int (nI i))] [.long b9] (jk z1 (mK, adr, mE dd adr M2) (xJ dd x f0 b9)) (jd z1 (mK, adr, mE dd adr M2) (xJ dd x f0 b9)) (jE z1 (mK, adr, mE dd adr M2) (xJ dd x f0 b9))
    refine kv_lload X 0 dL_law_1730 rfl ?_
    refine kv_lcmp X dL_law_1732 ?_
    refine kv_if_eq (tgt := 1738) X dL_law_1733 (by decide) (fun _ => ?_) (fun h9 => absurd lcs h9)
    refine kv_goto (tgt := 2529) X dL_law_1738 (by decide) ?_
    refine kv_lv [2, 3, 4, 5, 6, 7] rfl ?_
    exact K z1 _ M2 h4 (XW_xJ hxx)

set_option maxRecDepth 100000 in
set_option maxHeartbeats 4000000 in
theorem lw_addMarkup {l : Launch} {dd : kDD} {g : kG} (X : kX dd g cL_law RL wsLaw) (hRR : kR g = room_1) (hnL : knL g = 9) (hl0 : kL g = l) {sc L i : Nat} {xs : Nat → Int32} (hs : kScr g sc L xs) (hLL : L ≤ 3584) (hi : i + 6 < L) {a b : Nat} {c x : kT} {M : mS} {xa o1 o2 : Nat} {adr : Nat → Nat} (hw : LWS dd c M xa) (hx : XW dd x o1 o2) (ha : a + 8 ≤ 603072) (hb : b + 140 ≤ 7219306) (K : ∀ (c2 x2 : kT) (M2 : mS), LWS dd c2 M2 xa → XW dd x2 o1 o2 → kv dd g (a + 8) (b + 140) 2529 [(0, .ref sc), (1, .ref xa), (2, .ref (adr 0)), (3, .ref o1), (4, .ref o2), (5, .int (nI i))] [] (jk c2 (mK, adr, mE dd adr M2) x2) (jd c2 (mK, adr, mE dd adr M2) x2) (jE c2 (mK, adr, mE dd adr M2) x2)) : kv dd g a b 1754 [(0, .ref sc), (1, .ref xa), (2, .ref (adr 0)), (3, .ref o1), (4, .ref o2), (5, .int (nI i))] [] (jk c (mK, adr, mE dd adr M) x) (jd c (mK, adr, mE dd adr M) x) (jE c (mK, adr, mE dd adr M) x) := by
  obtain ⟨ks, ad, E, e, nR, nC, nt, nL, nW, nV, nM, cn, nm, mn, me, li, rl, hks, hcf, rfl, hI, hO, hR, hC, hT, hL, hW, hV, hM⟩ := LWS_open hw
  obtain ⟨iR, iC, iT, iL, iW, iV, iM, hcn, hnm, hmn, hme, hs2, hli, hB, hpk, hmI, hmR, hmIc, hmRc, hlG⟩ := rI_all hI
  have hxx := hx
  obtain ⟨hx0, hx1, rfl, rfl, ⟨f0, hf0⟩, ⟨f1, hf1⟩⟩ := hx
  refine kv_cf ?_
  rw [hcf]
  refine kv_aload_n X 1 dL_law_1754 rfl rfl ?_
  refine kv_arg X hs hLL 1 (by omega) 0 5 rfl rfl (by decide) dL_law_1755 dL_law_1756 dL_law_1758 dL_law_1759 dL_law_1760 ?_
  refine kv_arg X hs hLL 2 (by omega) 0 5 rfl rfl (by decide) dL_law_1761 dL_law_1762 dL_law_1764 dL_law_1765 dL_law_1766 ?_
  refine kv_aload_n X 3 dL_law_1767 rfl rfl ?_
  refine kv_calliSW (As := [.ref (ad 0), .int (xs (i + 1)), .int (xs (i + 2)), .ref (x.2.1 0)]) [] X (c_L_addMarkup l dd ks ad E e (mK, adr, mE dd adr M) x hks M nR nC nt nL nW nV nM cn nm mn me li rl (M.1 24) hO hR hC hT hL hW hV hM hB (cmI (M.2.1 22) nV) (cmI (M.2.1 23) nV) hmIc hmRc hpk (xs (i + 1)) (xs (i + 2)) f0 ⟨hx0, hf0⟩) hl0 (kCSW_of X 4 (show GoodIn wsLaw (va_wsS RL 224 yL_addMarkup (wsL_addMarkup ++ kHx)) from gK (pre := [Cond.methodLink RL 224 yL_addMarkup, Cond.static yL_addMarkup, Cond.initialized yL_addMarkup.cls]) gL_law_L_addMarkup) rfl rfl rfl (by decide +kernel) hRR ⟨(Nat.le_of_ble_eq_true rfl), (Nat.le_of_ble_eq_true rfl)⟩) rfl rfl (Nat.le_of_ble_eq_true rfl) hRR ⟨ha, hb⟩ dL_law_1768 (fun r9 z hp => ?_)
  obtain ⟨z1, z2⟩ := z
  show kv dd g (a + 8) (b + 140) 1771 [(0, .ref sc), (1, .ref (ad 0)), (2, .ref (adr 0)), (3, .ref (x.2.1 0)), (4, .ref (x.2.1 1)), (5, .int (nI i))] [.int r9] (jk z1 (mK, adr, mE dd adr M) z2) (jd z1 (mK, adr, mE dd adr M) z2) (jE z1 (mK, adr, mE dd adr M) z2)
  refine kv_istore (lv2 := [(6, .int r9), (0, .ref sc), (1, .ref (ad 0)), (2, .ref (adr 0)), (3, .ref (x.2.1 0)), (4, .ref (x.2.1 1)), (5, .int (nI i))]) X dL_law_1771 (by rw [hnL]; decide) rfl ?_
  refine kv_aload_n X 3 dL_law_1773 rfl rfl ?_
  refine kv_arg X hs hLL 1 (by omega) 1 6 rfl rfl (by decide) dL_law_1774 dL_law_1775 dL_law_1777 dL_law_1778 dL_law_1779 ?_
  refine kv_arg X hs hLL 2 (by omega) 1 6 rfl rfl (by decide) dL_law_1780 dL_law_1781 dL_law_1783 dL_law_1784 dL_law_1785 ?_
  refine kv_calliV (As := [.int (xs (i + 1)), .int (xs (i + 2))]) [] (ci := 14) (κ := 1000) (rm := ({ frames := 1, cells := 0, slots := 0, locals := 22 } : Room)) (mc := 0) (ms := 0) (r1 := (TX11, 34)) X (kCi_frR (c := z1) (r := (mK, adr, mE dd adr M)) (x := z2) (by rw [cf_id mK_lt]; exact c_X11_addMarkup l dd adr M (xs (i + 1)) (xs (i + 2)) nM iM)) hl0 (kCV_of X 2 (gW gL_law_X11_addMarkup) rfl rfl rfl (by decide +kernel) hRR ⟨(Nat.le_of_ble_eq_true rfl), (Nat.le_of_ble_eq_true rfl)⟩) (j_r0.1.mpr (show 0 ∈ mK by decide)) (j_r0.2.2.trans rfl) rfl rfl rfl (Nat.le_of_ble_eq_true rfl) hRR ⟨ha, hb⟩ dL_law_1786 (fun b9 M2 hq => ?_)
  have hst := st_addMarkup (e := e) (wx := x) (f0 := f0) hI hO hR hC hT hL hW hV hM hp hq
  obtain ⟨h1, h2, h3, h4⟩ := hst
  show kv dd g (a + 8) (b + 140) 1789 [(6, .int r9), (0, .ref sc), (1, .ref (ad 0)), (2, .ref (adr 0)), (3, .ref (x.2.1 0)), (4, .ref (x.2.1 1)), (5, .int (nI i))] [.int b9] (jk z1 (mK, adr, mE dd adr M2) z2) (jd z1 (mK, adr, mE dd adr M2) z2) (jE z1 (mK, adr, mE dd adr M2) z2)
  refine kv_istore (lv2 := [(7, .int b9), (6, .int r9), (0, .ref sc), (1, .ref (ad 0)), (2, .ref (adr 0)), (3, .ref (x.2.1 0)), (4, .ref (x.2.1 1)), (5, .int (nI i))]) X dL_law_1789 (by rw [hnL]; decide) rfl ?_
  refine kv_aload_n X 4 dL_law_1791 rfl rfl ?_
  refine kv_calliV (As := []) [] (ci := 14) (κ := 1000) (rm := ({ frames := 0, cells := 0, slots := 0, locals := 0 } : Room)) (mc := 0) (ms := 0) (r1 := (TX11, 34)) X (kCi_frR (c := z1) (r := (mK, adr, mE dd adr M2)) (x := z2) (by rw [cf_id mK_lt]; exact c_X11_thrown l dd adr M2 )) hl0 (kCV_of X 0 (gW gL_law_X11_thrown) rfl rfl rfl (by decide +kernel) hRR ⟨(Nat.le_of_ble_eq_true rfl), (Nat.le_of_ble_eq_true rfl)⟩) (j_r0.1.mpr (show 0 ∈ mK by decide)) (j_r0.2.2.trans rfl) rfl rfl rfl (Nat.le_of_ble_eq_true rfl) hRR ⟨ha, hb⟩ dL_law_1792 (fun t9 M3 ht => ?_)
  obtain ⟨rfl, rfl⟩ := ht
  show kv dd g (a + 8) (b + 140) 1795 [(7, .int b9), (6, .int r9), (0, .ref sc), (1, .ref (ad 0)), (2, .ref (adr 0)), (3, .ref (x.2.1 0)), (4, .ref (x.2.1 1)), (5, .int (nI i))] [.int (M2.1 0)] (jk z1 (mK, adr, mE dd adr M2) z2) (jd z1 (mK, adr, mE dd adr M2) z2) (jE z1 (mK, adr, mE dd adr M2) z2)
  refine kv_iload X 1 dL_law_1795 rfl ?_
  refine kv_icmp_eq (tgt := 1802) X dL_law_1797 (by decide) (fun _ => ?_) (fun h => absurd h1 h)
  refine kv_iload X 1 dL_law_1802 rfl ?_
  refine kv_if_ne (tgt := 1819) X dL_law_1804 (by decide) (fun h => ?_) (fun h => ?_)
  ·
    replace h3 : z2 = x := h3 h
    subst h3
    refine kv_goto (tgt := 2529) X dL_law_1819 (by decide) ?_
    refine kv_lv [2, 3, 4, 5, 6, 7] rfl ?_
    exact K z1 _ M2 h4 hxx
  ·
    replace h2 : z2 = xJ dd x f0 b9.toInt64 := h2 h
    subst h2
    refine kv_aload_n X 5 dL_law_1807 rfl rfl ?_
    refine kv_iconst (v := 0) X dL_law_1808 (by decide) ?_
    refine kv_laload X (κ := 2000) (n := 1) (j := 0) (f := va_up f0 0 b9.toInt64) (j_x0.1.mpr hx0) (j_x0.2.2.trans (va_up_self x.2.2 0 (kJ dd 1 (va_up f0 0 b9.toInt64)))) (by omega) (by omega) dL_law_1809 ?_
    show kv dd g (a + 8) (b + 140) 1810 [(7, .int b9), (6, .int r9), (0, .ref sc), (1, .ref (ad 0)), (2, .ref (adr 0)), (3, .ref (x.2.1 0)), (4, .ref (x.2.1 1)), (5, .int (nI i))] [.long b9.toInt64] (jk z1 (mK, adr, mE dd adr M2) (xJ dd x f0 b9.toInt64)) (jd z1 (mK, adr, mE dd adr M2) (xJ dd x f0 b9.toInt64)) (jE z1 (mK, adr, mE dd adr M2) (xJ dd x f0 b9.toInt64))
    refine kv_iload X 0 dL_law_1810 rfl ?_
    refine kv_i2l X dL_law_1812 rfl ?_
    refine kv_lcmp X dL_law_1813 ?_
    refine kv_if_eq (tgt := 1819) X dL_law_1814 (by decide) (fun _ => ?_) (fun h9 => absurd lcs h9)
    refine kv_goto (tgt := 2529) X dL_law_1819 (by decide) ?_
    refine kv_lv [2, 3, 4, 5, 6, 7] rfl ?_
    exact K z1 _ M2 h4 (XW_xJ hxx)

set_option maxRecDepth 100000 in
set_option maxHeartbeats 4000000 in
theorem lw_setPercent {l : Launch} {dd : kDD} {g : kG} (X : kX dd g cL_law RL wsLaw) (hRR : kR g = room_1) (hnL : knL g = 9) (hl0 : kL g = l) {sc L i : Nat} {xs : Nat → Int32} (hs : kScr g sc L xs) (hLL : L ≤ 3584) (hi : i + 6 < L) {a b : Nat} {c x : kT} {M : mS} {xa o1 o2 : Nat} {adr : Nat → Nat} (hw : LWS dd c M xa) (hx : XW dd x o1 o2) (ha : a + 2 ≤ 603072) (hb : b + 12 ≤ 7219306) (K : ∀ (c2 x2 : kT) (M2 : mS), LWS dd c2 M2 xa → XW dd x2 o1 o2 → kv dd g (a + 2) (b + 12) 2529 [(0, .ref sc), (1, .ref xa), (2, .ref (adr 0)), (3, .ref o1), (4, .ref o2), (5, .int (nI i))] [] (jk c2 (mK, adr, mE dd adr M2) x2) (jd c2 (mK, adr, mE dd adr M2) x2) (jE c2 (mK, adr, mE dd adr M2) x2)) : kv dd g a b 1822 [(0, .ref sc), (1, .ref xa), (2, .ref (adr 0)), (3, .ref o1), (4, .ref o2), (5, .int (nI i))] [] (jk c (mK, adr, mE dd adr M) x) (jd c (mK, adr, mE dd adr M) x) (jE c (mK, adr, mE dd adr M) x) := by
  obtain ⟨ks, ad, E, e, nR, nC, nt, nL, nW, nV, nM, cn, nm, mn, me, li, rl, hks, hcf, rfl, hI, hO, hR, hC, hT, hL, hW, hV, hM⟩ := LWS_open hw
  obtain ⟨iR, iC, iT, iL, iW, iV, iM, hcn, hnm, hmn, hme, hs2, hli, hB, hpk, hmI, hmR, hmIc, hmRc, hlG⟩ := rI_all hI
  have hxx := hx
  obtain ⟨hx0, hx1, rfl, rfl, ⟨f0, hf0⟩, ⟨f1, hf1⟩⟩ := hx
  refine kv_cf ?_
  rw [hcf]
  refine kv_aload_n X 1 dL_law_1822 rfl rfl ?_
  refine kv_arg X hs hLL 1 (by omega) 0 5 rfl rfl (by decide) dL_law_1823 dL_law_1824 dL_law_1826 dL_law_1827 dL_law_1828 ?_
  refine kv_arg X hs hLL 2 (by omega) 0 5 rfl rfl (by decide) dL_law_1829 dL_law_1830 dL_law_1832 dL_law_1833 dL_law_1834 ?_
  refine kv_aload_n X 3 dL_law_1835 rfl rfl ?_
  refine kv_calliSW (As := [.ref (ad 0), .int (xs (i + 1)), .int (xs (i + 2)), .ref (x.2.1 0)]) [] X (c_L_setPercent l dd ks ad E e (mK, adr, mE dd adr M) x hks M nR nC nt nL nW nV nM cn nm mn me li rl (M.1 24) hO hR hC hT hL hW hV hM hB (cmI (M.2.1 22) nV) (cmI (M.2.1 23) nV) hmIc hmRc hpk (xs (i + 1)) (xs (i + 2)) f0 ⟨hx0, hf0⟩) hl0 (kCSW_of X 4 (show GoodIn wsLaw (va_wsS RL 227 yL_setPercent (wsL_setPercent ++ kHx)) from gK (pre := [Cond.methodLink RL 227 yL_setPercent, Cond.static yL_setPercent, Cond.initialized yL_setPercent.cls]) gL_law_L_setPercent) rfl rfl rfl (by decide +kernel) hRR ⟨(Nat.le_of_ble_eq_true rfl), (Nat.le_of_ble_eq_true rfl)⟩) rfl rfl (Nat.le_of_ble_eq_true rfl) hRR ⟨ha, hb⟩ dL_law_1836 (fun r9 z hp => ?_)
  obtain ⟨z1, z2⟩ := z
  show kv dd g (a + 2) (b + 12) 1839 [(0, .ref sc), (1, .ref (ad 0)), (2, .ref (adr 0)), (3, .ref (x.2.1 0)), (4, .ref (x.2.1 1)), (5, .int (nI i))] [.int r9] (jk z1 (mK, adr, mE dd adr M) z2) (jd z1 (mK, adr, mE dd adr M) z2) (jE z1 (mK, adr, mE dd adr M) z2)
  refine kv_istore (lv2 := [(6, .int r9), (0, .ref sc), (1, .ref (ad 0)), (2, .ref (adr 0)), (3, .ref (x.2.1 0)), (4, .ref (x.2.1 1)), (5, .int (nI i))]) X dL_law_1839 (by rw [hnL]; decide) rfl ?_
  refine kv_aload_n X 3 dL_law_1841 rfl rfl ?_
  refine kv_arg X hs hLL 1 (by omega) 1 6 rfl rfl (by decide) dL_law_1842 dL_law_1843 dL_law_1845 dL_law_1846 dL_law_1847 ?_
  refine kv_arg X hs hLL 2 (by omega) 1 6 rfl rfl (by decide) dL_law_1848 dL_law_1849 dL_law_1851 dL_law_1852 dL_law_1853 ?_
  refine kv_calliV (As := [.int (xs (i + 1)), .int (xs (i + 2))]) [] (ci := 14) (κ := 1000) (rm := ({ frames := 2, cells := 0, slots := 0, locals := 43 } : Room)) (mc := 0) (ms := 0) (r1 := (TX11, 34)) X (kCi_frR (c := z1) (r := (mK, adr, mE dd adr M)) (x := z2) (by rw [cf_id mK_lt]; exact c_X11_setPercent l dd adr M (xs (i + 1)) (xs (i + 2)) nM iM)) hl0 (kCV_of X 2 (gW gL_law_X11_setPercent) rfl rfl rfl (by decide +kernel) hRR ⟨(Nat.le_of_ble_eq_true rfl), (Nat.le_of_ble_eq_true rfl)⟩) (j_r0.1.mpr (show 0 ∈ mK by decide)) (j_r0.2.2.trans rfl) rfl rfl rfl (Nat.le_of_ble_eq_true rfl) hRR ⟨ha, hb⟩ dL_law_1854 (fun b9 M2 hq => ?_)
  have hst := st_setPercent (e := e) (wx := x) (f0 := f0) hI hO hR hC hT hL hW hV hM hp hq
  obtain ⟨h1, h2, h3, h4⟩ := hst
  show kv dd g (a + 2) (b + 12) 1857 [(6, .int r9), (0, .ref sc), (1, .ref (ad 0)), (2, .ref (adr 0)), (3, .ref (x.2.1 0)), (4, .ref (x.2.1 1)), (5, .int (nI i))] [.int b9] (jk z1 (mK, adr, mE dd adr M2) z2) (jd z1 (mK, adr, mE dd adr M2) z2) (jE z1 (mK, adr, mE dd adr M2) z2)
  refine kv_istore (lv2 := [(7, .int b9), (6, .int r9), (0, .ref sc), (1, .ref (ad 0)), (2, .ref (adr 0)), (3, .ref (x.2.1 0)), (4, .ref (x.2.1 1)), (5, .int (nI i))]) X dL_law_1857 (by rw [hnL]; decide) rfl ?_
  refine kv_aload_n X 4 dL_law_1859 rfl rfl ?_
  refine kv_calliV (As := []) [] (ci := 14) (κ := 1000) (rm := ({ frames := 0, cells := 0, slots := 0, locals := 0 } : Room)) (mc := 0) (ms := 0) (r1 := (TX11, 34)) X (kCi_frR (c := z1) (r := (mK, adr, mE dd adr M2)) (x := z2) (by rw [cf_id mK_lt]; exact c_X11_thrown l dd adr M2 )) hl0 (kCV_of X 0 (gW gL_law_X11_thrown) rfl rfl rfl (by decide +kernel) hRR ⟨(Nat.le_of_ble_eq_true rfl), (Nat.le_of_ble_eq_true rfl)⟩) (j_r0.1.mpr (show 0 ∈ mK by decide)) (j_r0.2.2.trans rfl) rfl rfl rfl (Nat.le_of_ble_eq_true rfl) hRR ⟨ha, hb⟩ dL_law_1860 (fun t9 M3 ht => ?_)
  obtain ⟨rfl, rfl⟩ := ht
  show kv dd g (a + 2) (b + 12) 1863 [(7, .int b9), (6, .int r9), (0, .ref sc), (1, .ref (ad 0)), (2, .ref (adr 0)), (3, .ref (x.2.1 0)), (4, .ref (x.2.1 1)), (5, .int (nI i))] [.int (M2.1 0)] (jk z1 (mK, adr, mE dd adr M2) z2) (jd z1 (mK, adr, mE dd adr M2) z2) (jE z1 (mK, adr, mE dd adr M2) z2)
  refine kv_iload X 1 dL_law_1863 rfl ?_
  refine kv_icmp_eq (tgt := 1870) X dL_law_1865 (by decide) (fun _ => ?_) (fun h => absurd h1 h)
  refine kv_iload X 1 dL_law_1870 rfl ?_
  refine kv_if_ne (tgt := 1887) X dL_law_1872 (by decide) (fun h => ?_) (fun h => ?_)
  ·
    replace h3 : z2 = x := h3 h
    subst h3
    refine kv_goto (tgt := 2529) X dL_law_1887 (by decide) ?_
    refine kv_lv [2, 3, 4, 5, 6, 7] rfl ?_
    exact K z1 _ M2 h4 hxx
  ·
    replace h2 : z2 = xJ dd x f0 b9.toInt64 := h2 h
    subst h2
    refine kv_aload_n X 5 dL_law_1875 rfl rfl ?_
    refine kv_iconst (v := 0) X dL_law_1876 (by decide) ?_
    refine kv_laload X (κ := 2000) (n := 1) (j := 0) (f := va_up f0 0 b9.toInt64) (j_x0.1.mpr hx0) (j_x0.2.2.trans (va_up_self x.2.2 0 (kJ dd 1 (va_up f0 0 b9.toInt64)))) (by omega) (by omega) dL_law_1877 ?_
    show kv dd g (a + 2) (b + 12) 1878 [(7, .int b9), (6, .int r9), (0, .ref sc), (1, .ref (ad 0)), (2, .ref (adr 0)), (3, .ref (x.2.1 0)), (4, .ref (x.2.1 1)), (5, .int (nI i))] [.long b9.toInt64] (jk z1 (mK, adr, mE dd adr M2) (xJ dd x f0 b9.toInt64)) (jd z1 (mK, adr, mE dd adr M2) (xJ dd x f0 b9.toInt64)) (jE z1 (mK, adr, mE dd adr M2) (xJ dd x f0 b9.toInt64))
    refine kv_iload X 0 dL_law_1878 rfl ?_
    refine kv_i2l X dL_law_1880 rfl ?_
    refine kv_lcmp X dL_law_1881 ?_
    refine kv_if_eq (tgt := 1887) X dL_law_1882 (by decide) (fun _ => ?_) (fun h9 => absurd lcs h9)
    refine kv_goto (tgt := 2529) X dL_law_1887 (by decide) ?_
    refine kv_lv [2, 3, 4, 5, 6, 7] rfl ?_
    exact K z1 _ M2 h4 (XW_xJ hxx)

set_option maxRecDepth 100000 in
set_option maxHeartbeats 4000000 in
theorem lw_markup {l : Launch} {dd : kDD} {g : kG} (X : kX dd g cL_law RL wsLaw) (hRR : kR g = room_1) (hnL : knL g = 9) (hl0 : kL g = l) {sc L i : Nat} {xs : Nat → Int32} (hs : kScr g sc L xs) (hLL : L ≤ 3584) (hi : i + 6 < L) {a b : Nat} {c x : kT} {M : mS} {xa o1 o2 : Nat} {adr : Nat → Nat} (hw : LWS dd c M xa) (hx : XW dd x o1 o2) (ha : a + 1 ≤ 603072) (hb : b + 6 ≤ 7219306) (K : ∀ (c2 x2 : kT) (M2 : mS), LWS dd c2 M2 xa → XW dd x2 o1 o2 → kv dd g (a + 1) (b + 6) 2529 [(0, .ref sc), (1, .ref xa), (2, .ref (adr 0)), (3, .ref o1), (4, .ref o2), (5, .int (nI i))] [] (jk c2 (mK, adr, mE dd adr M2) x2) (jd c2 (mK, adr, mE dd adr M2) x2) (jE c2 (mK, adr, mE dd adr M2) x2)) : kv dd g a b 1890 [(0, .ref sc), (1, .ref xa), (2, .ref (adr 0)), (3, .ref o1), (4, .ref o2), (5, .int (nI i))] [] (jk c (mK, adr, mE dd adr M) x) (jd c (mK, adr, mE dd adr M) x) (jE c (mK, adr, mE dd adr M) x) := by
  obtain ⟨ks, ad, E, e, nR, nC, nt, nL, nW, nV, nM, cn, nm, mn, me, li, rl, hks, hcf, rfl, hI, hO, hR, hC, hT, hL, hW, hV, hM⟩ := LWS_open hw
  obtain ⟨iR, iC, iT, iL, iW, iV, iM, hcn, hnm, hmn, hme, hs2, hli, hB, hpk, hmI, hmR, hmIc, hmRc, hlG⟩ := rI_all hI
  have hxx := hx
  obtain ⟨hx0, hx1, rfl, rfl, ⟨f0, hf0⟩, ⟨f1, hf1⟩⟩ := hx
  refine kv_cf ?_
  rw [hcf]
  refine kv_aload_n X 1 dL_law_1890 rfl rfl ?_
  refine kv_arg X hs hLL 1 (by omega) 0 5 rfl rfl (by decide) dL_law_1891 dL_law_1892 dL_law_1894 dL_law_1895 dL_law_1896 ?_
  refine kv_aload_n X 3 dL_law_1897 rfl rfl ?_
  refine kv_calliSW (As := [.ref (ad 0), .int (xs (i + 1)), .ref (x.2.1 0)]) [] X (c_L_markup l dd ks ad E e (mK, adr, mE dd adr M) x hks M nR nC nt nL nW nV nM cn nm mn me li rl (M.1 24) hO hR hC hT hL hW hV hM hB (cmI (M.2.1 22) nV) (cmI (M.2.1 23) nV) hmIc hmRc hpk (xs (i + 1)) (rI_fx hI) f0 ⟨hx0, hf0⟩) hl0 (kCSW_of X 3 (show GoodIn wsLaw (va_wsS RL 230 yL_markup (wsL_markup ++ kHx)) from gK (pre := [Cond.methodLink RL 230 yL_markup, Cond.static yL_markup, Cond.initialized yL_markup.cls]) gL_law_L_markup) rfl rfl rfl (by decide +kernel) hRR ⟨(Nat.le_of_ble_eq_true rfl), (Nat.le_of_ble_eq_true rfl)⟩) rfl rfl (Nat.le_of_ble_eq_true rfl) hRR ⟨ha, hb⟩ dL_law_1898 (fun r9 z hp => ?_)
  obtain ⟨z1, z2⟩ := z
  show kv dd g (a + 1) (b + 6) 1901 [(0, .ref sc), (1, .ref (ad 0)), (2, .ref (adr 0)), (3, .ref (x.2.1 0)), (4, .ref (x.2.1 1)), (5, .int (nI i))] [.int r9] (jk z1 (mK, adr, mE dd adr M) z2) (jd z1 (mK, adr, mE dd adr M) z2) (jE z1 (mK, adr, mE dd adr M) z2)
  refine kv_istore (lv2 := [(6, .int r9), (0, .ref sc), (1, .ref (ad 0)), (2, .ref (adr 0)), (3, .ref (x.2.1 0)), (4, .ref (x.2.1 1)), (5, .int (nI i))]) X dL_law_1901 (by rw [hnL]; decide) rfl ?_
  refine kv_aload_n X 3 dL_law_1903 rfl rfl ?_
  refine kv_arg X hs hLL 1 (by omega) 1 6 rfl rfl (by decide) dL_law_1904 dL_law_1905 dL_law_1907 dL_law_1908 dL_law_1909 ?_
  refine kv_calllV (As := [.int (xs (i + 1))]) [] (ci := 14) (κ := 1000) (rm := ({ frames := 5, cells := 0, slots := 0, locals := 123 } : Room)) (mc := 0) (ms := 0) (r1 := (TX11, 34)) X (kCl_frR (c := z1) (r := (mK, adr, mE dd adr M)) (x := z2) (by rw [cf_id mK_lt]; exact c_X11_markup l dd adr M (xs (i + 1)) nt iT nV iV cn hcn nm hnm mn hmn ((cmI (M.2.1 22) nV) (M.1 24)) (hmI (M.1 24)) ((cmI (M.2.1 23) nV) (M.1 24)) (hmR (M.1 24)) me hme hs2 (rI_val hI (M.1 24)) nL iL nW iW li hli (hlG (M.1 24)) nR iR nM iM hpk)) hl0 (kCV_of X 1 (gW gL_law_X11_markup) rfl rfl rfl (by decide +kernel) hRR ⟨(Nat.le_of_ble_eq_true rfl), (Nat.le_of_ble_eq_true rfl)⟩) (j_r0.1.mpr (show 0 ∈ mK by decide)) (j_r0.2.2.trans rfl) rfl rfl rfl (Nat.le_of_ble_eq_true rfl) hRR ⟨ha, hb⟩ dL_law_1910 (fun b9 M2 hq => ?_)
  have hst := st_markup (e := e) (wx := x) (f0 := f0) hI hO hR hC hT hL hW hV hM hp hq
  obtain ⟨h1, h2, h3, h4⟩ := hst
  show kv dd g (a + 1) (b + 6) 1913 [(6, .int r9), (0, .ref sc), (1, .ref (ad 0)), (2, .ref (adr 0)), (3, .ref (x.2.1 0)), (4, .ref (x.2.1 1)), (5, .int (nI i))] [.long b9] (jk z1 (mK, adr, mE dd adr M2) z2) (jd z1 (mK, adr, mE dd adr M2) z2) (jE z1 (mK, adr, mE dd adr M2) z2)
  refine kv_lstore (lv2 := [(7, .long b9), (6, .int r9), (0, .ref sc), (1, .ref (ad 0)), (2, .ref (adr 0)), (3, .ref (x.2.1 0)), (4, .ref (x.2.1 1)), (5, .int (nI i))]) X dL_law_1913 (by rw [hnL]; decide) rfl ?_
  refine kv_aload_n X 4 dL_law_1915 rfl rfl ?_
  refine kv_calliV (As := []) [] (ci := 14) (κ := 1000) (rm := ({ frames := 0, cells := 0, slots := 0, locals := 0 } : Room)) (mc := 0) (ms := 0) (r1 := (TX11, 34)) X (kCi_frR (c := z1) (r := (mK, adr, mE dd adr M2)) (x := z2) (by rw [cf_id mK_lt]; exact c_X11_thrown l dd adr M2 )) hl0 (kCV_of X 0 (gW gL_law_X11_thrown) rfl rfl rfl (by decide +kernel) hRR ⟨(Nat.le_of_ble_eq_true rfl), (Nat.le_of_ble_eq_true rfl)⟩) (j_r0.1.mpr (show 0 ∈ mK by decide)) (j_r0.2.2.trans rfl) rfl rfl rfl (Nat.le_of_ble_eq_true rfl) hRR ⟨ha, hb⟩ dL_law_1916 (fun t9 M3 ht => ?_)
  obtain ⟨rfl, rfl⟩ := ht
  show kv dd g (a + 1) (b + 6) 1919 [(7, .long b9), (6, .int r9), (0, .ref sc), (1, .ref (ad 0)), (2, .ref (adr 0)), (3, .ref (x.2.1 0)), (4, .ref (x.2.1 1)), (5, .int (nI i))] [.int (M2.1 0)] (jk z1 (mK, adr, mE dd adr M2) z2) (jd z1 (mK, adr, mE dd adr M2) z2) (jE z1 (mK, adr, mE dd adr M2) z2)
  refine kv_iload X 1 dL_law_1919 rfl ?_
  refine kv_icmp_eq (tgt := 1926) X dL_law_1921 (by decide) (fun _ => ?_) (fun h => absurd h1 h)
  refine kv_iload X 1 dL_law_1926 rfl ?_
  refine kv_if_ne (tgt := 1942) X dL_law_1928 (by decide) (fun h => ?_) (fun h => ?_)
  ·
    replace h3 : z2 = x := h3 h
    subst h3
    refine kv_goto (tgt := 2529) X dL_law_1942 (by decide) ?_
    refine kv_lv [2, 3, 4, 5, 6, 7] rfl ?_
    exact K z1 _ M2 h4 hxx
  ·
    replace h2 : z2 = xJ dd x f0 b9 := h2 h
    subst h2
    refine kv_aload_n X 5 dL_law_1931 rfl rfl ?_
    refine kv_iconst (v := 0) X dL_law_1932 (by decide) ?_
    refine kv_laload X (κ := 2000) (n := 1) (j := 0) (f := va_up f0 0 b9) (j_x0.1.mpr hx0) (j_x0.2.2.trans (va_up_self x.2.2 0 (kJ dd 1 (va_up f0 0 b9)))) (by omega) (by omega) dL_law_1933 ?_
    show kv dd g (a + 1) (b + 6) 1934 [(7, .long b9), (6, .int r9), (0, .ref sc), (1, .ref (ad 0)), (2, .ref (adr 0)), (3, .ref (x.2.1 0)), (4, .ref (x.2.1 1)), (5, .int (nI i))] [.long b9] (jk z1 (mK, adr, mE dd adr M2) (xJ dd x f0 b9)) (jd z1 (mK, adr, mE dd adr M2) (xJ dd x f0 b9)) (jE z1 (mK, adr, mE dd adr M2) (xJ dd x f0 b9))
    refine kv_lload X 0 dL_law_1934 rfl ?_
    refine kv_lcmp X dL_law_1936 ?_
    refine kv_if_eq (tgt := 1942) X dL_law_1937 (by decide) (fun _ => ?_) (fun h9 => absurd lcs h9)
    refine kv_goto (tgt := 2529) X dL_law_1942 (by decide) ?_
    refine kv_lv [2, 3, 4, 5, 6, 7] rfl ?_
    exact K z1 _ M2 h4 (XW_xJ hxx)

set_option maxRecDepth 100000 in
set_option maxHeartbeats 4000000 in
theorem lw_amount {l : Launch} {dd : kDD} {g : kG} (X : kX dd g cL_law RL wsLaw) (hRR : kR g = room_1) (hnL : knL g = 9) (hl0 : kL g = l) {sc L i : Nat} {xs : Nat → Int32} (hs : kScr g sc L xs) (hLL : L ≤ 3584) (hi : i + 6 < L) {a b : Nat} {c x : kT} {M : mS} {xa o1 o2 : Nat} {adr : Nat → Nat} (hw : LWS dd c M xa) (hx : XW dd x o1 o2) (ha : a + 1 ≤ 603072) (hb : b + 6 ≤ 7219306) (K : ∀ (c2 x2 : kT) (M2 : mS), LWS dd c2 M2 xa → XW dd x2 o1 o2 → kv dd g (a + 1) (b + 6) 2529 [(0, .ref sc), (1, .ref xa), (2, .ref (adr 0)), (3, .ref o1), (4, .ref o2), (5, .int (nI i))] [] (jk c2 (mK, adr, mE dd adr M2) x2) (jd c2 (mK, adr, mE dd adr M2) x2) (jE c2 (mK, adr, mE dd adr M2) x2)) : kv dd g a b 1945 [(0, .ref sc), (1, .ref xa), (2, .ref (adr 0)), (3, .ref o1), (4, .ref o2), (5, .int (nI i))] [] (jk c (mK, adr, mE dd adr M) x) (jd c (mK, adr, mE dd adr M) x) (jE c (mK, adr, mE dd adr M) x) := by
  obtain ⟨ks, ad, E, e, nR, nC, nt, nL, nW, nV, nM, cn, nm, mn, me, li, rl, hks, hcf, rfl, hI, hO, hR, hC, hT, hL, hW, hV, hM⟩ := LWS_open hw
  obtain ⟨iR, iC, iT, iL, iW, iV, iM, hcn, hnm, hmn, hme, hs2, hli, hB, hpk, hmI, hmR, hmIc, hmRc, hlG⟩ := rI_all hI
  have hxx := hx
  obtain ⟨hx0, hx1, rfl, rfl, ⟨f0, hf0⟩, ⟨f1, hf1⟩⟩ := hx
  refine kv_cf ?_
  rw [hcf]
  refine kv_aload_n X 1 dL_law_1945 rfl rfl ?_
  refine kv_arg X hs hLL 1 (by omega) 0 5 rfl rfl (by decide) dL_law_1946 dL_law_1947 dL_law_1949 dL_law_1950 dL_law_1951 ?_
  refine kv_aload_n X 3 dL_law_1952 rfl rfl ?_
  refine kv_calliSW (As := [.ref (ad 0), .int (xs (i + 1)), .ref (x.2.1 0)]) [] X (c_L_amount l dd ks ad E e (mK, adr, mE dd adr M) x hks M nR nC nt nL nW nV nM cn nm mn me li rl (M.1 24) hO hR hC hT hL hW hV hM hB (cmI (M.2.1 22) nV) (cmI (M.2.1 23) nV) hmIc hmRc hpk (xs (i + 1)) (rI_fx hI) f0 ⟨hx0, hf0⟩) hl0 (kCSW_of X 3 (show GoodIn wsLaw (va_wsS RL 233 yL_amount (wsL_amount ++ kHx)) from gK (pre := [Cond.methodLink RL 233 yL_amount, Cond.static yL_amount, Cond.initialized yL_amount.cls]) gL_law_L_amount) rfl rfl rfl (by decide +kernel) hRR ⟨(Nat.le_of_ble_eq_true rfl), (Nat.le_of_ble_eq_true rfl)⟩) rfl rfl (Nat.le_of_ble_eq_true rfl) hRR ⟨ha, hb⟩ dL_law_1953 (fun r9 z hp => ?_)
  obtain ⟨z1, z2⟩ := z
  show kv dd g (a + 1) (b + 6) 1956 [(0, .ref sc), (1, .ref (ad 0)), (2, .ref (adr 0)), (3, .ref (x.2.1 0)), (4, .ref (x.2.1 1)), (5, .int (nI i))] [.int r9] (jk z1 (mK, adr, mE dd adr M) z2) (jd z1 (mK, adr, mE dd adr M) z2) (jE z1 (mK, adr, mE dd adr M) z2)
  refine kv_istore (lv2 := [(6, .int r9), (0, .ref sc), (1, .ref (ad 0)), (2, .ref (adr 0)), (3, .ref (x.2.1 0)), (4, .ref (x.2.1 1)), (5, .int (nI i))]) X dL_law_1956 (by rw [hnL]; decide) rfl ?_
  refine kv_aload_n X 3 dL_law_1958 rfl rfl ?_
  refine kv_arg X hs hLL 1 (by omega) 1 6 rfl rfl (by decide) dL_law_1959 dL_law_1960 dL_law_1962 dL_law_1963 dL_law_1964 ?_
  refine kv_calllV (As := [.int (xs (i + 1))]) [] (ci := 14) (κ := 1000) (rm := ({ frames := 4, cells := 0, slots := 0, locals := 98 } : Room)) (mc := 0) (ms := 0) (r1 := (TX11, 34)) X (kCl_frR (c := z1) (r := (mK, adr, mE dd adr M)) (x := z2) (by rw [cf_id mK_lt]; exact c_X11_amount l dd adr M (xs (i + 1)) nt iT nV iV cn hcn nm hnm mn hmn ((cmI (M.2.1 22) nV) (M.1 24)) (hmI (M.1 24)) ((cmI (M.2.1 23) nV) (M.1 24)) (hmR (M.1 24)) me hme hs2 (rI_val hI (M.1 24)) nL iL nW iW li hli (hlG (M.1 24)) nR iR)) hl0 (kCV_of X 1 (gW gL_law_X11_amount) rfl rfl rfl (by decide +kernel) hRR ⟨(Nat.le_of_ble_eq_true rfl), (Nat.le_of_ble_eq_true rfl)⟩) (j_r0.1.mpr (show 0 ∈ mK by decide)) (j_r0.2.2.trans rfl) rfl rfl rfl (Nat.le_of_ble_eq_true rfl) hRR ⟨ha, hb⟩ dL_law_1965 (fun b9 M2 hq => ?_)
  have hst := st_amount (e := e) (wx := x) (f0 := f0) hI hO hR hC hT hL hW hV hM hp hq
  obtain ⟨h1, h2, h3, h4⟩ := hst
  show kv dd g (a + 1) (b + 6) 1968 [(6, .int r9), (0, .ref sc), (1, .ref (ad 0)), (2, .ref (adr 0)), (3, .ref (x.2.1 0)), (4, .ref (x.2.1 1)), (5, .int (nI i))] [.long b9] (jk z1 (mK, adr, mE dd adr M2) z2) (jd z1 (mK, adr, mE dd adr M2) z2) (jE z1 (mK, adr, mE dd adr M2) z2)
  refine kv_lstore (lv2 := [(7, .long b9), (6, .int r9), (0, .ref sc), (1, .ref (ad 0)), (2, .ref (adr 0)), (3, .ref (x.2.1 0)), (4, .ref (x.2.1 1)), (5, .int (nI i))]) X dL_law_1968 (by rw [hnL]; decide) rfl ?_
  refine kv_aload_n X 4 dL_law_1970 rfl rfl ?_
  refine kv_calliV (As := []) [] (ci := 14) (κ := 1000) (rm := ({ frames := 0, cells := 0, slots := 0, locals := 0 } : Room)) (mc := 0) (ms := 0) (r1 := (TX11, 34)) X (kCi_frR (c := z1) (r := (mK, adr, mE dd adr M2)) (x := z2) (by rw [cf_id mK_lt]; exact c_X11_thrown l dd adr M2 )) hl0 (kCV_of X 0 (gW gL_law_X11_thrown) rfl rfl rfl (by decide +kernel) hRR ⟨(Nat.le_of_ble_eq_true rfl), (Nat.le_of_ble_eq_true rfl)⟩) (j_r0.1.mpr (show 0 ∈ mK by decide)) (j_r0.2.2.trans rfl) rfl rfl rfl (Nat.le_of_ble_eq_true rfl) hRR ⟨ha, hb⟩ dL_law_1971 (fun t9 M3 ht => ?_)
  obtain ⟨rfl, rfl⟩ := ht
  show kv dd g (a + 1) (b + 6) 1974 [(7, .long b9), (6, .int r9), (0, .ref sc), (1, .ref (ad 0)), (2, .ref (adr 0)), (3, .ref (x.2.1 0)), (4, .ref (x.2.1 1)), (5, .int (nI i))] [.int (M2.1 0)] (jk z1 (mK, adr, mE dd adr M2) z2) (jd z1 (mK, adr, mE dd adr M2) z2) (jE z1 (mK, adr, mE dd adr M2) z2)
  refine kv_iload X 1 dL_law_1974 rfl ?_
  refine kv_icmp_eq (tgt := 1981) X dL_law_1976 (by decide) (fun _ => ?_) (fun h => absurd h1 h)
  refine kv_iload X 1 dL_law_1981 rfl ?_
  refine kv_if_ne (tgt := 1997) X dL_law_1983 (by decide) (fun h => ?_) (fun h => ?_)
  ·
    replace h3 : z2 = x := h3 h
    subst h3
    refine kv_goto (tgt := 2529) X dL_law_1997 (by decide) ?_
    refine kv_lv [2, 3, 4, 5, 6, 7] rfl ?_
    exact K z1 _ M2 h4 hxx
  ·
    replace h2 : z2 = xJ dd x f0 b9 := h2 h
    subst h2
    refine kv_aload_n X 5 dL_law_1986 rfl rfl ?_
    refine kv_iconst (v := 0) X dL_law_1987 (by decide) ?_
    refine kv_laload X (κ := 2000) (n := 1) (j := 0) (f := va_up f0 0 b9) (j_x0.1.mpr hx0) (j_x0.2.2.trans (va_up_self x.2.2 0 (kJ dd 1 (va_up f0 0 b9)))) (by omega) (by omega) dL_law_1988 ?_
    show kv dd g (a + 1) (b + 6) 1989 [(7, .long b9), (6, .int r9), (0, .ref sc), (1, .ref (ad 0)), (2, .ref (adr 0)), (3, .ref (x.2.1 0)), (4, .ref (x.2.1 1)), (5, .int (nI i))] [.long b9] (jk z1 (mK, adr, mE dd adr M2) (xJ dd x f0 b9)) (jd z1 (mK, adr, mE dd adr M2) (xJ dd x f0 b9)) (jE z1 (mK, adr, mE dd adr M2) (xJ dd x f0 b9))
    refine kv_lload X 0 dL_law_1989 rfl ?_
    refine kv_lcmp X dL_law_1991 ?_
    refine kv_if_eq (tgt := 1997) X dL_law_1992 (by decide) (fun _ => ?_) (fun h9 => absurd lcs h9)
    refine kv_goto (tgt := 2529) X dL_law_1997 (by decide) ?_
    refine kv_lv [2, 3, 4, 5, 6, 7] rfl ?_
    exact K z1 _ M2 h4 (XW_xJ hxx)

/-! THE LAW'S CASES -/
set_option maxRecDepth 100000 in
set_option maxHeartbeats 4000000 in
theorem lw_amountByTree {l : Launch} {dd : kDD} {g : kG} (X : kX dd g cL_law RL wsLaw) (hRR : kR g = room_1) (hnL : knL g = 9) (hl0 : kL g = l) {sc L i : Nat} {xs : Nat → Int32} (hs : kScr g sc L xs) (hLL : L ≤ 3584) (hi : i + 6 < L) {a b : Nat} {c x : kT} {M : mS} {xa o1 o2 : Nat} {adr : Nat → Nat} (hw : LWS dd c M xa) (hx : XW dd x o1 o2) (ha : a + 1 ≤ 603072) (hb : b + 6 ≤ 7219306) (K : ∀ (c2 x2 : kT) (M2 : mS), LWS dd c2 M2 xa → XW dd x2 o1 o2 → kv dd g (a + 1) (b + 6) 2529 [(0, .ref sc), (1, .ref xa), (2, .ref (adr 0)), (3, .ref o1), (4, .ref o2), (5, .int (nI i))] [] (jk c2 (mK, adr, mE dd adr M2) x2) (jd c2 (mK, adr, mE dd adr M2) x2) (jE c2 (mK, adr, mE dd adr M2) x2)) : kv dd g a b 2000 [(0, .ref sc), (1, .ref xa), (2, .ref (adr 0)), (3, .ref o1), (4, .ref o2), (5, .int (nI i))] [] (jk c (mK, adr, mE dd adr M) x) (jd c (mK, adr, mE dd adr M) x) (jE c (mK, adr, mE dd adr M) x) := by
  obtain ⟨ks, ad, E, e, nR, nC, nt, nL, nW, nV, nM, cn, nm, mn, me, li, rl, hks, hcf, rfl, hI, hO, hR, hC, hT, hL, hW, hV, hM⟩ := LWS_open hw
  obtain ⟨iR, iC, iT, iL, iW, iV, iM, hcn, hnm, hmn, hme, hs2, hli, hB, hpk, hmI, hmR, hmIc, hmRc, hlG⟩ := rI_all hI
  have hxx := hx
  obtain ⟨hx0, hx1, rfl, rfl, ⟨f0, hf0⟩, ⟨f1, hf1⟩⟩ := hx
  refine kv_cf ?_
  rw [hcf]
  refine kv_aload_n X 1 dL_law_2000 rfl rfl ?_
  refine kv_arg X hs hLL 1 (by omega) 0 5 rfl rfl (by decide) dL_law_2001 dL_law_2002 dL_law_2004 dL_law_2005 dL_law_2006 ?_
  refine kv_aload_n X 3 dL_law_2007 rfl rfl ?_
  refine kv_calliSW (As := [.ref (ad 0), .int (xs (i + 1)), .ref (x.2.1 0)]) [] X (c_L_amountByTree l dd ks ad E e (mK, adr, mE dd adr M) x hks M nR nC nt nL nW nV nM cn nm mn me li rl (M.1 24) hO hR hC hT hL hW hV hM hB (cmI (M.2.1 22) nV) (cmI (M.2.1 23) nV) hmIc hmRc hpk (xs (i + 1)) f0 ⟨hx0, hf0⟩) hl0 (kCSW_of X 3 (show GoodIn wsLaw (va_wsS RL 236 yL_amountByTree (wsL_amountByTree ++ kHx)) from gK (pre := [Cond.methodLink RL 236 yL_amountByTree, Cond.static yL_amountByTree, Cond.initialized yL_amountByTree.cls]) gL_law_L_amountByTree) rfl rfl rfl (by decide +kernel) hRR ⟨(Nat.le_of_ble_eq_true rfl), (Nat.le_of_ble_eq_true rfl)⟩) rfl rfl (Nat.le_of_ble_eq_true rfl) hRR ⟨ha, hb⟩ dL_law_2008 (fun r9 z hp => ?_)
  obtain ⟨z1, z2⟩ := z
  show kv dd g (a + 1) (b + 6) 2011 [(0, .ref sc), (1, .ref (ad 0)), (2, .ref (adr 0)), (3, .ref (x.2.1 0)), (4, .ref (x.2.1 1)), (5, .int (nI i))] [.int r9] (jk z1 (mK, adr, mE dd adr M) z2) (jd z1 (mK, adr, mE dd adr M) z2) (jE z1 (mK, adr, mE dd adr M) z2)
  refine kv_istore (lv2 := [(6, .int r9), (0, .ref sc), (1, .ref (ad 0)), (2, .ref (adr 0)), (3, .ref (x.2.1 0)), (4, .ref (x.2.1 1)), (5, .int (nI i))]) X dL_law_2011 (by rw [hnL]; decide) rfl ?_
  refine kv_aload_n X 3 dL_law_2013 rfl rfl ?_
  refine kv_arg X hs hLL 1 (by omega) 1 6 rfl rfl (by decide) dL_law_2014 dL_law_2015 dL_law_2017 dL_law_2018 dL_law_2019 ?_
  refine kv_calllV (As := [.int (xs (i + 1))]) [] (ci := 14) (κ := 1000) (rm := ({ frames := 5, cells := 0, slots := 0, locals := 119 } : Room)) (mc := 0) (ms := 0) (r1 := (TX11, 34)) X (kCl_frR (c := z1) (r := (mK, adr, mE dd adr M)) (x := z2) (by rw [cf_id mK_lt]; exact c_X11_amountByTree l dd adr M (xs (i + 1)) nt iT nV iV cn hcn nm hnm mn hmn ((cmI (M.2.1 22) nV) (M.1 24)) (hmI (M.1 24)) ((cmI (M.2.1 23) nV) (M.1 24)) (hmR (M.1 24)) me hme hs2 (rI_val hI (M.1 24)) nL iL nW iW li hli (hlG (M.1 24)) nR iR)) hl0 (kCV_of X 1 (gW gL_law_X11_amountByTree) rfl rfl rfl (by decide +kernel) hRR ⟨(Nat.le_of_ble_eq_true rfl), (Nat.le_of_ble_eq_true rfl)⟩) (j_r0.1.mpr (show 0 ∈ mK by decide)) (j_r0.2.2.trans rfl) rfl rfl rfl (Nat.le_of_ble_eq_true rfl) hRR ⟨ha, hb⟩ dL_law_2020 (fun b9 M2 hq => ?_)
  have hst := st_amountByTree (e := e) (wx := x) (f0 := f0) hI hO hR hC hT hL hW hV hM hp hq
  obtain ⟨h1, h2, h3, h4⟩ := hst
  show kv dd g (a + 1) (b + 6) 2023 [(6, .int r9), (0, .ref sc), (1, .ref (ad 0)), (2, .ref (adr 0)), (3, .ref (x.2.1 0)), (4, .ref (x.2.1 1)), (5, .int (nI i))] [.long b9] (jk z1 (mK, adr, mE dd adr M2) z2) (jd z1 (mK, adr, mE dd adr M2) z2) (jE z1 (mK, adr, mE dd adr M2) z2)
  refine kv_lstore (lv2 := [(7, .long b9), (6, .int r9), (0, .ref sc), (1, .ref (ad 0)), (2, .ref (adr 0)), (3, .ref (x.2.1 0)), (4, .ref (x.2.1 1)), (5, .int (nI i))]) X dL_law_2023 (by rw [hnL]; decide) rfl ?_
  refine kv_aload_n X 4 dL_law_2025 rfl rfl ?_
  refine kv_calliV (As := []) [] (ci := 14) (κ := 1000) (rm := ({ frames := 0, cells := 0, slots := 0, locals := 0 } : Room)) (mc := 0) (ms := 0) (r1 := (TX11, 34)) X (kCi_frR (c := z1) (r := (mK, adr, mE dd adr M2)) (x := z2) (by rw [cf_id mK_lt]; exact c_X11_thrown l dd adr M2 )) hl0 (kCV_of X 0 (gW gL_law_X11_thrown) rfl rfl rfl (by decide +kernel) hRR ⟨(Nat.le_of_ble_eq_true rfl), (Nat.le_of_ble_eq_true rfl)⟩) (j_r0.1.mpr (show 0 ∈ mK by decide)) (j_r0.2.2.trans rfl) rfl rfl rfl (Nat.le_of_ble_eq_true rfl) hRR ⟨ha, hb⟩ dL_law_2026 (fun t9 M3 ht => ?_)
  obtain ⟨rfl, rfl⟩ := ht
  show kv dd g (a + 1) (b + 6) 2029 [(7, .long b9), (6, .int r9), (0, .ref sc), (1, .ref (ad 0)), (2, .ref (adr 0)), (3, .ref (x.2.1 0)), (4, .ref (x.2.1 1)), (5, .int (nI i))] [.int (M2.1 0)] (jk z1 (mK, adr, mE dd adr M2) z2) (jd z1 (mK, adr, mE dd adr M2) z2) (jE z1 (mK, adr, mE dd adr M2) z2)
  refine kv_iload X 1 dL_law_2029 rfl ?_
  refine kv_icmp_eq (tgt := 2036) X dL_law_2031 (by decide) (fun _ => ?_) (fun h => absurd h1 h)
  refine kv_iload X 1 dL_law_2036 rfl ?_
  refine kv_if_ne (tgt := 2052) X dL_law_2038 (by decide) (fun h => ?_) (fun h => ?_)
  ·
    replace h3 : z2 = x := h3 h
    subst h3
    refine kv_goto (tgt := 2529) X dL_law_2052 (by decide) ?_
    refine kv_lv [2, 3, 4, 5, 6, 7] rfl ?_
    exact K z1 _ M2 h4 hxx
  ·
    replace h2 : z2 = xJ dd x f0 b9 := h2 h
    subst h2
    refine kv_aload_n X 5 dL_law_2041 rfl rfl ?_
    refine kv_iconst (v := 0) X dL_law_2042 (by decide) ?_
    refine kv_laload X (κ := 2000) (n := 1) (j := 0) (f := va_up f0 0 b9) (j_x0.1.mpr hx0) (j_x0.2.2.trans (va_up_self x.2.2 0 (kJ dd 1 (va_up f0 0 b9)))) (by omega) (by omega) dL_law_2043 ?_
    show kv dd g (a + 1) (b + 6) 2044 [(7, .long b9), (6, .int r9), (0, .ref sc), (1, .ref (ad 0)), (2, .ref (adr 0)), (3, .ref (x.2.1 0)), (4, .ref (x.2.1 1)), (5, .int (nI i))] [.long b9] (jk z1 (mK, adr, mE dd adr M2) (xJ dd x f0 b9)) (jd z1 (mK, adr, mE dd adr M2) (xJ dd x f0 b9)) (jE z1 (mK, adr, mE dd adr M2) (xJ dd x f0 b9))
    refine kv_lload X 0 dL_law_2044 rfl ?_
    refine kv_lcmp X dL_law_2046 ?_
    refine kv_if_eq (tgt := 2052) X dL_law_2047 (by decide) (fun _ => ?_) (fun h9 => absurd lcs h9)
    refine kv_goto (tgt := 2529) X dL_law_2052 (by decide) ?_
    refine kv_lv [2, 3, 4, 5, 6, 7] rfl ?_
    exact K z1 _ M2 h4 (XW_xJ hxx)

set_option maxRecDepth 100000 in
set_option maxHeartbeats 4000000 in
theorem lw_packs {l : Launch} {dd : kDD} {g : kG} (X : kX dd g cL_law RL wsLaw) (hRR : kR g = room_1) (hnL : knL g = 9) (hl0 : kL g = l) {sc L i : Nat} {xs : Nat → Int32} (hs : kScr g sc L xs) (hLL : L ≤ 3584) (hi : i + 6 < L) {a b : Nat} {c x : kT} {M : mS} {xa o1 o2 : Nat} {adr : Nat → Nat} (hw : LWS dd c M xa) (hx : XW dd x o1 o2) (ha : a + 1 ≤ 603072) (hb : b + 6 ≤ 7219306) (K : ∀ (c2 x2 : kT) (M2 : mS), LWS dd c2 M2 xa → XW dd x2 o1 o2 → kv dd g (a + 1) (b + 6) 2529 [(0, .ref sc), (1, .ref xa), (2, .ref (adr 0)), (3, .ref o1), (4, .ref o2), (5, .int (nI i))] [] (jk c2 (mK, adr, mE dd adr M2) x2) (jd c2 (mK, adr, mE dd adr M2) x2) (jE c2 (mK, adr, mE dd adr M2) x2)) : kv dd g a b 2055 [(0, .ref sc), (1, .ref xa), (2, .ref (adr 0)), (3, .ref o1), (4, .ref o2), (5, .int (nI i))] [] (jk c (mK, adr, mE dd adr M) x) (jd c (mK, adr, mE dd adr M) x) (jE c (mK, adr, mE dd adr M) x) := by
  obtain ⟨ks, ad, E, e, nR, nC, nt, nL, nW, nV, nM, cn, nm, mn, me, li, rl, hks, hcf, rfl, hI, hO, hR, hC, hT, hL, hW, hV, hM⟩ := LWS_open hw
  obtain ⟨iR, iC, iT, iL, iW, iV, iM, hcn, hnm, hmn, hme, hs2, hli, hB, hpk, hmI, hmR, hmIc, hmRc, hlG⟩ := rI_all hI
  have hxx := hx
  obtain ⟨hx0, hx1, rfl, rfl, ⟨f0, hf0⟩, ⟨f1, hf1⟩⟩ := hx
  refine kv_cf ?_
  rw [hcf]
  refine kv_aload_n X 1 dL_law_2055 rfl rfl ?_
  refine kv_arg X hs hLL 1 (by omega) 0 5 rfl rfl (by decide) dL_law_2056 dL_law_2057 dL_law_2059 dL_law_2060 dL_law_2061 ?_
  refine kv_aload_n X 3 dL_law_2062 rfl rfl ?_
  refine kv_calliSW (As := [.ref (ad 0), .int (xs (i + 1)), .ref (x.2.1 0)]) [] X (c_L_packs l dd ks ad E e (mK, adr, mE dd adr M) x hks M nR nC nt nL nW nV nM cn nm mn me li rl (M.1 24) hO hR hC hT hL hW hV hM hB (cmI (M.2.1 22) nV) (cmI (M.2.1 23) nV) hmIc hmRc hpk (xs (i + 1)) (rI_fx hI) f0 ⟨hx0, hf0⟩) hl0 (kCSW_of X 3 (show GoodIn wsLaw (va_wsS RL 239 yL_packs (wsL_packs ++ kHx)) from gK (pre := [Cond.methodLink RL 239 yL_packs, Cond.static yL_packs, Cond.initialized yL_packs.cls]) gL_law_L_packs) rfl rfl rfl (by decide +kernel) hRR ⟨(Nat.le_of_ble_eq_true rfl), (Nat.le_of_ble_eq_true rfl)⟩) rfl rfl (Nat.le_of_ble_eq_true rfl) hRR ⟨ha, hb⟩ dL_law_2063 (fun r9 z hp => ?_)
  obtain ⟨z1, z2⟩ := z
  show kv dd g (a + 1) (b + 6) 2066 [(0, .ref sc), (1, .ref (ad 0)), (2, .ref (adr 0)), (3, .ref (x.2.1 0)), (4, .ref (x.2.1 1)), (5, .int (nI i))] [.int r9] (jk z1 (mK, adr, mE dd adr M) z2) (jd z1 (mK, adr, mE dd adr M) z2) (jE z1 (mK, adr, mE dd adr M) z2)
  refine kv_istore (lv2 := [(6, .int r9), (0, .ref sc), (1, .ref (ad 0)), (2, .ref (adr 0)), (3, .ref (x.2.1 0)), (4, .ref (x.2.1 1)), (5, .int (nI i))]) X dL_law_2066 (by rw [hnL]; decide) rfl ?_
  refine kv_aload_n X 3 dL_law_2068 rfl rfl ?_
  refine kv_arg X hs hLL 1 (by omega) 1 6 rfl rfl (by decide) dL_law_2069 dL_law_2070 dL_law_2072 dL_law_2073 dL_law_2074 ?_
  refine kv_calllV (As := [.int (xs (i + 1))]) [] (ci := 14) (κ := 1000) (rm := ({ frames := 5, cells := 0, slots := 0, locals := 123 } : Room)) (mc := 0) (ms := 0) (r1 := (TX11, 34)) X (kCl_frR (c := z1) (r := (mK, adr, mE dd adr M)) (x := z2) (by rw [cf_id mK_lt]; exact c_X11_packs l dd adr M (xs (i + 1)) nt iT nV iV cn hcn nm hnm mn hmn ((cmI (M.2.1 22) nV) (M.1 24)) (hmI (M.1 24)) ((cmI (M.2.1 23) nV) (M.1 24)) (hmR (M.1 24)) me hme hs2 (rI_val hI (M.1 24)) nL iL nW iW li hli (hlG (M.1 24)) nR iR nM iM hpk)) hl0 (kCV_of X 1 (gW gL_law_X11_packs) rfl rfl rfl (by decide +kernel) hRR ⟨(Nat.le_of_ble_eq_true rfl), (Nat.le_of_ble_eq_true rfl)⟩) (j_r0.1.mpr (show 0 ∈ mK by decide)) (j_r0.2.2.trans rfl) rfl rfl rfl (Nat.le_of_ble_eq_true rfl) hRR ⟨ha, hb⟩ dL_law_2075 (fun b9 M2 hq => ?_)
  have hst := st_packs (e := e) (wx := x) (f0 := f0) hI hO hR hC hT hL hW hV hM hp hq
  obtain ⟨h1, h2, h3, h4⟩ := hst
  show kv dd g (a + 1) (b + 6) 2078 [(6, .int r9), (0, .ref sc), (1, .ref (ad 0)), (2, .ref (adr 0)), (3, .ref (x.2.1 0)), (4, .ref (x.2.1 1)), (5, .int (nI i))] [.long b9] (jk z1 (mK, adr, mE dd adr M2) z2) (jd z1 (mK, adr, mE dd adr M2) z2) (jE z1 (mK, adr, mE dd adr M2) z2)
  refine kv_lstore (lv2 := [(7, .long b9), (6, .int r9), (0, .ref sc), (1, .ref (ad 0)), (2, .ref (adr 0)), (3, .ref (x.2.1 0)), (4, .ref (x.2.1 1)), (5, .int (nI i))]) X dL_law_2078 (by rw [hnL]; decide) rfl ?_
  refine kv_aload_n X 4 dL_law_2080 rfl rfl ?_
  refine kv_calliV (As := []) [] (ci := 14) (κ := 1000) (rm := ({ frames := 0, cells := 0, slots := 0, locals := 0 } : Room)) (mc := 0) (ms := 0) (r1 := (TX11, 34)) X (kCi_frR (c := z1) (r := (mK, adr, mE dd adr M2)) (x := z2) (by rw [cf_id mK_lt]; exact c_X11_thrown l dd adr M2 )) hl0 (kCV_of X 0 (gW gL_law_X11_thrown) rfl rfl rfl (by decide +kernel) hRR ⟨(Nat.le_of_ble_eq_true rfl), (Nat.le_of_ble_eq_true rfl)⟩) (j_r0.1.mpr (show 0 ∈ mK by decide)) (j_r0.2.2.trans rfl) rfl rfl rfl (Nat.le_of_ble_eq_true rfl) hRR ⟨ha, hb⟩ dL_law_2081 (fun t9 M3 ht => ?_)
  obtain ⟨rfl, rfl⟩ := ht
  show kv dd g (a + 1) (b + 6) 2084 [(7, .long b9), (6, .int r9), (0, .ref sc), (1, .ref (ad 0)), (2, .ref (adr 0)), (3, .ref (x.2.1 0)), (4, .ref (x.2.1 1)), (5, .int (nI i))] [.int (M2.1 0)] (jk z1 (mK, adr, mE dd adr M2) z2) (jd z1 (mK, adr, mE dd adr M2) z2) (jE z1 (mK, adr, mE dd adr M2) z2)
  refine kv_iload X 1 dL_law_2084 rfl ?_
  refine kv_icmp_eq (tgt := 2091) X dL_law_2086 (by decide) (fun _ => ?_) (fun h => absurd h1 h)
  refine kv_iload X 1 dL_law_2091 rfl ?_
  refine kv_if_ne (tgt := 2107) X dL_law_2093 (by decide) (fun h => ?_) (fun h => ?_)
  ·
    replace h3 : z2 = x := h3 h
    subst h3
    refine kv_goto (tgt := 2529) X dL_law_2107 (by decide) ?_
    refine kv_lv [2, 3, 4, 5, 6, 7] rfl ?_
    exact K z1 _ M2 h4 hxx
  ·
    replace h2 : z2 = xJ dd x f0 b9 := h2 h
    subst h2
    refine kv_aload_n X 5 dL_law_2096 rfl rfl ?_
    refine kv_iconst (v := 0) X dL_law_2097 (by decide) ?_
    refine kv_laload X (κ := 2000) (n := 1) (j := 0) (f := va_up f0 0 b9) (j_x0.1.mpr hx0) (j_x0.2.2.trans (va_up_self x.2.2 0 (kJ dd 1 (va_up f0 0 b9)))) (by omega) (by omega) dL_law_2098 ?_
    show kv dd g (a + 1) (b + 6) 2099 [(7, .long b9), (6, .int r9), (0, .ref sc), (1, .ref (ad 0)), (2, .ref (adr 0)), (3, .ref (x.2.1 0)), (4, .ref (x.2.1 1)), (5, .int (nI i))] [.long b9] (jk z1 (mK, adr, mE dd adr M2) (xJ dd x f0 b9)) (jd z1 (mK, adr, mE dd adr M2) (xJ dd x f0 b9)) (jE z1 (mK, adr, mE dd adr M2) (xJ dd x f0 b9))
    refine kv_lload X 0 dL_law_2099 rfl ?_
    refine kv_lcmp X dL_law_2101 ?_
    refine kv_if_eq (tgt := 2107) X dL_law_2102 (by decide) (fun _ => ?_) (fun h9 => absurd lcs h9)
    refine kv_goto (tgt := 2529) X dL_law_2107 (by decide) ?_
    refine kv_lv [2, 3, 4, 5, 6, 7] rfl ?_
    exact K z1 _ M2 h4 (XW_xJ hxx)

set_option maxRecDepth 100000 in
set_option maxHeartbeats 4000000 in
theorem lw_costOfLine {l : Launch} {dd : kDD} {g : kG} (X : kX dd g cL_law RL wsLaw) (hRR : kR g = room_1) (hnL : knL g = 9) (hl0 : kL g = l) {sc L i : Nat} {xs : Nat → Int32} (hs : kScr g sc L xs) (hLL : L ≤ 3584) (hi : i + 6 < L) {a b : Nat} {c x : kT} {M : mS} {xa o1 o2 : Nat} {adr : Nat → Nat} (hw : LWS dd c M xa) (hx : XW dd x o1 o2) (ha : a + 1 ≤ 603072) (hb : b + 6 ≤ 7219306) (K : ∀ (c2 x2 : kT) (M2 : mS), LWS dd c2 M2 xa → XW dd x2 o1 o2 → kv dd g (a + 1) (b + 6) 2529 [(0, .ref sc), (1, .ref xa), (2, .ref (adr 0)), (3, .ref o1), (4, .ref o2), (5, .int (nI i))] [] (jk c2 (mK, adr, mE dd adr M2) x2) (jd c2 (mK, adr, mE dd adr M2) x2) (jE c2 (mK, adr, mE dd adr M2) x2)) : kv dd g a b 2110 [(0, .ref sc), (1, .ref xa), (2, .ref (adr 0)), (3, .ref o1), (4, .ref o2), (5, .int (nI i))] [] (jk c (mK, adr, mE dd adr M) x) (jd c (mK, adr, mE dd adr M) x) (jE c (mK, adr, mE dd adr M) x) := by
  obtain ⟨ks, ad, E, e, nR, nC, nt, nL, nW, nV, nM, cn, nm, mn, me, li, rl, hks, hcf, rfl, hI, hO, hR, hC, hT, hL, hW, hV, hM⟩ := LWS_open hw
  obtain ⟨iR, iC, iT, iL, iW, iV, iM, hcn, hnm, hmn, hme, hs2, hli, hB, hpk, hmI, hmR, hmIc, hmRc, hlG⟩ := rI_all hI
  have hxx := hx
  obtain ⟨hx0, hx1, rfl, rfl, ⟨f0, hf0⟩, ⟨f1, hf1⟩⟩ := hx
  refine kv_cf ?_
  rw [hcf]
  refine kv_aload_n X 1 dL_law_2110 rfl rfl ?_
  refine kv_arg X hs hLL 1 (by omega) 0 5 rfl rfl (by decide) dL_law_2111 dL_law_2112 dL_law_2114 dL_law_2115 dL_law_2116 ?_
  refine kv_aload_n X 3 dL_law_2117 rfl rfl ?_
  refine kv_calliSW (As := [.ref (ad 0), .int (xs (i + 1)), .ref (x.2.1 0)]) [] X (c_L_costOfLine l dd ks ad E e (mK, adr, mE dd adr M) x hks M nR nC nt nL nW nV nM cn nm mn me li rl (M.1 24) hO hR hC hT hL hW hV hM hB (cmI (M.2.1 22) nV) (cmI (M.2.1 23) nV) hmIc hmRc hpk (xs (i + 1)) (rI_fx hI) f0 ⟨hx0, hf0⟩) hl0 (kCSW_of X 3 (show GoodIn wsLaw (va_wsS RL 242 yL_costOfLine (wsL_costOfLine ++ kHx)) from gK (pre := [Cond.methodLink RL 242 yL_costOfLine, Cond.static yL_costOfLine, Cond.initialized yL_costOfLine.cls]) gL_law_L_costOfLine) rfl rfl rfl (by decide +kernel) hRR ⟨(Nat.le_of_ble_eq_true rfl), (Nat.le_of_ble_eq_true rfl)⟩) rfl rfl (Nat.le_of_ble_eq_true rfl) hRR ⟨ha, hb⟩ dL_law_2118 (fun r9 z hp => ?_)
  obtain ⟨z1, z2⟩ := z
  show kv dd g (a + 1) (b + 6) 2121 [(0, .ref sc), (1, .ref (ad 0)), (2, .ref (adr 0)), (3, .ref (x.2.1 0)), (4, .ref (x.2.1 1)), (5, .int (nI i))] [.int r9] (jk z1 (mK, adr, mE dd adr M) z2) (jd z1 (mK, adr, mE dd adr M) z2) (jE z1 (mK, adr, mE dd adr M) z2)
  refine kv_istore (lv2 := [(6, .int r9), (0, .ref sc), (1, .ref (ad 0)), (2, .ref (adr 0)), (3, .ref (x.2.1 0)), (4, .ref (x.2.1 1)), (5, .int (nI i))]) X dL_law_2121 (by rw [hnL]; decide) rfl ?_
  refine kv_aload_n X 3 dL_law_2123 rfl rfl ?_
  refine kv_arg X hs hLL 1 (by omega) 1 6 rfl rfl (by decide) dL_law_2124 dL_law_2125 dL_law_2127 dL_law_2128 dL_law_2129 ?_
  refine kv_calllV (As := [.int (xs (i + 1))]) [] (ci := 14) (κ := 1000) (rm := ({ frames := 3, cells := 0, slots := 0, locals := 74 } : Room)) (mc := 0) (ms := 0) (r1 := (TX11, 34)) X (kCl_frR (c := z1) (r := (mK, adr, mE dd adr M)) (x := z2) (by rw [cf_id mK_lt]; exact c_X11_costOfLine l dd adr M (xs (i + 1)) nt iT nV iV cn hcn nm hnm mn hmn ((cmI (M.2.1 22) nV) (M.1 24)) (hmI (M.1 24)) ((cmI (M.2.1 23) nV) (M.1 24)) (hmR (M.1 24)) me hme hs2 (rI_val hI (M.1 24)) nL iL nW iW li hli (hlG (M.1 24)))) hl0 (kCV_of X 1 (gW gL_law_X11_costOfLine) rfl rfl rfl (by decide +kernel) hRR ⟨(Nat.le_of_ble_eq_true rfl), (Nat.le_of_ble_eq_true rfl)⟩) (j_r0.1.mpr (show 0 ∈ mK by decide)) (j_r0.2.2.trans rfl) rfl rfl rfl (Nat.le_of_ble_eq_true rfl) hRR ⟨ha, hb⟩ dL_law_2130 (fun b9 M2 hq => ?_)
  have hst := st_costOfLine (e := e) (wx := x) (f0 := f0) hI hO hR hC hT hL hW hV hM hp hq
  obtain ⟨h1, h2, h3, h4⟩ := hst
  show kv dd g (a + 1) (b + 6) 2133 [(6, .int r9), (0, .ref sc), (1, .ref (ad 0)), (2, .ref (adr 0)), (3, .ref (x.2.1 0)), (4, .ref (x.2.1 1)), (5, .int (nI i))] [.long b9] (jk z1 (mK, adr, mE dd adr M2) z2) (jd z1 (mK, adr, mE dd adr M2) z2) (jE z1 (mK, adr, mE dd adr M2) z2)
  refine kv_lstore (lv2 := [(7, .long b9), (6, .int r9), (0, .ref sc), (1, .ref (ad 0)), (2, .ref (adr 0)), (3, .ref (x.2.1 0)), (4, .ref (x.2.1 1)), (5, .int (nI i))]) X dL_law_2133 (by rw [hnL]; decide) rfl ?_
  refine kv_aload_n X 4 dL_law_2135 rfl rfl ?_
  refine kv_calliV (As := []) [] (ci := 14) (κ := 1000) (rm := ({ frames := 0, cells := 0, slots := 0, locals := 0 } : Room)) (mc := 0) (ms := 0) (r1 := (TX11, 34)) X (kCi_frR (c := z1) (r := (mK, adr, mE dd adr M2)) (x := z2) (by rw [cf_id mK_lt]; exact c_X11_thrown l dd adr M2 )) hl0 (kCV_of X 0 (gW gL_law_X11_thrown) rfl rfl rfl (by decide +kernel) hRR ⟨(Nat.le_of_ble_eq_true rfl), (Nat.le_of_ble_eq_true rfl)⟩) (j_r0.1.mpr (show 0 ∈ mK by decide)) (j_r0.2.2.trans rfl) rfl rfl rfl (Nat.le_of_ble_eq_true rfl) hRR ⟨ha, hb⟩ dL_law_2136 (fun t9 M3 ht => ?_)
  obtain ⟨rfl, rfl⟩ := ht
  show kv dd g (a + 1) (b + 6) 2139 [(7, .long b9), (6, .int r9), (0, .ref sc), (1, .ref (ad 0)), (2, .ref (adr 0)), (3, .ref (x.2.1 0)), (4, .ref (x.2.1 1)), (5, .int (nI i))] [.int (M2.1 0)] (jk z1 (mK, adr, mE dd adr M2) z2) (jd z1 (mK, adr, mE dd adr M2) z2) (jE z1 (mK, adr, mE dd adr M2) z2)
  refine kv_iload X 1 dL_law_2139 rfl ?_
  refine kv_icmp_eq (tgt := 2146) X dL_law_2141 (by decide) (fun _ => ?_) (fun h => absurd h1 h)
  refine kv_iload X 1 dL_law_2146 rfl ?_
  refine kv_if_ne (tgt := 2162) X dL_law_2148 (by decide) (fun h => ?_) (fun h => ?_)
  ·
    replace h3 : z2 = x := h3 h
    subst h3
    refine kv_goto (tgt := 2529) X dL_law_2162 (by decide) ?_
    refine kv_lv [2, 3, 4, 5, 6, 7] rfl ?_
    exact K z1 _ M2 h4 hxx
  ·
    replace h2 : z2 = xJ dd x f0 b9 := h2 h
    subst h2
    refine kv_aload_n X 5 dL_law_2151 rfl rfl ?_
    refine kv_iconst (v := 0) X dL_law_2152 (by decide) ?_
    refine kv_laload X (κ := 2000) (n := 1) (j := 0) (f := va_up f0 0 b9) (j_x0.1.mpr hx0) (j_x0.2.2.trans (va_up_self x.2.2 0 (kJ dd 1 (va_up f0 0 b9)))) (by omega) (by omega) dL_law_2153 ?_
    show kv dd g (a + 1) (b + 6) 2154 [(7, .long b9), (6, .int r9), (0, .ref sc), (1, .ref (ad 0)), (2, .ref (adr 0)), (3, .ref (x.2.1 0)), (4, .ref (x.2.1 1)), (5, .int (nI i))] [.long b9] (jk z1 (mK, adr, mE dd adr M2) (xJ dd x f0 b9)) (jd z1 (mK, adr, mE dd adr M2) (xJ dd x f0 b9)) (jE z1 (mK, adr, mE dd adr M2) (xJ dd x f0 b9))
    refine kv_lload X 0 dL_law_2154 rfl ?_
    refine kv_lcmp X dL_law_2156 ?_
    refine kv_if_eq (tgt := 2162) X dL_law_2157 (by decide) (fun _ => ?_) (fun h9 => absurd lcs h9)
    refine kv_goto (tgt := 2529) X dL_law_2162 (by decide) ?_
    refine kv_lv [2, 3, 4, 5, 6, 7] rfl ?_
    exact K z1 _ M2 h4 (XW_xJ hxx)

set_option maxRecDepth 100000 in
set_option maxHeartbeats 4000000 in
theorem lw_costOfTrade {l : Launch} {dd : kDD} {g : kG} (X : kX dd g cL_law RL wsLaw) (hRR : kR g = room_1) (hnL : knL g = 9) (hl0 : kL g = l) {sc L i : Nat} {xs : Nat → Int32} (hs : kScr g sc L xs) (hLL : L ≤ 3584) (hi : i + 6 < L) {a b : Nat} {c x : kT} {M : mS} {xa o1 o2 : Nat} {adr : Nat → Nat} (hw : LWS dd c M xa) (hx : XW dd x o1 o2) (ha : a + 1 ≤ 603072) (hb : b + 6 ≤ 7219306) (K : ∀ (c2 x2 : kT) (M2 : mS), LWS dd c2 M2 xa → XW dd x2 o1 o2 → kv dd g (a + 1) (b + 6) 2529 [(0, .ref sc), (1, .ref xa), (2, .ref (adr 0)), (3, .ref o1), (4, .ref o2), (5, .int (nI i))] [] (jk c2 (mK, adr, mE dd adr M2) x2) (jd c2 (mK, adr, mE dd adr M2) x2) (jE c2 (mK, adr, mE dd adr M2) x2)) : kv dd g a b 2165 [(0, .ref sc), (1, .ref xa), (2, .ref (adr 0)), (3, .ref o1), (4, .ref o2), (5, .int (nI i))] [] (jk c (mK, adr, mE dd adr M) x) (jd c (mK, adr, mE dd adr M) x) (jE c (mK, adr, mE dd adr M) x) := by
  obtain ⟨ks, ad, E, e, nR, nC, nt, nL, nW, nV, nM, cn, nm, mn, me, li, rl, hks, hcf, rfl, hI, hO, hR, hC, hT, hL, hW, hV, hM⟩ := LWS_open hw
  obtain ⟨iR, iC, iT, iL, iW, iV, iM, hcn, hnm, hmn, hme, hs2, hli, hB, hpk, hmI, hmR, hmIc, hmRc, hlG⟩ := rI_all hI
  have hxx := hx
  obtain ⟨hx0, hx1, rfl, rfl, ⟨f0, hf0⟩, ⟨f1, hf1⟩⟩ := hx
  refine kv_cf ?_
  rw [hcf]
  refine kv_aload_n X 1 dL_law_2165 rfl rfl ?_
  refine kv_arg X hs hLL 1 (by omega) 0 5 rfl rfl (by decide) dL_law_2166 dL_law_2167 dL_law_2169 dL_law_2170 dL_law_2171 ?_
  refine kv_aload_n X 3 dL_law_2172 rfl rfl ?_
  refine kv_calliSW (As := [.ref (ad 0), .int (xs (i + 1)), .ref (x.2.1 0)]) [] X (c_L_costOfTrade l dd ks ad E e (mK, adr, mE dd adr M) x hks M nR nC nt nL nW nV nM cn nm mn me li rl (M.1 24) hO hR hC hT hL hW hV hM hB (cmI (M.2.1 22) nV) (cmI (M.2.1 23) nV) hmIc hmRc hpk (xs (i + 1)) (rI_fx hI) f0 ⟨hx0, hf0⟩) hl0 (kCSW_of X 3 (show GoodIn wsLaw (va_wsS RL 245 yL_costOfTrade (wsL_costOfTrade ++ kHx)) from gK (pre := [Cond.methodLink RL 245 yL_costOfTrade, Cond.static yL_costOfTrade, Cond.initialized yL_costOfTrade.cls]) gL_law_L_costOfTrade) rfl rfl rfl (by decide +kernel) hRR ⟨(Nat.le_of_ble_eq_true rfl), (Nat.le_of_ble_eq_true rfl)⟩) rfl rfl (Nat.le_of_ble_eq_true rfl) hRR ⟨ha, hb⟩ dL_law_2173 (fun r9 z hp => ?_)
  obtain ⟨z1, z2⟩ := z
  show kv dd g (a + 1) (b + 6) 2176 [(0, .ref sc), (1, .ref (ad 0)), (2, .ref (adr 0)), (3, .ref (x.2.1 0)), (4, .ref (x.2.1 1)), (5, .int (nI i))] [.int r9] (jk z1 (mK, adr, mE dd adr M) z2) (jd z1 (mK, adr, mE dd adr M) z2) (jE z1 (mK, adr, mE dd adr M) z2)
  refine kv_istore (lv2 := [(6, .int r9), (0, .ref sc), (1, .ref (ad 0)), (2, .ref (adr 0)), (3, .ref (x.2.1 0)), (4, .ref (x.2.1 1)), (5, .int (nI i))]) X dL_law_2176 (by rw [hnL]; decide) rfl ?_
  refine kv_aload_n X 3 dL_law_2178 rfl rfl ?_
  refine kv_arg X hs hLL 1 (by omega) 1 6 rfl rfl (by decide) dL_law_2179 dL_law_2180 dL_law_2182 dL_law_2183 dL_law_2184 ?_
  refine kv_calllV (As := [.int (xs (i + 1))]) [] (ci := 14) (κ := 1000) (rm := ({ frames := 3, cells := 0, slots := 0, locals := 74 } : Room)) (mc := 0) (ms := 0) (r1 := (TX11, 34)) X (kCl_frR (c := z1) (r := (mK, adr, mE dd adr M)) (x := z2) (by rw [cf_id mK_lt]; exact c_X11_costOfTrade l dd adr M (xs (i + 1)) nt iT nV iV cn hcn nm hnm mn hmn ((cmI (M.2.1 22) nV) (M.1 24)) (hmI (M.1 24)) ((cmI (M.2.1 23) nV) (M.1 24)) (hmR (M.1 24)) me hme hs2 (rI_val hI (M.1 24)) nL iL nW iW li hli (hlG (M.1 24)))) hl0 (kCV_of X 1 (gW gL_law_X11_costOfTrade) rfl rfl rfl (by decide +kernel) hRR ⟨(Nat.le_of_ble_eq_true rfl), (Nat.le_of_ble_eq_true rfl)⟩) (j_r0.1.mpr (show 0 ∈ mK by decide)) (j_r0.2.2.trans rfl) rfl rfl rfl (Nat.le_of_ble_eq_true rfl) hRR ⟨ha, hb⟩ dL_law_2185 (fun b9 M2 hq => ?_)
  have hst := st_costOfTrade (e := e) (wx := x) (f0 := f0) hI hO hR hC hT hL hW hV hM hp hq
  obtain ⟨h1, h2, h3, h4⟩ := hst
  show kv dd g (a + 1) (b + 6) 2188 [(6, .int r9), (0, .ref sc), (1, .ref (ad 0)), (2, .ref (adr 0)), (3, .ref (x.2.1 0)), (4, .ref (x.2.1 1)), (5, .int (nI i))] [.long b9] (jk z1 (mK, adr, mE dd adr M2) z2) (jd z1 (mK, adr, mE dd adr M2) z2) (jE z1 (mK, adr, mE dd adr M2) z2)
  refine kv_lstore (lv2 := [(7, .long b9), (6, .int r9), (0, .ref sc), (1, .ref (ad 0)), (2, .ref (adr 0)), (3, .ref (x.2.1 0)), (4, .ref (x.2.1 1)), (5, .int (nI i))]) X dL_law_2188 (by rw [hnL]; decide) rfl ?_
  refine kv_aload_n X 4 dL_law_2190 rfl rfl ?_
  refine kv_calliV (As := []) [] (ci := 14) (κ := 1000) (rm := ({ frames := 0, cells := 0, slots := 0, locals := 0 } : Room)) (mc := 0) (ms := 0) (r1 := (TX11, 34)) X (kCi_frR (c := z1) (r := (mK, adr, mE dd adr M2)) (x := z2) (by rw [cf_id mK_lt]; exact c_X11_thrown l dd adr M2 )) hl0 (kCV_of X 0 (gW gL_law_X11_thrown) rfl rfl rfl (by decide +kernel) hRR ⟨(Nat.le_of_ble_eq_true rfl), (Nat.le_of_ble_eq_true rfl)⟩) (j_r0.1.mpr (show 0 ∈ mK by decide)) (j_r0.2.2.trans rfl) rfl rfl rfl (Nat.le_of_ble_eq_true rfl) hRR ⟨ha, hb⟩ dL_law_2191 (fun t9 M3 ht => ?_)
  obtain ⟨rfl, rfl⟩ := ht
  show kv dd g (a + 1) (b + 6) 2194 [(7, .long b9), (6, .int r9), (0, .ref sc), (1, .ref (ad 0)), (2, .ref (adr 0)), (3, .ref (x.2.1 0)), (4, .ref (x.2.1 1)), (5, .int (nI i))] [.int (M2.1 0)] (jk z1 (mK, adr, mE dd adr M2) z2) (jd z1 (mK, adr, mE dd adr M2) z2) (jE z1 (mK, adr, mE dd adr M2) z2)
  refine kv_iload X 1 dL_law_2194 rfl ?_
  refine kv_icmp_eq (tgt := 2201) X dL_law_2196 (by decide) (fun _ => ?_) (fun h => absurd h1 h)
  refine kv_iload X 1 dL_law_2201 rfl ?_
  refine kv_if_ne (tgt := 2217) X dL_law_2203 (by decide) (fun h => ?_) (fun h => ?_)
  ·
    replace h3 : z2 = x := h3 h
    subst h3
    refine kv_goto (tgt := 2529) X dL_law_2217 (by decide) ?_
    refine kv_lv [2, 3, 4, 5, 6, 7] rfl ?_
    exact K z1 _ M2 h4 hxx
  ·
    replace h2 : z2 = xJ dd x f0 b9 := h2 h
    subst h2
    refine kv_aload_n X 5 dL_law_2206 rfl rfl ?_
    refine kv_iconst (v := 0) X dL_law_2207 (by decide) ?_
    refine kv_laload X (κ := 2000) (n := 1) (j := 0) (f := va_up f0 0 b9) (j_x0.1.mpr hx0) (j_x0.2.2.trans (va_up_self x.2.2 0 (kJ dd 1 (va_up f0 0 b9)))) (by omega) (by omega) dL_law_2208 ?_
    show kv dd g (a + 1) (b + 6) 2209 [(7, .long b9), (6, .int r9), (0, .ref sc), (1, .ref (ad 0)), (2, .ref (adr 0)), (3, .ref (x.2.1 0)), (4, .ref (x.2.1 1)), (5, .int (nI i))] [.long b9] (jk z1 (mK, adr, mE dd adr M2) (xJ dd x f0 b9)) (jd z1 (mK, adr, mE dd adr M2) (xJ dd x f0 b9)) (jE z1 (mK, adr, mE dd adr M2) (xJ dd x f0 b9))
    refine kv_lload X 0 dL_law_2209 rfl ?_
    refine kv_lcmp X dL_law_2211 ?_
    refine kv_if_eq (tgt := 2217) X dL_law_2212 (by decide) (fun _ => ?_) (fun h9 => absurd lcs h9)
    refine kv_goto (tgt := 2529) X dL_law_2217 (by decide) ?_
    refine kv_lv [2, 3, 4, 5, 6, 7] rfl ?_
    exact K z1 _ M2 h4 (XW_xJ hxx)

set_option maxRecDepth 100000 in
set_option maxHeartbeats 4000000 in
theorem lw_costOfKind {l : Launch} {dd : kDD} {g : kG} (X : kX dd g cL_law RL wsLaw) (hRR : kR g = room_1) (hnL : knL g = 9) (hl0 : kL g = l) {sc L i : Nat} {xs : Nat → Int32} (hs : kScr g sc L xs) (hLL : L ≤ 3584) (hi : i + 6 < L) {a b : Nat} {c x : kT} {M : mS} {xa o1 o2 : Nat} {adr : Nat → Nat} (hw : LWS dd c M xa) (hx : XW dd x o1 o2) (ha : a + 1 ≤ 603072) (hb : b + 6 ≤ 7219306) (K : ∀ (c2 x2 : kT) (M2 : mS), LWS dd c2 M2 xa → XW dd x2 o1 o2 → kv dd g (a + 1) (b + 6) 2529 [(0, .ref sc), (1, .ref xa), (2, .ref (adr 0)), (3, .ref o1), (4, .ref o2), (5, .int (nI i))] [] (jk c2 (mK, adr, mE dd adr M2) x2) (jd c2 (mK, adr, mE dd adr M2) x2) (jE c2 (mK, adr, mE dd adr M2) x2)) : kv dd g a b 2220 [(0, .ref sc), (1, .ref xa), (2, .ref (adr 0)), (3, .ref o1), (4, .ref o2), (5, .int (nI i))] [] (jk c (mK, adr, mE dd adr M) x) (jd c (mK, adr, mE dd adr M) x) (jE c (mK, adr, mE dd adr M) x) := by
  obtain ⟨ks, ad, E, e, nR, nC, nt, nL, nW, nV, nM, cn, nm, mn, me, li, rl, hks, hcf, rfl, hI, hO, hR, hC, hT, hL, hW, hV, hM⟩ := LWS_open hw
  obtain ⟨iR, iC, iT, iL, iW, iV, iM, hcn, hnm, hmn, hme, hs2, hli, hB, hpk, hmI, hmR, hmIc, hmRc, hlG⟩ := rI_all hI
  have hxx := hx
  obtain ⟨hx0, hx1, rfl, rfl, ⟨f0, hf0⟩, ⟨f1, hf1⟩⟩ := hx
  refine kv_cf ?_
  rw [hcf]
  refine kv_aload_n X 1 dL_law_2220 rfl rfl ?_
  refine kv_arg X hs hLL 1 (by omega) 0 5 rfl rfl (by decide) dL_law_2221 dL_law_2222 dL_law_2224 dL_law_2225 dL_law_2226 ?_
  refine kv_aload_n X 3 dL_law_2227 rfl rfl ?_
  refine kv_calliSW (As := [.ref (ad 0), .int (xs (i + 1)), .ref (x.2.1 0)]) [] X (c_L_costOfKind l dd ks ad E e (mK, adr, mE dd adr M) x hks M nR nC nt nL nW nV nM cn nm mn me li rl (M.1 24) hO hR hC hT hL hW hV hM hB (cmI (M.2.1 22) nV) (cmI (M.2.1 23) nV) hmIc hmRc hpk (xs (i + 1)) (rI_fx hI) f0 ⟨hx0, hf0⟩) hl0 (kCSW_of X 3 (show GoodIn wsLaw (va_wsS RL 248 yL_costOfKind (wsL_costOfKind ++ kHx)) from gK (pre := [Cond.methodLink RL 248 yL_costOfKind, Cond.static yL_costOfKind, Cond.initialized yL_costOfKind.cls]) gL_law_L_costOfKind) rfl rfl rfl (by decide +kernel) hRR ⟨(Nat.le_of_ble_eq_true rfl), (Nat.le_of_ble_eq_true rfl)⟩) rfl rfl (Nat.le_of_ble_eq_true rfl) hRR ⟨ha, hb⟩ dL_law_2228 (fun r9 z hp => ?_)
  obtain ⟨z1, z2⟩ := z
  show kv dd g (a + 1) (b + 6) 2231 [(0, .ref sc), (1, .ref (ad 0)), (2, .ref (adr 0)), (3, .ref (x.2.1 0)), (4, .ref (x.2.1 1)), (5, .int (nI i))] [.int r9] (jk z1 (mK, adr, mE dd adr M) z2) (jd z1 (mK, adr, mE dd adr M) z2) (jE z1 (mK, adr, mE dd adr M) z2)
  refine kv_istore (lv2 := [(6, .int r9), (0, .ref sc), (1, .ref (ad 0)), (2, .ref (adr 0)), (3, .ref (x.2.1 0)), (4, .ref (x.2.1 1)), (5, .int (nI i))]) X dL_law_2231 (by rw [hnL]; decide) rfl ?_
  refine kv_aload_n X 3 dL_law_2233 rfl rfl ?_
  refine kv_arg X hs hLL 1 (by omega) 1 6 rfl rfl (by decide) dL_law_2234 dL_law_2235 dL_law_2237 dL_law_2238 dL_law_2239 ?_
  refine kv_calllV (As := [.int (xs (i + 1))]) [] (ci := 14) (κ := 1000) (rm := ({ frames := 5, cells := 0, slots := 0, locals := 123 } : Room)) (mc := 0) (ms := 0) (r1 := (TX11, 34)) X (kCl_frR (c := z1) (r := (mK, adr, mE dd adr M)) (x := z2) (by rw [cf_id mK_lt]; exact c_X11_costOfKind l dd adr M (xs (i + 1)) nt iT nV iV cn hcn nm hnm mn hmn ((cmI (M.2.1 22) nV) (M.1 24)) (hmI (M.1 24)) ((cmI (M.2.1 23) nV) (M.1 24)) (hmR (M.1 24)) me hme hs2 (rI_val hI (M.1 24)) nL iL nW iW li hli (hlG (M.1 24)) nR iR nM iM hpk)) hl0 (kCV_of X 1 (gW gL_law_X11_costOfKind) rfl rfl rfl (by decide +kernel) hRR ⟨(Nat.le_of_ble_eq_true rfl), (Nat.le_of_ble_eq_true rfl)⟩) (j_r0.1.mpr (show 0 ∈ mK by decide)) (j_r0.2.2.trans rfl) rfl rfl rfl (Nat.le_of_ble_eq_true rfl) hRR ⟨ha, hb⟩ dL_law_2240 (fun b9 M2 hq => ?_)
  have hst := st_costOfKind (e := e) (wx := x) (f0 := f0) hI hO hR hC hT hL hW hV hM hp hq
  obtain ⟨h1, h2, h3, h4⟩ := hst
  show kv dd g (a + 1) (b + 6) 2243 [(6, .int r9), (0, .ref sc), (1, .ref (ad 0)), (2, .ref (adr 0)), (3, .ref (x.2.1 0)), (4, .ref (x.2.1 1)), (5, .int (nI i))] [.long b9] (jk z1 (mK, adr, mE dd adr M2) z2) (jd z1 (mK, adr, mE dd adr M2) z2) (jE z1 (mK, adr, mE dd adr M2) z2)
  refine kv_lstore (lv2 := [(7, .long b9), (6, .int r9), (0, .ref sc), (1, .ref (ad 0)), (2, .ref (adr 0)), (3, .ref (x.2.1 0)), (4, .ref (x.2.1 1)), (5, .int (nI i))]) X dL_law_2243 (by rw [hnL]; decide) rfl ?_
  refine kv_aload_n X 4 dL_law_2245 rfl rfl ?_
  refine kv_calliV (As := []) [] (ci := 14) (κ := 1000) (rm := ({ frames := 0, cells := 0, slots := 0, locals := 0 } : Room)) (mc := 0) (ms := 0) (r1 := (TX11, 34)) X (kCi_frR (c := z1) (r := (mK, adr, mE dd adr M2)) (x := z2) (by rw [cf_id mK_lt]; exact c_X11_thrown l dd adr M2 )) hl0 (kCV_of X 0 (gW gL_law_X11_thrown) rfl rfl rfl (by decide +kernel) hRR ⟨(Nat.le_of_ble_eq_true rfl), (Nat.le_of_ble_eq_true rfl)⟩) (j_r0.1.mpr (show 0 ∈ mK by decide)) (j_r0.2.2.trans rfl) rfl rfl rfl (Nat.le_of_ble_eq_true rfl) hRR ⟨ha, hb⟩ dL_law_2246 (fun t9 M3 ht => ?_)
  obtain ⟨rfl, rfl⟩ := ht
  show kv dd g (a + 1) (b + 6) 2249 [(7, .long b9), (6, .int r9), (0, .ref sc), (1, .ref (ad 0)), (2, .ref (adr 0)), (3, .ref (x.2.1 0)), (4, .ref (x.2.1 1)), (5, .int (nI i))] [.int (M2.1 0)] (jk z1 (mK, adr, mE dd adr M2) z2) (jd z1 (mK, adr, mE dd adr M2) z2) (jE z1 (mK, adr, mE dd adr M2) z2)
  refine kv_iload X 1 dL_law_2249 rfl ?_
  refine kv_icmp_eq (tgt := 2256) X dL_law_2251 (by decide) (fun _ => ?_) (fun h => absurd h1 h)
  refine kv_iload X 1 dL_law_2256 rfl ?_
  refine kv_if_ne (tgt := 2272) X dL_law_2258 (by decide) (fun h => ?_) (fun h => ?_)
  ·
    replace h3 : z2 = x := h3 h
    subst h3
    refine kv_goto (tgt := 2529) X dL_law_2272 (by decide) ?_
    refine kv_lv [2, 3, 4, 5, 6, 7] rfl ?_
    exact K z1 _ M2 h4 hxx
  ·
    replace h2 : z2 = xJ dd x f0 b9 := h2 h
    subst h2
    refine kv_aload_n X 5 dL_law_2261 rfl rfl ?_
    refine kv_iconst (v := 0) X dL_law_2262 (by decide) ?_
    refine kv_laload X (κ := 2000) (n := 1) (j := 0) (f := va_up f0 0 b9) (j_x0.1.mpr hx0) (j_x0.2.2.trans (va_up_self x.2.2 0 (kJ dd 1 (va_up f0 0 b9)))) (by omega) (by omega) dL_law_2263 ?_
    show kv dd g (a + 1) (b + 6) 2264 [(7, .long b9), (6, .int r9), (0, .ref sc), (1, .ref (ad 0)), (2, .ref (adr 0)), (3, .ref (x.2.1 0)), (4, .ref (x.2.1 1)), (5, .int (nI i))] [.long b9] (jk z1 (mK, adr, mE dd adr M2) (xJ dd x f0 b9)) (jd z1 (mK, adr, mE dd adr M2) (xJ dd x f0 b9)) (jE z1 (mK, adr, mE dd adr M2) (xJ dd x f0 b9))
    refine kv_lload X 0 dL_law_2264 rfl ?_
    refine kv_lcmp X dL_law_2266 ?_
    refine kv_if_eq (tgt := 2272) X dL_law_2267 (by decide) (fun _ => ?_) (fun h9 => absurd lcs h9)
    refine kv_goto (tgt := 2529) X dL_law_2272 (by decide) ?_
    refine kv_lv [2, 3, 4, 5, 6, 7] rfl ?_
    exact K z1 _ M2 h4 (XW_xJ hxx)

set_option maxRecDepth 100000 in
set_option maxHeartbeats 4000000 in
theorem lw_dearest {l : Launch} {dd : kDD} {g : kG} (X : kX dd g cL_law RL wsLaw) (hRR : kR g = room_1) (hnL : knL g = 9) (hl0 : kL g = l) {sc L i : Nat} {xs : Nat → Int32} (hs : kScr g sc L xs) (hLL : L ≤ 3584) (hi : i + 6 < L) {a b : Nat} {c x : kT} {M : mS} {xa o1 o2 : Nat} {adr : Nat → Nat} (hw : LWS dd c M xa) (hx : XW dd x o1 o2) (ha : a + 1 ≤ 603072) (hb : b + 6 ≤ 7219306) (K : ∀ (c2 x2 : kT) (M2 : mS), LWS dd c2 M2 xa → XW dd x2 o1 o2 → kv dd g (a + 1) (b + 6) 2529 [(0, .ref sc), (1, .ref xa), (2, .ref (adr 0)), (3, .ref o1), (4, .ref o2), (5, .int (nI i))] [] (jk c2 (mK, adr, mE dd adr M2) x2) (jd c2 (mK, adr, mE dd adr M2) x2) (jE c2 (mK, adr, mE dd adr M2) x2)) : kv dd g a b 2317 [(0, .ref sc), (1, .ref xa), (2, .ref (adr 0)), (3, .ref o1), (4, .ref o2), (5, .int (nI i))] [] (jk c (mK, adr, mE dd adr M) x) (jd c (mK, adr, mE dd adr M) x) (jE c (mK, adr, mE dd adr M) x) := by
  obtain ⟨ks, ad, E, e, nR, nC, nt, nL, nW, nV, nM, cn, nm, mn, me, li, rl, hks, hcf, rfl, hI, hO, hR, hC, hT, hL, hW, hV, hM⟩ := LWS_open hw
  obtain ⟨iR, iC, iT, iL, iW, iV, iM, hcn, hnm, hmn, hme, hs2, hli, hB, hpk, hmI, hmR, hmIc, hmRc, hlG⟩ := rI_all hI
  have hxx := hx
  obtain ⟨hx0, hx1, rfl, rfl, ⟨f0, hf0⟩, ⟨f1, hf1⟩⟩ := hx
  refine kv_cf ?_
  rw [hcf]
  refine kv_aload_n X 1 dL_law_2317 rfl rfl ?_
  refine kv_arg X hs hLL 1 (by omega) 0 5 rfl rfl (by decide) dL_law_2318 dL_law_2319 dL_law_2321 dL_law_2322 dL_law_2323 ?_
  refine kv_aload_n X 3 dL_law_2324 rfl rfl ?_
  refine kv_calliSW (As := [.ref (ad 0), .int (xs (i + 1)), .ref (x.2.1 0)]) [] X (c_L_dearest l dd ks ad E e (mK, adr, mE dd adr M) x hks M nR nC nt nL nW nV nM cn nm mn me li rl (M.1 24) hO hR hC hT hL hW hV hM hB (cmI (M.2.1 22) nV) (cmI (M.2.1 23) nV) hmIc hmRc hpk (xs (i + 1)) (rI_fx hI) f0 ⟨hx0, hf0⟩) hl0 (kCSW_of X 3 (show GoodIn wsLaw (va_wsS RL 264 yL_dearest (wsL_dearest ++ kHx)) from gK (pre := [Cond.methodLink RL 264 yL_dearest, Cond.static yL_dearest, Cond.initialized yL_dearest.cls]) gL_law_L_dearest) rfl rfl rfl (by decide +kernel) hRR ⟨(Nat.le_of_ble_eq_true rfl), (Nat.le_of_ble_eq_true rfl)⟩) rfl rfl (Nat.le_of_ble_eq_true rfl) hRR ⟨ha, hb⟩ dL_law_2325 (fun r9 z hp => ?_)
  obtain ⟨z1, z2⟩ := z
  show kv dd g (a + 1) (b + 6) 2328 [(0, .ref sc), (1, .ref (ad 0)), (2, .ref (adr 0)), (3, .ref (x.2.1 0)), (4, .ref (x.2.1 1)), (5, .int (nI i))] [.int r9] (jk z1 (mK, adr, mE dd adr M) z2) (jd z1 (mK, adr, mE dd adr M) z2) (jE z1 (mK, adr, mE dd adr M) z2)
  refine kv_istore (lv2 := [(6, .int r9), (0, .ref sc), (1, .ref (ad 0)), (2, .ref (adr 0)), (3, .ref (x.2.1 0)), (4, .ref (x.2.1 1)), (5, .int (nI i))]) X dL_law_2328 (by rw [hnL]; decide) rfl ?_
  refine kv_aload_n X 3 dL_law_2330 rfl rfl ?_
  refine kv_arg X hs hLL 1 (by omega) 1 6 rfl rfl (by decide) dL_law_2331 dL_law_2332 dL_law_2334 dL_law_2335 dL_law_2336 ?_
  refine kv_calliV (As := [.int (xs (i + 1))]) [] (ci := 14) (κ := 1000) (rm := ({ frames := 5, cells := 0, slots := 0, locals := 123 } : Room)) (mc := 0) (ms := 0) (r1 := (TX11, 34)) X (kCi_frR (c := z1) (r := (mK, adr, mE dd adr M)) (x := z2) (by rw [cf_id mK_lt]; exact c_X11_dearest l dd adr M (xs (i + 1)) nt iT nV iV cn hcn nm hnm mn hmn ((cmI (M.2.1 22) nV) (M.1 24)) (hmI (M.1 24)) ((cmI (M.2.1 23) nV) (M.1 24)) (hmR (M.1 24)) me hme hs2 (rI_val hI (M.1 24)) nL iL nW iW li hli (hlG (M.1 24)) nR iR nM iM hpk)) hl0 (kCV_of X 1 (gW gL_law_X11_dearest) rfl rfl rfl (by decide +kernel) hRR ⟨(Nat.le_of_ble_eq_true rfl), (Nat.le_of_ble_eq_true rfl)⟩) (j_r0.1.mpr (show 0 ∈ mK by decide)) (j_r0.2.2.trans rfl) rfl rfl rfl (Nat.le_of_ble_eq_true rfl) hRR ⟨ha, hb⟩ dL_law_2337 (fun b9 M2 hq => ?_)
  have hst := st_dearest (e := e) (wx := x) (f0 := f0) hI hO hR hC hT hL hW hV hM hp hq
  obtain ⟨h1, h2, h3, h4⟩ := hst
  show kv dd g (a + 1) (b + 6) 2340 [(6, .int r9), (0, .ref sc), (1, .ref (ad 0)), (2, .ref (adr 0)), (3, .ref (x.2.1 0)), (4, .ref (x.2.1 1)), (5, .int (nI i))] [.int b9] (jk z1 (mK, adr, mE dd adr M2) z2) (jd z1 (mK, adr, mE dd adr M2) z2) (jE z1 (mK, adr, mE dd adr M2) z2)
  refine kv_istore (lv2 := [(7, .int b9), (6, .int r9), (0, .ref sc), (1, .ref (ad 0)), (2, .ref (adr 0)), (3, .ref (x.2.1 0)), (4, .ref (x.2.1 1)), (5, .int (nI i))]) X dL_law_2340 (by rw [hnL]; decide) rfl ?_
  refine kv_aload_n X 4 dL_law_2342 rfl rfl ?_
  refine kv_calliV (As := []) [] (ci := 14) (κ := 1000) (rm := ({ frames := 0, cells := 0, slots := 0, locals := 0 } : Room)) (mc := 0) (ms := 0) (r1 := (TX11, 34)) X (kCi_frR (c := z1) (r := (mK, adr, mE dd adr M2)) (x := z2) (by rw [cf_id mK_lt]; exact c_X11_thrown l dd adr M2 )) hl0 (kCV_of X 0 (gW gL_law_X11_thrown) rfl rfl rfl (by decide +kernel) hRR ⟨(Nat.le_of_ble_eq_true rfl), (Nat.le_of_ble_eq_true rfl)⟩) (j_r0.1.mpr (show 0 ∈ mK by decide)) (j_r0.2.2.trans rfl) rfl rfl rfl (Nat.le_of_ble_eq_true rfl) hRR ⟨ha, hb⟩ dL_law_2343 (fun t9 M3 ht => ?_)
  obtain ⟨rfl, rfl⟩ := ht
  show kv dd g (a + 1) (b + 6) 2346 [(7, .int b9), (6, .int r9), (0, .ref sc), (1, .ref (ad 0)), (2, .ref (adr 0)), (3, .ref (x.2.1 0)), (4, .ref (x.2.1 1)), (5, .int (nI i))] [.int (M2.1 0)] (jk z1 (mK, adr, mE dd adr M2) z2) (jd z1 (mK, adr, mE dd adr M2) z2) (jE z1 (mK, adr, mE dd adr M2) z2)
  refine kv_iload X 1 dL_law_2346 rfl ?_
  refine kv_icmp_eq (tgt := 2353) X dL_law_2348 (by decide) (fun _ => ?_) (fun h => absurd h1 h)
  refine kv_iload X 1 dL_law_2353 rfl ?_
  refine kv_if_ne (tgt := 2370) X dL_law_2355 (by decide) (fun h => ?_) (fun h => ?_)
  ·
    replace h3 : z2 = x := h3 h
    subst h3
    refine kv_goto (tgt := 2529) X dL_law_2370 (by decide) ?_
    refine kv_lv [2, 3, 4, 5, 6, 7] rfl ?_
    exact K z1 _ M2 h4 hxx
  ·
    replace h2 : z2 = xJ dd x f0 b9.toInt64 := h2 h
    subst h2
    refine kv_aload_n X 5 dL_law_2358 rfl rfl ?_
    refine kv_iconst (v := 0) X dL_law_2359 (by decide) ?_
    refine kv_laload X (κ := 2000) (n := 1) (j := 0) (f := va_up f0 0 b9.toInt64) (j_x0.1.mpr hx0) (j_x0.2.2.trans (va_up_self x.2.2 0 (kJ dd 1 (va_up f0 0 b9.toInt64)))) (by omega) (by omega) dL_law_2360 ?_
    show kv dd g (a + 1) (b + 6) 2361 [(7, .int b9), (6, .int r9), (0, .ref sc), (1, .ref (ad 0)), (2, .ref (adr 0)), (3, .ref (x.2.1 0)), (4, .ref (x.2.1 1)), (5, .int (nI i))] [.long b9.toInt64] (jk z1 (mK, adr, mE dd adr M2) (xJ dd x f0 b9.toInt64)) (jd z1 (mK, adr, mE dd adr M2) (xJ dd x f0 b9.toInt64)) (jE z1 (mK, adr, mE dd adr M2) (xJ dd x f0 b9.toInt64))
    refine kv_iload X 0 dL_law_2361 rfl ?_
    refine kv_i2l X dL_law_2363 rfl ?_
    refine kv_lcmp X dL_law_2364 ?_
    refine kv_if_eq (tgt := 2370) X dL_law_2365 (by decide) (fun _ => ?_) (fun h9 => absurd lcs h9)
    refine kv_goto (tgt := 2529) X dL_law_2370 (by decide) ?_
    refine kv_lv [2, 3, 4, 5, 6, 7] rfl ?_
    exact K z1 _ M2 h4 (XW_xJ hxx)

set_option maxRecDepth 100000 in
set_option maxHeartbeats 4000000 in
theorem lw_share {l : Launch} {dd : kDD} {g : kG} (X : kX dd g cL_law RL wsLaw) (hRR : kR g = room_1) (hnL : knL g = 9) (hl0 : kL g = l) {sc L i : Nat} {xs : Nat → Int32} (hs : kScr g sc L xs) (hLL : L ≤ 3584) (hi : i + 6 < L) {a b : Nat} {c x : kT} {M : mS} {xa o1 o2 : Nat} {adr : Nat → Nat} (hw : LWS dd c M xa) (hx : XW dd x o1 o2) (ha : a + 2 ≤ 603072) (hb : b + 12 ≤ 7219306) (K : ∀ (c2 x2 : kT) (M2 : mS), LWS dd c2 M2 xa → XW dd x2 o1 o2 → kv dd g (a + 2) (b + 12) 2529 [(0, .ref sc), (1, .ref xa), (2, .ref (adr 0)), (3, .ref o1), (4, .ref o2), (5, .int (nI i))] [] (jk c2 (mK, adr, mE dd adr M2) x2) (jd c2 (mK, adr, mE dd adr M2) x2) (jE c2 (mK, adr, mE dd adr M2) x2)) : kv dd g a b 2373 [(0, .ref sc), (1, .ref xa), (2, .ref (adr 0)), (3, .ref o1), (4, .ref o2), (5, .int (nI i))] [] (jk c (mK, adr, mE dd adr M) x) (jd c (mK, adr, mE dd adr M) x) (jE c (mK, adr, mE dd adr M) x) := by
  obtain ⟨ks, ad, E, e, nR, nC, nt, nL, nW, nV, nM, cn, nm, mn, me, li, rl, hks, hcf, rfl, hI, hO, hR, hC, hT, hL, hW, hV, hM⟩ := LWS_open hw
  obtain ⟨iR, iC, iT, iL, iW, iV, iM, hcn, hnm, hmn, hme, hs2, hli, hB, hpk, hmI, hmR, hmIc, hmRc, hlG⟩ := rI_all hI
  have hxx := hx
  obtain ⟨hx0, hx1, rfl, rfl, ⟨f0, hf0⟩, ⟨f1, hf1⟩⟩ := hx
  refine kv_cf ?_
  rw [hcf]
  refine kv_aload_n X 1 dL_law_2373 rfl rfl ?_
  refine kv_arg X hs hLL 1 (by omega) 0 5 rfl rfl (by decide) dL_law_2374 dL_law_2375 dL_law_2377 dL_law_2378 dL_law_2379 ?_
  refine kv_aload X 4 dL_law_2380 rfl ?_
  refine kv_calliSW (As := [.ref (ad 0), .int (xs (i + 1)), .ref (x.2.1 1)]) [] X (c_L_share l dd ks ad E e (mK, adr, mE dd adr M) x hks M nR nC nt nL nW nV nM cn nm mn me li rl (M.1 24) hO hR hC hT hL hW hV hM hB (cmI (M.2.1 22) nV) (cmI (M.2.1 23) nV) hmIc hmRc hpk (xs (i + 1)) (rI_fx hI) f1 ⟨hx1, hf1⟩) hl0 (kCSW_of X 3 (show GoodIn wsLaw (va_wsS RL 267 yL_share (wsL_share ++ kHx)) from gK (pre := [Cond.methodLink RL 267 yL_share, Cond.static yL_share, Cond.initialized yL_share.cls]) gL_law_L_share) rfl rfl rfl (by decide +kernel) hRR ⟨(Nat.le_of_ble_eq_true rfl), (Nat.le_of_ble_eq_true rfl)⟩) rfl rfl (Nat.le_of_ble_eq_true rfl) hRR ⟨ha, hb⟩ dL_law_2382 (fun r9 z hp => ?_)
  obtain ⟨z1, z2⟩ := z
  show kv dd g (a + 2) (b + 12) 2385 [(0, .ref sc), (1, .ref (ad 0)), (2, .ref (adr 0)), (3, .ref (x.2.1 0)), (4, .ref (x.2.1 1)), (5, .int (nI i))] [.int r9] (jk z1 (mK, adr, mE dd adr M) z2) (jd z1 (mK, adr, mE dd adr M) z2) (jE z1 (mK, adr, mE dd adr M) z2)
  refine kv_istore (lv2 := [(6, .int r9), (0, .ref sc), (1, .ref (ad 0)), (2, .ref (adr 0)), (3, .ref (x.2.1 0)), (4, .ref (x.2.1 1)), (5, .int (nI i))]) X dL_law_2385 (by rw [hnL]; decide) rfl ?_
  refine kv_aload_n X 3 dL_law_2387 rfl rfl ?_
  refine kv_arg X hs hLL 1 (by omega) 1 6 rfl rfl (by decide) dL_law_2388 dL_law_2389 dL_law_2391 dL_law_2392 dL_law_2393 ?_
  refine kv_callfV (As := [.int (xs (i + 1))]) [] (ci := 14) (κ := 1000) (rm := ({ frames := 5, cells := 0, slots := 0, locals := 123 } : Room)) (mc := 0) (ms := 0) (r1 := (TX11, 34)) X (kCf_frR (c := z1) (r := (mK, adr, mE dd adr M)) (x := z2) (by rw [cf_id mK_lt]; exact c_X11_share l dd adr M (xs (i + 1)) nt iT nV iV cn hcn nm hnm mn hmn ((cmI (M.2.1 22) nV) (M.1 24)) (hmI (M.1 24)) ((cmI (M.2.1 23) nV) (M.1 24)) (hmR (M.1 24)) me hme hs2 (rI_val hI (M.1 24)) nL iL nW iW li hli (hlG (M.1 24)) nR iR nM iM hpk)) hl0 (kCV_of X 1 (gW gL_law_X11_share) rfl rfl rfl (by decide +kernel) hRR ⟨(Nat.le_of_ble_eq_true rfl), (Nat.le_of_ble_eq_true rfl)⟩) (j_r0.1.mpr (show 0 ∈ mK by decide)) (j_r0.2.2.trans rfl) rfl rfl rfl (Nat.le_of_ble_eq_true rfl) hRR ⟨ha, hb⟩ dL_law_2394 (fun b9 M2 hq => ?_)
  have hst := st_share (e := e) (wx := x) (f0 := f1) hI hO hR hC hT hL hW hV hM hp hq
  obtain ⟨h1, h2, h3, h4, h5⟩ := hst
  show kv dd g (a + 2) (b + 12) 2397 [(6, .int r9), (0, .ref sc), (1, .ref (ad 0)), (2, .ref (adr 0)), (3, .ref (x.2.1 0)), (4, .ref (x.2.1 1)), (5, .int (nI i))] [.float b9] (jk z1 (mK, adr, mE dd adr M2) z2) (jd z1 (mK, adr, mE dd adr M2) z2) (jE z1 (mK, adr, mE dd adr M2) z2)
  refine kv_fstore (lv2 := [(7, .float b9), (6, .int r9), (0, .ref sc), (1, .ref (ad 0)), (2, .ref (adr 0)), (3, .ref (x.2.1 0)), (4, .ref (x.2.1 1)), (5, .int (nI i))]) X dL_law_2397 (by rw [hnL]; decide) rfl ?_
  refine kv_aload_n X 4 dL_law_2399 rfl rfl ?_
  refine kv_calliV (As := []) [] (ci := 14) (κ := 1000) (rm := ({ frames := 0, cells := 0, slots := 0, locals := 0 } : Room)) (mc := 0) (ms := 0) (r1 := (TX11, 34)) X (kCi_frR (c := z1) (r := (mK, adr, mE dd adr M2)) (x := z2) (by rw [cf_id mK_lt]; exact c_X11_thrown l dd adr M2 )) hl0 (kCV_of X 0 (gW gL_law_X11_thrown) rfl rfl rfl (by decide +kernel) hRR ⟨(Nat.le_of_ble_eq_true rfl), (Nat.le_of_ble_eq_true rfl)⟩) (j_r0.1.mpr (show 0 ∈ mK by decide)) (j_r0.2.2.trans rfl) rfl rfl rfl (Nat.le_of_ble_eq_true rfl) hRR ⟨ha, hb⟩ dL_law_2400 (fun t9 M3 ht => ?_)
  obtain ⟨rfl, rfl⟩ := ht
  show kv dd g (a + 2) (b + 12) 2403 [(7, .float b9), (6, .int r9), (0, .ref sc), (1, .ref (ad 0)), (2, .ref (adr 0)), (3, .ref (x.2.1 0)), (4, .ref (x.2.1 1)), (5, .int (nI i))] [.int (M2.1 0)] (jk z1 (mK, adr, mE dd adr M2) z2) (jd z1 (mK, adr, mE dd adr M2) z2) (jE z1 (mK, adr, mE dd adr M2) z2)
  refine kv_iload X 1 dL_law_2403 rfl ?_
  refine kv_icmp_eq (tgt := 2410) X dL_law_2405 (by decide) (fun _ => ?_) (fun h => absurd h1 h)
  refine kv_iload X 1 dL_law_2410 rfl ?_
  refine kv_if_ne (tgt := 2448) X dL_law_2412 (by decide) (fun h => ?_) (fun h => ?_)
  ·
    replace h3 : z2 = x := h3 h
    subst h3
    refine kv_goto (tgt := 2529) X dL_law_2448 (by decide) ?_
    refine kv_lv [2, 3, 4, 5, 6, 7] rfl ?_
    exact K z1 _ M2 h4 hxx
  ·
    replace h2 : z2 = xD dd x f1 (FP.f2d b9) := h2 h
    subst h2
    refine kv_aload X 6 dL_law_2415 rfl ?_
    refine kv_iconst (v := 0) X dL_law_2417 (by decide) ?_
    refine kv_daload X (κ := 2001) (n := 1) (j := 0) (f := va_up f1 0 (FP.f2d b9)) (j_x1.1.mpr hx1) (j_x1.2.2.trans (va_up_self x.2.2 1 (kDb dd 1 (va_up f1 0 (FP.f2d b9))))) (by omega) (by omega) dL_law_2418 ?_
    show kv dd g (a + 2) (b + 12) 2419 [(7, .float b9), (6, .int r9), (0, .ref sc), (1, .ref (ad 0)), (2, .ref (adr 0)), (3, .ref (x.2.1 0)), (4, .ref (x.2.1 1)), (5, .int (nI i))] [.double (FP.f2d b9)] (jk z1 (mK, adr, mE dd adr M2) (xD dd x f1 (FP.f2d b9))) (jd z1 (mK, adr, mE dd adr M2) (xD dd x f1 (FP.f2d b9))) (jE z1 (mK, adr, mE dd adr M2) (xD dd x f1 (FP.f2d b9)))
    refine kv_fload X 0 dL_law_2419 rfl ?_
    refine kv_f2d X dL_law_2421 (h5 h) ?_
    refine kv_dcmp X dL_law_2422 ?_
    refine kv_if_eq (tgt := 2448) X dL_law_2423 (by decide) (fun _ => ?_) (fun h9 => absurd (fpds (h5 h)) h9)
    refine kv_goto (tgt := 2529) X dL_law_2448 (by decide) ?_
    refine kv_lv [2, 3, 4, 5, 6, 7] rfl ?_
    exact K z1 _ M2 h4 (XW_xD hxx)

set_option maxRecDepth 100000 in
set_option maxHeartbeats 4000000 in
theorem lw_factor {l : Launch} {dd : kDD} {g : kG} (X : kX dd g cL_law RL wsLaw) (hRR : kR g = room_1) (hnL : knL g = 9) (hl0 : kL g = l) {sc L i : Nat} {xs : Nat → Int32} (hs : kScr g sc L xs) (hLL : L ≤ 3584) (hi : i + 6 < L) {a b : Nat} {c x : kT} {M : mS} {xa o1 o2 : Nat} {adr : Nat → Nat} (hw : LWS dd c M xa) (hx : XW dd x o1 o2) (ha : a + 1 ≤ 603072) (hb : b + 6 ≤ 7219306) (K : ∀ (c2 x2 : kT) (M2 : mS), LWS dd c2 M2 xa → XW dd x2 o1 o2 → kv dd g (a + 1) (b + 6) 2529 [(0, .ref sc), (1, .ref xa), (2, .ref (adr 0)), (3, .ref o1), (4, .ref o2), (5, .int (nI i))] [] (jk c2 (mK, adr, mE dd adr M2) x2) (jd c2 (mK, adr, mE dd adr M2) x2) (jE c2 (mK, adr, mE dd adr M2) x2)) : kv dd g a b 2451 [(0, .ref sc), (1, .ref xa), (2, .ref (adr 0)), (3, .ref o1), (4, .ref o2), (5, .int (nI i))] [] (jk c (mK, adr, mE dd adr M) x) (jd c (mK, adr, mE dd adr M) x) (jE c (mK, adr, mE dd adr M) x) := by
  obtain ⟨ks, ad, E, e, nR, nC, nt, nL, nW, nV, nM, cn, nm, mn, me, li, rl, hks, hcf, rfl, hI, hO, hR, hC, hT, hL, hW, hV, hM⟩ := LWS_open hw
  obtain ⟨iR, iC, iT, iL, iW, iV, iM, hcn, hnm, hmn, hme, hs2, hli, hB, hpk, hmI, hmR, hmIc, hmRc, hlG⟩ := rI_all hI
  have hxx := hx
  obtain ⟨hx0, hx1, rfl, rfl, ⟨f0, hf0⟩, ⟨f1, hf1⟩⟩ := hx
  refine kv_cf ?_
  rw [hcf]
  refine kv_aload_n X 1 dL_law_2451 rfl rfl ?_
  refine kv_aload X 4 dL_law_2452 rfl ?_
  refine kv_calliSW (As := [.ref (ad 0), .ref (x.2.1 1)]) [] X (c_L_factor l dd ks ad E e (mK, adr, mE dd adr M) x hks M nR nC nt nL nW nV nM cn nm mn me li rl (M.1 24) hO hR hC hT hL hW hV hM hB (cmI (M.2.1 22) nV) (cmI (M.2.1 23) nV) hmIc hmRc hpk (rI_fx hI) f1 ⟨hx1, hf1⟩) hl0 (kCSW_of X 2 (show GoodIn wsLaw (va_wsS RL 271 yL_factor (wsL_factor ++ kHx)) from gK (pre := [Cond.methodLink RL 271 yL_factor, Cond.static yL_factor, Cond.initialized yL_factor.cls]) gL_law_L_factor) rfl rfl rfl (by decide +kernel) hRR ⟨(Nat.le_of_ble_eq_true rfl), (Nat.le_of_ble_eq_true rfl)⟩) rfl rfl (Nat.le_of_ble_eq_true rfl) hRR ⟨ha, hb⟩ dL_law_2454 (fun r9 z hp => ?_)
  obtain ⟨z1, z2⟩ := z
  show kv dd g (a + 1) (b + 6) 2457 [(0, .ref sc), (1, .ref (ad 0)), (2, .ref (adr 0)), (3, .ref (x.2.1 0)), (4, .ref (x.2.1 1)), (5, .int (nI i))] [.int r9] (jk z1 (mK, adr, mE dd adr M) z2) (jd z1 (mK, adr, mE dd adr M) z2) (jE z1 (mK, adr, mE dd adr M) z2)
  refine kv_istore (lv2 := [(6, .int r9), (0, .ref sc), (1, .ref (ad 0)), (2, .ref (adr 0)), (3, .ref (x.2.1 0)), (4, .ref (x.2.1 1)), (5, .int (nI i))]) X dL_law_2457 (by rw [hnL]; decide) rfl ?_
  refine kv_aload_n X 3 dL_law_2459 rfl rfl ?_
  refine kv_calldV (As := []) [] (ci := 14) (κ := 1000) (rm := ({ frames := 6, cells := 0, slots := 0, locals := 146 } : Room)) (mc := 0) (ms := 0) (r1 := (TX11, 34)) X (kCd_frR (c := z1) (r := (mK, adr, mE dd adr M)) (x := z2) (by rw [cf_id mK_lt]; exact c_X11_factor l dd adr M nt iT nV iV cn hcn nm hnm mn hmn ((cmI (M.2.1 22) nV) (M.1 24)) (hmI (M.1 24)) ((cmI (M.2.1 23) nV) (M.1 24)) (hmR (M.1 24)) me hme hs2 (rI_val hI (M.1 24)) nL iL nW iW li hli (hlG (M.1 24)) nR iR nM iM hpk)) hl0 (kCV_of X 0 (gW gL_law_X11_factor) rfl rfl rfl (by decide +kernel) hRR ⟨(Nat.le_of_ble_eq_true rfl), (Nat.le_of_ble_eq_true rfl)⟩) (j_r0.1.mpr (show 0 ∈ mK by decide)) (j_r0.2.2.trans rfl) rfl rfl rfl (Nat.le_of_ble_eq_true rfl) hRR ⟨ha, hb⟩ dL_law_2460 (fun b9 M2 hq => ?_)
  have hst := st_factor (e := e) (wx := x) (f0 := f1) hI hO hR hC hT hL hW hV hM hp hq
  obtain ⟨h1, h2, h3, h4, h5⟩ := hst
  show kv dd g (a + 1) (b + 6) 2463 [(6, .int r9), (0, .ref sc), (1, .ref (ad 0)), (2, .ref (adr 0)), (3, .ref (x.2.1 0)), (4, .ref (x.2.1 1)), (5, .int (nI i))] [.double b9] (jk z1 (mK, adr, mE dd adr M2) z2) (jd z1 (mK, adr, mE dd adr M2) z2) (jE z1 (mK, adr, mE dd adr M2) z2)
  refine kv_dstore (lv2 := [(7, .double b9), (6, .int r9), (0, .ref sc), (1, .ref (ad 0)), (2, .ref (adr 0)), (3, .ref (x.2.1 0)), (4, .ref (x.2.1 1)), (5, .int (nI i))]) X dL_law_2463 (by rw [hnL]; decide) rfl ?_
  refine kv_aload_n X 4 dL_law_2465 rfl rfl ?_
  refine kv_calliV (As := []) [] (ci := 14) (κ := 1000) (rm := ({ frames := 0, cells := 0, slots := 0, locals := 0 } : Room)) (mc := 0) (ms := 0) (r1 := (TX11, 34)) X (kCi_frR (c := z1) (r := (mK, adr, mE dd adr M2)) (x := z2) (by rw [cf_id mK_lt]; exact c_X11_thrown l dd adr M2 )) hl0 (kCV_of X 0 (gW gL_law_X11_thrown) rfl rfl rfl (by decide +kernel) hRR ⟨(Nat.le_of_ble_eq_true rfl), (Nat.le_of_ble_eq_true rfl)⟩) (j_r0.1.mpr (show 0 ∈ mK by decide)) (j_r0.2.2.trans rfl) rfl rfl rfl (Nat.le_of_ble_eq_true rfl) hRR ⟨ha, hb⟩ dL_law_2466 (fun t9 M3 ht => ?_)
  obtain ⟨rfl, rfl⟩ := ht
  show kv dd g (a + 1) (b + 6) 2469 [(7, .double b9), (6, .int r9), (0, .ref sc), (1, .ref (ad 0)), (2, .ref (adr 0)), (3, .ref (x.2.1 0)), (4, .ref (x.2.1 1)), (5, .int (nI i))] [.int (M2.1 0)] (jk z1 (mK, adr, mE dd adr M2) z2) (jd z1 (mK, adr, mE dd adr M2) z2) (jE z1 (mK, adr, mE dd adr M2) z2)
  refine kv_iload X 1 dL_law_2469 rfl ?_
  refine kv_icmp_eq (tgt := 2476) X dL_law_2471 (by decide) (fun _ => ?_) (fun h => absurd h1 h)
  refine kv_iload X 1 dL_law_2476 rfl ?_
  refine kv_if_ne (tgt := 2513) X dL_law_2478 (by decide) (fun h => ?_) (fun h => ?_)
  ·
    replace h3 : z2 = x := h3 h
    subst h3
    refine kv_goto (tgt := 2529) X dL_law_2513 (by decide) ?_
    refine kv_lv [2, 3, 4, 5, 6, 7] rfl ?_
    exact K z1 _ M2 h4 hxx
  ·
    replace h2 : z2 = xD dd x f1 b9 := h2 h
    subst h2
    refine kv_aload X 6 dL_law_2481 rfl ?_
    refine kv_iconst (v := 0) X dL_law_2483 (by decide) ?_
    refine kv_daload X (κ := 2001) (n := 1) (j := 0) (f := va_up f1 0 b9) (j_x1.1.mpr hx1) (j_x1.2.2.trans (va_up_self x.2.2 1 (kDb dd 1 (va_up f1 0 b9)))) (by omega) (by omega) dL_law_2484 ?_
    show kv dd g (a + 1) (b + 6) 2485 [(7, .double b9), (6, .int r9), (0, .ref sc), (1, .ref (ad 0)), (2, .ref (adr 0)), (3, .ref (x.2.1 0)), (4, .ref (x.2.1 1)), (5, .int (nI i))] [.double b9] (jk z1 (mK, adr, mE dd adr M2) (xD dd x f1 b9)) (jd z1 (mK, adr, mE dd adr M2) (xD dd x f1 b9)) (jE z1 (mK, adr, mE dd adr M2) (xD dd x f1 b9))
    refine kv_dload X 0 dL_law_2485 rfl ?_
    refine kv_dcmp X dL_law_2487 ?_
    refine kv_if_eq (tgt := 2513) X dL_law_2488 (by decide) (fun _ => ?_) (fun h9 => absurd (fpds (h5 h)) h9)
    refine kv_goto (tgt := 2529) X dL_law_2513 (by decide) ?_
    refine kv_lv [2, 3, 4, 5, 6, 7] rfl ?_
    exact K z1 _ M2 h4 (XW_xD hxx)

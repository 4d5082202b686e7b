/-! THE LAW'S CASES -/
set_option maxRecDepth 100000 in
set_option maxHeartbeats 4000000 in
theorem lw_depthOf {l : Launch} {dd : kDD} {g : kG} (X : kX dd g cL_law RL wsLaw) (hRR : kR g = room_1) (hnL : knL g = 9) (hl0 : kL g = l) {sc L i : Nat} {xs : Nat → Int32} (hs : kScr g sc L xs) (hLL : L ≤ 3584) (hi : i + 6 < L) {a b : Nat} {c x : kT} {M : mS} {xa o1 o2 : Nat} {adr : Nat → Nat} (hw : LWS dd c M xa) (hx : XW dd x o1 o2) (ha : a + 1 ≤ 603072) (hb : b + 6 ≤ 7219306) (K : ∀ (c2 x2 : kT) (M2 : mS), LWS dd c2 M2 xa → XW dd x2 o1 o2 → kv dd g (a + 1) (b + 6) 2529 [(0, .ref sc), (1, .ref xa), (2, .ref (adr 0)), (3, .ref o1), (4, .ref o2), (5, .int (nI i))] [] (jk c2 (mK, adr, mE dd adr M2) x2) (jd c2 (mK, adr, mE dd adr M2) x2) (jE c2 (mK, adr, mE dd adr M2) x2)) : kv dd g a b 856 [(0, .ref sc), (1, .ref xa), (2, .ref (adr 0)), (3, .ref o1), (4, .ref o2), (5, .int (nI i))] [] (jk c (mK, adr, mE dd adr M) x) (jd c (mK, adr, mE dd adr M) x) (jE c (mK, adr, mE dd adr M) x) := by
  obtain ⟨ks, ad, E, e, nR, nC, nt, nL, nW, nV, nM, cn, nm, mn, me, li, rl, hks, hcf, rfl, hI, hO, hR, hC, hT, hL, hW, hV, hM⟩ := LWS_open hw
  obtain ⟨iR, iC, iT, iL, iW, iV, iM, hcn, hnm, hmn, hme, hs2, hli, hB, hpk, hmI, hmR, hmIc, hmRc, hlG⟩ := rI_all hI
  have hxx := hx
  obtain ⟨hx0, hx1, rfl, rfl, ⟨f0, hf0⟩, ⟨f1, hf1⟩⟩ := hx
  refine kv_cf ?_
  rw [hcf]
  refine kv_aload_n X 1 dL_law_856 rfl rfl ?_
  refine kv_arg X hs hLL 1 (by omega) 0 5 rfl rfl (by decide) dL_law_857 dL_law_858 dL_law_860 dL_law_861 dL_law_862 ?_
  refine kv_aload_n X 3 dL_law_863 rfl rfl ?_
  refine kv_calliSW (As := [.ref (ad 0), .int (xs (i + 1)), .ref (x.2.1 0)]) [] X (c_L_depthOf l dd ks ad E e (mK, adr, mE dd adr M) x hks M nR nC nt nL nW nV nM cn nm mn me li rl (M.1 24) hO hR hC hT hL hW hV hM hB (cmI (M.2.1 22) nV) (cmI (M.2.1 23) nV) hmIc hmRc hpk (xs (i + 1)) (rI_fx hI) f0 ⟨hx0, hf0⟩) hl0 (kCSW_of X 3 (show GoodIn wsLaw (va_wsS RL 175 yL_depthOf (wsL_depthOf ++ kHx)) from gK (pre := [Cond.methodLink RL 175 yL_depthOf, Cond.static yL_depthOf, Cond.initialized yL_depthOf.cls]) gL_law_L_depthOf) rfl rfl rfl (by decide +kernel) hRR ⟨(Nat.le_of_ble_eq_true rfl), (Nat.le_of_ble_eq_true rfl)⟩) rfl rfl (Nat.le_of_ble_eq_true rfl) hRR ⟨ha, hb⟩ dL_law_864 (fun r9 z hp => ?_)
  obtain ⟨z1, z2⟩ := z
  show kv dd g (a + 1) (b + 6) 867 [(0, .ref sc), (1, .ref (ad 0)), (2, .ref (adr 0)), (3, .ref (x.2.1 0)), (4, .ref (x.2.1 1)), (5, .int (nI i))] [.int r9] (jk z1 (mK, adr, mE dd adr M) z2) (jd z1 (mK, adr, mE dd adr M) z2) (jE z1 (mK, adr, mE dd adr M) z2)
  refine kv_istore (lv2 := [(6, .int r9), (0, .ref sc), (1, .ref (ad 0)), (2, .ref (adr 0)), (3, .ref (x.2.1 0)), (4, .ref (x.2.1 1)), (5, .int (nI i))]) X dL_law_867 (by rw [hnL]; decide) rfl ?_
  refine kv_aload_n X 3 dL_law_869 rfl rfl ?_
  refine kv_arg X hs hLL 1 (by omega) 1 6 rfl rfl (by decide) dL_law_870 dL_law_871 dL_law_873 dL_law_874 dL_law_875 ?_
  refine kv_calliV (As := [.int (xs (i + 1))]) [] (ci := 14) (κ := 1000) (rm := ({ frames := 2, cells := 0, slots := 0, locals := 46 } : Room)) (mc := 0) (ms := 0) (r1 := (TX11, 34)) X (kCi_frR (c := z1) (r := (mK, adr, mE dd adr M)) (x := z2) (by rw [cf_id mK_lt]; exact c_X11_depthOf l dd adr M (xs (i + 1)) nt iT nV iV cn hcn nm hnm ((cmI (M.2.1 22) nV) (M.1 24)) (hmI (M.1 24)))) hl0 (kCV_of X 1 (gW gL_law_X11_depthOf) rfl rfl rfl (by decide +kernel) hRR ⟨(Nat.le_of_ble_eq_true rfl), (Nat.le_of_ble_eq_true rfl)⟩) (j_r0.1.mpr (show 0 ∈ mK by decide)) (j_r0.2.2.trans rfl) rfl rfl rfl (Nat.le_of_ble_eq_true rfl) hRR ⟨ha, hb⟩ dL_law_876 (fun b9 M2 hq => ?_)
  have hst := st_depthOf (e := e) (wx := x) (f0 := f0) hI hO hR hC hT hL hW hV hM hp hq
  obtain ⟨h1, h2, h3, h4⟩ := hst
  show kv dd g (a + 1) (b + 6) 879 [(6, .int r9), (0, .ref sc), (1, .ref (ad 0)), (2, .ref (adr 0)), (3, .ref (x.2.1 0)), (4, .ref (x.2.1 1)), (5, .int (nI i))] [.int b9] (jk z1 (mK, adr, mE dd adr M2) z2) (jd z1 (mK, adr, mE dd adr M2) z2) (jE z1 (mK, adr, mE dd adr M2) z2)
  refine kv_istore (lv2 := [(7, .int b9), (6, .int r9), (0, .ref sc), (1, .ref (ad 0)), (2, .ref (adr 0)), (3, .ref (x.2.1 0)), (4, .ref (x.2.1 1)), (5, .int (nI i))]) X dL_law_879 (by rw [hnL]; decide) rfl ?_
  refine kv_aload_n X 4 dL_law_881 rfl rfl ?_
  refine kv_calliV (As := []) [] (ci := 14) (κ := 1000) (rm := ({ frames := 0, cells := 0, slots := 0, locals := 0 } : Room)) (mc := 0) (ms := 0) (r1 := (TX11, 34)) X (kCi_frR (c := z1) (r := (mK, adr, mE dd adr M2)) (x := z2) (by rw [cf_id mK_lt]; exact c_X11_thrown l dd adr M2 )) hl0 (kCV_of X 0 (gW gL_law_X11_thrown) rfl rfl rfl (by decide +kernel) hRR ⟨(Nat.le_of_ble_eq_true rfl), (Nat.le_of_ble_eq_true rfl)⟩) (j_r0.1.mpr (show 0 ∈ mK by decide)) (j_r0.2.2.trans rfl) rfl rfl rfl (Nat.le_of_ble_eq_true rfl) hRR ⟨ha, hb⟩ dL_law_882 (fun t9 M3 ht => ?_)
  obtain ⟨rfl, rfl⟩ := ht
  show kv dd g (a + 1) (b + 6) 885 [(7, .int b9), (6, .int r9), (0, .ref sc), (1, .ref (ad 0)), (2, .ref (adr 0)), (3, .ref (x.2.1 0)), (4, .ref (x.2.1 1)), (5, .int (nI i))] [.int (M2.1 0)] (jk z1 (mK, adr, mE dd adr M2) z2) (jd z1 (mK, adr, mE dd adr M2) z2) (jE z1 (mK, adr, mE dd adr M2) z2)
  refine kv_iload X 1 dL_law_885 rfl ?_
  refine kv_icmp_eq (tgt := 892) X dL_law_887 (by decide) (fun _ => ?_) (fun h => absurd h1 h)
  refine kv_iload X 1 dL_law_892 rfl ?_
  refine kv_if_ne (tgt := 909) X dL_law_894 (by decide) (fun h => ?_) (fun h => ?_)
  ·
    replace h3 : z2 = x := h3 h
    subst h3
    refine kv_goto (tgt := 2529) X dL_law_909 (by decide) ?_
    refine kv_lv [2, 3, 4, 5, 6, 7] rfl ?_
    exact K z1 _ M2 h4 hxx
  ·
    replace h2 : z2 = xJ dd x f0 b9.toInt64 := h2 h
    subst h2
    refine kv_aload_n X 5 dL_law_897 rfl rfl ?_
    refine kv_iconst (v := 0) X dL_law_898 (by decide) ?_
    refine kv_laload X (κ := 2000) (n := 1) (j := 0) (f := va_up f0 0 b9.toInt64) (j_x0.1.mpr hx0) (j_x0.2.2.trans (va_up_self x.2.2 0 (kJ dd 1 (va_up f0 0 b9.toInt64)))) (by omega) (by omega) dL_law_899 ?_
    show kv dd g (a + 1) (b + 6) 900 [(7, .int b9), (6, .int r9), (0, .ref sc), (1, .ref (ad 0)), (2, .ref (adr 0)), (3, .ref (x.2.1 0)), (4, .ref (x.2.1 1)), (5, .int (nI i))] [.long b9.toInt64] (jk z1 (mK, adr, mE dd adr M2) (xJ dd x f0 b9.toInt64)) (jd z1 (mK, adr, mE dd adr M2) (xJ dd x f0 b9.toInt64)) (jE z1 (mK, adr, mE dd adr M2) (xJ dd x f0 b9.toInt64))
    refine kv_iload X 0 dL_law_900 rfl ?_
    refine kv_i2l X dL_law_902 rfl ?_
    refine kv_lcmp X dL_law_903 ?_
    refine kv_if_eq (tgt := 909) X dL_law_904 (by decide) (fun _ => ?_) (fun h9 => absurd lcs h9)
    refine kv_goto (tgt := 2529) X dL_law_909 (by decide) ?_
    refine kv_lv [2, 3, 4, 5, 6, 7] rfl ?_
    exact K z1 _ M2 h4 (XW_xJ hxx)

set_option maxRecDepth 100000 in
set_option maxHeartbeats 4000000 in
theorem lw_unitCost {l : Launch} {dd : kDD} {g : kG} (X : kX dd g cL_law RL wsLaw) (hRR : kR g = room_1) (hnL : knL g = 9) (hl0 : kL g = l) {sc L i : Nat} {xs : Nat → Int32} (hs : kScr g sc L xs) (hLL : L ≤ 3584) (hi : i + 6 < L) {a b : Nat} {c x : kT} {M : mS} {xa o1 o2 : Nat} {adr : Nat → Nat} (hw : LWS dd c M xa) (hx : XW dd x o1 o2) (ha : a + 1 ≤ 603072) (hb : b + 6 ≤ 7219306) (K : ∀ (c2 x2 : kT) (M2 : mS), LWS dd c2 M2 xa → XW dd x2 o1 o2 → kv dd g (a + 1) (b + 6) 2529 [(0, .ref sc), (1, .ref xa), (2, .ref (adr 0)), (3, .ref o1), (4, .ref o2), (5, .int (nI i))] [] (jk c2 (mK, adr, mE dd adr M2) x2) (jd c2 (mK, adr, mE dd adr M2) x2) (jE c2 (mK, adr, mE dd adr M2) x2)) : kv dd g a b 912 [(0, .ref sc), (1, .ref xa), (2, .ref (adr 0)), (3, .ref o1), (4, .ref o2), (5, .int (nI i))] [] (jk c (mK, adr, mE dd adr M) x) (jd c (mK, adr, mE dd adr M) x) (jE c (mK, adr, mE dd adr M) x) := by
  obtain ⟨ks, ad, E, e, nR, nC, nt, nL, nW, nV, nM, cn, nm, mn, me, li, rl, hks, hcf, rfl, hI, hO, hR, hC, hT, hL, hW, hV, hM⟩ := LWS_open hw
  obtain ⟨iR, iC, iT, iL, iW, iV, iM, hcn, hnm, hmn, hme, hs2, hli, hB, hpk, hmI, hmR, hmIc, hmRc, hlG⟩ := rI_all hI
  have hxx := hx
  obtain ⟨hx0, hx1, rfl, rfl, ⟨f0, hf0⟩, ⟨f1, hf1⟩⟩ := hx
  refine kv_cf ?_
  rw [hcf]
  refine kv_aload_n X 1 dL_law_912 rfl rfl ?_
  refine kv_arg X hs hLL 1 (by omega) 0 5 rfl rfl (by decide) dL_law_913 dL_law_914 dL_law_916 dL_law_917 dL_law_918 ?_
  refine kv_aload_n X 3 dL_law_919 rfl rfl ?_
  refine kv_calliSW (As := [.ref (ad 0), .int (xs (i + 1)), .ref (x.2.1 0)]) [] X (c_L_unitCost l dd ks ad E e (mK, adr, mE dd adr M) x hks M nR nC nt nL nW nV nM cn nm mn me li rl (M.1 24) hO hR hC hT hL hW hV hM hB (cmI (M.2.1 22) nV) (cmI (M.2.1 23) nV) hmIc hmRc hpk (xs (i + 1)) (rI_fx hI) f0 ⟨hx0, hf0⟩) hl0 (kCSW_of X 3 (show GoodIn wsLaw (va_wsS RL 178 yL_unitCost (wsL_unitCost ++ kHx)) from gK (pre := [Cond.methodLink RL 178 yL_unitCost, Cond.static yL_unitCost, Cond.initialized yL_unitCost.cls]) gL_law_L_unitCost) rfl rfl rfl (by decide +kernel) hRR ⟨(Nat.le_of_ble_eq_true rfl), (Nat.le_of_ble_eq_true rfl)⟩) rfl rfl (Nat.le_of_ble_eq_true rfl) hRR ⟨ha, hb⟩ dL_law_920 (fun r9 z hp => ?_)
  obtain ⟨z1, z2⟩ := z
  show kv dd g (a + 1) (b + 6) 923 [(0, .ref sc), (1, .ref (ad 0)), (2, .ref (adr 0)), (3, .ref (x.2.1 0)), (4, .ref (x.2.1 1)), (5, .int (nI i))] [.int r9] (jk z1 (mK, adr, mE dd adr M) z2) (jd z1 (mK, adr, mE dd adr M) z2) (jE z1 (mK, adr, mE dd adr M) z2)
  refine kv_istore (lv2 := [(6, .int r9), (0, .ref sc), (1, .ref (ad 0)), (2, .ref (adr 0)), (3, .ref (x.2.1 0)), (4, .ref (x.2.1 1)), (5, .int (nI i))]) X dL_law_923 (by rw [hnL]; decide) rfl ?_
  refine kv_aload_n X 3 dL_law_925 rfl rfl ?_
  refine kv_arg X hs hLL 1 (by omega) 1 6 rfl rfl (by decide) dL_law_926 dL_law_927 dL_law_929 dL_law_930 dL_law_931 ?_
  refine kv_calllV (As := [.int (xs (i + 1))]) [] (ci := 14) (κ := 1000) (rm := ({ frames := 3, cells := 0, slots := 0, locals := 74 } : Room)) (mc := 0) (ms := 0) (r1 := (TX11, 34)) X (kCl_frR (c := z1) (r := (mK, adr, mE dd adr M)) (x := z2) (by rw [cf_id mK_lt]; exact c_X11_unitCost l dd adr M (xs (i + 1)) nt iT nV iV cn hcn nm hnm mn hmn ((cmI (M.2.1 22) nV) (M.1 24)) (hmI (M.1 24)) ((cmI (M.2.1 23) nV) (M.1 24)) (hmR (M.1 24)) me hme hs2 (rI_val hI (M.1 24)))) hl0 (kCV_of X 1 (gW gL_law_X11_unitCost) rfl rfl rfl (by decide +kernel) hRR ⟨(Nat.le_of_ble_eq_true rfl), (Nat.le_of_ble_eq_true rfl)⟩) (j_r0.1.mpr (show 0 ∈ mK by decide)) (j_r0.2.2.trans rfl) rfl rfl rfl (Nat.le_of_ble_eq_true rfl) hRR ⟨ha, hb⟩ dL_law_932 (fun b9 M2 hq => ?_)
  have hst := st_unitCost (e := e) (wx := x) (f0 := f0) hI hO hR hC hT hL hW hV hM hp hq
  obtain ⟨h1, h2, h3, h4⟩ := hst
  show kv dd g (a + 1) (b + 6) 935 [(6, .int r9), (0, .ref sc), (1, .ref (ad 0)), (2, .ref (adr 0)), (3, .ref (x.2.1 0)), (4, .ref (x.2.1 1)), (5, .int (nI i))] [.long b9] (jk z1 (mK, adr, mE dd adr M2) z2) (jd z1 (mK, adr, mE dd adr M2) z2) (jE z1 (mK, adr, mE dd adr M2) z2)
  refine kv_lstore (lv2 := [(7, .long b9), (6, .int r9), (0, .ref sc), (1, .ref (ad 0)), (2, .ref (adr 0)), (3, .ref (x.2.1 0)), (4, .ref (x.2.1 1)), (5, .int (nI i))]) X dL_law_935 (by rw [hnL]; decide) rfl ?_
  refine kv_aload_n X 4 dL_law_937 rfl rfl ?_
  refine kv_calliV (As := []) [] (ci := 14) (κ := 1000) (rm := ({ frames := 0, cells := 0, slots := 0, locals := 0 } : Room)) (mc := 0) (ms := 0) (r1 := (TX11, 34)) X (kCi_frR (c := z1) (r := (mK, adr, mE dd adr M2)) (x := z2) (by rw [cf_id mK_lt]; exact c_X11_thrown l dd adr M2 )) hl0 (kCV_of X 0 (gW gL_law_X11_thrown) rfl rfl rfl (by decide +kernel) hRR ⟨(Nat.le_of_ble_eq_true rfl), (Nat.le_of_ble_eq_true rfl)⟩) (j_r0.1.mpr (show 0 ∈ mK by decide)) (j_r0.2.2.trans rfl) rfl rfl rfl (Nat.le_of_ble_eq_true rfl) hRR ⟨ha, hb⟩ dL_law_938 (fun t9 M3 ht => ?_)
  obtain ⟨rfl, rfl⟩ := ht
  show kv dd g (a + 1) (b + 6) 941 [(7, .long b9), (6, .int r9), (0, .ref sc), (1, .ref (ad 0)), (2, .ref (adr 0)), (3, .ref (x.2.1 0)), (4, .ref (x.2.1 1)), (5, .int (nI i))] [.int (M2.1 0)] (jk z1 (mK, adr, mE dd adr M2) z2) (jd z1 (mK, adr, mE dd adr M2) z2) (jE z1 (mK, adr, mE dd adr M2) z2)
  refine kv_iload X 1 dL_law_941 rfl ?_
  refine kv_icmp_eq (tgt := 948) X dL_law_943 (by decide) (fun _ => ?_) (fun h => absurd h1 h)
  refine kv_iload X 1 dL_law_948 rfl ?_
  refine kv_if_ne (tgt := 964) X dL_law_950 (by decide) (fun h => ?_) (fun h => ?_)
  ·
    replace h3 : z2 = x := h3 h
    subst h3
    refine kv_goto (tgt := 2529) X dL_law_964 (by decide) ?_
    refine kv_lv [2, 3, 4, 5, 6, 7] rfl ?_
    exact K z1 _ M2 h4 hxx
  ·
    replace h2 : z2 = xJ dd x f0 b9 := h2 h
    subst h2
    refine kv_aload_n X 5 dL_law_953 rfl rfl ?_
    refine kv_iconst (v := 0) X dL_law_954 (by decide) ?_
    refine kv_laload X (κ := 2000) (n := 1) (j := 0) (f := va_up f0 0 b9) (j_x0.1.mpr hx0) (j_x0.2.2.trans (va_up_self x.2.2 0 (kJ dd 1 (va_up f0 0 b9)))) (by omega) (by omega) dL_law_955 ?_
    show kv dd g (a + 1) (b + 6) 956 [(7, .long b9), (6, .int r9), (0, .ref sc), (1, .ref (ad 0)), (2, .ref (adr 0)), (3, .ref (x.2.1 0)), (4, .ref (x.2.1 1)), (5, .int (nI i))] [.long b9] (jk z1 (mK, adr, mE dd adr M2) (xJ dd x f0 b9)) (jd z1 (mK, adr, mE dd adr M2) (xJ dd x f0 b9)) (jE z1 (mK, adr, mE dd adr M2) (xJ dd x f0 b9))
    refine kv_lload X 0 dL_law_956 rfl ?_
    refine kv_lcmp X dL_law_958 ?_
    refine kv_if_eq (tgt := 964) X dL_law_959 (by decide) (fun _ => ?_) (fun h9 => absurd lcs h9)
    refine kv_goto (tgt := 2529) X dL_law_964 (by decide) ?_
    refine kv_lv [2, 3, 4, 5, 6, 7] rfl ?_
    exact K z1 _ M2 h4 (XW_xJ hxx)

set_option maxRecDepth 100000 in
set_option maxHeartbeats 4000000 in
theorem lw_needed {l : Launch} {dd : kDD} {g : kG} (X : kX dd g cL_law RL wsLaw) (hRR : kR g = room_1) (hnL : knL g = 9) (hl0 : kL g = l) {sc L i : Nat} {xs : Nat → Int32} (hs : kScr g sc L xs) (hLL : L ≤ 3584) (hi : i + 6 < L) {a b : Nat} {c x : kT} {M : mS} {xa o1 o2 : Nat} {adr : Nat → Nat} (hw : LWS dd c M xa) (hx : XW dd x o1 o2) (ha : a + 2 ≤ 603072) (hb : b + 12 ≤ 7219306) (K : ∀ (c2 x2 : kT) (M2 : mS), LWS dd c2 M2 xa → XW dd x2 o1 o2 → kv dd g (a + 2) (b + 12) 2529 [(0, .ref sc), (1, .ref xa), (2, .ref (adr 0)), (3, .ref o1), (4, .ref o2), (5, .int (nI i))] [] (jk c2 (mK, adr, mE dd adr M2) x2) (jd c2 (mK, adr, mE dd adr M2) x2) (jE c2 (mK, adr, mE dd adr M2) x2)) : kv dd g a b 967 [(0, .ref sc), (1, .ref xa), (2, .ref (adr 0)), (3, .ref o1), (4, .ref o2), (5, .int (nI i))] [] (jk c (mK, adr, mE dd adr M) x) (jd c (mK, adr, mE dd adr M) x) (jE c (mK, adr, mE dd adr M) x) := by
  obtain ⟨ks, ad, E, e, nR, nC, nt, nL, nW, nV, nM, cn, nm, mn, me, li, rl, hks, hcf, rfl, hI, hO, hR, hC, hT, hL, hW, hV, hM⟩ := LWS_open hw
  obtain ⟨iR, iC, iT, iL, iW, iV, iM, hcn, hnm, hmn, hme, hs2, hli, hB, hpk, hmI, hmR, hmIc, hmRc, hlG⟩ := rI_all hI
  have hxx := hx
  obtain ⟨hx0, hx1, rfl, rfl, ⟨f0, hf0⟩, ⟨f1, hf1⟩⟩ := hx
  refine kv_cf ?_
  rw [hcf]
  refine kv_aload_n X 1 dL_law_967 rfl rfl ?_
  refine kv_arg X hs hLL 1 (by omega) 0 5 rfl rfl (by decide) dL_law_968 dL_law_969 dL_law_971 dL_law_972 dL_law_973 ?_
  refine kv_arg X hs hLL 2 (by omega) 0 5 rfl rfl (by decide) dL_law_974 dL_law_975 dL_law_977 dL_law_978 dL_law_979 ?_
  refine kv_aload_n X 3 dL_law_980 rfl rfl ?_
  refine kv_calliSW (As := [.ref (ad 0), .int (xs (i + 1)), .int (xs (i + 2)), .ref (x.2.1 0)]) [] X (c_L_needed l dd ks ad E e (mK, adr, mE dd adr M) x hks M nR nC nt nL nW nV nM cn nm mn me li rl (M.1 24) hO hR hC hT hL hW hV hM hB (cmI (M.2.1 22) nV) (cmI (M.2.1 23) nV) hmIc hmRc hpk (xs (i + 1)) (xs (i + 2)) (rI_fx hI) f0 ⟨hx0, hf0⟩) hl0 (kCSW_of X 4 (show GoodIn wsLaw (va_wsS RL 181 yL_needed (wsL_needed ++ kHx)) from gK (pre := [Cond.methodLink RL 181 yL_needed, Cond.static yL_needed, Cond.initialized yL_needed.cls]) gL_law_L_needed) rfl rfl rfl (by decide +kernel) hRR ⟨(Nat.le_of_ble_eq_true rfl), (Nat.le_of_ble_eq_true rfl)⟩) rfl rfl (Nat.le_of_ble_eq_true rfl) hRR ⟨ha, hb⟩ dL_law_981 (fun r9 z hp => ?_)
  obtain ⟨z1, z2⟩ := z
  show kv dd g (a + 2) (b + 12) 984 [(0, .ref sc), (1, .ref (ad 0)), (2, .ref (adr 0)), (3, .ref (x.2.1 0)), (4, .ref (x.2.1 1)), (5, .int (nI i))] [.int r9] (jk z1 (mK, adr, mE dd adr M) z2) (jd z1 (mK, adr, mE dd adr M) z2) (jE z1 (mK, adr, mE dd adr M) z2)
  refine kv_istore (lv2 := [(6, .int r9), (0, .ref sc), (1, .ref (ad 0)), (2, .ref (adr 0)), (3, .ref (x.2.1 0)), (4, .ref (x.2.1 1)), (5, .int (nI i))]) X dL_law_984 (by rw [hnL]; decide) rfl ?_
  refine kv_aload_n X 3 dL_law_986 rfl rfl ?_
  refine kv_arg X hs hLL 1 (by omega) 1 6 rfl rfl (by decide) dL_law_987 dL_law_988 dL_law_990 dL_law_991 dL_law_992 ?_
  refine kv_arg X hs hLL 2 (by omega) 1 6 rfl rfl (by decide) dL_law_993 dL_law_994 dL_law_996 dL_law_997 dL_law_998 ?_
  refine kv_calllV (As := [.int (xs (i + 1)), .int (xs (i + 2))]) [] (ci := 14) (κ := 1000) (rm := ({ frames := 3, cells := 0, slots := 0, locals := 74 } : Room)) (mc := 0) (ms := 0) (r1 := (TX11, 34)) X (kCl_frR (c := z1) (r := (mK, adr, mE dd adr M)) (x := z2) (by rw [cf_id mK_lt]; exact c_X11_needed l dd adr M (xs (i + 1)) (xs (i + 2)) nt iT nV iV cn hcn nm hnm mn hmn ((cmI (M.2.1 22) nV) (M.1 24)) (hmI (M.1 24)) ((cmI (M.2.1 23) nV) (M.1 24)) (hmR (M.1 24)) me hme hs2 (rI_val hI (M.1 24)) nR iR)) hl0 (kCV_of X 2 (gW gL_law_X11_needed) rfl rfl rfl (by decide +kernel) hRR ⟨(Nat.le_of_ble_eq_true rfl), (Nat.le_of_ble_eq_true rfl)⟩) (j_r0.1.mpr (show 0 ∈ mK by decide)) (j_r0.2.2.trans rfl) rfl rfl rfl (Nat.le_of_ble_eq_true rfl) hRR ⟨ha, hb⟩ dL_law_999 (fun b9 M2 hq => ?_)
  have hst := st_needed (e := e) (wx := x) (f0 := f0) hI hO hR hC hT hL hW hV hM hp hq
  obtain ⟨h1, h2, h3, h4⟩ := hst
  show kv dd g (a + 2) (b + 12) 1002 [(6, .int r9), (0, .ref sc), (1, .ref (ad 0)), (2, .ref (adr 0)), (3, .ref (x.2.1 0)), (4, .ref (x.2.1 1)), (5, .int (nI i))] [.long b9] (jk z1 (mK, adr, mE dd adr M2) z2) (jd z1 (mK, adr, mE dd adr M2) z2) (jE z1 (mK, adr, mE dd adr M2) z2)
  refine kv_lstore (lv2 := [(7, .long b9), (6, .int r9), (0, .ref sc), (1, .ref (ad 0)), (2, .ref (adr 0)), (3, .ref (x.2.1 0)), (4, .ref (x.2.1 1)), (5, .int (nI i))]) X dL_law_1002 (by rw [hnL]; decide) rfl ?_
  refine kv_aload_n X 4 dL_law_1004 rfl rfl ?_
  refine kv_calliV (As := []) [] (ci := 14) (κ := 1000) (rm := ({ frames := 0, cells := 0, slots := 0, locals := 0 } : Room)) (mc := 0) (ms := 0) (r1 := (TX11, 34)) X (kCi_frR (c := z1) (r := (mK, adr, mE dd adr M2)) (x := z2) (by rw [cf_id mK_lt]; exact c_X11_thrown l dd adr M2 )) hl0 (kCV_of X 0 (gW gL_law_X11_thrown) rfl rfl rfl (by decide +kernel) hRR ⟨(Nat.le_of_ble_eq_true rfl), (Nat.le_of_ble_eq_true rfl)⟩) (j_r0.1.mpr (show 0 ∈ mK by decide)) (j_r0.2.2.trans rfl) rfl rfl rfl (Nat.le_of_ble_eq_true rfl) hRR ⟨ha, hb⟩ dL_law_1005 (fun t9 M3 ht => ?_)
  obtain ⟨rfl, rfl⟩ := ht
  show kv dd g (a + 2) (b + 12) 1008 [(7, .long b9), (6, .int r9), (0, .ref sc), (1, .ref (ad 0)), (2, .ref (adr 0)), (3, .ref (x.2.1 0)), (4, .ref (x.2.1 1)), (5, .int (nI i))] [.int (M2.1 0)] (jk z1 (mK, adr, mE dd adr M2) z2) (jd z1 (mK, adr, mE dd adr M2) z2) (jE z1 (mK, adr, mE dd adr M2) z2)
  refine kv_iload X 1 dL_law_1008 rfl ?_
  refine kv_icmp_eq (tgt := 1015) X dL_law_1010 (by decide) (fun _ => ?_) (fun h => absurd h1 h)
  refine kv_iload X 1 dL_law_1015 rfl ?_
  refine kv_if_ne (tgt := 1031) X dL_law_1017 (by decide) (fun h => ?_) (fun h => ?_)
  ·
    replace h3 : z2 = x := h3 h
    subst h3
    refine kv_goto (tgt := 2529) X dL_law_1031 (by decide) ?_
    refine kv_lv [2, 3, 4, 5, 6, 7] rfl ?_
    exact K z1 _ M2 h4 hxx
  ·
    replace h2 : z2 = xJ dd x f0 b9 := h2 h
    subst h2
    refine kv_aload_n X 5 dL_law_1020 rfl rfl ?_
    refine kv_iconst (v := 0) X dL_law_1021 (by decide) ?_
    refine kv_laload X (κ := 2000) (n := 1) (j := 0) (f := va_up f0 0 b9) (j_x0.1.mpr hx0) (j_x0.2.2.trans (va_up_self x.2.2 0 (kJ dd 1 (va_up f0 0 b9)))) (by omega) (by omega) dL_law_1022 ?_
    show kv dd g (a + 2) (b + 12) 1023 [(7, .long b9), (6, .int r9), (0, .ref sc), (1, .ref (ad 0)), (2, .ref (adr 0)), (3, .ref (x.2.1 0)), (4, .ref (x.2.1 1)), (5, .int (nI i))] [.long b9] (jk z1 (mK, adr, mE dd adr M2) (xJ dd x f0 b9)) (jd z1 (mK, adr, mE dd adr M2) (xJ dd x f0 b9)) (jE z1 (mK, adr, mE dd adr M2) (xJ dd x f0 b9))
    refine kv_lload X 0 dL_law_1023 rfl ?_
    refine kv_lcmp X dL_law_1025 ?_
    refine kv_if_eq (tgt := 1031) X dL_law_1026 (by decide) (fun _ => ?_) (fun h9 => absurd lcs h9)
    refine kv_goto (tgt := 2529) X dL_law_1031 (by decide) ?_
    refine kv_lv [2, 3, 4, 5, 6, 7] rfl ?_
    exact K z1 _ M2 h4 (XW_xJ hxx)

set_option maxRecDepth 100000 in
set_option maxHeartbeats 4000000 in
theorem lw_addLine {l : Launch} {dd : kDD} {g : kG} (X : kX dd g cL_law RL wsLaw) (hRR : kR g = room_1) (hnL : knL g = 9) (hl0 : kL g = l) {sc L i : Nat} {xs : Nat → Int32} (hs : kScr g sc L xs) (hLL : L ≤ 3584) (hi : i + 6 < L) {a b : Nat} {c x : kT} {M : mS} {xa o1 o2 : Nat} {adr : Nat → Nat} (hw : LWS dd c M xa) (hx : XW dd x o1 o2) (ha : a + 8 ≤ 603072) (hb : b + 140 ≤ 7219306) (K : ∀ (c2 x2 : kT) (M2 : mS), LWS dd c2 M2 xa → XW dd x2 o1 o2 → kv dd g (a + 8) (b + 140) 2529 [(0, .ref sc), (1, .ref xa), (2, .ref (adr 0)), (3, .ref o1), (4, .ref o2), (5, .int (nI i))] [] (jk c2 (mK, adr, mE dd adr M2) x2) (jd c2 (mK, adr, mE dd adr M2) x2) (jE c2 (mK, adr, mE dd adr M2) x2)) : kv dd g a b 1034 [(0, .ref sc), (1, .ref xa), (2, .ref (adr 0)), (3, .ref o1), (4, .ref o2), (5, .int (nI i))] [] (jk c (mK, adr, mE dd adr M) x) (jd c (mK, adr, mE dd adr M) x) (jE c (mK, adr, mE dd adr M) x) := by
  obtain ⟨ks, ad, E, e, nR, nC, nt, nL, nW, nV, nM, cn, nm, mn, me, li, rl, hks, hcf, rfl, hI, hO, hR, hC, hT, hL, hW, hV, hM⟩ := LWS_open hw
  obtain ⟨iR, iC, iT, iL, iW, iV, iM, hcn, hnm, hmn, hme, hs2, hli, hB, hpk, hmI, hmR, hmIc, hmRc, hlG⟩ := rI_all hI
  have hxx := hx
  obtain ⟨hx0, hx1, rfl, rfl, ⟨f0, hf0⟩, ⟨f1, hf1⟩⟩ := hx
  refine kv_cf ?_
  rw [hcf]
  refine kv_aload_n X 1 dL_law_1034 rfl rfl ?_
  refine kv_arg X hs hLL 1 (by omega) 0 5 rfl rfl (by decide) dL_law_1035 dL_law_1036 dL_law_1038 dL_law_1039 dL_law_1040 ?_
  refine kv_aload_n X 3 dL_law_1041 rfl rfl ?_
  refine kv_calliSW (As := [.ref (ad 0), .int (xs (i + 1)), .ref (x.2.1 0)]) [] X (c_L_addLine l dd ks ad E e (mK, adr, mE dd adr M) x hks M nR nC nt nL nW nV nM cn nm mn me li rl (M.1 24) hO hR hC hT hL hW hV hM hB (cmI (M.2.1 22) nV) (cmI (M.2.1 23) nV) hmIc hmRc hpk (xs (i + 1)) f0 ⟨hx0, hf0⟩) hl0 (kCSW_of X 3 (show GoodIn wsLaw (va_wsS RL 184 yL_addLine (wsL_addLine ++ kHx)) from gK (pre := [Cond.methodLink RL 184 yL_addLine, Cond.static yL_addLine, Cond.initialized yL_addLine.cls]) gL_law_L_addLine) rfl rfl rfl (by decide +kernel) hRR ⟨(Nat.le_of_ble_eq_true rfl), (Nat.le_of_ble_eq_true rfl)⟩) rfl rfl (Nat.le_of_ble_eq_true rfl) hRR ⟨ha, hb⟩ dL_law_1042 (fun r9 z hp => ?_)
  obtain ⟨z1, z2⟩ := z
  show kv dd g (a + 8) (b + 140) 1045 [(0, .ref sc), (1, .ref (ad 0)), (2, .ref (adr 0)), (3, .ref (x.2.1 0)), (4, .ref (x.2.1 1)), (5, .int (nI i))] [.int r9] (jk z1 (mK, adr, mE dd adr M) z2) (jd z1 (mK, adr, mE dd adr M) z2) (jE z1 (mK, adr, mE dd adr M) z2)
  refine kv_istore (lv2 := [(6, .int r9), (0, .ref sc), (1, .ref (ad 0)), (2, .ref (adr 0)), (3, .ref (x.2.1 0)), (4, .ref (x.2.1 1)), (5, .int (nI i))]) X dL_law_1045 (by rw [hnL]; decide) rfl ?_
  refine kv_aload_n X 3 dL_law_1047 rfl rfl ?_
  refine kv_arg X hs hLL 1 (by omega) 1 6 rfl rfl (by decide) dL_law_1048 dL_law_1049 dL_law_1051 dL_law_1052 dL_law_1053 ?_
  refine kv_calliV (As := [.int (xs (i + 1))]) [] (ci := 14) (κ := 1000) (rm := ({ frames := 2, cells := 0, slots := 0, locals := 43 } : Room)) (mc := 0) (ms := 0) (r1 := (TX11, 34)) X (kCi_frR (c := z1) (r := (mK, adr, mE dd adr M)) (x := z2) (by rw [cf_id mK_lt]; exact c_X11_addLine l dd adr M (xs (i + 1)) nt iT nL iL)) hl0 (kCV_of X 1 (gW gL_law_X11_addLine) rfl rfl rfl (by decide +kernel) hRR ⟨(Nat.le_of_ble_eq_true rfl), (Nat.le_of_ble_eq_true rfl)⟩) (j_r0.1.mpr (show 0 ∈ mK by decide)) (j_r0.2.2.trans rfl) rfl rfl rfl (Nat.le_of_ble_eq_true rfl) hRR ⟨ha, hb⟩ dL_law_1054 (fun b9 M2 hq => ?_)
  have hst := st_addLine (e := e) (wx := x) (f0 := f0) hI hO hR hC hT hL hW hV hM hp hq
  obtain ⟨h1, h2, h3, h4⟩ := hst
  show kv dd g (a + 8) (b + 140) 1057 [(6, .int r9), (0, .ref sc), (1, .ref (ad 0)), (2, .ref (adr 0)), (3, .ref (x.2.1 0)), (4, .ref (x.2.1 1)), (5, .int (nI i))] [.int b9] (jk z1 (mK, adr, mE dd adr M2) z2) (jd z1 (mK, adr, mE dd adr M2) z2) (jE z1 (mK, adr, mE dd adr M2) z2)
  refine kv_istore (lv2 := [(7, .int b9), (6, .int r9), (0, .ref sc), (1, .ref (ad 0)), (2, .ref (adr 0)), (3, .ref (x.2.1 0)), (4, .ref (x.2.1 1)), (5, .int (nI i))]) X dL_law_1057 (by rw [hnL]; decide) rfl ?_
  refine kv_aload_n X 4 dL_law_1059 rfl rfl ?_
  refine kv_calliV (As := []) [] (ci := 14) (κ := 1000) (rm := ({ frames := 0, cells := 0, slots := 0, locals := 0 } : Room)) (mc := 0) (ms := 0) (r1 := (TX11, 34)) X (kCi_frR (c := z1) (r := (mK, adr, mE dd adr M2)) (x := z2) (by rw [cf_id mK_lt]; exact c_X11_thrown l dd adr M2 )) hl0 (kCV_of X 0 (gW gL_law_X11_thrown) rfl rfl rfl (by decide +kernel) hRR ⟨(Nat.le_of_ble_eq_true rfl), (Nat.le_of_ble_eq_true rfl)⟩) (j_r0.1.mpr (show 0 ∈ mK by decide)) (j_r0.2.2.trans rfl) rfl rfl rfl (Nat.le_of_ble_eq_true rfl) hRR ⟨ha, hb⟩ dL_law_1060 (fun t9 M3 ht => ?_)
  obtain ⟨rfl, rfl⟩ := ht
  show kv dd g (a + 8) (b + 140) 1063 [(7, .int b9), (6, .int r9), (0, .ref sc), (1, .ref (ad 0)), (2, .ref (adr 0)), (3, .ref (x.2.1 0)), (4, .ref (x.2.1 1)), (5, .int (nI i))] [.int (M2.1 0)] (jk z1 (mK, adr, mE dd adr M2) z2) (jd z1 (mK, adr, mE dd adr M2) z2) (jE z1 (mK, adr, mE dd adr M2) z2)
  refine kv_iload X 1 dL_law_1063 rfl ?_
  refine kv_icmp_eq (tgt := 1070) X dL_law_1065 (by decide) (fun _ => ?_) (fun h => absurd h1 h)
  refine kv_iload X 1 dL_law_1070 rfl ?_
  refine kv_if_ne (tgt := 1087) X dL_law_1072 (by decide) (fun h => ?_) (fun h => ?_)
  ·
    replace h3 : z2 = x := h3 h
    subst h3
    refine kv_goto (tgt := 2529) X dL_law_1087 (by decide) ?_
    refine kv_lv [2, 3, 4, 5, 6, 7] rfl ?_
    exact K z1 _ M2 h4 hxx
  ·
    replace h2 : z2 = xJ dd x f0 b9.toInt64 := h2 h
    subst h2
    refine kv_aload_n X 5 dL_law_1075 rfl rfl ?_
    refine kv_iconst (v := 0) X dL_law_1076 (by decide) ?_
    refine kv_laload X (κ := 2000) (n := 1) (j := 0) (f := va_up f0 0 b9.toInt64) (j_x0.1.mpr hx0) (j_x0.2.2.trans (va_up_self x.2.2 0 (kJ dd 1 (va_up f0 0 b9.toInt64)))) (by omega) (by omega) dL_law_1077 ?_
    show kv dd g (a + 8) (b + 140) 1078 [(7, .int b9), (6, .int r9), (0, .ref sc), (1, .ref (ad 0)), (2, .ref (adr 0)), (3, .ref (x.2.1 0)), (4, .ref (x.2.1 1)), (5, .int (nI i))] [.long b9.toInt64] (jk z1 (mK, adr, mE dd adr M2) (xJ dd x f0 b9.toInt64)) (jd z1 (mK, adr, mE dd adr M2) (xJ dd x f0 b9.toInt64)) (jE z1 (mK, adr, mE dd adr M2) (xJ dd x f0 b9.toInt64))
    refine kv_iload X 0 dL_law_1078 rfl ?_
    refine kv_i2l X dL_law_1080 rfl ?_
    refine kv_lcmp X dL_law_1081 ?_
    refine kv_if_eq (tgt := 1087) X dL_law_1082 (by decide) (fun _ => ?_) (fun h9 => absurd lcs h9)
    refine kv_goto (tgt := 2529) X dL_law_1087 (by decide) ?_
    refine kv_lv [2, 3, 4, 5, 6, 7] rfl ?_
    exact K z1 _ M2 h4 (XW_xJ hxx)

set_option maxRecDepth 100000 in
set_option maxHeartbeats 4000000 in
theorem lw_addRow {l : Launch} {dd : kDD} {g : kG} (X : kX dd g cL_law RL wsLaw) (hRR : kR g = room_1) (hnL : knL g = 9) (hl0 : kL g = l) {sc L i : Nat} {xs : Nat → Int32} (hs : kScr g sc L xs) (hLL : L ≤ 3584) (hi : i + 6 < L) {a b : Nat} {c x : kT} {M : mS} {xa o1 o2 : Nat} {adr : Nat → Nat} (hw : LWS dd c M xa) (hx : XW dd x o1 o2) (ha : a + 12 ≤ 603072) (hb : b + 170 ≤ 7219306) (K : ∀ (c2 x2 : kT) (M2 : mS), LWS dd c2 M2 xa → XW dd x2 o1 o2 → kv dd g (a + 12) (b + 170) 2529 [(0, .ref sc), (1, .ref xa), (2, .ref (adr 0)), (3, .ref o1), (4, .ref o2), (5, .int (nI i))] [] (jk c2 (mK, adr, mE dd adr M2) x2) (jd c2 (mK, adr, mE dd adr M2) x2) (jE c2 (mK, adr, mE dd adr M2) x2)) : kv dd g a b 1090 [(0, .ref sc), (1, .ref xa), (2, .ref (adr 0)), (3, .ref o1), (4, .ref o2), (5, .int (nI i))] [] (jk c (mK, adr, mE dd adr M) x) (jd c (mK, adr, mE dd adr M) x) (jE c (mK, adr, mE dd adr M) x) := by
  obtain ⟨ks, ad, E, e, nR, nC, nt, nL, nW, nV, nM, cn, nm, mn, me, li, rl, hks, hcf, rfl, hI, hO, hR, hC, hT, hL, hW, hV, hM⟩ := LWS_open hw
  obtain ⟨iR, iC, iT, iL, iW, iV, iM, hcn, hnm, hmn, hme, hs2, hli, hB, hpk, hmI, hmR, hmIc, hmRc, hlG⟩ := rI_all hI
  have hxx := hx
  obtain ⟨hx0, hx1, rfl, rfl, ⟨f0, hf0⟩, ⟨f1, hf1⟩⟩ := hx
  refine kv_cf ?_
  rw [hcf]
  refine kv_aload_n X 1 dL_law_1090 rfl rfl ?_
  refine kv_arg X hs hLL 1 (by omega) 0 5 rfl rfl (by decide) dL_law_1091 dL_law_1092 dL_law_1094 dL_law_1095 dL_law_1096 ?_
  refine kv_arg X hs hLL 2 (by omega) 0 5 rfl rfl (by decide) dL_law_1097 dL_law_1098 dL_law_1100 dL_law_1101 dL_law_1102 ?_
  refine kv_i2c X dL_law_1103 rfl ?_
  refine kv_arg X hs hLL 3 (by omega) 0 5 rfl rfl (by decide) dL_law_1104 dL_law_1105 dL_law_1107 dL_law_1108 dL_law_1109 ?_
  refine kv_arg X hs hLL 4 (by omega) 0 5 rfl rfl (by decide) dL_law_1110 dL_law_1111 dL_law_1113 dL_law_1114 dL_law_1115 ?_
  refine kv_arg X hs hLL 5 (by omega) 0 5 rfl rfl (by decide) dL_law_1116 dL_law_1117 dL_law_1119 dL_law_1120 dL_law_1121 ?_
  refine kv_argb X hs hLL 6 (by omega) 0 5 rfl rfl (by decide) dL_law_1122 dL_law_1123 dL_law_1125 dL_law_1127 dL_law_1128 ?_
  refine kv_aload_n X 3 dL_law_1129 rfl rfl ?_
  refine kv_calliSW (As := [.ref (ad 0), .int (xs (i + 1)), .int (((xs (i + 2)).toUInt32 % 65536).toInt32), .int (xs (i + 3)), .int (xs (i + 4)), .int (xs (i + 5)), .int (xs (i + 6)), .ref (x.2.1 0)]) [] X (c_L_addRow l dd ks ad E e (mK, adr, mE dd adr M) x hks M nR nC nt nL nW nV nM cn nm mn me li rl (M.1 24) hO hR hC hT hL hW hV hM hB (cmI (M.2.1 22) nV) (cmI (M.2.1 23) nV) hmIc hmRc hpk (xs (i + 1)) (((xs (i + 2)).toUInt32 % 65536).toInt32) (xs (i + 3)) (xs (i + 4)) (xs (i + 5)) (xs (i + 6)) f0 ⟨hx0, hf0⟩) hl0 (kCSW_of X 8 (show GoodIn wsLaw (va_wsS RL 187 yL_addRow (wsL_addRow ++ kHx)) from gK (pre := [Cond.methodLink RL 187 yL_addRow, Cond.static yL_addRow, Cond.initialized yL_addRow.cls]) gL_law_L_addRow) rfl rfl rfl (by decide +kernel) hRR ⟨(Nat.le_of_ble_eq_true rfl), (Nat.le_of_ble_eq_true rfl)⟩) rfl rfl (Nat.le_of_ble_eq_true rfl) hRR ⟨ha, hb⟩ dL_law_1130 (fun r9 z hp => ?_)
  obtain ⟨z1, z2⟩ := z
  show kv dd g (a + 12) (b + 170) 1133 [(0, .ref sc), (1, .ref (ad 0)), (2, .ref (adr 0)), (3, .ref (x.2.1 0)), (4, .ref (x.2.1 1)), (5, .int (nI i))] [.int r9] (jk z1 (mK, adr, mE dd adr M) z2) (jd z1 (mK, adr, mE dd adr M) z2) (jE z1 (mK, adr, mE dd adr M) z2)
  refine kv_istore (lv2 := [(6, .int r9), (0, .ref sc), (1, .ref (ad 0)), (2, .ref (adr 0)), (3, .ref (x.2.1 0)), (4, .ref (x.2.1 1)), (5, .int (nI i))]) X dL_law_1133 (by rw [hnL]; decide) rfl ?_
  refine kv_aload_n X 3 dL_law_1135 rfl rfl ?_
  refine kv_arg X hs hLL 1 (by omega) 1 6 rfl rfl (by decide) dL_law_1136 dL_law_1137 dL_law_1139 dL_law_1140 dL_law_1141 ?_
  refine kv_arg X hs hLL 2 (by omega) 1 6 rfl rfl (by decide) dL_law_1142 dL_law_1143 dL_law_1145 dL_law_1146 dL_law_1147 ?_
  refine kv_i2c X dL_law_1148 rfl ?_
  refine kv_arg X hs hLL 3 (by omega) 1 6 rfl rfl (by decide) dL_law_1149 dL_law_1150 dL_law_1152 dL_law_1153 dL_law_1154 ?_
  refine kv_arg X hs hLL 4 (by omega) 1 6 rfl rfl (by decide) dL_law_1155 dL_law_1156 dL_law_1158 dL_law_1159 dL_law_1160 ?_
  refine kv_arg X hs hLL 5 (by omega) 1 6 rfl rfl (by decide) dL_law_1161 dL_law_1162 dL_law_1164 dL_law_1165 dL_law_1166 ?_
  refine kv_argb X hs hLL 6 (by omega) 1 6 rfl rfl (by decide) dL_law_1167 dL_law_1168 dL_law_1170 dL_law_1172 dL_law_1173 ?_
  refine kv_calliV (As := [.int (xs (i + 1)), .int (((xs (i + 2)).toUInt32 % 65536).toInt32), .int (xs (i + 3)), .int (xs (i + 4)), .int (xs (i + 5)), .int (xs (i + 6))]) [] (ci := 14) (κ := 1000) (rm := ({ frames := 2, cells := 0, slots := 0, locals := 43 } : Room)) (mc := 0) (ms := 0) (r1 := (TX11, 34)) X (kCi_frR (c := z1) (r := (mK, adr, mE dd adr M)) (x := z2) (by rw [cf_id mK_lt]; exact c_X11_addRow l dd adr M (xs (i + 1)) (((xs (i + 2)).toUInt32 % 65536).toInt32) (xs (i + 3)) (xs (i + 4)) (xs (i + 5)) (xs (i + 6)) nL iL nW iW)) hl0 (kCV_of X 6 (gW gL_law_X11_addRow) rfl rfl rfl (by decide +kernel) hRR ⟨(Nat.le_of_ble_eq_true rfl), (Nat.le_of_ble_eq_true rfl)⟩) (j_r0.1.mpr (show 0 ∈ mK by decide)) (j_r0.2.2.trans rfl) rfl rfl rfl (Nat.le_of_ble_eq_true rfl) hRR ⟨ha, hb⟩ dL_law_1174 (fun b9 M2 hq => ?_)
  have hst := st_addRow (e := e) (wx := x) (f0 := f0) hI hO hR hC hT hL hW hV hM hp hq
  obtain ⟨h1, h2, h3, h4⟩ := hst
  show kv dd g (a + 12) (b + 170) 1177 [(6, .int r9), (0, .ref sc), (1, .ref (ad 0)), (2, .ref (adr 0)), (3, .ref (x.2.1 0)), (4, .ref (x.2.1 1)), (5, .int (nI i))] [.int b9] (jk z1 (mK, adr, mE dd adr M2) z2) (jd z1 (mK, adr, mE dd adr M2) z2) (jE z1 (mK, adr, mE dd adr M2) z2)
  refine kv_istore (lv2 := [(7, .int b9), (6, .int r9), (0, .ref sc), (1, .ref (ad 0)), (2, .ref (adr 0)), (3, .ref (x.2.1 0)), (4, .ref (x.2.1 1)), (5, .int (nI i))]) X dL_law_1177 (by rw [hnL]; decide) rfl ?_
  refine kv_aload_n X 4 dL_law_1179 rfl rfl ?_
  refine kv_calliV (As := []) [] (ci := 14) (κ := 1000) (rm := ({ frames := 0, cells := 0, slots := 0, locals := 0 } : Room)) (mc := 0) (ms := 0) (r1 := (TX11, 34)) X (kCi_frR (c := z1) (r := (mK, adr, mE dd adr M2)) (x := z2) (by rw [cf_id mK_lt]; exact c_X11_thrown l dd adr M2 )) hl0 (kCV_of X 0 (gW gL_law_X11_thrown) rfl rfl rfl (by decide +kernel) hRR ⟨(Nat.le_of_ble_eq_true rfl), (Nat.le_of_ble_eq_true rfl)⟩) (j_r0.1.mpr (show 0 ∈ mK by decide)) (j_r0.2.2.trans rfl) rfl rfl rfl (Nat.le_of_ble_eq_true rfl) hRR ⟨ha, hb⟩ dL_law_1180 (fun t9 M3 ht => ?_)
  obtain ⟨rfl, rfl⟩ := ht
  show kv dd g (a + 12) (b + 170) 1183 [(7, .int b9), (6, .int r9), (0, .ref sc), (1, .ref (ad 0)), (2, .ref (adr 0)), (3, .ref (x.2.1 0)), (4, .ref (x.2.1 1)), (5, .int (nI i))] [.int (M2.1 0)] (jk z1 (mK, adr, mE dd adr M2) z2) (jd z1 (mK, adr, mE dd adr M2) z2) (jE z1 (mK, adr, mE dd adr M2) z2)
  refine kv_iload X 1 dL_law_1183 rfl ?_
  refine kv_icmp_eq (tgt := 1190) X dL_law_1185 (by decide) (fun _ => ?_) (fun h => absurd h1 h)
  refine kv_iload X 1 dL_law_1190 rfl ?_
  refine kv_if_ne (tgt := 1207) X dL_law_1192 (by decide) (fun h => ?_) (fun h => ?_)
  ·
    replace h3 : z2 = x := h3 h
    subst h3
    refine kv_goto (tgt := 2529) X dL_law_1207 (by decide) ?_
    refine kv_lv [2, 3, 4, 5, 6, 7] rfl ?_
    exact K z1 _ M2 h4 hxx
  ·
    replace h2 : z2 = xJ dd x f0 b9.toInt64 := h2 h
    subst h2
    refine kv_aload_n X 5 dL_law_1195 rfl rfl ?_
    refine kv_iconst (v := 0) X dL_law_1196 (by decide) ?_
    refine kv_laload X (κ := 2000) (n := 1) (j := 0) (f := va_up f0 0 b9.toInt64) (j_x0.1.mpr hx0) (j_x0.2.2.trans (va_up_self x.2.2 0 (kJ dd 1 (va_up f0 0 b9.toInt64)))) (by omega) (by omega) dL_law_1197 ?_
    show kv dd g (a + 12) (b + 170) 1198 [(7, .int b9), (6, .int r9), (0, .ref sc), (1, .ref (ad 0)), (2, .ref (adr 0)), (3, .ref (x.2.1 0)), (4, .ref (x.2.1 1)), (5, .int (nI i))] [.long b9.toInt64] (jk z1 (mK, adr, mE dd adr M2) (xJ dd x f0 b9.toInt64)) (jd z1 (mK, adr, mE dd adr M2) (xJ dd x f0 b9.toInt64)) (jE z1 (mK, adr, mE dd adr M2) (xJ dd x f0 b9.toInt64))
    refine kv_iload X 0 dL_law_1198 rfl ?_
    refine kv_i2l X dL_law_1200 rfl ?_
    refine kv_lcmp X dL_law_1201 ?_
    refine kv_if_eq (tgt := 1207) X dL_law_1202 (by decide) (fun _ => ?_) (fun h9 => absurd lcs h9)
    refine kv_goto (tgt := 2529) X dL_law_1207 (by decide) ?_
    refine kv_lv [2, 3, 4, 5, 6, 7] rfl ?_
    exact K z1 _ M2 h4 (XW_xJ hxx)

set_option maxRecDepth 100000 in
set_option maxHeartbeats 4000000 in
theorem lw_dropRow {l : Launch} {dd : kDD} {g : kG} (X : kX dd g cL_law RL wsLaw) (hRR : kR g = room_1) (hnL : knL g = 9) (hl0 : kL g = l) {sc L i : Nat} {xs : Nat → Int32} (hs : kScr g sc L xs) (hLL : L ≤ 3584) (hi : i + 6 < L) {a b : Nat} {c x : kT} {M : mS} {xa o1 o2 : Nat} {adr : Nat → Nat} (hw : LWS dd c M xa) (hx : XW dd x o1 o2) (ha : a + 2 ≤ 603072) (hb : b + 12 ≤ 7219306) (K : ∀ (c2 x2 : kT) (M2 : mS), LWS dd c2 M2 xa → XW dd x2 o1 o2 → kv dd g (a + 2) (b + 12) 2529 [(0, .ref sc), (1, .ref xa), (2, .ref (adr 0)), (3, .ref o1), (4, .ref o2), (5, .int (nI i))] [] (jk c2 (mK, adr, mE dd adr M2) x2) (jd c2 (mK, adr, mE dd adr M2) x2) (jE c2 (mK, adr, mE dd adr M2) x2)) : kv dd g a b 1210 [(0, .ref sc), (1, .ref xa), (2, .ref (adr 0)), (3, .ref o1), (4, .ref o2), (5, .int (nI i))] [] (jk c (mK, adr, mE dd adr M) x) (jd c (mK, adr, mE dd adr M) x) (jE c (mK, adr, mE dd adr M) x) := by
  obtain ⟨ks, ad, E, e, nR, nC, nt, nL, nW, nV, nM, cn, nm, mn, me, li, rl, hks, hcf, rfl, hI, hO, hR, hC, hT, hL, hW, hV, hM⟩ := LWS_open hw
  obtain ⟨iR, iC, iT, iL, iW, iV, iM, hcn, hnm, hmn, hme, hs2, hli, hB, hpk, hmI, hmR, hmIc, hmRc, hlG⟩ := rI_all hI
  have hxx := hx
  obtain ⟨hx0, hx1, rfl, rfl, ⟨f0, hf0⟩, ⟨f1, hf1⟩⟩ := hx
  refine kv_cf ?_
  rw [hcf]
  refine kv_aload_n X 1 dL_law_1210 rfl rfl ?_
  refine kv_arg X hs hLL 1 (by omega) 0 5 rfl rfl (by decide) dL_law_1211 dL_law_1212 dL_law_1214 dL_law_1215 dL_law_1216 ?_
  refine kv_aload_n X 3 dL_law_1217 rfl rfl ?_
  refine kv_calliSW (As := [.ref (ad 0), .int (xs (i + 1)), .ref (x.2.1 0)]) [] X (c_L_dropRow l dd ks ad E e (mK, adr, mE dd adr M) x hks M nR nC nt nL nW nV nM cn nm mn me li rl (M.1 24) hO hR hC hT hL hW hV hM hB (cmI (M.2.1 22) nV) (cmI (M.2.1 23) nV) hmIc hmRc hpk (xs (i + 1)) f0 ⟨hx0, hf0⟩) hl0 (kCSW_of X 3 (show GoodIn wsLaw (va_wsS RL 191 yL_dropRow (wsL_dropRow ++ kHx)) from gK (pre := [Cond.methodLink RL 191 yL_dropRow, Cond.static yL_dropRow, Cond.initialized yL_dropRow.cls]) gL_law_L_dropRow) rfl rfl rfl (by decide +kernel) hRR ⟨(Nat.le_of_ble_eq_true rfl), (Nat.le_of_ble_eq_true rfl)⟩) rfl rfl (Nat.le_of_ble_eq_true rfl) hRR ⟨ha, hb⟩ dL_law_1218 (fun r9 z hp => ?_)
  obtain ⟨z1, z2⟩ := z
  show kv dd g (a + 2) (b + 12) 1221 [(0, .ref sc), (1, .ref (ad 0)), (2, .ref (adr 0)), (3, .ref (x.2.1 0)), (4, .ref (x.2.1 1)), (5, .int (nI i))] [.int r9] (jk z1 (mK, adr, mE dd adr M) z2) (jd z1 (mK, adr, mE dd adr M) z2) (jE z1 (mK, adr, mE dd adr M) z2)
  refine kv_istore (lv2 := [(6, .int r9), (0, .ref sc), (1, .ref (ad 0)), (2, .ref (adr 0)), (3, .ref (x.2.1 0)), (4, .ref (x.2.1 1)), (5, .int (nI i))]) X dL_law_1221 (by rw [hnL]; decide) rfl ?_
  refine kv_aload_n X 3 dL_law_1223 rfl rfl ?_
  refine kv_arg X hs hLL 1 (by omega) 1 6 rfl rfl (by decide) dL_law_1224 dL_law_1225 dL_law_1227 dL_law_1228 dL_law_1229 ?_
  refine kv_calliV (As := [.int (xs (i + 1))]) [] (ci := 14) (κ := 1000) (rm := ({ frames := 2, cells := 0, slots := 0, locals := 43 } : Room)) (mc := 0) (ms := 0) (r1 := (TX11, 34)) X (kCi_frR (c := z1) (r := (mK, adr, mE dd adr M)) (x := z2) (by rw [cf_id mK_lt]; exact c_X11_dropRow l dd adr M (xs (i + 1)) nW iW)) hl0 (kCV_of X 1 (gW gL_law_X11_dropRow) rfl rfl rfl (by decide +kernel) hRR ⟨(Nat.le_of_ble_eq_true rfl), (Nat.le_of_ble_eq_true rfl)⟩) (j_r0.1.mpr (show 0 ∈ mK by decide)) (j_r0.2.2.trans rfl) rfl rfl rfl (Nat.le_of_ble_eq_true rfl) hRR ⟨ha, hb⟩ dL_law_1230 (fun b9 M2 hq => ?_)
  have hst := st_dropRow (e := e) (wx := x) (f0 := f0) hI hO hR hC hT hL hW hV hM hp hq
  obtain ⟨h1, h2, h3, h4⟩ := hst
  show kv dd g (a + 2) (b + 12) 1233 [(6, .int r9), (0, .ref sc), (1, .ref (ad 0)), (2, .ref (adr 0)), (3, .ref (x.2.1 0)), (4, .ref (x.2.1 1)), (5, .int (nI i))] [.int b9] (jk z1 (mK, adr, mE dd adr M2) z2) (jd z1 (mK, adr, mE dd adr M2) z2) (jE z1 (mK, adr, mE dd adr M2) z2)
  refine kv_istore (lv2 := [(7, .int b9), (6, .int r9), (0, .ref sc), (1, .ref (ad 0)), (2, .ref (adr 0)), (3, .ref (x.2.1 0)), (4, .ref (x.2.1 1)), (5, .int (nI i))]) X dL_law_1233 (by rw [hnL]; decide) rfl ?_
  refine kv_aload_n X 4 dL_law_1235 rfl rfl ?_
  refine kv_calliV (As := []) [] (ci := 14) (κ := 1000) (rm := ({ frames := 0, cells := 0, slots := 0, locals := 0 } : Room)) (mc := 0) (ms := 0) (r1 := (TX11, 34)) X (kCi_frR (c := z1) (r := (mK, adr, mE dd adr M2)) (x := z2) (by rw [cf_id mK_lt]; exact c_X11_thrown l dd adr M2 )) hl0 (kCV_of X 0 (gW gL_law_X11_thrown) rfl rfl rfl (by decide +kernel) hRR ⟨(Nat.le_of_ble_eq_true rfl), (Nat.le_of_ble_eq_true rfl)⟩) (j_r0.1.mpr (show 0 ∈ mK by decide)) (j_r0.2.2.trans rfl) rfl rfl rfl (Nat.le_of_ble_eq_true rfl) hRR ⟨ha, hb⟩ dL_law_1236 (fun t9 M3 ht => ?_)
  obtain ⟨rfl, rfl⟩ := ht
  show kv dd g (a + 2) (b + 12) 1239 [(7, .int b9), (6, .int r9), (0, .ref sc), (1, .ref (ad 0)), (2, .ref (adr 0)), (3, .ref (x.2.1 0)), (4, .ref (x.2.1 1)), (5, .int (nI i))] [.int (M2.1 0)] (jk z1 (mK, adr, mE dd adr M2) z2) (jd z1 (mK, adr, mE dd adr M2) z2) (jE z1 (mK, adr, mE dd adr M2) z2)
  refine kv_iload X 1 dL_law_1239 rfl ?_
  refine kv_icmp_eq (tgt := 1246) X dL_law_1241 (by decide) (fun _ => ?_) (fun h => absurd h1 h)
  refine kv_iload X 1 dL_law_1246 rfl ?_
  refine kv_if_ne (tgt := 1263) X dL_law_1248 (by decide) (fun h => ?_) (fun h => ?_)
  ·
    replace h3 : z2 = x := h3 h
    subst h3
    refine kv_goto (tgt := 2529) X dL_law_1263 (by decide) ?_
    refine kv_lv [2, 3, 4, 5, 6, 7] rfl ?_
    exact K z1 _ M2 h4 hxx
  ·
    replace h2 : z2 = xJ dd x f0 b9.toInt64 := h2 h
    subst h2
    refine kv_aload_n X 5 dL_law_1251 rfl rfl ?_
    refine kv_iconst (v := 0) X dL_law_1252 (by decide) ?_
    refine kv_laload X (κ := 2000) (n := 1) (j := 0) (f := va_up f0 0 b9.toInt64) (j_x0.1.mpr hx0) (j_x0.2.2.trans (va_up_self x.2.2 0 (kJ dd 1 (va_up f0 0 b9.toInt64)))) (by omega) (by omega) dL_law_1253 ?_
    show kv dd g (a + 2) (b + 12) 1254 [(7, .int b9), (6, .int r9), (0, .ref sc), (1, .ref (ad 0)), (2, .ref (adr 0)), (3, .ref (x.2.1 0)), (4, .ref (x.2.1 1)), (5, .int (nI i))] [.long b9.toInt64] (jk z1 (mK, adr, mE dd adr M2) (xJ dd x f0 b9.toInt64)) (jd z1 (mK, adr, mE dd adr M2) (xJ dd x f0 b9.toInt64)) (jE z1 (mK, adr, mE dd adr M2) (xJ dd x f0 b9.toInt64))
    refine kv_iload X 0 dL_law_1254 rfl ?_
    refine kv_i2l X dL_law_1256 rfl ?_
    refine kv_lcmp X dL_law_1257 ?_
    refine kv_if_eq (tgt := 1263) X dL_law_1258 (by decide) (fun _ => ?_) (fun h9 => absurd lcs h9)
    refine kv_goto (tgt := 2529) X dL_law_1263 (by decide) ?_
    refine kv_lv [2, 3, 4, 5, 6, 7] rfl ?_
    exact K z1 _ M2 h4 (XW_xJ hxx)

set_option maxRecDepth 100000 in
set_option maxHeartbeats 4000000 in
theorem lw_measure {l : Launch} {dd : kDD} {g : kG} (X : kX dd g cL_law RL wsLaw) (hRR : kR g = room_1) (hnL : knL g = 9) (hl0 : kL g = l) {sc L i : Nat} {xs : Nat → Int32} (hs : kScr g sc L xs) (hLL : L ≤ 3584) (hi : i + 6 < L) {a b : Nat} {c x : kT} {M : mS} {xa o1 o2 : Nat} {adr : Nat → Nat} (hw : LWS dd c M xa) (hx : XW dd x o1 o2) (ha : a + 1 ≤ 603072) (hb : b + 6 ≤ 7219306) (K : ∀ (c2 x2 : kT) (M2 : mS), LWS dd c2 M2 xa → XW dd x2 o1 o2 → kv dd g (a + 1) (b + 6) 2529 [(0, .ref sc), (1, .ref xa), (2, .ref (adr 0)), (3, .ref o1), (4, .ref o2), (5, .int (nI i))] [] (jk c2 (mK, adr, mE dd adr M2) x2) (jd c2 (mK, adr, mE dd adr M2) x2) (jE c2 (mK, adr, mE dd adr M2) x2)) : kv dd g a b 1266 [(0, .ref sc), (1, .ref xa), (2, .ref (adr 0)), (3, .ref o1), (4, .ref o2), (5, .int (nI i))] [] (jk c (mK, adr, mE dd adr M) x) (jd c (mK, adr, mE dd adr M) x) (jE c (mK, adr, mE dd adr M) x) := by
  obtain ⟨ks, ad, E, e, nR, nC, nt, nL, nW, nV, nM, cn, nm, mn, me, li, rl, hks, hcf, rfl, hI, hO, hR, hC, hT, hL, hW, hV, hM⟩ := LWS_open hw
  obtain ⟨iR, iC, iT, iL, iW, iV, iM, hcn, hnm, hmn, hme, hs2, hli, hB, hpk, hmI, hmR, hmIc, hmRc, hlG⟩ := rI_all hI
  have hxx := hx
  obtain ⟨hx0, hx1, rfl, rfl, ⟨f0, hf0⟩, ⟨f1, hf1⟩⟩ := hx
  refine kv_cf ?_
  rw [hcf]
  refine kv_aload_n X 1 dL_law_1266 rfl rfl ?_
  refine kv_arg X hs hLL 1 (by omega) 0 5 rfl rfl (by decide) dL_law_1267 dL_law_1268 dL_law_1270 dL_law_1271 dL_law_1272 ?_
  refine kv_aload_n X 3 dL_law_1273 rfl rfl ?_
  refine kv_calliSW (As := [.ref (ad 0), .int (xs (i + 1)), .ref (x.2.1 0)]) [] X (c_L_measure l dd ks ad E e (mK, adr, mE dd adr M) x hks M nR nC nt nL nW nV nM cn nm mn me li rl (M.1 24) hO hR hC hT hL hW hV hM hB (cmI (M.2.1 22) nV) (cmI (M.2.1 23) nV) hmIc hmRc hpk (xs (i + 1)) f0 ⟨hx0, hf0⟩) hl0 (kCSW_of X 3 (show GoodIn wsLaw (va_wsS RL 194 yL_measure (wsL_measure ++ kHx)) from gK (pre := [Cond.methodLink RL 194 yL_measure, Cond.static yL_measure, Cond.initialized yL_measure.cls]) gL_law_L_measure) rfl rfl rfl (by decide +kernel) hRR ⟨(Nat.le_of_ble_eq_true rfl), (Nat.le_of_ble_eq_true rfl)⟩) rfl rfl (Nat.le_of_ble_eq_true rfl) hRR ⟨ha, hb⟩ dL_law_1274 (fun r9 z hp => ?_)
  obtain ⟨z1, z2⟩ := z
  show kv dd g (a + 1) (b + 6) 1277 [(0, .ref sc), (1, .ref (ad 0)), (2, .ref (adr 0)), (3, .ref (x.2.1 0)), (4, .ref (x.2.1 1)), (5, .int (nI i))] [.int r9] (jk z1 (mK, adr, mE dd adr M) z2) (jd z1 (mK, adr, mE dd adr M) z2) (jE z1 (mK, adr, mE dd adr M) z2)
  refine kv_istore (lv2 := [(6, .int r9), (0, .ref sc), (1, .ref (ad 0)), (2, .ref (adr 0)), (3, .ref (x.2.1 0)), (4, .ref (x.2.1 1)), (5, .int (nI i))]) X dL_law_1277 (by rw [hnL]; decide) rfl ?_
  refine kv_aload_n X 3 dL_law_1279 rfl rfl ?_
  refine kv_arg X hs hLL 1 (by omega) 1 6 rfl rfl (by decide) dL_law_1280 dL_law_1281 dL_law_1283 dL_law_1284 dL_law_1285 ?_
  refine kv_calliV (As := [.int (xs (i + 1))]) [] (ci := 14) (κ := 1000) (rm := ({ frames := 2, cells := 0, slots := 0, locals := 43 } : Room)) (mc := 0) (ms := 0) (r1 := (TX11, 34)) X (kCi_frR (c := z1) (r := (mK, adr, mE dd adr M)) (x := z2) (by rw [cf_id mK_lt]; exact c_X11_measure l dd adr M (xs (i + 1)) nW iW)) hl0 (kCV_of X 1 (gW gL_law_X11_measure) rfl rfl rfl (by decide +kernel) hRR ⟨(Nat.le_of_ble_eq_true rfl), (Nat.le_of_ble_eq_true rfl)⟩) (j_r0.1.mpr (show 0 ∈ mK by decide)) (j_r0.2.2.trans rfl) rfl rfl rfl (Nat.le_of_ble_eq_true rfl) hRR ⟨ha, hb⟩ dL_law_1286 (fun b9 M2 hq => ?_)
  have hst := st_measure (e := e) (wx := x) (f0 := f0) hI hO hR hC hT hL hW hV hM hp hq
  obtain ⟨h1, h2, h3, h4⟩ := hst
  show kv dd g (a + 1) (b + 6) 1289 [(6, .int r9), (0, .ref sc), (1, .ref (ad 0)), (2, .ref (adr 0)), (3, .ref (x.2.1 0)), (4, .ref (x.2.1 1)), (5, .int (nI i))] [.int b9] (jk z1 (mK, adr, mE dd adr M2) z2) (jd z1 (mK, adr, mE dd adr M2) z2) (jE z1 (mK, adr, mE dd adr M2) z2)
  refine kv_istore (lv2 := [(7, .int b9), (6, .int r9), (0, .ref sc), (1, .ref (ad 0)), (2, .ref (adr 0)), (3, .ref (x.2.1 0)), (4, .ref (x.2.1 1)), (5, .int (nI i))]) X dL_law_1289 (by rw [hnL]; decide) rfl ?_
  refine kv_aload_n X 4 dL_law_1291 rfl rfl ?_
  refine kv_calliV (As := []) [] (ci := 14) (κ := 1000) (rm := ({ frames := 0, cells := 0, slots := 0, locals := 0 } : Room)) (mc := 0) (ms := 0) (r1 := (TX11, 34)) X (kCi_frR (c := z1) (r := (mK, adr, mE dd adr M2)) (x := z2) (by rw [cf_id mK_lt]; exact c_X11_thrown l dd adr M2 )) hl0 (kCV_of X 0 (gW gL_law_X11_thrown) rfl rfl rfl (by decide +kernel) hRR ⟨(Nat.le_of_ble_eq_true rfl), (Nat.le_of_ble_eq_true rfl)⟩) (j_r0.1.mpr (show 0 ∈ mK by decide)) (j_r0.2.2.trans rfl) rfl rfl rfl (Nat.le_of_ble_eq_true rfl) hRR ⟨ha, hb⟩ dL_law_1292 (fun t9 M3 ht => ?_)
  obtain ⟨rfl, rfl⟩ := ht
  show kv dd g (a + 1) (b + 6) 1295 [(7, .int b9), (6, .int r9), (0, .ref sc), (1, .ref (ad 0)), (2, .ref (adr 0)), (3, .ref (x.2.1 0)), (4, .ref (x.2.1 1)), (5, .int (nI i))] [.int (M2.1 0)] (jk z1 (mK, adr, mE dd adr M2) z2) (jd z1 (mK, adr, mE dd adr M2) z2) (jE z1 (mK, adr, mE dd adr M2) z2)
  refine kv_iload X 1 dL_law_1295 rfl ?_
  refine kv_icmp_eq (tgt := 1302) X dL_law_1297 (by decide) (fun _ => ?_) (fun h => absurd h1 h)
  refine kv_iload X 1 dL_law_1302 rfl ?_
  refine kv_if_ne (tgt := 1319) X dL_law_1304 (by decide) (fun h => ?_) (fun h => ?_)
  ·
    replace h3 : z2 = x := h3 h
    subst h3
    refine kv_goto (tgt := 2529) X dL_law_1319 (by decide) ?_
    refine kv_lv [2, 3, 4, 5, 6, 7] rfl ?_
    exact K z1 _ M2 h4 hxx
  ·
    replace h2 : z2 = xJ dd x f0 b9.toInt64 := h2 h
    subst h2
    refine kv_aload_n X 5 dL_law_1307 rfl rfl ?_
    refine kv_iconst (v := 0) X dL_law_1308 (by decide) ?_
    refine kv_laload X (κ := 2000) (n := 1) (j := 0) (f := va_up f0 0 b9.toInt64) (j_x0.1.mpr hx0) (j_x0.2.2.trans (va_up_self x.2.2 0 (kJ dd 1 (va_up f0 0 b9.toInt64)))) (by omega) (by omega) dL_law_1309 ?_
    show kv dd g (a + 1) (b + 6) 1310 [(7, .int b9), (6, .int r9), (0, .ref sc), (1, .ref (ad 0)), (2, .ref (adr 0)), (3, .ref (x.2.1 0)), (4, .ref (x.2.1 1)), (5, .int (nI i))] [.long b9.toInt64] (jk z1 (mK, adr, mE dd adr M2) (xJ dd x f0 b9.toInt64)) (jd z1 (mK, adr, mE dd adr M2) (xJ dd x f0 b9.toInt64)) (jE z1 (mK, adr, mE dd adr M2) (xJ dd x f0 b9.toInt64))
    refine kv_iload X 0 dL_law_1310 rfl ?_
    refine kv_i2l X dL_law_1312 rfl ?_
    refine kv_lcmp X dL_law_1313 ?_
    refine kv_if_eq (tgt := 1319) X dL_law_1314 (by decide) (fun _ => ?_) (fun h9 => absurd lcs h9)
    refine kv_goto (tgt := 2529) X dL_law_1319 (by decide) ?_
    refine kv_lv [2, 3, 4, 5, 6, 7] rfl ?_
    exact K z1 _ M2 h4 (XW_xJ hxx)

set_option maxRecDepth 100000 in
set_option maxHeartbeats 4000000 in
theorem lw_quantity {l : Launch} {dd : kDD} {g : kG} (X : kX dd g cL_law RL wsLaw) (hRR : kR g = room_1) (hnL : knL g = 9) (hl0 : kL g = l) {sc L i : Nat} {xs : Nat → Int32} (hs : kScr g sc L xs) (hLL : L ≤ 3584) (hi : i + 6 < L) {a b : Nat} {c x : kT} {M : mS} {xa o1 o2 : Nat} {adr : Nat → Nat} (hw : LWS dd c M xa) (hx : XW dd x o1 o2) (ha : a + 1 ≤ 603072) (hb : b + 6 ≤ 7219306) (K : ∀ (c2 x2 : kT) (M2 : mS), LWS dd c2 M2 xa → XW dd x2 o1 o2 → kv dd g (a + 1) (b + 6) 2529 [(0, .ref sc), (1, .ref xa), (2, .ref (adr 0)), (3, .ref o1), (4, .ref o2), (5, .int (nI i))] [] (jk c2 (mK, adr, mE dd adr M2) x2) (jd c2 (mK, adr, mE dd adr M2) x2) (jE c2 (mK, adr, mE dd adr M2) x2)) : kv dd g a b 1322 [(0, .ref sc), (1, .ref xa), (2, .ref (adr 0)), (3, .ref o1), (4, .ref o2), (5, .int (nI i))] [] (jk c (mK, adr, mE dd adr M) x) (jd c (mK, adr, mE dd adr M) x) (jE c (mK, adr, mE dd adr M) x) := by
  obtain ⟨ks, ad, E, e, nR, nC, nt, nL, nW, nV, nM, cn, nm, mn, me, li, rl, hks, hcf, rfl, hI, hO, hR, hC, hT, hL, hW, hV, hM⟩ := LWS_open hw
  obtain ⟨iR, iC, iT, iL, iW, iV, iM, hcn, hnm, hmn, hme, hs2, hli, hB, hpk, hmI, hmR, hmIc, hmRc, hlG⟩ := rI_all hI
  have hxx := hx
  obtain ⟨hx0, hx1, rfl, rfl, ⟨f0, hf0⟩, ⟨f1, hf1⟩⟩ := hx
  refine kv_cf ?_
  rw [hcf]
  refine kv_aload_n X 1 dL_law_1322 rfl rfl ?_
  refine kv_arg X hs hLL 1 (by omega) 0 5 rfl rfl (by decide) dL_law_1323 dL_law_1324 dL_law_1326 dL_law_1327 dL_law_1328 ?_
  refine kv_aload_n X 3 dL_law_1329 rfl rfl ?_
  refine kv_calliSW (As := [.ref (ad 0), .int (xs (i + 1)), .ref (x.2.1 0)]) [] X (c_L_quantity l dd ks ad E e (mK, adr, mE dd adr M) x hks M nR nC nt nL nW nV nM cn nm mn me li rl (M.1 24) hO hR hC hT hL hW hV hM hB (cmI (M.2.1 22) nV) (cmI (M.2.1 23) nV) hmIc hmRc hpk (xs (i + 1)) f0 ⟨hx0, hf0⟩) hl0 (kCSW_of X 3 (show GoodIn wsLaw (va_wsS RL 197 yL_quantity (wsL_quantity ++ kHx)) from gK (pre := [Cond.methodLink RL 197 yL_quantity, Cond.static yL_quantity, Cond.initialized yL_quantity.cls]) gL_law_L_quantity) rfl rfl rfl (by decide +kernel) hRR ⟨(Nat.le_of_ble_eq_true rfl), (Nat.le_of_ble_eq_true rfl)⟩) rfl rfl (Nat.le_of_ble_eq_true rfl) hRR ⟨ha, hb⟩ dL_law_1330 (fun r9 z hp => ?_)
  obtain ⟨z1, z2⟩ := z
  show kv dd g (a + 1) (b + 6) 1333 [(0, .ref sc), (1, .ref (ad 0)), (2, .ref (adr 0)), (3, .ref (x.2.1 0)), (4, .ref (x.2.1 1)), (5, .int (nI i))] [.int r9] (jk z1 (mK, adr, mE dd adr M) z2) (jd z1 (mK, adr, mE dd adr M) z2) (jE z1 (mK, adr, mE dd adr M) z2)
  refine kv_istore (lv2 := [(6, .int r9), (0, .ref sc), (1, .ref (ad 0)), (2, .ref (adr 0)), (3, .ref (x.2.1 0)), (4, .ref (x.2.1 1)), (5, .int (nI i))]) X dL_law_1333 (by rw [hnL]; decide) rfl ?_
  refine kv_aload_n X 3 dL_law_1335 rfl rfl ?_
  refine kv_arg X hs hLL 1 (by omega) 1 6 rfl rfl (by decide) dL_law_1336 dL_law_1337 dL_law_1339 dL_law_1340 dL_law_1341 ?_
  refine kv_calliV (As := [.int (xs (i + 1))]) [] (ci := 14) (κ := 1000) (rm := ({ frames := 2, cells := 0, slots := 0, locals := 43 } : Room)) (mc := 0) (ms := 0) (r1 := (TX11, 34)) X (kCi_frR (c := z1) (r := (mK, adr, mE dd adr M)) (x := z2) (by rw [cf_id mK_lt]; exact c_X11_quantity l dd adr M (xs (i + 1)) nL iL nW iW)) hl0 (kCV_of X 1 (gW gL_law_X11_quantity) rfl rfl rfl (by decide +kernel) hRR ⟨(Nat.le_of_ble_eq_true rfl), (Nat.le_of_ble_eq_true rfl)⟩) (j_r0.1.mpr (show 0 ∈ mK by decide)) (j_r0.2.2.trans rfl) rfl rfl rfl (Nat.le_of_ble_eq_true rfl) hRR ⟨ha, hb⟩ dL_law_1342 (fun b9 M2 hq => ?_)
  have hst := st_quantity (e := e) (wx := x) (f0 := f0) hI hO hR hC hT hL hW hV hM hp hq
  obtain ⟨h1, h2, h3, h4⟩ := hst
  show kv dd g (a + 1) (b + 6) 1345 [(6, .int r9), (0, .ref sc), (1, .ref (ad 0)), (2, .ref (adr 0)), (3, .ref (x.2.1 0)), (4, .ref (x.2.1 1)), (5, .int (nI i))] [.int b9] (jk z1 (mK, adr, mE dd adr M2) z2) (jd z1 (mK, adr, mE dd adr M2) z2) (jE z1 (mK, adr, mE dd adr M2) z2)
  refine kv_istore (lv2 := [(7, .int b9), (6, .int r9), (0, .ref sc), (1, .ref (ad 0)), (2, .ref (adr 0)), (3, .ref (x.2.1 0)), (4, .ref (x.2.1 1)), (5, .int (nI i))]) X dL_law_1345 (by rw [hnL]; decide) rfl ?_
  refine kv_aload_n X 4 dL_law_1347 rfl rfl ?_
  refine kv_calliV (As := []) [] (ci := 14) (κ := 1000) (rm := ({ frames := 0, cells := 0, slots := 0, locals := 0 } : Room)) (mc := 0) (ms := 0) (r1 := (TX11, 34)) X (kCi_frR (c := z1) (r := (mK, adr, mE dd adr M2)) (x := z2) (by rw [cf_id mK_lt]; exact c_X11_thrown l dd adr M2 )) hl0 (kCV_of X 0 (gW gL_law_X11_thrown) rfl rfl rfl (by decide +kernel) hRR ⟨(Nat.le_of_ble_eq_true rfl), (Nat.le_of_ble_eq_true rfl)⟩) (j_r0.1.mpr (show 0 ∈ mK by decide)) (j_r0.2.2.trans rfl) rfl rfl rfl (Nat.le_of_ble_eq_true rfl) hRR ⟨ha, hb⟩ dL_law_1348 (fun t9 M3 ht => ?_)
  obtain ⟨rfl, rfl⟩ := ht
  show kv dd g (a + 1) (b + 6) 1351 [(7, .int b9), (6, .int r9), (0, .ref sc), (1, .ref (ad 0)), (2, .ref (adr 0)), (3, .ref (x.2.1 0)), (4, .ref (x.2.1 1)), (5, .int (nI i))] [.int (M2.1 0)] (jk z1 (mK, adr, mE dd adr M2) z2) (jd z1 (mK, adr, mE dd adr M2) z2) (jE z1 (mK, adr, mE dd adr M2) z2)
  refine kv_iload X 1 dL_law_1351 rfl ?_
  refine kv_icmp_eq (tgt := 1358) X dL_law_1353 (by decide) (fun _ => ?_) (fun h => absurd h1 h)
  refine kv_iload X 1 dL_law_1358 rfl ?_
  refine kv_if_ne (tgt := 1375) X dL_law_1360 (by decide) (fun h => ?_) (fun h => ?_)
  ·
    replace h3 : z2 = x := h3 h
    subst h3
    refine kv_goto (tgt := 2529) X dL_law_1375 (by decide) ?_
    refine kv_lv [2, 3, 4, 5, 6, 7] rfl ?_
    exact K z1 _ M2 h4 hxx
  ·
    replace h2 : z2 = xJ dd x f0 b9.toInt64 := h2 h
    subst h2
    refine kv_aload_n X 5 dL_law_1363 rfl rfl ?_
    refine kv_iconst (v := 0) X dL_law_1364 (by decide) ?_
    refine kv_laload X (κ := 2000) (n := 1) (j := 0) (f := va_up f0 0 b9.toInt64) (j_x0.1.mpr hx0) (j_x0.2.2.trans (va_up_self x.2.2 0 (kJ dd 1 (va_up f0 0 b9.toInt64)))) (by omega) (by omega) dL_law_1365 ?_
    show kv dd g (a + 1) (b + 6) 1366 [(7, .int b9), (6, .int r9), (0, .ref sc), (1, .ref (ad 0)), (2, .ref (adr 0)), (3, .ref (x.2.1 0)), (4, .ref (x.2.1 1)), (5, .int (nI i))] [.long b9.toInt64] (jk z1 (mK, adr, mE dd adr M2) (xJ dd x f0 b9.toInt64)) (jd z1 (mK, adr, mE dd adr M2) (xJ dd x f0 b9.toInt64)) (jE z1 (mK, adr, mE dd adr M2) (xJ dd x f0 b9.toInt64))
    refine kv_iload X 0 dL_law_1366 rfl ?_
    refine kv_i2l X dL_law_1368 rfl ?_
    refine kv_lcmp X dL_law_1369 ?_
    refine kv_if_eq (tgt := 1375) X dL_law_1370 (by decide) (fun _ => ?_) (fun h9 => absurd lcs h9)
    refine kv_goto (tgt := 2529) X dL_law_1375 (by decide) ?_
    refine kv_lv [2, 3, 4, 5, 6, 7] rfl ?_
    exact K z1 _ M2 h4 (XW_xJ hxx)

set_option maxRecDepth 100000 in
set_option maxHeartbeats 4000000 in
theorem lw_addVariant {l : Launch} {dd : kDD} {g : kG} (X : kX dd g cL_law RL wsLaw) (hRR : kR g = room_1) (hnL : knL g = 9) (hl0 : kL g = l) {sc L i : Nat} {xs : Nat → Int32} (hs : kScr g sc L xs) (hLL : L ≤ 3584) (hi : i + 6 < L) {a b : Nat} {c x : kT} {M : mS} {xa o1 o2 : Nat} {adr : Nat → Nat} (hw : LWS dd c M xa) (hx : XW dd x o1 o2) (ha : a + 8 ≤ 603072) (hb : b + 150 ≤ 7219306) (K : ∀ (c2 x2 : kT) (M2 : mS), LWS dd c2 M2 xa → XW dd x2 o1 o2 → kv dd g (a + 8) (b + 150) 2529 [(0, .ref sc), (1, .ref xa), (2, .ref (adr 0)), (3, .ref o1), (4, .ref o2), (5, .int (nI i))] [] (jk c2 (mK, adr, mE dd adr M2) x2) (jd c2 (mK, adr, mE dd adr M2) x2) (jE c2 (mK, adr, mE dd adr M2) x2)) : kv dd g a b 1391 [(0, .ref sc), (1, .ref xa), (2, .ref (adr 0)), (3, .ref o1), (4, .ref o2), (5, .int (nI i))] [] (jk c (mK, adr, mE dd adr M) x) (jd c (mK, adr, mE dd adr M) x) (jE c (mK, adr, mE dd adr M) x) := by
  obtain ⟨ks, ad, E, e, nR, nC, nt, nL, nW, nV, nM, cn, nm, mn, me, li, rl, hks, hcf, rfl, hI, hO, hR, hC, hT, hL, hW, hV, hM⟩ := LWS_open hw
  obtain ⟨iR, iC, iT, iL, iW, iV, iM, hcn, hnm, hmn, hme, hs2, hli, hB, hpk, hmI, hmR, hmIc, hmRc, hlG⟩ := rI_all hI
  have hxx := hx
  obtain ⟨hx0, hx1, rfl, rfl, ⟨f0, hf0⟩, ⟨f1, hf1⟩⟩ := hx
  refine kv_cf ?_
  rw [hcf]
  refine kv_aload_n X 1 dL_law_1391 rfl rfl ?_
  refine kv_aload_n X 3 dL_law_1392 rfl rfl ?_
  refine kv_calliSW (As := [.ref (ad 0), .ref (x.2.1 0)]) [] X (c_L_addVariant l dd ks ad E e (mK, adr, mE dd adr M) x hks M nR nC nt nL nW nV nM cn nm mn me li rl (M.1 24) hO hR hC hT hL hW hV hM hB (cmI (M.2.1 22) nV) (cmI (M.2.1 23) nV) hmIc hmRc hpk f0 ⟨hx0, hf0⟩) hl0 (kCSW_of X 2 (show GoodIn wsLaw (va_wsS RL 204 yL_addVariant (wsL_addVariant ++ kHx)) from gK (pre := [Cond.methodLink RL 204 yL_addVariant, Cond.static yL_addVariant, Cond.initialized yL_addVariant.cls]) gL_law_L_addVariant) rfl rfl rfl (by decide +kernel) hRR ⟨(Nat.le_of_ble_eq_true rfl), (Nat.le_of_ble_eq_true rfl)⟩) rfl rfl (Nat.le_of_ble_eq_true rfl) hRR ⟨ha, hb⟩ dL_law_1393 (fun r9 z hp => ?_)
  obtain ⟨z1, z2⟩ := z
  show kv dd g (a + 8) (b + 150) 1396 [(0, .ref sc), (1, .ref (ad 0)), (2, .ref (adr 0)), (3, .ref (x.2.1 0)), (4, .ref (x.2.1 1)), (5, .int (nI i))] [.int r9] (jk z1 (mK, adr, mE dd adr M) z2) (jd z1 (mK, adr, mE dd adr M) z2) (jE z1 (mK, adr, mE dd adr M) z2)
  refine kv_istore (lv2 := [(6, .int r9), (0, .ref sc), (1, .ref (ad 0)), (2, .ref (adr 0)), (3, .ref (x.2.1 0)), (4, .ref (x.2.1 1)), (5, .int (nI i))]) X dL_law_1396 (by rw [hnL]; decide) rfl ?_
  refine kv_aload_n X 3 dL_law_1398 rfl rfl ?_
  refine kv_calliV (As := []) [] (ci := 14) (κ := 1000) (rm := ({ frames := 1, cells := 0, slots := 0, locals := 22 } : Room)) (mc := 0) (ms := 0) (r1 := (TX11, 34)) X (kCi_frR (c := z1) (r := (mK, adr, mE dd adr M)) (x := z2) (by rw [cf_id mK_lt]; exact c_X11_addVariant l dd adr M nV iV)) hl0 (kCV_of X 0 (gW gL_law_X11_addVariant) rfl rfl rfl (by decide +kernel) hRR ⟨(Nat.le_of_ble_eq_true rfl), (Nat.le_of_ble_eq_true rfl)⟩) (j_r0.1.mpr (show 0 ∈ mK by decide)) (j_r0.2.2.trans rfl) rfl rfl rfl (Nat.le_of_ble_eq_true rfl) hRR ⟨ha, hb⟩ dL_law_1399 (fun b9 M2 hq => ?_)
  have hst := st_addVariant (e := e) (wx := x) (f0 := f0) hI hO hR hC hT hL hW hV hM hp hq
  obtain ⟨h1, h2, h3, h4⟩ := hst
  show kv dd g (a + 8) (b + 150) 1402 [(6, .int r9), (0, .ref sc), (1, .ref (ad 0)), (2, .ref (adr 0)), (3, .ref (x.2.1 0)), (4, .ref (x.2.1 1)), (5, .int (nI i))] [.int b9] (jk z1 (mK, adr, mE dd adr M2) z2) (jd z1 (mK, adr, mE dd adr M2) z2) (jE z1 (mK, adr, mE dd adr M2) z2)
  refine kv_istore (lv2 := [(7, .int b9), (6, .int r9), (0, .ref sc), (1, .ref (ad 0)), (2, .ref (adr 0)), (3, .ref (x.2.1 0)), (4, .ref (x.2.1 1)), (5, .int (nI i))]) X dL_law_1402 (by rw [hnL]; decide) rfl ?_
  refine kv_aload_n X 4 dL_law_1404 rfl rfl ?_
  refine kv_calliV (As := []) [] (ci := 14) (κ := 1000) (rm := ({ frames := 0, cells := 0, slots := 0, locals := 0 } : Room)) (mc := 0) (ms := 0) (r1 := (TX11, 34)) X (kCi_frR (c := z1) (r := (mK, adr, mE dd adr M2)) (x := z2) (by rw [cf_id mK_lt]; exact c_X11_thrown l dd adr M2 )) hl0 (kCV_of X 0 (gW gL_law_X11_thrown) rfl rfl rfl (by decide +kernel) hRR ⟨(Nat.le_of_ble_eq_true rfl), (Nat.le_of_ble_eq_true rfl)⟩) (j_r0.1.mpr (show 0 ∈ mK by decide)) (j_r0.2.2.trans rfl) rfl rfl rfl (Nat.le_of_ble_eq_true rfl) hRR ⟨ha, hb⟩ dL_law_1405 (fun t9 M3 ht => ?_)
  obtain ⟨rfl, rfl⟩ := ht
  show kv dd g (a + 8) (b + 150) 1408 [(7, .int b9), (6, .int r9), (0, .ref sc), (1, .ref (ad 0)), (2, .ref (adr 0)), (3, .ref (x.2.1 0)), (4, .ref (x.2.1 1)), (5, .int (nI i))] [.int (M2.1 0)] (jk z1 (mK, adr, mE dd adr M2) z2) (jd z1 (mK, adr, mE dd adr M2) z2) (jE z1 (mK, adr, mE dd adr M2) z2)
  refine kv_iload X 1 dL_law_1408 rfl ?_
  refine kv_icmp_eq (tgt := 1415) X dL_law_1410 (by decide) (fun _ => ?_) (fun h => absurd h1 h)
  refine kv_iload X 1 dL_law_1415 rfl ?_
  refine kv_if_ne (tgt := 1432) X dL_law_1417 (by decide) (fun h => ?_) (fun h => ?_)
  ·
    replace h3 : z2 = x := h3 h
    subst h3
    refine kv_goto (tgt := 2529) X dL_law_1432 (by decide) ?_
    refine kv_lv [2, 3, 4, 5, 6, 7] rfl ?_
    exact K z1 _ M2 h4 hxx
  ·
    replace h2 : z2 = xJ dd x f0 b9.toInt64 := h2 h
    subst h2
    refine kv_aload_n X 5 dL_law_1420 rfl rfl ?_
    refine kv_iconst (v := 0) X dL_law_1421 (by decide) ?_
    refine kv_laload X (κ := 2000) (n := 1) (j := 0) (f := va_up f0 0 b9.toInt64) (j_x0.1.mpr hx0) (j_x0.2.2.trans (va_up_self x.2.2 0 (kJ dd 1 (va_up f0 0 b9.toInt64)))) (by omega) (by omega) dL_law_1422 ?_
    show kv dd g (a + 8) (b + 150) 1423 [(7, .int b9), (6, .int r9), (0, .ref sc), (1, .ref (ad 0)), (2, .ref (adr 0)), (3, .ref (x.2.1 0)), (4, .ref (x.2.1 1)), (5, .int (nI i))] [.long b9.toInt64] (jk z1 (mK, adr, mE dd adr M2) (xJ dd x f0 b9.toInt64)) (jd z1 (mK, adr, mE dd adr M2) (xJ dd x f0 b9.toInt64)) (jE z1 (mK, adr, mE dd adr M2) (xJ dd x f0 b9.toInt64))
    refine kv_iload X 0 dL_law_1423 rfl ?_
    refine kv_i2l X dL_law_1425 rfl ?_
    refine kv_lcmp X dL_law_1426 ?_
    refine kv_if_eq (tgt := 1432) X dL_law_1427 (by decide) (fun _ => ?_) (fun h9 => absurd lcs h9)
    refine kv_goto (tgt := 2529) X dL_law_1432 (by decide) ?_
    refine kv_lv [2, 3, 4, 5, 6, 7] rfl ?_
    exact K z1 _ M2 h4 (XW_xJ hxx)

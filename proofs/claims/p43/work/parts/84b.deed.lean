/-! P43: CHANGES, AS THE LAW MAKES THEM -/
set_option maxRecDepth 100000 in
set_option maxHeartbeats 4000000 in
theorem d_addResource (l : Launch) {dd : kDD} {c : kT} (wr wx : kT) {xa nR nt nL nV nM : Nat} {f : Nat → Int32} (h : LQ dd c xa nR nt nL nV nM f) (k p w q : Int32) (hk : k = 0 ∨ k = 1 ∨ k = 2) (hp0 : 0 ≤ p ∧ p ≤ 299) (hw0 : 0 ≤ w ∧ w ≤ 50) (hq0 : 1 ≤ q ∧ q ≤ 99) (hnR : nR < 12) : kCi l yL_deed (wsL_deed ++ kHp) ({ frames := 13, cells := 12, slots := 170, locals := 300 } : Room) 12 170 dd [.ref xa, .int 0, .int k, .int p, .int w, .int q] (jk c wr wx, jd c wr wx, jE c wr wx) (kQi (S := kT) (fun r z => r = nI nR ∧ ∀ f2 : Nat → Int32, (∀ i, i < 10 + 3 * nR → 10 ≤ i → f2 i = f i) → f2 (10 + 3 * nR) = p → f2 (11 + 3 * nR) = w → f2 (12 + 3 * nR) = q → LQ dd z xa (nR + 1) nt nL nV nM f2) (fun z => jk z wr wx) (fun z => jd z wr wx) (fun z => jE z wr wx)) := by
  obtain ⟨M, nC, nW, cn, nm, mn, me, li, rl, hLP, hon, hf⟩ := h
  obtain ⟨ks, ad, E, e, hks, hcf, rfl, hI, hXp, hO, hR, hC, hT, hL, hW, hV, hM⟩ := LP_open hLP
  have bb := rI_b hI
  obtain ⟨iR, iC, iT, iL, iW, iV, iM, hcn, hnm, hmn, hme, hs2, hli, hB, hpk, hmI, hmR, hmIc, hmRc, hlG⟩ := rI_all hI
  rw [JW_cf hcf]
  refine kMetiW (ws' := _) (cc := cL_deed) (maxL := 7) (rt := .int) (by decide) rfl (Nat.le_of_ble_eq_true rfl) (fun g X hr htb hnL hRR hl0 => ?_)
  show kv dd g 0 0 0 [(0, .ref (ad 0)), (1, .int 0), (2, .int k), (3, .int p), (4, .int w), (5, .int q)] [] (jk (ks, ad, cE dd E e) wr wx) (jd (ks, ad, cE dd E e) wr wx) (jE (ks, ad, cE dd E e) wr wx)
  refine kv_aload_n X 0 dL_deed_0 rfl rfl ?_
  refine kv_iload_n X 1 dL_deed_1 rfl rfl ?_
  refine kv_iload_n X 2 dL_deed_2 rfl rfl ?_
  refine kv_iload_n X 3 dL_deed_3 rfl rfl ?_
  refine kv_iload X 4 dL_deed_4 rfl ?_
  refine kv_iload X 5 dL_deed_6 rfl ?_
  refine kv_calliXSc (As := [.ref (ad 0), .int 0, .int k, .int p, .int w, .int q]) [] X (c_L_plain_addResource l dd ks ad E e wr wx hks M nR nC nt nL nW nV nM cn nm mn me li rl (M.1 24) hO hR hC hT hL hW hV hM hB (cmI (M.2.1 22) nV) (cmI (M.2.1 23) nV) hmIc hmRc hpk k p w q) hl0 (kCS_of X 6 (goodIn_ext gL_deed_L_plain) rfl rfl rfl (by decide +kernel) hRR ⟨(Nat.le_of_ble_eq_true rfl), (Nat.le_of_ble_eq_true rfl)⟩) rfl rfl (Nat.le_of_ble_eq_true rfl) hRR ⟨(Nat.le_of_ble_eq_true rfl), (Nat.le_of_ble_eq_true rfl)⟩ dL_deed_8 (fun X9 u hX => ?_) (fun r9 z hp => ?_)
  ·
    obtain ⟨u1, ⟨e9, rfl, hX⟩, rfl⟩ := hX
    rcases hX with ⟨rfl, hX⟩ | ⟨rfl, hX⟩
    ·
      exact absurd ⟨hk, ⟨hp0.1, Int32.le_trans hp0.2 (by decide)⟩, hw0, hq0⟩ hX
    ·
      exact absurd hX.2 (by omega)
  ·
    obtain ⟨hv, hn, ⟨h0, hA⟩, rfl⟩ := hp
    exact kv_ireturn X hr (Nat.le_of_ble_eq_true rfl) (Nat.le_of_ble_eq_true rfl) ⟨z, ⟨rfl, fun f2 g0 g1 g2 g3 => ⟨_, _, _, _, _, _, _, _, _, ⟨rI_addResource hI hk hq0 hnR, pX_res hXp hp0 hw0 hq0, cAll_s2 hA (fun _ _ => rfl), h0⟩, hon, fq_up hf g0 g1 g2 g3⟩⟩, rfl⟩ dL_deed_11
set_option maxRecDepth 100000 in
set_option maxHeartbeats 4000000 in
theorem d_addCrew (l : Launch) {dd : kDD} {c : kT} (wr wx : kT) {xa nR nt nL nV nM : Nat} {f : Nat → Int32} (h : LQ dd c xa nR nt nL nV nM f) (u0 u1 u2 u3 : Int32)  : kCi l yL_deed (wsL_deed ++ kHp) ({ frames := 13, cells := 12, slots := 170, locals := 300 } : Room) 12 170 dd [.ref xa, .int 2, .int u0, .int u1, .int u2, .int u3] (jk c wr wx, jd c wr wx, jE c wr wx) (kQi (S := kT) (fun r z => rb r ∧ LQ dd z xa nR nt nL nV nM f) (fun z => jk z wr wx) (fun z => jd z wr wx) (fun z => jE z wr wx)) := by
  obtain ⟨M, nC, nW, cn, nm, mn, me, li, rl, hLP, hon, hf⟩ := h
  obtain ⟨ks, ad, E, e, hks, hcf, rfl, hI, hXp, hO, hR, hC, hT, hL, hW, hV, hM⟩ := LP_open hLP
  have bb := rI_b hI
  obtain ⟨iR, iC, iT, iL, iW, iV, iM, hcn, hnm, hmn, hme, hs2, hli, hB, hpk, hmI, hmR, hmIc, hmRc, hlG⟩ := rI_all hI
  rw [JW_cf hcf]
  refine kMetiW (ws' := _) (cc := cL_deed) (maxL := 7) (rt := .int) (by decide) rfl (Nat.le_of_ble_eq_true rfl) (fun g X hr htb hnL hRR hl0 => ?_)
  show kv dd g 0 0 0 [(0, .ref (ad 0)), (1, .int 2), (2, .int u0), (3, .int u1), (4, .int u2), (5, .int u3)] [] (jk (ks, ad, cE dd E e) wr wx) (jd (ks, ad, cE dd E e) wr wx) (jE (ks, ad, cE dd E e) wr wx)
  refine kv_aload_n X 0 dL_deed_0 rfl rfl ?_
  refine kv_iload_n X 1 dL_deed_1 rfl rfl ?_
  refine kv_iload_n X 2 dL_deed_2 rfl rfl ?_
  refine kv_iload_n X 3 dL_deed_3 rfl rfl ?_
  refine kv_iload X 4 dL_deed_4 rfl ?_
  refine kv_iload X 5 dL_deed_6 rfl ?_
  refine kv_calliXSc (As := [.ref (ad 0), .int 2, .int u0, .int u1, .int u2, .int u3]) [] X (c_L_plain_addCrew l dd ks ad E e wr wx hks M nR nC nt nL nW nV nM cn nm mn me li rl (M.1 24) hO hR hC hT hL hW hV hM hB (cmI (M.2.1 22) nV) (cmI (M.2.1 23) nV) hmIc hmRc hpk (rI_m0 hI) u0 u1 u2 u3) hl0 (kCS_of X 6 (goodIn_ext gL_deed_L_plain) rfl rfl rfl (by decide +kernel) hRR ⟨(Nat.le_of_ble_eq_true rfl), (Nat.le_of_ble_eq_true rfl)⟩) rfl rfl (Nat.le_of_ble_eq_true rfl) hRR ⟨(Nat.le_of_ble_eq_true rfl), (Nat.le_of_ble_eq_true rfl)⟩ dL_deed_8 (fun X9 u hX => ?_) (fun r9 z hp => ?_)
  ·
    obtain ⟨u1, ⟨e9, rfl, hX⟩, rfl⟩ := hX
    rcases hX with ⟨rfl, hX⟩
    refine kvx_catch (nm := "java/lang/IllegalStateException") X htb [(⟨0, 11, 12, 82⟩ : ExceptionTableEntry), (⟨0, 11, 18, 84⟩ : ExceptionTableEntry)] (⟨0, 11, 24, 86⟩ : ExceptionTableEntry) [(⟨0, 11, 30, 88⟩ : ExceptionTableEntry), (⟨0, 11, 36, 90⟩ : ExceptionTableEntry)] rfl (fun z hz => by
        simp only [List.mem_cons, List.not_mem_nil, or_false] at hz
        rcases hz with rfl | rfl
        · exact ⟨by decide, _, (List.mem_append_right _ (List.mem_of_getElem? (i := 0) rfl)), by decide +kernel⟩
        · exact ⟨by decide, _, (List.mem_append_right _ (List.mem_of_getElem? (i := 1) rfl)), by decide +kernel⟩) (by decide) (by decide) (List.mem_append_right _ (List.mem_of_getElem? (i := 2) rfl)) (by decide +kernel) (fun q9 => ?_)
    show kv dd g _ _ 24 [(0, .ref (ad 0)), (1, .int 2), (2, .int u0), (3, .int u1), (4, .int u2), (5, .int u3)] [.ref q9] (jk (ks, ad, cE dd E e9) wr wx) (jd (ks, ad, cE dd E e9) wr wx) (jE (ks, ad, cE dd E e9) wr wx)
    refine kv_astore (lv2 := (6, .ref q9) :: [(0, .ref (ad 0)), (1, .int 2), (2, .int u0), (3, .int u1), (4, .int u2), (5, .int u3)]) X dL_deed_24 (by rw [hnL]; decide) rfl ?_
    refine kv_sipush (v := -2003) X dL_deed_26 (by decide) ?_
    exact kv_ireturn X hr (Nat.le_of_ble_eq_true rfl) (Nat.le_of_ble_eq_true rfl) ⟨(ks, ad, cE dd E e9), ⟨by unfold rb; decide, ⟨M, nC, nW, cn, nm, mn, me, li, rl, LP_mk e9 hI hXp hO hR hC hT hL hW hV hM, hon, hf⟩⟩, rfl⟩ dL_deed_29
  ·
    obtain ⟨hn, ⟨h0, hA⟩, rfl⟩ := hp
    exact kv_ireturn X hr (Nat.le_of_ble_eq_true rfl) (Nat.le_of_ble_eq_true rfl) ⟨z, ⟨rb_n (by omega), ⟨_, _, _, _, _, _, _, _, _, ⟨rI_addCrew hI hn, hXp, cAll_s2 hA (fun _ _ => rfl), h0⟩, hon, hf⟩⟩, rfl⟩ dL_deed_11
set_option maxRecDepth 100000 in
set_option maxHeartbeats 4000000 in
theorem d_addMember (l : Launch) {dd : kDD} {c : kT} (wr wx : kT) {xa nR nt nL nV nM : Nat} {f : Nat → Int32} (h : LQ dd c xa nR nt nL nV nM f) (v x q u0 : Int32)  : kCi l yL_deed (wsL_deed ++ kHp) ({ frames := 13, cells := 12, slots := 170, locals := 300 } : Room) 12 170 dd [.ref xa, .int 3, .int v, .int x, .int q, .int u0] (jk c wr wx, jd c wr wx, jE c wr wx) (kQi (S := kT) (fun r z => rb r ∧ LQ dd z xa nR nt nL nV nM f) (fun z => jk z wr wx) (fun z => jd z wr wx) (fun z => jE z wr wx)) := by
  obtain ⟨M, nC, nW, cn, nm, mn, me, li, rl, hLP, hon, hf⟩ := h
  obtain ⟨ks, ad, E, e, hks, hcf, rfl, hI, hXp, hO, hR, hC, hT, hL, hW, hV, hM⟩ := LP_open hLP
  have bb := rI_b hI
  obtain ⟨iR, iC, iT, iL, iW, iV, iM, hcn, hnm, hmn, hme, hs2, hli, hB, hpk, hmI, hmR, hmIc, hmRc, hlG⟩ := rI_all hI
  rw [JW_cf hcf]
  refine kMetiW (ws' := _) (cc := cL_deed) (maxL := 7) (rt := .int) (by decide) rfl (Nat.le_of_ble_eq_true rfl) (fun g X hr htb hnL hRR hl0 => ?_)
  show kv dd g 0 0 0 [(0, .ref (ad 0)), (1, .int 3), (2, .int v), (3, .int x), (4, .int q), (5, .int u0)] [] (jk (ks, ad, cE dd E e) wr wx) (jd (ks, ad, cE dd E e) wr wx) (jE (ks, ad, cE dd E e) wr wx)
  refine kv_aload_n X 0 dL_deed_0 rfl rfl ?_
  refine kv_iload_n X 1 dL_deed_1 rfl rfl ?_
  refine kv_iload_n X 2 dL_deed_2 rfl rfl ?_
  refine kv_iload_n X 3 dL_deed_3 rfl rfl ?_
  refine kv_iload X 4 dL_deed_4 rfl ?_
  refine kv_iload X 5 dL_deed_6 rfl ?_
  refine kv_calliXSc (As := [.ref (ad 0), .int 3, .int v, .int x, .int q, .int u0]) [] X (c_L_plain_addMember l dd ks ad E e wr wx hks M nR nC nt nL nW nV nM cn nm mn me li rl (M.1 24) hO hR hC hT hL hW hV hM hB (cmI (M.2.1 22) nV) (cmI (M.2.1 23) nV) hmIc hmRc hpk v x q u0) hl0 (kCS_of X 6 (goodIn_ext gL_deed_L_plain) rfl rfl rfl (by decide +kernel) hRR ⟨(Nat.le_of_ble_eq_true rfl), (Nat.le_of_ble_eq_true rfl)⟩) rfl rfl (Nat.le_of_ble_eq_true rfl) hRR ⟨(Nat.le_of_ble_eq_true rfl), (Nat.le_of_ble_eq_true rfl)⟩ dL_deed_8 (fun X9 u hX => ?_) (fun r9 z hp => ?_)
  ·
    obtain ⟨u1, ⟨e9, rfl, hX⟩, rfl⟩ := hX
    rcases hX with ⟨rfl, hX⟩ | ⟨rfl, hX⟩ | ⟨rfl, hX⟩ | ⟨rfl, hX⟩
    ·
      refine kvx_catch (nm := "java/lang/IndexOutOfBoundsException") X htb [] (⟨0, 11, 12, 82⟩ : ExceptionTableEntry) [(⟨0, 11, 18, 84⟩ : ExceptionTableEntry), (⟨0, 11, 24, 86⟩ : ExceptionTableEntry), (⟨0, 11, 30, 88⟩ : ExceptionTableEntry), (⟨0, 11, 36, 90⟩ : ExceptionTableEntry)] rfl (fun z hz => nomatch hz) (by decide) (by decide) (List.mem_append_right _ (List.mem_of_getElem? (i := 0) rfl)) (by decide +kernel) (fun q9 => ?_)
      show kv dd g _ _ 12 [(0, .ref (ad 0)), (1, .int 3), (2, .int v), (3, .int x), (4, .int q), (5, .int u0)] [.ref q9] (jk (ks, ad, cE dd E e9) wr wx) (jd (ks, ad, cE dd E e9) wr wx) (jE (ks, ad, cE dd E e9) wr wx)
      refine kv_astore (lv2 := (6, .ref q9) :: [(0, .ref (ad 0)), (1, .int 3), (2, .int v), (3, .int x), (4, .int q), (5, .int u0)]) X dL_deed_12 (by rw [hnL]; decide) rfl ?_
      refine kv_sipush (v := -2001) X dL_deed_14 (by decide) ?_
      exact kv_ireturn X hr (Nat.le_of_ble_eq_true rfl) (Nat.le_of_ble_eq_true rfl) ⟨(ks, ad, cE dd E e9), ⟨by unfold rb; decide, ⟨M, nC, nW, cn, nm, mn, me, li, rl, LP_mk e9 hI hXp hO hR hC hT hL hW hV hM, hon, hf⟩⟩, rfl⟩ dL_deed_17
    ·
      refine kvx_catch (nm := "java/lang/IllegalArgumentException") X htb [(⟨0, 11, 12, 82⟩ : ExceptionTableEntry)] (⟨0, 11, 18, 84⟩ : ExceptionTableEntry) [(⟨0, 11, 24, 86⟩ : ExceptionTableEntry), (⟨0, 11, 30, 88⟩ : ExceptionTableEntry), (⟨0, 11, 36, 90⟩ : ExceptionTableEntry)] rfl (fun z hz => by
          simp only [List.mem_cons, List.not_mem_nil, or_false] at hz
          rcases hz with rfl
          · exact ⟨by decide, _, (List.mem_append_right _ (List.mem_of_getElem? (i := 0) rfl)), by decide +kernel⟩) (by decide) (by decide) (List.mem_append_right _ (List.mem_of_getElem? (i := 1) rfl)) (by decide +kernel) (fun q9 => ?_)
      show kv dd g _ _ 18 [(0, .ref (ad 0)), (1, .int 3), (2, .int v), (3, .int x), (4, .int q), (5, .int u0)] [.ref q9] (jk (ks, ad, cE dd E e9) wr wx) (jd (ks, ad, cE dd E e9) wr wx) (jE (ks, ad, cE dd E e9) wr wx)
      refine kv_astore (lv2 := (6, .ref q9) :: [(0, .ref (ad 0)), (1, .int 3), (2, .int v), (3, .int x), (4, .int q), (5, .int u0)]) X dL_deed_18 (by rw [hnL]; decide) rfl ?_
      refine kv_sipush (v := -2002) X dL_deed_20 (by decide) ?_
      exact kv_ireturn X hr (Nat.le_of_ble_eq_true rfl) (Nat.le_of_ble_eq_true rfl) ⟨(ks, ad, cE dd E e9), ⟨by unfold rb; decide, ⟨M, nC, nW, cn, nm, mn, me, li, rl, LP_mk e9 hI hXp hO hR hC hT hL hW hV hM, hon, hf⟩⟩, rfl⟩ dL_deed_23
    ·
      refine kvx_catch (nm := "java/lang/UnsupportedOperationException") X htb [(⟨0, 11, 12, 82⟩ : ExceptionTableEntry), (⟨0, 11, 18, 84⟩ : ExceptionTableEntry), (⟨0, 11, 24, 86⟩ : ExceptionTableEntry)] (⟨0, 11, 30, 88⟩ : ExceptionTableEntry) [(⟨0, 11, 36, 90⟩ : ExceptionTableEntry)] rfl (fun z hz => by
          simp only [List.mem_cons, List.not_mem_nil, or_false] at hz
          rcases hz with rfl | rfl | rfl
          · exact ⟨by decide, _, (List.mem_append_right _ (List.mem_of_getElem? (i := 0) rfl)), by decide +kernel⟩
          · exact ⟨by decide, _, (List.mem_append_right _ (List.mem_of_getElem? (i := 1) rfl)), by decide +kernel⟩
          · exact ⟨by decide, _, (List.mem_append_right _ (List.mem_of_getElem? (i := 2) rfl)), by decide +kernel⟩) (by decide) (by decide) (List.mem_append_right _ (List.mem_of_getElem? (i := 3) rfl)) (by decide +kernel) (fun q9 => ?_)
      show kv dd g _ _ 30 [(0, .ref (ad 0)), (1, .int 3), (2, .int v), (3, .int x), (4, .int q), (5, .int u0)] [.ref q9] (jk (ks, ad, cE dd E e9) wr wx) (jd (ks, ad, cE dd E e9) wr wx) (jE (ks, ad, cE dd E e9) wr wx)
      refine kv_astore (lv2 := (6, .ref q9) :: [(0, .ref (ad 0)), (1, .int 3), (2, .int v), (3, .int x), (4, .int q), (5, .int u0)]) X dL_deed_30 (by rw [hnL]; decide) rfl ?_
      refine kv_sipush (v := -2004) X dL_deed_32 (by decide) ?_
      exact kv_ireturn X hr (Nat.le_of_ble_eq_true rfl) (Nat.le_of_ble_eq_true rfl) ⟨(ks, ad, cE dd E e9), ⟨by unfold rb; decide, ⟨M, nC, nW, cn, nm, mn, me, li, rl, LP_mk e9 hI hXp hO hR hC hT hL hW hV hM, hon, hf⟩⟩, rfl⟩ dL_deed_35
    ·
      refine kvx_catch (nm := "java/lang/IllegalStateException") X htb [(⟨0, 11, 12, 82⟩ : ExceptionTableEntry), (⟨0, 11, 18, 84⟩ : ExceptionTableEntry)] (⟨0, 11, 24, 86⟩ : ExceptionTableEntry) [(⟨0, 11, 30, 88⟩ : ExceptionTableEntry), (⟨0, 11, 36, 90⟩ : ExceptionTableEntry)] rfl (fun z hz => by
          simp only [List.mem_cons, List.not_mem_nil, or_false] at hz
          rcases hz with rfl | rfl
          · exact ⟨by decide, _, (List.mem_append_right _ (List.mem_of_getElem? (i := 0) rfl)), by decide +kernel⟩
          · exact ⟨by decide, _, (List.mem_append_right _ (List.mem_of_getElem? (i := 1) rfl)), by decide +kernel⟩) (by decide) (by decide) (List.mem_append_right _ (List.mem_of_getElem? (i := 2) rfl)) (by decide +kernel) (fun q9 => ?_)
      show kv dd g _ _ 24 [(0, .ref (ad 0)), (1, .int 3), (2, .int v), (3, .int x), (4, .int q), (5, .int u0)] [.ref q9] (jk (ks, ad, cE dd E e9) wr wx) (jd (ks, ad, cE dd E e9) wr wx) (jE (ks, ad, cE dd E e9) wr wx)
      refine kv_astore (lv2 := (6, .ref q9) :: [(0, .ref (ad 0)), (1, .int 3), (2, .int v), (3, .int x), (4, .int q), (5, .int u0)]) X dL_deed_24 (by rw [hnL]; decide) rfl ?_
      refine kv_sipush (v := -2003) X dL_deed_26 (by decide) ?_
      exact kv_ireturn X hr (Nat.le_of_ble_eq_true rfl) (Nat.le_of_ble_eq_true rfl) ⟨(ks, ad, cE dd E e9), ⟨by unfold rb; decide, ⟨M, nC, nW, cn, nm, mn, me, li, rl, LP_mk e9 hI hXp hO hR hC hT hL hW hV hM, hon, hf⟩⟩, rfl⟩ dL_deed_29
  ·
    obtain ⟨j, j2, ⟨hj, hj2, rfl, rfl, hq⟩, ⟨hm1, hm2, hm3⟩, ⟨h0, hA⟩, rfl⟩ := hp
    exact kv_ireturn X hr (Nat.le_of_ble_eq_true rfl) (Nat.le_of_ble_eq_true rfl) ⟨z, ⟨rb_n (by omega), ⟨_, _, _, _, _, _, _, _, _, ⟨rI_addMember hI hj hj2 hq hm3, hXp, cAll_s2 hA (fun _ _ => rfl), h0⟩, hon, hf⟩⟩, rfl⟩ dL_deed_11
set_option maxRecDepth 100000 in
set_option maxHeartbeats 4000000 in
theorem d_addItem (l : Launch) {dd : kDD} {c : kT} (wr wx : kT) {xa nR nt nL nV nM : Nat} {f : Nat → Int32} (h : LQ dd c xa nR nt nL nV nM f) (t u0 u1 u2 : Int32) (ht0 : 0 ≤ t ∧ t ≤ 5) (hnt : nt < 12) : kCi l yL_deed (wsL_deed ++ kHp) ({ frames := 13, cells := 12, slots := 170, locals := 300 } : Room) 12 170 dd [.ref xa, .int 4, .int t, .int u0, .int u1, .int u2] (jk c wr wx, jd c wr wx, jE c wr wx) (kQi (S := kT) (fun r z => r = nI nt ∧ LQ dd z xa nR (nt + 1) nL nV nM f) (fun z => jk z wr wx) (fun z => jd z wr wx) (fun z => jE z wr wx)) := by
  obtain ⟨M, nC, nW, cn, nm, mn, me, li, rl, hLP, hon, hf⟩ := h
  obtain ⟨ks, ad, E, e, hks, hcf, rfl, hI, hXp, hO, hR, hC, hT, hL, hW, hV, hM⟩ := LP_open hLP
  have bb := rI_b hI
  obtain ⟨iR, iC, iT, iL, iW, iV, iM, hcn, hnm, hmn, hme, hs2, hli, hB, hpk, hmI, hmR, hmIc, hmRc, hlG⟩ := rI_all hI
  rw [JW_cf hcf]
  refine kMetiW (ws' := _) (cc := cL_deed) (maxL := 7) (rt := .int) (by decide) rfl (Nat.le_of_ble_eq_true rfl) (fun g X hr htb hnL hRR hl0 => ?_)
  show kv dd g 0 0 0 [(0, .ref (ad 0)), (1, .int 4), (2, .int t), (3, .int u0), (4, .int u1), (5, .int u2)] [] (jk (ks, ad, cE dd E e) wr wx) (jd (ks, ad, cE dd E e) wr wx) (jE (ks, ad, cE dd E e) wr wx)
  refine kv_aload_n X 0 dL_deed_0 rfl rfl ?_
  refine kv_iload_n X 1 dL_deed_1 rfl rfl ?_
  refine kv_iload_n X 2 dL_deed_2 rfl rfl ?_
  refine kv_iload_n X 3 dL_deed_3 rfl rfl ?_
  refine kv_iload X 4 dL_deed_4 rfl ?_
  refine kv_iload X 5 dL_deed_6 rfl ?_
  refine kv_calliXSc (As := [.ref (ad 0), .int 4, .int t, .int u0, .int u1, .int u2]) [] X (c_L_plain_addItem l dd ks ad E e wr wx hks M nR nC nt nL nW nV nM cn nm mn me li rl (M.1 24) hO hR hC hT hL hW hV hM hB (cmI (M.2.1 22) nV) (cmI (M.2.1 23) nV) hmIc hmRc hpk t u0 u1 u2) hl0 (kCS_of X 6 (goodIn_ext gL_deed_L_plain) rfl rfl rfl (by decide +kernel) hRR ⟨(Nat.le_of_ble_eq_true rfl), (Nat.le_of_ble_eq_true rfl)⟩) rfl rfl (Nat.le_of_ble_eq_true rfl) hRR ⟨(Nat.le_of_ble_eq_true rfl), (Nat.le_of_ble_eq_true rfl)⟩ dL_deed_8 (fun X9 u hX => ?_) (fun r9 z hp => ?_)
  ·
    obtain ⟨u1, ⟨e9, rfl, hX⟩, rfl⟩ := hX
    rcases hX with ⟨rfl, hX⟩ | ⟨rfl, hX⟩
    ·
      exact absurd ht0 hX
    ·
      exact absurd hX.2 (by omega)
  ·
    obtain ⟨hv, hn, ⟨h0, hA⟩, rfl⟩ := hp
    exact kv_ireturn X hr (Nat.le_of_ble_eq_true rfl) (Nat.le_of_ble_eq_true rfl) ⟨z, ⟨rfl, ⟨_, _, _, _, _, _, _, _, _, ⟨rI_addItem hI ht0 hnt, pX_item hXp, cAll_s2 hA (fun _ _ => rfl), h0⟩, hon, hf⟩⟩, rfl⟩ dL_deed_11
set_option maxRecDepth 100000 in
set_option maxHeartbeats 4000000 in
theorem d_addPart (l : Launch) {dd : kDD} {c : kT} (wr wx : kT) {xa nR nt nL nV nM : Nat} {f : Nat → Int32} (h : LQ dd c xa nR nt nL nV nM f) (v x q u0 : Int32)  : kCi l yL_deed (wsL_deed ++ kHp) ({ frames := 13, cells := 12, slots := 170, locals := 300 } : Room) 12 170 dd [.ref xa, .int 5, .int v, .int x, .int q, .int u0] (jk c wr wx, jd c wr wx, jE c wr wx) (kQi (S := kT) (fun r z => rb r ∧ LQ dd z xa nR nt nL nV nM f) (fun z => jk z wr wx) (fun z => jd z wr wx) (fun z => jE z wr wx)) := by
  obtain ⟨M, nC, nW, cn, nm, mn, me, li, rl, hLP, hon, hf⟩ := h
  obtain ⟨ks, ad, E, e, hks, hcf, rfl, hI, hXp, hO, hR, hC, hT, hL, hW, hV, hM⟩ := LP_open hLP
  have bb := rI_b hI
  obtain ⟨iR, iC, iT, iL, iW, iV, iM, hcn, hnm, hmn, hme, hs2, hli, hB, hpk, hmI, hmR, hmIc, hmRc, hlG⟩ := rI_all hI
  rw [JW_cf hcf]
  refine kMetiW (ws' := _) (cc := cL_deed) (maxL := 7) (rt := .int) (by decide) rfl (Nat.le_of_ble_eq_true rfl) (fun g X hr htb hnL hRR hl0 => ?_)
  show kv dd g 0 0 0 [(0, .ref (ad 0)), (1, .int 5), (2, .int v), (3, .int x), (4, .int q), (5, .int u0)] [] (jk (ks, ad, cE dd E e) wr wx) (jd (ks, ad, cE dd E e) wr wx) (jE (ks, ad, cE dd E e) wr wx)
  refine kv_aload_n X 0 dL_deed_0 rfl rfl ?_
  refine kv_iload_n X 1 dL_deed_1 rfl rfl ?_
  refine kv_iload_n X 2 dL_deed_2 rfl rfl ?_
  refine kv_iload_n X 3 dL_deed_3 rfl rfl ?_
  refine kv_iload X 4 dL_deed_4 rfl ?_
  refine kv_iload X 5 dL_deed_6 rfl ?_
  refine kv_calliXSc (As := [.ref (ad 0), .int 5, .int v, .int x, .int q, .int u0]) [] X (c_L_plain_addPart l dd ks ad E e wr wx hks M nR nC nt nL nW nV nM cn nm mn me li rl (M.1 24) hO hR hC hT hL hW hV hM hB (cmI (M.2.1 22) nV) (cmI (M.2.1 23) nV) hmIc hmRc hpk v x q u0) hl0 (kCS_of X 6 (goodIn_ext gL_deed_L_plain) rfl rfl rfl (by decide +kernel) hRR ⟨(Nat.le_of_ble_eq_true rfl), (Nat.le_of_ble_eq_true rfl)⟩) rfl rfl (Nat.le_of_ble_eq_true rfl) hRR ⟨(Nat.le_of_ble_eq_true rfl), (Nat.le_of_ble_eq_true rfl)⟩ dL_deed_8 (fun X9 u hX => ?_) (fun r9 z hp => ?_)
  ·
    obtain ⟨u1, hX, rfl⟩ := hX
    rcases hX with ⟨⟨h0, hA⟩, ⟨rfl, hX⟩ | ⟨rfl, hX⟩ | ⟨rfl, hX⟩⟩ | ⟨rfl, j, j2, ⟨hj, hj2, rfl, rfl, hq⟩, hcj, hno, h0, hA⟩
    ·
      refine kvx_catch (nm := "java/lang/IndexOutOfBoundsException") X htb [] (⟨0, 11, 12, 82⟩ : ExceptionTableEntry) [(⟨0, 11, 18, 84⟩ : ExceptionTableEntry), (⟨0, 11, 24, 86⟩ : ExceptionTableEntry), (⟨0, 11, 30, 88⟩ : ExceptionTableEntry), (⟨0, 11, 36, 90⟩ : ExceptionTableEntry)] rfl (fun z hz => nomatch hz) (by decide) (by decide) (List.mem_append_right _ (List.mem_of_getElem? (i := 0) rfl)) (by decide +kernel) (fun q9 => ?_)
      show kv dd g _ _ 12 [(0, .ref (ad 0)), (1, .int 5), (2, .int v), (3, .int x), (4, .int q), (5, .int u0)] [.ref q9] (jk u1 wr wx) (jd u1 wr wx) (jE u1 wr wx)
      refine kv_astore (lv2 := (6, .ref q9) :: [(0, .ref (ad 0)), (1, .int 5), (2, .int v), (3, .int x), (4, .int q), (5, .int u0)]) X dL_deed_12 (by rw [hnL]; decide) rfl ?_
      refine kv_sipush (v := -2001) X dL_deed_14 (by decide) ?_
      exact kv_ireturn X hr (Nat.le_of_ble_eq_true rfl) (Nat.le_of_ble_eq_true rfl) ⟨u1, ⟨by unfold rb; decide, ⟨M, nC, nW, cn, nm, mn, me, li, rl, ⟨hI, hXp, hA, h0⟩, hon, hf⟩⟩, rfl⟩ dL_deed_17
    ·
      refine kvx_catch (nm := "java/lang/IllegalArgumentException") X htb [(⟨0, 11, 12, 82⟩ : ExceptionTableEntry)] (⟨0, 11, 18, 84⟩ : ExceptionTableEntry) [(⟨0, 11, 24, 86⟩ : ExceptionTableEntry), (⟨0, 11, 30, 88⟩ : ExceptionTableEntry), (⟨0, 11, 36, 90⟩ : ExceptionTableEntry)] rfl (fun z hz => by
          simp only [List.mem_cons, List.not_mem_nil, or_false] at hz
          rcases hz with rfl
          · exact ⟨by decide, _, (List.mem_append_right _ (List.mem_of_getElem? (i := 0) rfl)), by decide +kernel⟩) (by decide) (by decide) (List.mem_append_right _ (List.mem_of_getElem? (i := 1) rfl)) (by decide +kernel) (fun q9 => ?_)
      show kv dd g _ _ 18 [(0, .ref (ad 0)), (1, .int 5), (2, .int v), (3, .int x), (4, .int q), (5, .int u0)] [.ref q9] (jk u1 wr wx) (jd u1 wr wx) (jE u1 wr wx)
      refine kv_astore (lv2 := (6, .ref q9) :: [(0, .ref (ad 0)), (1, .int 5), (2, .int v), (3, .int x), (4, .int q), (5, .int u0)]) X dL_deed_18 (by rw [hnL]; decide) rfl ?_
      refine kv_sipush (v := -2002) X dL_deed_20 (by decide) ?_
      exact kv_ireturn X hr (Nat.le_of_ble_eq_true rfl) (Nat.le_of_ble_eq_true rfl) ⟨u1, ⟨by unfold rb; decide, ⟨M, nC, nW, cn, nm, mn, me, li, rl, ⟨hI, hXp, hA, h0⟩, hon, hf⟩⟩, rfl⟩ dL_deed_23
    ·
      refine kvx_catch (nm := "java/lang/IllegalStateException") X htb [(⟨0, 11, 12, 82⟩ : ExceptionTableEntry), (⟨0, 11, 18, 84⟩ : ExceptionTableEntry)] (⟨0, 11, 24, 86⟩ : ExceptionTableEntry) [(⟨0, 11, 30, 88⟩ : ExceptionTableEntry), (⟨0, 11, 36, 90⟩ : ExceptionTableEntry)] rfl (fun z hz => by
          simp only [List.mem_cons, List.not_mem_nil, or_false] at hz
          rcases hz with rfl | rfl
          · exact ⟨by decide, _, (List.mem_append_right _ (List.mem_of_getElem? (i := 0) rfl)), by decide +kernel⟩
          · exact ⟨by decide, _, (List.mem_append_right _ (List.mem_of_getElem? (i := 1) rfl)), by decide +kernel⟩) (by decide) (by decide) (List.mem_append_right _ (List.mem_of_getElem? (i := 2) rfl)) (by decide +kernel) (fun q9 => ?_)
      show kv dd g _ _ 24 [(0, .ref (ad 0)), (1, .int 5), (2, .int v), (3, .int x), (4, .int q), (5, .int u0)] [.ref q9] (jk u1 wr wx) (jd u1 wr wx) (jE u1 wr wx)
      refine kv_astore (lv2 := (6, .ref q9) :: [(0, .ref (ad 0)), (1, .int 5), (2, .int v), (3, .int x), (4, .int q), (5, .int u0)]) X dL_deed_24 (by rw [hnL]; decide) rfl ?_
      refine kv_sipush (v := -2003) X dL_deed_26 (by decide) ?_
      exact kv_ireturn X hr (Nat.le_of_ble_eq_true rfl) (Nat.le_of_ble_eq_true rfl) ⟨u1, ⟨by unfold rb; decide, ⟨M, nC, nW, cn, nm, mn, me, li, rl, ⟨hI, hXp, hA, h0⟩, hon, hf⟩⟩, rfl⟩ dL_deed_29
    ·
      refine kvx_catch (nm := "java/lang/UnsupportedOperationException") X htb [(⟨0, 11, 12, 82⟩ : ExceptionTableEntry), (⟨0, 11, 18, 84⟩ : ExceptionTableEntry), (⟨0, 11, 24, 86⟩ : ExceptionTableEntry)] (⟨0, 11, 30, 88⟩ : ExceptionTableEntry) [(⟨0, 11, 36, 90⟩ : ExceptionTableEntry)] rfl (fun z hz => by
          simp only [List.mem_cons, List.not_mem_nil, or_false] at hz
          rcases hz with rfl | rfl | rfl
          · exact ⟨by decide, _, (List.mem_append_right _ (List.mem_of_getElem? (i := 0) rfl)), by decide +kernel⟩
          · exact ⟨by decide, _, (List.mem_append_right _ (List.mem_of_getElem? (i := 1) rfl)), by decide +kernel⟩
          · exact ⟨by decide, _, (List.mem_append_right _ (List.mem_of_getElem? (i := 2) rfl)), by decide +kernel⟩) (by decide) (by decide) (List.mem_append_right _ (List.mem_of_getElem? (i := 3) rfl)) (by decide +kernel) (fun q9 => ?_)
      show kv dd g _ _ 30 [(0, .ref (ad 0)), (1, .int 5), (2, .int (nI j)), (3, .int (nI j2)), (4, .int q), (5, .int u0)] [.ref q9] (jk u1 wr wx) (jd u1 wr wx) (jE u1 wr wx)
      refine kv_astore (lv2 := (6, .ref q9) :: [(0, .ref (ad 0)), (1, .int 5), (2, .int (nI j)), (3, .int (nI j2)), (4, .int q), (5, .int u0)]) X dL_deed_30 (by rw [hnL]; decide) rfl ?_
      refine kv_sipush (v := -2004) X dL_deed_32 (by decide) ?_
      exact kv_ireturn X hr (Nat.le_of_ble_eq_true rfl) (Nat.le_of_ble_eq_true rfl) ⟨u1, ⟨by unfold rb; decide, ⟨_, _, _, _, _, _, _, _, _, ⟨rI_part0 (q := q) hI hj hj2 hcj, pX_part0 hXp hcj (fun i hi => ((rI_all hI).2.2.2.2.2.2.2.1 i (by have := (rI_b hI).2.2.1; omega)).2), cAll_s2 hA (fun k h12 => by show va_up _ 12 _ k = va_up _ 12 _ k; rw [va_up_ne _ _ h12, va_up_ne _ _ h12]), h0⟩, hon, hf⟩⟩, rfl⟩ dL_deed_35
  ·
    obtain ⟨j, j2, ⟨hj, hj2, rfl, rfl, hq⟩, hcj, hfx2, ⟨h0, hA⟩, rfl⟩ := hp
    exact kv_ireturn X hr (Nat.le_of_ble_eq_true rfl) (Nat.le_of_ble_eq_true rfl) ⟨z, ⟨rb_n (by have := (hfx2 j hj).1; omega), ⟨_, _, _, _, _, _, _, _, _, ⟨rI_comp hI hj ⟨Int32.le_trans (by decide) hq.1, Int32.le_trans hq.2 (by decide)⟩ hcj (Or.inl ⟨rfl, hj2⟩) hfx2, pX_comp hXp hcj (fun i hi => ((rI_all hI).2.2.2.2.2.2.2.1 i (by have := (rI_b hI).2.2.1; omega)).2) (fun _ => hq.2), cAll_s2 hA (fun _ _ => rfl), h0⟩, hon, hf⟩⟩, rfl⟩ dL_deed_11
set_option maxRecDepth 100000 in
set_option maxHeartbeats 4000000 in
theorem d_addUse (l : Launch) {dd : kDD} {c : kT} (wr wx : kT) {xa nR nt nL nV nM : Nat} {f : Nat → Int32} (h : LQ dd c xa nR nt nL nV nM f) (v x q u0 : Int32)  : kCi l yL_deed (wsL_deed ++ kHp) ({ frames := 13, cells := 12, slots := 170, locals := 300 } : Room) 12 170 dd [.ref xa, .int 6, .int v, .int x, .int q, .int u0] (jk c wr wx, jd c wr wx, jE c wr wx) (kQi (S := kT) (fun r z => rb r ∧ LQ dd z xa nR nt nL nV nM f) (fun z => jk z wr wx) (fun z => jd z wr wx) (fun z => jE z wr wx)) := by
  obtain ⟨M, nC, nW, cn, nm, mn, me, li, rl, hLP, hon, hf⟩ := h
  obtain ⟨ks, ad, E, e, hks, hcf, rfl, hI, hXp, hO, hR, hC, hT, hL, hW, hV, hM⟩ := LP_open hLP
  have bb := rI_b hI
  obtain ⟨iR, iC, iT, iL, iW, iV, iM, hcn, hnm, hmn, hme, hs2, hli, hB, hpk, hmI, hmR, hmIc, hmRc, hlG⟩ := rI_all hI
  rw [JW_cf hcf]
  refine kMetiW (ws' := _) (cc := cL_deed) (maxL := 7) (rt := .int) (by decide) rfl (Nat.le_of_ble_eq_true rfl) (fun g X hr htb hnL hRR hl0 => ?_)
  show kv dd g 0 0 0 [(0, .ref (ad 0)), (1, .int 6), (2, .int v), (3, .int x), (4, .int q), (5, .int u0)] [] (jk (ks, ad, cE dd E e) wr wx) (jd (ks, ad, cE dd E e) wr wx) (jE (ks, ad, cE dd E e) wr wx)
  refine kv_aload_n X 0 dL_deed_0 rfl rfl ?_
  refine kv_iload_n X 1 dL_deed_1 rfl rfl ?_
  refine kv_iload_n X 2 dL_deed_2 rfl rfl ?_
  refine kv_iload_n X 3 dL_deed_3 rfl rfl ?_
  refine kv_iload X 4 dL_deed_4 rfl ?_
  refine kv_iload X 5 dL_deed_6 rfl ?_
  refine kv_calliXSc (As := [.ref (ad 0), .int 6, .int v, .int x, .int q, .int u0]) [] X (c_L_plain_addUse l dd ks ad E e wr wx hks M nR nC nt nL nW nV nM cn nm mn me li rl (M.1 24) hO hR hC hT hL hW hV hM hB (cmI (M.2.1 22) nV) (cmI (M.2.1 23) nV) hmIc hmRc hpk v x q u0) hl0 (kCS_of X 6 (goodIn_ext gL_deed_L_plain) rfl rfl rfl (by decide +kernel) hRR ⟨(Nat.le_of_ble_eq_true rfl), (Nat.le_of_ble_eq_true rfl)⟩) rfl rfl (Nat.le_of_ble_eq_true rfl) hRR ⟨(Nat.le_of_ble_eq_true rfl), (Nat.le_of_ble_eq_true rfl)⟩ dL_deed_8 (fun X9 u hX => ?_) (fun r9 z hp => ?_)
  ·
    obtain ⟨u1, ⟨⟨h0, hA⟩, hX⟩, rfl⟩ := hX
    rcases hX with ⟨rfl, hX⟩ | ⟨rfl, hX⟩ | ⟨rfl, hX⟩
    ·
      refine kvx_catch (nm := "java/lang/IndexOutOfBoundsException") X htb [] (⟨0, 11, 12, 82⟩ : ExceptionTableEntry) [(⟨0, 11, 18, 84⟩ : ExceptionTableEntry), (⟨0, 11, 24, 86⟩ : ExceptionTableEntry), (⟨0, 11, 30, 88⟩ : ExceptionTableEntry), (⟨0, 11, 36, 90⟩ : ExceptionTableEntry)] rfl (fun z hz => nomatch hz) (by decide) (by decide) (List.mem_append_right _ (List.mem_of_getElem? (i := 0) rfl)) (by decide +kernel) (fun q9 => ?_)
      show kv dd g _ _ 12 [(0, .ref (ad 0)), (1, .int 6), (2, .int v), (3, .int x), (4, .int q), (5, .int u0)] [.ref q9] (jk u1 wr wx) (jd u1 wr wx) (jE u1 wr wx)
      refine kv_astore (lv2 := (6, .ref q9) :: [(0, .ref (ad 0)), (1, .int 6), (2, .int v), (3, .int x), (4, .int q), (5, .int u0)]) X dL_deed_12 (by rw [hnL]; decide) rfl ?_
      refine kv_sipush (v := -2001) X dL_deed_14 (by decide) ?_
      exact kv_ireturn X hr (Nat.le_of_ble_eq_true rfl) (Nat.le_of_ble_eq_true rfl) ⟨u1, ⟨by unfold rb; decide, ⟨M, nC, nW, cn, nm, mn, me, li, rl, ⟨hI, hXp, hA, h0⟩, hon, hf⟩⟩, rfl⟩ dL_deed_17
    ·
      refine kvx_catch (nm := "java/lang/IllegalArgumentException") X htb [(⟨0, 11, 12, 82⟩ : ExceptionTableEntry)] (⟨0, 11, 18, 84⟩ : ExceptionTableEntry) [(⟨0, 11, 24, 86⟩ : ExceptionTableEntry), (⟨0, 11, 30, 88⟩ : ExceptionTableEntry), (⟨0, 11, 36, 90⟩ : ExceptionTableEntry)] rfl (fun z hz => by
          simp only [List.mem_cons, List.not_mem_nil, or_false] at hz
          rcases hz with rfl
          · exact ⟨by decide, _, (List.mem_append_right _ (List.mem_of_getElem? (i := 0) rfl)), by decide +kernel⟩) (by decide) (by decide) (List.mem_append_right _ (List.mem_of_getElem? (i := 1) rfl)) (by decide +kernel) (fun q9 => ?_)
      show kv dd g _ _ 18 [(0, .ref (ad 0)), (1, .int 6), (2, .int v), (3, .int x), (4, .int q), (5, .int u0)] [.ref q9] (jk u1 wr wx) (jd u1 wr wx) (jE u1 wr wx)
      refine kv_astore (lv2 := (6, .ref q9) :: [(0, .ref (ad 0)), (1, .int 6), (2, .int v), (3, .int x), (4, .int q), (5, .int u0)]) X dL_deed_18 (by rw [hnL]; decide) rfl ?_
      refine kv_sipush (v := -2002) X dL_deed_20 (by decide) ?_
      exact kv_ireturn X hr (Nat.le_of_ble_eq_true rfl) (Nat.le_of_ble_eq_true rfl) ⟨u1, ⟨by unfold rb; decide, ⟨M, nC, nW, cn, nm, mn, me, li, rl, ⟨hI, hXp, hA, h0⟩, hon, hf⟩⟩, rfl⟩ dL_deed_23
    ·
      refine kvx_catch (nm := "java/lang/IllegalStateException") X htb [(⟨0, 11, 12, 82⟩ : ExceptionTableEntry), (⟨0, 11, 18, 84⟩ : ExceptionTableEntry)] (⟨0, 11, 24, 86⟩ : ExceptionTableEntry) [(⟨0, 11, 30, 88⟩ : ExceptionTableEntry), (⟨0, 11, 36, 90⟩ : ExceptionTableEntry)] rfl (fun z hz => by
          simp only [List.mem_cons, List.not_mem_nil, or_false] at hz
          rcases hz with rfl | rfl
          · exact ⟨by decide, _, (List.mem_append_right _ (List.mem_of_getElem? (i := 0) rfl)), by decide +kernel⟩
          · exact ⟨by decide, _, (List.mem_append_right _ (List.mem_of_getElem? (i := 1) rfl)), by decide +kernel⟩) (by decide) (by decide) (List.mem_append_right _ (List.mem_of_getElem? (i := 2) rfl)) (by decide +kernel) (fun q9 => ?_)
      show kv dd g _ _ 24 [(0, .ref (ad 0)), (1, .int 6), (2, .int v), (3, .int x), (4, .int q), (5, .int u0)] [.ref q9] (jk u1 wr wx) (jd u1 wr wx) (jE u1 wr wx)
      refine kv_astore (lv2 := (6, .ref q9) :: [(0, .ref (ad 0)), (1, .int 6), (2, .int v), (3, .int x), (4, .int q), (5, .int u0)]) X dL_deed_24 (by rw [hnL]; decide) rfl ?_
      refine kv_sipush (v := -2003) X dL_deed_26 (by decide) ?_
      exact kv_ireturn X hr (Nat.le_of_ble_eq_true rfl) (Nat.le_of_ble_eq_true rfl) ⟨u1, ⟨by unfold rb; decide, ⟨M, nC, nW, cn, nm, mn, me, li, rl, ⟨hI, hXp, hA, h0⟩, hon, hf⟩⟩, rfl⟩ dL_deed_29
  ·
    obtain ⟨j, j2, ⟨hj, hj2, rfl, rfl, hq⟩, hcj, ⟨h0, hA⟩, rfl⟩ := hp
    exact kv_ireturn X hr (Nat.le_of_ble_eq_true rfl) (Nat.le_of_ble_eq_true rfl) ⟨z, ⟨rb_n (by omega), ⟨_, _, _, _, _, _, _, _, _, ⟨rI_use hI hj hq hcj (Or.inl ⟨rfl, hj2⟩), pX_comp hXp hcj (fun i hi => ((rI_all hI).2.2.2.2.2.2.2.1 i (by have := (rI_b hI).2.2.1; omega)).2) (fun h => absurd h (by decide)), cAll_s2 hA (fun _ _ => rfl), h0⟩, hon, hf⟩⟩, rfl⟩ dL_deed_11
set_option maxRecDepth 100000 in
set_option maxHeartbeats 4000000 in
theorem d_addWork (l : Launch) {dd : kDD} {c : kT} (wr wx : kT) {xa nR nt nL nV nM : Nat} {f : Nat → Int32} (h : LQ dd c xa nR nt nL nV nM f) (v x q u0 : Int32)  : kCi l yL_deed (wsL_deed ++ kHp) ({ frames := 13, cells := 12, slots := 170, locals := 300 } : Room) 12 170 dd [.ref xa, .int 7, .int v, .int x, .int q, .int u0] (jk c wr wx, jd c wr wx, jE c wr wx) (kQi (S := kT) (fun r z => rb r ∧ LQ dd z xa nR nt nL nV nM f) (fun z => jk z wr wx) (fun z => jd z wr wx) (fun z => jE z wr wx)) := by
  obtain ⟨M, nC, nW, cn, nm, mn, me, li, rl, hLP, hon, hf⟩ := h
  obtain ⟨ks, ad, E, e, hks, hcf, rfl, hI, hXp, hO, hR, hC, hT, hL, hW, hV, hM⟩ := LP_open hLP
  have bb := rI_b hI
  obtain ⟨iR, iC, iT, iL, iW, iV, iM, hcn, hnm, hmn, hme, hs2, hli, hB, hpk, hmI, hmR, hmIc, hmRc, hlG⟩ := rI_all hI
  rw [JW_cf hcf]
  refine kMetiW (ws' := _) (cc := cL_deed) (maxL := 7) (rt := .int) (by decide) rfl (Nat.le_of_ble_eq_true rfl) (fun g X hr htb hnL hRR hl0 => ?_)
  show kv dd g 0 0 0 [(0, .ref (ad 0)), (1, .int 7), (2, .int v), (3, .int x), (4, .int q), (5, .int u0)] [] (jk (ks, ad, cE dd E e) wr wx) (jd (ks, ad, cE dd E e) wr wx) (jE (ks, ad, cE dd E e) wr wx)
  refine kv_aload_n X 0 dL_deed_0 rfl rfl ?_
  refine kv_iload_n X 1 dL_deed_1 rfl rfl ?_
  refine kv_iload_n X 2 dL_deed_2 rfl rfl ?_
  refine kv_iload_n X 3 dL_deed_3 rfl rfl ?_
  refine kv_iload X 4 dL_deed_4 rfl ?_
  refine kv_iload X 5 dL_deed_6 rfl ?_
  refine kv_calliXSc (As := [.ref (ad 0), .int 7, .int v, .int x, .int q, .int u0]) [] X (c_L_plain_addWork l dd ks ad E e wr wx hks M nR nC nt nL nW nV nM cn nm mn me li rl (M.1 24) hO hR hC hT hL hW hV hM hB (cmI (M.2.1 22) nV) (cmI (M.2.1 23) nV) hmIc hmRc hpk v x q u0) hl0 (kCS_of X 6 (goodIn_ext gL_deed_L_plain) rfl rfl rfl (by decide +kernel) hRR ⟨(Nat.le_of_ble_eq_true rfl), (Nat.le_of_ble_eq_true rfl)⟩) rfl rfl (Nat.le_of_ble_eq_true rfl) hRR ⟨(Nat.le_of_ble_eq_true rfl), (Nat.le_of_ble_eq_true rfl)⟩ dL_deed_8 (fun X9 u hX => ?_) (fun r9 z hp => ?_)
  ·
    obtain ⟨u1, ⟨⟨h0, hA⟩, hX⟩, rfl⟩ := hX
    rcases hX with ⟨rfl, hX⟩ | ⟨rfl, hX⟩ | ⟨rfl, hX⟩
    ·
      refine kvx_catch (nm := "java/lang/IndexOutOfBoundsException") X htb [] (⟨0, 11, 12, 82⟩ : ExceptionTableEntry) [(⟨0, 11, 18, 84⟩ : ExceptionTableEntry), (⟨0, 11, 24, 86⟩ : ExceptionTableEntry), (⟨0, 11, 30, 88⟩ : ExceptionTableEntry), (⟨0, 11, 36, 90⟩ : ExceptionTableEntry)] rfl (fun z hz => nomatch hz) (by decide) (by decide) (List.mem_append_right _ (List.mem_of_getElem? (i := 0) rfl)) (by decide +kernel) (fun q9 => ?_)
      show kv dd g _ _ 12 [(0, .ref (ad 0)), (1, .int 7), (2, .int v), (3, .int x), (4, .int q), (5, .int u0)] [.ref q9] (jk u1 wr wx) (jd u1 wr wx) (jE u1 wr wx)
      refine kv_astore (lv2 := (6, .ref q9) :: [(0, .ref (ad 0)), (1, .int 7), (2, .int v), (3, .int x), (4, .int q), (5, .int u0)]) X dL_deed_12 (by rw [hnL]; decide) rfl ?_
      refine kv_sipush (v := -2001) X dL_deed_14 (by decide) ?_
      exact kv_ireturn X hr (Nat.le_of_ble_eq_true rfl) (Nat.le_of_ble_eq_true rfl) ⟨u1, ⟨by unfold rb; decide, ⟨M, nC, nW, cn, nm, mn, me, li, rl, ⟨hI, hXp, hA, h0⟩, hon, hf⟩⟩, rfl⟩ dL_deed_17
    ·
      refine kvx_catch (nm := "java/lang/IllegalArgumentException") X htb [(⟨0, 11, 12, 82⟩ : ExceptionTableEntry)] (⟨0, 11, 18, 84⟩ : ExceptionTableEntry) [(⟨0, 11, 24, 86⟩ : ExceptionTableEntry), (⟨0, 11, 30, 88⟩ : ExceptionTableEntry), (⟨0, 11, 36, 90⟩ : ExceptionTableEntry)] rfl (fun z hz => by
          simp only [List.mem_cons, List.not_mem_nil, or_false] at hz
          rcases hz with rfl
          · exact ⟨by decide, _, (List.mem_append_right _ (List.mem_of_getElem? (i := 0) rfl)), by decide +kernel⟩) (by decide) (by decide) (List.mem_append_right _ (List.mem_of_getElem? (i := 1) rfl)) (by decide +kernel) (fun q9 => ?_)
      show kv dd g _ _ 18 [(0, .ref (ad 0)), (1, .int 7), (2, .int v), (3, .int x), (4, .int q), (5, .int u0)] [.ref q9] (jk u1 wr wx) (jd u1 wr wx) (jE u1 wr wx)
      refine kv_astore (lv2 := (6, .ref q9) :: [(0, .ref (ad 0)), (1, .int 7), (2, .int v), (3, .int x), (4, .int q), (5, .int u0)]) X dL_deed_18 (by rw [hnL]; decide) rfl ?_
      refine kv_sipush (v := -2002) X dL_deed_20 (by decide) ?_
      exact kv_ireturn X hr (Nat.le_of_ble_eq_true rfl) (Nat.le_of_ble_eq_true rfl) ⟨u1, ⟨by unfold rb; decide, ⟨M, nC, nW, cn, nm, mn, me, li, rl, ⟨hI, hXp, hA, h0⟩, hon, hf⟩⟩, rfl⟩ dL_deed_23
    ·
      refine kvx_catch (nm := "java/lang/IllegalStateException") X htb [(⟨0, 11, 12, 82⟩ : ExceptionTableEntry), (⟨0, 11, 18, 84⟩ : ExceptionTableEntry)] (⟨0, 11, 24, 86⟩ : ExceptionTableEntry) [(⟨0, 11, 30, 88⟩ : ExceptionTableEntry), (⟨0, 11, 36, 90⟩ : ExceptionTableEntry)] rfl (fun z hz => by
          simp only [List.mem_cons, List.not_mem_nil, or_false] at hz
          rcases hz with rfl | rfl
          · exact ⟨by decide, _, (List.mem_append_right _ (List.mem_of_getElem? (i := 0) rfl)), by decide +kernel⟩
          · exact ⟨by decide, _, (List.mem_append_right _ (List.mem_of_getElem? (i := 1) rfl)), by decide +kernel⟩) (by decide) (by decide) (List.mem_append_right _ (List.mem_of_getElem? (i := 2) rfl)) (by decide +kernel) (fun q9 => ?_)
      show kv dd g _ _ 24 [(0, .ref (ad 0)), (1, .int 7), (2, .int v), (3, .int x), (4, .int q), (5, .int u0)] [.ref q9] (jk u1 wr wx) (jd u1 wr wx) (jE u1 wr wx)
      refine kv_astore (lv2 := (6, .ref q9) :: [(0, .ref (ad 0)), (1, .int 7), (2, .int v), (3, .int x), (4, .int q), (5, .int u0)]) X dL_deed_24 (by rw [hnL]; decide) rfl ?_
      refine kv_sipush (v := -2003) X dL_deed_26 (by decide) ?_
      exact kv_ireturn X hr (Nat.le_of_ble_eq_true rfl) (Nat.le_of_ble_eq_true rfl) ⟨u1, ⟨by unfold rb; decide, ⟨M, nC, nW, cn, nm, mn, me, li, rl, ⟨hI, hXp, hA, h0⟩, hon, hf⟩⟩, rfl⟩ dL_deed_29
  ·
    obtain ⟨j, j2, ⟨hj, hj2, rfl, rfl, hq⟩, hcj, ⟨h0, hA⟩, rfl⟩ := hp
    exact kv_ireturn X hr (Nat.le_of_ble_eq_true rfl) (Nat.le_of_ble_eq_true rfl) ⟨z, ⟨rb_n (by omega), ⟨_, _, _, _, _, _, _, _, _, ⟨rI_use hI hj hq hcj (Or.inr ⟨rfl, hj2⟩), pX_comp hXp hcj (fun i hi => ((rI_all hI).2.2.2.2.2.2.2.1 i (by have := (rI_b hI).2.2.1; omega)).2) (fun h => absurd h (by decide)), cAll_s2 hA (fun _ _ => rfl), h0⟩, hon, hf⟩⟩, rfl⟩ dL_deed_11
set_option maxRecDepth 100000 in
set_option maxHeartbeats 4000000 in
theorem d_addLine (l : Launch) {dd : kDD} {c : kT} (wr wx : kT) {xa nR nt nL nV nM : Nat} {f : Nat → Int32} (h : LQ dd c xa nR nt nL nV nM f) (v u0 u1 u2 : Int32)  : kCi l yL_deed (wsL_deed ++ kHp) ({ frames := 13, cells := 12, slots := 170, locals := 300 } : Room) 12 170 dd [.ref xa, .int 9, .int v, .int u0, .int u1, .int u2] (jk c wr wx, jd c wr wx, jE c wr wx) (kQi (S := kT) (fun r z => (0 ≤ r ∧ LQ dd z xa nR nt (nL + 1) nV nM f) ∨ (r < 0 ∧ LQ dd z xa nR nt nL nV nM f)) (fun z => jk z wr wx) (fun z => jd z wr wx) (fun z => jE z wr wx)) := by
  obtain ⟨M, nC, nW, cn, nm, mn, me, li, rl, hLP, hon, hf⟩ := h
  obtain ⟨ks, ad, E, e, hks, hcf, rfl, hI, hXp, hO, hR, hC, hT, hL, hW, hV, hM⟩ := LP_open hLP
  have bb := rI_b hI
  obtain ⟨iR, iC, iT, iL, iW, iV, iM, hcn, hnm, hmn, hme, hs2, hli, hB, hpk, hmI, hmR, hmIc, hmRc, hlG⟩ := rI_all hI
  rw [JW_cf hcf]
  refine kMetiW (ws' := _) (cc := cL_deed) (maxL := 7) (rt := .int) (by decide) rfl (Nat.le_of_ble_eq_true rfl) (fun g X hr htb hnL hRR hl0 => ?_)
  show kv dd g 0 0 0 [(0, .ref (ad 0)), (1, .int 9), (2, .int v), (3, .int u0), (4, .int u1), (5, .int u2)] [] (jk (ks, ad, cE dd E e) wr wx) (jd (ks, ad, cE dd E e) wr wx) (jE (ks, ad, cE dd E e) wr wx)
  refine kv_aload_n X 0 dL_deed_0 rfl rfl ?_
  refine kv_iload_n X 1 dL_deed_1 rfl rfl ?_
  refine kv_iload_n X 2 dL_deed_2 rfl rfl ?_
  refine kv_iload_n X 3 dL_deed_3 rfl rfl ?_
  refine kv_iload X 4 dL_deed_4 rfl ?_
  refine kv_iload X 5 dL_deed_6 rfl ?_
  refine kv_calliXSc (As := [.ref (ad 0), .int 9, .int v, .int u0, .int u1, .int u2]) [] X (c_L_plain_addLine l dd ks ad E e wr wx hks M nR nC nt nL nW nV nM cn nm mn me li rl (M.1 24) hO hR hC hT hL hW hV hM hB (cmI (M.2.1 22) nV) (cmI (M.2.1 23) nV) hmIc hmRc hpk v u0 u1 u2) hl0 (kCS_of X 6 (goodIn_ext gL_deed_L_plain) rfl rfl rfl (by decide +kernel) hRR ⟨(Nat.le_of_ble_eq_true rfl), (Nat.le_of_ble_eq_true rfl)⟩) rfl rfl (Nat.le_of_ble_eq_true rfl) hRR ⟨(Nat.le_of_ble_eq_true rfl), (Nat.le_of_ble_eq_true rfl)⟩ dL_deed_8 (fun X9 u hX => ?_) (fun r9 z hp => ?_)
  ·
    obtain ⟨u1, ⟨e9, rfl, hX⟩, rfl⟩ := hX
    rcases hX with ⟨rfl, hX⟩ | ⟨rfl, hX⟩
    ·
      refine kvx_catch (nm := "java/lang/IndexOutOfBoundsException") X htb [] (⟨0, 11, 12, 82⟩ : ExceptionTableEntry) [(⟨0, 11, 18, 84⟩ : ExceptionTableEntry), (⟨0, 11, 24, 86⟩ : ExceptionTableEntry), (⟨0, 11, 30, 88⟩ : ExceptionTableEntry), (⟨0, 11, 36, 90⟩ : ExceptionTableEntry)] rfl (fun z hz => nomatch hz) (by decide) (by decide) (List.mem_append_right _ (List.mem_of_getElem? (i := 0) rfl)) (by decide +kernel) (fun q9 => ?_)
      show kv dd g _ _ 12 [(0, .ref (ad 0)), (1, .int 9), (2, .int v), (3, .int u0), (4, .int u1), (5, .int u2)] [.ref q9] (jk (ks, ad, cE dd E e9) wr wx) (jd (ks, ad, cE dd E e9) wr wx) (jE (ks, ad, cE dd E e9) wr wx)
      refine kv_astore (lv2 := (6, .ref q9) :: [(0, .ref (ad 0)), (1, .int 9), (2, .int v), (3, .int u0), (4, .int u1), (5, .int u2)]) X dL_deed_12 (by rw [hnL]; decide) rfl ?_
      refine kv_sipush (v := -2001) X dL_deed_14 (by decide) ?_
      exact kv_ireturn X hr (Nat.le_of_ble_eq_true rfl) (Nat.le_of_ble_eq_true rfl) ⟨(ks, ad, cE dd E e9), Or.inr ⟨by decide, ⟨M, nC, nW, cn, nm, mn, me, li, rl, LP_mk e9 hI hXp hO hR hC hT hL hW hV hM, hon, hf⟩⟩, rfl⟩ dL_deed_17
    ·
      refine kvx_catch (nm := "java/lang/IllegalStateException") X htb [(⟨0, 11, 12, 82⟩ : ExceptionTableEntry), (⟨0, 11, 18, 84⟩ : ExceptionTableEntry)] (⟨0, 11, 24, 86⟩ : ExceptionTableEntry) [(⟨0, 11, 30, 88⟩ : ExceptionTableEntry), (⟨0, 11, 36, 90⟩ : ExceptionTableEntry)] rfl (fun z hz => by
          simp only [List.mem_cons, List.not_mem_nil, or_false] at hz
          rcases hz with rfl | rfl
          · exact ⟨by decide, _, (List.mem_append_right _ (List.mem_of_getElem? (i := 0) rfl)), by decide +kernel⟩
          · exact ⟨by decide, _, (List.mem_append_right _ (List.mem_of_getElem? (i := 1) rfl)), by decide +kernel⟩) (by decide) (by decide) (List.mem_append_right _ (List.mem_of_getElem? (i := 2) rfl)) (by decide +kernel) (fun q9 => ?_)
      show kv dd g _ _ 24 [(0, .ref (ad 0)), (1, .int 9), (2, .int v), (3, .int u0), (4, .int u1), (5, .int u2)] [.ref q9] (jk (ks, ad, cE dd E e9) wr wx) (jd (ks, ad, cE dd E e9) wr wx) (jE (ks, ad, cE dd E e9) wr wx)
      refine kv_astore (lv2 := (6, .ref q9) :: [(0, .ref (ad 0)), (1, .int 9), (2, .int v), (3, .int u0), (4, .int u1), (5, .int u2)]) X dL_deed_24 (by rw [hnL]; decide) rfl ?_
      refine kv_sipush (v := -2003) X dL_deed_26 (by decide) ?_
      exact kv_ireturn X hr (Nat.le_of_ble_eq_true rfl) (Nat.le_of_ble_eq_true rfl) ⟨(ks, ad, cE dd E e9), Or.inr ⟨by decide, ⟨M, nC, nW, cn, nm, mn, me, li, rl, LP_mk e9 hI hXp hO hR hC hT hL hW hV hM, hon, hf⟩⟩, rfl⟩ dL_deed_29
  ·
    obtain ⟨j, ⟨hj, rfl⟩, hn, ⟨h0, hA⟩, rfl⟩ := hp
    exact kv_ireturn X hr (Nat.le_of_ble_eq_true rfl) (Nat.le_of_ble_eq_true rfl) ⟨z, Or.inl ⟨nI_00 (by omega), ⟨_, _, _, _, _, _, _, _, _, ⟨rI_addLine hI hj hn, pX_line (j := 0) hXp (rI_all hI).2.2.2.2.2.2.2.2.2.2.2.2.2.1 hn, cAll_s2 hA (fun _ _ => rfl), h0⟩, hon, hf⟩⟩, rfl⟩ dL_deed_11
set_option maxRecDepth 100000 in
set_option maxHeartbeats 4000000 in
theorem d_addVariant (l : Launch) {dd : kDD} {c : kT} (wr wx : kT) {xa nR nt nL nV nM : Nat} {f : Nat → Int32} (h : LQ dd c xa nR nt nL nV nM f) (u0 u1 u2 u3 : Int32)  : kCi l yL_deed (wsL_deed ++ kHp) ({ frames := 13, cells := 12, slots := 170, locals := 300 } : Room) 12 170 dd [.ref xa, .int 11, .int u0, .int u1, .int u2, .int u3] (jk c wr wx, jd c wr wx, jE c wr wx) (kQi (S := kT) (fun r z => (0 ≤ r ∧ LQ dd z xa nR nt nL (nV + 1) nM f) ∨ (r < 0 ∧ LQ dd z xa nR nt nL nV nM f)) (fun z => jk z wr wx) (fun z => jd z wr wx) (fun z => jE z wr wx)) := by
  obtain ⟨M, nC, nW, cn, nm, mn, me, li, rl, hLP, hon, hf⟩ := h
  obtain ⟨ks, ad, E, e, hks, hcf, rfl, hI, hXp, hO, hR, hC, hT, hL, hW, hV, hM⟩ := LP_open hLP
  have bb := rI_b hI
  obtain ⟨iR, iC, iT, iL, iW, iV, iM, hcn, hnm, hmn, hme, hs2, hli, hB, hpk, hmI, hmR, hmIc, hmRc, hlG⟩ := rI_all hI
  rw [JW_cf hcf]
  refine kMetiW (ws' := _) (cc := cL_deed) (maxL := 7) (rt := .int) (by decide) rfl (Nat.le_of_ble_eq_true rfl) (fun g X hr htb hnL hRR hl0 => ?_)
  show kv dd g 0 0 0 [(0, .ref (ad 0)), (1, .int 11), (2, .int u0), (3, .int u1), (4, .int u2), (5, .int u3)] [] (jk (ks, ad, cE dd E e) wr wx) (jd (ks, ad, cE dd E e) wr wx) (jE (ks, ad, cE dd E e) wr wx)
  refine kv_aload_n X 0 dL_deed_0 rfl rfl ?_
  refine kv_iload_n X 1 dL_deed_1 rfl rfl ?_
  refine kv_iload_n X 2 dL_deed_2 rfl rfl ?_
  refine kv_iload_n X 3 dL_deed_3 rfl rfl ?_
  refine kv_iload X 4 dL_deed_4 rfl ?_
  refine kv_iload X 5 dL_deed_6 rfl ?_
  refine kv_calliXSc (As := [.ref (ad 0), .int 11, .int u0, .int u1, .int u2, .int u3]) [] X (c_L_plain_addVariant l dd ks ad E e wr wx hks M nR nC nt nL nW nV nM cn nm mn me li rl (M.1 24) hO hR hC hT hL hW hV hM hB (cmI (M.2.1 22) nV) (cmI (M.2.1 23) nV) hmIc hmRc hpk u0 u1 u2 u3) hl0 (kCS_of X 6 (goodIn_ext gL_deed_L_plain) rfl rfl rfl (by decide +kernel) hRR ⟨(Nat.le_of_ble_eq_true rfl), (Nat.le_of_ble_eq_true rfl)⟩) rfl rfl (Nat.le_of_ble_eq_true rfl) hRR ⟨(Nat.le_of_ble_eq_true rfl), (Nat.le_of_ble_eq_true rfl)⟩ dL_deed_8 (fun X9 u hX => ?_) (fun r9 z hp => ?_)
  ·
    obtain ⟨u1, ⟨e9, rfl, hX⟩, rfl⟩ := hX
    rcases hX with ⟨rfl, hX⟩
    refine kvx_catch (nm := "java/lang/IllegalStateException") X htb [(⟨0, 11, 12, 82⟩ : ExceptionTableEntry), (⟨0, 11, 18, 84⟩ : ExceptionTableEntry)] (⟨0, 11, 24, 86⟩ : ExceptionTableEntry) [(⟨0, 11, 30, 88⟩ : ExceptionTableEntry), (⟨0, 11, 36, 90⟩ : ExceptionTableEntry)] rfl (fun z hz => by
        simp only [List.mem_cons, List.not_mem_nil, or_false] at hz
        rcases hz with rfl | rfl
        · exact ⟨by decide, _, (List.mem_append_right _ (List.mem_of_getElem? (i := 0) rfl)), by decide +kernel⟩
        · exact ⟨by decide, _, (List.mem_append_right _ (List.mem_of_getElem? (i := 1) rfl)), by decide +kernel⟩) (by decide) (by decide) (List.mem_append_right _ (List.mem_of_getElem? (i := 2) rfl)) (by decide +kernel) (fun q9 => ?_)
    show kv dd g _ _ 24 [(0, .ref (ad 0)), (1, .int 11), (2, .int u0), (3, .int u1), (4, .int u2), (5, .int u3)] [.ref q9] (jk (ks, ad, cE dd E e9) wr wx) (jd (ks, ad, cE dd E e9) wr wx) (jE (ks, ad, cE dd E e9) wr wx)
    refine kv_astore (lv2 := (6, .ref q9) :: [(0, .ref (ad 0)), (1, .int 11), (2, .int u0), (3, .int u1), (4, .int u2), (5, .int u3)]) X dL_deed_24 (by rw [hnL]; decide) rfl ?_
    refine kv_sipush (v := -2003) X dL_deed_26 (by decide) ?_
    exact kv_ireturn X hr (Nat.le_of_ble_eq_true rfl) (Nat.le_of_ble_eq_true rfl) ⟨(ks, ad, cE dd E e9), Or.inr ⟨by decide, ⟨M, nC, nW, cn, nm, mn, me, li, rl, LP_mk e9 hI hXp hO hR hC hT hL hW hV hM, hon, hf⟩⟩, rfl⟩ dL_deed_29
  ·
    obtain ⟨hn, ⟨h0, hA⟩, rfl⟩ := hp
    exact kv_ireturn X hr (Nat.le_of_ble_eq_true rfl) (Nat.le_of_ble_eq_true rfl) ⟨z, Or.inl ⟨nI_00 (by omega), ⟨_, _, _, _, _, _, _, _, _, ⟨rI_addVariant hI hn, hXp, cAll_s2 hA (fun _ _ => rfl), h0⟩, hon, hf⟩⟩, rfl⟩ dL_deed_11
set_option maxRecDepth 100000 in
set_option maxHeartbeats 4000000 in
theorem d_replaceItem (l : Launch) {dd : kDD} {c : kT} (wr wx : kT) {xa nR nt nL nV nM : Nat} {f : Nat → Int32} (h : LQ dd c xa nR nt nL nV nM f) (v x y u0 : Int32)  : kCi l yL_deed (wsL_deed ++ kHp) ({ frames := 13, cells := 12, slots := 170, locals := 300 } : Room) 12 170 dd [.ref xa, .int 12, .int v, .int x, .int y, .int u0] (jk c wr wx, jd c wr wx, jE c wr wx) (kQi (S := kT) (fun r z => rb r ∧ LQ dd z xa nR nt nL nV nM f) (fun z => jk z wr wx) (fun z => jd z wr wx) (fun z => jE z wr wx)) := by
  obtain ⟨M, nC, nW, cn, nm, mn, me, li, rl, hLP, hon, hf⟩ := h
  obtain ⟨ks, ad, E, e, hks, hcf, rfl, hI, hXp, hO, hR, hC, hT, hL, hW, hV, hM⟩ := LP_open hLP
  have bb := rI_b hI
  obtain ⟨iR, iC, iT, iL, iW, iV, iM, hcn, hnm, hmn, hme, hs2, hli, hB, hpk, hmI, hmR, hmIc, hmRc, hlG⟩ := rI_all hI
  rw [JW_cf hcf]
  refine kMetiW (ws' := _) (cc := cL_deed) (maxL := 7) (rt := .int) (by decide) rfl (Nat.le_of_ble_eq_true rfl) (fun g X hr htb hnL hRR hl0 => ?_)
  show kv dd g 0 0 0 [(0, .ref (ad 0)), (1, .int 12), (2, .int v), (3, .int x), (4, .int y), (5, .int u0)] [] (jk (ks, ad, cE dd E e) wr wx) (jd (ks, ad, cE dd E e) wr wx) (jE (ks, ad, cE dd E e) wr wx)
  refine kv_aload_n X 0 dL_deed_0 rfl rfl ?_
  refine kv_iload_n X 1 dL_deed_1 rfl rfl ?_
  refine kv_iload_n X 2 dL_deed_2 rfl rfl ?_
  refine kv_iload_n X 3 dL_deed_3 rfl rfl ?_
  refine kv_iload X 4 dL_deed_4 rfl ?_
  refine kv_iload X 5 dL_deed_6 rfl ?_
  refine kv_calliXSc (As := [.ref (ad 0), .int 12, .int v, .int x, .int y, .int u0]) [] X (c_L_plain_replaceItem l dd ks ad E e wr wx hks M nR nC nt nL nW nV nM cn nm mn me li rl (M.1 24) hO hR hC hT hL hW hV hM hB (cmI (M.2.1 22) nV) (cmI (M.2.1 23) nV) hmIc hmRc hpk v x y u0) hl0 (kCS_of X 6 (goodIn_ext gL_deed_L_plain) rfl rfl rfl (by decide +kernel) hRR ⟨(Nat.le_of_ble_eq_true rfl), (Nat.le_of_ble_eq_true rfl)⟩) rfl rfl (Nat.le_of_ble_eq_true rfl) hRR ⟨(Nat.le_of_ble_eq_true rfl), (Nat.le_of_ble_eq_true rfl)⟩ dL_deed_8 (fun X9 u hX => ?_) (fun r9 z hp => ?_)
  ·
    obtain ⟨u1, ⟨e9, rfl, hX⟩, rfl⟩ := hX
    rcases hX with ⟨rfl, hX⟩ | ⟨rfl, hX⟩ | ⟨rfl, hX⟩
    ·
      refine kvx_catch (nm := "java/lang/IndexOutOfBoundsException") X htb [] (⟨0, 11, 12, 82⟩ : ExceptionTableEntry) [(⟨0, 11, 18, 84⟩ : ExceptionTableEntry), (⟨0, 11, 24, 86⟩ : ExceptionTableEntry), (⟨0, 11, 30, 88⟩ : ExceptionTableEntry), (⟨0, 11, 36, 90⟩ : ExceptionTableEntry)] rfl (fun z hz => nomatch hz) (by decide) (by decide) (List.mem_append_right _ (List.mem_of_getElem? (i := 0) rfl)) (by decide +kernel) (fun q9 => ?_)
      show kv dd g _ _ 12 [(0, .ref (ad 0)), (1, .int 12), (2, .int v), (3, .int x), (4, .int y), (5, .int u0)] [.ref q9] (jk (ks, ad, cE dd E e9) wr wx) (jd (ks, ad, cE dd E e9) wr wx) (jE (ks, ad, cE dd E e9) wr wx)
      refine kv_astore (lv2 := (6, .ref q9) :: [(0, .ref (ad 0)), (1, .int 12), (2, .int v), (3, .int x), (4, .int y), (5, .int u0)]) X dL_deed_12 (by rw [hnL]; decide) rfl ?_
      refine kv_sipush (v := -2001) X dL_deed_14 (by decide) ?_
      exact kv_ireturn X hr (Nat.le_of_ble_eq_true rfl) (Nat.le_of_ble_eq_true rfl) ⟨(ks, ad, cE dd E e9), ⟨by unfold rb; decide, ⟨M, nC, nW, cn, nm, mn, me, li, rl, LP_mk e9 hI hXp hO hR hC hT hL hW hV hM, hon, hf⟩⟩, rfl⟩ dL_deed_17
    ·
      refine kvx_catch (nm := "java/lang/IllegalArgumentException") X htb [(⟨0, 11, 12, 82⟩ : ExceptionTableEntry)] (⟨0, 11, 18, 84⟩ : ExceptionTableEntry) [(⟨0, 11, 24, 86⟩ : ExceptionTableEntry), (⟨0, 11, 30, 88⟩ : ExceptionTableEntry), (⟨0, 11, 36, 90⟩ : ExceptionTableEntry)] rfl (fun z hz => by
          simp only [List.mem_cons, List.not_mem_nil, or_false] at hz
          rcases hz with rfl
          · exact ⟨by decide, _, (List.mem_append_right _ (List.mem_of_getElem? (i := 0) rfl)), by decide +kernel⟩) (by decide) (by decide) (List.mem_append_right _ (List.mem_of_getElem? (i := 1) rfl)) (by decide +kernel) (fun q9 => ?_)
      show kv dd g _ _ 18 [(0, .ref (ad 0)), (1, .int 12), (2, .int v), (3, .int x), (4, .int y), (5, .int u0)] [.ref q9] (jk (ks, ad, cE dd E e9) wr wx) (jd (ks, ad, cE dd E e9) wr wx) (jE (ks, ad, cE dd E e9) wr wx)
      refine kv_astore (lv2 := (6, .ref q9) :: [(0, .ref (ad 0)), (1, .int 12), (2, .int v), (3, .int x), (4, .int y), (5, .int u0)]) X dL_deed_18 (by rw [hnL]; decide) rfl ?_
      refine kv_sipush (v := -2002) X dL_deed_20 (by decide) ?_
      exact kv_ireturn X hr (Nat.le_of_ble_eq_true rfl) (Nat.le_of_ble_eq_true rfl) ⟨(ks, ad, cE dd E e9), ⟨by unfold rb; decide, ⟨M, nC, nW, cn, nm, mn, me, li, rl, LP_mk e9 hI hXp hO hR hC hT hL hW hV hM, hon, hf⟩⟩, rfl⟩ dL_deed_23
    ·
      refine kvx_catch (nm := "java/lang/IllegalStateException") X htb [(⟨0, 11, 12, 82⟩ : ExceptionTableEntry), (⟨0, 11, 18, 84⟩ : ExceptionTableEntry)] (⟨0, 11, 24, 86⟩ : ExceptionTableEntry) [(⟨0, 11, 30, 88⟩ : ExceptionTableEntry), (⟨0, 11, 36, 90⟩ : ExceptionTableEntry)] rfl (fun z hz => by
          simp only [List.mem_cons, List.not_mem_nil, or_false] at hz
          rcases hz with rfl | rfl
          · exact ⟨by decide, _, (List.mem_append_right _ (List.mem_of_getElem? (i := 0) rfl)), by decide +kernel⟩
          · exact ⟨by decide, _, (List.mem_append_right _ (List.mem_of_getElem? (i := 1) rfl)), by decide +kernel⟩) (by decide) (by decide) (List.mem_append_right _ (List.mem_of_getElem? (i := 2) rfl)) (by decide +kernel) (fun q9 => ?_)
      show kv dd g _ _ 24 [(0, .ref (ad 0)), (1, .int 12), (2, .int v), (3, .int x), (4, .int y), (5, .int u0)] [.ref q9] (jk (ks, ad, cE dd E e9) wr wx) (jd (ks, ad, cE dd E e9) wr wx) (jE (ks, ad, cE dd E e9) wr wx)
      refine kv_astore (lv2 := (6, .ref q9) :: [(0, .ref (ad 0)), (1, .int 12), (2, .int v), (3, .int x), (4, .int y), (5, .int u0)]) X dL_deed_24 (by rw [hnL]; decide) rfl ?_
      refine kv_sipush (v := -2003) X dL_deed_26 (by decide) ?_
      exact kv_ireturn X hr (Nat.le_of_ble_eq_true rfl) (Nat.le_of_ble_eq_true rfl) ⟨(ks, ad, cE dd E e9), ⟨by unfold rb; decide, ⟨M, nC, nW, cn, nm, mn, me, li, rl, LP_mk e9 hI hXp hO hR hC hT hL hW hV hM, hon, hf⟩⟩, rfl⟩ dL_deed_29
  ·
    obtain ⟨jv, ja, jb, ⟨h1, h2, h3, rfl, rfl, rfl⟩, h4, h5, ⟨h0, hA⟩, rfl⟩ := hp
    exact kv_ireturn X hr (Nat.le_of_ble_eq_true rfl) (Nat.le_of_ble_eq_true rfl) ⟨z, ⟨by obtain ⟨m, hm, e9⟩ := tld_n (tab := upd (M.2.1 22) (12 * jv + ja) (nI jb)) (b := 12 * jv) 12; rw [e9]; exact rb_n (by omega), ⟨_, _, _, _, _, _, _, _, _, ⟨rI_replaceItem hI h1 h2 h3 h5, hXp, cAll_s2 hA (fun _ _ => rfl), h0⟩, hon, hf⟩⟩, rfl⟩ dL_deed_11
set_option maxRecDepth 100000 in
set_option maxHeartbeats 4000000 in
theorem d_replaceResource (l : Launch) {dd : kDD} {c : kT} (wr wx : kT) {xa nR nt nL nV nM : Nat} {f : Nat → Int32} (h : LQ dd c xa nR nt nL nV nM f) (v x y u0 : Int32)  : kCi l yL_deed (wsL_deed ++ kHp) ({ frames := 13, cells := 12, slots := 170, locals := 300 } : Room) 12 170 dd [.ref xa, .int 13, .int v, .int x, .int y, .int u0] (jk c wr wx, jd c wr wx, jE c wr wx) (kQi (S := kT) (fun r z => rb r ∧ LQ dd z xa nR nt nL nV nM f) (fun z => jk z wr wx) (fun z => jd z wr wx) (fun z => jE z wr wx)) := by
  obtain ⟨M, nC, nW, cn, nm, mn, me, li, rl, hLP, hon, hf⟩ := h
  obtain ⟨ks, ad, E, e, hks, hcf, rfl, hI, hXp, hO, hR, hC, hT, hL, hW, hV, hM⟩ := LP_open hLP
  have bb := rI_b hI
  obtain ⟨iR, iC, iT, iL, iW, iV, iM, hcn, hnm, hmn, hme, hs2, hli, hB, hpk, hmI, hmR, hmIc, hmRc, hlG⟩ := rI_all hI
  rw [JW_cf hcf]
  refine kMetiW (ws' := _) (cc := cL_deed) (maxL := 7) (rt := .int) (by decide) rfl (Nat.le_of_ble_eq_true rfl) (fun g X hr htb hnL hRR hl0 => ?_)
  show kv dd g 0 0 0 [(0, .ref (ad 0)), (1, .int 13), (2, .int v), (3, .int x), (4, .int y), (5, .int u0)] [] (jk (ks, ad, cE dd E e) wr wx) (jd (ks, ad, cE dd E e) wr wx) (jE (ks, ad, cE dd E e) wr wx)
  refine kv_aload_n X 0 dL_deed_0 rfl rfl ?_
  refine kv_iload_n X 1 dL_deed_1 rfl rfl ?_
  refine kv_iload_n X 2 dL_deed_2 rfl rfl ?_
  refine kv_iload_n X 3 dL_deed_3 rfl rfl ?_
  refine kv_iload X 4 dL_deed_4 rfl ?_
  refine kv_iload X 5 dL_deed_6 rfl ?_
  refine kv_calliXSc (As := [.ref (ad 0), .int 13, .int v, .int x, .int y, .int u0]) [] X (c_L_plain_replaceResource l dd ks ad E e wr wx hks M nR nC nt nL nW nV nM cn nm mn me li rl (M.1 24) hO hR hC hT hL hW hV hM hB (cmI (M.2.1 22) nV) (cmI (M.2.1 23) nV) hmIc hmRc hpk v x y u0) hl0 (kCS_of X 6 (goodIn_ext gL_deed_L_plain) rfl rfl rfl (by decide +kernel) hRR ⟨(Nat.le_of_ble_eq_true rfl), (Nat.le_of_ble_eq_true rfl)⟩) rfl rfl (Nat.le_of_ble_eq_true rfl) hRR ⟨(Nat.le_of_ble_eq_true rfl), (Nat.le_of_ble_eq_true rfl)⟩ dL_deed_8 (fun X9 u hX => ?_) (fun r9 z hp => ?_)
  ·
    obtain ⟨u1, ⟨e9, rfl, hX⟩, rfl⟩ := hX
    rcases hX with ⟨rfl, hX⟩ | ⟨rfl, hX⟩ | ⟨rfl, hX⟩
    ·
      refine kvx_catch (nm := "java/lang/IndexOutOfBoundsException") X htb [] (⟨0, 11, 12, 82⟩ : ExceptionTableEntry) [(⟨0, 11, 18, 84⟩ : ExceptionTableEntry), (⟨0, 11, 24, 86⟩ : ExceptionTableEntry), (⟨0, 11, 30, 88⟩ : ExceptionTableEntry), (⟨0, 11, 36, 90⟩ : ExceptionTableEntry)] rfl (fun z hz => nomatch hz) (by decide) (by decide) (List.mem_append_right _ (List.mem_of_getElem? (i := 0) rfl)) (by decide +kernel) (fun q9 => ?_)
      show kv dd g _ _ 12 [(0, .ref (ad 0)), (1, .int 13), (2, .int v), (3, .int x), (4, .int y), (5, .int u0)] [.ref q9] (jk (ks, ad, cE dd E e9) wr wx) (jd (ks, ad, cE dd E e9) wr wx) (jE (ks, ad, cE dd E e9) wr wx)
      refine kv_astore (lv2 := (6, .ref q9) :: [(0, .ref (ad 0)), (1, .int 13), (2, .int v), (3, .int x), (4, .int y), (5, .int u0)]) X dL_deed_12 (by rw [hnL]; decide) rfl ?_
      refine kv_sipush (v := -2001) X dL_deed_14 (by decide) ?_
      exact kv_ireturn X hr (Nat.le_of_ble_eq_true rfl) (Nat.le_of_ble_eq_true rfl) ⟨(ks, ad, cE dd E e9), ⟨by unfold rb; decide, ⟨M, nC, nW, cn, nm, mn, me, li, rl, LP_mk e9 hI hXp hO hR hC hT hL hW hV hM, hon, hf⟩⟩, rfl⟩ dL_deed_17
    ·
      refine kvx_catch (nm := "java/lang/IllegalArgumentException") X htb [(⟨0, 11, 12, 82⟩ : ExceptionTableEntry)] (⟨0, 11, 18, 84⟩ : ExceptionTableEntry) [(⟨0, 11, 24, 86⟩ : ExceptionTableEntry), (⟨0, 11, 30, 88⟩ : ExceptionTableEntry), (⟨0, 11, 36, 90⟩ : ExceptionTableEntry)] rfl (fun z hz => by
          simp only [List.mem_cons, List.not_mem_nil, or_false] at hz
          rcases hz with rfl
          · exact ⟨by decide, _, (List.mem_append_right _ (List.mem_of_getElem? (i := 0) rfl)), by decide +kernel⟩) (by decide) (by decide) (List.mem_append_right _ (List.mem_of_getElem? (i := 1) rfl)) (by decide +kernel) (fun q9 => ?_)
      show kv dd g _ _ 18 [(0, .ref (ad 0)), (1, .int 13), (2, .int v), (3, .int x), (4, .int y), (5, .int u0)] [.ref q9] (jk (ks, ad, cE dd E e9) wr wx) (jd (ks, ad, cE dd E e9) wr wx) (jE (ks, ad, cE dd E e9) wr wx)
      refine kv_astore (lv2 := (6, .ref q9) :: [(0, .ref (ad 0)), (1, .int 13), (2, .int v), (3, .int x), (4, .int y), (5, .int u0)]) X dL_deed_18 (by rw [hnL]; decide) rfl ?_
      refine kv_sipush (v := -2002) X dL_deed_20 (by decide) ?_
      exact kv_ireturn X hr (Nat.le_of_ble_eq_true rfl) (Nat.le_of_ble_eq_true rfl) ⟨(ks, ad, cE dd E e9), ⟨by unfold rb; decide, ⟨M, nC, nW, cn, nm, mn, me, li, rl, LP_mk e9 hI hXp hO hR hC hT hL hW hV hM, hon, hf⟩⟩, rfl⟩ dL_deed_23
    ·
      refine kvx_catch (nm := "java/lang/IllegalStateException") X htb [(⟨0, 11, 12, 82⟩ : ExceptionTableEntry), (⟨0, 11, 18, 84⟩ : ExceptionTableEntry)] (⟨0, 11, 24, 86⟩ : ExceptionTableEntry) [(⟨0, 11, 30, 88⟩ : ExceptionTableEntry), (⟨0, 11, 36, 90⟩ : ExceptionTableEntry)] rfl (fun z hz => by
          simp only [List.mem_cons, List.not_mem_nil, or_false] at hz
          rcases hz with rfl | rfl
          · exact ⟨by decide, _, (List.mem_append_right _ (List.mem_of_getElem? (i := 0) rfl)), by decide +kernel⟩
          · exact ⟨by decide, _, (List.mem_append_right _ (List.mem_of_getElem? (i := 1) rfl)), by decide +kernel⟩) (by decide) (by decide) (List.mem_append_right _ (List.mem_of_getElem? (i := 2) rfl)) (by decide +kernel) (fun q9 => ?_)
      show kv dd g _ _ 24 [(0, .ref (ad 0)), (1, .int 13), (2, .int v), (3, .int x), (4, .int y), (5, .int u0)] [.ref q9] (jk (ks, ad, cE dd E e9) wr wx) (jd (ks, ad, cE dd E e9) wr wx) (jE (ks, ad, cE dd E e9) wr wx)
      refine kv_astore (lv2 := (6, .ref q9) :: [(0, .ref (ad 0)), (1, .int 13), (2, .int v), (3, .int x), (4, .int y), (5, .int u0)]) X dL_deed_24 (by rw [hnL]; decide) rfl ?_
      refine kv_sipush (v := -2003) X dL_deed_26 (by decide) ?_
      exact kv_ireturn X hr (Nat.le_of_ble_eq_true rfl) (Nat.le_of_ble_eq_true rfl) ⟨(ks, ad, cE dd E e9), ⟨by unfold rb; decide, ⟨M, nC, nW, cn, nm, mn, me, li, rl, LP_mk e9 hI hXp hO hR hC hT hL hW hV hM, hon, hf⟩⟩, rfl⟩ dL_deed_29
  ·
    obtain ⟨jv, ja, jb, ⟨h1, h2, h3, rfl, rfl, rfl⟩, h4, h5, ⟨h0, hA⟩, rfl⟩ := hp
    exact kv_ireturn X hr (Nat.le_of_ble_eq_true rfl) (Nat.le_of_ble_eq_true rfl) ⟨z, ⟨by obtain ⟨m, hm, e9⟩ := tld_n (tab := upd (M.2.1 23) (12 * jv + ja) (nI jb)) (b := 12 * jv) 12; rw [e9]; exact rb_n (by omega), ⟨_, _, _, _, _, _, _, _, _, ⟨rI_replaceResource hI h1 h2 h3, hXp, cAll_s2 hA (fun _ _ => rfl), h0⟩, hon, hf⟩⟩, rfl⟩ dL_deed_11
set_option maxRecDepth 100000 in
set_option maxHeartbeats 4000000 in
theorem d_addMarkup (l : Launch) {dd : kDD} {c : kT} (wr wx : kT) {xa nR nt nL nV nM : Nat} {f : Nat → Int32} (h : LQ dd c xa nR nt nL nV nM f) (p bs u0 u1 : Int32)  : kCi l yL_deed (wsL_deed ++ kHp) ({ frames := 13, cells := 12, slots := 170, locals := 300 } : Room) 12 170 dd [.ref xa, .int 15, .int p, .int bs, .int u0, .int u1] (jk c wr wx, jd c wr wx, jE c wr wx) (kQi (S := kT) (fun r z => (0 ≤ r ∧ LQ dd z xa nR nt nL nV (nM + 1) f) ∨ (r < 0 ∧ LQ dd z xa nR nt nL nV nM f)) (fun z => jk z wr wx) (fun z => jd z wr wx) (fun z => jE z wr wx)) := by
  obtain ⟨M, nC, nW, cn, nm, mn, me, li, rl, hLP, hon, hf⟩ := h
  obtain ⟨ks, ad, E, e, hks, hcf, rfl, hI, hXp, hO, hR, hC, hT, hL, hW, hV, hM⟩ := LP_open hLP
  have bb := rI_b hI
  obtain ⟨iR, iC, iT, iL, iW, iV, iM, hcn, hnm, hmn, hme, hs2, hli, hB, hpk, hmI, hmR, hmIc, hmRc, hlG⟩ := rI_all hI
  rw [JW_cf hcf]
  refine kMetiW (ws' := _) (cc := cL_deed) (maxL := 7) (rt := .int) (by decide) rfl (Nat.le_of_ble_eq_true rfl) (fun g X hr htb hnL hRR hl0 => ?_)
  show kv dd g 0 0 0 [(0, .ref (ad 0)), (1, .int 15), (2, .int p), (3, .int bs), (4, .int u0), (5, .int u1)] [] (jk (ks, ad, cE dd E e) wr wx) (jd (ks, ad, cE dd E e) wr wx) (jE (ks, ad, cE dd E e) wr wx)
  refine kv_aload_n X 0 dL_deed_0 rfl rfl ?_
  refine kv_iload_n X 1 dL_deed_1 rfl rfl ?_
  refine kv_iload_n X 2 dL_deed_2 rfl rfl ?_
  refine kv_iload_n X 3 dL_deed_3 rfl rfl ?_
  refine kv_iload X 4 dL_deed_4 rfl ?_
  refine kv_iload X 5 dL_deed_6 rfl ?_
  refine kv_calliXSc (As := [.ref (ad 0), .int 15, .int p, .int bs, .int u0, .int u1]) [] X (c_L_plain_addMarkup l dd ks ad E e wr wx hks M nR nC nt nL nW nV nM cn nm mn me li rl (M.1 24) hO hR hC hT hL hW hV hM hB (cmI (M.2.1 22) nV) (cmI (M.2.1 23) nV) hmIc hmRc hpk p bs u0 u1) hl0 (kCS_of X 6 (goodIn_ext gL_deed_L_plain) rfl rfl rfl (by decide +kernel) hRR ⟨(Nat.le_of_ble_eq_true rfl), (Nat.le_of_ble_eq_true rfl)⟩) rfl rfl (Nat.le_of_ble_eq_true rfl) hRR ⟨(Nat.le_of_ble_eq_true rfl), (Nat.le_of_ble_eq_true rfl)⟩ dL_deed_8 (fun X9 u hX => ?_) (fun r9 z hp => ?_)
  ·
    obtain ⟨u1, ⟨e9, rfl, hX⟩, rfl⟩ := hX
    rcases hX with ⟨rfl, hX⟩ | ⟨rfl, hX⟩
    ·
      refine kvx_catch (nm := "java/lang/IllegalStateException") X htb [(⟨0, 11, 12, 82⟩ : ExceptionTableEntry), (⟨0, 11, 18, 84⟩ : ExceptionTableEntry)] (⟨0, 11, 24, 86⟩ : ExceptionTableEntry) [(⟨0, 11, 30, 88⟩ : ExceptionTableEntry), (⟨0, 11, 36, 90⟩ : ExceptionTableEntry)] rfl (fun z hz => by
          simp only [List.mem_cons, List.not_mem_nil, or_false] at hz
          rcases hz with rfl | rfl
          · exact ⟨by decide, _, (List.mem_append_right _ (List.mem_of_getElem? (i := 0) rfl)), by decide +kernel⟩
          · exact ⟨by decide, _, (List.mem_append_right _ (List.mem_of_getElem? (i := 1) rfl)), by decide +kernel⟩) (by decide) (by decide) (List.mem_append_right _ (List.mem_of_getElem? (i := 2) rfl)) (by decide +kernel) (fun q9 => ?_)
      show kv dd g _ _ 24 [(0, .ref (ad 0)), (1, .int 15), (2, .int p), (3, .int bs), (4, .int u0), (5, .int u1)] [.ref q9] (jk (ks, ad, cE dd E e9) wr wx) (jd (ks, ad, cE dd E e9) wr wx) (jE (ks, ad, cE dd E e9) wr wx)
      refine kv_astore (lv2 := (6, .ref q9) :: [(0, .ref (ad 0)), (1, .int 15), (2, .int p), (3, .int bs), (4, .int u0), (5, .int u1)]) X dL_deed_24 (by rw [hnL]; decide) rfl ?_
      refine kv_sipush (v := -2003) X dL_deed_26 (by decide) ?_
      exact kv_ireturn X hr (Nat.le_of_ble_eq_true rfl) (Nat.le_of_ble_eq_true rfl) ⟨(ks, ad, cE dd E e9), Or.inr ⟨by decide, ⟨M, nC, nW, cn, nm, mn, me, li, rl, LP_mk e9 hI hXp hO hR hC hT hL hW hV hM, hon, hf⟩⟩, rfl⟩ dL_deed_29
    ·
      refine kvx_catch (nm := "java/lang/IllegalArgumentException") X htb [(⟨0, 11, 12, 82⟩ : ExceptionTableEntry)] (⟨0, 11, 18, 84⟩ : ExceptionTableEntry) [(⟨0, 11, 24, 86⟩ : ExceptionTableEntry), (⟨0, 11, 30, 88⟩ : ExceptionTableEntry), (⟨0, 11, 36, 90⟩ : ExceptionTableEntry)] rfl (fun z hz => by
          simp only [List.mem_cons, List.not_mem_nil, or_false] at hz
          rcases hz with rfl
          · exact ⟨by decide, _, (List.mem_append_right _ (List.mem_of_getElem? (i := 0) rfl)), by decide +kernel⟩) (by decide) (by decide) (List.mem_append_right _ (List.mem_of_getElem? (i := 1) rfl)) (by decide +kernel) (fun q9 => ?_)
      show kv dd g _ _ 18 [(0, .ref (ad 0)), (1, .int 15), (2, .int p), (3, .int bs), (4, .int u0), (5, .int u1)] [.ref q9] (jk (ks, ad, cE dd E e9) wr wx) (jd (ks, ad, cE dd E e9) wr wx) (jE (ks, ad, cE dd E e9) wr wx)
      refine kv_astore (lv2 := (6, .ref q9) :: [(0, .ref (ad 0)), (1, .int 15), (2, .int p), (3, .int bs), (4, .int u0), (5, .int u1)]) X dL_deed_18 (by rw [hnL]; decide) rfl ?_
      refine kv_sipush (v := -2002) X dL_deed_20 (by decide) ?_
      exact kv_ireturn X hr (Nat.le_of_ble_eq_true rfl) (Nat.le_of_ble_eq_true rfl) ⟨(ks, ad, cE dd E e9), Or.inr ⟨by decide, ⟨M, nC, nW, cn, nm, mn, me, li, rl, LP_mk e9 hI hXp hO hR hC hT hL hW hV hM, hon, hf⟩⟩, rfl⟩ dL_deed_23
  ·
    obtain ⟨hn, hp5, hb, ⟨h0, hA⟩, rfl⟩ := hp
    exact kv_ireturn X hr (Nat.le_of_ble_eq_true rfl) (Nat.le_of_ble_eq_true rfl) ⟨z, Or.inl ⟨nI_00 (by omega), ⟨_, _, _, _, _, _, _, _, _, ⟨rI_addMarkup hI hn, pX_mark hXp hp5, cAll_s2 hA (fun _ _ => rfl), h0⟩, hon, hf⟩⟩, rfl⟩ dL_deed_11
set_option maxRecDepth 100000 in
set_option maxHeartbeats 4000000 in
theorem d_row (l : Launch) {dd : kDD} {c0 : kT} (wr wx : kT) {xa nR nt nL nV nM : Nat} {f : Nat → Int32} (h : LQ dd c0 xa nR nt nL nV nM f) (v s t a b c : Int32) : kCi l yL_row (wsL_row ++ kHp) ({ frames := 13, cells := 12, slots := 170, locals := 300 } : Room) 12 170 dd [.ref xa, .int v, .int s, .int t, .int a, .int b, .int c] (jk c0 wr wx, jd c0 wr wx, jE c0 wr wx) (kQi (S := kT) (fun r z => rb r ∧ LQ dd z xa nR nt nL nV nM f) (fun z => jk z wr wx) (fun z => jd z wr wx) (fun z => jE z wr wx)) := by
  obtain ⟨M, nC, nW, cn, nm, mn, me, li, rl, hLP, hon, hf⟩ := h
  obtain ⟨ks, ad, E, e, hks, hcf, rfl, hI, hXp, hO, hR, hC, hT, hL, hW, hV, hM⟩ := LP_open hLP
  have bb := rI_b hI
  obtain ⟨iR, iC, iT, iL, iW, iV, iM, hcn, hnm, hmn, hme, hs2, hli, hB, hpk, hmI, hmR, hmIc, hmRc, hlG⟩ := rI_all hI
  rw [JW_cf hcf]
  refine kMetiW (ws' := _) (cc := cL_row) (maxL := 8) (rt := .int) (by decide) rfl (Nat.le_of_ble_eq_true rfl) (fun g X hr htb hnL hRR hl0 => ?_)
  show kv dd g 0 0 0 [(0, .ref (ad 0)), (1, .int v), (2, .int s), (3, .int t), (4, .int a), (5, .int b), (6, .int c)] [] (jk (ks, ad, cE dd E e) wr wx) (jd (ks, ad, cE dd E e) wr wx) (jE (ks, ad, cE dd E e) wr wx)
  refine kv_aload_n X 0 dL_row_0 rfl rfl ?_
  refine kv_iload_n X 1 dL_row_1 rfl rfl ?_
  refine kv_iload_n X 2 dL_row_2 rfl rfl ?_
  refine kv_iload_n X 3 dL_row_3 rfl rfl ?_
  refine kv_iload X 4 dL_row_4 rfl ?_
  refine kv_iload X 5 dL_row_6 rfl ?_
  refine kv_iload X 6 dL_row_8 rfl ?_
  refine kv_calliXVc (As := [.int v, .int s, .int t, .int a, .int b, .int c]) [] (ci := 13) (κ := 0) (r1 := (TX10, 3)) X (kCiX_frC (c := (ks, ad, cE dd E e)) (r := wr) (x := wx) (by rw [cf_id hks]; exact c_X10_addRow l dd ks ad E e M nR nC nt nL nW nV nM cn nm mn me li rl (M.1 24) hO hR hC hT hL hW hV hM hB (cmI (M.2.1 22) nV) (cmI (M.2.1 23) nV) hmIc hmRc hpk v s t a b c)) hl0 (kCV_of X 6 (goodIn_ext gL_row_X10_addRow) rfl rfl rfl (by decide +kernel) hRR ⟨(Nat.le_of_ble_eq_true rfl), (Nat.le_of_ble_eq_true rfl)⟩) (j_c0.1.mpr hO.1.1) (j_c0.2.2.trans ((cE_ne (dd := dd) (E := E) (e := e) (k := 0) (by omega)).trans hO.1.2)) rfl rfl rfl (Nat.le_of_ble_eq_true rfl) hRR ⟨(Nat.le_of_ble_eq_true rfl), (Nat.le_of_ble_eq_true rfl)⟩ dL_row_10 (fun X9 u hX => ?_) (fun r9 z hp => ?_)
  ·
    obtain ⟨u1, ⟨e9, rfl, hX⟩, rfl⟩ := hX
    rcases hX with ⟨rfl, hX⟩ | ⟨rfl, hX⟩ | ⟨rfl, hX⟩ | ⟨rfl, hX⟩
    ·
      refine kvx_catch (nm := "java/lang/IndexOutOfBoundsException") X htb [] (⟨0, 13, 14, 82⟩ : ExceptionTableEntry) [(⟨0, 13, 20, 84⟩ : ExceptionTableEntry), (⟨0, 13, 26, 86⟩ : ExceptionTableEntry), (⟨0, 13, 32, 90⟩ : ExceptionTableEntry)] rfl (fun z hz => nomatch hz) (by decide) (by decide) (List.mem_append_right _ (List.mem_of_getElem? (i := 0) rfl)) (by decide +kernel) (fun q9 => ?_)
      show kv dd g _ _ 14 [(0, .ref (ad 0)), (1, .int v), (2, .int s), (3, .int t), (4, .int a), (5, .int b), (6, .int c)] [.ref q9] (jk (ks, ad, cE dd E e9) wr wx) (jd (ks, ad, cE dd E e9) wr wx) (jE (ks, ad, cE dd E e9) wr wx)
      refine kv_astore (lv2 := (7, .ref q9) :: [(0, .ref (ad 0)), (1, .int v), (2, .int s), (3, .int t), (4, .int a), (5, .int b), (6, .int c)]) X dL_row_14 (by rw [hnL]; decide) rfl ?_
      refine kv_sipush (v := -2001) X dL_row_16 (by decide) ?_
      exact kv_ireturn X hr (Nat.le_of_ble_eq_true rfl) (Nat.le_of_ble_eq_true rfl) ⟨(ks, ad, cE dd E e9), ⟨by unfold rb; decide, ⟨M, nC, nW, cn, nm, mn, me, li, rl, LP_mk e9 hI hXp hO hR hC hT hL hW hV hM, hon, hf⟩⟩, rfl⟩ dL_row_19
    ·
      refine kvx_catch (nm := "java/lang/IllegalArgumentException") X htb [(⟨0, 13, 14, 82⟩ : ExceptionTableEntry)] (⟨0, 13, 20, 84⟩ : ExceptionTableEntry) [(⟨0, 13, 26, 86⟩ : ExceptionTableEntry), (⟨0, 13, 32, 90⟩ : ExceptionTableEntry)] rfl (fun z hz => by
          simp only [List.mem_cons, List.not_mem_nil, or_false] at hz
          rcases hz with rfl
          · exact ⟨by decide, _, (List.mem_append_right _ (List.mem_of_getElem? (i := 0) rfl)), by decide +kernel⟩) (by decide) (by decide) (List.mem_append_right _ (List.mem_of_getElem? (i := 1) rfl)) (by decide +kernel) (fun q9 => ?_)
      show kv dd g _ _ 20 [(0, .ref (ad 0)), (1, .int v), (2, .int s), (3, .int t), (4, .int a), (5, .int b), (6, .int c)] [.ref q9] (jk (ks, ad, cE dd E e9) wr wx) (jd (ks, ad, cE dd E e9) wr wx) (jE (ks, ad, cE dd E e9) wr wx)
      refine kv_astore (lv2 := (7, .ref q9) :: [(0, .ref (ad 0)), (1, .int v), (2, .int s), (3, .int t), (4, .int a), (5, .int b), (6, .int c)]) X dL_row_20 (by rw [hnL]; decide) rfl ?_
      refine kv_sipush (v := -2002) X dL_row_22 (by decide) ?_
      exact kv_ireturn X hr (Nat.le_of_ble_eq_true rfl) (Nat.le_of_ble_eq_true rfl) ⟨(ks, ad, cE dd E e9), ⟨by unfold rb; decide, ⟨M, nC, nW, cn, nm, mn, me, li, rl, LP_mk e9 hI hXp hO hR hC hT hL hW hV hM, hon, hf⟩⟩, rfl⟩ dL_row_25
    ·
      refine kvx_catch (nm := "java/lang/IllegalStateException") X htb [(⟨0, 13, 14, 82⟩ : ExceptionTableEntry), (⟨0, 13, 20, 84⟩ : ExceptionTableEntry)] (⟨0, 13, 26, 86⟩ : ExceptionTableEntry) [(⟨0, 13, 32, 90⟩ : ExceptionTableEntry)] rfl (fun z hz => by
          simp only [List.mem_cons, List.not_mem_nil, or_false] at hz
          rcases hz with rfl | rfl
          · exact ⟨by decide, _, (List.mem_append_right _ (List.mem_of_getElem? (i := 0) rfl)), by decide +kernel⟩
          · exact ⟨by decide, _, (List.mem_append_right _ (List.mem_of_getElem? (i := 1) rfl)), by decide +kernel⟩) (by decide) (by decide) (List.mem_append_right _ (List.mem_of_getElem? (i := 2) rfl)) (by decide +kernel) (fun q9 => ?_)
      show kv dd g _ _ 26 [(0, .ref (ad 0)), (1, .int v), (2, .int s), (3, .int t), (4, .int a), (5, .int b), (6, .int c)] [.ref q9] (jk (ks, ad, cE dd E e9) wr wx) (jd (ks, ad, cE dd E e9) wr wx) (jE (ks, ad, cE dd E e9) wr wx)
      refine kv_astore (lv2 := (7, .ref q9) :: [(0, .ref (ad 0)), (1, .int v), (2, .int s), (3, .int t), (4, .int a), (5, .int b), (6, .int c)]) X dL_row_26 (by rw [hnL]; decide) rfl ?_
      refine kv_sipush (v := -2003) X dL_row_28 (by decide) ?_
      exact kv_ireturn X hr (Nat.le_of_ble_eq_true rfl) (Nat.le_of_ble_eq_true rfl) ⟨(ks, ad, cE dd E e9), ⟨by unfold rb; decide, ⟨M, nC, nW, cn, nm, mn, me, li, rl, LP_mk e9 hI hXp hO hR hC hT hL hW hV hM, hon, hf⟩⟩, rfl⟩ dL_row_31
    ·
      refine kvx_catch (nm := "java/lang/ArithmeticException") X htb [(⟨0, 13, 14, 82⟩ : ExceptionTableEntry), (⟨0, 13, 20, 84⟩ : ExceptionTableEntry), (⟨0, 13, 26, 86⟩ : ExceptionTableEntry)] (⟨0, 13, 32, 90⟩ : ExceptionTableEntry) [] rfl (fun z hz => by
          simp only [List.mem_cons, List.not_mem_nil, or_false] at hz
          rcases hz with rfl | rfl | rfl
          · exact ⟨by decide, _, (List.mem_append_right _ (List.mem_of_getElem? (i := 0) rfl)), by decide +kernel⟩
          · exact ⟨by decide, _, (List.mem_append_right _ (List.mem_of_getElem? (i := 1) rfl)), by decide +kernel⟩
          · exact ⟨by decide, _, (List.mem_append_right _ (List.mem_of_getElem? (i := 2) rfl)), by decide +kernel⟩) (by decide) (by decide) (List.mem_append_right _ (List.mem_of_getElem? (i := 4) rfl)) (by decide +kernel) (fun q9 => ?_)
      show kv dd g _ _ 32 [(0, .ref (ad 0)), (1, .int v), (2, .int s), (3, .int t), (4, .int a), (5, .int b), (6, .int c)] [.ref q9] (jk (ks, ad, cE dd E e9) wr wx) (jd (ks, ad, cE dd E e9) wr wx) (jE (ks, ad, cE dd E e9) wr wx)
      refine kv_astore (lv2 := (7, .ref q9) :: [(0, .ref (ad 0)), (1, .int v), (2, .int s), (3, .int t), (4, .int a), (5, .int b), (6, .int c)]) X dL_row_32 (by rw [hnL]; decide) rfl ?_
      refine kv_sipush (v := -2006) X dL_row_34 (by decide) ?_
      exact kv_ireturn X hr (Nat.le_of_ble_eq_true rfl) (Nat.le_of_ble_eq_true rfl) ⟨(ks, ad, cE dd E e9), ⟨by unfold rb; decide, ⟨M, nC, nW, cn, nm, mn, me, li, rl, LP_mk e9 hI hXp hO hR hC hT hL hW hV hM, hon, hf⟩⟩, rfl⟩ dL_row_37
  ·
    obtain ⟨j, ⟨hj, rfl, hv⟩, hn, hq, ⟨h0, hA⟩, rfl⟩ := hp
    exact kv_ireturn X hr (Nat.le_of_ble_eq_true rfl) (Nat.le_of_ble_eq_true rfl) ⟨z, ⟨rb_i hq, ⟨_, _, _, _, _, _, _, _, _, ⟨rI_addRow hI hj hn, pX_row hXp hj bb.2.2.2.1 hq, cAll_s2 hA (fun _ _ => rfl), h0⟩, hon, hf⟩⟩, rfl⟩ dL_row_13

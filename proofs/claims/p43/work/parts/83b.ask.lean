/-! P43: QUESTIONS, ANSWERED -/
set_option maxRecDepth 100000 in
set_option maxHeartbeats 4000000 in
theorem a_depthOf (l : Launch) {dd : kDD} {c : kT} (wr wx : kT) {M : mS} {nR nC nt nL nW nV nM : Nat} {cn nm mn me li rl : Nat → Nat} {xa : Nat} (h : LPo dd c M nR nC nt nL nW nV nM cn nm mn me li rl xa) (v x : Int32) : kCl l yL_ask (wsL_ask ++ kHp) ({ frames := 16, cells := 2, slots := 12, locals := 400 } : Room) 2 12 dd [.ref xa, .int 0, .int v, .int x] (jk c wr wx, jd c wr wx, jE c wr wx) (kQl (S := kT) (fun r z => LPo dd z M nR nC nt nL nW nV nM cn nm mn me li rl xa ∧ ((∃ j, (j < nt ∧ v = nI j) ∧ ∃ d, 1 ≤ d ∧ d ≤ 3 ∧ r = (nI d).toInt64) ∨ (¬ (∃ j, j < nt ∧ v = nI j) ∧ r = -2001))) (fun z => jk z wr wx) (fun z => jd z wr wx) (fun z => jE z wr wx)) := by
  obtain ⟨ks, ad, E, e, hks, hcf, rfl, hI, hXp, hO, hR, hC, hT, hL, hW, hV, hM⟩ := LP_open h
  obtain ⟨iR, iC, iT, iL, iW, iV, iM, hcn, hnm, hmn, hme, hs2, hli, hB, hpk, hmI, hmR, hmIc, hmRc, hlG⟩ := rI_all hI
  rw [JW_cf hcf]
  refine kMetlW (ws' := _) (cc := cL_ask) (maxL := 5) (rt := .long) (by decide) rfl (Nat.le_of_ble_eq_true rfl) (fun g X hr htb hnL hRR hl0 => ?_)
  show kv dd g 0 0 0 [(0, .ref (ad 0)), (1, .int 0), (2, .int v), (3, .int x)] [] (jk (ks, ad, cE dd E e) wr wx) (jd (ks, ad, cE dd E e) wr wx) (jE (ks, ad, cE dd E e) wr wx)
  refine kv_aload_n X 0 dL_ask_0 rfl rfl ?_
  refine kv_iload_n X 1 dL_ask_1 rfl rfl ?_
  refine kv_iload_n X 2 dL_ask_2 rfl rfl ?_
  refine kv_iload_n X 3 dL_ask_3 rfl rfl ?_
  refine kv_calllXSc (As := [.ref (ad 0), .int 0, .int v, .int x]) [] X (c_L_asked_depthOf l dd ks ad E e wr wx hks M nR nC nt nL nW nV nM cn nm mn me li rl (M.1 24) hO hR hC hT hL hW hV hM hB (cmI (M.2.1 22) nV) (cmI (M.2.1 23) nV) hmIc hmRc hpk v (rI_fx hI) x) hl0 (kCS_of X 4 (goodIn_ext gL_ask_L_asked) rfl rfl rfl (by decide +kernel) hRR ⟨(Nat.le_of_ble_eq_true rfl), (Nat.le_of_ble_eq_true rfl)⟩) rfl rfl (Nat.le_of_ble_eq_true rfl) hRR ⟨(Nat.le_of_ble_eq_true rfl), (Nat.le_of_ble_eq_true rfl)⟩ dL_ask_4 (fun X9 u hX => ?_) (fun r9 z hp => ?_)
  ·
    obtain ⟨u1, ⟨e9, rfl, hX⟩, rfl⟩ := hX
    rcases hX with ⟨rfl, hX⟩
    refine kvx_catch (nm := "java/lang/IndexOutOfBoundsException") X htb [] (⟨0, 7, 8, 82⟩ : ExceptionTableEntry) [(⟨0, 7, 14, 84⟩ : ExceptionTableEntry), (⟨0, 7, 20, 88⟩ : ExceptionTableEntry), (⟨0, 7, 26, 150⟩ : ExceptionTableEntry)] rfl (fun z hz => nomatch hz) (by decide) (by decide) (List.mem_append_right _ (List.mem_of_getElem? (i := 0) rfl)) (by decide +kernel) (fun q9 => ?_)
    show kv dd g _ _ 8 [(0, .ref (ad 0)), (1, .int 0), (2, .int v), (3, .int x)] [.ref q9] (jk (ks, ad, cE dd E e9) wr wx) (jd (ks, ad, cE dd E e9) wr wx) (jE (ks, ad, cE dd E e9) wr wx)
    refine kv_astore (lv2 := (4, .ref q9) :: [(0, .ref (ad 0)), (1, .int 0), (2, .int v), (3, .int x)]) X dL_ask_8 (by rw [hnL]; decide) rfl ?_
    refine kv_ldc2 (v := -2001) X dL_ask_10 (List.mem_append_left _ (List.mem_cons_of_mem _ (List.mem_append_left _ (List.mem_append_left _ (List.mem_append_left _ (List.mem_append_left _ (List.mem_append_left _ (List.mem_append_left _ (List.mem_append_left _ (List.mem_append_left _ (List.mem_append_left _ (List.mem_append_left _ (List.mem_append_left _ (List.mem_append_left _ (List.mem_append_left _ (List.mem_append_left _ (List.mem_append_left _ (List.mem_append_left _ (List.mem_append_left _ (List.mem_append_left _ (List.mem_append_left _ (List.mem_of_getElem? (i := 1) rfl)))))))))))))))))))))) ?_
    exact kv_lreturn X hr (Nat.le_of_ble_eq_true rfl) (Nat.le_of_ble_eq_true rfl) ⟨_, ⟨LP_mk e9 hI hXp hO hR hC hT hL hW hV hM, Or.inr (⟨hX, rfl⟩)⟩, rfl⟩ dL_ask_13
  ·
    obtain ⟨r0, ⟨j, ⟨hj, rfl⟩, rfl⟩, rfl⟩ := hp
    exact kv_lreturn X hr (Nat.le_of_ble_eq_true rfl) (Nat.le_of_ble_eq_true rfl) ⟨(ks, ad, cE dd E z), ⟨LP_mk z hI hXp hO hR hC hT hL hW hV hM, Or.inl ⟨j, ⟨hj, rfl⟩, _, (rI_fx hI j hj).1.1, (rI_fx hI j hj).1.2, rfl⟩⟩, rfl⟩ dL_ask_7
set_option maxRecDepth 100000 in
set_option maxHeartbeats 4000000 in
theorem a_unitCost (l : Launch) {dd : kDD} {c : kT} (wr wx : kT) {M : mS} {nR nC nt nL nW nV nM : Nat} {cn nm mn me li rl : Nat → Nat} {xa : Nat} (h : LPo dd c M nR nC nt nL nW nV nM cn nm mn me li rl xa) (v x : Int32) : kCl l yL_ask (wsL_ask ++ kHp) ({ frames := 16, cells := 2, slots := 12, locals := 400 } : Room) 2 12 dd [.ref xa, .int 1, .int v, .int x] (jk c wr wx, jd c wr wx, jE c wr wx) (kQl (S := kT) (fun r z => LPo dd z M nR nC nt nL nW nV nM cn nm mn me li rl xa ∧ ((∃ j, (j < nt ∧ v = nI j) ∧ r = cou ((wvN M nR nC nt nL nW nV nM cn nm mn me li rl (M.1 24)) j) (M.2.1 3) nR) ∨ (¬ (∃ j, j < nt ∧ v = nI j) ∧ r = -2001))) (fun z => jk z wr wx) (fun z => jd z wr wx) (fun z => jE z wr wx)) := by
  obtain ⟨ks, ad, E, e, hks, hcf, rfl, hI, hXp, hO, hR, hC, hT, hL, hW, hV, hM⟩ := LP_open h
  obtain ⟨iR, iC, iT, iL, iW, iV, iM, hcn, hnm, hmn, hme, hs2, hli, hB, hpk, hmI, hmR, hmIc, hmRc, hlG⟩ := rI_all hI
  rw [JW_cf hcf]
  refine kMetlW (ws' := _) (cc := cL_ask) (maxL := 5) (rt := .long) (by decide) rfl (Nat.le_of_ble_eq_true rfl) (fun g X hr htb hnL hRR hl0 => ?_)
  show kv dd g 0 0 0 [(0, .ref (ad 0)), (1, .int 1), (2, .int v), (3, .int x)] [] (jk (ks, ad, cE dd E e) wr wx) (jd (ks, ad, cE dd E e) wr wx) (jE (ks, ad, cE dd E e) wr wx)
  refine kv_aload_n X 0 dL_ask_0 rfl rfl ?_
  refine kv_iload_n X 1 dL_ask_1 rfl rfl ?_
  refine kv_iload_n X 2 dL_ask_2 rfl rfl ?_
  refine kv_iload_n X 3 dL_ask_3 rfl rfl ?_
  refine kv_calllXSc (As := [.ref (ad 0), .int 1, .int v, .int x]) [] X (c_L_asked_unitCost l dd ks ad E e wr wx hks M nR nC nt nL nW nV nM cn nm mn me li rl (M.1 24) hO hR hC hT hL hW hV hM hB (cmI (M.2.1 22) nV) (cmI (M.2.1 23) nV) hmIc hmRc hpk v (rI_fx hI) x) hl0 (kCS_of X 4 (goodIn_ext gL_ask_L_asked) rfl rfl rfl (by decide +kernel) hRR ⟨(Nat.le_of_ble_eq_true rfl), (Nat.le_of_ble_eq_true rfl)⟩) rfl rfl (Nat.le_of_ble_eq_true rfl) hRR ⟨(Nat.le_of_ble_eq_true rfl), (Nat.le_of_ble_eq_true rfl)⟩ dL_ask_4 (fun X9 u hX => ?_) (fun r9 z hp => ?_)
  ·
    obtain ⟨u1, ⟨e9, rfl, hX⟩, rfl⟩ := hX
    rcases hX with ⟨rfl, hX⟩
    refine kvx_catch (nm := "java/lang/IndexOutOfBoundsException") X htb [] (⟨0, 7, 8, 82⟩ : ExceptionTableEntry) [(⟨0, 7, 14, 84⟩ : ExceptionTableEntry), (⟨0, 7, 20, 88⟩ : ExceptionTableEntry), (⟨0, 7, 26, 150⟩ : ExceptionTableEntry)] rfl (fun z hz => nomatch hz) (by decide) (by decide) (List.mem_append_right _ (List.mem_of_getElem? (i := 0) rfl)) (by decide +kernel) (fun q9 => ?_)
    show kv dd g _ _ 8 [(0, .ref (ad 0)), (1, .int 1), (2, .int v), (3, .int x)] [.ref q9] (jk (ks, ad, cE dd E e9) wr wx) (jd (ks, ad, cE dd E e9) wr wx) (jE (ks, ad, cE dd E e9) wr wx)
    refine kv_astore (lv2 := (4, .ref q9) :: [(0, .ref (ad 0)), (1, .int 1), (2, .int v), (3, .int x)]) X dL_ask_8 (by rw [hnL]; decide) rfl ?_
    refine kv_ldc2 (v := -2001) X dL_ask_10 (List.mem_append_left _ (List.mem_cons_of_mem _ (List.mem_append_left _ (List.mem_append_left _ (List.mem_append_left _ (List.mem_append_left _ (List.mem_append_left _ (List.mem_append_left _ (List.mem_append_left _ (List.mem_append_left _ (List.mem_append_left _ (List.mem_append_left _ (List.mem_append_left _ (List.mem_append_left _ (List.mem_append_left _ (List.mem_append_left _ (List.mem_append_left _ (List.mem_append_left _ (List.mem_append_left _ (List.mem_append_left _ (List.mem_append_left _ (List.mem_of_getElem? (i := 1) rfl)))))))))))))))))))))) ?_
    exact kv_lreturn X hr (Nat.le_of_ble_eq_true rfl) (Nat.le_of_ble_eq_true rfl) ⟨_, ⟨LP_mk e9 hI hXp hO hR hC hT hL hW hV hM, Or.inr (⟨hX, rfl⟩)⟩, rfl⟩ dL_ask_13
  ·
    obtain ⟨j, ⟨hj, rfl⟩, hdn, rfl⟩ := hp
    exact kv_lreturn X hr (Nat.le_of_ble_eq_true rfl) (Nat.le_of_ble_eq_true rfl) ⟨(ks, ad, cE dd E z), ⟨LP_mk z hI hXp hO hR hC hT hL hW hV hM, Or.inl ⟨j, ⟨hj, rfl⟩, w_U hI hdn hj⟩⟩, rfl⟩ dL_ask_7
set_option maxRecDepth 100000 in
set_option maxHeartbeats 4000000 in
theorem a_needed (l : Launch) {dd : kDD} {c : kT} (wr wx : kT) {M : mS} {nR nC nt nL nW nV nM : Nat} {cn nm mn me li rl : Nat → Nat} {xa : Nat} (h : LPo dd c M nR nC nt nL nW nV nM cn nm mn me li rl xa) (v x : Int32) : kCl l yL_ask (wsL_ask ++ kHp) ({ frames := 16, cells := 2, slots := 12, locals := 400 } : Room) 2 12 dd [.ref xa, .int 2, .int v, .int x] (jk c wr wx, jd c wr wx, jE c wr wx) (kQl (S := kT) (fun r z => LPo dd z M nR nC nt nL nW nV nM cn nm mn me li rl xa ∧ ((∃ j k, (j < nt ∧ k < nR ∧ v = nI j ∧ x = nI k) ∧ r = (wvN M nR nC nt nL nW nV nM cn nm mn me li rl (M.1 24)) j k) ∨ (¬ ((∃ j, j < nt ∧ v = nI j) ∧ (∃ j, j < nR ∧ x = nI j)) ∧ r = -2001))) (fun z => jk z wr wx) (fun z => jd z wr wx) (fun z => jE z wr wx)) := by
  obtain ⟨ks, ad, E, e, hks, hcf, rfl, hI, hXp, hO, hR, hC, hT, hL, hW, hV, hM⟩ := LP_open h
  obtain ⟨iR, iC, iT, iL, iW, iV, iM, hcn, hnm, hmn, hme, hs2, hli, hB, hpk, hmI, hmR, hmIc, hmRc, hlG⟩ := rI_all hI
  rw [JW_cf hcf]
  refine kMetlW (ws' := _) (cc := cL_ask) (maxL := 5) (rt := .long) (by decide) rfl (Nat.le_of_ble_eq_true rfl) (fun g X hr htb hnL hRR hl0 => ?_)
  show kv dd g 0 0 0 [(0, .ref (ad 0)), (1, .int 2), (2, .int v), (3, .int x)] [] (jk (ks, ad, cE dd E e) wr wx) (jd (ks, ad, cE dd E e) wr wx) (jE (ks, ad, cE dd E e) wr wx)
  refine kv_aload_n X 0 dL_ask_0 rfl rfl ?_
  refine kv_iload_n X 1 dL_ask_1 rfl rfl ?_
  refine kv_iload_n X 2 dL_ask_2 rfl rfl ?_
  refine kv_iload_n X 3 dL_ask_3 rfl rfl ?_
  refine kv_calllXSc (As := [.ref (ad 0), .int 2, .int v, .int x]) [] X (c_L_asked_needed l dd ks ad E e wr wx hks M nR nC nt nL nW nV nM cn nm mn me li rl (M.1 24) hO hR hC hT hL hW hV hM hB (cmI (M.2.1 22) nV) (cmI (M.2.1 23) nV) hmIc hmRc hpk v x (rI_fx hI)) hl0 (kCS_of X 4 (goodIn_ext gL_ask_L_asked) rfl rfl rfl (by decide +kernel) hRR ⟨(Nat.le_of_ble_eq_true rfl), (Nat.le_of_ble_eq_true rfl)⟩) rfl rfl (Nat.le_of_ble_eq_true rfl) hRR ⟨(Nat.le_of_ble_eq_true rfl), (Nat.le_of_ble_eq_true rfl)⟩ dL_ask_4 (fun X9 u hX => ?_) (fun r9 z hp => ?_)
  ·
    obtain ⟨u1, ⟨e9, rfl, hX⟩, rfl⟩ := hX
    rcases hX with ⟨rfl, hX⟩
    refine kvx_catch (nm := "java/lang/IndexOutOfBoundsException") X htb [] (⟨0, 7, 8, 82⟩ : ExceptionTableEntry) [(⟨0, 7, 14, 84⟩ : ExceptionTableEntry), (⟨0, 7, 20, 88⟩ : ExceptionTableEntry), (⟨0, 7, 26, 150⟩ : ExceptionTableEntry)] rfl (fun z hz => nomatch hz) (by decide) (by decide) (List.mem_append_right _ (List.mem_of_getElem? (i := 0) rfl)) (by decide +kernel) (fun q9 => ?_)
    show kv dd g _ _ 8 [(0, .ref (ad 0)), (1, .int 2), (2, .int v), (3, .int x)] [.ref q9] (jk (ks, ad, cE dd E e9) wr wx) (jd (ks, ad, cE dd E e9) wr wx) (jE (ks, ad, cE dd E e9) wr wx)
    refine kv_astore (lv2 := (4, .ref q9) :: [(0, .ref (ad 0)), (1, .int 2), (2, .int v), (3, .int x)]) X dL_ask_8 (by rw [hnL]; decide) rfl ?_
    refine kv_ldc2 (v := -2001) X dL_ask_10 (List.mem_append_left _ (List.mem_cons_of_mem _ (List.mem_append_left _ (List.mem_append_left _ (List.mem_append_left _ (List.mem_append_left _ (List.mem_append_left _ (List.mem_append_left _ (List.mem_append_left _ (List.mem_append_left _ (List.mem_append_left _ (List.mem_append_left _ (List.mem_append_left _ (List.mem_append_left _ (List.mem_append_left _ (List.mem_append_left _ (List.mem_append_left _ (List.mem_append_left _ (List.mem_append_left _ (List.mem_append_left _ (List.mem_append_left _ (List.mem_of_getElem? (i := 1) rfl)))))))))))))))))))))) ?_
    exact kv_lreturn X hr (Nat.le_of_ble_eq_true rfl) (Nat.le_of_ble_eq_true rfl) ⟨_, ⟨LP_mk e9 hI hXp hO hR hC hT hL hW hV hM, Or.inr (⟨hX, rfl⟩)⟩, rfl⟩ dL_ask_13
  ·
    obtain ⟨j, k, ⟨hj, hk, rfl, rfl⟩, hdn, rfl⟩ := hp
    exact kv_lreturn X hr (Nat.le_of_ble_eq_true rfl) (Nat.le_of_ble_eq_true rfl) ⟨(ks, ad, cE dd E z), ⟨LP_mk z hI hXp hO hR hC hT hL hW hV hM, Or.inl ⟨j, k, ⟨hj, hk, rfl, rfl⟩, w_N hI hdn hj k (by have := (rI_b hI).1; omega)⟩⟩, rfl⟩ dL_ask_7
set_option maxRecDepth 100000 in
set_option maxHeartbeats 4000000 in
theorem a_difference (l : Launch) {dd : kDD} {c : kT} (wr wx : kT) {M : mS} {nR nC nt nL nW nV nM : Nat} {cn nm mn me li rl : Nat → Nat} {xa : Nat} (h : LPo dd c M nR nC nt nL nW nV nM cn nm mn me li rl xa) (v x : Int32) : kCl l yL_ask (wsL_ask ++ kHp) ({ frames := 16, cells := 2, slots := 12, locals := 400 } : Room) 2 12 dd [.ref xa, .int 5, .int v, .int x] (jk c wr wx, jd c wr wx, jE c wr wx) (kQl (S := kT) (fun r z => LPo dd z M nR nC nt nL nW nV nM cn nm mn me li rl xa ∧ ((∃ j, (j < nV ∧ v = nI j) ∧ kFx (M.2.1 13) cn (fun k => cmI (M.2.1 22) nV ((M.1 24) ^^^ ((1 : Int32) <<< (nI j &&& 31))) (nm k)) (nJ (M.2.1 13) cn (fun k => cmI (M.2.1 22) nV ((M.1 24) ^^^ ((1 : Int32) <<< (nI j &&& 31))) (nm k)) 2) nt ∧ r = (wvT M nR nC nt nL nW nV nM cn nm mn me li rl ((M.1 24) ^^^ ((1 : Int32) <<< (nI j &&& 31)))) - (wvT M nR nC nt nL nW nV nM cn nm mn me li rl (M.1 24))) ∨ (¬ (∃ j, j < nV ∧ v = nI j) ∧ r = -2001) ∨ ((∃ j, (j < nV ∧ v = nI j) ∧ ¬ kFx (M.2.1 13) cn (fun k => (cmI (M.2.1 22) nV) ((M.1 24) ^^^ ((1 : Int32) <<< (nI j &&& 31))) (nm k)) (nJ (M.2.1 13) cn (fun k => (cmI (M.2.1 22) nV) ((M.1 24) ^^^ ((1 : Int32) <<< (nI j &&& 31))) (nm k)) 2) nt) ∧ r = -2004))) (fun z => jk z wr wx) (fun z => jd z wr wx) (fun z => jE z wr wx)) := by
  obtain ⟨ks, ad, E, e, hks, hcf, rfl, hI, hXp, hO, hR, hC, hT, hL, hW, hV, hM⟩ := LP_open h
  obtain ⟨iR, iC, iT, iL, iW, iV, iM, hcn, hnm, hmn, hme, hs2, hli, hB, hpk, hmI, hmR, hmIc, hmRc, hlG⟩ := rI_all hI
  rw [JW_cf hcf]
  refine kMetlW (ws' := _) (cc := cL_ask) (maxL := 5) (rt := .long) (by decide) rfl (Nat.le_of_ble_eq_true rfl) (fun g X hr htb hnL hRR hl0 => ?_)
  show kv dd g 0 0 0 [(0, .ref (ad 0)), (1, .int 5), (2, .int v), (3, .int x)] [] (jk (ks, ad, cE dd E e) wr wx) (jd (ks, ad, cE dd E e) wr wx) (jE (ks, ad, cE dd E e) wr wx)
  refine kv_aload_n X 0 dL_ask_0 rfl rfl ?_
  refine kv_iload_n X 1 dL_ask_1 rfl rfl ?_
  refine kv_iload_n X 2 dL_ask_2 rfl rfl ?_
  refine kv_iload_n X 3 dL_ask_3 rfl rfl ?_
  refine kv_calllXSc (As := [.ref (ad 0), .int 5, .int v, .int x]) [] X (c_L_asked_difference l dd ks ad E e wr wx hks M nR nC nt nL nW nV nM cn nm mn me li rl (M.1 24) hO hR hC hT hL hW hV hM hB (cmI (M.2.1 22) nV) (cmI (M.2.1 23) nV) hmIc hmRc hpk v (rI_fx hI) x) hl0 (kCS_of X 4 (goodIn_ext gL_ask_L_asked) rfl rfl rfl (by decide +kernel) hRR ⟨(Nat.le_of_ble_eq_true rfl), (Nat.le_of_ble_eq_true rfl)⟩) rfl rfl (Nat.le_of_ble_eq_true rfl) hRR ⟨(Nat.le_of_ble_eq_true rfl), (Nat.le_of_ble_eq_true rfl)⟩ dL_ask_4 (fun X9 u hX => ?_) (fun r9 z hp => ?_)
  ·
    obtain ⟨u1, ⟨e9, rfl, hX⟩, rfl⟩ := hX
    rcases hX with ⟨rfl, hX⟩ | ⟨rfl, hX⟩
    ·
      refine kvx_catch (nm := "java/lang/IndexOutOfBoundsException") X htb [] (⟨0, 7, 8, 82⟩ : ExceptionTableEntry) [(⟨0, 7, 14, 84⟩ : ExceptionTableEntry), (⟨0, 7, 20, 88⟩ : ExceptionTableEntry), (⟨0, 7, 26, 150⟩ : ExceptionTableEntry)] rfl (fun z hz => nomatch hz) (by decide) (by decide) (List.mem_append_right _ (List.mem_of_getElem? (i := 0) rfl)) (by decide +kernel) (fun q9 => ?_)
      show kv dd g _ _ 8 [(0, .ref (ad 0)), (1, .int 5), (2, .int v), (3, .int x)] [.ref q9] (jk (ks, ad, cE dd E e9) wr wx) (jd (ks, ad, cE dd E e9) wr wx) (jE (ks, ad, cE dd E e9) wr wx)
      refine kv_astore (lv2 := (4, .ref q9) :: [(0, .ref (ad 0)), (1, .int 5), (2, .int v), (3, .int x)]) X dL_ask_8 (by rw [hnL]; decide) rfl ?_
      refine kv_ldc2 (v := -2001) X dL_ask_10 (List.mem_append_left _ (List.mem_cons_of_mem _ (List.mem_append_left _ (List.mem_append_left _ (List.mem_append_left _ (List.mem_append_left _ (List.mem_append_left _ (List.mem_append_left _ (List.mem_append_left _ (List.mem_append_left _ (List.mem_append_left _ (List.mem_append_left _ (List.mem_append_left _ (List.mem_append_left _ (List.mem_append_left _ (List.mem_append_left _ (List.mem_append_left _ (List.mem_append_left _ (List.mem_append_left _ (List.mem_append_left _ (List.mem_append_left _ (List.mem_of_getElem? (i := 1) rfl)))))))))))))))))))))) ?_
      exact kv_lreturn X hr (Nat.le_of_ble_eq_true rfl) (Nat.le_of_ble_eq_true rfl) ⟨_, ⟨LP_mk e9 hI hXp hO hR hC hT hL hW hV hM, Or.inr (Or.inl ⟨hX, rfl⟩)⟩, rfl⟩ dL_ask_13
    ·
      refine kvx_catch (nm := "java/lang/UnsupportedOperationException") X htb [(⟨0, 7, 8, 82⟩ : ExceptionTableEntry), (⟨0, 7, 14, 84⟩ : ExceptionTableEntry)] (⟨0, 7, 20, 88⟩ : ExceptionTableEntry) [(⟨0, 7, 26, 150⟩ : ExceptionTableEntry)] rfl (fun z hz => by
          simp only [List.mem_cons, List.not_mem_nil, or_false] at hz
          rcases hz with rfl | rfl
          · exact ⟨by decide, _, (List.mem_append_right _ (List.mem_of_getElem? (i := 0) rfl)), by decide +kernel⟩
          · exact ⟨by decide, _, (List.mem_append_right _ (List.mem_of_getElem? (i := 1) rfl)), by decide +kernel⟩) (by decide) (by decide) (List.mem_append_right _ (List.mem_of_getElem? (i := 3) rfl)) (by decide +kernel) (fun q9 => ?_)
      show kv dd g _ _ 20 [(0, .ref (ad 0)), (1, .int 5), (2, .int v), (3, .int x)] [.ref q9] (jk (ks, ad, cE dd E e9) wr wx) (jd (ks, ad, cE dd E e9) wr wx) (jE (ks, ad, cE dd E e9) wr wx)
      refine kv_astore (lv2 := (4, .ref q9) :: [(0, .ref (ad 0)), (1, .int 5), (2, .int v), (3, .int x)]) X dL_ask_20 (by rw [hnL]; decide) rfl ?_
      refine kv_ldc2 (v := -2004) X dL_ask_22 (List.mem_append_left _ (List.mem_cons_of_mem _ (List.mem_append_left _ (List.mem_append_left _ (List.mem_append_left _ (List.mem_append_left _ (List.mem_append_left _ (List.mem_append_left _ (List.mem_append_left _ (List.mem_append_left _ (List.mem_append_left _ (List.mem_append_left _ (List.mem_append_left _ (List.mem_append_left _ (List.mem_append_left _ (List.mem_append_left _ (List.mem_append_left _ (List.mem_append_left _ (List.mem_append_left _ (List.mem_append_left _ (List.mem_append_left _ (List.mem_of_getElem? (i := 3) rfl)))))))))))))))))))))) ?_
      exact kv_lreturn X hr (Nat.le_of_ble_eq_true rfl) (Nat.le_of_ble_eq_true rfl) ⟨_, ⟨LP_mk e9 hI hXp hO hR hC hT hL hW hV hM, Or.inr (Or.inr (⟨hX, rfl⟩))⟩, rfl⟩ dL_ask_25
  ·
    obtain ⟨j, ⟨hj, rfl⟩, hf, rfl⟩ := hp
    exact kv_lreturn X hr (Nat.le_of_ble_eq_true rfl) (Nat.le_of_ble_eq_true rfl) ⟨(ks, ad, cE dd E z), ⟨LP_mk z hI hXp hO hR hC hT hL hW hV hM, Or.inl ⟨j, ⟨hj, rfl⟩, hf, rfl⟩⟩, rfl⟩ dL_ask_7
set_option maxRecDepth 100000 in
set_option maxHeartbeats 4000000 in
theorem a_markup (l : Launch) {dd : kDD} {c : kT} (wr wx : kT) {M : mS} {nR nC nt nL nW nV nM : Nat} {cn nm mn me li rl : Nat → Nat} {xa : Nat} (h : LPo dd c M nR nC nt nL nW nV nM cn nm mn me li rl xa) (v x : Int32) : kCl l yL_ask (wsL_ask ++ kHp) ({ frames := 16, cells := 2, slots := 12, locals := 400 } : Room) 2 12 dd [.ref xa, .int 6, .int v, .int x] (jk c wr wx, jd c wr wx, jE c wr wx) (kQl (S := kT) (fun r z => LPo dd z M nR nC nt nL nW nV nM cn nm mn me li rl xa ∧ ((∃ j, (j < nM ∧ v = nI j) ∧ r = (wvM M nR nC nt nL nW nV nM cn nm mn me li rl (M.1 24)) j) ∨ (¬ (∃ j, j < nM ∧ v = nI j) ∧ r = -2001))) (fun z => jk z wr wx) (fun z => jd z wr wx) (fun z => jE z wr wx)) := by
  obtain ⟨ks, ad, E, e, hks, hcf, rfl, hI, hXp, hO, hR, hC, hT, hL, hW, hV, hM⟩ := LP_open h
  obtain ⟨iR, iC, iT, iL, iW, iV, iM, hcn, hnm, hmn, hme, hs2, hli, hB, hpk, hmI, hmR, hmIc, hmRc, hlG⟩ := rI_all hI
  rw [JW_cf hcf]
  refine kMetlW (ws' := _) (cc := cL_ask) (maxL := 5) (rt := .long) (by decide) rfl (Nat.le_of_ble_eq_true rfl) (fun g X hr htb hnL hRR hl0 => ?_)
  show kv dd g 0 0 0 [(0, .ref (ad 0)), (1, .int 6), (2, .int v), (3, .int x)] [] (jk (ks, ad, cE dd E e) wr wx) (jd (ks, ad, cE dd E e) wr wx) (jE (ks, ad, cE dd E e) wr wx)
  refine kv_aload_n X 0 dL_ask_0 rfl rfl ?_
  refine kv_iload_n X 1 dL_ask_1 rfl rfl ?_
  refine kv_iload_n X 2 dL_ask_2 rfl rfl ?_
  refine kv_iload_n X 3 dL_ask_3 rfl rfl ?_
  refine kv_calllXSc (As := [.ref (ad 0), .int 6, .int v, .int x]) [] X (c_L_asked_markup l dd ks ad E e wr wx hks M nR nC nt nL nW nV nM cn nm mn me li rl (M.1 24) hO hR hC hT hL hW hV hM hB (cmI (M.2.1 22) nV) (cmI (M.2.1 23) nV) hmIc hmRc hpk v (rI_fx hI) x) hl0 (kCS_of X 4 (goodIn_ext gL_ask_L_asked) rfl rfl rfl (by decide +kernel) hRR ⟨(Nat.le_of_ble_eq_true rfl), (Nat.le_of_ble_eq_true rfl)⟩) rfl rfl (Nat.le_of_ble_eq_true rfl) hRR ⟨(Nat.le_of_ble_eq_true rfl), (Nat.le_of_ble_eq_true rfl)⟩ dL_ask_4 (fun X9 u hX => ?_) (fun r9 z hp => ?_)
  ·
    obtain ⟨u1, ⟨e9, rfl, hX⟩, rfl⟩ := hX
    rcases hX with ⟨rfl, hX⟩
    refine kvx_catch (nm := "java/lang/IndexOutOfBoundsException") X htb [] (⟨0, 7, 8, 82⟩ : ExceptionTableEntry) [(⟨0, 7, 14, 84⟩ : ExceptionTableEntry), (⟨0, 7, 20, 88⟩ : ExceptionTableEntry), (⟨0, 7, 26, 150⟩ : ExceptionTableEntry)] rfl (fun z hz => nomatch hz) (by decide) (by decide) (List.mem_append_right _ (List.mem_of_getElem? (i := 0) rfl)) (by decide +kernel) (fun q9 => ?_)
    show kv dd g _ _ 8 [(0, .ref (ad 0)), (1, .int 6), (2, .int v), (3, .int x)] [.ref q9] (jk (ks, ad, cE dd E e9) wr wx) (jd (ks, ad, cE dd E e9) wr wx) (jE (ks, ad, cE dd E e9) wr wx)
    refine kv_astore (lv2 := (4, .ref q9) :: [(0, .ref (ad 0)), (1, .int 6), (2, .int v), (3, .int x)]) X dL_ask_8 (by rw [hnL]; decide) rfl ?_
    refine kv_ldc2 (v := -2001) X dL_ask_10 (List.mem_append_left _ (List.mem_cons_of_mem _ (List.mem_append_left _ (List.mem_append_left _ (List.mem_append_left _ (List.mem_append_left _ (List.mem_append_left _ (List.mem_append_left _ (List.mem_append_left _ (List.mem_append_left _ (List.mem_append_left _ (List.mem_append_left _ (List.mem_append_left _ (List.mem_append_left _ (List.mem_append_left _ (List.mem_append_left _ (List.mem_append_left _ (List.mem_append_left _ (List.mem_append_left _ (List.mem_append_left _ (List.mem_append_left _ (List.mem_of_getElem? (i := 1) rfl)))))))))))))))))))))) ?_
    exact kv_lreturn X hr (Nat.le_of_ble_eq_true rfl) (Nat.le_of_ble_eq_true rfl) ⟨_, ⟨LP_mk e9 hI hXp hO hR hC hT hL hW hV hM, Or.inr (⟨hX, rfl⟩)⟩, rfl⟩ dL_ask_13
  ·
    obtain ⟨j, ⟨hj, rfl⟩, hdn, rfl⟩ := hp
    exact kv_lreturn X hr (Nat.le_of_ble_eq_true rfl) (Nat.le_of_ble_eq_true rfl) ⟨(ks, ad, cE dd E z), ⟨LP_mk z hI hXp hO hR hC hT hL hW hV hM, Or.inl ⟨j, ⟨hj, rfl⟩, w_M hI hdn hj⟩⟩, rfl⟩ dL_ask_7
set_option maxRecDepth 100000 in
set_option maxHeartbeats 4000000 in
theorem a_amount (l : Launch) {dd : kDD} {c : kT} (wr wx : kT) {M : mS} {nR nC nt nL nW nV nM : Nat} {cn nm mn me li rl : Nat → Nat} {xa : Nat} (h : LPo dd c M nR nC nt nL nW nV nM cn nm mn me li rl xa) (v x : Int32) : kCl l yL_ask (wsL_ask ++ kHp) ({ frames := 16, cells := 2, slots := 12, locals := 400 } : Room) 2 12 dd [.ref xa, .int 7, .int v, .int x] (jk c wr wx, jd c wr wx, jE c wr wx) (kQl (S := kT) (fun r z => LPo dd z M nR nC nt nL nW nV nM cn nm mn me li rl xa ∧ ((∃ j, (j < nR ∧ v = nI j) ∧ r = (wvA M nR nC nt nL nW nV nM cn nm mn me li rl (M.1 24)) j) ∨ (¬ (∃ j, j < nR ∧ v = nI j) ∧ r = -2001))) (fun z => jk z wr wx) (fun z => jd z wr wx) (fun z => jE z wr wx)) := by
  obtain ⟨ks, ad, E, e, hks, hcf, rfl, hI, hXp, hO, hR, hC, hT, hL, hW, hV, hM⟩ := LP_open h
  obtain ⟨iR, iC, iT, iL, iW, iV, iM, hcn, hnm, hmn, hme, hs2, hli, hB, hpk, hmI, hmR, hmIc, hmRc, hlG⟩ := rI_all hI
  rw [JW_cf hcf]
  refine kMetlW (ws' := _) (cc := cL_ask) (maxL := 5) (rt := .long) (by decide) rfl (Nat.le_of_ble_eq_true rfl) (fun g X hr htb hnL hRR hl0 => ?_)
  show kv dd g 0 0 0 [(0, .ref (ad 0)), (1, .int 7), (2, .int v), (3, .int x)] [] (jk (ks, ad, cE dd E e) wr wx) (jd (ks, ad, cE dd E e) wr wx) (jE (ks, ad, cE dd E e) wr wx)
  refine kv_aload_n X 0 dL_ask_0 rfl rfl ?_
  refine kv_iload_n X 1 dL_ask_1 rfl rfl ?_
  refine kv_iload_n X 2 dL_ask_2 rfl rfl ?_
  refine kv_iload_n X 3 dL_ask_3 rfl rfl ?_
  refine kv_calllXSc (As := [.ref (ad 0), .int 7, .int v, .int x]) [] X (c_L_asked_amount l dd ks ad E e wr wx hks M nR nC nt nL nW nV nM cn nm mn me li rl (M.1 24) hO hR hC hT hL hW hV hM hB (cmI (M.2.1 22) nV) (cmI (M.2.1 23) nV) hmIc hmRc hpk v (rI_fx hI) x) hl0 (kCS_of X 4 (goodIn_ext gL_ask_L_asked) rfl rfl rfl (by decide +kernel) hRR ⟨(Nat.le_of_ble_eq_true rfl), (Nat.le_of_ble_eq_true rfl)⟩) rfl rfl (Nat.le_of_ble_eq_true rfl) hRR ⟨(Nat.le_of_ble_eq_true rfl), (Nat.le_of_ble_eq_true rfl)⟩ dL_ask_4 (fun X9 u hX => ?_) (fun r9 z hp => ?_)
  ·
    obtain ⟨u1, ⟨e9, rfl, hX⟩, rfl⟩ := hX
    rcases hX with ⟨rfl, hX⟩
    refine kvx_catch (nm := "java/lang/IndexOutOfBoundsException") X htb [] (⟨0, 7, 8, 82⟩ : ExceptionTableEntry) [(⟨0, 7, 14, 84⟩ : ExceptionTableEntry), (⟨0, 7, 20, 88⟩ : ExceptionTableEntry), (⟨0, 7, 26, 150⟩ : ExceptionTableEntry)] rfl (fun z hz => nomatch hz) (by decide) (by decide) (List.mem_append_right _ (List.mem_of_getElem? (i := 0) rfl)) (by decide +kernel) (fun q9 => ?_)
    show kv dd g _ _ 8 [(0, .ref (ad 0)), (1, .int 7), (2, .int v), (3, .int x)] [.ref q9] (jk (ks, ad, cE dd E e9) wr wx) (jd (ks, ad, cE dd E e9) wr wx) (jE (ks, ad, cE dd E e9) wr wx)
    refine kv_astore (lv2 := (4, .ref q9) :: [(0, .ref (ad 0)), (1, .int 7), (2, .int v), (3, .int x)]) X dL_ask_8 (by rw [hnL]; decide) rfl ?_
    refine kv_ldc2 (v := -2001) X dL_ask_10 (List.mem_append_left _ (List.mem_cons_of_mem _ (List.mem_append_left _ (List.mem_append_left _ (List.mem_append_left _ (List.mem_append_left _ (List.mem_append_left _ (List.mem_append_left _ (List.mem_append_left _ (List.mem_append_left _ (List.mem_append_left _ (List.mem_append_left _ (List.mem_append_left _ (List.mem_append_left _ (List.mem_append_left _ (List.mem_append_left _ (List.mem_append_left _ (List.mem_append_left _ (List.mem_append_left _ (List.mem_append_left _ (List.mem_append_left _ (List.mem_of_getElem? (i := 1) rfl)))))))))))))))))))))) ?_
    exact kv_lreturn X hr (Nat.le_of_ble_eq_true rfl) (Nat.le_of_ble_eq_true rfl) ⟨_, ⟨LP_mk e9 hI hXp hO hR hC hT hL hW hV hM, Or.inr (⟨hX, rfl⟩)⟩, rfl⟩ dL_ask_13
  ·
    obtain ⟨j, ⟨hj, rfl⟩, hdn, rfl⟩ := hp
    exact kv_lreturn X hr (Nat.le_of_ble_eq_true rfl) (Nat.le_of_ble_eq_true rfl) ⟨(ks, ad, cE dd E z), ⟨LP_mk z hI hXp hO hR hC hT hL hW hV hM, Or.inl ⟨j, ⟨hj, rfl⟩, w_A hdn j (by have := (rI_b hI).1; omega)⟩⟩, rfl⟩ dL_ask_7
set_option maxRecDepth 100000 in
set_option maxHeartbeats 4000000 in
theorem a_amountByTree (l : Launch) {dd : kDD} {c : kT} (wr wx : kT) {M : mS} {nR nC nt nL nW nV nM : Nat} {cn nm mn me li rl : Nat → Nat} {xa : Nat} (h : LPo dd c M nR nC nt nL nW nV nM cn nm mn me li rl xa) (v x : Int32) : kCl l yL_ask (wsL_ask ++ kHp) ({ frames := 16, cells := 2, slots := 12, locals := 400 } : Room) 2 12 dd [.ref xa, .int 8, .int v, .int x] (jk c wr wx, jd c wr wx, jE c wr wx) (kQl (S := kT) (fun r z => LPo dd z M nR nC nt nL nW nV nM cn nm mn me li rl xa ∧ ((∃ j, (j < nR ∧ v = nI j) ∧ r = (wvA M nR nC nt nL nW nV nM cn nm mn me li rl (M.1 24)) j) ∨ (¬ (∃ j, j < nR ∧ v = nI j) ∧ r = -2001))) (fun z => jk z wr wx) (fun z => jd z wr wx) (fun z => jE z wr wx)) := by
  obtain ⟨ks, ad, E, e, hks, hcf, rfl, hI, hXp, hO, hR, hC, hT, hL, hW, hV, hM⟩ := LP_open h
  obtain ⟨iR, iC, iT, iL, iW, iV, iM, hcn, hnm, hmn, hme, hs2, hli, hB, hpk, hmI, hmR, hmIc, hmRc, hlG⟩ := rI_all hI
  rw [JW_cf hcf]
  refine kMetlW (ws' := _) (cc := cL_ask) (maxL := 5) (rt := .long) (by decide) rfl (Nat.le_of_ble_eq_true rfl) (fun g X hr htb hnL hRR hl0 => ?_)
  show kv dd g 0 0 0 [(0, .ref (ad 0)), (1, .int 8), (2, .int v), (3, .int x)] [] (jk (ks, ad, cE dd E e) wr wx) (jd (ks, ad, cE dd E e) wr wx) (jE (ks, ad, cE dd E e) wr wx)
  refine kv_aload_n X 0 dL_ask_0 rfl rfl ?_
  refine kv_iload_n X 1 dL_ask_1 rfl rfl ?_
  refine kv_iload_n X 2 dL_ask_2 rfl rfl ?_
  refine kv_iload_n X 3 dL_ask_3 rfl rfl ?_
  refine kv_calllXSc (As := [.ref (ad 0), .int 8, .int v, .int x]) [] X (c_L_asked_amountByTree l dd ks ad E e wr wx hks M nR nC nt nL nW nV nM cn nm mn me li rl (M.1 24) hO hR hC hT hL hW hV hM hB (cmI (M.2.1 22) nV) (cmI (M.2.1 23) nV) hmIc hmRc hpk v x) hl0 (kCS_of X 4 (goodIn_ext gL_ask_L_asked) rfl rfl rfl (by decide +kernel) hRR ⟨(Nat.le_of_ble_eq_true rfl), (Nat.le_of_ble_eq_true rfl)⟩) rfl rfl (Nat.le_of_ble_eq_true rfl) hRR ⟨(Nat.le_of_ble_eq_true rfl), (Nat.le_of_ble_eq_true rfl)⟩ dL_ask_4 (fun X9 u hX => ?_) (fun r9 z hp => ?_)
  ·
    obtain ⟨u1, ⟨e9, rfl, hX⟩, rfl⟩ := hX
    rcases hX with ⟨rfl, hX⟩
    refine kvx_catch (nm := "java/lang/IndexOutOfBoundsException") X htb [] (⟨0, 7, 8, 82⟩ : ExceptionTableEntry) [(⟨0, 7, 14, 84⟩ : ExceptionTableEntry), (⟨0, 7, 20, 88⟩ : ExceptionTableEntry), (⟨0, 7, 26, 150⟩ : ExceptionTableEntry)] rfl (fun z hz => nomatch hz) (by decide) (by decide) (List.mem_append_right _ (List.mem_of_getElem? (i := 0) rfl)) (by decide +kernel) (fun q9 => ?_)
    show kv dd g _ _ 8 [(0, .ref (ad 0)), (1, .int 8), (2, .int v), (3, .int x)] [.ref q9] (jk (ks, ad, cE dd E e9) wr wx) (jd (ks, ad, cE dd E e9) wr wx) (jE (ks, ad, cE dd E e9) wr wx)
    refine kv_astore (lv2 := (4, .ref q9) :: [(0, .ref (ad 0)), (1, .int 8), (2, .int v), (3, .int x)]) X dL_ask_8 (by rw [hnL]; decide) rfl ?_
    refine kv_ldc2 (v := -2001) X dL_ask_10 (List.mem_append_left _ (List.mem_cons_of_mem _ (List.mem_append_left _ (List.mem_append_left _ (List.mem_append_left _ (List.mem_append_left _ (List.mem_append_left _ (List.mem_append_left _ (List.mem_append_left _ (List.mem_append_left _ (List.mem_append_left _ (List.mem_append_left _ (List.mem_append_left _ (List.mem_append_left _ (List.mem_append_left _ (List.mem_append_left _ (List.mem_append_left _ (List.mem_append_left _ (List.mem_append_left _ (List.mem_append_left _ (List.mem_append_left _ (List.mem_of_getElem? (i := 1) rfl)))))))))))))))))))))) ?_
    exact kv_lreturn X hr (Nat.le_of_ble_eq_true rfl) (Nat.le_of_ble_eq_true rfl) ⟨_, ⟨LP_mk e9 hI hXp hO hR hC hT hL hW hV hM, Or.inr (⟨hX, rfl⟩)⟩, rfl⟩ dL_ask_13
  ·
    obtain ⟨j, ⟨hj, rfl⟩, rfl⟩ := hp
    exact kv_lreturn X hr (Nat.le_of_ble_eq_true rfl) (Nat.le_of_ble_eq_true rfl) ⟨(ks, ad, cE dd E z), ⟨LP_mk z hI hXp hO hR hC hT hL hW hV hM, Or.inl ⟨j, ⟨hj, rfl⟩, w_tree hI (by have := (rI_b hI).1; omega)⟩⟩, rfl⟩ dL_ask_7
set_option maxRecDepth 100000 in
set_option maxHeartbeats 4000000 in
theorem a_packs (l : Launch) {dd : kDD} {c : kT} (wr wx : kT) {M : mS} {nR nC nt nL nW nV nM : Nat} {cn nm mn me li rl : Nat → Nat} {xa : Nat} (h : LPo dd c M nR nC nt nL nW nV nM cn nm mn me li rl xa) (v x : Int32) : kCl l yL_ask (wsL_ask ++ kHp) ({ frames := 16, cells := 2, slots := 12, locals := 400 } : Room) 2 12 dd [.ref xa, .int 9, .int v, .int x] (jk c wr wx, jd c wr wx, jE c wr wx) (kQl (S := kT) (fun r z => LPo dd z M nR nC nt nL nW nV nM cn nm mn me li rl xa ∧ ((∃ j, (j < nR ∧ v = nI j) ∧ r = mpk ((wvA M nR nC nt nL nW nV nM cn nm mn me li rl (M.1 24)) j) (M.2.1 4 j) (M.2.1 5 j)) ∨ (¬ (∃ j, j < nR ∧ v = nI j) ∧ r = -2001))) (fun z => jk z wr wx) (fun z => jd z wr wx) (fun z => jE z wr wx)) := by
  obtain ⟨ks, ad, E, e, hks, hcf, rfl, hI, hXp, hO, hR, hC, hT, hL, hW, hV, hM⟩ := LP_open h
  obtain ⟨iR, iC, iT, iL, iW, iV, iM, hcn, hnm, hmn, hme, hs2, hli, hB, hpk, hmI, hmR, hmIc, hmRc, hlG⟩ := rI_all hI
  rw [JW_cf hcf]
  refine kMetlW (ws' := _) (cc := cL_ask) (maxL := 5) (rt := .long) (by decide) rfl (Nat.le_of_ble_eq_true rfl) (fun g X hr htb hnL hRR hl0 => ?_)
  show kv dd g 0 0 0 [(0, .ref (ad 0)), (1, .int 9), (2, .int v), (3, .int x)] [] (jk (ks, ad, cE dd E e) wr wx) (jd (ks, ad, cE dd E e) wr wx) (jE (ks, ad, cE dd E e) wr wx)
  refine kv_aload_n X 0 dL_ask_0 rfl rfl ?_
  refine kv_iload_n X 1 dL_ask_1 rfl rfl ?_
  refine kv_iload_n X 2 dL_ask_2 rfl rfl ?_
  refine kv_iload_n X 3 dL_ask_3 rfl rfl ?_
  refine kv_calllXSc (As := [.ref (ad 0), .int 9, .int v, .int x]) [] X (c_L_asked_packs l dd ks ad E e wr wx hks M nR nC nt nL nW nV nM cn nm mn me li rl (M.1 24) hO hR hC hT hL hW hV hM hB (cmI (M.2.1 22) nV) (cmI (M.2.1 23) nV) hmIc hmRc hpk v (rI_fx hI) x) hl0 (kCS_of X 4 (goodIn_ext gL_ask_L_asked) rfl rfl rfl (by decide +kernel) hRR ⟨(Nat.le_of_ble_eq_true rfl), (Nat.le_of_ble_eq_true rfl)⟩) rfl rfl (Nat.le_of_ble_eq_true rfl) hRR ⟨(Nat.le_of_ble_eq_true rfl), (Nat.le_of_ble_eq_true rfl)⟩ dL_ask_4 (fun X9 u hX => ?_) (fun r9 z hp => ?_)
  ·
    obtain ⟨u1, ⟨e9, rfl, hX⟩, rfl⟩ := hX
    rcases hX with ⟨rfl, hX⟩
    refine kvx_catch (nm := "java/lang/IndexOutOfBoundsException") X htb [] (⟨0, 7, 8, 82⟩ : ExceptionTableEntry) [(⟨0, 7, 14, 84⟩ : ExceptionTableEntry), (⟨0, 7, 20, 88⟩ : ExceptionTableEntry), (⟨0, 7, 26, 150⟩ : ExceptionTableEntry)] rfl (fun z hz => nomatch hz) (by decide) (by decide) (List.mem_append_right _ (List.mem_of_getElem? (i := 0) rfl)) (by decide +kernel) (fun q9 => ?_)
    show kv dd g _ _ 8 [(0, .ref (ad 0)), (1, .int 9), (2, .int v), (3, .int x)] [.ref q9] (jk (ks, ad, cE dd E e9) wr wx) (jd (ks, ad, cE dd E e9) wr wx) (jE (ks, ad, cE dd E e9) wr wx)
    refine kv_astore (lv2 := (4, .ref q9) :: [(0, .ref (ad 0)), (1, .int 9), (2, .int v), (3, .int x)]) X dL_ask_8 (by rw [hnL]; decide) rfl ?_
    refine kv_ldc2 (v := -2001) X dL_ask_10 (List.mem_append_left _ (List.mem_cons_of_mem _ (List.mem_append_left _ (List.mem_append_left _ (List.mem_append_left _ (List.mem_append_left _ (List.mem_append_left _ (List.mem_append_left _ (List.mem_append_left _ (List.mem_append_left _ (List.mem_append_left _ (List.mem_append_left _ (List.mem_append_left _ (List.mem_append_left _ (List.mem_append_left _ (List.mem_append_left _ (List.mem_append_left _ (List.mem_append_left _ (List.mem_append_left _ (List.mem_append_left _ (List.mem_append_left _ (List.mem_of_getElem? (i := 1) rfl)))))))))))))))))))))) ?_
    exact kv_lreturn X hr (Nat.le_of_ble_eq_true rfl) (Nat.le_of_ble_eq_true rfl) ⟨_, ⟨LP_mk e9 hI hXp hO hR hC hT hL hW hV hM, Or.inr (⟨hX, rfl⟩)⟩, rfl⟩ dL_ask_13
  ·
    obtain ⟨j, ⟨hj, rfl⟩, hdn, rfl⟩ := hp
    exact kv_lreturn X hr (Nat.le_of_ble_eq_true rfl) (Nat.le_of_ble_eq_true rfl) ⟨(ks, ad, cE dd E z), ⟨LP_mk z hI hXp hO hR hC hT hL hW hV hM, Or.inl ⟨j, ⟨hj, rfl⟩, by rw [w_A hdn j (by have := (rI_b hI).1; omega)]⟩⟩, rfl⟩ dL_ask_7
set_option maxRecDepth 100000 in
set_option maxHeartbeats 4000000 in
theorem a_costOfLine (l : Launch) {dd : kDD} {c : kT} (wr wx : kT) {M : mS} {nR nC nt nL nW nV nM : Nat} {cn nm mn me li rl : Nat → Nat} {xa : Nat} (h : LPo dd c M nR nC nt nL nW nV nM cn nm mn me li rl xa) (v x : Int32) : kCl l yL_ask (wsL_ask ++ kHp) ({ frames := 16, cells := 2, slots := 12, locals := 400 } : Room) 2 12 dd [.ref xa, .int 10, .int v, .int x] (jk c wr wx, jd c wr wx, jE c wr wx) (kQl (S := kT) (fun r z => LPo dd z M nR nC nt nL nW nV nM cn nm mn me li rl xa ∧ ((∃ j, (j < nL ∧ v = nI j) ∧ r = (wvL M nR nC nt nL nW nV nM cn nm mn me li rl (M.1 24)) j) ∨ (¬ (∃ j, j < nL ∧ v = nI j) ∧ r = -2001))) (fun z => jk z wr wx) (fun z => jd z wr wx) (fun z => jE z wr wx)) := by
  obtain ⟨ks, ad, E, e, hks, hcf, rfl, hI, hXp, hO, hR, hC, hT, hL, hW, hV, hM⟩ := LP_open h
  obtain ⟨iR, iC, iT, iL, iW, iV, iM, hcn, hnm, hmn, hme, hs2, hli, hB, hpk, hmI, hmR, hmIc, hmRc, hlG⟩ := rI_all hI
  rw [JW_cf hcf]
  refine kMetlW (ws' := _) (cc := cL_ask) (maxL := 5) (rt := .long) (by decide) rfl (Nat.le_of_ble_eq_true rfl) (fun g X hr htb hnL hRR hl0 => ?_)
  show kv dd g 0 0 0 [(0, .ref (ad 0)), (1, .int 10), (2, .int v), (3, .int x)] [] (jk (ks, ad, cE dd E e) wr wx) (jd (ks, ad, cE dd E e) wr wx) (jE (ks, ad, cE dd E e) wr wx)
  refine kv_aload_n X 0 dL_ask_0 rfl rfl ?_
  refine kv_iload_n X 1 dL_ask_1 rfl rfl ?_
  refine kv_iload_n X 2 dL_ask_2 rfl rfl ?_
  refine kv_iload_n X 3 dL_ask_3 rfl rfl ?_
  refine kv_calllXSc (As := [.ref (ad 0), .int 10, .int v, .int x]) [] X (c_L_asked_costOfLine l dd ks ad E e wr wx hks M nR nC nt nL nW nV nM cn nm mn me li rl (M.1 24) hO hR hC hT hL hW hV hM hB (cmI (M.2.1 22) nV) (cmI (M.2.1 23) nV) hmIc hmRc hpk v (rI_fx hI) x) hl0 (kCS_of X 4 (goodIn_ext gL_ask_L_asked) rfl rfl rfl (by decide +kernel) hRR ⟨(Nat.le_of_ble_eq_true rfl), (Nat.le_of_ble_eq_true rfl)⟩) rfl rfl (Nat.le_of_ble_eq_true rfl) hRR ⟨(Nat.le_of_ble_eq_true rfl), (Nat.le_of_ble_eq_true rfl)⟩ dL_ask_4 (fun X9 u hX => ?_) (fun r9 z hp => ?_)
  ·
    obtain ⟨u1, ⟨e9, rfl, hX⟩, rfl⟩ := hX
    rcases hX with ⟨rfl, hX⟩
    refine kvx_catch (nm := "java/lang/IndexOutOfBoundsException") X htb [] (⟨0, 7, 8, 82⟩ : ExceptionTableEntry) [(⟨0, 7, 14, 84⟩ : ExceptionTableEntry), (⟨0, 7, 20, 88⟩ : ExceptionTableEntry), (⟨0, 7, 26, 150⟩ : ExceptionTableEntry)] rfl (fun z hz => nomatch hz) (by decide) (by decide) (List.mem_append_right _ (List.mem_of_getElem? (i := 0) rfl)) (by decide +kernel) (fun q9 => ?_)
    show kv dd g _ _ 8 [(0, .ref (ad 0)), (1, .int 10), (2, .int v), (3, .int x)] [.ref q9] (jk (ks, ad, cE dd E e9) wr wx) (jd (ks, ad, cE dd E e9) wr wx) (jE (ks, ad, cE dd E e9) wr wx)
    refine kv_astore (lv2 := (4, .ref q9) :: [(0, .ref (ad 0)), (1, .int 10), (2, .int v), (3, .int x)]) X dL_ask_8 (by rw [hnL]; decide) rfl ?_
    refine kv_ldc2 (v := -2001) X dL_ask_10 (List.mem_append_left _ (List.mem_cons_of_mem _ (List.mem_append_left _ (List.mem_append_left _ (List.mem_append_left _ (List.mem_append_left _ (List.mem_append_left _ (List.mem_append_left _ (List.mem_append_left _ (List.mem_append_left _ (List.mem_append_left _ (List.mem_append_left _ (List.mem_append_left _ (List.mem_append_left _ (List.mem_append_left _ (List.mem_append_left _ (List.mem_append_left _ (List.mem_append_left _ (List.mem_append_left _ (List.mem_append_left _ (List.mem_append_left _ (List.mem_of_getElem? (i := 1) rfl)))))))))))))))))))))) ?_
    exact kv_lreturn X hr (Nat.le_of_ble_eq_true rfl) (Nat.le_of_ble_eq_true rfl) ⟨_, ⟨LP_mk e9 hI hXp hO hR hC hT hL hW hV hM, Or.inr (⟨hX, rfl⟩)⟩, rfl⟩ dL_ask_13
  ·
    obtain ⟨j, ⟨hj, rfl⟩, hdn, rfl⟩ := hp
    exact kv_lreturn X hr (Nat.le_of_ble_eq_true rfl) (Nat.le_of_ble_eq_true rfl) ⟨(ks, ad, cE dd E z), ⟨LP_mk z hI hXp hO hR hC hT hL hW hV hM, Or.inl ⟨j, ⟨hj, rfl⟩, w_L hI hdn hj⟩⟩, rfl⟩ dL_ask_7
set_option maxRecDepth 100000 in
set_option maxHeartbeats 4000000 in
theorem a_costOfTrade (l : Launch) {dd : kDD} {c : kT} (wr wx : kT) {M : mS} {nR nC nt nL nW nV nM : Nat} {cn nm mn me li rl : Nat → Nat} {xa : Nat} (h : LPo dd c M nR nC nt nL nW nV nM cn nm mn me li rl xa) (v x : Int32) : kCl l yL_ask (wsL_ask ++ kHp) ({ frames := 16, cells := 2, slots := 12, locals := 400 } : Room) 2 12 dd [.ref xa, .int 11, .int v, .int x] (jk c wr wx, jd c wr wx, jE c wr wx) (kQl (S := kT) (fun r z => LPo dd z M nR nC nt nL nW nV nM cn nm mn me li rl xa ∧ (((0 ≤ v ∧ v ≤ 5) ∧ r = (wvR M nR nC nt nL nW nV nM cn nm mn me li rl (M.1 24)) v) ∨ (¬ (0 ≤ v ∧ v ≤ 5) ∧ r = -2002))) (fun z => jk z wr wx) (fun z => jd z wr wx) (fun z => jE z wr wx)) := by
  obtain ⟨ks, ad, E, e, hks, hcf, rfl, hI, hXp, hO, hR, hC, hT, hL, hW, hV, hM⟩ := LP_open h
  obtain ⟨iR, iC, iT, iL, iW, iV, iM, hcn, hnm, hmn, hme, hs2, hli, hB, hpk, hmI, hmR, hmIc, hmRc, hlG⟩ := rI_all hI
  rw [JW_cf hcf]
  refine kMetlW (ws' := _) (cc := cL_ask) (maxL := 5) (rt := .long) (by decide) rfl (Nat.le_of_ble_eq_true rfl) (fun g X hr htb hnL hRR hl0 => ?_)
  show kv dd g 0 0 0 [(0, .ref (ad 0)), (1, .int 11), (2, .int v), (3, .int x)] [] (jk (ks, ad, cE dd E e) wr wx) (jd (ks, ad, cE dd E e) wr wx) (jE (ks, ad, cE dd E e) wr wx)
  refine kv_aload_n X 0 dL_ask_0 rfl rfl ?_
  refine kv_iload_n X 1 dL_ask_1 rfl rfl ?_
  refine kv_iload_n X 2 dL_ask_2 rfl rfl ?_
  refine kv_iload_n X 3 dL_ask_3 rfl rfl ?_
  refine kv_calllXSc (As := [.ref (ad 0), .int 11, .int v, .int x]) [] X (c_L_asked_costOfTrade l dd ks ad E e wr wx hks M nR nC nt nL nW nV nM cn nm mn me li rl (M.1 24) hO hR hC hT hL hW hV hM hB (cmI (M.2.1 22) nV) (cmI (M.2.1 23) nV) hmIc hmRc hpk v (rI_fx hI) x) hl0 (kCS_of X 4 (goodIn_ext gL_ask_L_asked) rfl rfl rfl (by decide +kernel) hRR ⟨(Nat.le_of_ble_eq_true rfl), (Nat.le_of_ble_eq_true rfl)⟩) rfl rfl (Nat.le_of_ble_eq_true rfl) hRR ⟨(Nat.le_of_ble_eq_true rfl), (Nat.le_of_ble_eq_true rfl)⟩ dL_ask_4 (fun X9 u hX => ?_) (fun r9 z hp => ?_)
  ·
    obtain ⟨u1, ⟨e9, rfl, hX⟩, rfl⟩ := hX
    rcases hX with ⟨rfl, hX⟩
    refine kvx_catch (nm := "java/lang/IllegalArgumentException") X htb [(⟨0, 7, 8, 82⟩ : ExceptionTableEntry)] (⟨0, 7, 14, 84⟩ : ExceptionTableEntry) [(⟨0, 7, 20, 88⟩ : ExceptionTableEntry), (⟨0, 7, 26, 150⟩ : ExceptionTableEntry)] rfl (fun z hz => by
        simp only [List.mem_cons, List.not_mem_nil, or_false] at hz
        rcases hz with rfl
        · exact ⟨by decide, _, (List.mem_append_right _ (List.mem_of_getElem? (i := 0) rfl)), by decide +kernel⟩) (by decide) (by decide) (List.mem_append_right _ (List.mem_of_getElem? (i := 1) rfl)) (by decide +kernel) (fun q9 => ?_)
    show kv dd g _ _ 14 [(0, .ref (ad 0)), (1, .int 11), (2, .int v), (3, .int x)] [.ref q9] (jk (ks, ad, cE dd E e9) wr wx) (jd (ks, ad, cE dd E e9) wr wx) (jE (ks, ad, cE dd E e9) wr wx)
    refine kv_astore (lv2 := (4, .ref q9) :: [(0, .ref (ad 0)), (1, .int 11), (2, .int v), (3, .int x)]) X dL_ask_14 (by rw [hnL]; decide) rfl ?_
    refine kv_ldc2 (v := -2002) X dL_ask_16 (List.mem_append_left _ (List.mem_cons_of_mem _ (List.mem_append_left _ (List.mem_append_left _ (List.mem_append_left _ (List.mem_append_left _ (List.mem_append_left _ (List.mem_append_left _ (List.mem_append_left _ (List.mem_append_left _ (List.mem_append_left _ (List.mem_append_left _ (List.mem_append_left _ (List.mem_append_left _ (List.mem_append_left _ (List.mem_append_left _ (List.mem_append_left _ (List.mem_append_left _ (List.mem_append_left _ (List.mem_append_left _ (List.mem_append_left _ (List.mem_of_getElem? (i := 2) rfl)))))))))))))))))))))) ?_
    exact kv_lreturn X hr (Nat.le_of_ble_eq_true rfl) (Nat.le_of_ble_eq_true rfl) ⟨_, ⟨LP_mk e9 hI hXp hO hR hC hT hL hW hV hM, Or.inr (⟨hX, rfl⟩)⟩, rfl⟩ dL_ask_19
  ·
    obtain ⟨hv, hdn, rfl⟩ := hp
    exact kv_lreturn X hr (Nat.le_of_ble_eq_true rfl) (Nat.le_of_ble_eq_true rfl) ⟨(ks, ad, cE dd E z), ⟨LP_mk z hI hXp hO hR hC hT hL hW hV hM, Or.inl ⟨hv, w_R hI hdn (td_m1 hv)⟩⟩, rfl⟩ dL_ask_7
set_option maxRecDepth 100000 in
set_option maxHeartbeats 4000000 in
theorem a_costOfKind (l : Launch) {dd : kDD} {c : kT} (wr wx : kT) {M : mS} {nR nC nt nL nW nV nM : Nat} {cn nm mn me li rl : Nat → Nat} {xa : Nat} (h : LPo dd c M nR nC nt nL nW nV nM cn nm mn me li rl xa) (v x : Int32) : kCl l yL_ask (wsL_ask ++ kHp) ({ frames := 16, cells := 2, slots := 12, locals := 400 } : Room) 2 12 dd [.ref xa, .int 12, .int v, .int x] (jk c wr wx, jd c wr wx, jE c wr wx) (kQl (S := kT) (fun r z => LPo dd z M nR nC nt nL nW nV nM cn nm mn me li rl xa ∧ (((v = 0 ∨ v = 1 ∨ v = 2) ∧ r = (wvK M nR nC nt nL nW nV nM cn nm mn me li rl (M.1 24)) v) ∨ (¬ (v = 0 ∨ v = 1 ∨ v = 2) ∧ r = -2002))) (fun z => jk z wr wx) (fun z => jd z wr wx) (fun z => jE z wr wx)) := by
  obtain ⟨ks, ad, E, e, hks, hcf, rfl, hI, hXp, hO, hR, hC, hT, hL, hW, hV, hM⟩ := LP_open h
  obtain ⟨iR, iC, iT, iL, iW, iV, iM, hcn, hnm, hmn, hme, hs2, hli, hB, hpk, hmI, hmR, hmIc, hmRc, hlG⟩ := rI_all hI
  rw [JW_cf hcf]
  refine kMetlW (ws' := _) (cc := cL_ask) (maxL := 5) (rt := .long) (by decide) rfl (Nat.le_of_ble_eq_true rfl) (fun g X hr htb hnL hRR hl0 => ?_)
  show kv dd g 0 0 0 [(0, .ref (ad 0)), (1, .int 12), (2, .int v), (3, .int x)] [] (jk (ks, ad, cE dd E e) wr wx) (jd (ks, ad, cE dd E e) wr wx) (jE (ks, ad, cE dd E e) wr wx)
  refine kv_aload_n X 0 dL_ask_0 rfl rfl ?_
  refine kv_iload_n X 1 dL_ask_1 rfl rfl ?_
  refine kv_iload_n X 2 dL_ask_2 rfl rfl ?_
  refine kv_iload_n X 3 dL_ask_3 rfl rfl ?_
  refine kv_calllXSc (As := [.ref (ad 0), .int 12, .int v, .int x]) [] X (c_L_asked_costOfKind l dd ks ad E e wr wx hks M nR nC nt nL nW nV nM cn nm mn me li rl (M.1 24) hO hR hC hT hL hW hV hM hB (cmI (M.2.1 22) nV) (cmI (M.2.1 23) nV) hmIc hmRc hpk v (rI_fx hI) x) hl0 (kCS_of X 4 (goodIn_ext gL_ask_L_asked) rfl rfl rfl (by decide +kernel) hRR ⟨(Nat.le_of_ble_eq_true rfl), (Nat.le_of_ble_eq_true rfl)⟩) rfl rfl (Nat.le_of_ble_eq_true rfl) hRR ⟨(Nat.le_of_ble_eq_true rfl), (Nat.le_of_ble_eq_true rfl)⟩ dL_ask_4 (fun X9 u hX => ?_) (fun r9 z hp => ?_)
  ·
    obtain ⟨u1, ⟨e9, rfl, hX⟩, rfl⟩ := hX
    rcases hX with ⟨rfl, hX⟩
    refine kvx_catch (nm := "java/lang/IllegalArgumentException") X htb [(⟨0, 7, 8, 82⟩ : ExceptionTableEntry)] (⟨0, 7, 14, 84⟩ : ExceptionTableEntry) [(⟨0, 7, 20, 88⟩ : ExceptionTableEntry), (⟨0, 7, 26, 150⟩ : ExceptionTableEntry)] rfl (fun z hz => by
        simp only [List.mem_cons, List.not_mem_nil, or_false] at hz
        rcases hz with rfl
        · exact ⟨by decide, _, (List.mem_append_right _ (List.mem_of_getElem? (i := 0) rfl)), by decide +kernel⟩) (by decide) (by decide) (List.mem_append_right _ (List.mem_of_getElem? (i := 1) rfl)) (by decide +kernel) (fun q9 => ?_)
    show kv dd g _ _ 14 [(0, .ref (ad 0)), (1, .int 12), (2, .int v), (3, .int x)] [.ref q9] (jk (ks, ad, cE dd E e9) wr wx) (jd (ks, ad, cE dd E e9) wr wx) (jE (ks, ad, cE dd E e9) wr wx)
    refine kv_astore (lv2 := (4, .ref q9) :: [(0, .ref (ad 0)), (1, .int 12), (2, .int v), (3, .int x)]) X dL_ask_14 (by rw [hnL]; decide) rfl ?_
    refine kv_ldc2 (v := -2002) X dL_ask_16 (List.mem_append_left _ (List.mem_cons_of_mem _ (List.mem_append_left _ (List.mem_append_left _ (List.mem_append_left _ (List.mem_append_left _ (List.mem_append_left _ (List.mem_append_left _ (List.mem_append_left _ (List.mem_append_left _ (List.mem_append_left _ (List.mem_append_left _ (List.mem_append_left _ (List.mem_append_left _ (List.mem_append_left _ (List.mem_append_left _ (List.mem_append_left _ (List.mem_append_left _ (List.mem_append_left _ (List.mem_append_left _ (List.mem_append_left _ (List.mem_of_getElem? (i := 2) rfl)))))))))))))))))))))) ?_
    exact kv_lreturn X hr (Nat.le_of_ble_eq_true rfl) (Nat.le_of_ble_eq_true rfl) ⟨_, ⟨LP_mk e9 hI hXp hO hR hC hT hL hW hV hM, Or.inr (⟨hX, rfl⟩)⟩, rfl⟩ dL_ask_19
  ·
    obtain ⟨hv, hdn, rfl⟩ := hp
    exact kv_lreturn X hr (Nat.le_of_ble_eq_true rfl) (Nat.le_of_ble_eq_true rfl) ⟨(ks, ad, cE dd E z), ⟨LP_mk z hI hXp hO hR hC hT hL hW hV hM, Or.inl ⟨hv, w_K hI hdn⟩⟩, rfl⟩ dL_ask_7
set_option maxRecDepth 100000 in
set_option maxHeartbeats 4000000 in
theorem a_dearest (l : Launch) {dd : kDD} {c : kT} (wr wx : kT) {M : mS} {nR nC nt nL nW nV nM : Nat} {cn nm mn me li rl : Nat → Nat} {xa : Nat} (h : LPo dd c M nR nC nt nL nW nV nM cn nm mn me li rl xa) (v x : Int32) : kCl l yL_ask (wsL_ask ++ kHp) ({ frames := 16, cells := 2, slots := 12, locals := 400 } : Room) 2 12 dd [.ref xa, .int 13, .int v, .int x] (jk c wr wx, jd c wr wx, jE c wr wx) (kQl (S := kT) (fun r z => LPo dd z M nR nC nt nL nW nV nM cn nm mn me li rl xa ∧ ((∃ j, (j < nR ∧ 0 < (wvC M nR nC nt nL nW nV nM cn nm mn me li rl (M.1 24)) j ∧ mah (wvC M nR nC nt nL nW nV nM cn nm mn me li rl (M.1 24)) j nR = v) ∧ r = (nI j).toInt64) ∨ ((∀ k, k < nR → ¬ (0 < (wvC M nR nC nt nL nW nV nM cn nm mn me li rl (M.1 24)) k ∧ mah (wvC M nR nC nt nL nW nV nM cn nm mn me li rl (M.1 24)) k nR = v)) ∧ r = -2005))) (fun z => jk z wr wx) (fun z => jd z wr wx) (fun z => jE z wr wx)) := by
  obtain ⟨ks, ad, E, e, hks, hcf, rfl, hI, hXp, hO, hR, hC, hT, hL, hW, hV, hM⟩ := LP_open h
  obtain ⟨iR, iC, iT, iL, iW, iV, iM, hcn, hnm, hmn, hme, hs2, hli, hB, hpk, hmI, hmR, hmIc, hmRc, hlG⟩ := rI_all hI
  rw [JW_cf hcf]
  refine kMetlW (ws' := _) (cc := cL_ask) (maxL := 5) (rt := .long) (by decide) rfl (Nat.le_of_ble_eq_true rfl) (fun g X hr htb hnL hRR hl0 => ?_)
  show kv dd g 0 0 0 [(0, .ref (ad 0)), (1, .int 13), (2, .int v), (3, .int x)] [] (jk (ks, ad, cE dd E e) wr wx) (jd (ks, ad, cE dd E e) wr wx) (jE (ks, ad, cE dd E e) wr wx)
  refine kv_aload_n X 0 dL_ask_0 rfl rfl ?_
  refine kv_iload_n X 1 dL_ask_1 rfl rfl ?_
  refine kv_iload_n X 2 dL_ask_2 rfl rfl ?_
  refine kv_iload_n X 3 dL_ask_3 rfl rfl ?_
  refine kv_calllXSc (As := [.ref (ad 0), .int 13, .int v, .int x]) [] X (c_L_asked_dearest l dd ks ad E e wr wx hks M nR nC nt nL nW nV nM cn nm mn me li rl (M.1 24) hO hR hC hT hL hW hV hM hB (cmI (M.2.1 22) nV) (cmI (M.2.1 23) nV) hmIc hmRc hpk v (rI_fx hI) x) hl0 (kCS_of X 4 (goodIn_ext gL_ask_L_asked) rfl rfl rfl (by decide +kernel) hRR ⟨(Nat.le_of_ble_eq_true rfl), (Nat.le_of_ble_eq_true rfl)⟩) rfl rfl (Nat.le_of_ble_eq_true rfl) hRR ⟨(Nat.le_of_ble_eq_true rfl), (Nat.le_of_ble_eq_true rfl)⟩ dL_ask_4 (fun X9 u hX => ?_) (fun r9 z hp => ?_)
  ·
    obtain ⟨u1, ⟨e9, rfl, hX⟩, rfl⟩ := hX
    rcases hX with ⟨rfl, hX⟩
    refine kvx_catch (nm := "java/util/NoSuchElementException") X htb [(⟨0, 7, 8, 82⟩ : ExceptionTableEntry), (⟨0, 7, 14, 84⟩ : ExceptionTableEntry), (⟨0, 7, 20, 88⟩ : ExceptionTableEntry)] (⟨0, 7, 26, 150⟩ : ExceptionTableEntry) [] rfl (fun z hz => by
        simp only [List.mem_cons, List.not_mem_nil, or_false] at hz
        rcases hz with rfl | rfl | rfl
        · exact ⟨by decide, _, (List.mem_append_right _ (List.mem_of_getElem? (i := 0) rfl)), by decide +kernel⟩
        · exact ⟨by decide, _, (List.mem_append_right _ (List.mem_of_getElem? (i := 1) rfl)), by decide +kernel⟩
        · exact ⟨by decide, _, (List.mem_append_right _ (List.mem_of_getElem? (i := 3) rfl)), by decide +kernel⟩) (by decide) (by decide) (List.mem_append_right _ (List.mem_of_getElem? (i := 5) rfl)) (by decide +kernel) (fun q9 => ?_)
    show kv dd g _ _ 26 [(0, .ref (ad 0)), (1, .int 13), (2, .int v), (3, .int x)] [.ref q9] (jk (ks, ad, cE dd E e9) wr wx) (jd (ks, ad, cE dd E e9) wr wx) (jE (ks, ad, cE dd E e9) wr wx)
    refine kv_astore (lv2 := (4, .ref q9) :: [(0, .ref (ad 0)), (1, .int 13), (2, .int v), (3, .int x)]) X dL_ask_26 (by rw [hnL]; decide) rfl ?_
    refine kv_ldc2 (v := -2005) X dL_ask_28 (List.mem_append_left _ (List.mem_cons_of_mem _ (List.mem_append_left _ (List.mem_append_left _ (List.mem_append_left _ (List.mem_append_left _ (List.mem_append_left _ (List.mem_append_left _ (List.mem_append_left _ (List.mem_append_left _ (List.mem_append_left _ (List.mem_append_left _ (List.mem_append_left _ (List.mem_append_left _ (List.mem_append_left _ (List.mem_append_left _ (List.mem_append_left _ (List.mem_append_left _ (List.mem_append_left _ (List.mem_append_left _ (List.mem_append_left _ (List.mem_of_getElem? (i := 4) rfl)))))))))))))))))))))) ?_
    have hX2 : (∀ k, k < nR → ¬ (0 < (wvC M nR nC nt nL nW nV nM cn nm mn me li rl (M.1 24)) k ∧ mah (wvC M nR nC nt nL nW nV nM cn nm mn me li rl (M.1 24)) k nR = v)) := by
      intro k hk q
      have bR := (rI_b hI).1
      have eq9 : ∀ r, r < nR → e9.2 23 r * (M.2.1 3 r).toInt64 = (wvC M nR nC nt nL nW nV nM cn nm mn me li rl (M.1 24)) r := fun r hr => by rw [w_A hX.1 r (by omega)]; rfl
      refine hX.2 k hk ⟨?_, ?_⟩
      · show 0 < e9.2 23 k * (M.2.1 3 k).toInt64; rw [eq9 k hk]; exact q.1
      · rw [mah_congr nR eq9 (eq9 k hk)]; exact q.2
    exact kv_lreturn X hr (Nat.le_of_ble_eq_true rfl) (Nat.le_of_ble_eq_true rfl) ⟨_, ⟨LP_mk e9 hI hXp hO hR hC hT hL hW hV hM, Or.inr (⟨hX2, rfl⟩)⟩, rfl⟩ dL_ask_31
  ·
    obtain ⟨r0, ⟨hdn, j, hj, ⟨h1, h2⟩, h3, rfl⟩, rfl⟩ := hp
    have bR := (rI_b hI).1
    have eq9 : ∀ r, r < nR → z.2 23 r * (M.2.1 3 r).toInt64 = (wvC M nR nC nt nL nW nV nM cn nm mn me li rl (M.1 24)) r := fun r hr => by rw [w_A hdn r (by omega)]; rfl
    skip
    exact kv_lreturn X hr (Nat.le_of_ble_eq_true rfl) (Nat.le_of_ble_eq_true rfl) ⟨(ks, ad, cE dd E z), ⟨LP_mk z hI hXp hO hR hC hT hL hW hV hM, Or.inl ⟨j, ⟨hj, by rw [← eq9 j hj]; exact h1, by rw [← mah_congr nR eq9 (eq9 j hj)]; exact h2⟩, rfl⟩⟩, rfl⟩ dL_ask_7

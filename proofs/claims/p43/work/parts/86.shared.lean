set_option maxRecDepth 100000 in
set_option maxHeartbeats 4000000 in
theorem c_L_isShared (l : Launch) {dd : kDD} {c : kT} (wr wx : kT) {M : mS} {nR nC nt nL nW nV nM : Nat} {cn nm mn me li rl : Nat → Nat} {xa : Nat} (hL : LPo dd c M nR nC nt nL nW nV nM cn nm mn me li rl xa) : kCi l yL_isShared (wsL_isShared ++ kHp) ({ frames := 17, cells := 10, slots := 60, locals := 440 } : Room) 10 60 dd [.ref xa, .long (wvS M nR nC nt nL nW nV nM cn nm mn me li rl (M.1 24))] (jk c wr wx, jd c wr wx, jE c wr wx) (kQi (S := kT) (fun r z => r = 1 ∧ LPo dd z M nR nC nt nL nW nV nM cn nm mn me li rl xa) (fun z => jk z wr wx) (fun z => jd z wr wx) (fun z => jE z wr wx)) := by
  refine kMetiW (ws' := _) (cc := cL_isShared) (maxL := 4) (rt := .boolean) (by decide) rfl (Nat.le_of_ble_eq_true rfl) (fun g X hr htb hnL hRR hl0 => ?_)
  show kv dd g 0 0 0 [(0, .ref xa), (1, .long (wvS M nR nC nt nL nW nV nM cn nm mn me li rl (M.1 24)))] [] (jk c wr wx) (jd c wr wx) (jE c wr wx)
  refine kv_aload_n X 0 dL_isShared_0 rfl rfl ?_
  refine kv_iconst (v := 0) X dL_isShared_1 (by decide) ?_
  refine kv_callfXVc (As := [.int 0]) [] (ci := 13) (κ := 0) (r1 := (TX10, 3)) X (b_share l wr wx hL) hl0 (kCV_of X 1 (goodIn_ext gL_isShared_X10_share) rfl rfl rfl (by decide +kernel) hRR ⟨(Nat.le_of_ble_eq_true rfl), (Nat.le_of_ble_eq_true rfl)⟩) (LP_obj hL).1 (LP_obj hL).2 rfl (by rw [LP_ref hL]; rfl) rfl (Nat.le_of_ble_eq_true rfl) hRR ⟨(Nat.le_of_ble_eq_true rfl), (Nat.le_of_ble_eq_true rfl)⟩ dL_isShared_2 (fun X9 u hX => ?_) (fun r2 c2 h2 => ?_)
  ·
    obtain ⟨rfl, h0, c9, hL9, rfl⟩ := hX
    refine kvx_catch (nm := "java/lang/ArithmeticException") X htb [] (⟨0, 50, 51, 90⟩ : ExceptionTableEntry) [] rfl (fun z hz => nomatch hz) (by decide) (by decide) (List.mem_append_right _ (List.mem_of_getElem? (i := 4) rfl)) (by decide +kernel) (fun q9 => ?_)
    show kv dd g _ _ 51 [(0, .ref xa), (1, .long (wvS M nR nC nt nL nW nV nM cn nm mn me li rl (M.1 24)))] [.ref q9] (jk c9 wr wx) (jd c9 wr wx) (jE c9 wr wx)
    refine kv_astore_n (lv2 := [(3, .ref q9), (0, .ref xa), (1, .long (wvS M nR nC nt nL nW nV nM cn nm mn me li rl (M.1 24)))]) X dL_isShared_51 rfl (by rw [hnL]; decide) rfl ?_
    refine kv_lload_n X 2 dL_isShared_52 rfl rfl ?_
    refine kv_lconst (v := 0) X dL_isShared_53 (by decide) ?_
    refine kv_lcmp X dL_isShared_54 ?_
    refine kv_if_ne (tgt := 62) X dL_isShared_55 (by decide) (fun hc55 => False.elim (hc55 (lce h0))) (fun hc55 => ?_)
    refine kv_iconst (v := 1) X dL_isShared_58 (by decide) ?_
    refine kv_goto (tgt := 63) X dL_isShared_59 (by decide) ?_
    exact kv_zreturn X hr rfl (Nat.le_of_ble_eq_true rfl) (Nat.le_of_ble_eq_true rfl) ⟨c9, ⟨rfl, hL9⟩, rfl⟩ dL_isShared_63
  ·
    obtain ⟨hL2, hn2, rfl⟩ := h2
    have hn0 := hn2
    show kv dd g _ _ 5 [(0, .ref xa), (1, .long (wvS M nR nC nt nL nW nV nM cn nm mn me li rl (M.1 24)))] [.float (FP.fdiv (FP.l2f ((wvK M nR nC nt nL nW nV nM cn nm mn me li rl (M.1 24)) 0)) (FP.l2f (wvS M nR nC nt nL nW nV nM cn nm mn me li rl (M.1 24))))] (jk c2 wr wx) (jd c2 wr wx) (jE c2 wr wx)
    refine kv_fstore_n (lv2 := [(3, .float (FP.fdiv (FP.l2f ((wvK M nR nC nt nL nW nV nM cn nm mn me li rl (M.1 24)) 0)) (FP.l2f (wvS M nR nC nt nL nW nV nM cn nm mn me li rl (M.1 24))))), (0, .ref xa), (1, .long (wvS M nR nC nt nL nW nV nM cn nm mn me li rl (M.1 24)))]) X dL_isShared_5 rfl (by rw [hnL]; decide) rfl ?_
    refine kv_lload_n X 2 dL_isShared_6 rfl rfl ?_
    refine kv_lconst (v := 0) X dL_isShared_7 (by decide) ?_
    refine kv_lcmp X dL_isShared_8 ?_
    refine kv_if_eq (tgt := 49) X dL_isShared_9 (by decide) (fun hc9 => False.elim (hn0 (lc_0 hc9))) (fun hc9 => ?_)
    refine kv_fload_n X 0 dL_isShared_12 rfl rfl ?_
    refine kv_aload_n X 1 dL_isShared_13 rfl rfl ?_
    refine kv_bipush (v := 12) X dL_isShared_14 (by decide) ?_
    refine kv_iconst (v := 0) X dL_isShared_16 (by decide) ?_
    refine kv_iconst (v := 0) X dL_isShared_17 (by decide) ?_
    refine kv_calllSW (As := [.ref xa, .int 12, .int 0, .int 0]) [.float (FP.fdiv (FP.l2f ((wvK M nR nC nt nL nW nV nM cn nm mn me li rl (M.1 24)) 0)) (FP.l2f (wvS M nR nC nt nL nW nV nM cn nm mn me li rl (M.1 24))))] X (a_costOfKind l wr wx hL2 0 0) hl0 (kCSW_of X 4 (show GoodIn (wsL_isShared ++ kHp) (va_wsS RL 169 yL_ask (wsL_ask ++ kHp)) from gK (pre := [Cond.methodLink RL 169 yL_ask, Cond.static yL_ask, Cond.initialized yL_ask.cls]) gL_isShared_L_ask) rfl rfl rfl (by decide +kernel) hRR ⟨(Nat.le_of_ble_eq_true rfl), (Nat.le_of_ble_eq_true rfl)⟩) rfl rfl (Nat.le_of_ble_eq_true rfl) hRR ⟨(by show _ + 2 ≤ 10; omega), (by show _ + 12 ≤ 60; omega)⟩ dL_isShared_18 (fun r18 c18 h18 => ?_)
    obtain ⟨hL18, hv18⟩ := h18
    show kv dd g _ _ 21 [(3, .float (FP.fdiv (FP.l2f ((wvK M nR nC nt nL nW nV nM cn nm mn me li rl (M.1 24)) 0)) (FP.l2f (wvS M nR nC nt nL nW nV nM cn nm mn me li rl (M.1 24))))), (0, .ref xa), (1, .long (wvS M nR nC nt nL nW nV nM cn nm mn me li rl (M.1 24)))] [.long r18, .float (FP.fdiv (FP.l2f ((wvK M nR nC nt nL nW nV nM cn nm mn me li rl (M.1 24)) 0)) (FP.l2f (wvS M nR nC nt nL nW nV nM cn nm mn me li rl (M.1 24))))] (jk c18 wr wx) (jd c18 wr wx) (jE c18 wr wx)
    obtain rfl := q_yes hv18 (by decide)
    refine kv_l2f X dL_isShared_21 ?_
    refine kv_lload_n X 2 dL_isShared_22 rfl rfl ?_
    refine kv_l2f X dL_isShared_23 ?_
    refine kv_fdiv X dL_isShared_24 (fp_div32 hn0) ?_
    refine kv_fcmp X dL_isShared_25 ?_
    refine kv_if_ne (tgt := 49) X dL_isShared_26 (by decide) (fun hc26 => False.elim (hc26 (fpfs (fp_div32 hn0)))) (fun hc26 => ?_)
    refine kv_aload_n X 1 dL_isShared_29 rfl rfl ?_
    refine kv_calldXVc (As := []) [] (ci := 13) (κ := 0) (r1 := (TX10, 3)) X (b_factor l wr wx hL18) hl0 (kCV_of X 0 (goodIn_ext gL_isShared_X10_factor) rfl rfl rfl (by decide +kernel) hRR ⟨(Nat.le_of_ble_eq_true rfl), (Nat.le_of_ble_eq_true rfl)⟩) (LP_obj hL18).1 (LP_obj hL18).2 rfl (by rw [LP_ref hL18]; rfl) rfl (Nat.le_of_ble_eq_true rfl) hRR ⟨(Nat.le_of_ble_eq_true rfl), (Nat.le_of_ble_eq_true rfl)⟩ dL_isShared_30 (fun X9 u hX => ?_) (fun r30 c30 h30 => ?_)
    ·
      obtain ⟨rfl, h0, c9, hL9, rfl⟩ := hX
      exact absurd h0 hn0
    ·
      obtain ⟨hL30, hn30, rfl⟩ := h30
      show kv dd g _ _ 33 [(3, .float (FP.fdiv (FP.l2f ((wvK M nR nC nt nL nW nV nM cn nm mn me li rl (M.1 24)) 0)) (FP.l2f (wvS M nR nC nt nL nW nV nM cn nm mn me li rl (M.1 24))))), (0, .ref xa), (1, .long (wvS M nR nC nt nL nW nV nM cn nm mn me li rl (M.1 24)))] [.double (FP.ddiv (FP.l2d (wvT M nR nC nt nL nW nV nM cn nm mn me li rl (M.1 24))) (FP.l2d (wvS M nR nC nt nL nW nV nM cn nm mn me li rl (M.1 24))))] (jk c30 wr wx) (jd c30 wr wx) (jE c30 wr wx)
      refine kv_aload_n X 1 dL_isShared_33 rfl rfl ?_
      refine kv_calllV (As := []) [.double (FP.ddiv (FP.l2d (wvT M nR nC nt nL nW nV nM cn nm mn me li rl (M.1 24))) (FP.l2d (wvS M nR nC nt nL nW nV nM cn nm mn me li rl (M.1 24))))] (ci := 13) (κ := 0) (r1 := (TX10, 3)) X (b_total l wr wx hL30) hl0 (kCV_of X 0 (goodIn_ext gL_isShared_X10_total) rfl rfl rfl (by decide +kernel) hRR ⟨(Nat.le_of_ble_eq_true rfl), (Nat.le_of_ble_eq_true rfl)⟩) (LP_obj hL30).1 (LP_obj hL30).2 rfl (by rw [LP_ref hL30]; rfl) rfl (Nat.le_of_ble_eq_true rfl) hRR ⟨(by show _ + 0 ≤ 10; omega), (by show _ + 0 ≤ 60; omega)⟩ dL_isShared_34 (fun r34 c34 h34 => ?_)
      obtain ⟨hL34, hv34⟩ := h34
      show kv dd g _ _ 37 [(3, .float (FP.fdiv (FP.l2f ((wvK M nR nC nt nL nW nV nM cn nm mn me li rl (M.1 24)) 0)) (FP.l2f (wvS M nR nC nt nL nW nV nM cn nm mn me li rl (M.1 24))))), (0, .ref xa), (1, .long (wvS M nR nC nt nL nW nV nM cn nm mn me li rl (M.1 24)))] [.long r34, .double (FP.ddiv (FP.l2d (wvT M nR nC nt nL nW nV nM cn nm mn me li rl (M.1 24))) (FP.l2d (wvS M nR nC nt nL nW nV nM cn nm mn me li rl (M.1 24))))] (jk c34 wr wx) (jd c34 wr wx) (jE c34 wr wx)
      subst hv34
      refine kv_l2d X dL_isShared_37 ?_
      refine kv_lload_n X 2 dL_isShared_38 rfl rfl ?_
      refine kv_l2d X dL_isShared_39 ?_
      refine kv_ddiv X dL_isShared_40 (fp_div64 hn0) ?_
      refine kv_dcmp X dL_isShared_41 ?_
      refine kv_if_ne (tgt := 49) X dL_isShared_42 (by decide) (fun hc42 => False.elim (hc42 (fpds (fp_div64 hn0)))) (fun hc42 => ?_)
      refine kv_iconst (v := 1) X dL_isShared_45 (by decide) ?_
      refine kv_goto (tgt := 50) X dL_isShared_46 (by decide) ?_
      exact kv_zreturn X hr rfl (Nat.le_of_ble_eq_true rfl) (Nat.le_of_ble_eq_true rfl) ⟨c34, ⟨rfl, hL34⟩, rfl⟩ dL_isShared_50

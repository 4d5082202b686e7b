set_option maxRecDepth 100000 in
set_option maxHeartbeats 4000000 in
theorem ly_5 {l : Launch} {dd : kDD} {g : kG} (X : kX dd g cL_lay RL (wsL_lay ++ kHp)) (hRR : kR g = ({ frames := 14, cells := 1300, slots := 18000, locals := 330 } : Room)) (hnL : knL g = 8) (hl0 : kL g = l) {sc L : Nat} {xs : Nat → Int32} (hs : kScr g sc L xs) (hLL : L ≤ 260) {wr : kT} {xa ma : Nat} {nR nt : Nat} (hR2 : 2 ≤ nR) (hR7 : nR ≤ 8) (hT2 : 2 ≤ nt) (hT7 : nt ≤ 8) (K : ∀ (a b : Nat) (c x : kT) (w : Int32), a ≤ 768 → b ≤ 10880 → LWy dd c x xa ma nR nt → wb 40 w → kv dd g a b 676 [(3, .int w), (0, .ref xa), (1, .ref ma), (2, .ref sc)] [] (jk c wr x) (jd c wr x) (jE c wr x)) : ∀ (n k : Nat), k + n = 5 → ∀ (a b : Nat) (c x : kT) (w : Int32), LWy dd c x xa ma nR nt → wb (25 + 3 * k) w → a + 48 * n ≤ 768 → b + 680 * n ≤ 10880 → kv dd g a b 509 [(4, .int (nI k)), (3, .int w), (0, .ref xa), (1, .ref ma), (2, .ref sc)] [] (jk c wr x) (jd c wr x) (jE c wr x) := by
  intro n
  induction n with
  | zero =>
    intro k hk a b c x w hw hwb ha hb
    refine kv_iload X 0 dL_lay_509 rfl ?_
    refine kv_aload_n X 4 dL_lay_511 rfl rfl ?_
    refine kv_iconst (v := 3) X dL_lay_512 (by decide) ?_
    refine kv_iconst (v := 5) X dL_lay_513 (by decide) ?_
    refine kv_calliSs (As := [.ref sc, .int (nI (3)), .int (nI (5))]) [.int (nI k)] X hs (c_L_pick l dd (jk c wr x, jd c wr x, jE c wr x) hLL (3) (5) (by omega) (by omega)) hl0 (kCS_of X 3 (goodIn_ext gL_lay_L_pick) rfl rfl rfl (by decide +kernel) hRR ⟨(Nat.le_of_ble_eq_true rfl), (Nat.le_of_ble_eq_true rfl)⟩) rfl rfl (Nat.le_of_ble_eq_true rfl) hRR ⟨(by show _ + 0 ≤ 1300; omega), (by show _ + 0 ≤ 18000; omega)⟩ dL_lay_514 (fun r514 p514 hp514 => ?_)
    obtain ⟨hp514, rfl⟩ := hp514
    show kv dd g _ _ 517 [(4, .int (nI k)), (3, .int w), (0, .ref xa), (1, .ref ma), (2, .ref sc)] [.int (nI p514), .int (nI k)] (jk c wr x) (jd c wr x) (jE c wr x)
    refine kn_icmp_ge (x := k) (y := p514) (tgt := 676) X (by omega) (by omega) dL_lay_517 (by decide) (fun hc517 => ?_) (fun hc517 => absurd hc517 (by omega))
    exact kv_lv [1, 2, 3, 4] rfl (K _ _ c x w (by omega) (by omega) hw (wb_m hwb (by omega)))
  | succ n ih =>
    intro k hk a b c x w hw hwb ha hb
    refine kv_iload X 0 dL_lay_509 rfl ?_
    refine kv_aload_n X 4 dL_lay_511 rfl rfl ?_
    refine kv_iconst (v := 3) X dL_lay_512 (by decide) ?_
    refine kv_iconst (v := 5) X dL_lay_513 (by decide) ?_
    refine kv_calliSs (As := [.ref sc, .int (nI (3)), .int (nI (5))]) [.int (nI k)] X hs (c_L_pick l dd (jk c wr x, jd c wr x, jE c wr x) hLL (3) (5) (by omega) (by omega)) hl0 (kCS_of X 3 (goodIn_ext gL_lay_L_pick) rfl rfl rfl (by decide +kernel) hRR ⟨(Nat.le_of_ble_eq_true rfl), (Nat.le_of_ble_eq_true rfl)⟩) rfl rfl (Nat.le_of_ble_eq_true rfl) hRR ⟨(by show _ + 0 ≤ 1300; omega), (by show _ + 0 ≤ 18000; omega)⟩ dL_lay_514 (fun r514 p514 hp514 => ?_)
    obtain ⟨hp514, rfl⟩ := hp514
    show kv dd g _ _ 517 [(4, .int (nI k)), (3, .int w), (0, .ref xa), (1, .ref ma), (2, .ref sc)] [.int (nI p514), .int (nI k)] (jk c wr x) (jd c wr x) (jE c wr x)
    refine kn_icmp_ge (x := k) (y := p514) (tgt := 676) X (by omega) (by omega) dL_lay_517 (by decide) (fun hc517 => ?_) (fun hc517 => ?_)
    ·
      exact kv_lv [1, 2, 3, 4] rfl (K _ _ c x w (by omega) (by omega) hw (wb_m hwb (by omega)))
    ·
      obtain ⟨hbR, hbT, nL, nV, nM, fm, hq, hx0, rfl, hxm, f0, f1, f2, f3, f4⟩ := hw
      have lb := LQ_b hq
      refine kv_aload_n X 3 dL_lay_520 rfl rfl ?_
      refine kv_iconst (v := 2) X dL_lay_521 (by decide) ?_
      refine kv_dup2_11 X dL_lay_522 rfl rfl ?_
      refine kv_iaload X (κ := 2000) (n := 50) (j := 2) (f := fm) (j_x0.1.mpr hx0) (j_x0.2.2.trans hxm) (by omega) (by decide) dL_lay_523 ?_
      refine kv_topi (nI nL) f2 ?_
      refine kv_aload_n X 2 dL_lay_524 rfl rfl ?_
      refine kv_bipush (v := 9) X dL_lay_525 (by decide) ?_
      refine kv_aload_n X 4 dL_lay_527 rfl rfl ?_
      refine kv_sipush (v := 170) X dL_lay_528 (by decide) ?_
      refine kv_iload X 0 dL_lay_531 rfl ?_
      refine kv_iadd X dL_lay_533 ?_
      refine kv_topi (nI (170 + k)) (nI_add 170 k) ?_
      refine kv_aload_n X 3 dL_lay_534 rfl rfl ?_
      refine kv_iconst (v := 1) X dL_lay_535 (by decide) ?_
      refine kv_iaload X (κ := 2000) (n := 50) (j := 1) (f := fm) (j_x0.1.mpr hx0) (j_x0.2.2.trans hxm) (by omega) (by decide) dL_lay_536 ?_
      refine kv_topi (nI nt) f1 ?_
      refine kv_calliSs (As := [.ref sc, .int (nI (170 + k)), .int (nI (nt))]) [.int 9, .ref xa, .int (nI nL), .int 2, .ref (x.2.1 0)] X hs (c_L_pick l dd (jk c wr x, jd c wr x, jE c wr x) hLL (170 + k) (nt) (by omega) (by omega)) hl0 (kCS_of X 3 (goodIn_ext gL_lay_L_pick) rfl rfl rfl (by decide +kernel) hRR ⟨(Nat.le_of_ble_eq_true rfl), (Nat.le_of_ble_eq_true rfl)⟩) rfl rfl (Nat.le_of_ble_eq_true rfl) hRR ⟨(by show _ + 0 ≤ 1300; omega), (by show _ + 0 ≤ 18000; omega)⟩ dL_lay_537 (fun r537 p537 hp537 => ?_)
      obtain ⟨hp537, rfl⟩ := hp537
      show kv dd g _ _ 540 [(4, .int (nI k)), (3, .int w), (0, .ref xa), (1, .ref (x.2.1 0)), (2, .ref sc)] [.int (nI p537), .int 9, .ref xa, .int (nI nL), .int 2, .ref (x.2.1 0)] (jk c wr x) (jd c wr x) (jE c wr x)
      refine kv_iconst (v := 0) X dL_lay_540 (by decide) ?_
      refine kv_iconst (v := 0) X dL_lay_541 (by decide) ?_
      refine kv_iconst (v := 0) X dL_lay_542 (by decide) ?_
      refine kv_calliSW (As := [.ref xa, .int 9, .int (nI p537), .int 0, .int 0, .int 0]) [.int (nI nL), .int 2, .ref (x.2.1 0)] X (d_addLine l wr x hq (nI p537) 0 0 0) hl0 (kCSW_of X 6 (show GoodIn (wsL_lay ++ kHp) (va_wsS RL 158 yL_deed (wsL_deed ++ kHp)) from gK (pre := [Cond.methodLink RL 158 yL_deed, Cond.static yL_deed, Cond.initialized yL_deed.cls]) gL_lay_L_deed) rfl rfl rfl (by decide +kernel) hRR ⟨(Nat.le_of_ble_eq_true rfl), (Nat.le_of_ble_eq_true rfl)⟩) rfl rfl (Nat.le_of_ble_eq_true rfl) hRR ⟨(by show _ + 12 ≤ 1300; omega), (by show _ + 170 ≤ 18000; omega)⟩ dL_lay_543 (fun r543 c543 h543 => ?_)
      rcases h543 with ⟨hr543, hq543⟩ | ⟨hr543, hq543⟩
      ·
        show kv dd g _ _ 546 [(4, .int (nI k)), (3, .int w), (0, .ref xa), (1, .ref (x.2.1 0)), (2, .ref sc)] [.int r543, .int (nI nL), .int 2, .ref (x.2.1 0)] (jk c543 wr x) (jd c543 wr x) (jE c543 wr x)
        refine kv_if_lt (tgt := 553) X dL_lay_546 (by decide) (fun hc546 => False.elim (Int32.not_lt.mpr hr543 hc546)) (fun hc546 => ?_)
        refine kv_iconst (v := 1) X dL_lay_549 (by decide) ?_
        refine kv_goto (tgt := 554) X dL_lay_550 (by decide) ?_
        refine kv_iadd X dL_lay_554 ?_
        refine kv_topi (nI (nL + 1)) (nI_add nL 1) ?_
        refine kv_iastore X (κ := 2000) (n := 50) (j := 2) (f := fm) (x := (nI (nL + 1))) (j_x0.1.mpr hx0) (j_x0.2.2.trans hxm) (by omega) (by decide) dL_lay_555 ?_
        refine kv_E (E2 := jE c543 wr (xI dd x (va_up fm (2) (nI (nL + 1))))) (fun j _ => xI_E j) ?_
        show kv dd g _ _ 556 [(4, .int (nI k)), (3, .int w), (0, .ref xa), (1, .ref (x.2.1 0)), (2, .ref sc)] [] (jk c543 wr (xI dd x (va_up fm (2) (nI (nL + 1))))) (jd c543 wr (xI dd x (va_up fm (2) (nI (nL + 1))))) (jE c543 wr (xI dd x (va_up fm (2) (nI (nL + 1)))))
        refine kv_iconst (v := 0) X dL_lay_556 (by decide) ?_
        refine kv_istore (lv2 := [(5, .int 0), (4, .int (nI k)), (3, .int w), (0, .ref xa), (1, .ref (x.2.1 0)), (2, .ref sc)]) X dL_lay_557 (by rw [hnL]; decide) rfl ?_
        have L559 : ∀ (n559 j559 : Nat), j559 + n559 = 3 → ∀ (a559 b559 : Nat) (c559 x559 : kT) (w559 : Int32), LWy dd c559 x559 xa (x.2.1 0) nR nt → wb (25 + 3 * k + 1 * j559) w559 → a559 + 12 * n559 ≤ a + 48 → b559 + 170 * n559 ≤ b + 680 → kv dd g a559 b559 559 [(5, .int (nI j559)), (4, .int (nI k)), (3, .int w559), (0, .ref xa), (1, .ref (x.2.1 0)), (2, .ref sc)] [] (jk c559 wr x559) (jd c559 wr x559) (jE c559 wr x559) := by
          intro n559
          induction n559 with
          | zero =>
            intro j559 hj559 a559 b559 c559 x559 w559 hw559 hwb559 ha559 hb559
            have en559 : 3 = j559 := by omega
            subst en559
            refine kv_iload X 0 dL_lay_559 rfl ?_
            refine kv_iconst (v := 3) X dL_lay_561 (by decide) ?_
            refine kn_icmp_ge (x := 3) (y := 3) (tgt := 670) X (by omega) (by omega) dL_lay_562 (by decide) (fun hc562 => ?_) (fun hc562 => absurd hc562 (by omega))
            refine kv_iinc (j := 1) (v := (nI (k + 1))) (lv2 := [(4, .int (nI (k + 1))), (5, .int (nI 3)), (3, .int w559), (0, .ref xa), (1, .ref (x.2.1 0)), (2, .ref sc)]) X dL_lay_670 rfl (nI_add k 1) (by rw [hnL]; decide) rfl ?_
            refine kv_goto (tgt := 509) X dL_lay_673 (by decide) ?_
            exact kv_lv [0, 2, 3, 4, 5] rfl (ih (k + 1) (by omega) _ _ _ _ (w559) hw559 (wb_m hwb559 (by omega)) (by omega) (by omega))
          | succ n559 ih559 =>
            intro j559 hj559 a559 b559 c559 x559 w559 hw559 hwb559 ha559 hb559
            obtain ⟨hbR, hbT, nL, nV, nM, fm, hq, hx0, hma559, hxm, f0, f1, f2, f3, f4⟩ := hw559
            have lb := LQ_b hq
            rw [← hma559]
            refine kv_iload X 0 dL_lay_559 rfl ?_
            refine kv_iconst (v := 3) X dL_lay_561 (by decide) ?_
            refine kn_icmp_ge (x := j559) (y := 3) (tgt := 670) X (by omega) (by omega) dL_lay_562 (by decide) (fun hc562 => absurd hc562 (by omega)) (fun hc562 => ?_)
            refine kv_iload_n X 2 dL_lay_565 rfl rfl ?_
            refine kv_aload_n X 3 dL_lay_566 rfl rfl ?_
            refine kv_iload X 1 dL_lay_567 rfl ?_
            refine kv_aload_n X 5 dL_lay_569 rfl rfl ?_
            refine kv_sipush (v := 180) X dL_lay_570 (by decide) ?_
            refine kv_iconst (v := 3) X dL_lay_573 (by decide) ?_
            refine kv_iload X 1 dL_lay_574 rfl ?_
            refine kv_imul X dL_lay_576 ?_
            refine kv_topi (nI (3 * k)) (pk_mul 3 k) ?_
            refine kv_iadd X dL_lay_577 ?_
            refine kv_topi (nI (180 + (3 * k))) (nI_add 180 (3 * k)) ?_
            refine kv_iload X 0 dL_lay_578 rfl ?_
            refine kv_iadd X dL_lay_580 ?_
            refine kv_topi (nI ((180 + (3 * k)) + j559)) (nI_add (180 + (3 * k)) j559) ?_
            refine kv_bipush (v := 6) X dL_lay_581 (by decide) ?_
            refine kv_calliSs (As := [.ref sc, .int (nI ((180 + (3 * k)) + j559)), .int (nI (6))]) [.int (nI k), .ref xa, .int w559] X hs (c_L_pick l dd (jk c559 wr x559, jd c559 wr x559, jE c559 wr x559) hLL ((180 + (3 * k)) + j559) (6) (by omega) (by omega)) hl0 (kCS_of X 3 (goodIn_ext gL_lay_L_pick) rfl rfl rfl (by decide +kernel) hRR ⟨(Nat.le_of_ble_eq_true rfl), (Nat.le_of_ble_eq_true rfl)⟩) rfl rfl (Nat.le_of_ble_eq_true rfl) hRR ⟨(by show _ + 0 ≤ 1300; omega), (by show _ + 0 ≤ 18000; omega)⟩ dL_lay_583 (fun r583 p583 hp583 => ?_)
            obtain ⟨hp583, rfl⟩ := hp583
            show kv dd g _ _ 586 [(5, .int (nI j559)), (4, .int (nI k)), (3, .int w559), (0, .ref xa), (1, .ref (x559.2.1 0)), (2, .ref sc)] [.int (nI p583), .int (nI k), .ref xa, .int w559] (jk c559 wr x559) (jd c559 wr x559) (jE c559 wr x559)
            refine kv_calliS (As := [.int (nI p583)]) [.int (nI k), .ref xa, .int w559] X (c_L_shape l dd (jk c559 wr x559, jd c559 wr x559, jE c559 wr x559) (nI p583)) hl0 (kCS_of X 1 (goodIn_ext gL_lay_L_shape) rfl rfl rfl (by decide +kernel) hRR ⟨(Nat.le_of_ble_eq_true rfl), (Nat.le_of_ble_eq_true rfl)⟩) rfl rfl (Nat.le_of_ble_eq_true rfl) hRR ⟨(by show _ + 0 ≤ 1300; omega), (by show _ + 0 ≤ 18000; omega)⟩ dL_lay_586 (fun r586 z586 _ => ?_)
            show kv dd g _ _ 589 [(5, .int (nI j559)), (4, .int (nI k)), (3, .int w559), (0, .ref xa), (1, .ref (x559.2.1 0)), (2, .ref sc)] [.int r586, .int (nI k), .ref xa, .int w559] (jk c559 wr x559) (jd c559 wr x559) (jE c559 wr x559)
            refine kv_iconst (v := 1) X dL_lay_589 (by decide) ?_
            refine kv_aload_n X 5 dL_lay_590 rfl rfl ?_
            refine kv_sipush (v := 200) X dL_lay_591 (by decide) ?_
            refine kv_iconst (v := 3) X dL_lay_594 (by decide) ?_
            refine kv_iload X 1 dL_lay_595 rfl ?_
            refine kv_imul X dL_lay_597 ?_
            refine kv_topi (nI (3 * k)) (pk_mul 3 k) ?_
            refine kv_iadd X dL_lay_598 ?_
            refine kv_topi (nI (200 + (3 * k))) (nI_add 200 (3 * k)) ?_
            refine kv_iload X 0 dL_lay_599 rfl ?_
            refine kv_iadd X dL_lay_601 ?_
            refine kv_topi (nI ((200 + (3 * k)) + j559)) (nI_add (200 + (3 * k)) j559) ?_
            refine kv_bipush (v := 9) X dL_lay_602 (by decide) ?_
            refine kv_calliSs (As := [.ref sc, .int (nI ((200 + (3 * k)) + j559)), .int (nI (9))]) [.int 1, .int r586, .int (nI k), .ref xa, .int w559] X hs (c_L_pick l dd (jk c559 wr x559, jd c559 wr x559, jE c559 wr x559) hLL ((200 + (3 * k)) + j559) (9) (by omega) (by omega)) hl0 (kCS_of X 3 (goodIn_ext gL_lay_L_pick) rfl rfl rfl (by decide +kernel) hRR ⟨(Nat.le_of_ble_eq_true rfl), (Nat.le_of_ble_eq_true rfl)⟩) rfl rfl (Nat.le_of_ble_eq_true rfl) hRR ⟨(by show _ + 0 ≤ 1300; omega), (by show _ + 0 ≤ 18000; omega)⟩ dL_lay_604 (fun r604 p604 hp604 => ?_)
            obtain ⟨hp604, rfl⟩ := hp604
            show kv dd g _ _ 607 [(5, .int (nI j559)), (4, .int (nI k)), (3, .int w559), (0, .ref xa), (1, .ref (x559.2.1 0)), (2, .ref sc)] [.int (nI p604), .int 1, .int r586, .int (nI k), .ref xa, .int w559] (jk c559 wr x559) (jd c559 wr x559) (jE c559 wr x559)
            refine kv_iadd X dL_lay_607 ?_
            refine kv_topi (nI (1 + p604)) (nI_add 1 p604) ?_
            refine kv_aload_n X 5 dL_lay_608 rfl rfl ?_
            refine kv_sipush (v := 220) X dL_lay_609 (by decide) ?_
            refine kv_iconst (v := 3) X dL_lay_612 (by decide) ?_
            refine kv_iload X 1 dL_lay_613 rfl ?_
            refine kv_imul X dL_lay_615 ?_
            refine kv_topi (nI (3 * k)) (pk_mul 3 k) ?_
            refine kv_iadd X dL_lay_616 ?_
            refine kv_topi (nI (220 + (3 * k))) (nI_add 220 (3 * k)) ?_
            refine kv_iload X 0 dL_lay_617 rfl ?_
            refine kv_iadd X dL_lay_619 ?_
            refine kv_topi (nI ((220 + (3 * k)) + j559)) (nI_add (220 + (3 * k)) j559) ?_
            refine kv_bipush (v := 20) X dL_lay_620 (by decide) ?_
            refine kv_calliSs (As := [.ref sc, .int (nI ((220 + (3 * k)) + j559)), .int (nI (20))]) [.int (nI (1 + p604)), .int r586, .int (nI k), .ref xa, .int w559] X hs (c_L_pick l dd (jk c559 wr x559, jd c559 wr x559, jE c559 wr x559) hLL ((220 + (3 * k)) + j559) (20) (by omega) (by omega)) hl0 (kCS_of X 3 (goodIn_ext gL_lay_L_pick) rfl rfl rfl (by decide +kernel) hRR ⟨(Nat.le_of_ble_eq_true rfl), (Nat.le_of_ble_eq_true rfl)⟩) rfl rfl (Nat.le_of_ble_eq_true rfl) hRR ⟨(by show _ + 0 ≤ 1300; omega), (by show _ + 0 ≤ 18000; omega)⟩ dL_lay_622 (fun r622 p622 hp622 => ?_)
            obtain ⟨hp622, rfl⟩ := hp622
            show kv dd g _ _ 625 [(5, .int (nI j559)), (4, .int (nI k)), (3, .int w559), (0, .ref xa), (1, .ref (x559.2.1 0)), (2, .ref sc)] [.int (nI p622), .int (nI (1 + p604)), .int r586, .int (nI k), .ref xa, .int w559] (jk c559 wr x559) (jd c559 wr x559) (jE c559 wr x559)
            refine kv_aload_n X 5 dL_lay_625 rfl rfl ?_
            refine kv_sipush (v := 240) X dL_lay_626 (by decide) ?_
            refine kv_iconst (v := 3) X dL_lay_629 (by decide) ?_
            refine kv_iload X 1 dL_lay_630 rfl ?_
            refine kv_imul X dL_lay_632 ?_
            refine kv_topi (nI (3 * k)) (pk_mul 3 k) ?_
            refine kv_iadd X dL_lay_633 ?_
            refine kv_topi (nI (240 + (3 * k))) (nI_add 240 (3 * k)) ?_
            refine kv_iload X 0 dL_lay_634 rfl ?_
            refine kv_iadd X dL_lay_636 ?_
            refine kv_topi (nI ((240 + (3 * k)) + j559)) (nI_add (240 + (3 * k)) j559) ?_
            refine kv_bipush (v := 20) X dL_lay_637 (by decide) ?_
            refine kv_calliSs (As := [.ref sc, .int (nI ((240 + (3 * k)) + j559)), .int (nI (20))]) [.int (nI p622), .int (nI (1 + p604)), .int r586, .int (nI k), .ref xa, .int w559] X hs (c_L_pick l dd (jk c559 wr x559, jd c559 wr x559, jE c559 wr x559) hLL ((240 + (3 * k)) + j559) (20) (by omega) (by omega)) hl0 (kCS_of X 3 (goodIn_ext gL_lay_L_pick) rfl rfl rfl (by decide +kernel) hRR ⟨(Nat.le_of_ble_eq_true rfl), (Nat.le_of_ble_eq_true rfl)⟩) rfl rfl (Nat.le_of_ble_eq_true rfl) hRR ⟨(by show _ + 0 ≤ 1300; omega), (by show _ + 0 ≤ 18000; omega)⟩ dL_lay_639 (fun r639 p639 hp639 => ?_)
            obtain ⟨hp639, rfl⟩ := hp639
            show kv dd g _ _ 642 [(5, .int (nI j559)), (4, .int (nI k)), (3, .int w559), (0, .ref xa), (1, .ref (x559.2.1 0)), (2, .ref sc)] [.int (nI p639), .int (nI p622), .int (nI (1 + p604)), .int r586, .int (nI k), .ref xa, .int w559] (jk c559 wr x559) (jd c559 wr x559) (jE c559 wr x559)
            refine kv_aload_n X 5 dL_lay_642 rfl rfl ?_
            refine kv_sipush (v := 260) X dL_lay_643 (by decide) ?_
            refine kv_iconst (v := 3) X dL_lay_646 (by decide) ?_
            refine kv_iload X 1 dL_lay_647 rfl ?_
            refine kv_imul X dL_lay_649 ?_
            refine kv_topi (nI (3 * k)) (pk_mul 3 k) ?_
            refine kv_iadd X dL_lay_650 ?_
            refine kv_topi (nI (260 + (3 * k))) (nI_add 260 (3 * k)) ?_
            refine kv_iload X 0 dL_lay_651 rfl ?_
            refine kv_iadd X dL_lay_653 ?_
            refine kv_topi (nI ((260 + (3 * k)) + j559)) (nI_add (260 + (3 * k)) j559) ?_
            refine kv_bipush (v := 9) X dL_lay_654 (by decide) ?_
            refine kv_calliSs (As := [.ref sc, .int (nI ((260 + (3 * k)) + j559)), .int (nI (9))]) [.int (nI p639), .int (nI p622), .int (nI (1 + p604)), .int r586, .int (nI k), .ref xa, .int w559] X hs (c_L_pick l dd (jk c559 wr x559, jd c559 wr x559, jE c559 wr x559) hLL ((260 + (3 * k)) + j559) (9) (by omega) (by omega)) hl0 (kCS_of X 3 (goodIn_ext gL_lay_L_pick) rfl rfl rfl (by decide +kernel) hRR ⟨(Nat.le_of_ble_eq_true rfl), (Nat.le_of_ble_eq_true rfl)⟩) rfl rfl (Nat.le_of_ble_eq_true rfl) hRR ⟨(by show _ + 0 ≤ 1300; omega), (by show _ + 0 ≤ 18000; omega)⟩ dL_lay_656 (fun r656 p656 hp656 => ?_)
            obtain ⟨hp656, rfl⟩ := hp656
            show kv dd g _ _ 659 [(5, .int (nI j559)), (4, .int (nI k)), (3, .int w559), (0, .ref xa), (1, .ref (x559.2.1 0)), (2, .ref sc)] [.int (nI p656), .int (nI p639), .int (nI p622), .int (nI (1 + p604)), .int r586, .int (nI k), .ref xa, .int w559] (jk c559 wr x559) (jd c559 wr x559) (jE c559 wr x559)
            refine kv_calliSW (As := [.ref xa, .int (nI k), .int r586, .int (nI (1 + p604)), .int (nI p622), .int (nI p639), .int (nI p656)]) [.int w559] X (d_row l wr x559 hq (nI k) r586 (nI (1 + p604)) (nI p622) (nI p639) (nI p656)) hl0 (kCSW_of X 7 (show GoodIn (wsL_lay ++ kHp) (va_wsS RL 165 yL_row (wsL_row ++ kHp)) from gK (pre := [Cond.methodLink RL 165 yL_row, Cond.static yL_row, Cond.initialized yL_row.cls]) gL_lay_L_row) rfl rfl rfl (by decide +kernel) hRR ⟨(Nat.le_of_ble_eq_true rfl), (Nat.le_of_ble_eq_true rfl)⟩) rfl rfl (Nat.le_of_ble_eq_true rfl) hRR ⟨(by show _ + 12 ≤ 1300; omega), (by show _ + 170 ≤ 18000; omega)⟩ dL_lay_659 (fun r659 c659 h659 => ?_)
            obtain ⟨hr659, hq659⟩ := h659
            show kv dd g _ _ 662 [(5, .int (nI j559)), (4, .int (nI k)), (3, .int w559), (0, .ref xa), (1, .ref (x559.2.1 0)), (2, .ref sc)] [.int r659, .int w559] (jk c659 wr x559) (jd c659 wr x559) (jE c659 wr x559)
            refine kv_iadd X dL_lay_662 ?_
            refine kv_istore_n (lv2 := [(3, .int (w559 + r659)), (5, .int (nI j559)), (4, .int (nI k)), (0, .ref xa), (1, .ref (x559.2.1 0)), (2, .ref sc)]) X dL_lay_663 rfl (by rw [hnL]; decide) rfl ?_
            refine kv_iinc (j := 1) (v := (nI (j559 + 1))) (lv2 := [(5, .int (nI (j559 + 1))), (3, .int (w559 + r659)), (4, .int (nI k)), (0, .ref xa), (1, .ref (x559.2.1 0)), (2, .ref sc)]) X dL_lay_664 rfl (nI_add j559 1) (by rw [hnL]; decide) rfl ?_
            refine kv_goto (tgt := 559) X dL_lay_667 (by decide) ?_
            rw [hma559]
            exact kv_lv [0, 2, 1, 3, 4, 5] rfl (ih559 (j559 + 1) (by omega) _ _ _ _ ((w559 + r659)) ⟨by omega, by omega, _, _, _, fm, hq659, hx0, hma559, hxm, f0, f1, f2, f3, f4⟩ (wb_m (wb_s hwb559 hr659 (by omega)) (by omega)) (by omega) (by omega))
        exact kv_lv [0, 1, 2, 3, 4, 5] rfl (L559 3 0 (by omega) _ _ _ _ (w) ⟨by omega, by omega, _, _, _, (va_up fm (2) (nI (nL + 1))), (LQ_f hq543 (fun i hi => va_up_ne _ _ (by omega))), hx0, rfl, va_up_self x.2.2 0 (kI dd 50 (va_up fm (2) (nI (nL + 1)))), ((va_up_ne _ _ (by omega)).trans f0), ((va_up_ne _ _ (by omega)).trans f1), (va_up_self _ _ _), ((va_up_ne _ _ (by omega)).trans f3), ((va_up_ne _ _ (by omega)).trans f4)⟩ hwb (by omega) (by omega))
      ·
        show kv dd g _ _ 546 [(4, .int (nI k)), (3, .int w), (0, .ref xa), (1, .ref (x.2.1 0)), (2, .ref sc)] [.int r543, .int (nI nL), .int 2, .ref (x.2.1 0)] (jk c543 wr x) (jd c543 wr x) (jE c543 wr x)
        refine kv_if_lt (tgt := 553) X dL_lay_546 (by decide) (fun hc546 => ?_) (fun hc546 => False.elim (hc546 hr543))
        refine kv_iconst (v := 0) X dL_lay_553 (by decide) ?_
        refine kv_iadd X dL_lay_554 ?_
        refine kv_topi (nI (nL + 0)) (nI_add nL 0) ?_
        refine kv_iastore X (κ := 2000) (n := 50) (j := 2) (f := fm) (x := (nI (nL + 0))) (j_x0.1.mpr hx0) (j_x0.2.2.trans hxm) (by omega) (by decide) dL_lay_555 ?_
        refine kv_E (E2 := jE c543 wr (xI dd x (va_up fm (2) (nI (nL + 0))))) (fun j _ => xI_E j) ?_
        show kv dd g _ _ 556 [(4, .int (nI k)), (3, .int w), (0, .ref xa), (1, .ref (x.2.1 0)), (2, .ref sc)] [] (jk c543 wr (xI dd x (va_up fm (2) (nI (nL + 0))))) (jd c543 wr (xI dd x (va_up fm (2) (nI (nL + 0))))) (jE c543 wr (xI dd x (va_up fm (2) (nI (nL + 0)))))
        refine kv_iconst (v := 0) X dL_lay_556 (by decide) ?_
        refine kv_istore (lv2 := [(5, .int 0), (4, .int (nI k)), (3, .int w), (0, .ref xa), (1, .ref (x.2.1 0)), (2, .ref sc)]) X dL_lay_557 (by rw [hnL]; decide) rfl ?_
        have L559 : ∀ (n559 j559 : Nat), j559 + n559 = 3 → ∀ (a559 b559 : Nat) (c559 x559 : kT) (w559 : Int32), LWy dd c559 x559 xa (x.2.1 0) nR nt → wb (25 + 3 * k + 1 * j559) w559 → a559 + 12 * n559 ≤ a + 48 → b559 + 170 * n559 ≤ b + 680 → kv dd g a559 b559 559 [(5, .int (nI j559)), (4, .int (nI k)), (3, .int w559), (0, .ref xa), (1, .ref (x.2.1 0)), (2, .ref sc)] [] (jk c559 wr x559) (jd c559 wr x559) (jE c559 wr x559) := by
          intro n559
          induction n559 with
          | zero =>
            intro j559 hj559 a559 b559 c559 x559 w559 hw559 hwb559 ha559 hb559
            have en559 : 3 = j559 := by omega
            subst en559
            refine kv_iload X 0 dL_lay_559 rfl ?_
            refine kv_iconst (v := 3) X dL_lay_561 (by decide) ?_
            refine kn_icmp_ge (x := 3) (y := 3) (tgt := 670) X (by omega) (by omega) dL_lay_562 (by decide) (fun hc562 => ?_) (fun hc562 => absurd hc562 (by omega))
            refine kv_iinc (j := 1) (v := (nI (k + 1))) (lv2 := [(4, .int (nI (k + 1))), (5, .int (nI 3)), (3, .int w559), (0, .ref xa), (1, .ref (x.2.1 0)), (2, .ref sc)]) X dL_lay_670 rfl (nI_add k 1) (by rw [hnL]; decide) rfl ?_
            refine kv_goto (tgt := 509) X dL_lay_673 (by decide) ?_
            exact kv_lv [0, 2, 3, 4, 5] rfl (ih (k + 1) (by omega) _ _ _ _ (w559) hw559 (wb_m hwb559 (by omega)) (by omega) (by omega))
          | succ n559 ih559 =>
            intro j559 hj559 a559 b559 c559 x559 w559 hw559 hwb559 ha559 hb559
            obtain ⟨hbR, hbT, nL, nV, nM, fm, hq, hx0, hma559, hxm, f0, f1, f2, f3, f4⟩ := hw559
            have lb := LQ_b hq
            rw [← hma559]
            refine kv_iload X 0 dL_lay_559 rfl ?_
            refine kv_iconst (v := 3) X dL_lay_561 (by decide) ?_
            refine kn_icmp_ge (x := j559) (y := 3) (tgt := 670) X (by omega) (by omega) dL_lay_562 (by decide) (fun hc562 => absurd hc562 (by omega)) (fun hc562 => ?_)
            refine kv_iload_n X 2 dL_lay_565 rfl rfl ?_
            refine kv_aload_n X 3 dL_lay_566 rfl rfl ?_
            refine kv_iload X 1 dL_lay_567 rfl ?_
            refine kv_aload_n X 5 dL_lay_569 rfl rfl ?_
            refine kv_sipush (v := 180) X dL_lay_570 (by decide) ?_
            refine kv_iconst (v := 3) X dL_lay_573 (by decide) ?_
            refine kv_iload X 1 dL_lay_574 rfl ?_
            refine kv_imul X dL_lay_576 ?_
            refine kv_topi (nI (3 * k)) (pk_mul 3 k) ?_
            refine kv_iadd X dL_lay_577 ?_
            refine kv_topi (nI (180 + (3 * k))) (nI_add 180 (3 * k)) ?_
            refine kv_iload X 0 dL_lay_578 rfl ?_
            refine kv_iadd X dL_lay_580 ?_
            refine kv_topi (nI ((180 + (3 * k)) + j559)) (nI_add (180 + (3 * k)) j559) ?_
            refine kv_bipush (v := 6) X dL_lay_581 (by decide) ?_
            refine kv_calliSs (As := [.ref sc, .int (nI ((180 + (3 * k)) + j559)), .int (nI (6))]) [.int (nI k), .ref xa, .int w559] X hs (c_L_pick l dd (jk c559 wr x559, jd c559 wr x559, jE c559 wr x559) hLL ((180 + (3 * k)) + j559) (6) (by omega) (by omega)) hl0 (kCS_of X 3 (goodIn_ext gL_lay_L_pick) rfl rfl rfl (by decide +kernel) hRR ⟨(Nat.le_of_ble_eq_true rfl), (Nat.le_of_ble_eq_true rfl)⟩) rfl rfl (Nat.le_of_ble_eq_true rfl) hRR ⟨(by show _ + 0 ≤ 1300; omega), (by show _ + 0 ≤ 18000; omega)⟩ dL_lay_583 (fun r583 p583 hp583 => ?_)
            obtain ⟨hp583, rfl⟩ := hp583
            show kv dd g _ _ 586 [(5, .int (nI j559)), (4, .int (nI k)), (3, .int w559), (0, .ref xa), (1, .ref (x559.2.1 0)), (2, .ref sc)] [.int (nI p583), .int (nI k), .ref xa, .int w559] (jk c559 wr x559) (jd c559 wr x559) (jE c559 wr x559)
            refine kv_calliS (As := [.int (nI p583)]) [.int (nI k), .ref xa, .int w559] X (c_L_shape l dd (jk c559 wr x559, jd c559 wr x559, jE c559 wr x559) (nI p583)) hl0 (kCS_of X 1 (goodIn_ext gL_lay_L_shape) rfl rfl rfl (by decide +kernel) hRR ⟨(Nat.le_of_ble_eq_true rfl), (Nat.le_of_ble_eq_true rfl)⟩) rfl rfl (Nat.le_of_ble_eq_true rfl) hRR ⟨(by show _ + 0 ≤ 1300; omega), (by show _ + 0 ≤ 18000; omega)⟩ dL_lay_586 (fun r586 z586 _ => ?_)
            show kv dd g _ _ 589 [(5, .int (nI j559)), (4, .int (nI k)), (3, .int w559), (0, .ref xa), (1, .ref (x559.2.1 0)), (2, .ref sc)] [.int r586, .int (nI k), .ref xa, .int w559] (jk c559 wr x559) (jd c559 wr x559) (jE c559 wr x559)
            refine kv_iconst (v := 1) X dL_lay_589 (by decide) ?_
            refine kv_aload_n X 5 dL_lay_590 rfl rfl ?_
            refine kv_sipush (v := 200) X dL_lay_591 (by decide) ?_
            refine kv_iconst (v := 3) X dL_lay_594 (by decide) ?_
            refine kv_iload X 1 dL_lay_595 rfl ?_
            refine kv_imul X dL_lay_597 ?_
            refine kv_topi (nI (3 * k)) (pk_mul 3 k) ?_
            refine kv_iadd X dL_lay_598 ?_
            refine kv_topi (nI (200 + (3 * k))) (nI_add 200 (3 * k)) ?_
            refine kv_iload X 0 dL_lay_599 rfl ?_
            refine kv_iadd X dL_lay_601 ?_
            refine kv_topi (nI ((200 + (3 * k)) + j559)) (nI_add (200 + (3 * k)) j559) ?_
            refine kv_bipush (v := 9) X dL_lay_602 (by decide) ?_
            refine kv_calliSs (As := [.ref sc, .int (nI ((200 + (3 * k)) + j559)), .int (nI (9))]) [.int 1, .int r586, .int (nI k), .ref xa, .int w559] X hs (c_L_pick l dd (jk c559 wr x559, jd c559 wr x559, jE c559 wr x559) hLL ((200 + (3 * k)) + j559) (9) (by omega) (by omega)) hl0 (kCS_of X 3 (goodIn_ext gL_lay_L_pick) rfl rfl rfl (by decide +kernel) hRR ⟨(Nat.le_of_ble_eq_true rfl), (Nat.le_of_ble_eq_true rfl)⟩) rfl rfl (Nat.le_of_ble_eq_true rfl) hRR ⟨(by show _ + 0 ≤ 1300; omega), (by show _ + 0 ≤ 18000; omega)⟩ dL_lay_604 (fun r604 p604 hp604 => ?_)
            obtain ⟨hp604, rfl⟩ := hp604
            show kv dd g _ _ 607 [(5, .int (nI j559)), (4, .int (nI k)), (3, .int w559), (0, .ref xa), (1, .ref (x559.2.1 0)), (2, .ref sc)] [.int (nI p604), .int 1, .int r586, .int (nI k), .ref xa, .int w559] (jk c559 wr x559) (jd c559 wr x559) (jE c559 wr x559)
            refine kv_iadd X dL_lay_607 ?_
            refine kv_topi (nI (1 + p604)) (nI_add 1 p604) ?_
            refine kv_aload_n X 5 dL_lay_608 rfl rfl ?_
            refine kv_sipush (v := 220) X dL_lay_609 (by decide) ?_
            refine kv_iconst (v := 3) X dL_lay_612 (by decide) ?_
            refine kv_iload X 1 dL_lay_613 rfl ?_
            refine kv_imul X dL_lay_615 ?_
            refine kv_topi (nI (3 * k)) (pk_mul 3 k) ?_
            refine kv_iadd X dL_lay_616 ?_
            refine kv_topi (nI (220 + (3 * k))) (nI_add 220 (3 * k)) ?_
            refine kv_iload X 0 dL_lay_617 rfl ?_
            refine kv_iadd X dL_lay_619 ?_
            refine kv_topi (nI ((220 + (3 * k)) + j559)) (nI_add (220 + (3 * k)) j559) ?_
            refine kv_bipush (v := 20) X dL_lay_620 (by decide) ?_
            refine kv_calliSs (As := [.ref sc, .int (nI ((220 + (3 * k)) + j559)), .int (nI (20))]) [.int (nI (1 + p604)), .int r586, .int (nI k), .ref xa, .int w559] X hs (c_L_pick l dd (jk c559 wr x559, jd c559 wr x559, jE c559 wr x559) hLL ((220 + (3 * k)) + j559) (20) (by omega) (by omega)) hl0 (kCS_of X 3 (goodIn_ext gL_lay_L_pick) rfl rfl rfl (by decide +kernel) hRR ⟨(Nat.le_of_ble_eq_true rfl), (Nat.le_of_ble_eq_true rfl)⟩) rfl rfl (Nat.le_of_ble_eq_true rfl) hRR ⟨(by show _ + 0 ≤ 1300; omega), (by show _ + 0 ≤ 18000; omega)⟩ dL_lay_622 (fun r622 p622 hp622 => ?_)
            obtain ⟨hp622, rfl⟩ := hp622
            show kv dd g _ _ 625 [(5, .int (nI j559)), (4, .int (nI k)), (3, .int w559), (0, .ref xa), (1, .ref (x559.2.1 0)), (2, .ref sc)] [.int (nI p622), .int (nI (1 + p604)), .int r586, .int (nI k), .ref xa, .int w559] (jk c559 wr x559) (jd c559 wr x559) (jE c559 wr x559)
            refine kv_aload_n X 5 dL_lay_625 rfl rfl ?_
            refine kv_sipush (v := 240) X dL_lay_626 (by decide) ?_
            refine kv_iconst (v := 3) X dL_lay_629 (by decide) ?_
            refine kv_iload X 1 dL_lay_630 rfl ?_
            refine kv_imul X dL_lay_632 ?_
            refine kv_topi (nI (3 * k)) (pk_mul 3 k) ?_
            refine kv_iadd X dL_lay_633 ?_
            refine kv_topi (nI (240 + (3 * k))) (nI_add 240 (3 * k)) ?_
            refine kv_iload X 0 dL_lay_634 rfl ?_
            refine kv_iadd X dL_lay_636 ?_
            refine kv_topi (nI ((240 + (3 * k)) + j559)) (nI_add (240 + (3 * k)) j559) ?_
            refine kv_bipush (v := 20) X dL_lay_637 (by decide) ?_
            refine kv_calliSs (As := [.ref sc, .int (nI ((240 + (3 * k)) + j559)), .int (nI (20))]) [.int (nI p622), .int (nI (1 + p604)), .int r586, .int (nI k), .ref xa, .int w559] X hs (c_L_pick l dd (jk c559 wr x559, jd c559 wr x559, jE c559 wr x559) hLL ((240 + (3 * k)) + j559) (20) (by omega) (by omega)) hl0 (kCS_of X 3 (goodIn_ext gL_lay_L_pick) rfl rfl rfl (by decide +kernel) hRR ⟨(Nat.le_of_ble_eq_true rfl), (Nat.le_of_ble_eq_true rfl)⟩) rfl rfl (Nat.le_of_ble_eq_true rfl) hRR ⟨(by show _ + 0 ≤ 1300; omega), (by show _ + 0 ≤ 18000; omega)⟩ dL_lay_639 (fun r639 p639 hp639 => ?_)
            obtain ⟨hp639, rfl⟩ := hp639
            show kv dd g _ _ 642 [(5, .int (nI j559)), (4, .int (nI k)), (3, .int w559), (0, .ref xa), (1, .ref (x559.2.1 0)), (2, .ref sc)] [.int (nI p639), .int (nI p622), .int (nI (1 + p604)), .int r586, .int (nI k), .ref xa, .int w559] (jk c559 wr x559) (jd c559 wr x559) (jE c559 wr x559)
            refine kv_aload_n X 5 dL_lay_642 rfl rfl ?_
            refine kv_sipush (v := 260) X dL_lay_643 (by decide) ?_
            refine kv_iconst (v := 3) X dL_lay_646 (by decide) ?_
            refine kv_iload X 1 dL_lay_647 rfl ?_
            refine kv_imul X dL_lay_649 ?_
            refine kv_topi (nI (3 * k)) (pk_mul 3 k) ?_
            refine kv_iadd X dL_lay_650 ?_
            refine kv_topi (nI (260 + (3 * k))) (nI_add 260 (3 * k)) ?_
            refine kv_iload X 0 dL_lay_651 rfl ?_
            refine kv_iadd X dL_lay_653 ?_
            refine kv_topi (nI ((260 + (3 * k)) + j559)) (nI_add (260 + (3 * k)) j559) ?_
            refine kv_bipush (v := 9) X dL_lay_654 (by decide) ?_
            refine kv_calliSs (As := [.ref sc, .int (nI ((260 + (3 * k)) + j559)), .int (nI (9))]) [.int (nI p639), .int (nI p622), .int (nI (1 + p604)), .int r586, .int (nI k), .ref xa, .int w559] X hs (c_L_pick l dd (jk c559 wr x559, jd c559 wr x559, jE c559 wr x559) hLL ((260 + (3 * k)) + j559) (9) (by omega) (by omega)) hl0 (kCS_of X 3 (goodIn_ext gL_lay_L_pick) rfl rfl rfl (by decide +kernel) hRR ⟨(Nat.le_of_ble_eq_true rfl), (Nat.le_of_ble_eq_true rfl)⟩) rfl rfl (Nat.le_of_ble_eq_true rfl) hRR ⟨(by show _ + 0 ≤ 1300; omega), (by show _ + 0 ≤ 18000; omega)⟩ dL_lay_656 (fun r656 p656 hp656 => ?_)
            obtain ⟨hp656, rfl⟩ := hp656
            show kv dd g _ _ 659 [(5, .int (nI j559)), (4, .int (nI k)), (3, .int w559), (0, .ref xa), (1, .ref (x559.2.1 0)), (2, .ref sc)] [.int (nI p656), .int (nI p639), .int (nI p622), .int (nI (1 + p604)), .int r586, .int (nI k), .ref xa, .int w559] (jk c559 wr x559) (jd c559 wr x559) (jE c559 wr x559)
            refine kv_calliSW (As := [.ref xa, .int (nI k), .int r586, .int (nI (1 + p604)), .int (nI p622), .int (nI p639), .int (nI p656)]) [.int w559] X (d_row l wr x559 hq (nI k) r586 (nI (1 + p604)) (nI p622) (nI p639) (nI p656)) hl0 (kCSW_of X 7 (show GoodIn (wsL_lay ++ kHp) (va_wsS RL 165 yL_row (wsL_row ++ kHp)) from gK (pre := [Cond.methodLink RL 165 yL_row, Cond.static yL_row, Cond.initialized yL_row.cls]) gL_lay_L_row) rfl rfl rfl (by decide +kernel) hRR ⟨(Nat.le_of_ble_eq_true rfl), (Nat.le_of_ble_eq_true rfl)⟩) rfl rfl (Nat.le_of_ble_eq_true rfl) hRR ⟨(by show _ + 12 ≤ 1300; omega), (by show _ + 170 ≤ 18000; omega)⟩ dL_lay_659 (fun r659 c659 h659 => ?_)
            obtain ⟨hr659, hq659⟩ := h659
            show kv dd g _ _ 662 [(5, .int (nI j559)), (4, .int (nI k)), (3, .int w559), (0, .ref xa), (1, .ref (x559.2.1 0)), (2, .ref sc)] [.int r659, .int w559] (jk c659 wr x559) (jd c659 wr x559) (jE c659 wr x559)
            refine kv_iadd X dL_lay_662 ?_
            refine kv_istore_n (lv2 := [(3, .int (w559 + r659)), (5, .int (nI j559)), (4, .int (nI k)), (0, .ref xa), (1, .ref (x559.2.1 0)), (2, .ref sc)]) X dL_lay_663 rfl (by rw [hnL]; decide) rfl ?_
            refine kv_iinc (j := 1) (v := (nI (j559 + 1))) (lv2 := [(5, .int (nI (j559 + 1))), (3, .int (w559 + r659)), (4, .int (nI k)), (0, .ref xa), (1, .ref (x559.2.1 0)), (2, .ref sc)]) X dL_lay_664 rfl (nI_add j559 1) (by rw [hnL]; decide) rfl ?_
            refine kv_goto (tgt := 559) X dL_lay_667 (by decide) ?_
            rw [hma559]
            exact kv_lv [0, 2, 1, 3, 4, 5] rfl (ih559 (j559 + 1) (by omega) _ _ _ _ ((w559 + r659)) ⟨by omega, by omega, _, _, _, fm, hq659, hx0, hma559, hxm, f0, f1, f2, f3, f4⟩ (wb_m (wb_s hwb559 hr659 (by omega)) (by omega)) (by omega) (by omega))
        exact kv_lv [0, 1, 2, 3, 4, 5] rfl (L559 3 0 (by omega) _ _ _ _ (w) ⟨by omega, by omega, _, _, _, (va_up fm (2) (nI (nL + 0))), (LQ_f hq543 (fun i hi => va_up_ne _ _ (by omega))), hx0, rfl, va_up_self x.2.2 0 (kI dd 50 (va_up fm (2) (nI (nL + 0)))), ((va_up_ne _ _ (by omega)).trans f0), ((va_up_ne _ _ (by omega)).trans f1), (va_up_self _ _ _), ((va_up_ne _ _ (by omega)).trans f3), ((va_up_ne _ _ (by omega)).trans f4)⟩ hwb (by omega) (by omega))
set_option maxRecDepth 100000 in
set_option maxHeartbeats 4000000 in
theorem ly_6 {l : Launch} {dd : kDD} {g : kG} (X : kX dd g cL_lay RL (wsL_lay ++ kHp)) (hRR : kR g = ({ frames := 14, cells := 1300, slots := 18000, locals := 330 } : Room)) (hnL : knL g = 8) (hl0 : kL g = l) {sc L : Nat} {xs : Nat → Int32} (hs : kScr g sc L xs) (hLL : L ≤ 260) {wr : kT} {xa ma : Nat} {nR nt : Nat} (hR2 : 2 ≤ nR) (hR7 : nR ≤ 8) (hT2 : 2 ≤ nt) (hT7 : nt ≤ 8) (K : ∀ (a b : Nat) (c x : kT) (w : Int32), a ≤ 1188 → b ≤ 16830 → LWy dd c x xa ma nR nt → wb 70 w → kv dd g a b 829 [(3, .int w), (0, .ref xa), (1, .ref ma), (2, .ref sc)] [] (jk c wr x) (jd c wr x) (jE c wr x)) : ∀ (n k : Nat), k + n = 5 → ∀ (a b : Nat) (c x : kT) (w : Int32), LWy dd c x xa ma nR nt → wb (40 + 6 * k) w → a + 84 * n ≤ 1188 → b + 1190 * n ≤ 16830 → kv dd g a b 679 [(4, .int (nI k)), (3, .int w), (0, .ref xa), (1, .ref ma), (2, .ref sc)] [] (jk c wr x) (jd c wr x) (jE c wr x) := by
  intro n
  induction n with
  | zero =>
    intro k hk a b c x w hw hwb ha hb
    refine kv_iload X 0 dL_lay_679 rfl ?_
    refine kv_aload_n X 4 dL_lay_681 rfl rfl ?_
    refine kv_iconst (v := 4) X dL_lay_682 (by decide) ?_
    refine kv_iconst (v := 5) X dL_lay_683 (by decide) ?_
    refine kv_calliSs (As := [.ref sc, .int (nI (4)), .int (nI (5))]) [.int (nI k)] X hs (c_L_pick l dd (jk c wr x, jd c wr x, jE c wr x) hLL (4) (5) (by omega) (by omega)) hl0 (kCS_of X 3 (goodIn_ext gL_lay_L_pick) rfl rfl rfl (by decide +kernel) hRR ⟨(Nat.le_of_ble_eq_true rfl), (Nat.le_of_ble_eq_true rfl)⟩) rfl rfl (Nat.le_of_ble_eq_true rfl) hRR ⟨(by show _ + 0 ≤ 1300; omega), (by show _ + 0 ≤ 18000; omega)⟩ dL_lay_684 (fun r684 p684 hp684 => ?_)
    obtain ⟨hp684, rfl⟩ := hp684
    show kv dd g _ _ 687 [(4, .int (nI k)), (3, .int w), (0, .ref xa), (1, .ref ma), (2, .ref sc)] [.int (nI p684), .int (nI k)] (jk c wr x) (jd c wr x) (jE c wr x)
    refine kn_icmp_ge (x := k) (y := p684) (tgt := 829) X (by omega) (by omega) dL_lay_687 (by decide) (fun hc687 => ?_) (fun hc687 => absurd hc687 (by omega))
    exact kv_lv [1, 2, 3, 4] rfl (K _ _ c x w (by omega) (by omega) hw (wb_m hwb (by omega)))
  | succ n ih =>
    intro k hk a b c x w hw hwb ha hb
    refine kv_iload X 0 dL_lay_679 rfl ?_
    refine kv_aload_n X 4 dL_lay_681 rfl rfl ?_
    refine kv_iconst (v := 4) X dL_lay_682 (by decide) ?_
    refine kv_iconst (v := 5) X dL_lay_683 (by decide) ?_
    refine kv_calliSs (As := [.ref sc, .int (nI (4)), .int (nI (5))]) [.int (nI k)] X hs (c_L_pick l dd (jk c wr x, jd c wr x, jE c wr x) hLL (4) (5) (by omega) (by omega)) hl0 (kCS_of X 3 (goodIn_ext gL_lay_L_pick) rfl rfl rfl (by decide +kernel) hRR ⟨(Nat.le_of_ble_eq_true rfl), (Nat.le_of_ble_eq_true rfl)⟩) rfl rfl (Nat.le_of_ble_eq_true rfl) hRR ⟨(by show _ + 0 ≤ 1300; omega), (by show _ + 0 ≤ 18000; omega)⟩ dL_lay_684 (fun r684 p684 hp684 => ?_)
    obtain ⟨hp684, rfl⟩ := hp684
    show kv dd g _ _ 687 [(4, .int (nI k)), (3, .int w), (0, .ref xa), (1, .ref ma), (2, .ref sc)] [.int (nI p684), .int (nI k)] (jk c wr x) (jd c wr x) (jE c wr x)
    refine kn_icmp_ge (x := k) (y := p684) (tgt := 829) X (by omega) (by omega) dL_lay_687 (by decide) (fun hc687 => ?_) (fun hc687 => ?_)
    ·
      exact kv_lv [1, 2, 3, 4] rfl (K _ _ c x w (by omega) (by omega) hw (wb_m hwb (by omega)))
    ·
      obtain ⟨hbR, hbT, nL, nV, nM, fm, hq, hx0, rfl, hxm, f0, f1, f2, f3, f4⟩ := hw
      have lb := LQ_b hq
      refine kv_aload_n X 3 dL_lay_690 rfl rfl ?_
      refine kv_iconst (v := 3) X dL_lay_691 (by decide) ?_
      refine kv_dup2_11 X dL_lay_692 rfl rfl ?_
      refine kv_iaload X (κ := 2000) (n := 50) (j := 3) (f := fm) (j_x0.1.mpr hx0) (j_x0.2.2.trans hxm) (by omega) (by decide) dL_lay_693 ?_
      refine kv_topi (nI nV) f3 ?_
      refine kv_aload_n X 2 dL_lay_694 rfl rfl ?_
      refine kv_bipush (v := 11) X dL_lay_695 (by decide) ?_
      refine kv_iconst (v := 0) X dL_lay_697 (by decide) ?_
      refine kv_iconst (v := 0) X dL_lay_698 (by decide) ?_
      refine kv_iconst (v := 0) X dL_lay_699 (by decide) ?_
      refine kv_iconst (v := 0) X dL_lay_700 (by decide) ?_
      refine kv_calliSW (As := [.ref xa, .int 11, .int 0, .int 0, .int 0, .int 0]) [.int (nI nV), .int 3, .ref (x.2.1 0)] X (d_addVariant l wr x hq 0 0 0 0) hl0 (kCSW_of X 6 (show GoodIn (wsL_lay ++ kHp) (va_wsS RL 158 yL_deed (wsL_deed ++ kHp)) from gK (pre := [Cond.methodLink RL 158 yL_deed, Cond.static yL_deed, Cond.initialized yL_deed.cls]) gL_lay_L_deed) rfl rfl rfl (by decide +kernel) hRR ⟨(Nat.le_of_ble_eq_true rfl), (Nat.le_of_ble_eq_true rfl)⟩) rfl rfl (Nat.le_of_ble_eq_true rfl) hRR ⟨(by show _ + 12 ≤ 1300; omega), (by show _ + 170 ≤ 18000; omega)⟩ dL_lay_701 (fun r701 c701 h701 => ?_)
      rcases h701 with ⟨hr701, hq701⟩ | ⟨hr701, hq701⟩
      ·
        show kv dd g _ _ 704 [(4, .int (nI k)), (3, .int w), (0, .ref xa), (1, .ref (x.2.1 0)), (2, .ref sc)] [.int r701, .int (nI nV), .int 3, .ref (x.2.1 0)] (jk c701 wr x) (jd c701 wr x) (jE c701 wr x)
        refine kv_if_lt (tgt := 711) X dL_lay_704 (by decide) (fun hc704 => False.elim (Int32.not_lt.mpr hr701 hc704)) (fun hc704 => ?_)
        refine kv_iconst (v := 1) X dL_lay_707 (by decide) ?_
        refine kv_goto (tgt := 712) X dL_lay_708 (by decide) ?_
        refine kv_iadd X dL_lay_712 ?_
        refine kv_topi (nI (nV + 1)) (nI_add nV 1) ?_
        refine kv_iastore X (κ := 2000) (n := 50) (j := 3) (f := fm) (x := (nI (nV + 1))) (j_x0.1.mpr hx0) (j_x0.2.2.trans hxm) (by omega) (by decide) dL_lay_713 ?_
        refine kv_E (E2 := jE c701 wr (xI dd x (va_up fm (3) (nI (nV + 1))))) (fun j _ => xI_E j) ?_
        show kv dd g _ _ 714 [(4, .int (nI k)), (3, .int w), (0, .ref xa), (1, .ref (x.2.1 0)), (2, .ref sc)] [] (jk c701 wr (xI dd x (va_up fm (3) (nI (nV + 1))))) (jd c701 wr (xI dd x (va_up fm (3) (nI (nV + 1))))) (jE c701 wr (xI dd x (va_up fm (3) (nI (nV + 1)))))
        refine kv_iconst (v := 0) X dL_lay_714 (by decide) ?_
        refine kv_istore (lv2 := [(5, .int 0), (4, .int (nI k)), (3, .int w), (0, .ref xa), (1, .ref (x.2.1 0)), (2, .ref sc)]) X dL_lay_715 (by rw [hnL]; decide) rfl ?_
        have L717 : ∀ (n717 j717 : Nat), j717 + n717 = 3 → ∀ (a717 b717 : Nat) (c717 x717 : kT) (w717 : Int32), LWy dd c717 x717 xa (x.2.1 0) nR nt → wb (40 + 6 * k + 2 * j717) w717 → a717 + 24 * n717 ≤ a + 84 → b717 + 340 * n717 ≤ b + 1190 → kv dd g a717 b717 717 [(5, .int (nI j717)), (4, .int (nI k)), (3, .int w717), (0, .ref xa), (1, .ref (x.2.1 0)), (2, .ref sc)] [] (jk c717 wr x717) (jd c717 wr x717) (jE c717 wr x717) := by
          intro n717
          induction n717 with
          | zero =>
            intro j717 hj717 a717 b717 c717 x717 w717 hw717 hwb717 ha717 hb717
            have en717 : 3 = j717 := by omega
            subst en717
            refine kv_iload X 0 dL_lay_717 rfl ?_
            refine kv_iconst (v := 3) X dL_lay_719 (by decide) ?_
            refine kn_icmp_ge (x := 3) (y := 3) (tgt := 823) X (by omega) (by omega) dL_lay_720 (by decide) (fun hc720 => ?_) (fun hc720 => absurd hc720 (by omega))
            refine kv_iinc (j := 1) (v := (nI (k + 1))) (lv2 := [(4, .int (nI (k + 1))), (5, .int (nI 3)), (3, .int w717), (0, .ref xa), (1, .ref (x.2.1 0)), (2, .ref sc)]) X dL_lay_823 rfl (nI_add k 1) (by rw [hnL]; decide) rfl ?_
            refine kv_goto (tgt := 679) X dL_lay_826 (by decide) ?_
            exact kv_lv [0, 2, 3, 4, 5] rfl (ih (k + 1) (by omega) _ _ _ _ (w717) hw717 (wb_m hwb717 (by omega)) (by omega) (by omega))
          | succ n717 ih717 =>
            intro j717 hj717 a717 b717 c717 x717 w717 hw717 hwb717 ha717 hb717
            obtain ⟨hbR, hbT, nL, nV, nM, fm, hq, hx0, hma717, hxm, f0, f1, f2, f3, f4⟩ := hw717
            have lb := LQ_b hq
            rw [← hma717]
            refine kv_iload X 0 dL_lay_717 rfl ?_
            refine kv_iconst (v := 3) X dL_lay_719 (by decide) ?_
            refine kn_icmp_ge (x := j717) (y := 3) (tgt := 823) X (by omega) (by omega) dL_lay_720 (by decide) (fun hc720 => absurd hc720 (by omega)) (fun hc720 => ?_)
            refine kv_iload_n X 2 dL_lay_723 rfl rfl ?_
            refine kv_aload_n X 3 dL_lay_724 rfl rfl ?_
            refine kv_bipush (v := 12) X dL_lay_725 (by decide) ?_
            refine kv_iload X 1 dL_lay_727 rfl ?_
            refine kv_aload_n X 5 dL_lay_729 rfl rfl ?_
            refine kv_sipush (v := 280) X dL_lay_730 (by decide) ?_
            refine kv_iconst (v := 3) X dL_lay_733 (by decide) ?_
            refine kv_iload X 1 dL_lay_734 rfl ?_
            refine kv_imul X dL_lay_736 ?_
            refine kv_topi (nI (3 * k)) (pk_mul 3 k) ?_
            refine kv_iadd X dL_lay_737 ?_
            refine kv_topi (nI (280 + (3 * k))) (nI_add 280 (3 * k)) ?_
            refine kv_iload X 0 dL_lay_738 rfl ?_
            refine kv_iadd X dL_lay_740 ?_
            refine kv_topi (nI ((280 + (3 * k)) + j717)) (nI_add (280 + (3 * k)) j717) ?_
            refine kv_aload_n X 4 dL_lay_741 rfl rfl ?_
            refine kv_iconst (v := 1) X dL_lay_742 (by decide) ?_
            refine kv_iaload X (κ := 2000) (n := 50) (j := 1) (f := fm) (j_x0.1.mpr hx0) (j_x0.2.2.trans hxm) (by omega) (by decide) dL_lay_743 ?_
            refine kv_topi (nI nt) f1 ?_
            refine kv_calliSs (As := [.ref sc, .int (nI ((280 + (3 * k)) + j717)), .int (nI (nt))]) [.int (nI k), .int 12, .ref xa, .int w717] X hs (c_L_pick l dd (jk c717 wr x717, jd c717 wr x717, jE c717 wr x717) hLL ((280 + (3 * k)) + j717) (nt) (by omega) (by omega)) hl0 (kCS_of X 3 (goodIn_ext gL_lay_L_pick) rfl rfl rfl (by decide +kernel) hRR ⟨(Nat.le_of_ble_eq_true rfl), (Nat.le_of_ble_eq_true rfl)⟩) rfl rfl (Nat.le_of_ble_eq_true rfl) hRR ⟨(by show _ + 0 ≤ 1300; omega), (by show _ + 0 ≤ 18000; omega)⟩ dL_lay_744 (fun r744 p744 hp744 => ?_)
            obtain ⟨hp744, rfl⟩ := hp744
            show kv dd g _ _ 747 [(5, .int (nI j717)), (4, .int (nI k)), (3, .int w717), (0, .ref xa), (1, .ref (x717.2.1 0)), (2, .ref sc)] [.int (nI p744), .int (nI k), .int 12, .ref xa, .int w717] (jk c717 wr x717) (jd c717 wr x717) (jE c717 wr x717)
            refine kv_aload_n X 5 dL_lay_747 rfl rfl ?_
            refine kv_sipush (v := 300) X dL_lay_748 (by decide) ?_
            refine kv_iconst (v := 3) X dL_lay_751 (by decide) ?_
            refine kv_iload X 1 dL_lay_752 rfl ?_
            refine kv_imul X dL_lay_754 ?_
            refine kv_topi (nI (3 * k)) (pk_mul 3 k) ?_
            refine kv_iadd X dL_lay_755 ?_
            refine kv_topi (nI (300 + (3 * k))) (nI_add 300 (3 * k)) ?_
            refine kv_iload X 0 dL_lay_756 rfl ?_
            refine kv_iadd X dL_lay_758 ?_
            refine kv_topi (nI ((300 + (3 * k)) + j717)) (nI_add (300 + (3 * k)) j717) ?_
            refine kv_aload_n X 4 dL_lay_759 rfl rfl ?_
            refine kv_iconst (v := 1) X dL_lay_760 (by decide) ?_
            refine kv_iaload X (κ := 2000) (n := 50) (j := 1) (f := fm) (j_x0.1.mpr hx0) (j_x0.2.2.trans hxm) (by omega) (by decide) dL_lay_761 ?_
            refine kv_topi (nI nt) f1 ?_
            refine kv_calliSs (As := [.ref sc, .int (nI ((300 + (3 * k)) + j717)), .int (nI (nt))]) [.int (nI p744), .int (nI k), .int 12, .ref xa, .int w717] X hs (c_L_pick l dd (jk c717 wr x717, jd c717 wr x717, jE c717 wr x717) hLL ((300 + (3 * k)) + j717) (nt) (by omega) (by omega)) hl0 (kCS_of X 3 (goodIn_ext gL_lay_L_pick) rfl rfl rfl (by decide +kernel) hRR ⟨(Nat.le_of_ble_eq_true rfl), (Nat.le_of_ble_eq_true rfl)⟩) rfl rfl (Nat.le_of_ble_eq_true rfl) hRR ⟨(by show _ + 0 ≤ 1300; omega), (by show _ + 0 ≤ 18000; omega)⟩ dL_lay_762 (fun r762 p762 hp762 => ?_)
            obtain ⟨hp762, rfl⟩ := hp762
            show kv dd g _ _ 765 [(5, .int (nI j717)), (4, .int (nI k)), (3, .int w717), (0, .ref xa), (1, .ref (x717.2.1 0)), (2, .ref sc)] [.int (nI p762), .int (nI p744), .int (nI k), .int 12, .ref xa, .int w717] (jk c717 wr x717) (jd c717 wr x717) (jE c717 wr x717)
            refine kv_iconst (v := 0) X dL_lay_765 (by decide) ?_
            refine kv_calliSW (As := [.ref xa, .int 12, .int (nI k), .int (nI p744), .int (nI p762), .int 0]) [.int w717] X (d_replaceItem l wr x717 hq (nI k) (nI p744) (nI p762) 0) hl0 (kCSW_of X 6 (show GoodIn (wsL_lay ++ kHp) (va_wsS RL 158 yL_deed (wsL_deed ++ kHp)) from gK (pre := [Cond.methodLink RL 158 yL_deed, Cond.static yL_deed, Cond.initialized yL_deed.cls]) gL_lay_L_deed) rfl rfl rfl (by decide +kernel) hRR ⟨(Nat.le_of_ble_eq_true rfl), (Nat.le_of_ble_eq_true rfl)⟩) rfl rfl (Nat.le_of_ble_eq_true rfl) hRR ⟨(by show _ + 12 ≤ 1300; omega), (by show _ + 170 ≤ 18000; omega)⟩ dL_lay_766 (fun r766 c766 h766 => ?_)
            obtain ⟨hr766, hq766⟩ := h766
            show kv dd g _ _ 769 [(5, .int (nI j717)), (4, .int (nI k)), (3, .int w717), (0, .ref xa), (1, .ref (x717.2.1 0)), (2, .ref sc)] [.int r766, .int w717] (jk c766 wr x717) (jd c766 wr x717) (jE c766 wr x717)
            refine kv_aload_n X 3 dL_lay_769 rfl rfl ?_
            refine kv_bipush (v := 13) X dL_lay_770 (by decide) ?_
            refine kv_iload X 1 dL_lay_772 rfl ?_
            refine kv_aload_n X 5 dL_lay_774 rfl rfl ?_
            refine kv_sipush (v := 320) X dL_lay_775 (by decide) ?_
            refine kv_iconst (v := 3) X dL_lay_778 (by decide) ?_
            refine kv_iload X 1 dL_lay_779 rfl ?_
            refine kv_imul X dL_lay_781 ?_
            refine kv_topi (nI (3 * k)) (pk_mul 3 k) ?_
            refine kv_iadd X dL_lay_782 ?_
            refine kv_topi (nI (320 + (3 * k))) (nI_add 320 (3 * k)) ?_
            refine kv_iload X 0 dL_lay_783 rfl ?_
            refine kv_iadd X dL_lay_785 ?_
            refine kv_topi (nI ((320 + (3 * k)) + j717)) (nI_add (320 + (3 * k)) j717) ?_
            refine kv_aload_n X 4 dL_lay_786 rfl rfl ?_
            refine kv_iconst (v := 0) X dL_lay_787 (by decide) ?_
            refine kv_iaload X (κ := 2000) (n := 50) (j := 0) (f := fm) (j_x0.1.mpr hx0) (j_x0.2.2.trans hxm) (by omega) (by decide) dL_lay_788 ?_
            refine kv_topi (nI nR) f0 ?_
            refine kv_calliSs (As := [.ref sc, .int (nI ((320 + (3 * k)) + j717)), .int (nI (nR))]) [.int (nI k), .int 13, .ref xa, .int r766, .int w717] X hs (c_L_pick l dd (jk c766 wr x717, jd c766 wr x717, jE c766 wr x717) hLL ((320 + (3 * k)) + j717) (nR) (by omega) (by omega)) hl0 (kCS_of X 3 (goodIn_ext gL_lay_L_pick) rfl rfl rfl (by decide +kernel) hRR ⟨(Nat.le_of_ble_eq_true rfl), (Nat.le_of_ble_eq_true rfl)⟩) rfl rfl (Nat.le_of_ble_eq_true rfl) hRR ⟨(by show _ + 0 ≤ 1300; omega), (by show _ + 0 ≤ 18000; omega)⟩ dL_lay_789 (fun r789 p789 hp789 => ?_)
            obtain ⟨hp789, rfl⟩ := hp789
            show kv dd g _ _ 792 [(5, .int (nI j717)), (4, .int (nI k)), (3, .int w717), (0, .ref xa), (1, .ref (x717.2.1 0)), (2, .ref sc)] [.int (nI p789), .int (nI k), .int 13, .ref xa, .int r766, .int w717] (jk c766 wr x717) (jd c766 wr x717) (jE c766 wr x717)
            refine kv_aload_n X 5 dL_lay_792 rfl rfl ?_
            refine kv_sipush (v := 340) X dL_lay_793 (by decide) ?_
            refine kv_iconst (v := 3) X dL_lay_796 (by decide) ?_
            refine kv_iload X 1 dL_lay_797 rfl ?_
            refine kv_imul X dL_lay_799 ?_
            refine kv_topi (nI (3 * k)) (pk_mul 3 k) ?_
            refine kv_iadd X dL_lay_800 ?_
            refine kv_topi (nI (340 + (3 * k))) (nI_add 340 (3 * k)) ?_
            refine kv_iload X 0 dL_lay_801 rfl ?_
            refine kv_iadd X dL_lay_803 ?_
            refine kv_topi (nI ((340 + (3 * k)) + j717)) (nI_add (340 + (3 * k)) j717) ?_
            refine kv_aload_n X 4 dL_lay_804 rfl rfl ?_
            refine kv_iconst (v := 0) X dL_lay_805 (by decide) ?_
            refine kv_iaload X (κ := 2000) (n := 50) (j := 0) (f := fm) (j_x0.1.mpr hx0) (j_x0.2.2.trans hxm) (by omega) (by decide) dL_lay_806 ?_
            refine kv_topi (nI nR) f0 ?_
            refine kv_calliSs (As := [.ref sc, .int (nI ((340 + (3 * k)) + j717)), .int (nI (nR))]) [.int (nI p789), .int (nI k), .int 13, .ref xa, .int r766, .int w717] X hs (c_L_pick l dd (jk c766 wr x717, jd c766 wr x717, jE c766 wr x717) hLL ((340 + (3 * k)) + j717) (nR) (by omega) (by omega)) hl0 (kCS_of X 3 (goodIn_ext gL_lay_L_pick) rfl rfl rfl (by decide +kernel) hRR ⟨(Nat.le_of_ble_eq_true rfl), (Nat.le_of_ble_eq_true rfl)⟩) rfl rfl (Nat.le_of_ble_eq_true rfl) hRR ⟨(by show _ + 0 ≤ 1300; omega), (by show _ + 0 ≤ 18000; omega)⟩ dL_lay_807 (fun r807 p807 hp807 => ?_)
            obtain ⟨hp807, rfl⟩ := hp807
            show kv dd g _ _ 810 [(5, .int (nI j717)), (4, .int (nI k)), (3, .int w717), (0, .ref xa), (1, .ref (x717.2.1 0)), (2, .ref sc)] [.int (nI p807), .int (nI p789), .int (nI k), .int 13, .ref xa, .int r766, .int w717] (jk c766 wr x717) (jd c766 wr x717) (jE c766 wr x717)
            refine kv_iconst (v := 0) X dL_lay_810 (by decide) ?_
            refine kv_calliSW (As := [.ref xa, .int 13, .int (nI k), .int (nI p789), .int (nI p807), .int 0]) [.int r766, .int w717] X (d_replaceResource l wr x717 hq766 (nI k) (nI p789) (nI p807) 0) hl0 (kCSW_of X 6 (show GoodIn (wsL_lay ++ kHp) (va_wsS RL 158 yL_deed (wsL_deed ++ kHp)) from gK (pre := [Cond.methodLink RL 158 yL_deed, Cond.static yL_deed, Cond.initialized yL_deed.cls]) gL_lay_L_deed) rfl rfl rfl (by decide +kernel) hRR ⟨(Nat.le_of_ble_eq_true rfl), (Nat.le_of_ble_eq_true rfl)⟩) rfl rfl (Nat.le_of_ble_eq_true rfl) hRR ⟨(by show _ + 12 ≤ 1300; omega), (by show _ + 170 ≤ 18000; omega)⟩ dL_lay_811 (fun r811 c811 h811 => ?_)
            obtain ⟨hr811, hq811⟩ := h811
            show kv dd g _ _ 814 [(5, .int (nI j717)), (4, .int (nI k)), (3, .int w717), (0, .ref xa), (1, .ref (x717.2.1 0)), (2, .ref sc)] [.int r811, .int r766, .int w717] (jk c811 wr x717) (jd c811 wr x717) (jE c811 wr x717)
            refine kv_iadd X dL_lay_814 ?_
            refine kv_iadd X dL_lay_815 ?_
            refine kv_istore_n (lv2 := [(3, .int (w717 + (r766 + r811))), (5, .int (nI j717)), (4, .int (nI k)), (0, .ref xa), (1, .ref (x717.2.1 0)), (2, .ref sc)]) X dL_lay_816 rfl (by rw [hnL]; decide) rfl ?_
            refine kv_iinc (j := 1) (v := (nI (j717 + 1))) (lv2 := [(5, .int (nI (j717 + 1))), (3, .int (w717 + (r766 + r811))), (4, .int (nI k)), (0, .ref xa), (1, .ref (x717.2.1 0)), (2, .ref sc)]) X dL_lay_817 rfl (nI_add j717 1) (by rw [hnL]; decide) rfl ?_
            refine kv_goto (tgt := 717) X dL_lay_820 (by decide) ?_
            rw [hma717]
            exact kv_lv [0, 2, 1, 3, 4, 5] rfl (ih717 (j717 + 1) (by omega) _ _ _ _ ((w717 + (r766 + r811))) ⟨by omega, by omega, _, _, _, fm, hq811, hx0, hma717, hxm, f0, f1, f2, f3, f4⟩ (wb_m (wb_2 hwb717 hr766 hr811 (by omega)) (by omega)) (by omega) (by omega))
        exact kv_lv [0, 1, 2, 3, 4, 5] rfl (L717 3 0 (by omega) _ _ _ _ (w) ⟨by omega, by omega, _, _, _, (va_up fm (3) (nI (nV + 1))), (LQ_f hq701 (fun i hi => va_up_ne _ _ (by omega))), hx0, rfl, va_up_self x.2.2 0 (kI dd 50 (va_up fm (3) (nI (nV + 1)))), ((va_up_ne _ _ (by omega)).trans f0), ((va_up_ne _ _ (by omega)).trans f1), ((va_up_ne _ _ (by omega)).trans f2), (va_up_self _ _ _), ((va_up_ne _ _ (by omega)).trans f4)⟩ hwb (by omega) (by omega))
      ·
        show kv dd g _ _ 704 [(4, .int (nI k)), (3, .int w), (0, .ref xa), (1, .ref (x.2.1 0)), (2, .ref sc)] [.int r701, .int (nI nV), .int 3, .ref (x.2.1 0)] (jk c701 wr x) (jd c701 wr x) (jE c701 wr x)
        refine kv_if_lt (tgt := 711) X dL_lay_704 (by decide) (fun hc704 => ?_) (fun hc704 => False.elim (hc704 hr701))
        refine kv_iconst (v := 0) X dL_lay_711 (by decide) ?_
        refine kv_iadd X dL_lay_712 ?_
        refine kv_topi (nI (nV + 0)) (nI_add nV 0) ?_
        refine kv_iastore X (κ := 2000) (n := 50) (j := 3) (f := fm) (x := (nI (nV + 0))) (j_x0.1.mpr hx0) (j_x0.2.2.trans hxm) (by omega) (by decide) dL_lay_713 ?_
        refine kv_E (E2 := jE c701 wr (xI dd x (va_up fm (3) (nI (nV + 0))))) (fun j _ => xI_E j) ?_
        show kv dd g _ _ 714 [(4, .int (nI k)), (3, .int w), (0, .ref xa), (1, .ref (x.2.1 0)), (2, .ref sc)] [] (jk c701 wr (xI dd x (va_up fm (3) (nI (nV + 0))))) (jd c701 wr (xI dd x (va_up fm (3) (nI (nV + 0))))) (jE c701 wr (xI dd x (va_up fm (3) (nI (nV + 0)))))
        refine kv_iconst (v := 0) X dL_lay_714 (by decide) ?_
        refine kv_istore (lv2 := [(5, .int 0), (4, .int (nI k)), (3, .int w), (0, .ref xa), (1, .ref (x.2.1 0)), (2, .ref sc)]) X dL_lay_715 (by rw [hnL]; decide) rfl ?_
        have L717 : ∀ (n717 j717 : Nat), j717 + n717 = 3 → ∀ (a717 b717 : Nat) (c717 x717 : kT) (w717 : Int32), LWy dd c717 x717 xa (x.2.1 0) nR nt → wb (40 + 6 * k + 2 * j717) w717 → a717 + 24 * n717 ≤ a + 84 → b717 + 340 * n717 ≤ b + 1190 → kv dd g a717 b717 717 [(5, .int (nI j717)), (4, .int (nI k)), (3, .int w717), (0, .ref xa), (1, .ref (x.2.1 0)), (2, .ref sc)] [] (jk c717 wr x717) (jd c717 wr x717) (jE c717 wr x717) := by
          intro n717
          induction n717 with
          | zero =>
            intro j717 hj717 a717 b717 c717 x717 w717 hw717 hwb717 ha717 hb717
            have en717 : 3 = j717 := by omega
            subst en717
            refine kv_iload X 0 dL_lay_717 rfl ?_
            refine kv_iconst (v := 3) X dL_lay_719 (by decide) ?_
            refine kn_icmp_ge (x := 3) (y := 3) (tgt := 823) X (by omega) (by omega) dL_lay_720 (by decide) (fun hc720 => ?_) (fun hc720 => absurd hc720 (by omega))
            refine kv_iinc (j := 1) (v := (nI (k + 1))) (lv2 := [(4, .int (nI (k + 1))), (5, .int (nI 3)), (3, .int w717), (0, .ref xa), (1, .ref (x.2.1 0)), (2, .ref sc)]) X dL_lay_823 rfl (nI_add k 1) (by rw [hnL]; decide) rfl ?_
            refine kv_goto (tgt := 679) X dL_lay_826 (by decide) ?_
            exact kv_lv [0, 2, 3, 4, 5] rfl (ih (k + 1) (by omega) _ _ _ _ (w717) hw717 (wb_m hwb717 (by omega)) (by omega) (by omega))
          | succ n717 ih717 =>
            intro j717 hj717 a717 b717 c717 x717 w717 hw717 hwb717 ha717 hb717
            obtain ⟨hbR, hbT, nL, nV, nM, fm, hq, hx0, hma717, hxm, f0, f1, f2, f3, f4⟩ := hw717
            have lb := LQ_b hq
            rw [← hma717]
            refine kv_iload X 0 dL_lay_717 rfl ?_
            refine kv_iconst (v := 3) X dL_lay_719 (by decide) ?_
            refine kn_icmp_ge (x := j717) (y := 3) (tgt := 823) X (by omega) (by omega) dL_lay_720 (by decide) (fun hc720 => absurd hc720 (by omega)) (fun hc720 => ?_)
            refine kv_iload_n X 2 dL_lay_723 rfl rfl ?_
            refine kv_aload_n X 3 dL_lay_724 rfl rfl ?_
            refine kv_bipush (v := 12) X dL_lay_725 (by decide) ?_
            refine kv_iload X 1 dL_lay_727 rfl ?_
            refine kv_aload_n X 5 dL_lay_729 rfl rfl ?_
            refine kv_sipush (v := 280) X dL_lay_730 (by decide) ?_
            refine kv_iconst (v := 3) X dL_lay_733 (by decide) ?_
            refine kv_iload X 1 dL_lay_734 rfl ?_
            refine kv_imul X dL_lay_736 ?_
            refine kv_topi (nI (3 * k)) (pk_mul 3 k) ?_
            refine kv_iadd X dL_lay_737 ?_
            refine kv_topi (nI (280 + (3 * k))) (nI_add 280 (3 * k)) ?_
            refine kv_iload X 0 dL_lay_738 rfl ?_
            refine kv_iadd X dL_lay_740 ?_
            refine kv_topi (nI ((280 + (3 * k)) + j717)) (nI_add (280 + (3 * k)) j717) ?_
            refine kv_aload_n X 4 dL_lay_741 rfl rfl ?_
            refine kv_iconst (v := 1) X dL_lay_742 (by decide) ?_
            refine kv_iaload X (κ := 2000) (n := 50) (j := 1) (f := fm) (j_x0.1.mpr hx0) (j_x0.2.2.trans hxm) (by omega) (by decide) dL_lay_743 ?_
            refine kv_topi (nI nt) f1 ?_
            refine kv_calliSs (As := [.ref sc, .int (nI ((280 + (3 * k)) + j717)), .int (nI (nt))]) [.int (nI k), .int 12, .ref xa, .int w717] X hs (c_L_pick l dd (jk c717 wr x717, jd c717 wr x717, jE c717 wr x717) hLL ((280 + (3 * k)) + j717) (nt) (by omega) (by omega)) hl0 (kCS_of X 3 (goodIn_ext gL_lay_L_pick) rfl rfl rfl (by decide +kernel) hRR ⟨(Nat.le_of_ble_eq_true rfl), (Nat.le_of_ble_eq_true rfl)⟩) rfl rfl (Nat.le_of_ble_eq_true rfl) hRR ⟨(by show _ + 0 ≤ 1300; omega), (by show _ + 0 ≤ 18000; omega)⟩ dL_lay_744 (fun r744 p744 hp744 => ?_)
            obtain ⟨hp744, rfl⟩ := hp744
            show kv dd g _ _ 747 [(5, .int (nI j717)), (4, .int (nI k)), (3, .int w717), (0, .ref xa), (1, .ref (x717.2.1 0)), (2, .ref sc)] [.int (nI p744), .int (nI k), .int 12, .ref xa, .int w717] (jk c717 wr x717) (jd c717 wr x717) (jE c717 wr x717)
            refine kv_aload_n X 5 dL_lay_747 rfl rfl ?_
            refine kv_sipush (v := 300) X dL_lay_748 (by decide) ?_
            refine kv_iconst (v := 3) X dL_lay_751 (by decide) ?_
            refine kv_iload X 1 dL_lay_752 rfl ?_
            refine kv_imul X dL_lay_754 ?_
            refine kv_topi (nI (3 * k)) (pk_mul 3 k) ?_
            refine kv_iadd X dL_lay_755 ?_
            refine kv_topi (nI (300 + (3 * k))) (nI_add 300 (3 * k)) ?_
            refine kv_iload X 0 dL_lay_756 rfl ?_
            refine kv_iadd X dL_lay_758 ?_
            refine kv_topi (nI ((300 + (3 * k)) + j717)) (nI_add (300 + (3 * k)) j717) ?_
            refine kv_aload_n X 4 dL_lay_759 rfl rfl ?_
            refine kv_iconst (v := 1) X dL_lay_760 (by decide) ?_
            refine kv_iaload X (κ := 2000) (n := 50) (j := 1) (f := fm) (j_x0.1.mpr hx0) (j_x0.2.2.trans hxm) (by omega) (by decide) dL_lay_761 ?_
            refine kv_topi (nI nt) f1 ?_
            refine kv_calliSs (As := [.ref sc, .int (nI ((300 + (3 * k)) + j717)), .int (nI (nt))]) [.int (nI p744), .int (nI k), .int 12, .ref xa, .int w717] X hs (c_L_pick l dd (jk c717 wr x717, jd c717 wr x717, jE c717 wr x717) hLL ((300 + (3 * k)) + j717) (nt) (by omega) (by omega)) hl0 (kCS_of X 3 (goodIn_ext gL_lay_L_pick) rfl rfl rfl (by decide +kernel) hRR ⟨(Nat.le_of_ble_eq_true rfl), (Nat.le_of_ble_eq_true rfl)⟩) rfl rfl (Nat.le_of_ble_eq_true rfl) hRR ⟨(by show _ + 0 ≤ 1300; omega), (by show _ + 0 ≤ 18000; omega)⟩ dL_lay_762 (fun r762 p762 hp762 => ?_)
            obtain ⟨hp762, rfl⟩ := hp762
            show kv dd g _ _ 765 [(5, .int (nI j717)), (4, .int (nI k)), (3, .int w717), (0, .ref xa), (1, .ref (x717.2.1 0)), (2, .ref sc)] [.int (nI p762), .int (nI p744), .int (nI k), .int 12, .ref xa, .int w717] (jk c717 wr x717) (jd c717 wr x717) (jE c717 wr x717)
            refine kv_iconst (v := 0) X dL_lay_765 (by decide) ?_
            refine kv_calliSW (As := [.ref xa, .int 12, .int (nI k), .int (nI p744), .int (nI p762), .int 0]) [.int w717] X (d_replaceItem l wr x717 hq (nI k) (nI p744) (nI p762) 0) hl0 (kCSW_of X 6 (show GoodIn (wsL_lay ++ kHp) (va_wsS RL 158 yL_deed (wsL_deed ++ kHp)) from gK (pre := [Cond.methodLink RL 158 yL_deed, Cond.static yL_deed, Cond.initialized yL_deed.cls]) gL_lay_L_deed) rfl rfl rfl (by decide +kernel) hRR ⟨(Nat.le_of_ble_eq_true rfl), (Nat.le_of_ble_eq_true rfl)⟩) rfl rfl (Nat.le_of_ble_eq_true rfl) hRR ⟨(by show _ + 12 ≤ 1300; omega), (by show _ + 170 ≤ 18000; omega)⟩ dL_lay_766 (fun r766 c766 h766 => ?_)
            obtain ⟨hr766, hq766⟩ := h766
            show kv dd g _ _ 769 [(5, .int (nI j717)), (4, .int (nI k)), (3, .int w717), (0, .ref xa), (1, .ref (x717.2.1 0)), (2, .ref sc)] [.int r766, .int w717] (jk c766 wr x717) (jd c766 wr x717) (jE c766 wr x717)
            refine kv_aload_n X 3 dL_lay_769 rfl rfl ?_
            refine kv_bipush (v := 13) X dL_lay_770 (by decide) ?_
            refine kv_iload X 1 dL_lay_772 rfl ?_
            refine kv_aload_n X 5 dL_lay_774 rfl rfl ?_
            refine kv_sipush (v := 320) X dL_lay_775 (by decide) ?_
            refine kv_iconst (v := 3) X dL_lay_778 (by decide) ?_
            refine kv_iload X 1 dL_lay_779 rfl ?_
            refine kv_imul X dL_lay_781 ?_
            refine kv_topi (nI (3 * k)) (pk_mul 3 k) ?_
            refine kv_iadd X dL_lay_782 ?_
            refine kv_topi (nI (320 + (3 * k))) (nI_add 320 (3 * k)) ?_
            refine kv_iload X 0 dL_lay_783 rfl ?_
            refine kv_iadd X dL_lay_785 ?_
            refine kv_topi (nI ((320 + (3 * k)) + j717)) (nI_add (320 + (3 * k)) j717) ?_
            refine kv_aload_n X 4 dL_lay_786 rfl rfl ?_
            refine kv_iconst (v := 0) X dL_lay_787 (by decide) ?_
            refine kv_iaload X (κ := 2000) (n := 50) (j := 0) (f := fm) (j_x0.1.mpr hx0) (j_x0.2.2.trans hxm) (by omega) (by decide) dL_lay_788 ?_
            refine kv_topi (nI nR) f0 ?_
            refine kv_calliSs (As := [.ref sc, .int (nI ((320 + (3 * k)) + j717)), .int (nI (nR))]) [.int (nI k), .int 13, .ref xa, .int r766, .int w717] X hs (c_L_pick l dd (jk c766 wr x717, jd c766 wr x717, jE c766 wr x717) hLL ((320 + (3 * k)) + j717) (nR) (by omega) (by omega)) hl0 (kCS_of X 3 (goodIn_ext gL_lay_L_pick) rfl rfl rfl (by decide +kernel) hRR ⟨(Nat.le_of_ble_eq_true rfl), (Nat.le_of_ble_eq_true rfl)⟩) rfl rfl (Nat.le_of_ble_eq_true rfl) hRR ⟨(by show _ + 0 ≤ 1300; omega), (by show _ + 0 ≤ 18000; omega)⟩ dL_lay_789 (fun r789 p789 hp789 => ?_)
            obtain ⟨hp789, rfl⟩ := hp789
            show kv dd g _ _ 792 [(5, .int (nI j717)), (4, .int (nI k)), (3, .int w717), (0, .ref xa), (1, .ref (x717.2.1 0)), (2, .ref sc)] [.int (nI p789), .int (nI k), .int 13, .ref xa, .int r766, .int w717] (jk c766 wr x717) (jd c766 wr x717) (jE c766 wr x717)
            refine kv_aload_n X 5 dL_lay_792 rfl rfl ?_
            refine kv_sipush (v := 340) X dL_lay_793 (by decide) ?_
            refine kv_iconst (v := 3) X dL_lay_796 (by decide) ?_
            refine kv_iload X 1 dL_lay_797 rfl ?_
            refine kv_imul X dL_lay_799 ?_
            refine kv_topi (nI (3 * k)) (pk_mul 3 k) ?_
            refine kv_iadd X dL_lay_800 ?_
            refine kv_topi (nI (340 + (3 * k))) (nI_add 340 (3 * k)) ?_
            refine kv_iload X 0 dL_lay_801 rfl ?_
            refine kv_iadd X dL_lay_803 ?_
            refine kv_topi (nI ((340 + (3 * k)) + j717)) (nI_add (340 + (3 * k)) j717) ?_
            refine kv_aload_n X 4 dL_lay_804 rfl rfl ?_
            refine kv_iconst (v := 0) X dL_lay_805 (by decide) ?_
            refine kv_iaload X (κ := 2000) (n := 50) (j := 0) (f := fm) (j_x0.1.mpr hx0) (j_x0.2.2.trans hxm) (by omega) (by decide) dL_lay_806 ?_
            refine kv_topi (nI nR) f0 ?_
            refine kv_calliSs (As := [.ref sc, .int (nI ((340 + (3 * k)) + j717)), .int (nI (nR))]) [.int (nI p789), .int (nI k), .int 13, .ref xa, .int r766, .int w717] X hs (c_L_pick l dd (jk c766 wr x717, jd c766 wr x717, jE c766 wr x717) hLL ((340 + (3 * k)) + j717) (nR) (by omega) (by omega)) hl0 (kCS_of X 3 (goodIn_ext gL_lay_L_pick) rfl rfl rfl (by decide +kernel) hRR ⟨(Nat.le_of_ble_eq_true rfl), (Nat.le_of_ble_eq_true rfl)⟩) rfl rfl (Nat.le_of_ble_eq_true rfl) hRR ⟨(by show _ + 0 ≤ 1300; omega), (by show _ + 0 ≤ 18000; omega)⟩ dL_lay_807 (fun r807 p807 hp807 => ?_)
            obtain ⟨hp807, rfl⟩ := hp807
            show kv dd g _ _ 810 [(5, .int (nI j717)), (4, .int (nI k)), (3, .int w717), (0, .ref xa), (1, .ref (x717.2.1 0)), (2, .ref sc)] [.int (nI p807), .int (nI p789), .int (nI k), .int 13, .ref xa, .int r766, .int w717] (jk c766 wr x717) (jd c766 wr x717) (jE c766 wr x717)
            refine kv_iconst (v := 0) X dL_lay_810 (by decide) ?_
            refine kv_calliSW (As := [.ref xa, .int 13, .int (nI k), .int (nI p789), .int (nI p807), .int 0]) [.int r766, .int w717] X (d_replaceResource l wr x717 hq766 (nI k) (nI p789) (nI p807) 0) hl0 (kCSW_of X 6 (show GoodIn (wsL_lay ++ kHp) (va_wsS RL 158 yL_deed (wsL_deed ++ kHp)) from gK (pre := [Cond.methodLink RL 158 yL_deed, Cond.static yL_deed, Cond.initialized yL_deed.cls]) gL_lay_L_deed) rfl rfl rfl (by decide +kernel) hRR ⟨(Nat.le_of_ble_eq_true rfl), (Nat.le_of_ble_eq_true rfl)⟩) rfl rfl (Nat.le_of_ble_eq_true rfl) hRR ⟨(by show _ + 12 ≤ 1300; omega), (by show _ + 170 ≤ 18000; omega)⟩ dL_lay_811 (fun r811 c811 h811 => ?_)
            obtain ⟨hr811, hq811⟩ := h811
            show kv dd g _ _ 814 [(5, .int (nI j717)), (4, .int (nI k)), (3, .int w717), (0, .ref xa), (1, .ref (x717.2.1 0)), (2, .ref sc)] [.int r811, .int r766, .int w717] (jk c811 wr x717) (jd c811 wr x717) (jE c811 wr x717)
            refine kv_iadd X dL_lay_814 ?_
            refine kv_iadd X dL_lay_815 ?_
            refine kv_istore_n (lv2 := [(3, .int (w717 + (r766 + r811))), (5, .int (nI j717)), (4, .int (nI k)), (0, .ref xa), (1, .ref (x717.2.1 0)), (2, .ref sc)]) X dL_lay_816 rfl (by rw [hnL]; decide) rfl ?_
            refine kv_iinc (j := 1) (v := (nI (j717 + 1))) (lv2 := [(5, .int (nI (j717 + 1))), (3, .int (w717 + (r766 + r811))), (4, .int (nI k)), (0, .ref xa), (1, .ref (x717.2.1 0)), (2, .ref sc)]) X dL_lay_817 rfl (nI_add j717 1) (by rw [hnL]; decide) rfl ?_
            refine kv_goto (tgt := 717) X dL_lay_820 (by decide) ?_
            rw [hma717]
            exact kv_lv [0, 2, 1, 3, 4, 5] rfl (ih717 (j717 + 1) (by omega) _ _ _ _ ((w717 + (r766 + r811))) ⟨by omega, by omega, _, _, _, fm, hq811, hx0, hma717, hxm, f0, f1, f2, f3, f4⟩ (wb_m (wb_2 hwb717 hr766 hr811 (by omega)) (by omega)) (by omega) (by omega))
        exact kv_lv [0, 1, 2, 3, 4, 5] rfl (L717 3 0 (by omega) _ _ _ _ (w) ⟨by omega, by omega, _, _, _, (va_up fm (3) (nI (nV + 0))), (LQ_f hq701 (fun i hi => va_up_ne _ _ (by omega))), hx0, rfl, va_up_self x.2.2 0 (kI dd 50 (va_up fm (3) (nI (nV + 0)))), ((va_up_ne _ _ (by omega)).trans f0), ((va_up_ne _ _ (by omega)).trans f1), ((va_up_ne _ _ (by omega)).trans f2), (va_up_self _ _ _), ((va_up_ne _ _ (by omega)).trans f4)⟩ hwb (by omega) (by omega))
set_option maxRecDepth 100000 in
set_option maxHeartbeats 4000000 in
theorem ly_7 {l : Launch} {dd : kDD} {g : kG} (X : kX dd g cL_lay RL (wsL_lay ++ kHp)) (hRR : kR g = ({ frames := 14, cells := 1300, slots := 18000, locals := 330 } : Room)) (hnL : knL g = 8) (hl0 : kL g = l) {sc L : Nat} {xs : Nat → Int32} (hs : kScr g sc L xs) (hLL : L ≤ 260) {wr : kT} {xa ma : Nat} {nR nt : Nat} (hR2 : 2 ≤ nR) (hR7 : nR ≤ 8) (hT2 : 2 ≤ nt) (hT7 : nt ≤ 8) (K : ∀ (a b : Nat) (c x : kT) (w : Int32), a ≤ 1248 → b ≤ 17680 → LWy dd c x xa ma nR nt → wb 70 w → kv dd g a b 898 [(3, .int w), (0, .ref xa), (1, .ref ma), (2, .ref sc)] [] (jk c wr x) (jd c wr x) (jE c wr x)) : ∀ (n k : Nat), k + n = 5 → ∀ (a b : Nat) (c x : kT) (w : Int32), LWy dd c x xa ma nR nt → wb (70) w → a + 12 * n ≤ 1248 → b + 170 * n ≤ 17680 → kv dd g a b 832 [(4, .int (nI k)), (3, .int w), (0, .ref xa), (1, .ref ma), (2, .ref sc)] [] (jk c wr x) (jd c wr x) (jE c wr x) := by
  intro n
  induction n with
  | zero =>
    intro k hk a b c x w hw hwb ha hb
    refine kv_iload X 0 dL_lay_832 rfl ?_
    refine kv_aload_n X 4 dL_lay_834 rfl rfl ?_
    refine kv_iconst (v := 5) X dL_lay_835 (by decide) ?_
    refine kv_iconst (v := 5) X dL_lay_836 (by decide) ?_
    refine kv_calliSs (As := [.ref sc, .int (nI (5)), .int (nI (5))]) [.int (nI k)] X hs (c_L_pick l dd (jk c wr x, jd c wr x, jE c wr x) hLL (5) (5) (by omega) (by omega)) hl0 (kCS_of X 3 (goodIn_ext gL_lay_L_pick) rfl rfl rfl (by decide +kernel) hRR ⟨(Nat.le_of_ble_eq_true rfl), (Nat.le_of_ble_eq_true rfl)⟩) rfl rfl (Nat.le_of_ble_eq_true rfl) hRR ⟨(by show _ + 0 ≤ 1300; omega), (by show _ + 0 ≤ 18000; omega)⟩ dL_lay_837 (fun r837 p837 hp837 => ?_)
    obtain ⟨hp837, rfl⟩ := hp837
    show kv dd g _ _ 840 [(4, .int (nI k)), (3, .int w), (0, .ref xa), (1, .ref ma), (2, .ref sc)] [.int (nI p837), .int (nI k)] (jk c wr x) (jd c wr x) (jE c wr x)
    refine kn_icmp_ge (x := k) (y := p837) (tgt := 898) X (by omega) (by omega) dL_lay_840 (by decide) (fun hc840 => ?_) (fun hc840 => absurd hc840 (by omega))
    exact kv_lv [1, 2, 3, 4] rfl (K _ _ c x w (by omega) (by omega) hw (wb_m hwb (by omega)))
  | succ n ih =>
    intro k hk a b c x w hw hwb ha hb
    refine kv_iload X 0 dL_lay_832 rfl ?_
    refine kv_aload_n X 4 dL_lay_834 rfl rfl ?_
    refine kv_iconst (v := 5) X dL_lay_835 (by decide) ?_
    refine kv_iconst (v := 5) X dL_lay_836 (by decide) ?_
    refine kv_calliSs (As := [.ref sc, .int (nI (5)), .int (nI (5))]) [.int (nI k)] X hs (c_L_pick l dd (jk c wr x, jd c wr x, jE c wr x) hLL (5) (5) (by omega) (by omega)) hl0 (kCS_of X 3 (goodIn_ext gL_lay_L_pick) rfl rfl rfl (by decide +kernel) hRR ⟨(Nat.le_of_ble_eq_true rfl), (Nat.le_of_ble_eq_true rfl)⟩) rfl rfl (Nat.le_of_ble_eq_true rfl) hRR ⟨(by show _ + 0 ≤ 1300; omega), (by show _ + 0 ≤ 18000; omega)⟩ dL_lay_837 (fun r837 p837 hp837 => ?_)
    obtain ⟨hp837, rfl⟩ := hp837
    show kv dd g _ _ 840 [(4, .int (nI k)), (3, .int w), (0, .ref xa), (1, .ref ma), (2, .ref sc)] [.int (nI p837), .int (nI k)] (jk c wr x) (jd c wr x) (jE c wr x)
    refine kn_icmp_ge (x := k) (y := p837) (tgt := 898) X (by omega) (by omega) dL_lay_840 (by decide) (fun hc840 => ?_) (fun hc840 => ?_)
    ·
      exact kv_lv [1, 2, 3, 4] rfl (K _ _ c x w (by omega) (by omega) hw (wb_m hwb (by omega)))
    ·
      obtain ⟨hbR, hbT, nL, nV, nM, fm, hq, hx0, rfl, hxm, f0, f1, f2, f3, f4⟩ := hw
      have lb := LQ_b hq
      refine kv_aload_n X 3 dL_lay_843 rfl rfl ?_
      refine kv_iconst (v := 4) X dL_lay_844 (by decide) ?_
      refine kv_dup2_11 X dL_lay_845 rfl rfl ?_
      refine kv_iaload X (κ := 2000) (n := 50) (j := 4) (f := fm) (j_x0.1.mpr hx0) (j_x0.2.2.trans hxm) (by omega) (by decide) dL_lay_846 ?_
      refine kv_topi (nI nM) f4 ?_
      refine kv_aload_n X 2 dL_lay_847 rfl rfl ?_
      refine kv_bipush (v := 15) X dL_lay_848 (by decide) ?_
      refine kv_aload_n X 4 dL_lay_850 rfl rfl ?_
      refine kv_sipush (v := 360) X dL_lay_851 (by decide) ?_
      refine kv_iload X 0 dL_lay_854 rfl ?_
      refine kv_iadd X dL_lay_856 ?_
      refine kv_topi (nI (360 + k)) (nI_add 360 k) ?_
      refine kv_bipush (v := 51) X dL_lay_857 (by decide) ?_
      refine kv_calliSs (As := [.ref sc, .int (nI (360 + k)), .int (nI (51))]) [.int 15, .ref xa, .int (nI nM), .int 4, .ref (x.2.1 0)] X hs (c_L_pick l dd (jk c wr x, jd c wr x, jE c wr x) hLL (360 + k) (51) (by omega) (by omega)) hl0 (kCS_of X 3 (goodIn_ext gL_lay_L_pick) rfl rfl rfl (by decide +kernel) hRR ⟨(Nat.le_of_ble_eq_true rfl), (Nat.le_of_ble_eq_true rfl)⟩) rfl rfl (Nat.le_of_ble_eq_true rfl) hRR ⟨(by show _ + 0 ≤ 1300; omega), (by show _ + 0 ≤ 18000; omega)⟩ dL_lay_859 (fun r859 p859 hp859 => ?_)
      obtain ⟨hp859, rfl⟩ := hp859
      show kv dd g _ _ 862 [(4, .int (nI k)), (3, .int w), (0, .ref xa), (1, .ref (x.2.1 0)), (2, .ref sc)] [.int (nI p859), .int 15, .ref xa, .int (nI nM), .int 4, .ref (x.2.1 0)] (jk c wr x) (jd c wr x) (jE c wr x)
      refine kv_aload_n X 4 dL_lay_862 rfl rfl ?_
      refine kv_sipush (v := 370) X dL_lay_863 (by decide) ?_
      refine kv_iload X 0 dL_lay_866 rfl ?_
      refine kv_iadd X dL_lay_868 ?_
      refine kv_topi (nI (370 + k)) (nI_add 370 k) ?_
      refine kv_bipush (v := 16) X dL_lay_869 (by decide) ?_
      refine kv_iload X 0 dL_lay_871 rfl ?_
      refine kv_ishl X dL_lay_873 ?_
      obtain ⟨pw1, pw2, pw3⟩ := p16 ⟨k, by omega⟩
      replace pw1 : (16 : Int32) <<< (nI k &&& 31) = nI (16 * 2 ^ k) := pw1
      replace pw2 : 0 < 2 ^ k := pw2
      replace pw3 : 2 ^ k ≤ 16 := pw3
      refine kv_topi (nI (16 * 2 ^ k)) pw1 ?_
      refine kv_calliSs (As := [.ref sc, .int (nI (370 + k)), .int (nI (16 * 2 ^ k))]) [.int (nI p859), .int 15, .ref xa, .int (nI nM), .int 4, .ref (x.2.1 0)] X hs (c_L_pick l dd (jk c wr x, jd c wr x, jE c wr x) hLL (370 + k) (16 * 2 ^ k) (by omega) (by omega)) hl0 (kCS_of X 3 (goodIn_ext gL_lay_L_pick) rfl rfl rfl (by decide +kernel) hRR ⟨(Nat.le_of_ble_eq_true rfl), (Nat.le_of_ble_eq_true rfl)⟩) rfl rfl (Nat.le_of_ble_eq_true rfl) hRR ⟨(by show _ + 0 ≤ 1300; omega), (by show _ + 0 ≤ 18000; omega)⟩ dL_lay_874 (fun r874 p874 hp874 => ?_)
      obtain ⟨hp874, rfl⟩ := hp874
      show kv dd g _ _ 877 [(4, .int (nI k)), (3, .int w), (0, .ref xa), (1, .ref (x.2.1 0)), (2, .ref sc)] [.int (nI p874), .int (nI p859), .int 15, .ref xa, .int (nI nM), .int 4, .ref (x.2.1 0)] (jk c wr x) (jd c wr x) (jE c wr x)
      refine kv_iconst (v := 0) X dL_lay_877 (by decide) ?_
      refine kv_iconst (v := 0) X dL_lay_878 (by decide) ?_
      refine kv_calliSW (As := [.ref xa, .int 15, .int (nI p859), .int (nI p874), .int 0, .int 0]) [.int (nI nM), .int 4, .ref (x.2.1 0)] X (d_addMarkup l wr x hq (nI p859) (nI p874) 0 0) hl0 (kCSW_of X 6 (show GoodIn (wsL_lay ++ kHp) (va_wsS RL 158 yL_deed (wsL_deed ++ kHp)) from gK (pre := [Cond.methodLink RL 158 yL_deed, Cond.static yL_deed, Cond.initialized yL_deed.cls]) gL_lay_L_deed) rfl rfl rfl (by decide +kernel) hRR ⟨(Nat.le_of_ble_eq_true rfl), (Nat.le_of_ble_eq_true rfl)⟩) rfl rfl (Nat.le_of_ble_eq_true rfl) hRR ⟨(by show _ + 12 ≤ 1300; omega), (by show _ + 170 ≤ 18000; omega)⟩ dL_lay_879 (fun r879 c879 h879 => ?_)
      rcases h879 with ⟨hr879, hq879⟩ | ⟨hr879, hq879⟩
      ·
        show kv dd g _ _ 882 [(4, .int (nI k)), (3, .int w), (0, .ref xa), (1, .ref (x.2.1 0)), (2, .ref sc)] [.int r879, .int (nI nM), .int 4, .ref (x.2.1 0)] (jk c879 wr x) (jd c879 wr x) (jE c879 wr x)
        refine kv_if_lt (tgt := 889) X dL_lay_882 (by decide) (fun hc882 => False.elim (Int32.not_lt.mpr hr879 hc882)) (fun hc882 => ?_)
        refine kv_iconst (v := 1) X dL_lay_885 (by decide) ?_
        refine kv_goto (tgt := 890) X dL_lay_886 (by decide) ?_
        refine kv_iadd X dL_lay_890 ?_
        refine kv_topi (nI (nM + 1)) (nI_add nM 1) ?_
        refine kv_iastore X (κ := 2000) (n := 50) (j := 4) (f := fm) (x := (nI (nM + 1))) (j_x0.1.mpr hx0) (j_x0.2.2.trans hxm) (by omega) (by decide) dL_lay_891 ?_
        refine kv_E (E2 := jE c879 wr (xI dd x (va_up fm (4) (nI (nM + 1))))) (fun j _ => xI_E j) ?_
        show kv dd g _ _ 892 [(4, .int (nI k)), (3, .int w), (0, .ref xa), (1, .ref (x.2.1 0)), (2, .ref sc)] [] (jk c879 wr (xI dd x (va_up fm (4) (nI (nM + 1))))) (jd c879 wr (xI dd x (va_up fm (4) (nI (nM + 1))))) (jE c879 wr (xI dd x (va_up fm (4) (nI (nM + 1)))))
        refine kv_iinc (j := 0) (v := (nI (k + 1))) (lv2 := [(4, .int (nI (k + 1))), (3, .int w), (0, .ref xa), (1, .ref (x.2.1 0)), (2, .ref sc)]) X dL_lay_892 rfl (nI_add k 1) (by rw [hnL]; decide) rfl ?_
        refine kv_goto (tgt := 832) X dL_lay_895 (by decide) ?_
        exact kv_lv [0, 1, 2, 3, 4] rfl (ih (k + 1) (by omega) _ _ _ _ (w) ⟨by omega, by omega, _, _, _, (va_up fm (4) (nI (nM + 1))), (LQ_f hq879 (fun i hi => va_up_ne _ _ (by omega))), hx0, rfl, va_up_self x.2.2 0 (kI dd 50 (va_up fm (4) (nI (nM + 1)))), ((va_up_ne _ _ (by omega)).trans f0), ((va_up_ne _ _ (by omega)).trans f1), ((va_up_ne _ _ (by omega)).trans f2), ((va_up_ne _ _ (by omega)).trans f3), (va_up_self _ _ _)⟩ (wb_m hwb (by omega)) (by omega) (by omega))
      ·
        show kv dd g _ _ 882 [(4, .int (nI k)), (3, .int w), (0, .ref xa), (1, .ref (x.2.1 0)), (2, .ref sc)] [.int r879, .int (nI nM), .int 4, .ref (x.2.1 0)] (jk c879 wr x) (jd c879 wr x) (jE c879 wr x)
        refine kv_if_lt (tgt := 889) X dL_lay_882 (by decide) (fun hc882 => ?_) (fun hc882 => False.elim (hc882 hr879))
        refine kv_iconst (v := 0) X dL_lay_889 (by decide) ?_
        refine kv_iadd X dL_lay_890 ?_
        refine kv_topi (nI (nM + 0)) (nI_add nM 0) ?_
        refine kv_iastore X (κ := 2000) (n := 50) (j := 4) (f := fm) (x := (nI (nM + 0))) (j_x0.1.mpr hx0) (j_x0.2.2.trans hxm) (by omega) (by decide) dL_lay_891 ?_
        refine kv_E (E2 := jE c879 wr (xI dd x (va_up fm (4) (nI (nM + 0))))) (fun j _ => xI_E j) ?_
        show kv dd g _ _ 892 [(4, .int (nI k)), (3, .int w), (0, .ref xa), (1, .ref (x.2.1 0)), (2, .ref sc)] [] (jk c879 wr (xI dd x (va_up fm (4) (nI (nM + 0))))) (jd c879 wr (xI dd x (va_up fm (4) (nI (nM + 0))))) (jE c879 wr (xI dd x (va_up fm (4) (nI (nM + 0)))))
        refine kv_iinc (j := 0) (v := (nI (k + 1))) (lv2 := [(4, .int (nI (k + 1))), (3, .int w), (0, .ref xa), (1, .ref (x.2.1 0)), (2, .ref sc)]) X dL_lay_892 rfl (nI_add k 1) (by rw [hnL]; decide) rfl ?_
        refine kv_goto (tgt := 832) X dL_lay_895 (by decide) ?_
        exact kv_lv [0, 1, 2, 3, 4] rfl (ih (k + 1) (by omega) _ _ _ _ (w) ⟨by omega, by omega, _, _, _, (va_up fm (4) (nI (nM + 0))), (LQ_f hq879 (fun i hi => va_up_ne _ _ (by omega))), hx0, rfl, va_up_self x.2.2 0 (kI dd 50 (va_up fm (4) (nI (nM + 0)))), ((va_up_ne _ _ (by omega)).trans f0), ((va_up_ne _ _ (by omega)).trans f1), ((va_up_ne _ _ (by omega)).trans f2), ((va_up_ne _ _ (by omega)).trans f3), (va_up_self _ _ _)⟩ (wb_m hwb (by omega)) (by omega) (by omega))

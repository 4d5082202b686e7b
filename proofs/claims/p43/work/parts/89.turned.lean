/-! P43: VARIANTS TURNED -/
theorem bit0 : ∀ j : Fin 4, ¬ ((0 : Int32) >>> (nI j.1 &&& 31) &&& 1 = 1) ∧ ((0 : Int32) ^^^ ((1 : Int32) <<< (nI j.1 &&& 31))) >>> (nI j.1 &&& 31) &&& 1 = 1 ∧ ((0 : Int32) ^^^ ((1 : Int32) <<< (nI j.1 &&& 31))) ^^^ ((1 : Int32) <<< (nI j.1 &&& 31)) = 0 := by decide +kernel
theorem Mo_Mo {M : mS} {a b : Int32} : Mo (Mo M a) b = Mo M b := by
  show (va_up (va_up M.1 24 a) 24 b, M.2) = (va_up M.1 24 b, M.2)
  have e : va_up (va_up M.1 24 a) 24 b = va_up M.1 24 b := by
    funext k
    by_cases c : k = 24
    · rw [c, va_up_self, va_up_self]
    · rw [va_up_ne _ _ c, va_up_ne _ _ c, va_up_ne _ _ c]
  rw [e]
theorem Mo_id {M : mS} : Mo M (M.1 24) = M := by
  show (va_up M.1 24 (M.1 24), M.2) = M
  have e : va_up M.1 24 (M.1 24) = M.1 := by
    funext k
    by_cases c : k = 24
    · rw [c, va_up_self]
    · rw [va_up_ne _ _ c]
  rw [e]
theorem q_dif {n j : Nat} {P : Nat → Prop} {F : Nat → Int64} {x a b : Int64} (h : (∃ i, (i < n ∧ nI j = nI i) ∧ P i ∧ x = F i) ∨ ((¬ ∃ i, i < n ∧ nI j = nI i) ∧ x = a) ∨ ((∃ i, (i < n ∧ nI j = nI i) ∧ ¬ P i) ∧ x = b)) (hj : j < n) (hn : n ≤ 100) : (P j ∧ x = F j) ∨ (¬ P j ∧ x = b) := by
  rcases h with ⟨i, ⟨h1, h2⟩, h3, h4⟩ | ⟨h1, -⟩ | ⟨⟨i, ⟨h1, h2⟩, h3⟩, h4⟩
  · obtain rfl := nI_inj (by omega) (by omega) h2
    exact Or.inl ⟨h3, h4⟩
  · exact absurd ⟨j, hj, rfl⟩ h1
  · obtain rfl := nI_inj (by omega) (by omega) h2
    exact Or.inr ⟨h3, h4⟩
theorem mTb_o {M : mS} {nR nC nt nL nW nV nM : Nat} {cn nm mn me li rl : Nat → Nat} {f : Nat → Int32} {o : Int32} (h : mTb M nR nC nt nL nW nV nM cn nm mn me li rl f) : mTb (Mo M o) nR nC nt nL nW nV nM cn nm mn me li rl f := h
set_option maxRecDepth 100000 in
set_option maxHeartbeats 4000000 in
theorem c_L_isTurned (l : Launch) {dd : kDD} {c : kT} (wr wx : kT) {M : mS} {nR nC nt nL nW nV nM : Nat} {cn nm mn me li rl : Nat → Nat} {xa : Nat} (hL : LPo dd c M nR nC nt nL nW nV nM cn nm mn me li rl xa) (h0 : M.1 24 = 0) {fm : Nat → Int32} (hx : 0 ∈ wx.1 ∧ wx.2.2 0 = kI dd 50 fm) (hm : mTb M nR nC nt nL nW nV nM cn nm mn me li rl fm) (j : Nat) (hj : j < nV) : kCi l yL_isTurned (wsL_isTurned ++ kHp) ({ frames := 19, cells := 180, slots := 1300, locals := 540 } : Room) 180 1300 dd [.ref xa, .ref (wx.2.1 0), .int (nI j), .int 0] (jk c wr wx, jd c wr wx, jE c wr wx) (kQi (S := kT) (fun r z => r = 1 ∧ LPo dd z M nR nC nt nL nW nV nM cn nm mn me li rl xa) (fun z => jk z wr wx) (fun z => jd z wr wx) (fun z => jE z wr wx)) := by
  have hI := hL.1
  have hXp := hL.2.1
  have bb := rI_b hI
  obtain ⟨hbz, hbo, hbb⟩ := bit0 ⟨j, by omega⟩
  have hbit : ¬ (M.1 24) >>> (nI j &&& 31) &&& 1 = 1 := by rw [h0]; exact hbz
  have hbit1 : ((M.1 24) ^^^ ((1 : Int32) <<< (nI j &&& 31))) >>> (nI j &&& 31) &&& 1 = 1 := by rw [h0]; exact hbo
  have hb2 : ((M.1 24) ^^^ ((1 : Int32) <<< (nI j &&& 31))) ^^^ ((1 : Int32) <<< (nI j &&& 31)) = M.1 24 := by rw [h0]; exact hbb
  refine kMeti (ws' := _) (cc := cL_isTurned) (maxL := 10) (rt := .boolean) (by decide) rfl (Nat.le_of_ble_eq_true rfl) (fun g X hr hnL hRR hl0 hkn => ?_)
  show kv dd g 0 0 0 [(0, .ref xa), (1, .ref (wx.2.1 0)), (2, .int (nI j)), (3, .int 0)] [] (jk c wr wx) (jd c wr wx) (jE c wr wx)
  refine kv_aload_n X 0 dL_isTurned_0 rfl rfl ?_
  refine kv_calllV (As := []) [] (ci := 13) (κ := 0) (r1 := (TX10, 3)) X (b_total l wr wx hL) hl0 (kCV_of X 0 (goodIn_ext gL_isTurned_X10_total) rfl rfl rfl (by decide +kernel) hRR ⟨(Nat.le_of_ble_eq_true rfl), (Nat.le_of_ble_eq_true rfl)⟩) (LP_obj hL).1 (LP_obj hL).2 rfl (by rw [LP_ref hL]; rfl) rfl (Nat.le_of_ble_eq_true rfl) hRR ⟨(by show _ + 0 ≤ 180; omega), (by show _ + 0 ≤ 1300; omega)⟩ dL_isTurned_1 (fun r1 c1 h1 => ?_)
  obtain ⟨hL1, hv1⟩ := h1
  show kv dd g _ _ 4 [(0, .ref xa), (1, .ref (wx.2.1 0)), (2, .int (nI j)), (3, .int 0)] [.long r1] (jk c1 wr wx) (jd c1 wr wx) (jE c1 wr wx)
  subst hv1
  refine kv_lstore (lv2 := [(4, .long (wvT M nR nC nt nL nW nV nM cn nm mn me li rl (M.1 24))), (0, .ref xa), (1, .ref (wx.2.1 0)), (2, .int (nI j)), (3, .int 0)]) X dL_isTurned_4 (by rw [hnL]; decide) rfl ?_
  refine kv_aload_n X 1 dL_isTurned_6 rfl rfl ?_
  refine kv_iconst (v := 5) X dL_isTurned_7 (by decide) ?_
  refine kv_iload_n X 3 dL_isTurned_8 rfl rfl ?_
  refine kv_iconst (v := 0) X dL_isTurned_9 (by decide) ?_
  refine kv_calllSW (As := [.ref xa, .int 5, .int (nI j), .int 0]) [] X (a_difference l wr wx hL1 (nI j) 0) hl0 (kCSW_of X 4 (show GoodIn (wsL_isTurned ++ kHp) (va_wsS RL 169 yL_ask (wsL_ask ++ kHp)) from gK (pre := [Cond.methodLink RL 169 yL_ask, Cond.static yL_ask, Cond.initialized yL_ask.cls]) gL_isTurned_L_ask) rfl rfl rfl (by decide +kernel) hRR ⟨(Nat.le_of_ble_eq_true rfl), (Nat.le_of_ble_eq_true rfl)⟩) rfl rfl (Nat.le_of_ble_eq_true rfl) hRR ⟨(by show _ + 2 ≤ 180; omega), (by show _ + 12 ≤ 1300; omega)⟩ dL_isTurned_10 (fun r10 c10 h10 => ?_)
  obtain ⟨hL10, hv10⟩ := h10
  show kv dd g _ _ 13 [(4, .long (wvT M nR nC nt nL nW nV nM cn nm mn me li rl (M.1 24))), (0, .ref xa), (1, .ref (wx.2.1 0)), (2, .int (nI j)), (3, .int 0)] [.long r10] (jk c10 wr wx) (jd c10 wr wx) (jE c10 wr wx)
  rcases q_dif hv10 hj (by omega) with ⟨hfit, rfl⟩ | ⟨hno, rfl⟩
  ·
    refine kv_lstore (lv2 := [(6, .long ((wvT M nR nC nt nL nW nV nM cn nm mn me li rl ((M.1 24) ^^^ ((1 : Int32) <<< (nI j &&& 31)))) - (wvT M nR nC nt nL nW nV nM cn nm mn me li rl (M.1 24)))), (4, .long (wvT M nR nC nt nL nW nV nM cn nm mn me li rl (M.1 24))), (0, .ref xa), (1, .ref (wx.2.1 0)), (2, .int (nI j)), (3, .int 0)]) X dL_isTurned_13 (by rw [hnL]; decide) rfl ?_
    refine kv_aload_n X 2 dL_isTurned_15 rfl rfl ?_
    refine kv_bipush (v := 14) X dL_isTurned_16 (by decide) ?_
    refine kv_iload_n X 4 dL_isTurned_18 rfl rfl ?_
    refine kv_iconst (v := 1) X dL_isTurned_19 (by decide) ?_
    refine kv_iload_n X 5 dL_isTurned_20 rfl rfl ?_
    refine kv_isub X dL_isTurned_21 ?_
    refine kv_topi 1 (by decide) ?_
    refine kv_iconst (v := 0) X dL_isTurned_22 (by decide) ?_
    refine kv_iconst (v := 0) X dL_isTurned_23 (by decide) ?_
    refine kv_calliSW (As := [.ref xa, .int 14, .int (nI j), .int 1, .int 0, .int 0]) [] X (d_turn l wr wx hL10 j hj 1 0 0 (by decide)) hl0 (kCSW_of X 6 (show GoodIn (wsL_isTurned ++ kHp) (va_wsS RL 158 yL_deed (wsL_deed ++ kHp)) from gK (pre := [Cond.methodLink RL 158 yL_deed, Cond.static yL_deed, Cond.initialized yL_deed.cls]) gL_isTurned_L_deed) rfl rfl rfl (by decide +kernel) hRR ⟨(Nat.le_of_ble_eq_true rfl), (Nat.le_of_ble_eq_true rfl)⟩) rfl rfl (Nat.le_of_ble_eq_true rfl) hRR ⟨(by show _ + 12 ≤ 180; omega), (by show _ + 170 ≤ 1300; omega)⟩ dL_isTurned_24 (fun r24 c24 h24 => ?_)
    obtain ⟨b24, hb240, hb241, hz24⟩ := h24
    have eb24 : b24 = 0 := by rcases hb240 with q | q; exact q; exact absurd (hb241.mp q) hbit
    subst eb24
    obtain ⟨rfl, hL24⟩ : r24 = 0 ∧ LPo dd c24 (Mo M ((M.1 24) ^^^ ((1 : Int32) <<< (nI j &&& 31)))) nR nC nt nL nW nV nM cn nm mn me li rl xa := by
      rcases hz24 with ⟨q, -⟩ | ⟨-, -, q1, q2⟩ | ⟨-, q, -⟩
      · exact absurd q (by decide)
      · exact ⟨q1, q2⟩
      · exact absurd hfit q
    show kv dd g _ _ 27 [(6, .long ((wvT M nR nC nt nL nW nV nM cn nm mn me li rl ((M.1 24) ^^^ ((1 : Int32) <<< (nI j &&& 31)))) - (wvT M nR nC nt nL nW nV nM cn nm mn me li rl (M.1 24)))), (4, .long (wvT M nR nC nt nL nW nV nM cn nm mn me li rl (M.1 24))), (0, .ref xa), (1, .ref (wx.2.1 0)), (2, .int (nI j)), (3, .int 0)] [.int 0] (jk c24 wr wx) (jd c24 wr wx) (jE c24 wr wx)
    refine kv_istore (lv2 := [(8, .int 0), (6, .long ((wvT M nR nC nt nL nW nV nM cn nm mn me li rl ((M.1 24) ^^^ ((1 : Int32) <<< (nI j &&& 31)))) - (wvT M nR nC nt nL nW nV nM cn nm mn me li rl (M.1 24)))), (4, .long (wvT M nR nC nt nL nW nV nM cn nm mn me li rl (M.1 24))), (0, .ref xa), (1, .ref (wx.2.1 0)), (2, .int (nI j)), (3, .int 0)]) X dL_isTurned_27 (by rw [hnL]; decide) rfl ?_
    refine kv_iload X 0 dL_isTurned_29 rfl ?_
    refine kv_sipush (v := (-2004)) X dL_isTurned_31 (by decide) ?_
    refine kv_icmp_ne (tgt := 76) X dL_isTurned_34 (by decide) (fun hc34 => ?_) (fun hc => absurd hc (by decide))
    refine kv_iload X 0 dL_isTurned_76 rfl ?_
    refine kv_iload_n X 6 dL_isTurned_78 rfl rfl ?_
    refine kv_icmp_ne (tgt := 107) X dL_isTurned_79 (by decide) (fun hc => absurd hc (by decide)) (fun hc79 => ?_)
    refine kv_aload_n X 3 dL_isTurned_82 rfl rfl ?_
    refine kv_calllV (As := []) [] (ci := 13) (κ := 0) (r1 := (TX10, 3)) X (b_total l wr wx hL24) hl0 (kCV_of X 0 (goodIn_ext gL_isTurned_X10_total) rfl rfl rfl (by decide +kernel) hRR ⟨(Nat.le_of_ble_eq_true rfl), (Nat.le_of_ble_eq_true rfl)⟩) (LP_obj hL24).1 (LP_obj hL24).2 rfl (by rw [LP_ref hL24]; rfl) rfl (Nat.le_of_ble_eq_true rfl) hRR ⟨(by show _ + 0 ≤ 180; omega), (by show _ + 0 ≤ 1300; omega)⟩ dL_isTurned_83 (fun r83 c83 h83 => ?_)
    obtain ⟨hL83, hv83⟩ := h83
    show kv dd g _ _ 86 [(8, .int 0), (6, .long ((wvT M nR nC nt nL nW nV nM cn nm mn me li rl ((M.1 24) ^^^ ((1 : Int32) <<< (nI j &&& 31)))) - (wvT M nR nC nt nL nW nV nM cn nm mn me li rl (M.1 24)))), (4, .long (wvT M nR nC nt nL nW nV nM cn nm mn me li rl (M.1 24))), (0, .ref xa), (1, .ref (wx.2.1 0)), (2, .int (nI j)), (3, .int 0)] [.long r83] (jk c83 wr wx) (jd c83 wr wx) (jE c83 wr wx)
    subst hv83
    refine kv_topl (wvT M nR nC nt nL nW nV nM cn nm mn me li rl ((M.1 24) ^^^ ((1 : Int32) <<< (nI j &&& 31)))) rfl ?_
    refine kv_lload X 2 dL_isTurned_86 rfl ?_
    refine kv_lsub X dL_isTurned_88 ?_
    refine kv_lload X 1 dL_isTurned_89 rfl ?_
    refine kv_lcmp X dL_isTurned_91 ?_
    refine kv_if_ne (tgt := 107) X dL_isTurned_92 (by decide) (fun hc92 => False.elim (hc92 lcs)) (fun hc92 => ?_)
    refine kv_aload_n X 3 dL_isTurned_95 rfl rfl ?_
    refine kv_aload_n X 4 dL_isTurned_96 rfl rfl ?_
    refine kv_calliS (As := [.ref xa, .ref (wx.2.1 0)]) [] X (c_L_areSums l wr wx hL83 hx (mTb_o hm)) hl0 (kCS_of X 2 (show GoodIn (wsL_isTurned ++ kHp) (va_wsS RL 204 yL_areSums (wsL_areSums ++ kHp)) from gK (pre := [Cond.methodLink RL 204 yL_areSums, Cond.static yL_areSums, Cond.initialized yL_areSums.cls]) gL_isTurned_L_areSums) rfl rfl rfl (by decide +kernel) hRR ⟨(Nat.le_of_ble_eq_true rfl), (Nat.le_of_ble_eq_true rfl)⟩) rfl rfl (Nat.le_of_ble_eq_true rfl) hRR ⟨(by show _ + 150 ≤ 180; omega), (by show _ + 900 ≤ 1300; omega)⟩ dL_isTurned_97 (fun r97 c97 h97 => ?_)
    obtain ⟨rfl, hL97⟩ := h97
    show kv dd g _ _ 100 [(8, .int 0), (6, .long ((wvT M nR nC nt nL nW nV nM cn nm mn me li rl ((M.1 24) ^^^ ((1 : Int32) <<< (nI j &&& 31)))) - (wvT M nR nC nt nL nW nV nM cn nm mn me li rl (M.1 24)))), (4, .long (wvT M nR nC nt nL nW nV nM cn nm mn me li rl (M.1 24))), (0, .ref xa), (1, .ref (wx.2.1 0)), (2, .int (nI j)), (3, .int 0)] [.int 1] (jk c97 wr wx) (jd c97 wr wx) (jE c97 wr wx)
    refine kv_if_eq (tgt := 107) X dL_isTurned_100 (by decide) (fun hc => absurd hc (by decide)) (fun hc100 => ?_)
    refine kv_iconst (v := 1) X dL_isTurned_103 (by decide) ?_
    refine kv_goto (tgt := 108) X dL_isTurned_104 (by decide) ?_
    refine kv_istore (lv2 := [(9, .int 1), (8, .int 0), (6, .long ((wvT M nR nC nt nL nW nV nM cn nm mn me li rl ((M.1 24) ^^^ ((1 : Int32) <<< (nI j &&& 31)))) - (wvT M nR nC nt nL nW nV nM cn nm mn me li rl (M.1 24)))), (4, .long (wvT M nR nC nt nL nW nV nM cn nm mn me li rl (M.1 24))), (0, .ref xa), (1, .ref (wx.2.1 0)), (2, .int (nI j)), (3, .int 0)]) X dL_isTurned_108 (by rw [hnL]; decide) rfl ?_
    refine kv_iload X 0 dL_isTurned_110 rfl ?_
    refine kv_if_eq (tgt := 159) X dL_isTurned_112 (by decide) (fun hc => absurd hc (by decide)) (fun hc112 => ?_)
    refine kv_aload_n X 4 dL_isTurned_115 rfl rfl ?_
    refine kv_iconst (v := 5) X dL_isTurned_116 (by decide) ?_
    refine kv_iload_n X 6 dL_isTurned_117 rfl rfl ?_
    refine kv_iconst (v := 0) X dL_isTurned_118 (by decide) ?_
    refine kv_calllSW (As := [.ref xa, .int 5, .int (nI j), .int 0]) [] X (a_difference l wr wx hL97 (nI j) 0) hl0 (kCSW_of X 4 (show GoodIn (wsL_isTurned ++ kHp) (va_wsS RL 169 yL_ask (wsL_ask ++ kHp)) from gK (pre := [Cond.methodLink RL 169 yL_ask, Cond.static yL_ask, Cond.initialized yL_ask.cls]) gL_isTurned_L_ask) rfl rfl rfl (by decide +kernel) hRR ⟨(Nat.le_of_ble_eq_true rfl), (Nat.le_of_ble_eq_true rfl)⟩) rfl rfl (Nat.le_of_ble_eq_true rfl) hRR ⟨(by show _ + 2 ≤ 180; omega), (by show _ + 12 ≤ 1300; omega)⟩ dL_isTurned_119 (fun r119 c119 h119 => ?_)
    obtain ⟨hL119, hv119⟩ := h119
    show kv dd g _ _ 122 [(9, .int 1), (8, .int 0), (6, .long ((wvT M nR nC nt nL nW nV nM cn nm mn me li rl ((M.1 24) ^^^ ((1 : Int32) <<< (nI j &&& 31)))) - (wvT M nR nC nt nL nW nV nM cn nm mn me li rl (M.1 24)))), (4, .long (wvT M nR nC nt nL nW nV nM cn nm mn me li rl (M.1 24))), (0, .ref xa), (1, .ref (wx.2.1 0)), (2, .int (nI j)), (3, .int 0)] [.long r119] (jk c119 wr wx) (jd c119 wr wx) (jE c119 wr wx)
    have hback : r119 = (wvT M nR nC nt nL nW nV nM cn nm mn me li rl (M.1 24)) - (wvT M nR nC nt nL nW nV nM cn nm mn me li rl ((M.1 24) ^^^ ((1 : Int32) <<< (nI j &&& 31)))) := by
      rcases q_dif hv119 hj (by omega) with ⟨-, q⟩ | ⟨q, -⟩
      · rw [q]; show (wvT M nR nC nt nL nW nV nM cn nm mn me li rl (((M.1 24) ^^^ ((1 : Int32) <<< (nI j &&& 31))) ^^^ ((1 : Int32) <<< (nI j &&& 31)))) - (wvT M nR nC nt nL nW nV nM cn nm mn me li rl ((M.1 24) ^^^ ((1 : Int32) <<< (nI j &&& 31)))) = _; rw [hb2]
      · refine absurd ?_ q; show kFx (M.2.1 13) cn (fun k => cmI (M.2.1 22) nV (((M.1 24) ^^^ ((1 : Int32) <<< (nI j &&& 31))) ^^^ ((1 : Int32) <<< (nI j &&& 31))) (nm k)) (nJ (M.2.1 13) cn (fun k => cmI (M.2.1 22) nV (((M.1 24) ^^^ ((1 : Int32) <<< (nI j &&& 31))) ^^^ ((1 : Int32) <<< (nI j &&& 31))) (nm k)) 2) nt; rw [hb2]; exact rI_fx hI
    subst hback
    refine kv_lload X 2 dL_isTurned_122 rfl ?_
    refine kv_lneg X dL_isTurned_124 ?_
    refine kv_lcmp X dL_isTurned_125 ?_
    refine kv_if_ne (tgt := 159) X dL_isTurned_126 (by decide) (fun hc126 => False.elim (hc126 (lce (by rw [Int64.neg_sub])))) (fun hc126 => ?_)
    refine kv_aload_n X 4 dL_isTurned_129 rfl rfl ?_
    refine kv_bipush (v := 14) X dL_isTurned_130 (by decide) ?_
    refine kv_iload_n X 6 dL_isTurned_132 rfl rfl ?_
    refine kv_iload_n X 7 dL_isTurned_133 rfl rfl ?_
    refine kv_iconst (v := 0) X dL_isTurned_134 (by decide) ?_
    refine kv_iconst (v := 0) X dL_isTurned_135 (by decide) ?_
    refine kv_calliSW (As := [.ref xa, .int 14, .int (nI j), .int 0, .int 0, .int 0]) [] X (d_turn l wr wx hL119 j hj 0 0 0 (by decide)) hl0 (kCSW_of X 6 (show GoodIn (wsL_isTurned ++ kHp) (va_wsS RL 158 yL_deed (wsL_deed ++ kHp)) from gK (pre := [Cond.methodLink RL 158 yL_deed, Cond.static yL_deed, Cond.initialized yL_deed.cls]) gL_isTurned_L_deed) rfl rfl rfl (by decide +kernel) hRR ⟨(Nat.le_of_ble_eq_true rfl), (Nat.le_of_ble_eq_true rfl)⟩) rfl rfl (Nat.le_of_ble_eq_true rfl) hRR ⟨(by show _ + 12 ≤ 180; omega), (by show _ + 170 ≤ 1300; omega)⟩ dL_isTurned_136 (fun r136 c136 h136 => ?_)
    obtain ⟨b136, hb1360, hb1361, hz136⟩ := h136
    have eb136 : b136 = 1 := hb1361.mpr hbit1
    subst eb136
    obtain ⟨rfl, hL136⟩ : r136 = 1 ∧ LPo dd c136 M nR nC nt nL nW nV nM cn nm mn me li rl xa := by
      rcases hz136 with ⟨q, -⟩ | ⟨-, -, q1, q2⟩ | ⟨-, q, -⟩
      · exact absurd q (by decide)
      · refine ⟨q1, ?_⟩
        have q3 : LPo dd c136 (Mo (Mo M ((M.1 24) ^^^ ((1 : Int32) <<< (nI j &&& 31)))) (((M.1 24) ^^^ ((1 : Int32) <<< (nI j &&& 31))) ^^^ ((1 : Int32) <<< (nI j &&& 31)))) nR nC nt nL nW nV nM cn nm mn me li rl xa := q2
        rw [hb2, Mo_Mo, Mo_id] at q3; exact q3
      · refine absurd ?_ q; show kFx (M.2.1 13) cn (fun k => cmI (M.2.1 22) nV (((M.1 24) ^^^ ((1 : Int32) <<< (nI j &&& 31))) ^^^ ((1 : Int32) <<< (nI j &&& 31))) (nm k)) (nJ (M.2.1 13) cn (fun k => cmI (M.2.1 22) nV (((M.1 24) ^^^ ((1 : Int32) <<< (nI j &&& 31))) ^^^ ((1 : Int32) <<< (nI j &&& 31))) (nm k)) 2) nt; rw [hb2]; exact rI_fx hI
    show kv dd g _ _ 139 [(9, .int 1), (8, .int 0), (6, .long ((wvT M nR nC nt nL nW nV nM cn nm mn me li rl ((M.1 24) ^^^ ((1 : Int32) <<< (nI j &&& 31)))) - (wvT M nR nC nt nL nW nV nM cn nm mn me li rl (M.1 24)))), (4, .long (wvT M nR nC nt nL nW nV nM cn nm mn me li rl (M.1 24))), (0, .ref xa), (1, .ref (wx.2.1 0)), (2, .int (nI j)), (3, .int 0)] [.int 1] (jk c136 wr wx) (jd c136 wr wx) (jE c136 wr wx)
    refine kv_iconst (v := 1) X dL_isTurned_139 (by decide) ?_
    refine kv_iload_n X 7 dL_isTurned_140 rfl rfl ?_
    refine kv_isub X dL_isTurned_141 ?_
    refine kv_topi 1 (by decide) ?_
    refine kv_icmp_ne (tgt := 159) X dL_isTurned_142 (by decide) (fun hc => absurd hc (by decide)) (fun hc142 => ?_)
    refine kv_aload_n X 4 dL_isTurned_145 rfl rfl ?_
    refine kv_calllV (As := []) [] (ci := 13) (κ := 0) (r1 := (TX10, 3)) X (b_total l wr wx hL136) hl0 (kCV_of X 0 (goodIn_ext gL_isTurned_X10_total) rfl rfl rfl (by decide +kernel) hRR ⟨(Nat.le_of_ble_eq_true rfl), (Nat.le_of_ble_eq_true rfl)⟩) (LP_obj hL136).1 (LP_obj hL136).2 rfl (by rw [LP_ref hL136]; rfl) rfl (Nat.le_of_ble_eq_true rfl) hRR ⟨(by show _ + 0 ≤ 180; omega), (by show _ + 0 ≤ 1300; omega)⟩ dL_isTurned_146 (fun r146 c146 h146 => ?_)
    obtain ⟨hL146, hv146⟩ := h146
    show kv dd g _ _ 149 [(9, .int 1), (8, .int 0), (6, .long ((wvT M nR nC nt nL nW nV nM cn nm mn me li rl ((M.1 24) ^^^ ((1 : Int32) <<< (nI j &&& 31)))) - (wvT M nR nC nt nL nW nV nM cn nm mn me li rl (M.1 24)))), (4, .long (wvT M nR nC nt nL nW nV nM cn nm mn me li rl (M.1 24))), (0, .ref xa), (1, .ref (wx.2.1 0)), (2, .int (nI j)), (3, .int 0)] [.long r146] (jk c146 wr wx) (jd c146 wr wx) (jE c146 wr wx)
    subst hv146
    refine kv_lload X 3 dL_isTurned_149 rfl ?_
    refine kv_lcmp X dL_isTurned_151 ?_
    refine kv_if_ne (tgt := 159) X dL_isTurned_152 (by decide) (fun hc152 => False.elim (hc152 lcs)) (fun hc152 => ?_)
    refine kv_iconst (v := 1) X dL_isTurned_155 (by decide) ?_
    refine kv_goto (tgt := 160) X dL_isTurned_156 (by decide) ?_
    exact kv_zreturn X hr rfl (by omega) (by omega) ⟨c146, ⟨rfl, hL146⟩, rfl⟩ dL_isTurned_160
  ·
    refine kv_lstore (lv2 := [(6, .long (-2004)), (4, .long (wvT M nR nC nt nL nW nV nM cn nm mn me li rl (M.1 24))), (0, .ref xa), (1, .ref (wx.2.1 0)), (2, .int (nI j)), (3, .int 0)]) X dL_isTurned_13 (by rw [hnL]; decide) rfl ?_
    refine kv_aload_n X 2 dL_isTurned_15 rfl rfl ?_
    refine kv_bipush (v := 14) X dL_isTurned_16 (by decide) ?_
    refine kv_iload_n X 4 dL_isTurned_18 rfl rfl ?_
    refine kv_iconst (v := 1) X dL_isTurned_19 (by decide) ?_
    refine kv_iload_n X 5 dL_isTurned_20 rfl rfl ?_
    refine kv_isub X dL_isTurned_21 ?_
    refine kv_topi 1 (by decide) ?_
    refine kv_iconst (v := 0) X dL_isTurned_22 (by decide) ?_
    refine kv_iconst (v := 0) X dL_isTurned_23 (by decide) ?_
    refine kv_calliSW (As := [.ref xa, .int 14, .int (nI j), .int 1, .int 0, .int 0]) [] X (d_turn l wr wx hL10 j hj 1 0 0 (by decide)) hl0 (kCSW_of X 6 (show GoodIn (wsL_isTurned ++ kHp) (va_wsS RL 158 yL_deed (wsL_deed ++ kHp)) from gK (pre := [Cond.methodLink RL 158 yL_deed, Cond.static yL_deed, Cond.initialized yL_deed.cls]) gL_isTurned_L_deed) rfl rfl rfl (by decide +kernel) hRR ⟨(Nat.le_of_ble_eq_true rfl), (Nat.le_of_ble_eq_true rfl)⟩) rfl rfl (Nat.le_of_ble_eq_true rfl) hRR ⟨(by show _ + 12 ≤ 180; omega), (by show _ + 170 ≤ 1300; omega)⟩ dL_isTurned_24 (fun r24 c24 h24 => ?_)
    obtain ⟨b24, hb240, hb241, hz24⟩ := h24
    have eb24 : b24 = 0 := by rcases hb240 with q | q; exact q; exact absurd (hb241.mp q) hbit
    subst eb24
    obtain ⟨rfl, hL24⟩ : r24 = -2004 ∧ LPo dd c24 M nR nC nt nL nW nV nM cn nm mn me li rl xa := by
      rcases hz24 with ⟨q, -⟩ | ⟨-, q, -⟩ | ⟨-, -, q1, q2⟩
      · exact absurd q (by decide)
      · exact absurd q hno
      · exact ⟨q1, q2⟩
    show kv dd g _ _ 27 [(6, .long (-2004)), (4, .long (wvT M nR nC nt nL nW nV nM cn nm mn me li rl (M.1 24))), (0, .ref xa), (1, .ref (wx.2.1 0)), (2, .int (nI j)), (3, .int 0)] [.int (-2004)] (jk c24 wr wx) (jd c24 wr wx) (jE c24 wr wx)
    refine kv_istore (lv2 := [(8, .int (-2004)), (6, .long (-2004)), (4, .long (wvT M nR nC nt nL nW nV nM cn nm mn me li rl (M.1 24))), (0, .ref xa), (1, .ref (wx.2.1 0)), (2, .int (nI j)), (3, .int 0)]) X dL_isTurned_27 (by rw [hnL]; decide) rfl ?_
    refine kv_iload X 0 dL_isTurned_29 rfl ?_
    refine kv_sipush (v := (-2004)) X dL_isTurned_31 (by decide) ?_
    refine kv_icmp_ne (tgt := 76) X dL_isTurned_34 (by decide) (fun hc => absurd hc (by decide)) (fun hc34 => ?_)
    refine kv_lload X 1 dL_isTurned_37 rfl ?_
    refine kv_ldc2 (v := (-2004)) X dL_isTurned_39 (List.mem_append_left _ (List.mem_cons_of_mem _ (List.mem_append_left _ (List.mem_append_left _ (List.mem_append_left _ (List.mem_append_left _ (List.mem_append_left _ (List.mem_append_left _ (List.mem_append_left _ (List.mem_append_left _ (List.mem_append_left _ (List.mem_append_left _ (List.mem_append_left _ (List.mem_append_left _ (List.mem_append_left _ (List.mem_append_left _ (List.mem_append_left _ (List.mem_append_left _ (List.mem_append_left _ (List.mem_append_left _ (List.mem_append_left _ (List.mem_append_left _ (List.mem_append_left _ (List.mem_of_getElem? (i := 0) rfl)))))))))))))))))))))))) ?_
    refine kv_lcmp X dL_isTurned_42 ?_
    refine kv_if_ne (tgt := 74) X dL_isTurned_43 (by decide) (fun hc43 => False.elim (hc43 lcs)) (fun hc43 => ?_)
    refine kv_aload_n X 3 dL_isTurned_46 rfl rfl ?_
    refine kv_calllV (As := []) [] (ci := 13) (κ := 0) (r1 := (TX10, 3)) X (b_total l wr wx hL24) hl0 (kCV_of X 0 (goodIn_ext gL_isTurned_X10_total) rfl rfl rfl (by decide +kernel) hRR ⟨(Nat.le_of_ble_eq_true rfl), (Nat.le_of_ble_eq_true rfl)⟩) (LP_obj hL24).1 (LP_obj hL24).2 rfl (by rw [LP_ref hL24]; rfl) rfl (Nat.le_of_ble_eq_true rfl) hRR ⟨(by show _ + 0 ≤ 180; omega), (by show _ + 0 ≤ 1300; omega)⟩ dL_isTurned_47 (fun r47 c47 h47 => ?_)
    obtain ⟨hL47, hv47⟩ := h47
    show kv dd g _ _ 50 [(8, .int (-2004)), (6, .long (-2004)), (4, .long (wvT M nR nC nt nL nW nV nM cn nm mn me li rl (M.1 24))), (0, .ref xa), (1, .ref (wx.2.1 0)), (2, .int (nI j)), (3, .int 0)] [.long r47] (jk c47 wr wx) (jd c47 wr wx) (jE c47 wr wx)
    subst hv47
    refine kv_lload X 2 dL_isTurned_50 rfl ?_
    refine kv_lcmp X dL_isTurned_52 ?_
    refine kv_if_ne (tgt := 74) X dL_isTurned_53 (by decide) (fun hc53 => False.elim (hc53 lcs)) (fun hc53 => ?_)
    refine kv_aload_n X 3 dL_isTurned_56 rfl rfl ?_
    refine kv_bipush (v := 14) X dL_isTurned_57 (by decide) ?_
    refine kv_iload_n X 5 dL_isTurned_59 rfl rfl ?_
    refine kv_iload_n X 6 dL_isTurned_60 rfl rfl ?_
    refine kv_iconst (v := 0) X dL_isTurned_61 (by decide) ?_
    refine kv_iconst (v := 0) X dL_isTurned_62 (by decide) ?_
    refine kv_calliSW (As := [.ref xa, .int 14, .int (nI j), .int 0, .int 0, .int 0]) [] X (d_turn l wr wx hL47 j hj 0 0 0 (by decide)) hl0 (kCSW_of X 6 (show GoodIn (wsL_isTurned ++ kHp) (va_wsS RL 158 yL_deed (wsL_deed ++ kHp)) from gK (pre := [Cond.methodLink RL 158 yL_deed, Cond.static yL_deed, Cond.initialized yL_deed.cls]) gL_isTurned_L_deed) rfl rfl rfl (by decide +kernel) hRR ⟨(Nat.le_of_ble_eq_true rfl), (Nat.le_of_ble_eq_true rfl)⟩) rfl rfl (Nat.le_of_ble_eq_true rfl) hRR ⟨(by show _ + 12 ≤ 180; omega), (by show _ + 170 ≤ 1300; omega)⟩ dL_isTurned_63 (fun r63 c63 h63 => ?_)
    obtain ⟨b63, hb630, hb631, hz63⟩ := h63
    have eb63 : b63 = 0 := by rcases hb630 with q | q; exact q; exact absurd (hb631.mp q) hbit
    subst eb63
    obtain ⟨rfl, hL63⟩ : r63 = 0 ∧ LPo dd c63 M nR nC nt nL nW nV nM cn nm mn me li rl xa := by
      rcases hz63 with ⟨-, q1, q2⟩ | ⟨q, -⟩ | ⟨q, -⟩
      · exact ⟨q1, q2⟩
      · exact absurd rfl q
      · exact absurd rfl q
    show kv dd g _ _ 66 [(8, .int (-2004)), (6, .long (-2004)), (4, .long (wvT M nR nC nt nL nW nV nM cn nm mn me li rl (M.1 24))), (0, .ref xa), (1, .ref (wx.2.1 0)), (2, .int (nI j)), (3, .int 0)] [.int 0] (jk c63 wr wx) (jd c63 wr wx) (jE c63 wr wx)
    refine kv_iload_n X 6 dL_isTurned_66 rfl rfl ?_
    refine kv_icmp_ne (tgt := 74) X dL_isTurned_67 (by decide) (fun hc => absurd hc (by decide)) (fun hc67 => ?_)
    refine kv_iconst (v := 1) X dL_isTurned_70 (by decide) ?_
    refine kv_goto (tgt := 75) X dL_isTurned_71 (by decide) ?_
    exact kv_zreturn X hr rfl (by omega) (by omega) ⟨c63, ⟨rfl, hL63⟩, rfl⟩ dL_isTurned_75

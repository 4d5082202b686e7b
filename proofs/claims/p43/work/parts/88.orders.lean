/-! P43: ORDERS -/
theorem lc_lt {x y : Int64} (h : x < y) : lg_cmp x y < 0 := Int32.not_le.mp (lclt h)
theorem ct_T {C : Nat → Int64} {i : Nat} {x : Int64} (e : x = C i) (h : ¬ lg_cmp x 0 ≤ 0) : nI (ct (po C) i + 1) = nI (ct (po C) (i + 1)) := by
  rw [ct, if_pos (po_iff.mpr ?_)]
  rcases Int64.lt_or_le 0 (C i) with q | q
  · exact Int64.lt_iff_toInt_lt.mp q
  · rw [e] at h
    refine absurd ?_ h
    unfold lg_cmp
    rw [if_neg (fun w => Int64.not_lt.mpr q w)]
    split <;> decide
theorem ct_F {C : Nat → Int64} {i : Nat} {x : Int64} (e : x = C i) (h : lg_cmp x 0 ≤ 0) : nI (ct (po C) i + 0) = nI (ct (po C) (i + 1)) := by
  rw [ct, if_neg (fun w => lc_le h (by rw [e]; exact Int64.lt_iff_toInt_lt.mpr (po_iff.mp w)))]
theorem ord_next {C : Nat → Int64} {i j n : Nat} (hj : j < n) (h : ct (pr C i) n < ct (pr C j) n) : C j < C i ∨ (C j = C i ∧ i < j) := by
  rcases Int.lt_trichotomy (C j).toInt (C i).toInt with q | q | q
  · exact Or.inl (Int64.lt_iff_toInt_lt.mpr q)
  · rcases Nat.lt_trichotomy i j with w | w | w
    · exact Or.inr ⟨Int64.toInt_inj.mp q, w⟩
    · subst w; omega
    · have := rk_lt (f := C) (i := j) (j := i) hj (pr_iff.mpr (Or.inr ⟨q, w⟩)); omega
  · have := rk_lt (f := C) (i := j) (j := i) hj (pr_iff.mpr (Or.inl q)); omega
theorem ord_max (x : Int64) (j : Nat) (h : j < 100) : x < 9223372036854775807 ∨ (x = 9223372036854775807 ∧ (-1 : Int32) < nI j) := by
  have h1 := Int64.toInt_le x
  have e1 : Int64.maxValue.toInt = 9223372036854775807 := by decide
  have e2 : (9223372036854775807 : Int64).toInt = 9223372036854775807 := by decide
  rcases Int.lt_or_le x.toInt 9223372036854775807 with q | q
  · exact Or.inl (Int64.lt_iff_toInt_lt.mpr (by rw [e2]; exact q))
  · refine Or.inr ⟨Int64.toInt_inj.mp (by omega), ?_⟩
    rw [Int32.lt_iff_toInt_lt, nI_toInt (by omega)]
    show (-1 : Int) < _; omega
theorem nI_ltt {i j : Nat} (hi : i < 1000) (hj : j < 1000) (h : i < j) : nI i < nI j := by
  rw [Int32.lt_iff_toInt_lt, nI_toInt (by omega), nI_toInt (by omega)]; omega
/-- what is dearest at a rank that is there -/
theorem de_in {C : Nat → Int64} {n k : Nat} {x : Int64} (hn : n ≤ 12) (hk : k < ct (po C) n) (h : (∃ j, (j < n ∧ 0 < C j ∧ mah C j n = nI k) ∧ x = (nI j).toInt64) ∨ ((∀ j, j < n → ¬ (0 < C j ∧ mah C j n = nI k)) ∧ x = -2005)) : ∃ j, j < n ∧ 0 < C j ∧ ct (pr C j) n = k ∧ x = (nI j).toInt64 := by
  have hkn : k < n := Nat.lt_of_lt_of_le hk (ct_n n)
  rcases h with ⟨j, ⟨h1, h2, h3⟩, h4⟩ | ⟨h1, -⟩
  · rw [mah_ct] at h3
    have := ct_n (P := pr C j) n
    exact ⟨j, h1, h2, nI_inj (by omega) (by omega) h3, h4⟩
  · obtain ⟨r, r1, r2, r3⟩ := rk_ex n k hk
    exact absurd ⟨Int64.lt_iff_toInt_lt.mpr r2, by rw [mah_ct, r3]⟩ (h1 r r1)
theorem de_out {C : Nat → Int64} {n : Nat} {x : Int64} (hn : n ≤ 12) (h : (∃ j, (j < n ∧ 0 < C j ∧ mah C j n = nI (ct (po C) n)) ∧ x = (nI j).toInt64) ∨ ((∀ j, j < n → ¬ (0 < C j ∧ mah C j n = nI (ct (po C) n))) ∧ x = -2005)) : x = -2005 := by
  rcases h with ⟨j, ⟨h1, h2, h3⟩, h4⟩ | ⟨-, h1⟩
  · rw [mah_ct] at h3
    have q1 := rk_dn (f := C) h1 (Int64.lt_iff_toInt_lt.mp h2)
    have q2 := ct_n (P := po C) n
    have := nI_inj (by omega) (by omega) h3
    omega
  · exact h1
theorem de_neg {C : Nat → Int64} {n : Nat} {x : Int64} (hn : n ≤ 12) (h : (∃ j, (j < n ∧ 0 < C j ∧ mah C j n = -1) ∧ x = (nI j).toInt64) ∨ ((∀ j, j < n → ¬ (0 < C j ∧ mah C j n = -1)) ∧ x = -2005)) : x = -2005 := by
  rcases h with ⟨j, ⟨h1, h2, h3⟩, h4⟩ | ⟨-, h1⟩
  · rw [mah_ct] at h3
    have q2 := ct_n (P := pr C j) n
    have e := congrArg Int32.toInt h3
    rw [nI_toInt (by omega)] at e
    exact absurd e (by show ¬ _ = (-1 : Int); omega)
  · exact h1
theorem d_lo {d : Nat} (h1 : 1 ≤ d) (h3 : d ≤ 3) : 1 ≤ (nI d).toInt64 ∧ (nI d).toInt64 ≤ 3 := by
  have : d = 1 ∨ d = 2 ∨ d = 3 := by omega
  rcases this with rfl | rfl | rfl <;> decide
theorem lc_gt {x y : Int64} (h : x ≤ y) : ¬ 0 < lg_cmp x y := by
  unfold lg_cmp
  rw [if_neg (fun w => Int64.not_lt.mpr h w)]
  split <;> decide
set_option maxRecDepth 100000 in
set_option maxHeartbeats 4000000 in
theorem c_L_areOrders (l : Launch) {dd : kDD} {c : kT} (wr wx : kT) {M : mS} {nR nC nt nL nW nV nM : Nat} {cn nm mn me li rl : Nat → Nat} {xa : Nat} (hL : LPo dd c M nR nC nt nL nW nV nM cn nm mn me li rl xa) {fm : Nat → Int32} (hx : 0 ∈ wx.1 ∧ wx.2.2 0 = kI dd 50 fm) (hm : mTb M nR nC nt nL nW nV nM cn nm mn me li rl fm) : kCi l yL_areOrders (wsL_areOrders ++ kHp) ({ frames := 17, cells := 450, slots := 2700, locals := 460 } : Room) 450 2700 dd [.ref xa, .ref (wx.2.1 0)] (jk c wr wx, jd c wr wx, jE c wr wx) (kQi (S := kT) (fun r z => r = 1 ∧ LPo dd z M nR nC nt nL nW nV nM cn nm mn me li rl xa) (fun z => jk z wr wx) (fun z => jd z wr wx) (fun z => jE z wr wx)) := by
  have hI := hL.1
  have hXp := hL.2.1
  have bb := rI_b hI
  have dn := ct_n (P := po (wvC M nR nC nt nL nW nV nM cn nm mn me li rl (M.1 24))) nR
  refine kMeti (ws' := _) (cc := cL_areOrders) (maxL := 11) (rt := .boolean) (by decide) rfl (Nat.le_of_ble_eq_true rfl) (fun g X hr hnL hRR hl0 hkn => ?_)
  show kv dd g 0 0 0 [(0, .ref xa), (1, .ref (wx.2.1 0))] [] (jk c wr wx) (jd c wr wx) (jE c wr wx)
  refine kv_iconst (v := 1) X dL_areOrders_0 (by decide) ?_
  refine kv_istore_n (lv2 := [(2, .int 1), (0, .ref xa), (1, .ref (wx.2.1 0))]) X dL_areOrders_1 rfl (by rw [hnL]; decide) rfl ?_
  refine kv_iconst (v := 0) X dL_areOrders_2 (by decide) ?_
  refine kv_topi (nI (ct (po (wvC M nR nC nt nL nW nV nM cn nm mn me li rl (M.1 24))) 0)) rfl ?_
  refine kv_istore_n (lv2 := [(3, .int (nI (ct (po (wvC M nR nC nt nL nW nV nM cn nm mn me li rl (M.1 24))) 0))), (2, .int 1), (0, .ref xa), (1, .ref (wx.2.1 0))]) X dL_areOrders_3 rfl (by rw [hnL]; decide) rfl ?_
  refine kv_iconst (v := 0) X dL_areOrders_4 (by decide) ?_
  refine kv_istore (lv2 := [(4, .int 0), (3, .int (nI (ct (po (wvC M nR nC nt nL nW nV nM cn nm mn me li rl (M.1 24))) 0))), (2, .int 1), (0, .ref xa), (1, .ref (wx.2.1 0))]) X dL_areOrders_5 (by rw [hnL]; decide) rfl ?_
  have L7 : ∀ (n7 i7 : Nat), i7 + n7 = nR → ∀ (a7 b7 : Nat) (cc7 : kT) (_ : LPo dd cc7 M nR nC nt nL nW nV nM cn nm mn me li rl xa) , a7 + 2 * n7 ≤ 24 → b7 + 12 * n7 ≤ 144 → kv dd g a7 b7 7 [(4, .int (nI i7)), (3, .int (nI (ct (po (wvC M nR nC nt nL nW nV nM cn nm mn me li rl (M.1 24))) i7))), (2, .int 1), (0, .ref xa), (1, .ref (wx.2.1 0))] [] (jk cc7 wr wx) (jd cc7 wr wx) (jE cc7 wr wx) := by
    intro n7
    induction n7 with
    | zero =>
      intro i7 hin7 a7 b7 cc7  hL7  ha7 hb7
      have en7 : nR = i7 := by omega
      subst en7
      refine kv_iload X 0 dL_areOrders_7 rfl ?_
      refine kv_aload_n X 4 dL_areOrders_9 rfl rfl ?_
      refine kv_iconst (v := 0) X dL_areOrders_10 (by decide) ?_
      refine kv_iaload X (κ := 2000) (n := 50) (j := 0) (f := fm) (j_x0.1.mpr hx.1) (j_x0.2.2.trans hx.2) (by omega) (by decide) dL_areOrders_11 ?_
      refine kv_topi (nI nR) hm.1 ?_
      refine kn_icmp_ge (x := nR) (y := nR) (tgt := 54) X (by omega) (by omega) dL_areOrders_12 (by decide) (fun hc12 => ?_) (fun hc12 => absurd hc12 (by omega))
      refine kv_ldc2 (v := 9223372036854775807) X dL_areOrders_54 (List.mem_append_left _ (List.mem_cons_of_mem _ (List.mem_append_left _ (List.mem_append_left _ (List.mem_append_left _ (List.mem_append_left _ (List.mem_append_left _ (List.mem_append_left _ (List.mem_append_left _ (List.mem_append_left _ (List.mem_append_left _ (List.mem_append_left _ (List.mem_append_left _ (List.mem_append_left _ (List.mem_append_left _ (List.mem_append_left _ (List.mem_append_left _ (List.mem_append_left _ (List.mem_append_left _ (List.mem_append_left _ (List.mem_append_left _ (List.mem_of_getElem? (i := 0) rfl)))))))))))))))))))))) ?_
      refine kv_lstore (lv2 := [(4, .long 9223372036854775807), (3, .int (nI (ct (po (wvC M nR nC nt nL nW nV nM cn nm mn me li rl (M.1 24))) nR))), (2, .int 1), (0, .ref xa), (1, .ref (wx.2.1 0))]) X dL_areOrders_57 (by rw [hnL]; decide) rfl ?_
      refine kv_iconst (v := (-1)) X dL_areOrders_59 (by decide) ?_
      refine kv_istore (lv2 := [(6, .int (-1)), (4, .long 9223372036854775807), (3, .int (nI (ct (po (wvC M nR nC nt nL nW nV nM cn nm mn me li rl (M.1 24))) nR))), (2, .int 1), (0, .ref xa), (1, .ref (wx.2.1 0))]) X dL_areOrders_60 (by rw [hnL]; decide) rfl ?_
      refine kv_iconst (v := 0) X dL_areOrders_62 (by decide) ?_
      refine kv_istore (lv2 := [(7, .int 0), (6, .int (-1)), (4, .long 9223372036854775807), (3, .int (nI (ct (po (wvC M nR nC nt nL nW nV nM cn nm mn me li rl (M.1 24))) nR))), (2, .int 1), (0, .ref xa), (1, .ref (wx.2.1 0))]) X dL_areOrders_63 (by rw [hnL]; decide) rfl ?_
      have L65 : ∀ (n65 i65 : Nat), i65 + n65 = (ct (po (wvC M nR nC nt nL nW nV nM cn nm mn me li rl (M.1 24))) nR) → ∀ (a65 b65 : Nat) (cc65 : kT) (B65 : Int64) (la65 : Int32) (_ : LPo dd cc65 M nR nC nt nL nW nV nM cn nm mn me li rl xa) (hB65 : (i65 = 0 ∧ B65 = 9223372036854775807 ∧ la65 = -1) ∨ (∃ j, j < nR ∧ ct (pr (wvC M nR nC nt nL nW nV nM cn nm mn me li rl (M.1 24)) j) nR + 1 = i65 ∧ B65 = (wvC M nR nC nt nL nW nV nM cn nm mn me li rl (M.1 24)) j ∧ la65 = nI j)), a65 + 4 * n65 ≤ 72 → b65 + 24 * n65 ≤ 432 → kv dd g a65 b65 65 [(7, .int (nI i65)), (4, .long B65), (6, .int la65), (3, .int (nI (ct (po (wvC M nR nC nt nL nW nV nM cn nm mn me li rl (M.1 24))) nR))), (2, .int 1), (0, .ref xa), (1, .ref (wx.2.1 0))] [] (jk cc65 wr wx) (jd cc65 wr wx) (jE cc65 wr wx) := by
        intro n65
        induction n65 with
        | zero =>
          intro i65 hin65 a65 b65 cc65 B65 la65 hL65 hB65 ha65 hb65
          have en65 : (ct (po (wvC M nR nC nt nL nW nV nM cn nm mn me li rl (M.1 24))) nR) = i65 := by omega
          subst en65
          refine kv_iload X 0 dL_areOrders_65 rfl ?_
          refine kv_iload_n X 3 dL_areOrders_67 rfl rfl ?_
          refine kn_icmp_ge (x := (ct (po (wvC M nR nC nt nL nW nV nM cn nm mn me li rl (M.1 24))) nR)) (y := ct (po (wvC M nR nC nt nL nW nV nM cn nm mn me li rl (M.1 24))) nR) (tgt := 159) X (by omega) (by omega) dL_areOrders_68 (by decide) (fun hc68 => ?_) (fun hc68 => absurd hc68 (by omega))
          refine kv_iload_n X 4 dL_areOrders_159 rfl rfl ?_
          refine kv_if_eq (tgt := 197) X dL_areOrders_160 (by decide) (fun hc => absurd hc (by decide)) (fun hc160 => ?_)
          refine kv_aload_n X 5 dL_areOrders_163 rfl rfl ?_
          refine kv_bipush (v := 13) X dL_areOrders_164 (by decide) ?_
          refine kv_iload_n X 3 dL_areOrders_166 rfl rfl ?_
          refine kv_iconst (v := 0) X dL_areOrders_167 (by decide) ?_
          refine kv_calllSW (As := [.ref xa, .int 13, .int (nI (ct (po (wvC M nR nC nt nL nW nV nM cn nm mn me li rl (M.1 24))) nR)), .int 0]) [] X (a_dearest l wr wx hL65 (nI (ct (po (wvC M nR nC nt nL nW nV nM cn nm mn me li rl (M.1 24))) nR)) 0) hl0 (kCSW_of X 4 (show GoodIn (wsL_areOrders ++ kHp) (va_wsS RL 169 yL_ask (wsL_ask ++ kHp)) from gK (pre := [Cond.methodLink RL 169 yL_ask, Cond.static yL_ask, Cond.initialized yL_ask.cls]) gL_areOrders_L_ask) rfl rfl rfl (by decide +kernel) hRR ⟨(Nat.le_of_ble_eq_true rfl), (Nat.le_of_ble_eq_true rfl)⟩) rfl rfl (Nat.le_of_ble_eq_true rfl) hRR ⟨(by show _ + 2 ≤ 450; omega), (by show _ + 12 ≤ 2700; omega)⟩ dL_areOrders_168 (fun r168 c168 h168 => ?_)
          obtain ⟨hL168, hv168⟩ := h168
          show kv dd g _ _ 171 [(7, .int (nI (ct (po (wvC M nR nC nt nL nW nV nM cn nm mn me li rl (M.1 24))) nR))), (4, .long B65), (6, .int la65), (3, .int (nI (ct (po (wvC M nR nC nt nL nW nV nM cn nm mn me li rl (M.1 24))) nR))), (2, .int 1), (0, .ref xa), (1, .ref (wx.2.1 0))] [.long r168] (jk c168 wr wx) (jd c168 wr wx) (jE c168 wr wx)
          obtain rfl := de_out bb.1 hv168
          refine kv_ldc2 (v := (-2005)) X dL_areOrders_171 (List.mem_append_left _ (List.mem_cons_of_mem _ (List.mem_append_left _ (List.mem_append_left _ (List.mem_append_left _ (List.mem_append_left _ (List.mem_append_left _ (List.mem_append_left _ (List.mem_append_left _ (List.mem_append_left _ (List.mem_append_left _ (List.mem_append_left _ (List.mem_append_left _ (List.mem_append_left _ (List.mem_append_left _ (List.mem_append_left _ (List.mem_append_left _ (List.mem_append_left _ (List.mem_append_left _ (List.mem_append_left _ (List.mem_append_left _ (List.mem_of_getElem? (i := 1) rfl)))))))))))))))))))))) ?_
          refine kv_lcmp X dL_areOrders_174 ?_
          refine kv_if_ne (tgt := 197) X dL_areOrders_175 (by decide) (fun hc175 => False.elim (hc175 lcs)) (fun hc175 => ?_)
          refine kv_aload_n X 5 dL_areOrders_178 rfl rfl ?_
          refine kv_bipush (v := 13) X dL_areOrders_179 (by decide) ?_
          refine kv_iconst (v := (-1)) X dL_areOrders_181 (by decide) ?_
          refine kv_iconst (v := 0) X dL_areOrders_182 (by decide) ?_
          refine kv_calllSW (As := [.ref xa, .int 13, .int (-1), .int 0]) [] X (a_dearest l wr wx hL168 (-1) 0) hl0 (kCSW_of X 4 (show GoodIn (wsL_areOrders ++ kHp) (va_wsS RL 169 yL_ask (wsL_ask ++ kHp)) from gK (pre := [Cond.methodLink RL 169 yL_ask, Cond.static yL_ask, Cond.initialized yL_ask.cls]) gL_areOrders_L_ask) rfl rfl rfl (by decide +kernel) hRR ⟨(Nat.le_of_ble_eq_true rfl), (Nat.le_of_ble_eq_true rfl)⟩) rfl rfl (Nat.le_of_ble_eq_true rfl) hRR ⟨(by show _ + 2 ≤ 450; omega), (by show _ + 12 ≤ 2700; omega)⟩ dL_areOrders_183 (fun r183 c183 h183 => ?_)
          obtain ⟨hL183, hv183⟩ := h183
          show kv dd g _ _ 186 [(7, .int (nI (ct (po (wvC M nR nC nt nL nW nV nM cn nm mn me li rl (M.1 24))) nR))), (4, .long B65), (6, .int la65), (3, .int (nI (ct (po (wvC M nR nC nt nL nW nV nM cn nm mn me li rl (M.1 24))) nR))), (2, .int 1), (0, .ref xa), (1, .ref (wx.2.1 0))] [.long r183] (jk c183 wr wx) (jd c183 wr wx) (jE c183 wr wx)
          obtain rfl := de_neg bb.1 hv183
          refine kv_ldc2 (v := (-2005)) X dL_areOrders_186 (List.mem_append_left _ (List.mem_cons_of_mem _ (List.mem_append_left _ (List.mem_append_left _ (List.mem_append_left _ (List.mem_append_left _ (List.mem_append_left _ (List.mem_append_left _ (List.mem_append_left _ (List.mem_append_left _ (List.mem_append_left _ (List.mem_append_left _ (List.mem_append_left _ (List.mem_append_left _ (List.mem_append_left _ (List.mem_append_left _ (List.mem_append_left _ (List.mem_append_left _ (List.mem_append_left _ (List.mem_append_left _ (List.mem_append_left _ (List.mem_of_getElem? (i := 1) rfl)))))))))))))))))))))) ?_
          refine kv_lcmp X dL_areOrders_189 ?_
          refine kv_if_ne (tgt := 197) X dL_areOrders_190 (by decide) (fun hc190 => False.elim (hc190 lcs)) (fun hc190 => ?_)
          refine kv_iconst (v := 1) X dL_areOrders_193 (by decide) ?_
          refine kv_goto (tgt := 198) X dL_areOrders_194 (by decide) ?_
          refine kv_istore_n (lv2 := [(2, .int 1), (7, .int (nI (ct (po (wvC M nR nC nt nL nW nV nM cn nm mn me li rl (M.1 24))) nR))), (4, .long B65), (6, .int la65), (3, .int (nI (ct (po (wvC M nR nC nt nL nW nV nM cn nm mn me li rl (M.1 24))) nR))), (0, .ref xa), (1, .ref (wx.2.1 0))]) X dL_areOrders_198 rfl (by rw [hnL]; decide) rfl ?_
          refine kv_iconst (v := 0) X dL_areOrders_199 (by decide) ?_
          refine kv_istore (lv2 := [(7, .int 0), (2, .int 1), (4, .long B65), (6, .int la65), (3, .int (nI (ct (po (wvC M nR nC nt nL nW nV nM cn nm mn me li rl (M.1 24))) nR))), (0, .ref xa), (1, .ref (wx.2.1 0))]) X dL_areOrders_200 (by rw [hnL]; decide) rfl ?_
          have L202 : ∀ (n202 i202 : Nat), i202 + n202 = nt → ∀ (a202 b202 : Nat) (cc202 : kT) (_ : LPo dd cc202 M nR nC nt nL nW nV nM cn nm mn me li rl xa) , a202 + 30 * n202 ≤ 436 → b202 + 180 * n202 ≤ 2616 → kv dd g a202 b202 202 [(7, .int (nI i202)), (2, .int 1), (0, .ref xa), (1, .ref (wx.2.1 0))] [] (jk cc202 wr wx) (jd cc202 wr wx) (jE cc202 wr wx) := by
            intro n202
            induction n202 with
            | zero =>
              intro i202 hin202 a202 b202 cc202  hL202  ha202 hb202
              have en202 : nt = i202 := by omega
              subst en202
              refine kv_iload X 0 dL_areOrders_202 rfl ?_
              refine kv_aload_n X 3 dL_areOrders_204 rfl rfl ?_
              refine kv_iconst (v := 1) X dL_areOrders_205 (by decide) ?_
              refine kv_iaload X (κ := 2000) (n := 50) (j := 1) (f := fm) (j_x0.1.mpr hx.1) (j_x0.2.2.trans hx.2) (by omega) (by decide) dL_areOrders_206 ?_
              refine kv_topi (nI nt) hm.2.1 ?_
              refine kn_icmp_ge (x := nt) (y := nt) (tgt := 313) X (by omega) (by omega) dL_areOrders_207 (by decide) (fun hc207 => ?_) (fun hc207 => absurd hc207 (by omega))
              refine kv_iload_n X 1 dL_areOrders_313 rfl rfl ?_
              refine kv_if_eq (tgt := 353) X dL_areOrders_314 (by decide) (fun hc => absurd hc (by decide)) (fun hc314 => ?_)
              refine kv_aload_n X 2 dL_areOrders_317 rfl rfl ?_
              refine kv_iconst (v := 0) X dL_areOrders_318 (by decide) ?_
              refine kv_aload_n X 3 dL_areOrders_319 rfl rfl ?_
              refine kv_iconst (v := 1) X dL_areOrders_320 (by decide) ?_
              refine kv_iaload X (κ := 2000) (n := 50) (j := 1) (f := fm) (j_x0.1.mpr hx.1) (j_x0.2.2.trans hx.2) (by omega) (by decide) dL_areOrders_321 ?_
              refine kv_topi (nI nt) hm.2.1 ?_
              refine kv_iconst (v := 0) X dL_areOrders_322 (by decide) ?_
              refine kv_calllSW (As := [.ref xa, .int 0, .int (nI nt), .int 0]) [] X (a_depthOf l wr wx hL202 (nI nt) 0) hl0 (kCSW_of X 4 (show GoodIn (wsL_areOrders ++ kHp) (va_wsS RL 169 yL_ask (wsL_ask ++ kHp)) from gK (pre := [Cond.methodLink RL 169 yL_ask, Cond.static yL_ask, Cond.initialized yL_ask.cls]) gL_areOrders_L_ask) rfl rfl rfl (by decide +kernel) hRR ⟨(Nat.le_of_ble_eq_true rfl), (Nat.le_of_ble_eq_true rfl)⟩) rfl rfl (Nat.le_of_ble_eq_true rfl) hRR ⟨(by show _ + 2 ≤ 450; omega), (by show _ + 12 ≤ 2700; omega)⟩ dL_areOrders_323 (fun r323 c323 h323 => ?_)
              obtain ⟨hL323, hv323⟩ := h323
              show kv dd g _ _ 326 [(7, .int (nI nt)), (2, .int 1), (0, .ref xa), (1, .ref (wx.2.1 0))] [.long r323] (jk c323 wr wx) (jd c323 wr wx) (jE c323 wr wx)
              obtain rfl := q_outd hv323 (by omega)
              refine kv_ldc2 (v := (-2001)) X dL_areOrders_326 (List.mem_append_left _ (List.mem_cons_of_mem _ (List.mem_append_left _ (List.mem_append_left _ (List.mem_append_left _ (List.mem_append_left _ (List.mem_append_left _ (List.mem_append_left _ (List.mem_append_left _ (List.mem_append_left _ (List.mem_append_left _ (List.mem_append_left _ (List.mem_append_left _ (List.mem_append_left _ (List.mem_append_left _ (List.mem_append_left _ (List.mem_append_left _ (List.mem_append_left _ (List.mem_append_left _ (List.mem_append_left _ (List.mem_append_left _ (List.mem_of_getElem? (i := 3) rfl)))))))))))))))))))))) ?_
              refine kv_lcmp X dL_areOrders_329 ?_
              refine kv_if_ne (tgt := 353) X dL_areOrders_330 (by decide) (fun hc330 => False.elim (hc330 lcs)) (fun hc330 => ?_)
              refine kv_aload_n X 2 dL_areOrders_333 rfl rfl ?_
              refine kv_iconst (v := 2) X dL_areOrders_334 (by decide) ?_
              refine kv_iconst (v := 0) X dL_areOrders_335 (by decide) ?_
              refine kv_aload_n X 3 dL_areOrders_336 rfl rfl ?_
              refine kv_iconst (v := 0) X dL_areOrders_337 (by decide) ?_
              refine kv_iaload X (κ := 2000) (n := 50) (j := 0) (f := fm) (j_x0.1.mpr hx.1) (j_x0.2.2.trans hx.2) (by omega) (by decide) dL_areOrders_338 ?_
              refine kv_topi (nI nR) hm.1 ?_
              refine kv_calllSW (As := [.ref xa, .int 2, .int 0, .int (nI nR)]) [] X (a_needed l wr wx hL323 0 (nI nR)) hl0 (kCSW_of X 4 (show GoodIn (wsL_areOrders ++ kHp) (va_wsS RL 169 yL_ask (wsL_ask ++ kHp)) from gK (pre := [Cond.methodLink RL 169 yL_ask, Cond.static yL_ask, Cond.initialized yL_ask.cls]) gL_areOrders_L_ask) rfl rfl rfl (by decide +kernel) hRR ⟨(Nat.le_of_ble_eq_true rfl), (Nat.le_of_ble_eq_true rfl)⟩) rfl rfl (Nat.le_of_ble_eq_true rfl) hRR ⟨(by show _ + 2 ≤ 450; omega), (by show _ + 12 ≤ 2700; omega)⟩ dL_areOrders_339 (fun r339 c339 h339 => ?_)
              obtain ⟨hL339, hv339⟩ := h339
              show kv dd g _ _ 342 [(7, .int (nI nt)), (2, .int 1), (0, .ref xa), (1, .ref (wx.2.1 0))] [.long r339] (jk c339 wr wx) (jd c339 wr wx) (jE c339 wr wx)
              obtain rfl := q_out2 hv339 (by omega)
              refine kv_ldc2 (v := (-2001)) X dL_areOrders_342 (List.mem_append_left _ (List.mem_cons_of_mem _ (List.mem_append_left _ (List.mem_append_left _ (List.mem_append_left _ (List.mem_append_left _ (List.mem_append_left _ (List.mem_append_left _ (List.mem_append_left _ (List.mem_append_left _ (List.mem_append_left _ (List.mem_append_left _ (List.mem_append_left _ (List.mem_append_left _ (List.mem_append_left _ (List.mem_append_left _ (List.mem_append_left _ (List.mem_append_left _ (List.mem_append_left _ (List.mem_append_left _ (List.mem_append_left _ (List.mem_of_getElem? (i := 3) rfl)))))))))))))))))))))) ?_
              refine kv_lcmp X dL_areOrders_345 ?_
              refine kv_if_ne (tgt := 353) X dL_areOrders_346 (by decide) (fun hc346 => False.elim (hc346 lcs)) (fun hc346 => ?_)
              refine kv_iconst (v := 1) X dL_areOrders_349 (by decide) ?_
              refine kv_goto (tgt := 354) X dL_areOrders_350 (by decide) ?_
              exact kv_zreturn X hr rfl (by omega) (by omega) ⟨c339, ⟨rfl, hL339⟩, rfl⟩ dL_areOrders_354
            | succ n202 ih202 =>
              intro i202 hin202 a202 b202 cc202  hL202  ha202 hb202
              refine kv_iload X 0 dL_areOrders_202 rfl ?_
              refine kv_aload_n X 3 dL_areOrders_204 rfl rfl ?_
              refine kv_iconst (v := 1) X dL_areOrders_205 (by decide) ?_
              refine kv_iaload X (κ := 2000) (n := 50) (j := 1) (f := fm) (j_x0.1.mpr hx.1) (j_x0.2.2.trans hx.2) (by omega) (by decide) dL_areOrders_206 ?_
              refine kv_topi (nI nt) hm.2.1 ?_
              refine kn_icmp_ge (x := i202) (y := nt) (tgt := 313) X (by omega) (by omega) dL_areOrders_207 (by decide) (fun hc207 => absurd hc207 (by omega)) (fun hc207 => ?_)
              refine kv_iload_n X 1 dL_areOrders_210 rfl rfl ?_
              refine kv_if_eq (tgt := 313) X dL_areOrders_211 (by decide) (fun hc => absurd hc (by decide)) (fun hc211 => ?_)
              refine kv_lconst (v := 0) X dL_areOrders_214 (by decide) ?_
              refine kv_topl (cou ((wvN M nR nC nt nL nW nV nM cn nm mn me li rl (M.1 24)) i202) (M.2.1 3) 0) rfl ?_
              refine kv_lstore (lv2 := [(8, .long (cou ((wvN M nR nC nt nL nW nV nM cn nm mn me li rl (M.1 24)) i202) (M.2.1 3) 0)), (7, .int (nI i202)), (2, .int 1), (0, .ref xa), (1, .ref (wx.2.1 0))]) X dL_areOrders_215 (by rw [hnL]; decide) rfl ?_
              refine kv_iconst (v := 0) X dL_areOrders_217 (by decide) ?_
              refine kv_istore (lv2 := [(10, .int 0), (8, .long (cou ((wvN M nR nC nt nL nW nV nM cn nm mn me li rl (M.1 24)) i202) (M.2.1 3) 0)), (7, .int (nI i202)), (2, .int 1), (0, .ref xa), (1, .ref (wx.2.1 0))]) X dL_areOrders_218 (by rw [hnL]; decide) rfl ?_
              have L220 : ∀ (n220 i220 : Nat), i220 + n220 = nR → ∀ (a220 b220 : Nat) (cc220 : kT) (_ : LPo dd cc220 M nR nC nt nL nW nV nM cn nm mn me li rl xa) , a220 + 2 * n220 ≤ a202 + 24 → b220 + 12 * n220 ≤ b202 + 144 → kv dd g a220 b220 220 [(10, .int (nI i220)), (8, .long (cou ((wvN M nR nC nt nL nW nV nM cn nm mn me li rl (M.1 24)) i202) (M.2.1 3) i220)), (7, .int (nI i202)), (2, .int 1), (0, .ref xa), (1, .ref (wx.2.1 0))] [] (jk cc220 wr wx) (jd cc220 wr wx) (jE cc220 wr wx) := by
                intro n220
                induction n220 with
                | zero =>
                  intro i220 hin220 a220 b220 cc220  hL220  ha220 hb220
                  have en220 : nR = i220 := by omega
                  subst en220
                  refine kv_iload X 0 dL_areOrders_220 rfl ?_
                  refine kv_aload_n X 5 dL_areOrders_222 rfl rfl ?_
                  refine kv_iconst (v := 0) X dL_areOrders_223 (by decide) ?_
                  refine kv_iaload X (κ := 2000) (n := 50) (j := 0) (f := fm) (j_x0.1.mpr hx.1) (j_x0.2.2.trans hx.2) (by omega) (by decide) dL_areOrders_224 ?_
                  refine kv_topi (nI nR) hm.1 ?_
                  refine kn_icmp_ge (x := nR) (y := nR) (tgt := 259) X (by omega) (by omega) dL_areOrders_225 (by decide) (fun hc225 => ?_) (fun hc225 => absurd hc225 (by omega))
                  refine kv_aload_n X 4 dL_areOrders_259 rfl rfl ?_
                  refine kv_iconst (v := 1) X dL_areOrders_260 (by decide) ?_
                  refine kv_iload X 2 dL_areOrders_261 rfl ?_
                  refine kv_iconst (v := 0) X dL_areOrders_263 (by decide) ?_
                  refine kv_calllSW (As := [.ref xa, .int 1, .int (nI i202), .int 0]) [] X (a_unitCost l wr wx hL220 (nI i202) 0) hl0 (kCSW_of X 4 (show GoodIn (wsL_areOrders ++ kHp) (va_wsS RL 169 yL_ask (wsL_ask ++ kHp)) from gK (pre := [Cond.methodLink RL 169 yL_ask, Cond.static yL_ask, Cond.initialized yL_ask.cls]) gL_areOrders_L_ask) rfl rfl rfl (by decide +kernel) hRR ⟨(Nat.le_of_ble_eq_true rfl), (Nat.le_of_ble_eq_true rfl)⟩) rfl rfl (Nat.le_of_ble_eq_true rfl) hRR ⟨(by show _ + 2 ≤ 450; omega), (by show _ + 12 ≤ 2700; omega)⟩ dL_areOrders_264 (fun r264 c264 h264 => ?_)
                  obtain ⟨hL264, hv264⟩ := h264
                  show kv dd g _ _ 267 [(10, .int (nI nR)), (8, .long (cou ((wvN M nR nC nt nL nW nV nM cn nm mn me li rl (M.1 24)) i202) (M.2.1 3) nR)), (7, .int (nI i202)), (2, .int 1), (0, .ref xa), (1, .ref (wx.2.1 0))] [.long r264] (jk c264 wr wx) (jd c264 wr wx) (jE c264 wr wx)
                  obtain rfl := q_in hv264 (show i202 < nt by omega) (by omega)
                  refine kv_lload X 1 dL_areOrders_267 rfl ?_
                  refine kv_lcmp X dL_areOrders_269 ?_
                  refine kv_if_ne (tgt := 305) X dL_areOrders_270 (by decide) (fun hc270 => False.elim (hc270 lcs)) (fun hc270 => ?_)
                  refine kv_aload_n X 4 dL_areOrders_273 rfl rfl ?_
                  refine kv_iconst (v := 0) X dL_areOrders_274 (by decide) ?_
                  refine kv_iload X 2 dL_areOrders_275 rfl ?_
                  refine kv_iconst (v := 0) X dL_areOrders_277 (by decide) ?_
                  refine kv_calllSW (As := [.ref xa, .int 0, .int (nI i202), .int 0]) [] X (a_depthOf l wr wx hL264 (nI i202) 0) hl0 (kCSW_of X 4 (show GoodIn (wsL_areOrders ++ kHp) (va_wsS RL 169 yL_ask (wsL_ask ++ kHp)) from gK (pre := [Cond.methodLink RL 169 yL_ask, Cond.static yL_ask, Cond.initialized yL_ask.cls]) gL_areOrders_L_ask) rfl rfl rfl (by decide +kernel) hRR ⟨(Nat.le_of_ble_eq_true rfl), (Nat.le_of_ble_eq_true rfl)⟩) rfl rfl (Nat.le_of_ble_eq_true rfl) hRR ⟨(by show _ + 2 ≤ 450; omega), (by show _ + 12 ≤ 2700; omega)⟩ dL_areOrders_278 (fun r278 c278 h278 => ?_)
                  obtain ⟨hL278, hv278⟩ := h278
                  show kv dd g _ _ 281 [(10, .int (nI nR)), (8, .long (cou ((wvN M nR nC nt nL nW nV nM cn nm mn me li rl (M.1 24)) i202) (M.2.1 3) nR)), (7, .int (nI i202)), (2, .int 1), (0, .ref xa), (1, .ref (wx.2.1 0))] [.long r278] (jk c278 wr wx) (jd c278 wr wx) (jE c278 wr wx)
                  obtain ⟨d281, hd2811, hd2813, rfl⟩ := q_ind hv278 (show i202 < nt by omega)
                  refine kv_lconst (v := 1) X dL_areOrders_281 (by decide) ?_
                  refine kv_lcmp X dL_areOrders_282 ?_
                  refine kv_if_lt (tgt := 305) X dL_areOrders_283 (by decide) (fun hc283 => False.elim (lcge (d_lo hd2811 hd2813).1 hc283)) (fun hc283 => ?_)
                  refine kv_aload_n X 4 dL_areOrders_286 rfl rfl ?_
                  refine kv_iconst (v := 0) X dL_areOrders_287 (by decide) ?_
                  refine kv_iload X 2 dL_areOrders_288 rfl ?_
                  refine kv_iconst (v := 0) X dL_areOrders_290 (by decide) ?_
                  refine kv_calllSW (As := [.ref xa, .int 0, .int (nI i202), .int 0]) [] X (a_depthOf l wr wx hL278 (nI i202) 0) hl0 (kCSW_of X 4 (show GoodIn (wsL_areOrders ++ kHp) (va_wsS RL 169 yL_ask (wsL_ask ++ kHp)) from gK (pre := [Cond.methodLink RL 169 yL_ask, Cond.static yL_ask, Cond.initialized yL_ask.cls]) gL_areOrders_L_ask) rfl rfl rfl (by decide +kernel) hRR ⟨(Nat.le_of_ble_eq_true rfl), (Nat.le_of_ble_eq_true rfl)⟩) rfl rfl (Nat.le_of_ble_eq_true rfl) hRR ⟨(by show _ + 2 ≤ 450; omega), (by show _ + 12 ≤ 2700; omega)⟩ dL_areOrders_291 (fun r291 c291 h291 => ?_)
                  obtain ⟨hL291, hv291⟩ := h291
                  show kv dd g _ _ 294 [(10, .int (nI nR)), (8, .long (cou ((wvN M nR nC nt nL nW nV nM cn nm mn me li rl (M.1 24)) i202) (M.2.1 3) nR)), (7, .int (nI i202)), (2, .int 1), (0, .ref xa), (1, .ref (wx.2.1 0))] [.long r291] (jk c291 wr wx) (jd c291 wr wx) (jE c291 wr wx)
                  obtain ⟨d294, hd2941, hd2943, rfl⟩ := q_ind hv291 (show i202 < nt by omega)
                  refine kv_ldc2 (v := 3) X dL_areOrders_294 (List.mem_append_left _ (List.mem_cons_of_mem _ (List.mem_append_left _ (List.mem_append_left _ (List.mem_append_left _ (List.mem_append_left _ (List.mem_append_left _ (List.mem_append_left _ (List.mem_append_left _ (List.mem_append_left _ (List.mem_append_left _ (List.mem_append_left _ (List.mem_append_left _ (List.mem_append_left _ (List.mem_append_left _ (List.mem_append_left _ (List.mem_append_left _ (List.mem_append_left _ (List.mem_append_left _ (List.mem_append_left _ (List.mem_append_left _ (List.mem_of_getElem? (i := 2) rfl)))))))))))))))))))))) ?_
                  refine kv_lcmp X dL_areOrders_297 ?_
                  refine kv_if_gt (tgt := 305) X dL_areOrders_298 (by decide) (fun hc298 => False.elim (lc_gt (d_lo hd2941 hd2943).2 hc298)) (fun hc298 => ?_)
                  refine kv_iconst (v := 1) X dL_areOrders_301 (by decide) ?_
                  refine kv_goto (tgt := 306) X dL_areOrders_302 (by decide) ?_
                  refine kv_istore_n (lv2 := [(2, .int 1), (10, .int (nI nR)), (8, .long (cou ((wvN M nR nC nt nL nW nV nM cn nm mn me li rl (M.1 24)) i202) (M.2.1 3) nR)), (7, .int (nI i202)), (0, .ref xa), (1, .ref (wx.2.1 0))]) X dL_areOrders_306 rfl (by rw [hnL]; decide) rfl ?_
                  refine kv_iinc (j := 3) (v := (nI (i202 + 1))) (lv2 := [(7, .int (nI (i202 + 1))), (2, .int 1), (10, .int (nI nR)), (8, .long (cou ((wvN M nR nC nt nL nW nV nM cn nm mn me li rl (M.1 24)) i202) (M.2.1 3) nR)), (0, .ref xa), (1, .ref (wx.2.1 0))]) X dL_areOrders_307 rfl (nI_add i202 1) (by rw [hnL]; decide) rfl ?_
                  refine kv_goto (tgt := 202) X dL_areOrders_310 (by decide) ?_
                  exact kv_lv [0, 1, 4, 5] rfl (ih202 (i202 + 1) (by omega) _ _ _  hL291  (by omega) (by omega))
                | succ n220 ih220 =>
                  intro i220 hin220 a220 b220 cc220  hL220  ha220 hb220
                  refine kv_iload X 0 dL_areOrders_220 rfl ?_
                  refine kv_aload_n X 5 dL_areOrders_222 rfl rfl ?_
                  refine kv_iconst (v := 0) X dL_areOrders_223 (by decide) ?_
                  refine kv_iaload X (κ := 2000) (n := 50) (j := 0) (f := fm) (j_x0.1.mpr hx.1) (j_x0.2.2.trans hx.2) (by omega) (by decide) dL_areOrders_224 ?_
                  refine kv_topi (nI nR) hm.1 ?_
                  refine kn_icmp_ge (x := i220) (y := nR) (tgt := 259) X (by omega) (by omega) dL_areOrders_225 (by decide) (fun hc225 => absurd hc225 (by omega)) (fun hc225 => ?_)
                  refine kv_lload X 1 dL_areOrders_228 rfl ?_
                  refine kv_aload_n X 4 dL_areOrders_230 rfl rfl ?_
                  refine kv_iconst (v := 2) X dL_areOrders_231 (by decide) ?_
                  refine kv_iload X 2 dL_areOrders_232 rfl ?_
                  refine kv_iload X 0 dL_areOrders_234 rfl ?_
                  refine kv_calllSW (As := [.ref xa, .int 2, .int (nI i202), .int (nI i220)]) [.long (cou ((wvN M nR nC nt nL nW nV nM cn nm mn me li rl (M.1 24)) i202) (M.2.1 3) i220)] X (a_needed l wr wx hL220 (nI i202) (nI i220)) hl0 (kCSW_of X 4 (show GoodIn (wsL_areOrders ++ kHp) (va_wsS RL 169 yL_ask (wsL_ask ++ kHp)) from gK (pre := [Cond.methodLink RL 169 yL_ask, Cond.static yL_ask, Cond.initialized yL_ask.cls]) gL_areOrders_L_ask) rfl rfl rfl (by decide +kernel) hRR ⟨(Nat.le_of_ble_eq_true rfl), (Nat.le_of_ble_eq_true rfl)⟩) rfl rfl (Nat.le_of_ble_eq_true rfl) hRR ⟨(by show _ + 2 ≤ 450; omega), (by show _ + 12 ≤ 2700; omega)⟩ dL_areOrders_236 (fun r236 c236 h236 => ?_)
                  obtain ⟨hL236, hv236⟩ := h236
                  show kv dd g _ _ 239 [(10, .int (nI i220)), (8, .long (cou ((wvN M nR nC nt nL nW nV nM cn nm mn me li rl (M.1 24)) i202) (M.2.1 3) i220)), (7, .int (nI i202)), (2, .int 1), (0, .ref xa), (1, .ref (wx.2.1 0))] [.long r236, .long (cou ((wvN M nR nC nt nL nW nV nM cn nm mn me li rl (M.1 24)) i202) (M.2.1 3) i220)] (jk c236 wr wx) (jd c236 wr wx) (jE c236 wr wx)
                  obtain rfl := q_in2 hv236 (show i202 < nt by omega) (show i220 < nR by omega) (by omega) (by omega)
                  refine kv_aload_n X 5 dL_areOrders_239 rfl rfl ?_
                  refine kv_bipush (v := 10) X dL_areOrders_240 (by decide) ?_
                  refine kv_iconst (v := 3) X dL_areOrders_242 (by decide) ?_
                  refine kv_iload X 0 dL_areOrders_243 rfl ?_
                  refine kv_imul X dL_areOrders_245 ?_
                  refine kv_topi (nI (3 * i220)) (pk_mul 3 i220) ?_
                  refine kv_iadd X dL_areOrders_246 ?_
                  refine kv_topi (nI (10 + (3 * i220))) (nI_add 10 (3 * i220)) ?_
                  refine kv_iaload X (κ := 2000) (n := 50) (j := 10 + (3 * i220)) (f := fm) (j_x0.1.mpr hx.1) (j_x0.2.2.trans hx.2) (by omega) (by decide) dL_areOrders_247 ?_
                  refine kv_topi (M.2.1 3 i220) ((hm.2.2.2.2.2 i220 (by omega)).1) ?_
                  refine kv_i2l X dL_areOrders_248 rfl ?_
                  refine kv_lmul X dL_areOrders_249 ?_
                  refine kv_ladd X dL_areOrders_250 ?_
                  refine kv_topl (cou ((wvN M nR nC nt nL nW nV nM cn nm mn me li rl (M.1 24)) i202) (M.2.1 3) (i220 + 1)) rfl ?_
                  refine kv_lstore (lv2 := [(8, .long (cou ((wvN M nR nC nt nL nW nV nM cn nm mn me li rl (M.1 24)) i202) (M.2.1 3) (i220 + 1))), (10, .int (nI i220)), (7, .int (nI i202)), (2, .int 1), (0, .ref xa), (1, .ref (wx.2.1 0))]) X dL_areOrders_251 (by rw [hnL]; decide) rfl ?_
                  refine kv_iinc (j := 1) (v := (nI (i220 + 1))) (lv2 := [(10, .int (nI (i220 + 1))), (8, .long (cou ((wvN M nR nC nt nL nW nV nM cn nm mn me li rl (M.1 24)) i202) (M.2.1 3) (i220 + 1))), (7, .int (nI i202)), (2, .int 1), (0, .ref xa), (1, .ref (wx.2.1 0))]) X dL_areOrders_253 rfl (nI_add i220 1) (by rw [hnL]; decide) rfl ?_
                  refine kv_goto (tgt := 220) X dL_areOrders_256 (by decide) ?_
                  exact kv_lv [0, 1, 2, 3, 4, 5] rfl (ih220 (i220 + 1) (by omega) _ _ _  hL236  (by omega) (by omega))
              exact kv_lv [0, 1, 2, 3, 4, 5] rfl (L220 (nR) 0 (by omega) _ _ _  hL202  (by omega) (by omega))
          exact kv_lv [0, 1, 5, 6] rfl (L202 (nt) 0 (by omega) _ _ _  hL183  (by omega) (by omega))
        | succ n65 ih65 =>
          intro i65 hin65 a65 b65 cc65 B65 la65 hL65 hB65 ha65 hb65
          refine kv_iload X 0 dL_areOrders_65 rfl ?_
          refine kv_iload_n X 3 dL_areOrders_67 rfl rfl ?_
          refine kn_icmp_ge (x := i65) (y := ct (po (wvC M nR nC nt nL nW nV nM cn nm mn me li rl (M.1 24))) nR) (tgt := 159) X (by omega) (by omega) dL_areOrders_68 (by decide) (fun hc68 => absurd hc68 (by omega)) (fun hc68 => ?_)
          refine kv_iload_n X 4 dL_areOrders_71 rfl rfl ?_
          refine kv_if_eq (tgt := 159) X dL_areOrders_72 (by decide) (fun hc => absurd hc (by decide)) (fun hc72 => ?_)
          refine kv_aload_n X 5 dL_areOrders_75 rfl rfl ?_
          refine kv_bipush (v := 13) X dL_areOrders_76 (by decide) ?_
          refine kv_iload X 0 dL_areOrders_78 rfl ?_
          refine kv_iconst (v := 0) X dL_areOrders_80 (by decide) ?_
          refine kv_calllSW (As := [.ref xa, .int 13, .int (nI i65), .int 0]) [] X (a_dearest l wr wx hL65 (nI i65) 0) hl0 (kCSW_of X 4 (show GoodIn (wsL_areOrders ++ kHp) (va_wsS RL 169 yL_ask (wsL_ask ++ kHp)) from gK (pre := [Cond.methodLink RL 169 yL_ask, Cond.static yL_ask, Cond.initialized yL_ask.cls]) gL_areOrders_L_ask) rfl rfl rfl (by decide +kernel) hRR ⟨(Nat.le_of_ble_eq_true rfl), (Nat.le_of_ble_eq_true rfl)⟩) rfl rfl (Nat.le_of_ble_eq_true rfl) hRR ⟨(by show _ + 2 ≤ 450; omega), (by show _ + 12 ≤ 2700; omega)⟩ dL_areOrders_81 (fun r81 c81 h81 => ?_)
          obtain ⟨hL81, hv81⟩ := h81
          show kv dd g _ _ 84 [(7, .int (nI i65)), (4, .long B65), (6, .int la65), (3, .int (nI (ct (po (wvC M nR nC nt nL nW nV nM cn nm mn me li rl (M.1 24))) nR))), (2, .int 1), (0, .ref xa), (1, .ref (wx.2.1 0))] [.long r81] (jk c81 wr wx) (jd c81 wr wx) (jE c81 wr wx)
          obtain ⟨j81, hj_j81, hj_0, hj_r, rfl⟩ := de_in bb.1 (show i65 < (ct (po (wvC M nR nC nt nL nW nV nM cn nm mn me li rl (M.1 24))) nR) by omega) hv81
          have hord : (wvC M nR nC nt nL nW nV nM cn nm mn me li rl (M.1 24)) j81 < B65 ∨ ((wvC M nR nC nt nL nW nV nM cn nm mn me li rl (M.1 24)) j81 = B65 ∧ la65 < nI j81) := by
            rcases hB65 with ⟨q1, q2, q3⟩ | ⟨j0, q0, q1, q2, q3⟩
            · rw [q2, q3]; exact ord_max _ j81 (by omega)
            · rw [q2, q3]
              rcases ord_next (C := (wvC M nR nC nt nL nW nV nM cn nm mn me li rl (M.1 24))) (i := j0) hj_j81 (by omega) with w | ⟨w1, w2⟩
              · exact Or.inl w
              · exact Or.inr ⟨w1, nI_ltt (by omega) (by omega) w2⟩
          refine kv_l2i X dL_areOrders_84 rfl ?_
          refine kv_topi (nI j81) (Int32.toInt32_toInt64 _) ?_
          refine kv_istore (lv2 := [(8, .int (nI j81)), (7, .int (nI i65)), (4, .long B65), (6, .int la65), (3, .int (nI (ct (po (wvC M nR nC nt nL nW nV nM cn nm mn me li rl (M.1 24))) nR))), (2, .int 1), (0, .ref xa), (1, .ref (wx.2.1 0))]) X dL_areOrders_85 (by rw [hnL]; decide) rfl ?_
          refine kv_aload_n X 6 dL_areOrders_87 rfl rfl ?_
          refine kv_bipush (v := 7) X dL_areOrders_88 (by decide) ?_
          refine kv_iload X 0 dL_areOrders_90 rfl ?_
          refine kv_iconst (v := 0) X dL_areOrders_92 (by decide) ?_
          refine kv_calllSW (As := [.ref xa, .int 7, .int (nI j81), .int 0]) [] X (a_amount l wr wx hL81 (nI j81) 0) hl0 (kCSW_of X 4 (show GoodIn (wsL_areOrders ++ kHp) (va_wsS RL 169 yL_ask (wsL_ask ++ kHp)) from gK (pre := [Cond.methodLink RL 169 yL_ask, Cond.static yL_ask, Cond.initialized yL_ask.cls]) gL_areOrders_L_ask) rfl rfl rfl (by decide +kernel) hRR ⟨(Nat.le_of_ble_eq_true rfl), (Nat.le_of_ble_eq_true rfl)⟩) rfl rfl (Nat.le_of_ble_eq_true rfl) hRR ⟨(by show _ + 2 ≤ 450; omega), (by show _ + 12 ≤ 2700; omega)⟩ dL_areOrders_93 (fun r93 c93 h93 => ?_)
          obtain ⟨hL93, hv93⟩ := h93
          show kv dd g _ _ 96 [(8, .int (nI j81)), (7, .int (nI i65)), (4, .long B65), (6, .int la65), (3, .int (nI (ct (po (wvC M nR nC nt nL nW nV nM cn nm mn me li rl (M.1 24))) nR))), (2, .int 1), (0, .ref xa), (1, .ref (wx.2.1 0))] [.long r93] (jk c93 wr wx) (jd c93 wr wx) (jE c93 wr wx)
          obtain rfl := q_in hv93 (show j81 < nR by omega) (by omega)
          refine kv_aload_n X 7 dL_areOrders_96 rfl rfl ?_
          refine kv_bipush (v := 10) X dL_areOrders_97 (by decide) ?_
          refine kv_iconst (v := 3) X dL_areOrders_99 (by decide) ?_
          refine kv_iload X 0 dL_areOrders_100 rfl ?_
          refine kv_imul X dL_areOrders_102 ?_
          refine kv_topi (nI (3 * j81)) (pk_mul 3 j81) ?_
          refine kv_iadd X dL_areOrders_103 ?_
          refine kv_topi (nI (10 + (3 * j81))) (nI_add 10 (3 * j81)) ?_
          refine kv_iaload X (κ := 2000) (n := 50) (j := 10 + (3 * j81)) (f := fm) (j_x0.1.mpr hx.1) (j_x0.2.2.trans hx.2) (by omega) (by decide) dL_areOrders_104 ?_
          refine kv_topi (M.2.1 3 j81) ((hm.2.2.2.2.2 j81 (by omega)).1) ?_
          refine kv_i2l X dL_areOrders_105 rfl ?_
          refine kv_lmul X dL_areOrders_106 ?_
          refine kv_topl ((wvC M nR nC nt nL nW nV nM cn nm mn me li rl (M.1 24)) j81) rfl ?_
          refine kv_lstore (lv2 := [(9, .long ((wvC M nR nC nt nL nW nV nM cn nm mn me li rl (M.1 24)) j81)), (8, .int (nI j81)), (7, .int (nI i65)), (4, .long B65), (6, .int la65), (3, .int (nI (ct (po (wvC M nR nC nt nL nW nV nM cn nm mn me li rl (M.1 24))) nR))), (2, .int 1), (0, .ref xa), (1, .ref (wx.2.1 0))]) X dL_areOrders_107 (by rw [hnL]; decide) rfl ?_
          refine kv_lload X 0 dL_areOrders_109 rfl ?_
          refine kv_lconst (v := 0) X dL_areOrders_111 (by decide) ?_
          refine kv_lcmp X dL_areOrders_112 ?_
          refine kv_if_le (tgt := 143) X dL_areOrders_113 (by decide) (fun hc113 => False.elim (lcgt hj_0 hc113)) (fun hc113 => ?_)
          rcases hord with ho | ⟨ho1, ho2⟩
          ·
            refine kv_lload X 0 dL_areOrders_116 rfl ?_
            refine kv_lload X 3 dL_areOrders_118 rfl ?_
            refine kv_lcmp X dL_areOrders_120 ?_
            refine kv_if_lt (tgt := 139) X dL_areOrders_121 (by decide) (fun hc121 => ?_) (fun hc121 => False.elim (hc121 (lc_lt ho)))
            refine kv_iconst (v := 1) X dL_areOrders_139 (by decide) ?_
            refine kv_goto (tgt := 144) X dL_areOrders_140 (by decide) ?_
            refine kv_istore_n (lv2 := [(2, .int 1), (9, .long ((wvC M nR nC nt nL nW nV nM cn nm mn me li rl (M.1 24)) j81)), (8, .int (nI j81)), (7, .int (nI i65)), (4, .long B65), (6, .int la65), (3, .int (nI (ct (po (wvC M nR nC nt nL nW nV nM cn nm mn me li rl (M.1 24))) nR))), (0, .ref xa), (1, .ref (wx.2.1 0))]) X dL_areOrders_144 rfl (by rw [hnL]; decide) rfl ?_
            refine kv_lload X 1 dL_areOrders_145 rfl ?_
            refine kv_lstore (lv2 := [(4, .long ((wvC M nR nC nt nL nW nV nM cn nm mn me li rl (M.1 24)) j81)), (2, .int 1), (9, .long ((wvC M nR nC nt nL nW nV nM cn nm mn me li rl (M.1 24)) j81)), (8, .int (nI j81)), (7, .int (nI i65)), (6, .int la65), (3, .int (nI (ct (po (wvC M nR nC nt nL nW nV nM cn nm mn me li rl (M.1 24))) nR))), (0, .ref xa), (1, .ref (wx.2.1 0))]) X dL_areOrders_147 (by rw [hnL]; decide) rfl ?_
            refine kv_iload X 3 dL_areOrders_149 rfl ?_
            refine kv_istore (lv2 := [(6, .int (nI j81)), (4, .long ((wvC M nR nC nt nL nW nV nM cn nm mn me li rl (M.1 24)) j81)), (2, .int 1), (9, .long ((wvC M nR nC nt nL nW nV nM cn nm mn me li rl (M.1 24)) j81)), (8, .int (nI j81)), (7, .int (nI i65)), (3, .int (nI (ct (po (wvC M nR nC nt nL nW nV nM cn nm mn me li rl (M.1 24))) nR))), (0, .ref xa), (1, .ref (wx.2.1 0))]) X dL_areOrders_151 (by rw [hnL]; decide) rfl ?_
            refine kv_iinc (j := 5) (v := (nI (i65 + 1))) (lv2 := [(7, .int (nI (i65 + 1))), (6, .int (nI j81)), (4, .long ((wvC M nR nC nt nL nW nV nM cn nm mn me li rl (M.1 24)) j81)), (2, .int 1), (9, .long ((wvC M nR nC nt nL nW nV nM cn nm mn me li rl (M.1 24)) j81)), (8, .int (nI j81)), (3, .int (nI (ct (po (wvC M nR nC nt nL nW nV nM cn nm mn me li rl (M.1 24))) nR))), (0, .ref xa), (1, .ref (wx.2.1 0))]) X dL_areOrders_153 rfl (nI_add i65 1) (by rw [hnL]; decide) rfl ?_
            refine kv_goto (tgt := 65) X dL_areOrders_156 (by decide) ?_
            exact kv_lv [0, 2, 1, 6, 3, 7, 8] rfl (ih65 (i65 + 1) (by omega) _ _ _ ((wvC M nR nC nt nL nW nV nM cn nm mn me li rl (M.1 24)) j81) (nI j81) hL93 (Or.inr ⟨j81, hj_j81, by omega, rfl, rfl⟩) (by omega) (by omega))
          ·
            refine kv_lload X 0 dL_areOrders_116 rfl ?_
            refine kv_lload X 3 dL_areOrders_118 rfl ?_
            refine kv_lcmp X dL_areOrders_120 ?_
            refine kv_if_lt (tgt := 139) X dL_areOrders_121 (by decide) (fun hc121 => False.elim (absurd (lce ho1 ▸ hc121 : (0 : Int32) < 0) (by decide))) (fun hc121 => ?_)
            refine kv_lload X 0 dL_areOrders_124 rfl ?_
            refine kv_lload X 3 dL_areOrders_126 rfl ?_
            refine kv_lcmp X dL_areOrders_128 ?_
            refine kv_if_ne (tgt := 143) X dL_areOrders_129 (by decide) (fun hc129 => False.elim (hc129 (lce ho1))) (fun hc129 => ?_)
            refine kv_iload X 1 dL_areOrders_132 rfl ?_
            refine kv_iload X 4 dL_areOrders_134 rfl ?_
            refine kv_icmp_le (tgt := 143) X dL_areOrders_136 (by decide) (fun hc136 => False.elim (Int32.not_le.mpr ho2 hc136)) (fun hc136 => ?_)
            refine kv_iconst (v := 1) X dL_areOrders_139 (by decide) ?_
            refine kv_goto (tgt := 144) X dL_areOrders_140 (by decide) ?_
            refine kv_istore_n (lv2 := [(2, .int 1), (9, .long ((wvC M nR nC nt nL nW nV nM cn nm mn me li rl (M.1 24)) j81)), (8, .int (nI j81)), (7, .int (nI i65)), (4, .long B65), (6, .int la65), (3, .int (nI (ct (po (wvC M nR nC nt nL nW nV nM cn nm mn me li rl (M.1 24))) nR))), (0, .ref xa), (1, .ref (wx.2.1 0))]) X dL_areOrders_144 rfl (by rw [hnL]; decide) rfl ?_
            refine kv_lload X 1 dL_areOrders_145 rfl ?_
            refine kv_lstore (lv2 := [(4, .long ((wvC M nR nC nt nL nW nV nM cn nm mn me li rl (M.1 24)) j81)), (2, .int 1), (9, .long ((wvC M nR nC nt nL nW nV nM cn nm mn me li rl (M.1 24)) j81)), (8, .int (nI j81)), (7, .int (nI i65)), (6, .int la65), (3, .int (nI (ct (po (wvC M nR nC nt nL nW nV nM cn nm mn me li rl (M.1 24))) nR))), (0, .ref xa), (1, .ref (wx.2.1 0))]) X dL_areOrders_147 (by rw [hnL]; decide) rfl ?_
            refine kv_iload X 3 dL_areOrders_149 rfl ?_
            refine kv_istore (lv2 := [(6, .int (nI j81)), (4, .long ((wvC M nR nC nt nL nW nV nM cn nm mn me li rl (M.1 24)) j81)), (2, .int 1), (9, .long ((wvC M nR nC nt nL nW nV nM cn nm mn me li rl (M.1 24)) j81)), (8, .int (nI j81)), (7, .int (nI i65)), (3, .int (nI (ct (po (wvC M nR nC nt nL nW nV nM cn nm mn me li rl (M.1 24))) nR))), (0, .ref xa), (1, .ref (wx.2.1 0))]) X dL_areOrders_151 (by rw [hnL]; decide) rfl ?_
            refine kv_iinc (j := 5) (v := (nI (i65 + 1))) (lv2 := [(7, .int (nI (i65 + 1))), (6, .int (nI j81)), (4, .long ((wvC M nR nC nt nL nW nV nM cn nm mn me li rl (M.1 24)) j81)), (2, .int 1), (9, .long ((wvC M nR nC nt nL nW nV nM cn nm mn me li rl (M.1 24)) j81)), (8, .int (nI j81)), (3, .int (nI (ct (po (wvC M nR nC nt nL nW nV nM cn nm mn me li rl (M.1 24))) nR))), (0, .ref xa), (1, .ref (wx.2.1 0))]) X dL_areOrders_153 rfl (nI_add i65 1) (by rw [hnL]; decide) rfl ?_
            refine kv_goto (tgt := 65) X dL_areOrders_156 (by decide) ?_
            exact kv_lv [0, 2, 1, 6, 3, 7, 8] rfl (ih65 (i65 + 1) (by omega) _ _ _ ((wvC M nR nC nt nL nW nV nM cn nm mn me li rl (M.1 24)) j81) (nI j81) hL93 (Or.inr ⟨j81, hj_j81, by omega, rfl, rfl⟩) (by omega) (by omega))
      exact kv_lv [0, 2, 1, 3, 4, 5, 6] rfl (L65 ((ct (po (wvC M nR nC nt nL nW nV nM cn nm mn me li rl (M.1 24))) nR)) 0 (by omega) _ _ _ 9223372036854775807 (-1) hL7 (Or.inl ⟨rfl, rfl, rfl⟩) (by omega) (by omega))
    | succ n7 ih7 =>
      intro i7 hin7 a7 b7 cc7  hL7  ha7 hb7
      refine kv_iload X 0 dL_areOrders_7 rfl ?_
      refine kv_aload_n X 4 dL_areOrders_9 rfl rfl ?_
      refine kv_iconst (v := 0) X dL_areOrders_10 (by decide) ?_
      refine kv_iaload X (κ := 2000) (n := 50) (j := 0) (f := fm) (j_x0.1.mpr hx.1) (j_x0.2.2.trans hx.2) (by omega) (by decide) dL_areOrders_11 ?_
      refine kv_topi (nI nR) hm.1 ?_
      refine kn_icmp_ge (x := i7) (y := nR) (tgt := 54) X (by omega) (by omega) dL_areOrders_12 (by decide) (fun hc12 => absurd hc12 (by omega)) (fun hc12 => ?_)
      refine kv_iload_n X 1 dL_areOrders_15 rfl rfl ?_
      refine kv_aload_n X 3 dL_areOrders_16 rfl rfl ?_
      refine kv_bipush (v := 7) X dL_areOrders_17 (by decide) ?_
      refine kv_iload X 0 dL_areOrders_19 rfl ?_
      refine kv_iconst (v := 0) X dL_areOrders_21 (by decide) ?_
      refine kv_calllSW (As := [.ref xa, .int 7, .int (nI i7), .int 0]) [.int (nI (ct (po (wvC M nR nC nt nL nW nV nM cn nm mn me li rl (M.1 24))) i7))] X (a_amount l wr wx hL7 (nI i7) 0) hl0 (kCSW_of X 4 (show GoodIn (wsL_areOrders ++ kHp) (va_wsS RL 169 yL_ask (wsL_ask ++ kHp)) from gK (pre := [Cond.methodLink RL 169 yL_ask, Cond.static yL_ask, Cond.initialized yL_ask.cls]) gL_areOrders_L_ask) rfl rfl rfl (by decide +kernel) hRR ⟨(Nat.le_of_ble_eq_true rfl), (Nat.le_of_ble_eq_true rfl)⟩) rfl rfl (Nat.le_of_ble_eq_true rfl) hRR ⟨(by show _ + 2 ≤ 450; omega), (by show _ + 12 ≤ 2700; omega)⟩ dL_areOrders_22 (fun r22 c22 h22 => ?_)
      obtain ⟨hL22, hv22⟩ := h22
      show kv dd g _ _ 25 [(4, .int (nI i7)), (3, .int (nI (ct (po (wvC M nR nC nt nL nW nV nM cn nm mn me li rl (M.1 24))) i7))), (2, .int 1), (0, .ref xa), (1, .ref (wx.2.1 0))] [.long r22, .int (nI (ct (po (wvC M nR nC nt nL nW nV nM cn nm mn me li rl (M.1 24))) i7))] (jk c22 wr wx) (jd c22 wr wx) (jE c22 wr wx)
      obtain rfl := q_in hv22 (show i7 < nR by omega) (by omega)
      refine kv_aload_n X 4 dL_areOrders_25 rfl rfl ?_
      refine kv_bipush (v := 10) X dL_areOrders_26 (by decide) ?_
      refine kv_iconst (v := 3) X dL_areOrders_28 (by decide) ?_
      refine kv_iload X 0 dL_areOrders_29 rfl ?_
      refine kv_imul X dL_areOrders_31 ?_
      refine kv_topi (nI (3 * i7)) (pk_mul 3 i7) ?_
      refine kv_iadd X dL_areOrders_32 ?_
      refine kv_topi (nI (10 + (3 * i7))) (nI_add 10 (3 * i7)) ?_
      refine kv_iaload X (κ := 2000) (n := 50) (j := 10 + (3 * i7)) (f := fm) (j_x0.1.mpr hx.1) (j_x0.2.2.trans hx.2) (by omega) (by decide) dL_areOrders_33 ?_
      refine kv_topi (M.2.1 3 i7) ((hm.2.2.2.2.2 i7 (by omega)).1) ?_
      refine kv_i2l X dL_areOrders_34 rfl ?_
      refine kv_lmul X dL_areOrders_35 ?_
      refine kv_topl ((wvC M nR nC nt nL nW nV nM cn nm mn me li rl (M.1 24)) i7) rfl ?_
      refine kv_lconst (v := 0) X dL_areOrders_36 (by decide) ?_
      refine kv_lcmp X dL_areOrders_37 ?_
      refine kv_if_le (tgt := 45) X dL_areOrders_38 (by decide) (fun hc38 => ?_) (fun hc38 => ?_)
      ·
        refine kv_iconst (v := 0) X dL_areOrders_45 (by decide) ?_
        refine kv_iadd X dL_areOrders_46 ?_
        refine kv_topi (nI ((ct (po (wvC M nR nC nt nL nW nV nM cn nm mn me li rl (M.1 24))) i7) + 0)) (nI_add (ct (po (wvC M nR nC nt nL nW nV nM cn nm mn me li rl (M.1 24))) i7) 0) ?_
        refine kv_topi (nI (ct (po (wvC M nR nC nt nL nW nV nM cn nm mn me li rl (M.1 24))) (i7 + 1))) (by first | exact ct_T rfl hc38 | exact ct_F rfl hc38) ?_
        refine kv_istore_n (lv2 := [(3, .int (nI (ct (po (wvC M nR nC nt nL nW nV nM cn nm mn me li rl (M.1 24))) (i7 + 1)))), (4, .int (nI i7)), (2, .int 1), (0, .ref xa), (1, .ref (wx.2.1 0))]) X dL_areOrders_47 rfl (by rw [hnL]; decide) rfl ?_
        refine kv_iinc (j := 1) (v := (nI (i7 + 1))) (lv2 := [(4, .int (nI (i7 + 1))), (3, .int (nI (ct (po (wvC M nR nC nt nL nW nV nM cn nm mn me li rl (M.1 24))) (i7 + 1)))), (2, .int 1), (0, .ref xa), (1, .ref (wx.2.1 0))]) X dL_areOrders_48 rfl (nI_add i7 1) (by rw [hnL]; decide) rfl ?_
        refine kv_goto (tgt := 7) X dL_areOrders_51 (by decide) ?_
        exact kv_lv [0, 1, 2, 3, 4] rfl (ih7 (i7 + 1) (by omega) _ _ _  hL22  (by omega) (by omega))
      ·
        refine kv_iconst (v := 1) X dL_areOrders_41 (by decide) ?_
        refine kv_goto (tgt := 46) X dL_areOrders_42 (by decide) ?_
        refine kv_iadd X dL_areOrders_46 ?_
        refine kv_topi (nI ((ct (po (wvC M nR nC nt nL nW nV nM cn nm mn me li rl (M.1 24))) i7) + 1)) (nI_add (ct (po (wvC M nR nC nt nL nW nV nM cn nm mn me li rl (M.1 24))) i7) 1) ?_
        refine kv_topi (nI (ct (po (wvC M nR nC nt nL nW nV nM cn nm mn me li rl (M.1 24))) (i7 + 1))) (by first | exact ct_T rfl hc38 | exact ct_F rfl hc38) ?_
        refine kv_istore_n (lv2 := [(3, .int (nI (ct (po (wvC M nR nC nt nL nW nV nM cn nm mn me li rl (M.1 24))) (i7 + 1)))), (4, .int (nI i7)), (2, .int 1), (0, .ref xa), (1, .ref (wx.2.1 0))]) X dL_areOrders_47 rfl (by rw [hnL]; decide) rfl ?_
        refine kv_iinc (j := 1) (v := (nI (i7 + 1))) (lv2 := [(4, .int (nI (i7 + 1))), (3, .int (nI (ct (po (wvC M nR nC nt nL nW nV nM cn nm mn me li rl (M.1 24))) (i7 + 1)))), (2, .int 1), (0, .ref xa), (1, .ref (wx.2.1 0))]) X dL_areOrders_48 rfl (nI_add i7 1) (by rw [hnL]; decide) rfl ?_
        refine kv_goto (tgt := 7) X dL_areOrders_51 (by decide) ?_
        exact kv_lv [0, 1, 2, 3, 4] rfl (ih7 (i7 + 1) (by omega) _ _ _  hL22  (by omega) (by omega))
  exact kv_lv [0, 1, 2, 3, 4] rfl (L7 (nR) 0 (by omega) _ _ _  hL  (by omega) (by omega))

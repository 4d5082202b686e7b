/-- the law's own row m: sizes, prices, wastes, packs -/
def mTb (M : mS) (nR nC nt nL nW nV nM : Nat) (cn nm mn me li rl : Nat → Nat) (f : Nat → Int32) : Prop := f 0 = nI nR ∧ f 1 = nI nt ∧ f 2 = nI nL ∧ f 3 = nI nV ∧ f 4 = nI nM ∧ ∀ r, r < nR → f (10 + 3 * r) = M.2.1 3 r ∧ f (11 + 3 * r) = M.2.1 4 r ∧ f (12 + 3 * r) = M.2.1 5 r
set_option maxRecDepth 100000 in
set_option maxHeartbeats 4000000 in
theorem c_L_areSums (l : Launch) {dd : kDD} {c : kT} (wr wx : kT) {M : mS} {nR nC nt nL nW nV nM : Nat} {cn nm mn me li rl : Nat → Nat} {xa : Nat} (hL : LPo dd c M nR nC nt nL nW nV nM cn nm mn me li rl xa) {fm : Nat → Int32} (hx : 0 ∈ wx.1 ∧ wx.2.2 0 = kI dd 50 fm) (hm : mTb M nR nC nt nL nW nV nM cn nm mn me li rl fm) : kCi l yL_areSums (wsL_areSums ++ kHp) ({ frames := 18, cells := 150, slots := 900, locals := 480 } : Room) 150 900 dd [.ref xa, .ref (wx.2.1 0)] (jk c wr wx, jd c wr wx, jE c wr wx) (kQi (S := kT) (fun r z => r = 1 ∧ LPo dd z M nR nC nt nL nW nV nM cn nm mn me li rl xa) (fun z => jk z wr wx) (fun z => jd z wr wx) (fun z => jE z wr wx)) := by
  have hI := hL.1
  have hXp := hL.2.1
  have bb := rI_b hI
  refine kMeti (ws' := _) (cc := cL_areSums) (maxL := 21) (rt := .boolean) (by decide) rfl (Nat.le_of_ble_eq_true rfl) (fun g X hr hnL hRR hl0 hkn => ?_)
  show kv dd g 0 0 0 [(0, .ref xa), (1, .ref (wx.2.1 0))] [] (jk c wr wx) (jd c wr wx) (jE c wr wx)
  refine kv_lconst (v := 0) X dL_areSums_0 (by decide) ?_
  refine kv_topl (cou (wvA M nR nC nt nL nW nV nM cn nm mn me li rl (M.1 24)) (M.2.1 3) 0) rfl ?_
  refine kv_lstore_n (lv2 := [(2, .long (cou (wvA M nR nC nt nL nW nV nM cn nm mn me li rl (M.1 24)) (M.2.1 3) 0)), (0, .ref xa), (1, .ref (wx.2.1 0))]) X dL_areSums_1 rfl (by rw [hnL]; decide) rfl ?_
  refine kv_lconst (v := 0) X dL_areSums_2 (by decide) ?_
  refine kv_topl (msumJ (wvL M nR nC nt nL nW nV nM cn nm mn me li rl (M.1 24)) 0 0) rfl ?_
  refine kv_lstore (lv2 := [(4, .long (msumJ (wvL M nR nC nt nL nW nV nM cn nm mn me li rl (M.1 24)) 0 0)), (2, .long (cou (wvA M nR nC nt nL nW nV nM cn nm mn me li rl (M.1 24)) (M.2.1 3) 0)), (0, .ref xa), (1, .ref (wx.2.1 0))]) X dL_areSums_3 (by rw [hnL]; decide) rfl ?_
  refine kv_lconst (v := 0) X dL_areSums_5 (by decide) ?_
  refine kv_topl (msumJ (fun t => (wvR M nR nC nt nL nW nV nM cn nm mn me li rl (M.1 24)) (nI t)) 0 0) rfl ?_
  refine kv_lstore (lv2 := [(6, .long (msumJ (fun t => (wvR M nR nC nt nL nW nV nM cn nm mn me li rl (M.1 24)) (nI t)) 0 0)), (4, .long (msumJ (wvL M nR nC nt nL nW nV nM cn nm mn me li rl (M.1 24)) 0 0)), (2, .long (cou (wvA M nR nC nt nL nW nV nM cn nm mn me li rl (M.1 24)) (M.2.1 3) 0)), (0, .ref xa), (1, .ref (wx.2.1 0))]) X dL_areSums_6 (by rw [hnL]; decide) rfl ?_
  refine kv_lconst (v := 0) X dL_areSums_8 (by decide) ?_
  refine kv_topl (mex (wvA M nR nC nt nL nW nV nM cn nm mn me li rl (M.1 24)) (M.2.1 4) (M.2.1 5) (M.2.1 3) 0) rfl ?_
  refine kv_lstore (lv2 := [(8, .long (mex (wvA M nR nC nt nL nW nV nM cn nm mn me li rl (M.1 24)) (M.2.1 4) (M.2.1 5) (M.2.1 3) 0)), (6, .long (msumJ (fun t => (wvR M nR nC nt nL nW nV nM cn nm mn me li rl (M.1 24)) (nI t)) 0 0)), (4, .long (msumJ (wvL M nR nC nt nL nW nV nM cn nm mn me li rl (M.1 24)) 0 0)), (2, .long (cou (wvA M nR nC nt nL nW nV nM cn nm mn me li rl (M.1 24)) (M.2.1 3) 0)), (0, .ref xa), (1, .ref (wx.2.1 0))]) X dL_areSums_9 (by rw [hnL]; decide) rfl ?_
  refine kv_lconst (v := 0) X dL_areSums_11 (by decide) ?_
  refine kv_lstore (lv2 := [(10, .long 0), (8, .long (mex (wvA M nR nC nt nL nW nV nM cn nm mn me li rl (M.1 24)) (M.2.1 4) (M.2.1 5) (M.2.1 3) 0)), (6, .long (msumJ (fun t => (wvR M nR nC nt nL nW nV nM cn nm mn me li rl (M.1 24)) (nI t)) 0 0)), (4, .long (msumJ (wvL M nR nC nt nL nW nV nM cn nm mn me li rl (M.1 24)) 0 0)), (2, .long (cou (wvA M nR nC nt nL nW nV nM cn nm mn me li rl (M.1 24)) (M.2.1 3) 0)), (0, .ref xa), (1, .ref (wx.2.1 0))]) X dL_areSums_12 (by rw [hnL]; decide) rfl ?_
  refine kv_iconst (v := 1) X dL_areSums_14 (by decide) ?_
  refine kv_istore (lv2 := [(12, .int 1), (10, .long 0), (8, .long (mex (wvA M nR nC nt nL nW nV nM cn nm mn me li rl (M.1 24)) (M.2.1 4) (M.2.1 5) (M.2.1 3) 0)), (6, .long (msumJ (fun t => (wvR M nR nC nt nL nW nV nM cn nm mn me li rl (M.1 24)) (nI t)) 0 0)), (4, .long (msumJ (wvL M nR nC nt nL nW nV nM cn nm mn me li rl (M.1 24)) 0 0)), (2, .long (cou (wvA M nR nC nt nL nW nV nM cn nm mn me li rl (M.1 24)) (M.2.1 3) 0)), (0, .ref xa), (1, .ref (wx.2.1 0))]) X dL_areSums_15 (by rw [hnL]; decide) rfl ?_
  refine kv_iconst (v := 0) X dL_areSums_17 (by decide) ?_
  refine kv_istore (lv2 := [(13, .int 0), (12, .int 1), (10, .long 0), (8, .long (mex (wvA M nR nC nt nL nW nV nM cn nm mn me li rl (M.1 24)) (M.2.1 4) (M.2.1 5) (M.2.1 3) 0)), (6, .long (msumJ (fun t => (wvR M nR nC nt nL nW nV nM cn nm mn me li rl (M.1 24)) (nI t)) 0 0)), (4, .long (msumJ (wvL M nR nC nt nL nW nV nM cn nm mn me li rl (M.1 24)) 0 0)), (2, .long (cou (wvA M nR nC nt nL nW nV nM cn nm mn me li rl (M.1 24)) (M.2.1 3) 0)), (0, .ref xa), (1, .ref (wx.2.1 0))]) X dL_areSums_18 (by rw [hnL]; decide) rfl ?_
  have L20 : ∀ (n20 i20 : Nat), i20 + n20 = nR → ∀ (a20 b20 : Nat) (cc20 : kT) (_ : LPo dd cc20 M nR nC nt nL nW nV nM cn nm mn me li rl xa) , a20 + 6 * n20 ≤ 72 → b20 + 36 * n20 ≤ 432 → kv dd g a20 b20 20 [(13, .int (nI i20)), (2, .long (cou (wvA M nR nC nt nL nW nV nM cn nm mn me li rl (M.1 24)) (M.2.1 3) i20)), (4, .long (msumJ (wvL M nR nC nt nL nW nV nM cn nm mn me li rl (M.1 24)) 0 0)), (6, .long (msumJ (fun t => (wvR M nR nC nt nL nW nV nM cn nm mn me li rl (M.1 24)) (nI t)) 0 0)), (8, .long (mex (wvA M nR nC nt nL nW nV nM cn nm mn me li rl (M.1 24)) (M.2.1 4) (M.2.1 5) (M.2.1 3) i20)), (12, .int 1), (0, .ref xa), (1, .ref (wx.2.1 0))] [] (jk cc20 wr wx) (jd cc20 wr wx) (jE cc20 wr wx) := by
    intro n20
    induction n20 with
    | zero =>
      intro i20 hin20 a20 b20 cc20  hL20  ha20 hb20
      have en20 : nR = i20 := by omega
      subst en20
      refine kv_iload X 0 dL_areSums_20 rfl ?_
      refine kv_aload_n X 7 dL_areSums_22 rfl rfl ?_
      refine kv_iconst (v := 0) X dL_areSums_23 (by decide) ?_
      refine kv_iaload X (κ := 2000) (n := 50) (j := 0) (f := fm) (j_x0.1.mpr hx.1) (j_x0.2.2.trans hx.2) (by omega) (by decide) dL_areSums_24 ?_
      refine kv_topi (nI nR) hm.1 ?_
      refine kn_icmp_ge (x := nR) (y := nR) (tgt := 194) X (by omega) (by omega) dL_areSums_25 (by decide) (fun hc25 => ?_) (fun hc25 => absurd hc25 (by omega))
      refine kv_iconst (v := 0) X dL_areSums_194 (by decide) ?_
      refine kv_istore (lv2 := [(13, .int 0), (2, .long (cou (wvA M nR nC nt nL nW nV nM cn nm mn me li rl (M.1 24)) (M.2.1 3) nR)), (4, .long (msumJ (wvL M nR nC nt nL nW nV nM cn nm mn me li rl (M.1 24)) 0 0)), (6, .long (msumJ (fun t => (wvR M nR nC nt nL nW nV nM cn nm mn me li rl (M.1 24)) (nI t)) 0 0)), (8, .long (mex (wvA M nR nC nt nL nW nV nM cn nm mn me li rl (M.1 24)) (M.2.1 4) (M.2.1 5) (M.2.1 3) nR)), (12, .int 1), (0, .ref xa), (1, .ref (wx.2.1 0))]) X dL_areSums_195 (by rw [hnL]; decide) rfl ?_
      have L197 : ∀ (n197 i197 : Nat), i197 + n197 = nL → ∀ (a197 b197 : Nat) (cc197 : kT) (_ : LPo dd cc197 M nR nC nt nL nW nV nM cn nm mn me li rl xa) , a197 + 2 * n197 ≤ 92 → b197 + 12 * n197 ≤ 552 → kv dd g a197 b197 197 [(13, .int (nI i197)), (2, .long (cou (wvA M nR nC nt nL nW nV nM cn nm mn me li rl (M.1 24)) (M.2.1 3) nR)), (4, .long (msumJ (wvL M nR nC nt nL nW nV nM cn nm mn me li rl (M.1 24)) 0 i197)), (6, .long (msumJ (fun t => (wvR M nR nC nt nL nW nV nM cn nm mn me li rl (M.1 24)) (nI t)) 0 0)), (8, .long (mex (wvA M nR nC nt nL nW nV nM cn nm mn me li rl (M.1 24)) (M.2.1 4) (M.2.1 5) (M.2.1 3) nR)), (12, .int 1), (0, .ref xa), (1, .ref (wx.2.1 0))] [] (jk cc197 wr wx) (jd cc197 wr wx) (jE cc197 wr wx) := by
        intro n197
        induction n197 with
        | zero =>
          intro i197 hin197 a197 b197 cc197  hL197  ha197 hb197
          have en197 : nL = i197 := by omega
          subst en197
          refine kv_iload X 0 dL_areSums_197 rfl ?_
          refine kv_aload_n X 7 dL_areSums_199 rfl rfl ?_
          refine kv_iconst (v := 2) X dL_areSums_200 (by decide) ?_
          refine kv_iaload X (κ := 2000) (n := 50) (j := 2) (f := fm) (j_x0.1.mpr hx.1) (j_x0.2.2.trans hx.2) (by omega) (by decide) dL_areSums_201 ?_
          refine kv_topi (nI nL) hm.2.2.1 ?_
          refine kn_icmp_ge (x := nL) (y := nL) (tgt := 225) X (by omega) (by omega) dL_areSums_202 (by decide) (fun hc202 => ?_) (fun hc202 => absurd hc202 (by omega))
          refine kv_iconst (v := 0) X dL_areSums_225 (by decide) ?_
          refine kv_istore (lv2 := [(13, .int 0), (2, .long (cou (wvA M nR nC nt nL nW nV nM cn nm mn me li rl (M.1 24)) (M.2.1 3) nR)), (4, .long (msumJ (wvL M nR nC nt nL nW nV nM cn nm mn me li rl (M.1 24)) 0 nL)), (6, .long (msumJ (fun t => (wvR M nR nC nt nL nW nV nM cn nm mn me li rl (M.1 24)) (nI t)) 0 0)), (8, .long (mex (wvA M nR nC nt nL nW nV nM cn nm mn me li rl (M.1 24)) (M.2.1 4) (M.2.1 5) (M.2.1 3) nR)), (12, .int 1), (0, .ref xa), (1, .ref (wx.2.1 0))]) X dL_areSums_226 (by rw [hnL]; decide) rfl ?_
          have L228 : ∀ (n228 i228 : Nat), i228 + n228 = 6 → ∀ (a228 b228 : Nat) (cc228 : kT) (_ : LPo dd cc228 M nR nC nt nL nW nV nM cn nm mn me li rl xa) , a228 + 2 * n228 ≤ 104 → b228 + 12 * n228 ≤ 624 → kv dd g a228 b228 228 [(13, .int (nI i228)), (2, .long (cou (wvA M nR nC nt nL nW nV nM cn nm mn me li rl (M.1 24)) (M.2.1 3) nR)), (4, .long (msumJ (wvL M nR nC nt nL nW nV nM cn nm mn me li rl (M.1 24)) 0 nL)), (6, .long (msumJ (fun t => (wvR M nR nC nt nL nW nV nM cn nm mn me li rl (M.1 24)) (nI t)) 0 i228)), (8, .long (mex (wvA M nR nC nt nL nW nV nM cn nm mn me li rl (M.1 24)) (M.2.1 4) (M.2.1 5) (M.2.1 3) nR)), (12, .int 1), (0, .ref xa), (1, .ref (wx.2.1 0))] [] (jk cc228 wr wx) (jd cc228 wr wx) (jE cc228 wr wx) := by
            intro n228
            induction n228 with
            | zero =>
              intro i228 hin228 a228 b228 cc228  hL228  ha228 hb228
              have en228 : 6 = i228 := by omega
              subst en228
              refine kv_iload X 0 dL_areSums_228 rfl ?_
              refine kv_bipush (v := 6) X dL_areSums_230 (by decide) ?_
              refine kn_icmp_ge (x := 6) (y := 6) (tgt := 255) X (by omega) (by omega) dL_areSums_232 (by decide) (fun hc232 => ?_) (fun hc232 => absurd hc232 (by omega))
              refine kv_aload_n X 6 dL_areSums_255 rfl rfl ?_
              refine kv_calllV (As := []) [] (ci := 13) (κ := 0) (r1 := (TX10, 3)) X (b_net l wr wx hL228) hl0 (kCV_of X 0 (goodIn_ext gL_areSums_X10_net) rfl rfl rfl (by decide +kernel) hRR ⟨(Nat.le_of_ble_eq_true rfl), (Nat.le_of_ble_eq_true rfl)⟩) (LP_obj hL228).1 (LP_obj hL228).2 rfl (by rw [LP_ref hL228]; rfl) rfl (Nat.le_of_ble_eq_true rfl) hRR ⟨(by show _ + 0 ≤ 150; omega), (by show _ + 0 ≤ 900; omega)⟩ dL_areSums_256 (fun r256 c256 h256 => ?_)
              obtain ⟨hL256, hv256⟩ := h256
              show kv dd g _ _ 259 [(13, .int (nI 6)), (2, .long (cou (wvA M nR nC nt nL nW nV nM cn nm mn me li rl (M.1 24)) (M.2.1 3) nR)), (4, .long (msumJ (wvL M nR nC nt nL nW nV nM cn nm mn me li rl (M.1 24)) 0 nL)), (6, .long (msumJ (fun t => (wvR M nR nC nt nL nW nV nM cn nm mn me li rl (M.1 24)) (nI t)) 0 6)), (8, .long (mex (wvA M nR nC nt nL nW nV nM cn nm mn me li rl (M.1 24)) (M.2.1 4) (M.2.1 5) (M.2.1 3) nR)), (12, .int 1), (0, .ref xa), (1, .ref (wx.2.1 0))] [.long r256] (jk c256 wr wx) (jd c256 wr wx) (jE c256 wr wx)
              obtain ⟨rfl, hs1, hs2, hs3⟩ := hv256
              refine kv_lstore (lv2 := [(13, .long (wvS M nR nC nt nL nW nV nM cn nm mn me li rl (M.1 24))), (2, .long (cou (wvA M nR nC nt nL nW nV nM cn nm mn me li rl (M.1 24)) (M.2.1 3) nR)), (4, .long (msumJ (wvL M nR nC nt nL nW nV nM cn nm mn me li rl (M.1 24)) 0 nL)), (6, .long (msumJ (fun t => (wvR M nR nC nt nL nW nV nM cn nm mn me li rl (M.1 24)) (nI t)) 0 6)), (8, .long (mex (wvA M nR nC nt nL nW nV nM cn nm mn me li rl (M.1 24)) (M.2.1 4) (M.2.1 5) (M.2.1 3) nR)), (12, .int 1), (0, .ref xa), (1, .ref (wx.2.1 0))]) X dL_areSums_259 (by rw [hnL]; decide) rfl ?_
              refine kv_lload X 0 dL_areSums_261 rfl ?_
              refine kv_lload X 4 dL_areSums_263 rfl ?_
              refine kv_ladd X dL_areSums_265 ?_
              refine kv_topl (msumJ (wvM M nR nC nt nL nW nV nM cn nm mn me li rl (M.1 24)) ((wvS M nR nC nt nL nW nV nM cn nm mn me li rl (M.1 24)) + (wvE M nR nC nt nL nW nV nM cn nm mn me li rl (M.1 24))) 0) rfl ?_
              refine kv_lstore (lv2 := [(10, .long (msumJ (wvM M nR nC nt nL nW nV nM cn nm mn me li rl (M.1 24)) ((wvS M nR nC nt nL nW nV nM cn nm mn me li rl (M.1 24)) + (wvE M nR nC nt nL nW nV nM cn nm mn me li rl (M.1 24))) 0)), (13, .long (wvS M nR nC nt nL nW nV nM cn nm mn me li rl (M.1 24))), (2, .long (cou (wvA M nR nC nt nL nW nV nM cn nm mn me li rl (M.1 24)) (M.2.1 3) nR)), (4, .long (msumJ (wvL M nR nC nt nL nW nV nM cn nm mn me li rl (M.1 24)) 0 nL)), (6, .long (msumJ (fun t => (wvR M nR nC nt nL nW nV nM cn nm mn me li rl (M.1 24)) (nI t)) 0 6)), (8, .long (mex (wvA M nR nC nt nL nW nV nM cn nm mn me li rl (M.1 24)) (M.2.1 4) (M.2.1 5) (M.2.1 3) nR)), (12, .int 1), (0, .ref xa), (1, .ref (wx.2.1 0))]) X dL_areSums_266 (by rw [hnL]; decide) rfl ?_
              refine kv_iconst (v := 0) X dL_areSums_268 (by decide) ?_
              refine kv_istore (lv2 := [(15, .int 0), (10, .long (msumJ (wvM M nR nC nt nL nW nV nM cn nm mn me li rl (M.1 24)) ((wvS M nR nC nt nL nW nV nM cn nm mn me li rl (M.1 24)) + (wvE M nR nC nt nL nW nV nM cn nm mn me li rl (M.1 24))) 0)), (13, .long (wvS M nR nC nt nL nW nV nM cn nm mn me li rl (M.1 24))), (2, .long (cou (wvA M nR nC nt nL nW nV nM cn nm mn me li rl (M.1 24)) (M.2.1 3) nR)), (4, .long (msumJ (wvL M nR nC nt nL nW nV nM cn nm mn me li rl (M.1 24)) 0 nL)), (6, .long (msumJ (fun t => (wvR M nR nC nt nL nW nV nM cn nm mn me li rl (M.1 24)) (nI t)) 0 6)), (8, .long (mex (wvA M nR nC nt nL nW nV nM cn nm mn me li rl (M.1 24)) (M.2.1 4) (M.2.1 5) (M.2.1 3) nR)), (12, .int 1), (0, .ref xa), (1, .ref (wx.2.1 0))]) X dL_areSums_269 (by rw [hnL]; decide) rfl ?_
              have L271 : ∀ (n271 i271 : Nat), i271 + n271 = nM → ∀ (a271 b271 : Nat) (cc271 : kT) (_ : LPo dd cc271 M nR nC nt nL nW nV nM cn nm mn me li rl xa) , a271 + 2 * n271 ≤ 112 → b271 + 12 * n271 ≤ 672 → kv dd g a271 b271 271 [(15, .int (nI i271)), (10, .long (msumJ (wvM M nR nC nt nL nW nV nM cn nm mn me li rl (M.1 24)) ((wvS M nR nC nt nL nW nV nM cn nm mn me li rl (M.1 24)) + (wvE M nR nC nt nL nW nV nM cn nm mn me li rl (M.1 24))) i271)), (13, .long (wvS M nR nC nt nL nW nV nM cn nm mn me li rl (M.1 24))), (2, .long (cou (wvA M nR nC nt nL nW nV nM cn nm mn me li rl (M.1 24)) (M.2.1 3) nR)), (4, .long (msumJ (wvL M nR nC nt nL nW nV nM cn nm mn me li rl (M.1 24)) 0 nL)), (6, .long (msumJ (fun t => (wvR M nR nC nt nL nW nV nM cn nm mn me li rl (M.1 24)) (nI t)) 0 6)), (8, .long (mex (wvA M nR nC nt nL nW nV nM cn nm mn me li rl (M.1 24)) (M.2.1 4) (M.2.1 5) (M.2.1 3) nR)), (12, .int 1), (0, .ref xa), (1, .ref (wx.2.1 0))] [] (jk cc271 wr wx) (jd cc271 wr wx) (jE cc271 wr wx) := by
                intro n271
                induction n271 with
                | zero =>
                  intro i271 hin271 a271 b271 cc271  hL271  ha271 hb271
                  have en271 : nM = i271 := by omega
                  subst en271
                  refine kv_iload X 0 dL_areSums_271 rfl ?_
                  refine kv_aload_n X 9 dL_areSums_273 rfl rfl ?_
                  refine kv_iconst (v := 4) X dL_areSums_274 (by decide) ?_
                  refine kv_iaload X (κ := 2000) (n := 50) (j := 4) (f := fm) (j_x0.1.mpr hx.1) (j_x0.2.2.trans hx.2) (by omega) (by decide) dL_areSums_275 ?_
                  refine kv_topi (nI nM) hm.2.2.2.2.1 ?_
                  refine kn_icmp_ge (x := nM) (y := nM) (tgt := 299) X (by omega) (by omega) dL_areSums_276 (by decide) (fun hc276 => ?_) (fun hc276 => absurd hc276 (by omega))
                  refine kv_iload X 7 dL_areSums_299 rfl ?_
                  refine kv_if_eq (tgt := 383) X dL_areSums_301 (by decide) (fun hc => absurd hc (by decide)) (fun hc301 => ?_)
                  refine kv_lload X 2 dL_areSums_304 rfl ?_
                  refine kv_lload_n X 3 dL_areSums_306 rfl rfl ?_
                  refine kv_lcmp X dL_areSums_307 ?_
                  refine kv_if_ne (tgt := 383) X dL_areSums_308 (by decide) (fun hc308 => False.elim (hc308 (lce rfl))) (fun hc308 => ?_)
                  refine kv_lload X 2 dL_areSums_311 rfl ?_
                  refine kv_lload X 4 dL_areSums_313 rfl ?_
                  refine kv_lcmp X dL_areSums_315 ?_
                  refine kv_if_ne (tgt := 383) X dL_areSums_316 (by decide) (fun hc316 => False.elim (hc316 (lce hs1))) (fun hc316 => ?_)
                  refine kv_lload X 2 dL_areSums_319 rfl ?_
                  refine kv_lload X 5 dL_areSums_321 rfl ?_
                  refine kv_lcmp X dL_areSums_323 ?_
                  refine kv_if_ne (tgt := 383) X dL_areSums_324 (by decide) (fun hc324 => False.elim (hc324 (lce hs2))) (fun hc324 => ?_)
                  refine kv_lload X 2 dL_areSums_327 rfl ?_
                  refine kv_aload_n X 8 dL_areSums_329 rfl rfl ?_
                  refine kv_bipush (v := 12) X dL_areSums_330 (by decide) ?_
                  refine kv_iconst (v := 0) X dL_areSums_332 (by decide) ?_
                  refine kv_iconst (v := 0) X dL_areSums_333 (by decide) ?_
                  refine kv_calllSW (As := [.ref xa, .int 12, .int 0, .int 0]) [.long (wvS M nR nC nt nL nW nV nM cn nm mn me li rl (M.1 24))] X (a_costOfKind l wr wx hL271 0 0) hl0 (kCSW_of X 4 (show GoodIn (wsL_areSums ++ kHp) (va_wsS RL 169 yL_ask (wsL_ask ++ kHp)) from gK (pre := [Cond.methodLink RL 169 yL_ask, Cond.static yL_ask, Cond.initialized yL_ask.cls]) gL_areSums_L_ask) rfl rfl rfl (by decide +kernel) hRR ⟨(Nat.le_of_ble_eq_true rfl), (Nat.le_of_ble_eq_true rfl)⟩) rfl rfl (Nat.le_of_ble_eq_true rfl) hRR ⟨(by show _ + 2 ≤ 150; omega), (by show _ + 12 ≤ 900; omega)⟩ dL_areSums_334 (fun r334 c334 h334 => ?_)
                  obtain ⟨hL334, hv334⟩ := h334
                  show kv dd g _ _ 337 [(15, .int (nI nM)), (10, .long (msumJ (wvM M nR nC nt nL nW nV nM cn nm mn me li rl (M.1 24)) ((wvS M nR nC nt nL nW nV nM cn nm mn me li rl (M.1 24)) + (wvE M nR nC nt nL nW nV nM cn nm mn me li rl (M.1 24))) nM)), (13, .long (wvS M nR nC nt nL nW nV nM cn nm mn me li rl (M.1 24))), (2, .long (cou (wvA M nR nC nt nL nW nV nM cn nm mn me li rl (M.1 24)) (M.2.1 3) nR)), (4, .long (msumJ (wvL M nR nC nt nL nW nV nM cn nm mn me li rl (M.1 24)) 0 nL)), (6, .long (msumJ (fun t => (wvR M nR nC nt nL nW nV nM cn nm mn me li rl (M.1 24)) (nI t)) 0 6)), (8, .long (mex (wvA M nR nC nt nL nW nV nM cn nm mn me li rl (M.1 24)) (M.2.1 4) (M.2.1 5) (M.2.1 3) nR)), (12, .int 1), (0, .ref xa), (1, .ref (wx.2.1 0))] [.long r334, .long (wvS M nR nC nt nL nW nV nM cn nm mn me li rl (M.1 24))] (jk c334 wr wx) (jd c334 wr wx) (jE c334 wr wx)
                  obtain rfl := q_yes hv334 (by decide)
                  refine kv_aload_n X 8 dL_areSums_337 rfl rfl ?_
                  refine kv_bipush (v := 12) X dL_areSums_338 (by decide) ?_
                  refine kv_iconst (v := 1) X dL_areSums_340 (by decide) ?_
                  refine kv_iconst (v := 0) X dL_areSums_341 (by decide) ?_
                  refine kv_calllSW (As := [.ref xa, .int 12, .int 1, .int 0]) [.long ((wvK M nR nC nt nL nW nV nM cn nm mn me li rl (M.1 24)) 0), .long (wvS M nR nC nt nL nW nV nM cn nm mn me li rl (M.1 24))] X (a_costOfKind l wr wx hL334 1 0) hl0 (kCSW_of X 4 (show GoodIn (wsL_areSums ++ kHp) (va_wsS RL 169 yL_ask (wsL_ask ++ kHp)) from gK (pre := [Cond.methodLink RL 169 yL_ask, Cond.static yL_ask, Cond.initialized yL_ask.cls]) gL_areSums_L_ask) rfl rfl rfl (by decide +kernel) hRR ⟨(Nat.le_of_ble_eq_true rfl), (Nat.le_of_ble_eq_true rfl)⟩) rfl rfl (Nat.le_of_ble_eq_true rfl) hRR ⟨(by show _ + 2 ≤ 150; omega), (by show _ + 12 ≤ 900; omega)⟩ dL_areSums_342 (fun r342 c342 h342 => ?_)
                  obtain ⟨hL342, hv342⟩ := h342
                  show kv dd g _ _ 345 [(15, .int (nI nM)), (10, .long (msumJ (wvM M nR nC nt nL nW nV nM cn nm mn me li rl (M.1 24)) ((wvS M nR nC nt nL nW nV nM cn nm mn me li rl (M.1 24)) + (wvE M nR nC nt nL nW nV nM cn nm mn me li rl (M.1 24))) nM)), (13, .long (wvS M nR nC nt nL nW nV nM cn nm mn me li rl (M.1 24))), (2, .long (cou (wvA M nR nC nt nL nW nV nM cn nm mn me li rl (M.1 24)) (M.2.1 3) nR)), (4, .long (msumJ (wvL M nR nC nt nL nW nV nM cn nm mn me li rl (M.1 24)) 0 nL)), (6, .long (msumJ (fun t => (wvR M nR nC nt nL nW nV nM cn nm mn me li rl (M.1 24)) (nI t)) 0 6)), (8, .long (mex (wvA M nR nC nt nL nW nV nM cn nm mn me li rl (M.1 24)) (M.2.1 4) (M.2.1 5) (M.2.1 3) nR)), (12, .int 1), (0, .ref xa), (1, .ref (wx.2.1 0))] [.long r342, .long ((wvK M nR nC nt nL nW nV nM cn nm mn me li rl (M.1 24)) 0), .long (wvS M nR nC nt nL nW nV nM cn nm mn me li rl (M.1 24))] (jk c342 wr wx) (jd c342 wr wx) (jE c342 wr wx)
                  obtain rfl := q_yes hv342 (by decide)
                  refine kv_ladd X dL_areSums_345 ?_
                  refine kv_aload_n X 8 dL_areSums_346 rfl rfl ?_
                  refine kv_bipush (v := 12) X dL_areSums_347 (by decide) ?_
                  refine kv_iconst (v := 2) X dL_areSums_349 (by decide) ?_
                  refine kv_iconst (v := 0) X dL_areSums_350 (by decide) ?_
                  refine kv_calllSW (As := [.ref xa, .int 12, .int 2, .int 0]) [.long (((wvK M nR nC nt nL nW nV nM cn nm mn me li rl (M.1 24)) 0) + ((wvK M nR nC nt nL nW nV nM cn nm mn me li rl (M.1 24)) 1)), .long (wvS M nR nC nt nL nW nV nM cn nm mn me li rl (M.1 24))] X (a_costOfKind l wr wx hL342 2 0) hl0 (kCSW_of X 4 (show GoodIn (wsL_areSums ++ kHp) (va_wsS RL 169 yL_ask (wsL_ask ++ kHp)) from gK (pre := [Cond.methodLink RL 169 yL_ask, Cond.static yL_ask, Cond.initialized yL_ask.cls]) gL_areSums_L_ask) rfl rfl rfl (by decide +kernel) hRR ⟨(Nat.le_of_ble_eq_true rfl), (Nat.le_of_ble_eq_true rfl)⟩) rfl rfl (Nat.le_of_ble_eq_true rfl) hRR ⟨(by show _ + 2 ≤ 150; omega), (by show _ + 12 ≤ 900; omega)⟩ dL_areSums_351 (fun r351 c351 h351 => ?_)
                  obtain ⟨hL351, hv351⟩ := h351
                  show kv dd g _ _ 354 [(15, .int (nI nM)), (10, .long (msumJ (wvM M nR nC nt nL nW nV nM cn nm mn me li rl (M.1 24)) ((wvS M nR nC nt nL nW nV nM cn nm mn me li rl (M.1 24)) + (wvE M nR nC nt nL nW nV nM cn nm mn me li rl (M.1 24))) nM)), (13, .long (wvS M nR nC nt nL nW nV nM cn nm mn me li rl (M.1 24))), (2, .long (cou (wvA M nR nC nt nL nW nV nM cn nm mn me li rl (M.1 24)) (M.2.1 3) nR)), (4, .long (msumJ (wvL M nR nC nt nL nW nV nM cn nm mn me li rl (M.1 24)) 0 nL)), (6, .long (msumJ (fun t => (wvR M nR nC nt nL nW nV nM cn nm mn me li rl (M.1 24)) (nI t)) 0 6)), (8, .long (mex (wvA M nR nC nt nL nW nV nM cn nm mn me li rl (M.1 24)) (M.2.1 4) (M.2.1 5) (M.2.1 3) nR)), (12, .int 1), (0, .ref xa), (1, .ref (wx.2.1 0))] [.long r351, .long (((wvK M nR nC nt nL nW nV nM cn nm mn me li rl (M.1 24)) 0) + ((wvK M nR nC nt nL nW nV nM cn nm mn me li rl (M.1 24)) 1)), .long (wvS M nR nC nt nL nW nV nM cn nm mn me li rl (M.1 24))] (jk c351 wr wx) (jd c351 wr wx) (jE c351 wr wx)
                  obtain rfl := q_yes hv351 (by decide)
                  refine kv_ladd X dL_areSums_354 ?_
                  refine kv_lcmp X dL_areSums_355 ?_
                  refine kv_if_ne (tgt := 383) X dL_areSums_356 (by decide) (fun hc356 => False.elim (hc356 (lce hs3.symm))) (fun hc356 => ?_)
                  refine kv_aload_n X 8 dL_areSums_359 rfl rfl ?_
                  refine kv_calllV (As := []) [] (ci := 13) (κ := 0) (r1 := (TX10, 3)) X (b_extra l wr wx hL351) hl0 (kCV_of X 0 (goodIn_ext gL_areSums_X10_extra) rfl rfl rfl (by decide +kernel) hRR ⟨(Nat.le_of_ble_eq_true rfl), (Nat.le_of_ble_eq_true rfl)⟩) (LP_obj hL351).1 (LP_obj hL351).2 rfl (by rw [LP_ref hL351]; rfl) rfl (Nat.le_of_ble_eq_true rfl) hRR ⟨(by show _ + 0 ≤ 150; omega), (by show _ + 0 ≤ 900; omega)⟩ dL_areSums_360 (fun r360 c360 h360 => ?_)
                  obtain ⟨hL360, hv360⟩ := h360
                  show kv dd g _ _ 363 [(15, .int (nI nM)), (10, .long (msumJ (wvM M nR nC nt nL nW nV nM cn nm mn me li rl (M.1 24)) ((wvS M nR nC nt nL nW nV nM cn nm mn me li rl (M.1 24)) + (wvE M nR nC nt nL nW nV nM cn nm mn me li rl (M.1 24))) nM)), (13, .long (wvS M nR nC nt nL nW nV nM cn nm mn me li rl (M.1 24))), (2, .long (cou (wvA M nR nC nt nL nW nV nM cn nm mn me li rl (M.1 24)) (M.2.1 3) nR)), (4, .long (msumJ (wvL M nR nC nt nL nW nV nM cn nm mn me li rl (M.1 24)) 0 nL)), (6, .long (msumJ (fun t => (wvR M nR nC nt nL nW nV nM cn nm mn me li rl (M.1 24)) (nI t)) 0 6)), (8, .long (mex (wvA M nR nC nt nL nW nV nM cn nm mn me li rl (M.1 24)) (M.2.1 4) (M.2.1 5) (M.2.1 3) nR)), (12, .int 1), (0, .ref xa), (1, .ref (wx.2.1 0))] [.long r360] (jk c360 wr wx) (jd c360 wr wx) (jE c360 wr wx)
                  subst hv360
                  refine kv_lload X 6 dL_areSums_363 rfl ?_
                  refine kv_lcmp X dL_areSums_365 ?_
                  refine kv_if_ne (tgt := 383) X dL_areSums_366 (by decide) (fun hc366 => False.elim (hc366 (lce rfl))) (fun hc366 => ?_)
                  refine kv_aload_n X 8 dL_areSums_369 rfl rfl ?_
                  refine kv_calllV (As := []) [] (ci := 13) (κ := 0) (r1 := (TX10, 3)) X (b_total l wr wx hL360) hl0 (kCV_of X 0 (goodIn_ext gL_areSums_X10_total) rfl rfl rfl (by decide +kernel) hRR ⟨(Nat.le_of_ble_eq_true rfl), (Nat.le_of_ble_eq_true rfl)⟩) (LP_obj hL360).1 (LP_obj hL360).2 rfl (by rw [LP_ref hL360]; rfl) rfl (Nat.le_of_ble_eq_true rfl) hRR ⟨(by show _ + 0 ≤ 150; omega), (by show _ + 0 ≤ 900; omega)⟩ dL_areSums_370 (fun r370 c370 h370 => ?_)
                  obtain ⟨hL370, hv370⟩ := h370
                  show kv dd g _ _ 373 [(15, .int (nI nM)), (10, .long (msumJ (wvM M nR nC nt nL nW nV nM cn nm mn me li rl (M.1 24)) ((wvS M nR nC nt nL nW nV nM cn nm mn me li rl (M.1 24)) + (wvE M nR nC nt nL nW nV nM cn nm mn me li rl (M.1 24))) nM)), (13, .long (wvS M nR nC nt nL nW nV nM cn nm mn me li rl (M.1 24))), (2, .long (cou (wvA M nR nC nt nL nW nV nM cn nm mn me li rl (M.1 24)) (M.2.1 3) nR)), (4, .long (msumJ (wvL M nR nC nt nL nW nV nM cn nm mn me li rl (M.1 24)) 0 nL)), (6, .long (msumJ (fun t => (wvR M nR nC nt nL nW nV nM cn nm mn me li rl (M.1 24)) (nI t)) 0 6)), (8, .long (mex (wvA M nR nC nt nL nW nV nM cn nm mn me li rl (M.1 24)) (M.2.1 4) (M.2.1 5) (M.2.1 3) nR)), (12, .int 1), (0, .ref xa), (1, .ref (wx.2.1 0))] [.long r370] (jk c370 wr wx) (jd c370 wr wx) (jE c370 wr wx)
                  subst hv370
                  refine kv_lload X 1 dL_areSums_373 rfl ?_
                  refine kv_lcmp X dL_areSums_375 ?_
                  refine kv_if_ne (tgt := 383) X dL_areSums_376 (by decide) (fun hc376 => False.elim (hc376 (lce rfl))) (fun hc376 => ?_)
                  refine kv_iconst (v := 1) X dL_areSums_379 (by decide) ?_
                  refine kv_goto (tgt := 384) X dL_areSums_380 (by decide) ?_
                  refine kv_istore (lv2 := [(12, .int 1), (15, .int (nI nM)), (10, .long (msumJ (wvM M nR nC nt nL nW nV nM cn nm mn me li rl (M.1 24)) ((wvS M nR nC nt nL nW nV nM cn nm mn me li rl (M.1 24)) + (wvE M nR nC nt nL nW nV nM cn nm mn me li rl (M.1 24))) nM)), (13, .long (wvS M nR nC nt nL nW nV nM cn nm mn me li rl (M.1 24))), (2, .long (cou (wvA M nR nC nt nL nW nV nM cn nm mn me li rl (M.1 24)) (M.2.1 3) nR)), (4, .long (msumJ (wvL M nR nC nt nL nW nV nM cn nm mn me li rl (M.1 24)) 0 nL)), (6, .long (msumJ (fun t => (wvR M nR nC nt nL nW nV nM cn nm mn me li rl (M.1 24)) (nI t)) 0 6)), (8, .long (mex (wvA M nR nC nt nL nW nV nM cn nm mn me li rl (M.1 24)) (M.2.1 4) (M.2.1 5) (M.2.1 3) nR)), (0, .ref xa), (1, .ref (wx.2.1 0))]) X dL_areSums_384 (by rw [hnL]; decide) rfl ?_
                  refine kv_iload X 0 dL_areSums_386 rfl ?_
                  refine kv_if_eq (tgt := 486) X dL_areSums_388 (by decide) (fun hc => absurd hc (by decide)) (fun hc388 => ?_)
                  refine kv_aload_n X 8 dL_areSums_391 rfl rfl ?_
                  refine kv_bipush (v := 7) X dL_areSums_392 (by decide) ?_
                  refine kv_aload_n X 9 dL_areSums_394 rfl rfl ?_
                  refine kv_iconst (v := 0) X dL_areSums_395 (by decide) ?_
                  refine kv_iaload X (κ := 2000) (n := 50) (j := 0) (f := fm) (j_x0.1.mpr hx.1) (j_x0.2.2.trans hx.2) (by omega) (by decide) dL_areSums_396 ?_
                  refine kv_topi (nI nR) hm.1 ?_
                  refine kv_iconst (v := 0) X dL_areSums_397 (by decide) ?_
                  refine kv_calllSW (As := [.ref xa, .int 7, .int (nI nR), .int 0]) [] X (a_amount l wr wx hL370 (nI nR) 0) hl0 (kCSW_of X 4 (show GoodIn (wsL_areSums ++ kHp) (va_wsS RL 169 yL_ask (wsL_ask ++ kHp)) from gK (pre := [Cond.methodLink RL 169 yL_ask, Cond.static yL_ask, Cond.initialized yL_ask.cls]) gL_areSums_L_ask) rfl rfl rfl (by decide +kernel) hRR ⟨(Nat.le_of_ble_eq_true rfl), (Nat.le_of_ble_eq_true rfl)⟩) rfl rfl (Nat.le_of_ble_eq_true rfl) hRR ⟨(by show _ + 2 ≤ 150; omega), (by show _ + 12 ≤ 900; omega)⟩ dL_areSums_398 (fun r398 c398 h398 => ?_)
                  obtain ⟨hL398, hv398⟩ := h398
                  show kv dd g _ _ 401 [(12, .int 1), (15, .int (nI nM)), (10, .long (msumJ (wvM M nR nC nt nL nW nV nM cn nm mn me li rl (M.1 24)) ((wvS M nR nC nt nL nW nV nM cn nm mn me li rl (M.1 24)) + (wvE M nR nC nt nL nW nV nM cn nm mn me li rl (M.1 24))) nM)), (13, .long (wvS M nR nC nt nL nW nV nM cn nm mn me li rl (M.1 24))), (2, .long (cou (wvA M nR nC nt nL nW nV nM cn nm mn me li rl (M.1 24)) (M.2.1 3) nR)), (4, .long (msumJ (wvL M nR nC nt nL nW nV nM cn nm mn me li rl (M.1 24)) 0 nL)), (6, .long (msumJ (fun t => (wvR M nR nC nt nL nW nV nM cn nm mn me li rl (M.1 24)) (nI t)) 0 6)), (8, .long (mex (wvA M nR nC nt nL nW nV nM cn nm mn me li rl (M.1 24)) (M.2.1 4) (M.2.1 5) (M.2.1 3) nR)), (0, .ref xa), (1, .ref (wx.2.1 0))] [.long r398] (jk c398 wr wx) (jd c398 wr wx) (jE c398 wr wx)
                  obtain rfl := q_out hv398 (by omega)
                  refine kv_ldc2 (v := (-2001)) X dL_areSums_401 (List.mem_append_left _ (List.mem_cons_of_mem _ (List.mem_append_left _ (List.mem_append_left _ (List.mem_append_left _ (List.mem_append_left _ (List.mem_append_left _ (List.mem_append_left _ (List.mem_append_left _ (List.mem_append_left _ (List.mem_append_left _ (List.mem_append_left _ (List.mem_append_left _ (List.mem_append_left _ (List.mem_append_left _ (List.mem_append_left _ (List.mem_append_left _ (List.mem_append_left _ (List.mem_append_left _ (List.mem_append_left _ (List.mem_append_left _ (List.mem_append_left _ (List.mem_of_getElem? (i := 2) rfl))))))))))))))))))))))) ?_
                  refine kv_lcmp X dL_areSums_404 ?_
                  refine kv_if_ne (tgt := 486) X dL_areSums_405 (by decide) (fun hc405 => False.elim (hc405 lcs)) (fun hc405 => ?_)
                  refine kv_aload_n X 8 dL_areSums_408 rfl rfl ?_
                  refine kv_bipush (v := 10) X dL_areSums_409 (by decide) ?_
                  refine kv_aload_n X 9 dL_areSums_411 rfl rfl ?_
                  refine kv_iconst (v := 2) X dL_areSums_412 (by decide) ?_
                  refine kv_iaload X (κ := 2000) (n := 50) (j := 2) (f := fm) (j_x0.1.mpr hx.1) (j_x0.2.2.trans hx.2) (by omega) (by decide) dL_areSums_413 ?_
                  refine kv_topi (nI nL) hm.2.2.1 ?_
                  refine kv_iconst (v := 0) X dL_areSums_414 (by decide) ?_
                  refine kv_calllSW (As := [.ref xa, .int 10, .int (nI nL), .int 0]) [] X (a_costOfLine l wr wx hL398 (nI nL) 0) hl0 (kCSW_of X 4 (show GoodIn (wsL_areSums ++ kHp) (va_wsS RL 169 yL_ask (wsL_ask ++ kHp)) from gK (pre := [Cond.methodLink RL 169 yL_ask, Cond.static yL_ask, Cond.initialized yL_ask.cls]) gL_areSums_L_ask) rfl rfl rfl (by decide +kernel) hRR ⟨(Nat.le_of_ble_eq_true rfl), (Nat.le_of_ble_eq_true rfl)⟩) rfl rfl (Nat.le_of_ble_eq_true rfl) hRR ⟨(by show _ + 2 ≤ 150; omega), (by show _ + 12 ≤ 900; omega)⟩ dL_areSums_415 (fun r415 c415 h415 => ?_)
                  obtain ⟨hL415, hv415⟩ := h415
                  show kv dd g _ _ 418 [(12, .int 1), (15, .int (nI nM)), (10, .long (msumJ (wvM M nR nC nt nL nW nV nM cn nm mn me li rl (M.1 24)) ((wvS M nR nC nt nL nW nV nM cn nm mn me li rl (M.1 24)) + (wvE M nR nC nt nL nW nV nM cn nm mn me li rl (M.1 24))) nM)), (13, .long (wvS M nR nC nt nL nW nV nM cn nm mn me li rl (M.1 24))), (2, .long (cou (wvA M nR nC nt nL nW nV nM cn nm mn me li rl (M.1 24)) (M.2.1 3) nR)), (4, .long (msumJ (wvL M nR nC nt nL nW nV nM cn nm mn me li rl (M.1 24)) 0 nL)), (6, .long (msumJ (fun t => (wvR M nR nC nt nL nW nV nM cn nm mn me li rl (M.1 24)) (nI t)) 0 6)), (8, .long (mex (wvA M nR nC nt nL nW nV nM cn nm mn me li rl (M.1 24)) (M.2.1 4) (M.2.1 5) (M.2.1 3) nR)), (0, .ref xa), (1, .ref (wx.2.1 0))] [.long r415] (jk c415 wr wx) (jd c415 wr wx) (jE c415 wr wx)
                  obtain rfl := q_out hv415 (by omega)
                  refine kv_ldc2 (v := (-2001)) X dL_areSums_418 (List.mem_append_left _ (List.mem_cons_of_mem _ (List.mem_append_left _ (List.mem_append_left _ (List.mem_append_left _ (List.mem_append_left _ (List.mem_append_left _ (List.mem_append_left _ (List.mem_append_left _ (List.mem_append_left _ (List.mem_append_left _ (List.mem_append_left _ (List.mem_append_left _ (List.mem_append_left _ (List.mem_append_left _ (List.mem_append_left _ (List.mem_append_left _ (List.mem_append_left _ (List.mem_append_left _ (List.mem_append_left _ (List.mem_append_left _ (List.mem_append_left _ (List.mem_of_getElem? (i := 2) rfl))))))))))))))))))))))) ?_
                  refine kv_lcmp X dL_areSums_421 ?_
                  refine kv_if_ne (tgt := 486) X dL_areSums_422 (by decide) (fun hc422 => False.elim (hc422 lcs)) (fun hc422 => ?_)
                  refine kv_aload_n X 8 dL_areSums_425 rfl rfl ?_
                  refine kv_bipush (v := 11) X dL_areSums_426 (by decide) ?_
                  refine kv_bipush (v := 6) X dL_areSums_428 (by decide) ?_
                  refine kv_iconst (v := 0) X dL_areSums_430 (by decide) ?_
                  refine kv_calllSW (As := [.ref xa, .int 11, .int 6, .int 0]) [] X (a_costOfTrade l wr wx hL415 6 0) hl0 (kCSW_of X 4 (show GoodIn (wsL_areSums ++ kHp) (va_wsS RL 169 yL_ask (wsL_ask ++ kHp)) from gK (pre := [Cond.methodLink RL 169 yL_ask, Cond.static yL_ask, Cond.initialized yL_ask.cls]) gL_areSums_L_ask) rfl rfl rfl (by decide +kernel) hRR ⟨(Nat.le_of_ble_eq_true rfl), (Nat.le_of_ble_eq_true rfl)⟩) rfl rfl (Nat.le_of_ble_eq_true rfl) hRR ⟨(by show _ + 2 ≤ 150; omega), (by show _ + 12 ≤ 900; omega)⟩ dL_areSums_431 (fun r431 c431 h431 => ?_)
                  obtain ⟨hL431, hv431⟩ := h431
                  show kv dd g _ _ 434 [(12, .int 1), (15, .int (nI nM)), (10, .long (msumJ (wvM M nR nC nt nL nW nV nM cn nm mn me li rl (M.1 24)) ((wvS M nR nC nt nL nW nV nM cn nm mn me li rl (M.1 24)) + (wvE M nR nC nt nL nW nV nM cn nm mn me li rl (M.1 24))) nM)), (13, .long (wvS M nR nC nt nL nW nV nM cn nm mn me li rl (M.1 24))), (2, .long (cou (wvA M nR nC nt nL nW nV nM cn nm mn me li rl (M.1 24)) (M.2.1 3) nR)), (4, .long (msumJ (wvL M nR nC nt nL nW nV nM cn nm mn me li rl (M.1 24)) 0 nL)), (6, .long (msumJ (fun t => (wvR M nR nC nt nL nW nV nM cn nm mn me li rl (M.1 24)) (nI t)) 0 6)), (8, .long (mex (wvA M nR nC nt nL nW nV nM cn nm mn me li rl (M.1 24)) (M.2.1 4) (M.2.1 5) (M.2.1 3) nR)), (0, .ref xa), (1, .ref (wx.2.1 0))] [.long r431] (jk c431 wr wx) (jd c431 wr wx) (jE c431 wr wx)
                  obtain rfl := q_no hv431 (by decide)
                  refine kv_ldc2 (v := (-2002)) X dL_areSums_434 (List.mem_append_left _ (List.mem_cons_of_mem _ (List.mem_append_left _ (List.mem_append_left _ (List.mem_append_left _ (List.mem_append_left _ (List.mem_append_left _ (List.mem_append_left _ (List.mem_append_left _ (List.mem_append_left _ (List.mem_append_left _ (List.mem_append_left _ (List.mem_append_left _ (List.mem_append_left _ (List.mem_append_left _ (List.mem_append_left _ (List.mem_append_left _ (List.mem_append_left _ (List.mem_append_left _ (List.mem_append_left _ (List.mem_append_left _ (List.mem_append_left _ (List.mem_of_getElem? (i := 3) rfl))))))))))))))))))))))) ?_
                  refine kv_lcmp X dL_areSums_437 ?_
                  refine kv_if_ne (tgt := 486) X dL_areSums_438 (by decide) (fun hc438 => False.elim (hc438 lcs)) (fun hc438 => ?_)
                  refine kv_aload_n X 8 dL_areSums_441 rfl rfl ?_
                  refine kv_bipush (v := 12) X dL_areSums_442 (by decide) ?_
                  refine kv_iconst (v := 3) X dL_areSums_444 (by decide) ?_
                  refine kv_iconst (v := 0) X dL_areSums_445 (by decide) ?_
                  refine kv_calllSW (As := [.ref xa, .int 12, .int 3, .int 0]) [] X (a_costOfKind l wr wx hL431 3 0) hl0 (kCSW_of X 4 (show GoodIn (wsL_areSums ++ kHp) (va_wsS RL 169 yL_ask (wsL_ask ++ kHp)) from gK (pre := [Cond.methodLink RL 169 yL_ask, Cond.static yL_ask, Cond.initialized yL_ask.cls]) gL_areSums_L_ask) rfl rfl rfl (by decide +kernel) hRR ⟨(Nat.le_of_ble_eq_true rfl), (Nat.le_of_ble_eq_true rfl)⟩) rfl rfl (Nat.le_of_ble_eq_true rfl) hRR ⟨(by show _ + 2 ≤ 150; omega), (by show _ + 12 ≤ 900; omega)⟩ dL_areSums_446 (fun r446 c446 h446 => ?_)
                  obtain ⟨hL446, hv446⟩ := h446
                  show kv dd g _ _ 449 [(12, .int 1), (15, .int (nI nM)), (10, .long (msumJ (wvM M nR nC nt nL nW nV nM cn nm mn me li rl (M.1 24)) ((wvS M nR nC nt nL nW nV nM cn nm mn me li rl (M.1 24)) + (wvE M nR nC nt nL nW nV nM cn nm mn me li rl (M.1 24))) nM)), (13, .long (wvS M nR nC nt nL nW nV nM cn nm mn me li rl (M.1 24))), (2, .long (cou (wvA M nR nC nt nL nW nV nM cn nm mn me li rl (M.1 24)) (M.2.1 3) nR)), (4, .long (msumJ (wvL M nR nC nt nL nW nV nM cn nm mn me li rl (M.1 24)) 0 nL)), (6, .long (msumJ (fun t => (wvR M nR nC nt nL nW nV nM cn nm mn me li rl (M.1 24)) (nI t)) 0 6)), (8, .long (mex (wvA M nR nC nt nL nW nV nM cn nm mn me li rl (M.1 24)) (M.2.1 4) (M.2.1 5) (M.2.1 3) nR)), (0, .ref xa), (1, .ref (wx.2.1 0))] [.long r446] (jk c446 wr wx) (jd c446 wr wx) (jE c446 wr wx)
                  obtain rfl := q_no hv446 (by decide)
                  refine kv_ldc2 (v := (-2002)) X dL_areSums_449 (List.mem_append_left _ (List.mem_cons_of_mem _ (List.mem_append_left _ (List.mem_append_left _ (List.mem_append_left _ (List.mem_append_left _ (List.mem_append_left _ (List.mem_append_left _ (List.mem_append_left _ (List.mem_append_left _ (List.mem_append_left _ (List.mem_append_left _ (List.mem_append_left _ (List.mem_append_left _ (List.mem_append_left _ (List.mem_append_left _ (List.mem_append_left _ (List.mem_append_left _ (List.mem_append_left _ (List.mem_append_left _ (List.mem_append_left _ (List.mem_append_left _ (List.mem_of_getElem? (i := 3) rfl))))))))))))))))))))))) ?_
                  refine kv_lcmp X dL_areSums_452 ?_
                  refine kv_if_ne (tgt := 486) X dL_areSums_453 (by decide) (fun hc453 => False.elim (hc453 lcs)) (fun hc453 => ?_)
                  refine kv_aload_n X 8 dL_areSums_456 rfl rfl ?_
                  refine kv_bipush (v := 6) X dL_areSums_457 (by decide) ?_
                  refine kv_aload_n X 9 dL_areSums_459 rfl rfl ?_
                  refine kv_iconst (v := 4) X dL_areSums_460 (by decide) ?_
                  refine kv_iaload X (κ := 2000) (n := 50) (j := 4) (f := fm) (j_x0.1.mpr hx.1) (j_x0.2.2.trans hx.2) (by omega) (by decide) dL_areSums_461 ?_
                  refine kv_topi (nI nM) hm.2.2.2.2.1 ?_
                  refine kv_iconst (v := 0) X dL_areSums_462 (by decide) ?_
                  refine kv_calllSW (As := [.ref xa, .int 6, .int (nI nM), .int 0]) [] X (a_markup l wr wx hL446 (nI nM) 0) hl0 (kCSW_of X 4 (show GoodIn (wsL_areSums ++ kHp) (va_wsS RL 169 yL_ask (wsL_ask ++ kHp)) from gK (pre := [Cond.methodLink RL 169 yL_ask, Cond.static yL_ask, Cond.initialized yL_ask.cls]) gL_areSums_L_ask) rfl rfl rfl (by decide +kernel) hRR ⟨(Nat.le_of_ble_eq_true rfl), (Nat.le_of_ble_eq_true rfl)⟩) rfl rfl (Nat.le_of_ble_eq_true rfl) hRR ⟨(by show _ + 2 ≤ 150; omega), (by show _ + 12 ≤ 900; omega)⟩ dL_areSums_463 (fun r463 c463 h463 => ?_)
                  obtain ⟨hL463, hv463⟩ := h463
                  show kv dd g _ _ 466 [(12, .int 1), (15, .int (nI nM)), (10, .long (msumJ (wvM M nR nC nt nL nW nV nM cn nm mn me li rl (M.1 24)) ((wvS M nR nC nt nL nW nV nM cn nm mn me li rl (M.1 24)) + (wvE M nR nC nt nL nW nV nM cn nm mn me li rl (M.1 24))) nM)), (13, .long (wvS M nR nC nt nL nW nV nM cn nm mn me li rl (M.1 24))), (2, .long (cou (wvA M nR nC nt nL nW nV nM cn nm mn me li rl (M.1 24)) (M.2.1 3) nR)), (4, .long (msumJ (wvL M nR nC nt nL nW nV nM cn nm mn me li rl (M.1 24)) 0 nL)), (6, .long (msumJ (fun t => (wvR M nR nC nt nL nW nV nM cn nm mn me li rl (M.1 24)) (nI t)) 0 6)), (8, .long (mex (wvA M nR nC nt nL nW nV nM cn nm mn me li rl (M.1 24)) (M.2.1 4) (M.2.1 5) (M.2.1 3) nR)), (0, .ref xa), (1, .ref (wx.2.1 0))] [.long r463] (jk c463 wr wx) (jd c463 wr wx) (jE c463 wr wx)
                  obtain rfl := q_out hv463 (by omega)
                  refine kv_ldc2 (v := (-2001)) X dL_areSums_466 (List.mem_append_left _ (List.mem_cons_of_mem _ (List.mem_append_left _ (List.mem_append_left _ (List.mem_append_left _ (List.mem_append_left _ (List.mem_append_left _ (List.mem_append_left _ (List.mem_append_left _ (List.mem_append_left _ (List.mem_append_left _ (List.mem_append_left _ (List.mem_append_left _ (List.mem_append_left _ (List.mem_append_left _ (List.mem_append_left _ (List.mem_append_left _ (List.mem_append_left _ (List.mem_append_left _ (List.mem_append_left _ (List.mem_append_left _ (List.mem_append_left _ (List.mem_of_getElem? (i := 2) rfl))))))))))))))))))))))) ?_
                  refine kv_lcmp X dL_areSums_469 ?_
                  refine kv_if_ne (tgt := 486) X dL_areSums_470 (by decide) (fun hc470 => False.elim (hc470 lcs)) (fun hc470 => ?_)
                  refine kv_aload_n X 8 dL_areSums_473 rfl rfl ?_
                  refine kv_lload X 3 dL_areSums_474 rfl ?_
                  refine kv_calliSW (As := [.ref xa, .long (wvS M nR nC nt nL nW nV nM cn nm mn me li rl (M.1 24))]) [] X (c_L_isShared l wr wx hL463) hl0 (kCSW_of X 2 (show GoodIn (wsL_areSums ++ kHp) (va_wsS RL 186 yL_isShared (wsL_isShared ++ kHp)) from gK (pre := [Cond.methodLink RL 186 yL_isShared, Cond.static yL_isShared, Cond.initialized yL_isShared.cls]) gL_areSums_L_isShared) rfl rfl rfl (by decide +kernel) hRR ⟨(Nat.le_of_ble_eq_true rfl), (Nat.le_of_ble_eq_true rfl)⟩) rfl rfl (Nat.le_of_ble_eq_true rfl) hRR ⟨(by show _ + 10 ≤ 150; omega), (by show _ + 60 ≤ 900; omega)⟩ dL_areSums_476 (fun r476 c476 h476 => ?_)
                  obtain ⟨rfl, hL476⟩ := h476
                  show kv dd g _ _ 479 [(12, .int 1), (15, .int (nI nM)), (10, .long (msumJ (wvM M nR nC nt nL nW nV nM cn nm mn me li rl (M.1 24)) ((wvS M nR nC nt nL nW nV nM cn nm mn me li rl (M.1 24)) + (wvE M nR nC nt nL nW nV nM cn nm mn me li rl (M.1 24))) nM)), (13, .long (wvS M nR nC nt nL nW nV nM cn nm mn me li rl (M.1 24))), (2, .long (cou (wvA M nR nC nt nL nW nV nM cn nm mn me li rl (M.1 24)) (M.2.1 3) nR)), (4, .long (msumJ (wvL M nR nC nt nL nW nV nM cn nm mn me li rl (M.1 24)) 0 nL)), (6, .long (msumJ (fun t => (wvR M nR nC nt nL nW nV nM cn nm mn me li rl (M.1 24)) (nI t)) 0 6)), (8, .long (mex (wvA M nR nC nt nL nW nV nM cn nm mn me li rl (M.1 24)) (M.2.1 4) (M.2.1 5) (M.2.1 3) nR)), (0, .ref xa), (1, .ref (wx.2.1 0))] [.int 1] (jk c476 wr wx) (jd c476 wr wx) (jE c476 wr wx)
                  refine kv_if_eq (tgt := 486) X dL_areSums_479 (by decide) (fun hc => absurd hc (by decide)) (fun hc479 => ?_)
                  refine kv_iconst (v := 1) X dL_areSums_482 (by decide) ?_
                  refine kv_goto (tgt := 487) X dL_areSums_483 (by decide) ?_
                  exact kv_zreturn X hr rfl (by omega) (by omega) ⟨c476, ⟨rfl, hL476⟩, rfl⟩ dL_areSums_487
                | succ n271 ih271 =>
                  intro i271 hin271 a271 b271 cc271  hL271  ha271 hb271
                  refine kv_iload X 0 dL_areSums_271 rfl ?_
                  refine kv_aload_n X 9 dL_areSums_273 rfl rfl ?_
                  refine kv_iconst (v := 4) X dL_areSums_274 (by decide) ?_
                  refine kv_iaload X (κ := 2000) (n := 50) (j := 4) (f := fm) (j_x0.1.mpr hx.1) (j_x0.2.2.trans hx.2) (by omega) (by decide) dL_areSums_275 ?_
                  refine kv_topi (nI nM) hm.2.2.2.2.1 ?_
                  refine kn_icmp_ge (x := i271) (y := nM) (tgt := 299) X (by omega) (by omega) dL_areSums_276 (by decide) (fun hc276 => absurd hc276 (by omega)) (fun hc276 => ?_)
                  refine kv_lload X 1 dL_areSums_279 rfl ?_
                  refine kv_aload_n X 8 dL_areSums_281 rfl rfl ?_
                  refine kv_bipush (v := 6) X dL_areSums_282 (by decide) ?_
                  refine kv_iload X 0 dL_areSums_284 rfl ?_
                  refine kv_iconst (v := 0) X dL_areSums_286 (by decide) ?_
                  refine kv_calllSW (As := [.ref xa, .int 6, .int (nI i271), .int 0]) [.long (msumJ (wvM M nR nC nt nL nW nV nM cn nm mn me li rl (M.1 24)) ((wvS M nR nC nt nL nW nV nM cn nm mn me li rl (M.1 24)) + (wvE M nR nC nt nL nW nV nM cn nm mn me li rl (M.1 24))) i271)] X (a_markup l wr wx hL271 (nI i271) 0) hl0 (kCSW_of X 4 (show GoodIn (wsL_areSums ++ kHp) (va_wsS RL 169 yL_ask (wsL_ask ++ kHp)) from gK (pre := [Cond.methodLink RL 169 yL_ask, Cond.static yL_ask, Cond.initialized yL_ask.cls]) gL_areSums_L_ask) rfl rfl rfl (by decide +kernel) hRR ⟨(Nat.le_of_ble_eq_true rfl), (Nat.le_of_ble_eq_true rfl)⟩) rfl rfl (Nat.le_of_ble_eq_true rfl) hRR ⟨(by show _ + 2 ≤ 150; omega), (by show _ + 12 ≤ 900; omega)⟩ dL_areSums_287 (fun r287 c287 h287 => ?_)
                  obtain ⟨hL287, hv287⟩ := h287
                  show kv dd g _ _ 290 [(15, .int (nI i271)), (10, .long (msumJ (wvM M nR nC nt nL nW nV nM cn nm mn me li rl (M.1 24)) ((wvS M nR nC nt nL nW nV nM cn nm mn me li rl (M.1 24)) + (wvE M nR nC nt nL nW nV nM cn nm mn me li rl (M.1 24))) i271)), (13, .long (wvS M nR nC nt nL nW nV nM cn nm mn me li rl (M.1 24))), (2, .long (cou (wvA M nR nC nt nL nW nV nM cn nm mn me li rl (M.1 24)) (M.2.1 3) nR)), (4, .long (msumJ (wvL M nR nC nt nL nW nV nM cn nm mn me li rl (M.1 24)) 0 nL)), (6, .long (msumJ (fun t => (wvR M nR nC nt nL nW nV nM cn nm mn me li rl (M.1 24)) (nI t)) 0 6)), (8, .long (mex (wvA M nR nC nt nL nW nV nM cn nm mn me li rl (M.1 24)) (M.2.1 4) (M.2.1 5) (M.2.1 3) nR)), (12, .int 1), (0, .ref xa), (1, .ref (wx.2.1 0))] [.long r287, .long (msumJ (wvM M nR nC nt nL nW nV nM cn nm mn me li rl (M.1 24)) ((wvS M nR nC nt nL nW nV nM cn nm mn me li rl (M.1 24)) + (wvE M nR nC nt nL nW nV nM cn nm mn me li rl (M.1 24))) i271)] (jk c287 wr wx) (jd c287 wr wx) (jE c287 wr wx)
                  obtain rfl := q_in hv287 (show i271 < nM by omega) (by omega)
                  refine kv_ladd X dL_areSums_290 ?_
                  refine kv_topl (msumJ (wvM M nR nC nt nL nW nV nM cn nm mn me li rl (M.1 24)) ((wvS M nR nC nt nL nW nV nM cn nm mn me li rl (M.1 24)) + (wvE M nR nC nt nL nW nV nM cn nm mn me li rl (M.1 24))) (i271 + 1)) rfl ?_
                  refine kv_lstore (lv2 := [(10, .long (msumJ (wvM M nR nC nt nL nW nV nM cn nm mn me li rl (M.1 24)) ((wvS M nR nC nt nL nW nV nM cn nm mn me li rl (M.1 24)) + (wvE M nR nC nt nL nW nV nM cn nm mn me li rl (M.1 24))) (i271 + 1))), (15, .int (nI i271)), (13, .long (wvS M nR nC nt nL nW nV nM cn nm mn me li rl (M.1 24))), (2, .long (cou (wvA M nR nC nt nL nW nV nM cn nm mn me li rl (M.1 24)) (M.2.1 3) nR)), (4, .long (msumJ (wvL M nR nC nt nL nW nV nM cn nm mn me li rl (M.1 24)) 0 nL)), (6, .long (msumJ (fun t => (wvR M nR nC nt nL nW nV nM cn nm mn me li rl (M.1 24)) (nI t)) 0 6)), (8, .long (mex (wvA M nR nC nt nL nW nV nM cn nm mn me li rl (M.1 24)) (M.2.1 4) (M.2.1 5) (M.2.1 3) nR)), (12, .int 1), (0, .ref xa), (1, .ref (wx.2.1 0))]) X dL_areSums_291 (by rw [hnL]; decide) rfl ?_
                  refine kv_iinc (j := 1) (v := (nI (i271 + 1))) (lv2 := [(15, .int (nI (i271 + 1))), (10, .long (msumJ (wvM M nR nC nt nL nW nV nM cn nm mn me li rl (M.1 24)) ((wvS M nR nC nt nL nW nV nM cn nm mn me li rl (M.1 24)) + (wvE M nR nC nt nL nW nV nM cn nm mn me li rl (M.1 24))) (i271 + 1))), (13, .long (wvS M nR nC nt nL nW nV nM cn nm mn me li rl (M.1 24))), (2, .long (cou (wvA M nR nC nt nL nW nV nM cn nm mn me li rl (M.1 24)) (M.2.1 3) nR)), (4, .long (msumJ (wvL M nR nC nt nL nW nV nM cn nm mn me li rl (M.1 24)) 0 nL)), (6, .long (msumJ (fun t => (wvR M nR nC nt nL nW nV nM cn nm mn me li rl (M.1 24)) (nI t)) 0 6)), (8, .long (mex (wvA M nR nC nt nL nW nV nM cn nm mn me li rl (M.1 24)) (M.2.1 4) (M.2.1 5) (M.2.1 3) nR)), (12, .int 1), (0, .ref xa), (1, .ref (wx.2.1 0))]) X dL_areSums_293 rfl (nI_add i271 1) (by rw [hnL]; decide) rfl ?_
                  refine kv_goto (tgt := 271) X dL_areSums_296 (by decide) ?_
                  exact kv_lv [0, 1, 2, 3, 4, 5, 6, 7, 8, 9] rfl (ih271 (i271 + 1) (by omega) _ _ _  hL287  (by omega) (by omega))
              exact kv_lv [0, 1, 2, 3, 4, 5, 6, 7, 8, 9] rfl (L271 (nM) 0 (by omega) _ _ _  hL256  (by omega) (by omega))
            | succ n228 ih228 =>
              intro i228 hin228 a228 b228 cc228  hL228  ha228 hb228
              refine kv_iload X 0 dL_areSums_228 rfl ?_
              refine kv_bipush (v := 6) X dL_areSums_230 (by decide) ?_
              refine kn_icmp_ge (x := i228) (y := 6) (tgt := 255) X (by omega) (by omega) dL_areSums_232 (by decide) (fun hc232 => absurd hc232 (by omega)) (fun hc232 => ?_)
              refine kv_lload X 3 dL_areSums_235 rfl ?_
              refine kv_aload_n X 6 dL_areSums_237 rfl rfl ?_
              refine kv_bipush (v := 11) X dL_areSums_238 (by decide) ?_
              refine kv_iload X 0 dL_areSums_240 rfl ?_
              refine kv_iconst (v := 0) X dL_areSums_242 (by decide) ?_
              refine kv_calllSW (As := [.ref xa, .int 11, .int (nI i228), .int 0]) [.long (msumJ (fun t => (wvR M nR nC nt nL nW nV nM cn nm mn me li rl (M.1 24)) (nI t)) 0 i228)] X (a_costOfTrade l wr wx hL228 (nI i228) 0) hl0 (kCSW_of X 4 (show GoodIn (wsL_areSums ++ kHp) (va_wsS RL 169 yL_ask (wsL_ask ++ kHp)) from gK (pre := [Cond.methodLink RL 169 yL_ask, Cond.static yL_ask, Cond.initialized yL_ask.cls]) gL_areSums_L_ask) rfl rfl rfl (by decide +kernel) hRR ⟨(Nat.le_of_ble_eq_true rfl), (Nat.le_of_ble_eq_true rfl)⟩) rfl rfl (Nat.le_of_ble_eq_true rfl) hRR ⟨(by show _ + 2 ≤ 150; omega), (by show _ + 12 ≤ 900; omega)⟩ dL_areSums_243 (fun r243 c243 h243 => ?_)
              obtain ⟨hL243, hv243⟩ := h243
              show kv dd g _ _ 246 [(13, .int (nI i228)), (2, .long (cou (wvA M nR nC nt nL nW nV nM cn nm mn me li rl (M.1 24)) (M.2.1 3) nR)), (4, .long (msumJ (wvL M nR nC nt nL nW nV nM cn nm mn me li rl (M.1 24)) 0 nL)), (6, .long (msumJ (fun t => (wvR M nR nC nt nL nW nV nM cn nm mn me li rl (M.1 24)) (nI t)) 0 i228)), (8, .long (mex (wvA M nR nC nt nL nW nV nM cn nm mn me li rl (M.1 24)) (M.2.1 4) (M.2.1 5) (M.2.1 3) nR)), (12, .int 1), (0, .ref xa), (1, .ref (wx.2.1 0))] [.long r243, .long (msumJ (fun t => (wvR M nR nC nt nL nW nV nM cn nm mn me li rl (M.1 24)) (nI t)) 0 i228)] (jk c243 wr wx) (jd c243 wr wx) (jE c243 wr wx)
              obtain rfl := q_yes hv243 (q_t i228 (by omega))
              refine kv_ladd X dL_areSums_246 ?_
              refine kv_topl (msumJ (fun t => (wvR M nR nC nt nL nW nV nM cn nm mn me li rl (M.1 24)) (nI t)) 0 (i228 + 1)) rfl ?_
              refine kv_lstore (lv2 := [(6, .long (msumJ (fun t => (wvR M nR nC nt nL nW nV nM cn nm mn me li rl (M.1 24)) (nI t)) 0 (i228 + 1))), (13, .int (nI i228)), (2, .long (cou (wvA M nR nC nt nL nW nV nM cn nm mn me li rl (M.1 24)) (M.2.1 3) nR)), (4, .long (msumJ (wvL M nR nC nt nL nW nV nM cn nm mn me li rl (M.1 24)) 0 nL)), (8, .long (mex (wvA M nR nC nt nL nW nV nM cn nm mn me li rl (M.1 24)) (M.2.1 4) (M.2.1 5) (M.2.1 3) nR)), (12, .int 1), (0, .ref xa), (1, .ref (wx.2.1 0))]) X dL_areSums_247 (by rw [hnL]; decide) rfl ?_
              refine kv_iinc (j := 1) (v := (nI (i228 + 1))) (lv2 := [(13, .int (nI (i228 + 1))), (6, .long (msumJ (fun t => (wvR M nR nC nt nL nW nV nM cn nm mn me li rl (M.1 24)) (nI t)) 0 (i228 + 1))), (2, .long (cou (wvA M nR nC nt nL nW nV nM cn nm mn me li rl (M.1 24)) (M.2.1 3) nR)), (4, .long (msumJ (wvL M nR nC nt nL nW nV nM cn nm mn me li rl (M.1 24)) 0 nL)), (8, .long (mex (wvA M nR nC nt nL nW nV nM cn nm mn me li rl (M.1 24)) (M.2.1 4) (M.2.1 5) (M.2.1 3) nR)), (12, .int 1), (0, .ref xa), (1, .ref (wx.2.1 0))]) X dL_areSums_249 rfl (nI_add i228 1) (by rw [hnL]; decide) rfl ?_
              refine kv_goto (tgt := 228) X dL_areSums_252 (by decide) ?_
              exact kv_lv [0, 2, 3, 1, 4, 5, 6, 7] rfl (ih228 (i228 + 1) (by omega) _ _ _  hL243  (by omega) (by omega))
          exact kv_lv [0, 1, 2, 3, 4, 5, 6, 7] rfl (L228 (6) 0 (by omega) _ _ _  hL197  (by omega) (by omega))
        | succ n197 ih197 =>
          intro i197 hin197 a197 b197 cc197  hL197  ha197 hb197
          refine kv_iload X 0 dL_areSums_197 rfl ?_
          refine kv_aload_n X 7 dL_areSums_199 rfl rfl ?_
          refine kv_iconst (v := 2) X dL_areSums_200 (by decide) ?_
          refine kv_iaload X (κ := 2000) (n := 50) (j := 2) (f := fm) (j_x0.1.mpr hx.1) (j_x0.2.2.trans hx.2) (by omega) (by decide) dL_areSums_201 ?_
          refine kv_topi (nI nL) hm.2.2.1 ?_
          refine kn_icmp_ge (x := i197) (y := nL) (tgt := 225) X (by omega) (by omega) dL_areSums_202 (by decide) (fun hc202 => absurd hc202 (by omega)) (fun hc202 => ?_)
          refine kv_lload X 2 dL_areSums_205 rfl ?_
          refine kv_aload_n X 6 dL_areSums_207 rfl rfl ?_
          refine kv_bipush (v := 10) X dL_areSums_208 (by decide) ?_
          refine kv_iload X 0 dL_areSums_210 rfl ?_
          refine kv_iconst (v := 0) X dL_areSums_212 (by decide) ?_
          refine kv_calllSW (As := [.ref xa, .int 10, .int (nI i197), .int 0]) [.long (msumJ (wvL M nR nC nt nL nW nV nM cn nm mn me li rl (M.1 24)) 0 i197)] X (a_costOfLine l wr wx hL197 (nI i197) 0) hl0 (kCSW_of X 4 (show GoodIn (wsL_areSums ++ kHp) (va_wsS RL 169 yL_ask (wsL_ask ++ kHp)) from gK (pre := [Cond.methodLink RL 169 yL_ask, Cond.static yL_ask, Cond.initialized yL_ask.cls]) gL_areSums_L_ask) rfl rfl rfl (by decide +kernel) hRR ⟨(Nat.le_of_ble_eq_true rfl), (Nat.le_of_ble_eq_true rfl)⟩) rfl rfl (Nat.le_of_ble_eq_true rfl) hRR ⟨(by show _ + 2 ≤ 150; omega), (by show _ + 12 ≤ 900; omega)⟩ dL_areSums_213 (fun r213 c213 h213 => ?_)
          obtain ⟨hL213, hv213⟩ := h213
          show kv dd g _ _ 216 [(13, .int (nI i197)), (2, .long (cou (wvA M nR nC nt nL nW nV nM cn nm mn me li rl (M.1 24)) (M.2.1 3) nR)), (4, .long (msumJ (wvL M nR nC nt nL nW nV nM cn nm mn me li rl (M.1 24)) 0 i197)), (6, .long (msumJ (fun t => (wvR M nR nC nt nL nW nV nM cn nm mn me li rl (M.1 24)) (nI t)) 0 0)), (8, .long (mex (wvA M nR nC nt nL nW nV nM cn nm mn me li rl (M.1 24)) (M.2.1 4) (M.2.1 5) (M.2.1 3) nR)), (12, .int 1), (0, .ref xa), (1, .ref (wx.2.1 0))] [.long r213, .long (msumJ (wvL M nR nC nt nL nW nV nM cn nm mn me li rl (M.1 24)) 0 i197)] (jk c213 wr wx) (jd c213 wr wx) (jE c213 wr wx)
          obtain rfl := q_in hv213 (show i197 < nL by omega) (by omega)
          refine kv_ladd X dL_areSums_216 ?_
          refine kv_topl (msumJ (wvL M nR nC nt nL nW nV nM cn nm mn me li rl (M.1 24)) 0 (i197 + 1)) rfl ?_
          refine kv_lstore (lv2 := [(4, .long (msumJ (wvL M nR nC nt nL nW nV nM cn nm mn me li rl (M.1 24)) 0 (i197 + 1))), (13, .int (nI i197)), (2, .long (cou (wvA M nR nC nt nL nW nV nM cn nm mn me li rl (M.1 24)) (M.2.1 3) nR)), (6, .long (msumJ (fun t => (wvR M nR nC nt nL nW nV nM cn nm mn me li rl (M.1 24)) (nI t)) 0 0)), (8, .long (mex (wvA M nR nC nt nL nW nV nM cn nm mn me li rl (M.1 24)) (M.2.1 4) (M.2.1 5) (M.2.1 3) nR)), (12, .int 1), (0, .ref xa), (1, .ref (wx.2.1 0))]) X dL_areSums_217 (by rw [hnL]; decide) rfl ?_
          refine kv_iinc (j := 1) (v := (nI (i197 + 1))) (lv2 := [(13, .int (nI (i197 + 1))), (4, .long (msumJ (wvL M nR nC nt nL nW nV nM cn nm mn me li rl (M.1 24)) 0 (i197 + 1))), (2, .long (cou (wvA M nR nC nt nL nW nV nM cn nm mn me li rl (M.1 24)) (M.2.1 3) nR)), (6, .long (msumJ (fun t => (wvR M nR nC nt nL nW nV nM cn nm mn me li rl (M.1 24)) (nI t)) 0 0)), (8, .long (mex (wvA M nR nC nt nL nW nV nM cn nm mn me li rl (M.1 24)) (M.2.1 4) (M.2.1 5) (M.2.1 3) nR)), (12, .int 1), (0, .ref xa), (1, .ref (wx.2.1 0))]) X dL_areSums_219 rfl (nI_add i197 1) (by rw [hnL]; decide) rfl ?_
          refine kv_goto (tgt := 197) X dL_areSums_222 (by decide) ?_
          exact kv_lv [0, 2, 1, 3, 4, 5, 6, 7] rfl (ih197 (i197 + 1) (by omega) _ _ _  hL213  (by omega) (by omega))
      exact kv_lv [0, 1, 2, 3, 4, 5, 6, 7] rfl (L197 (nL) 0 (by omega) _ _ _  hL20  (by omega) (by omega))
    | succ n20 ih20 =>
      intro i20 hin20 a20 b20 cc20  hL20  ha20 hb20
      refine kv_iload X 0 dL_areSums_20 rfl ?_
      refine kv_aload_n X 7 dL_areSums_22 rfl rfl ?_
      refine kv_iconst (v := 0) X dL_areSums_23 (by decide) ?_
      refine kv_iaload X (κ := 2000) (n := 50) (j := 0) (f := fm) (j_x0.1.mpr hx.1) (j_x0.2.2.trans hx.2) (by omega) (by decide) dL_areSums_24 ?_
      refine kv_topi (nI nR) hm.1 ?_
      refine kn_icmp_ge (x := i20) (y := nR) (tgt := 194) X (by omega) (by omega) dL_areSums_25 (by decide) (fun hc25 => absurd hc25 (by omega)) (fun hc25 => ?_)
      refine kv_iload X 5 dL_areSums_28 rfl ?_
      refine kv_if_eq (tgt := 194) X dL_areSums_30 (by decide) (fun hc => absurd hc (by decide)) (fun hc30 => ?_)
      refine kv_aload_n X 6 dL_areSums_33 rfl rfl ?_
      refine kv_bipush (v := 7) X dL_areSums_34 (by decide) ?_
      refine kv_iload X 0 dL_areSums_36 rfl ?_
      refine kv_iconst (v := 0) X dL_areSums_38 (by decide) ?_
      refine kv_calllSW (As := [.ref xa, .int 7, .int (nI i20), .int 0]) [] X (a_amount l wr wx hL20 (nI i20) 0) hl0 (kCSW_of X 4 (show GoodIn (wsL_areSums ++ kHp) (va_wsS RL 169 yL_ask (wsL_ask ++ kHp)) from gK (pre := [Cond.methodLink RL 169 yL_ask, Cond.static yL_ask, Cond.initialized yL_ask.cls]) gL_areSums_L_ask) rfl rfl rfl (by decide +kernel) hRR ⟨(Nat.le_of_ble_eq_true rfl), (Nat.le_of_ble_eq_true rfl)⟩) rfl rfl (Nat.le_of_ble_eq_true rfl) hRR ⟨(by show _ + 2 ≤ 150; omega), (by show _ + 12 ≤ 900; omega)⟩ dL_areSums_39 (fun r39 c39 h39 => ?_)
      obtain ⟨hL39, hv39⟩ := h39
      show kv dd g _ _ 42 [(13, .int (nI i20)), (2, .long (cou (wvA M nR nC nt nL nW nV nM cn nm mn me li rl (M.1 24)) (M.2.1 3) i20)), (4, .long (msumJ (wvL M nR nC nt nL nW nV nM cn nm mn me li rl (M.1 24)) 0 0)), (6, .long (msumJ (fun t => (wvR M nR nC nt nL nW nV nM cn nm mn me li rl (M.1 24)) (nI t)) 0 0)), (8, .long (mex (wvA M nR nC nt nL nW nV nM cn nm mn me li rl (M.1 24)) (M.2.1 4) (M.2.1 5) (M.2.1 3) i20)), (12, .int 1), (0, .ref xa), (1, .ref (wx.2.1 0))] [.long r39] (jk c39 wr wx) (jd c39 wr wx) (jE c39 wr wx)
      obtain rfl := q_in hv39 (show i20 < nR by omega) (by omega)
      refine kv_lstore (lv2 := [(14, .long ((wvA M nR nC nt nL nW nV nM cn nm mn me li rl (M.1 24)) i20)), (13, .int (nI i20)), (2, .long (cou (wvA M nR nC nt nL nW nV nM cn nm mn me li rl (M.1 24)) (M.2.1 3) i20)), (4, .long (msumJ (wvL M nR nC nt nL nW nV nM cn nm mn me li rl (M.1 24)) 0 0)), (6, .long (msumJ (fun t => (wvR M nR nC nt nL nW nV nM cn nm mn me li rl (M.1 24)) (nI t)) 0 0)), (8, .long (mex (wvA M nR nC nt nL nW nV nM cn nm mn me li rl (M.1 24)) (M.2.1 4) (M.2.1 5) (M.2.1 3) i20)), (12, .int 1), (0, .ref xa), (1, .ref (wx.2.1 0))]) X dL_areSums_42 (by rw [hnL]; decide) rfl ?_
      refine kv_lload X 0 dL_areSums_44 rfl ?_
      refine kv_lload X 0 dL_areSums_46 rfl ?_
      refine kv_aload_n X 8 dL_areSums_48 rfl rfl ?_
      refine kv_bipush (v := 11) X dL_areSums_49 (by decide) ?_
      refine kv_iconst (v := 3) X dL_areSums_51 (by decide) ?_
      refine kv_iload X 1 dL_areSums_52 rfl ?_
      refine kv_imul X dL_areSums_54 ?_
      refine kv_topi (nI (3 * i20)) (pk_mul 3 i20) ?_
      refine kv_iadd X dL_areSums_55 ?_
      refine kv_topi (nI (11 + (3 * i20))) (nI_add 11 (3 * i20)) ?_
      refine kv_iaload X (κ := 2000) (n := 50) (j := 11 + (3 * i20)) (f := fm) (j_x0.1.mpr hx.1) (j_x0.2.2.trans hx.2) (by omega) (by decide) dL_areSums_56 ?_
      refine kv_topi (M.2.1 4 i20) ((hm.2.2.2.2.2 i20 (by omega)).2.1) ?_
      refine kv_i2l X dL_areSums_57 rfl ?_
      refine kv_lmul X dL_areSums_58 ?_
      refine kv_ldc2 (v := 99) X dL_areSums_59 (List.mem_append_left _ (List.mem_cons_of_mem _ (List.mem_append_left _ (List.mem_append_left _ (List.mem_append_left _ (List.mem_append_left _ (List.mem_append_left _ (List.mem_append_left _ (List.mem_append_left _ (List.mem_append_left _ (List.mem_append_left _ (List.mem_append_left _ (List.mem_append_left _ (List.mem_append_left _ (List.mem_append_left _ (List.mem_append_left _ (List.mem_append_left _ (List.mem_append_left _ (List.mem_append_left _ (List.mem_append_left _ (List.mem_append_left _ (List.mem_append_left _ (List.mem_of_getElem? (i := 0) rfl))))))))))))))))))))))) ?_
      refine kv_ladd X dL_areSums_62 ?_
      refine kv_ldc2 (v := 100) X dL_areSums_63 (List.mem_append_left _ (List.mem_cons_of_mem _ (List.mem_append_left _ (List.mem_append_left _ (List.mem_append_left _ (List.mem_append_left _ (List.mem_append_left _ (List.mem_append_left _ (List.mem_append_left _ (List.mem_append_left _ (List.mem_append_left _ (List.mem_append_left _ (List.mem_append_left _ (List.mem_append_left _ (List.mem_append_left _ (List.mem_append_left _ (List.mem_append_left _ (List.mem_append_left _ (List.mem_append_left _ (List.mem_append_left _ (List.mem_append_left _ (List.mem_append_left _ (List.mem_of_getElem? (i := 1) rfl))))))))))))))))))))))) ?_
      refine kv_ldiv X dL_areSums_66 (by decide) ?_
      refine kv_ladd X dL_areSums_67 ?_
      refine kv_lstore (lv2 := [(16, .long (((wvA M nR nC nt nL nW nV nM cn nm mn me li rl (M.1 24)) i20) + (((((wvA M nR nC nt nL nW nV nM cn nm mn me li rl (M.1 24)) i20) * ((M.2.1 4 i20).toInt64)) + 99) / 100))), (14, .long ((wvA M nR nC nt nL nW nV nM cn nm mn me li rl (M.1 24)) i20)), (13, .int (nI i20)), (2, .long (cou (wvA M nR nC nt nL nW nV nM cn nm mn me li rl (M.1 24)) (M.2.1 3) i20)), (4, .long (msumJ (wvL M nR nC nt nL nW nV nM cn nm mn me li rl (M.1 24)) 0 0)), (6, .long (msumJ (fun t => (wvR M nR nC nt nL nW nV nM cn nm mn me li rl (M.1 24)) (nI t)) 0 0)), (8, .long (mex (wvA M nR nC nt nL nW nV nM cn nm mn me li rl (M.1 24)) (M.2.1 4) (M.2.1 5) (M.2.1 3) i20)), (12, .int 1), (0, .ref xa), (1, .ref (wx.2.1 0))]) X dL_areSums_68 (by rw [hnL]; decide) rfl ?_
      refine kv_aload_n X 8 dL_areSums_70 rfl rfl ?_
      refine kv_bipush (v := 9) X dL_areSums_71 (by decide) ?_
      refine kv_iload X 2 dL_areSums_73 rfl ?_
      refine kv_iconst (v := 0) X dL_areSums_75 (by decide) ?_
      refine kv_calllSW (As := [.ref xa, .int 9, .int (nI i20), .int 0]) [] X (a_packs l wr wx hL39 (nI i20) 0) hl0 (kCSW_of X 4 (show GoodIn (wsL_areSums ++ kHp) (va_wsS RL 169 yL_ask (wsL_ask ++ kHp)) from gK (pre := [Cond.methodLink RL 169 yL_ask, Cond.static yL_ask, Cond.initialized yL_ask.cls]) gL_areSums_L_ask) rfl rfl rfl (by decide +kernel) hRR ⟨(Nat.le_of_ble_eq_true rfl), (Nat.le_of_ble_eq_true rfl)⟩) rfl rfl (Nat.le_of_ble_eq_true rfl) hRR ⟨(by show _ + 2 ≤ 150; omega), (by show _ + 12 ≤ 900; omega)⟩ dL_areSums_76 (fun r76 c76 h76 => ?_)
      obtain ⟨hL76, hv76⟩ := h76
      show kv dd g _ _ 79 [(16, .long (((wvA M nR nC nt nL nW nV nM cn nm mn me li rl (M.1 24)) i20) + (((((wvA M nR nC nt nL nW nV nM cn nm mn me li rl (M.1 24)) i20) * ((M.2.1 4 i20).toInt64)) + 99) / 100))), (14, .long ((wvA M nR nC nt nL nW nV nM cn nm mn me li rl (M.1 24)) i20)), (13, .int (nI i20)), (2, .long (cou (wvA M nR nC nt nL nW nV nM cn nm mn me li rl (M.1 24)) (M.2.1 3) i20)), (4, .long (msumJ (wvL M nR nC nt nL nW nV nM cn nm mn me li rl (M.1 24)) 0 0)), (6, .long (msumJ (fun t => (wvR M nR nC nt nL nW nV nM cn nm mn me li rl (M.1 24)) (nI t)) 0 0)), (8, .long (mex (wvA M nR nC nt nL nW nV nM cn nm mn me li rl (M.1 24)) (M.2.1 4) (M.2.1 5) (M.2.1 3) i20)), (12, .int 1), (0, .ref xa), (1, .ref (wx.2.1 0))] [.long r76] (jk c76 wr wx) (jd c76 wr wx) (jE c76 wr wx)
      obtain rfl := q_in hv76 (show i20 < nR by omega) (by omega)
      refine kv_lstore (lv2 := [(18, .long (mpk ((wvA M nR nC nt nL nW nV nM cn nm mn me li rl (M.1 24)) i20) (M.2.1 4 i20) (M.2.1 5 i20))), (16, .long (((wvA M nR nC nt nL nW nV nM cn nm mn me li rl (M.1 24)) i20) + (((((wvA M nR nC nt nL nW nV nM cn nm mn me li rl (M.1 24)) i20) * ((M.2.1 4 i20).toInt64)) + 99) / 100))), (14, .long ((wvA M nR nC nt nL nW nV nM cn nm mn me li rl (M.1 24)) i20)), (13, .int (nI i20)), (2, .long (cou (wvA M nR nC nt nL nW nV nM cn nm mn me li rl (M.1 24)) (M.2.1 3) i20)), (4, .long (msumJ (wvL M nR nC nt nL nW nV nM cn nm mn me li rl (M.1 24)) 0 0)), (6, .long (msumJ (fun t => (wvR M nR nC nt nL nW nV nM cn nm mn me li rl (M.1 24)) (nI t)) 0 0)), (8, .long (mex (wvA M nR nC nt nL nW nV nM cn nm mn me li rl (M.1 24)) (M.2.1 4) (M.2.1 5) (M.2.1 3) i20)), (12, .int 1), (0, .ref xa), (1, .ref (wx.2.1 0))]) X dL_areSums_79 (by rw [hnL]; decide) rfl ?_
      refine kv_aload_n X 10 dL_areSums_81 rfl rfl ?_
      refine kv_bipush (v := 12) X dL_areSums_82 (by decide) ?_
      refine kv_iconst (v := 3) X dL_areSums_84 (by decide) ?_
      refine kv_iload X 3 dL_areSums_85 rfl ?_
      refine kv_imul X dL_areSums_87 ?_
      refine kv_topi (nI (3 * i20)) (pk_mul 3 i20) ?_
      refine kv_iadd X dL_areSums_88 ?_
      refine kv_topi (nI (12 + (3 * i20))) (nI_add 12 (3 * i20)) ?_
      refine kv_iaload X (κ := 2000) (n := 50) (j := 12 + (3 * i20)) (f := fm) (j_x0.1.mpr hx.1) (j_x0.2.2.trans hx.2) (by omega) (by decide) dL_areSums_89 ?_
      refine kv_topi (M.2.1 5 i20) ((hm.2.2.2.2.2 i20 (by omega)).2.2) ?_
      refine kv_istore (lv2 := [(20, .int (M.2.1 5 i20)), (18, .long (mpk ((wvA M nR nC nt nL nW nV nM cn nm mn me li rl (M.1 24)) i20) (M.2.1 4 i20) (M.2.1 5 i20))), (16, .long (((wvA M nR nC nt nL nW nV nM cn nm mn me li rl (M.1 24)) i20) + (((((wvA M nR nC nt nL nW nV nM cn nm mn me li rl (M.1 24)) i20) * ((M.2.1 4 i20).toInt64)) + 99) / 100))), (14, .long ((wvA M nR nC nt nL nW nV nM cn nm mn me li rl (M.1 24)) i20)), (13, .int (nI i20)), (2, .long (cou (wvA M nR nC nt nL nW nV nM cn nm mn me li rl (M.1 24)) (M.2.1 3) i20)), (4, .long (msumJ (wvL M nR nC nt nL nW nV nM cn nm mn me li rl (M.1 24)) 0 0)), (6, .long (msumJ (fun t => (wvR M nR nC nt nL nW nV nM cn nm mn me li rl (M.1 24)) (nI t)) 0 0)), (8, .long (mex (wvA M nR nC nt nL nW nV nM cn nm mn me li rl (M.1 24)) (M.2.1 4) (M.2.1 5) (M.2.1 3) i20)), (12, .int 1), (0, .ref xa), (1, .ref (wx.2.1 0))]) X dL_areSums_90 (by rw [hnL]; decide) rfl ?_
      refine kv_lload X 3 dL_areSums_92 rfl ?_
      refine kv_lconst (v := 0) X dL_areSums_94 (by decide) ?_
      refine kv_lcmp X dL_areSums_95 ?_
      refine kv_if_lt (tgt := 144) X dL_areSums_96 (by decide) (fun hc96 => False.elim (lcge (w_pk hI hXp (M.1 24) (show i20 < nR by omega)).2.2 hc96)) (fun hc96 => ?_)
      refine kv_lload X 3 dL_areSums_99 rfl ?_
      refine kv_aload_n X 10 dL_areSums_101 rfl rfl ?_
      refine kv_bipush (v := 8) X dL_areSums_102 (by decide) ?_
      refine kv_iload X 4 dL_areSums_104 rfl ?_
      refine kv_iconst (v := 0) X dL_areSums_106 (by decide) ?_
      refine kv_calllSW (As := [.ref xa, .int 8, .int (nI i20), .int 0]) [.long ((wvA M nR nC nt nL nW nV nM cn nm mn me li rl (M.1 24)) i20)] X (a_amountByTree l wr wx hL76 (nI i20) 0) hl0 (kCSW_of X 4 (show GoodIn (wsL_areSums ++ kHp) (va_wsS RL 169 yL_ask (wsL_ask ++ kHp)) from gK (pre := [Cond.methodLink RL 169 yL_ask, Cond.static yL_ask, Cond.initialized yL_ask.cls]) gL_areSums_L_ask) rfl rfl rfl (by decide +kernel) hRR ⟨(Nat.le_of_ble_eq_true rfl), (Nat.le_of_ble_eq_true rfl)⟩) rfl rfl (Nat.le_of_ble_eq_true rfl) hRR ⟨(by show _ + 2 ≤ 150; omega), (by show _ + 12 ≤ 900; omega)⟩ dL_areSums_107 (fun r107 c107 h107 => ?_)
      obtain ⟨hL107, hv107⟩ := h107
      show kv dd g _ _ 110 [(20, .int (M.2.1 5 i20)), (18, .long (mpk ((wvA M nR nC nt nL nW nV nM cn nm mn me li rl (M.1 24)) i20) (M.2.1 4 i20) (M.2.1 5 i20))), (16, .long (((wvA M nR nC nt nL nW nV nM cn nm mn me li rl (M.1 24)) i20) + (((((wvA M nR nC nt nL nW nV nM cn nm mn me li rl (M.1 24)) i20) * ((M.2.1 4 i20).toInt64)) + 99) / 100))), (14, .long ((wvA M nR nC nt nL nW nV nM cn nm mn me li rl (M.1 24)) i20)), (13, .int (nI i20)), (2, .long (cou (wvA M nR nC nt nL nW nV nM cn nm mn me li rl (M.1 24)) (M.2.1 3) i20)), (4, .long (msumJ (wvL M nR nC nt nL nW nV nM cn nm mn me li rl (M.1 24)) 0 0)), (6, .long (msumJ (fun t => (wvR M nR nC nt nL nW nV nM cn nm mn me li rl (M.1 24)) (nI t)) 0 0)), (8, .long (mex (wvA M nR nC nt nL nW nV nM cn nm mn me li rl (M.1 24)) (M.2.1 4) (M.2.1 5) (M.2.1 3) i20)), (12, .int 1), (0, .ref xa), (1, .ref (wx.2.1 0))] [.long r107, .long ((wvA M nR nC nt nL nW nV nM cn nm mn me li rl (M.1 24)) i20)] (jk c107 wr wx) (jd c107 wr wx) (jE c107 wr wx)
      obtain rfl := q_in hv107 (show i20 < nR by omega) (by omega)
      refine kv_lcmp X dL_areSums_110 ?_
      refine kv_if_ne (tgt := 144) X dL_areSums_111 (by decide) (fun hc111 => False.elim (hc111 lcs)) (fun hc111 => ?_)
      refine kv_lload X 1 dL_areSums_114 rfl ?_
      refine kv_iload X 0 dL_areSums_116 rfl ?_
      refine kv_i2l X dL_areSums_118 rfl ?_
      refine kv_lmul X dL_areSums_119 ?_
      refine kv_lload X 2 dL_areSums_120 rfl ?_
      refine kv_lcmp X dL_areSums_122 ?_
      refine kv_if_lt (tgt := 144) X dL_areSums_123 (by decide) (fun hc123 => False.elim (lcge (w_pk hI hXp (M.1 24) (show i20 < nR by omega)).1 hc123)) (fun hc123 => ?_)
      refine kv_lload X 1 dL_areSums_126 rfl ?_
      refine kv_lconst (v := 1) X dL_areSums_128 (by decide) ?_
      refine kv_lsub X dL_areSums_129 ?_
      refine kv_iload X 0 dL_areSums_130 rfl ?_
      refine kv_i2l X dL_areSums_132 rfl ?_
      refine kv_lmul X dL_areSums_133 ?_
      refine kv_lload X 2 dL_areSums_134 rfl ?_
      refine kv_lcmp X dL_areSums_136 ?_
      refine kv_if_ge (tgt := 144) X dL_areSums_137 (by decide) (fun hc137 => False.elim (lclt (w_pk hI hXp (M.1 24) (show i20 < nR by omega)).2.1 hc137)) (fun hc137 => ?_)
      refine kv_iconst (v := 1) X dL_areSums_140 (by decide) ?_
      refine kv_goto (tgt := 145) X dL_areSums_141 (by decide) ?_
      refine kv_istore (lv2 := [(12, .int 1), (20, .int (M.2.1 5 i20)), (18, .long (mpk ((wvA M nR nC nt nL nW nV nM cn nm mn me li rl (M.1 24)) i20) (M.2.1 4 i20) (M.2.1 5 i20))), (16, .long (((wvA M nR nC nt nL nW nV nM cn nm mn me li rl (M.1 24)) i20) + (((((wvA M nR nC nt nL nW nV nM cn nm mn me li rl (M.1 24)) i20) * ((M.2.1 4 i20).toInt64)) + 99) / 100))), (14, .long ((wvA M nR nC nt nL nW nV nM cn nm mn me li rl (M.1 24)) i20)), (13, .int (nI i20)), (2, .long (cou (wvA M nR nC nt nL nW nV nM cn nm mn me li rl (M.1 24)) (M.2.1 3) i20)), (4, .long (msumJ (wvL M nR nC nt nL nW nV nM cn nm mn me li rl (M.1 24)) 0 0)), (6, .long (msumJ (fun t => (wvR M nR nC nt nL nW nV nM cn nm mn me li rl (M.1 24)) (nI t)) 0 0)), (8, .long (mex (wvA M nR nC nt nL nW nV nM cn nm mn me li rl (M.1 24)) (M.2.1 4) (M.2.1 5) (M.2.1 3) i20)), (0, .ref xa), (1, .ref (wx.2.1 0))]) X dL_areSums_145 (by rw [hnL]; decide) rfl ?_
      refine kv_lload_n X 6 dL_areSums_147 rfl rfl ?_
      refine kv_lload X 4 dL_areSums_148 rfl ?_
      refine kv_aload_n X 11 dL_areSums_150 rfl rfl ?_
      refine kv_bipush (v := 10) X dL_areSums_151 (by decide) ?_
      refine kv_iconst (v := 3) X dL_areSums_153 (by decide) ?_
      refine kv_iload X 5 dL_areSums_154 rfl ?_
      refine kv_imul X dL_areSums_156 ?_
      refine kv_topi (nI (3 * i20)) (pk_mul 3 i20) ?_
      refine kv_iadd X dL_areSums_157 ?_
      refine kv_topi (nI (10 + (3 * i20))) (nI_add 10 (3 * i20)) ?_
      refine kv_iaload X (κ := 2000) (n := 50) (j := 10 + (3 * i20)) (f := fm) (j_x0.1.mpr hx.1) (j_x0.2.2.trans hx.2) (by omega) (by decide) dL_areSums_158 ?_
      refine kv_topi (M.2.1 3 i20) ((hm.2.2.2.2.2 i20 (by omega)).1) ?_
      refine kv_i2l X dL_areSums_159 rfl ?_
      refine kv_lmul X dL_areSums_160 ?_
      refine kv_ladd X dL_areSums_161 ?_
      refine kv_topl (cou (wvA M nR nC nt nL nW nV nM cn nm mn me li rl (M.1 24)) (M.2.1 3) (i20 + 1)) rfl ?_
      refine kv_lstore_n (lv2 := [(2, .long (cou (wvA M nR nC nt nL nW nV nM cn nm mn me li rl (M.1 24)) (M.2.1 3) (i20 + 1))), (12, .int 1), (20, .int (M.2.1 5 i20)), (18, .long (mpk ((wvA M nR nC nt nL nW nV nM cn nm mn me li rl (M.1 24)) i20) (M.2.1 4 i20) (M.2.1 5 i20))), (16, .long (((wvA M nR nC nt nL nW nV nM cn nm mn me li rl (M.1 24)) i20) + (((((wvA M nR nC nt nL nW nV nM cn nm mn me li rl (M.1 24)) i20) * ((M.2.1 4 i20).toInt64)) + 99) / 100))), (14, .long ((wvA M nR nC nt nL nW nV nM cn nm mn me li rl (M.1 24)) i20)), (13, .int (nI i20)), (4, .long (msumJ (wvL M nR nC nt nL nW nV nM cn nm mn me li rl (M.1 24)) 0 0)), (6, .long (msumJ (fun t => (wvR M nR nC nt nL nW nV nM cn nm mn me li rl (M.1 24)) (nI t)) 0 0)), (8, .long (mex (wvA M nR nC nt nL nW nV nM cn nm mn me li rl (M.1 24)) (M.2.1 4) (M.2.1 5) (M.2.1 3) i20)), (0, .ref xa), (1, .ref (wx.2.1 0))]) X dL_areSums_162 rfl (by rw [hnL]; decide) rfl ?_
      refine kv_lload X 9 dL_areSums_163 rfl ?_
      refine kv_lload X 3 dL_areSums_165 rfl ?_
      refine kv_iload X 2 dL_areSums_167 rfl ?_
      refine kv_i2l X dL_areSums_169 rfl ?_
      refine kv_lmul X dL_areSums_170 ?_
      refine kv_lload X 5 dL_areSums_171 rfl ?_
      refine kv_lsub X dL_areSums_173 ?_
      refine kv_aload_n X 11 dL_areSums_174 rfl rfl ?_
      refine kv_bipush (v := 10) X dL_areSums_175 (by decide) ?_
      refine kv_iconst (v := 3) X dL_areSums_177 (by decide) ?_
      refine kv_iload X 6 dL_areSums_178 rfl ?_
      refine kv_imul X dL_areSums_180 ?_
      refine kv_topi (nI (3 * i20)) (pk_mul 3 i20) ?_
      refine kv_iadd X dL_areSums_181 ?_
      refine kv_topi (nI (10 + (3 * i20))) (nI_add 10 (3 * i20)) ?_
      refine kv_iaload X (κ := 2000) (n := 50) (j := 10 + (3 * i20)) (f := fm) (j_x0.1.mpr hx.1) (j_x0.2.2.trans hx.2) (by omega) (by decide) dL_areSums_182 ?_
      refine kv_topi (M.2.1 3 i20) ((hm.2.2.2.2.2 i20 (by omega)).1) ?_
      refine kv_i2l X dL_areSums_183 rfl ?_
      refine kv_lmul X dL_areSums_184 ?_
      refine kv_ladd X dL_areSums_185 ?_
      refine kv_topl (mex (wvA M nR nC nt nL nW nV nM cn nm mn me li rl (M.1 24)) (M.2.1 4) (M.2.1 5) (M.2.1 3) (i20 + 1)) rfl ?_
      refine kv_lstore (lv2 := [(8, .long (mex (wvA M nR nC nt nL nW nV nM cn nm mn me li rl (M.1 24)) (M.2.1 4) (M.2.1 5) (M.2.1 3) (i20 + 1))), (2, .long (cou (wvA M nR nC nt nL nW nV nM cn nm mn me li rl (M.1 24)) (M.2.1 3) (i20 + 1))), (12, .int 1), (20, .int (M.2.1 5 i20)), (18, .long (mpk ((wvA M nR nC nt nL nW nV nM cn nm mn me li rl (M.1 24)) i20) (M.2.1 4 i20) (M.2.1 5 i20))), (16, .long (((wvA M nR nC nt nL nW nV nM cn nm mn me li rl (M.1 24)) i20) + (((((wvA M nR nC nt nL nW nV nM cn nm mn me li rl (M.1 24)) i20) * ((M.2.1 4 i20).toInt64)) + 99) / 100))), (14, .long ((wvA M nR nC nt nL nW nV nM cn nm mn me li rl (M.1 24)) i20)), (13, .int (nI i20)), (4, .long (msumJ (wvL M nR nC nt nL nW nV nM cn nm mn me li rl (M.1 24)) 0 0)), (6, .long (msumJ (fun t => (wvR M nR nC nt nL nW nV nM cn nm mn me li rl (M.1 24)) (nI t)) 0 0)), (0, .ref xa), (1, .ref (wx.2.1 0))]) X dL_areSums_186 (by rw [hnL]; decide) rfl ?_
      refine kv_iinc (j := 7) (v := (nI (i20 + 1))) (lv2 := [(13, .int (nI (i20 + 1))), (8, .long (mex (wvA M nR nC nt nL nW nV nM cn nm mn me li rl (M.1 24)) (M.2.1 4) (M.2.1 5) (M.2.1 3) (i20 + 1))), (2, .long (cou (wvA M nR nC nt nL nW nV nM cn nm mn me li rl (M.1 24)) (M.2.1 3) (i20 + 1))), (12, .int 1), (20, .int (M.2.1 5 i20)), (18, .long (mpk ((wvA M nR nC nt nL nW nV nM cn nm mn me li rl (M.1 24)) i20) (M.2.1 4 i20) (M.2.1 5 i20))), (16, .long (((wvA M nR nC nt nL nW nV nM cn nm mn me li rl (M.1 24)) i20) + (((((wvA M nR nC nt nL nW nV nM cn nm mn me li rl (M.1 24)) i20) * ((M.2.1 4 i20).toInt64)) + 99) / 100))), (14, .long ((wvA M nR nC nt nL nW nV nM cn nm mn me li rl (M.1 24)) i20)), (4, .long (msumJ (wvL M nR nC nt nL nW nV nM cn nm mn me li rl (M.1 24)) 0 0)), (6, .long (msumJ (fun t => (wvR M nR nC nt nL nW nV nM cn nm mn me li rl (M.1 24)) (nI t)) 0 0)), (0, .ref xa), (1, .ref (wx.2.1 0))]) X dL_areSums_188 rfl (nI_add i20 1) (by rw [hnL]; decide) rfl ?_
      refine kv_goto (tgt := 20) X dL_areSums_191 (by decide) ?_
      exact kv_lv [0, 2, 8, 9, 1, 3, 10, 11] rfl (ih20 (i20 + 1) (by omega) _ _ _  hL107  (by omega) (by omega))
  exact kv_lv [0, 6, 5, 4, 3, 1, 7, 8] rfl (L20 (nR) 0 (by omega) _ _ _  hL  (by omega) (by omega))

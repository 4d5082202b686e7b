/-! P43: IS IT THE CHEAPEST -/
theorem rI_on {M : mS} {nR nC nt nL nW nV nM : Nat} {cn nm mn me li rl : Nat → Nat} (hI : rI M nR nC nt nL nW nV nM cn nm mn me li rl (M.1 24)) : ∃ o, o < 2 ^ nV ∧ M.1 24 = nI o := by
  obtain ⟨-, -, -, -, -, -, -, ⟨-, h⟩, -⟩ := hI
  exact h
set_option maxRecDepth 100000 in
set_option maxHeartbeats 4000000 in
theorem c_L_isCheapest (l : Launch) {dd : kDD} {c : kT} (wr wx : kT) {M : mS} {nR nC nt nL nW nV nM : Nat} {cn nm mn me li rl : Nat → Nat} {xa : Nat} (hL : LPo dd c M nR nC nt nL nW nV nM cn nm mn me li rl xa) {fm : Nat → Int32} (hx : 0 ∈ wx.1 ∧ wx.2.2 0 = kI dd 50 fm) (hm : mTb M nR nC nt nL nW nV nM cn nm mn me li rl fm) : kCi l yL_isCheapest (wsL_isCheapest ++ kHp) ({ frames := 17, cells := 800, slots := 11000, locals := 460 } : Room) 800 11000 dd [.ref xa, .ref (wx.2.1 0)] (jk c wr wx, jd c wr wx, jE c wr wx) (kQi (S := kT) (fun r z => r = 1 ∧ ∃ o, LPo dd z (Mo M o) nR nC nt nL nW nV nM cn nm mn me li rl xa) (fun z => jk z wr wx) (fun z => jd z wr wx) (fun z => jE z wr wx)) := by
  have hI := hL.1
  have hXp := hL.2.1
  have bb := rI_b hI
  have pw := p2 ⟨nV, by omega⟩
  replace pw : 2 ^ nV ≤ 16 := pw
  refine kMeti (ws' := _) (cc := cL_isCheapest) (maxL := 11) (rt := .boolean) (by decide) rfl (Nat.le_of_ble_eq_true rfl) (fun g X hr hnL hRR hl0 hkn => ?_)
  show kv dd g 0 0 0 [(0, .ref xa), (1, .ref (wx.2.1 0))] [] (jk c wr wx) (jd c wr wx) (jE c wr wx)
  refine kv_aload_n X 0 dL_isCheapest_0 rfl rfl ?_
  refine kv_calliV (As := []) [] (ci := 13) (κ := 0) (r1 := (TX10, 3)) X (b_cheapestVariants l wr wx hL) hl0 (kCV_of X 0 (goodIn_ext gL_isCheapest_X10_cheapestVariants) rfl rfl rfl (by decide +kernel) hRR ⟨(Nat.le_of_ble_eq_true rfl), (Nat.le_of_ble_eq_true rfl)⟩) (LP_obj hL).1 (LP_obj hL).2 rfl (by rw [LP_ref hL]; rfl) rfl (Nat.le_of_ble_eq_true rfl) hRR ⟨(by show _ + 0 ≤ 800; omega), (by show _ + 0 ≤ 11000; omega)⟩ dL_isCheapest_1 (fun r1 c1 h1 => ?_)
  obtain ⟨hL1, hv1⟩ := h1
  show kv dd g _ _ 4 [(0, .ref xa), (1, .ref (wx.2.1 0))] [.int r1] (jk c1 wr wx) (jd c1 wr wx) (jE c1 wr wx)
  obtain ⟨le0, hmb⟩ := hv1
  obtain ⟨C0, hC0, rfl, hCf, -, hCm, hC1⟩ : ∃ c, c < 2 ^ nV ∧ r1 = nI c ∧ kFx (M.2.1 13) cn (fun k => cmI (M.2.1 22) nV (nI c) (nm k)) (nJ (M.2.1 13) cn (fun k => cmI (M.2.1 22) nV (nI c) (nm k)) 2) nt ∧ le0 = (wvT M nR nC nt nL nW nV nM cn nm mn me li rl (nI c)) ∧ (∀ s9, s9 < 2 ^ nV → kFx (M.2.1 13) cn (fun k => cmI (M.2.1 22) nV (nI s9) (nm k)) (nJ (M.2.1 13) cn (fun k => cmI (M.2.1 22) nV (nI s9) (nm k)) 2) nt → ((wvT M nR nC nt nL nW nV nM cn nm mn me li rl (nI c))).toInt ≤ ((wvT M nR nC nt nL nW nV nM cn nm mn me li rl (nI s9))).toInt) ∧ ∀ s9, s9 < c → kFx (M.2.1 13) cn (fun k => cmI (M.2.1 22) nV (nI s9) (nm k)) (nJ (M.2.1 13) cn (fun k => cmI (M.2.1 22) nV (nI s9) (nm k)) 2) nt → ((wvT M nR nC nt nL nW nV nM cn nm mn me li rl (nI c))).toInt < ((wvT M nR nC nt nL nW nV nM cn nm mn me li rl (nI s9))).toInt := by
    rcases mB_min (2 ^ nV) r1 le0 (by omega) hmb with ⟨q1, q2⟩ | q
    · obtain ⟨o9, ho9, eo9⟩ := rI_on hI
      refine absurd ?_ (q2 o9 ho9); rw [← eo9]; exact rI_fx hI
    · exact q
  refine kv_istore_n (lv2 := [(2, .int (nI C0)), (0, .ref xa), (1, .ref (wx.2.1 0))]) X dL_isCheapest_4 rfl (by rw [hnL]; decide) rfl ?_
  refine kv_iload_n X 0 dL_isCheapest_5 rfl rfl ?_
  refine kv_if_lt (tgt := 22) X dL_isCheapest_6 (by decide) (fun hc6 => False.elim (Int32.not_lt.mpr (nI_00 (by omega)) hc6)) (fun hc6 => ?_)
  refine kv_iload_n X 0 dL_isCheapest_9 rfl rfl ?_
  refine kv_iconst (v := 1) X dL_isCheapest_10 (by decide) ?_
  refine kv_aload_n X 2 dL_isCheapest_11 rfl rfl ?_
  refine kv_iconst (v := 3) X dL_isCheapest_12 (by decide) ?_
  refine kv_iaload X (κ := 2000) (n := 50) (j := 3) (f := fm) (j_x0.1.mpr hx.1) (j_x0.2.2.trans hx.2) (by omega) (by decide) dL_isCheapest_13 ?_
  refine kv_topi (nI nV) hm.2.2.2.1 ?_
  refine kv_ishl X dL_isCheapest_14 ?_
  refine kv_topi (nI (2 ^ nV)) (sh_n ⟨nV, by omega⟩) ?_
  refine kn_icmp_ge (x := C0) (y := 2 ^ nV) (tgt := 22) X (by omega) (by omega) dL_isCheapest_15 (by decide) (fun hc15 => False.elim (absurd hc15 (by omega))) (fun hc15 => ?_)
  refine kv_iconst (v := 1) X dL_isCheapest_18 (by decide) ?_
  refine kv_goto (tgt := 23) X dL_isCheapest_19 (by decide) ?_
  refine kv_istore_n (lv2 := [(3, .int 1), (2, .int (nI C0)), (0, .ref xa), (1, .ref (wx.2.1 0))]) X dL_isCheapest_23 rfl (by rw [hnL]; decide) rfl ?_
  refine kv_ldc2 (v := 9223372036854775807) X dL_isCheapest_24 (List.mem_append_left _ (List.mem_cons_of_mem _ (List.mem_append_left _ (List.mem_append_left _ (List.mem_append_left _ (List.mem_append_left _ (List.mem_append_left _ (List.mem_append_left _ (List.mem_append_left _ (List.mem_append_left _ (List.mem_append_left _ (List.mem_append_left _ (List.mem_append_left _ (List.mem_append_left _ (List.mem_append_left _ (List.mem_append_left _ (List.mem_append_left _ (List.mem_append_left _ (List.mem_append_left _ (List.mem_append_left _ (List.mem_append_left _ (List.mem_append_left _ (List.mem_of_getElem? (i := 0) rfl))))))))))))))))))))))) ?_
  refine kv_lstore (lv2 := [(4, .long 9223372036854775807), (3, .int 1), (2, .int (nI C0)), (0, .ref xa), (1, .ref (wx.2.1 0))]) X dL_isCheapest_27 (by rw [hnL]; decide) rfl ?_
  refine kv_iconst (v := (-1)) X dL_isCheapest_29 (by decide) ?_
  refine kv_istore (lv2 := [(6, .int (-1)), (4, .long 9223372036854775807), (3, .int 1), (2, .int (nI C0)), (0, .ref xa), (1, .ref (wx.2.1 0))]) X dL_isCheapest_30 (by rw [hnL]; decide) rfl ?_
  refine kv_iconst (v := 0) X dL_isCheapest_32 (by decide) ?_
  refine kv_istore (lv2 := [(7, .int 0), (6, .int (-1)), (4, .long 9223372036854775807), (3, .int 1), (2, .int (nI C0)), (0, .ref xa), (1, .ref (wx.2.1 0))]) X dL_isCheapest_33 (by rw [hnL]; decide) rfl ?_
  refine kv_iconst (v := 0) X dL_isCheapest_35 (by decide) ?_
  refine kv_istore (lv2 := [(8, .int 0), (7, .int 0), (6, .int (-1)), (4, .long 9223372036854775807), (3, .int 1), (2, .int (nI C0)), (0, .ref xa), (1, .ref (wx.2.1 0))]) X dL_isCheapest_36 (by rw [hnL]; decide) rfl ?_
  have hL0 : LPo dd c1 (Mo M (M.1 24)) nR nC nt nL nW nV nM cn nm mn me li rl xa := by rw [Mo_id]; exact hL1
  have L38 : ∀ (n38 i38 : Nat), i38 + n38 = 2 ^ nV → ∀ (a38 b38 : Nat) (cc38 : kT) (o38 : Int32) (le38 : Int64) (be38 : Int32) (ir38 : Int32) (_ : LPo dd cc38 (Mo M o38) nR nC nt nL nW nV nM cn nm mn me li rl xa) (hI38 : chI (fun n => kFx (M.2.1 13) cn (fun k => cmI (M.2.1 22) nV (nI n) (nm k)) (nJ (M.2.1 13) cn (fun k => cmI (M.2.1 22) nV (nI n) (nm k)) 2) nt) (fun n => (wvT M nR nC nt nL nW nV nM cn nm mn me li rl (nI n))) C0 i38 le38 be38 ir38), a38 + 48 * n38 ≤ 768 → b38 + 680 * n38 ≤ 10880 → kv dd g a38 b38 38 [(8, .int (nI i38)), (2, .int (nI C0)), (3, .int 1), (4, .long le38), (6, .int be38), (7, .int ir38), (0, .ref xa), (1, .ref (wx.2.1 0))] [] (jk cc38 wr wx) (jd cc38 wr wx) (jE cc38 wr wx) := by
    intro n38
    induction n38 with
    | zero =>
      intro i38 hin38 a38 b38 cc38 o38 le38 be38 ir38 hL38 hI38 ha38 hb38
      have en38 : 2 ^ nV = i38 := by omega
      subst en38
      refine kv_iload X 0 dL_isCheapest_38 rfl ?_
      refine kv_iconst (v := 1) X dL_isCheapest_40 (by decide) ?_
      refine kv_aload_n X 7 dL_isCheapest_41 rfl rfl ?_
      refine kv_iconst (v := 3) X dL_isCheapest_42 (by decide) ?_
      refine kv_iaload X (κ := 2000) (n := 50) (j := 3) (f := fm) (j_x0.1.mpr hx.1) (j_x0.2.2.trans hx.2) (by omega) (by decide) dL_isCheapest_43 ?_
      refine kv_topi (nI nV) hm.2.2.2.1 ?_
      refine kv_ishl X dL_isCheapest_44 ?_
      refine kv_topi (nI (2 ^ nV)) (sh_n ⟨nV, by omega⟩) ?_
      refine kn_icmp_ge (x := 2 ^ nV) (y := 2 ^ nV) (tgt := 172) X (by omega) (by omega) dL_isCheapest_45 (by decide) (fun hc45 => ?_) (fun hc45 => absurd hc45 (by omega))
      refine kv_iload_n X 2 dL_isCheapest_172 rfl rfl ?_
      refine kv_if_eq (tgt := 191) X dL_isCheapest_173 (by decide) (fun hc => absurd hc (by decide)) (fun hc173 => ?_)
      rcases chI_isR hI38 with rfl | rfl
      ·
        refine kv_iload X 5 dL_isCheapest_176 rfl ?_
        refine kv_if_eq (tgt := 187) X dL_isCheapest_178 (by decide) (fun hc178 => ?_) (fun hc => absurd hc (by decide))
        refine kv_iconst (v := 1) X dL_isCheapest_187 (by decide) ?_
        refine kv_goto (tgt := 192) X dL_isCheapest_188 (by decide) ?_
        exact kv_zreturn X hr rfl (by omega) (by omega) ⟨cc38, ⟨rfl, _, hL38⟩, rfl⟩ dL_isCheapest_192
      ·
        refine kv_iload X 5 dL_isCheapest_176 rfl ?_
        refine kv_if_eq (tgt := 187) X dL_isCheapest_178 (by decide) (fun hc => absurd hc (by decide)) (fun hc178 => ?_)
        refine kv_iload X 4 dL_isCheapest_181 rfl ?_
        refine kv_iload_n X 1 dL_isCheapest_183 rfl rfl ?_
        refine kv_icmp_ne (tgt := 191) X dL_isCheapest_184 (by decide) (fun hc184 => False.elim (hc184 (chI_end hI38 rfl hCm hC1))) (fun hc184 => ?_)
        refine kv_iconst (v := 1) X dL_isCheapest_187 (by decide) ?_
        refine kv_goto (tgt := 192) X dL_isCheapest_188 (by decide) ?_
        exact kv_zreturn X hr rfl (by omega) (by omega) ⟨cc38, ⟨rfl, _, hL38⟩, rfl⟩ dL_isCheapest_192
    | succ n38 ih38 =>
      intro i38 hin38 a38 b38 cc38 o38 le38 be38 ir38 hL38 hI38 ha38 hb38
      refine kv_iload X 0 dL_isCheapest_38 rfl ?_
      refine kv_iconst (v := 1) X dL_isCheapest_40 (by decide) ?_
      refine kv_aload_n X 7 dL_isCheapest_41 rfl rfl ?_
      refine kv_iconst (v := 3) X dL_isCheapest_42 (by decide) ?_
      refine kv_iaload X (κ := 2000) (n := 50) (j := 3) (f := fm) (j_x0.1.mpr hx.1) (j_x0.2.2.trans hx.2) (by omega) (by decide) dL_isCheapest_43 ?_
      refine kv_topi (nI nV) hm.2.2.2.1 ?_
      refine kv_ishl X dL_isCheapest_44 ?_
      refine kv_topi (nI (2 ^ nV)) (sh_n ⟨nV, by omega⟩) ?_
      refine kn_icmp_ge (x := i38) (y := 2 ^ nV) (tgt := 172) X (by omega) (by omega) dL_isCheapest_45 (by decide) (fun hc45 => absurd hc45 (by omega)) (fun hc45 => ?_)
      refine kv_iconst (v := 1) X dL_isCheapest_48 (by decide) ?_
      refine kv_istore (lv2 := [(9, .int 1), (8, .int (nI i38)), (2, .int (nI C0)), (3, .int 1), (4, .long le38), (6, .int be38), (7, .int ir38), (0, .ref xa), (1, .ref (wx.2.1 0))]) X dL_isCheapest_49 (by rw [hnL]; decide) rfl ?_
      refine kv_iconst (v := 0) X dL_isCheapest_51 (by decide) ?_
      refine kv_istore (lv2 := [(10, .int 0), (9, .int 1), (8, .int (nI i38)), (2, .int (nI C0)), (3, .int 1), (4, .long le38), (6, .int be38), (7, .int ir38), (0, .ref xa), (1, .ref (wx.2.1 0))]) X dL_isCheapest_52 (by rw [hnL]; decide) rfl ?_
      have L54 : ∀ (n54 i54 : Nat), i54 + n54 = nV → ∀ (a54 b54 : Nat) (cc54 : kT) (o54 : Int32) (al54 : Int32) (_ : LPo dd cc54 (Mo M o54) nR nC nt nL nW nV nM cn nm mn me li rl xa) (hz54 : al54 = 0 ∨ al54 = 1) (hal54 : al54 = 1 → bEq o54 i38 i54), a54 + 12 * n54 ≤ a38 + 48 → b54 + 170 * n54 ≤ b38 + 680 → kv dd g a54 b54 54 [(10, .int (nI i54)), (9, .int al54), (8, .int (nI i38)), (2, .int (nI C0)), (3, .int 1), (4, .long le38), (6, .int be38), (7, .int ir38), (0, .ref xa), (1, .ref (wx.2.1 0))] [] (jk cc54 wr wx) (jd cc54 wr wx) (jE cc54 wr wx) := by
        intro n54
        induction n54 with
        | zero =>
          intro i54 hin54 a54 b54 cc54 o54 al54 hL54 hz54 hal54 ha54 hb54
          have en54 : nV = i54 := by omega
          subst en54
          refine kv_iload X 0 dL_isCheapest_54 rfl ?_
          refine kv_aload_n X 9 dL_isCheapest_56 rfl rfl ?_
          refine kv_iconst (v := 3) X dL_isCheapest_57 (by decide) ?_
          refine kv_iaload X (κ := 2000) (n := 50) (j := 3) (f := fm) (j_x0.1.mpr hx.1) (j_x0.2.2.trans hx.2) (by omega) (by decide) dL_isCheapest_58 ?_
          refine kv_topi (nI nV) hm.2.2.2.1 ?_
          refine kn_icmp_ge (x := nV) (y := nV) (tgt := 100) X (by omega) (by omega) dL_isCheapest_59 (by decide) (fun hc59 => ?_) (fun hc59 => absurd hc59 (by omega))
          rcases hz54 with rfl | rfl
          ·
            refine kv_iload X 1 dL_isCheapest_100 rfl ?_
            refine kv_if_eq (tgt := 125) X dL_isCheapest_102 (by decide) (fun hc102 => ?_) (fun hc => absurd hc (by decide))
            rcases chI_isR hI38 with rfl | rfl
            ·
              refine kv_iload X 7 dL_isCheapest_125 rfl ?_
              refine kv_if_ne (tgt := 141) X dL_isCheapest_127 (by decide) (fun hc => absurd hc (by decide)) (fun hc127 => ?_)
              refine kv_iload X 1 dL_isCheapest_130 rfl ?_
              refine kv_if_eq (tgt := 145) X dL_isCheapest_132 (by decide) (fun hc132 => ?_) (fun hc => absurd hc (by decide))
              refine kv_iconst (v := 0) X dL_isCheapest_145 (by decide) ?_
              refine kv_istore (lv2 := [(7, .int 0), (10, .int (nI nV)), (9, .int 0), (8, .int (nI i38)), (2, .int (nI C0)), (3, .int 1), (4, .long le38), (6, .int be38), (0, .ref xa), (1, .ref (wx.2.1 0))]) X dL_isCheapest_146 (by rw [hnL]; decide) rfl ?_
              refine kv_iload_n X 5 dL_isCheapest_148 rfl rfl ?_
              refine kv_if_eq (tgt := 164) X dL_isCheapest_149 (by decide) (fun hc => absurd hc (by decide)) (fun hc149 => ?_)
              refine kv_aload_n X 8 dL_isCheapest_152 rfl rfl ?_
              refine kv_calliV (As := []) [] (ci := 13) (κ := 0) (r1 := (TX10, 3)) X (b_cheapestVariants l wr wx hL54) hl0 (kCV_of X 0 (goodIn_ext gL_isCheapest_X10_cheapestVariants) rfl rfl rfl (by decide +kernel) hRR ⟨(Nat.le_of_ble_eq_true rfl), (Nat.le_of_ble_eq_true rfl)⟩) (LP_obj hL54).1 (LP_obj hL54).2 rfl (by rw [LP_ref hL54]; rfl) rfl (Nat.le_of_ble_eq_true rfl) hRR ⟨(by show _ + 0 ≤ 800; omega), (by show _ + 0 ≤ 11000; omega)⟩ dL_isCheapest_153 (fun r153 c153 h153 => ?_)
              obtain ⟨hL153, hv153⟩ := h153
              show kv dd g _ _ 156 [(7, .int 0), (10, .int (nI nV)), (9, .int 0), (8, .int (nI i38)), (2, .int (nI C0)), (3, .int 1), (4, .long le38), (6, .int be38), (0, .ref xa), (1, .ref (wx.2.1 0))] [.int r153] (jk c153 wr wx) (jd c153 wr wx) (jE c153 wr wx)
              have ech : r153 = nI C0 := by
                obtain ⟨le1, hmb1⟩ := hv153
                exact (mB_det (2 ^ nV) (fun k _ => ⟨Iff.rfl, fun _ => rfl⟩) _ _ _ _ hmb1 hmb).1
              subst ech
              refine kv_iload_n X 4 dL_isCheapest_156 rfl rfl ?_
              refine kn_icmp_ne (x := C0) (y := C0) (tgt := 164) X (by omega) (by omega) dL_isCheapest_157 (by decide) (fun hc157 => False.elim (hc157 rfl)) (fun hc157 => ?_)
              refine kv_iconst (v := 1) X dL_isCheapest_160 (by decide) ?_
              refine kv_goto (tgt := 165) X dL_isCheapest_161 (by decide) ?_
              refine kv_istore_n (lv2 := [(3, .int 1), (7, .int 0), (10, .int (nI nV)), (9, .int 0), (8, .int (nI i38)), (2, .int (nI C0)), (4, .long le38), (6, .int be38), (0, .ref xa), (1, .ref (wx.2.1 0))]) X dL_isCheapest_165 rfl (by rw [hnL]; decide) rfl ?_
              refine kv_iinc (j := 4) (v := (nI (i38 + 1))) (lv2 := [(8, .int (nI (i38 + 1))), (3, .int 1), (7, .int 0), (10, .int (nI nV)), (9, .int 0), (2, .int (nI C0)), (4, .long le38), (6, .int be38), (0, .ref xa), (1, .ref (wx.2.1 0))]) X dL_isCheapest_166 rfl (nI_add i38 1) (by rw [hnL]; decide) rfl ?_
              refine kv_goto (tgt := 38) X dL_isCheapest_169 (by decide) ?_
              exact kv_lv [0, 5, 1, 6, 7, 2, 8, 9] rfl (ih38 (i38 + 1) (by omega) _ _ _ o54 le38 be38 0 hL153 (chI_no hI38) (by omega) (by omega))
            ·
              refine kv_iload X 7 dL_isCheapest_125 rfl ?_
              refine kv_if_ne (tgt := 141) X dL_isCheapest_127 (by decide) (fun hc127 => ?_) (fun hc => absurd hc (by decide))
              refine kv_iconst (v := 1) X dL_isCheapest_141 (by decide) ?_
              refine kv_goto (tgt := 146) X dL_isCheapest_142 (by decide) ?_
              refine kv_istore (lv2 := [(7, .int 1), (10, .int (nI nV)), (9, .int 0), (8, .int (nI i38)), (2, .int (nI C0)), (3, .int 1), (4, .long le38), (6, .int be38), (0, .ref xa), (1, .ref (wx.2.1 0))]) X dL_isCheapest_146 (by rw [hnL]; decide) rfl ?_
              refine kv_iload_n X 5 dL_isCheapest_148 rfl rfl ?_
              refine kv_if_eq (tgt := 164) X dL_isCheapest_149 (by decide) (fun hc => absurd hc (by decide)) (fun hc149 => ?_)
              refine kv_aload_n X 8 dL_isCheapest_152 rfl rfl ?_
              refine kv_calliV (As := []) [] (ci := 13) (κ := 0) (r1 := (TX10, 3)) X (b_cheapestVariants l wr wx hL54) hl0 (kCV_of X 0 (goodIn_ext gL_isCheapest_X10_cheapestVariants) rfl rfl rfl (by decide +kernel) hRR ⟨(Nat.le_of_ble_eq_true rfl), (Nat.le_of_ble_eq_true rfl)⟩) (LP_obj hL54).1 (LP_obj hL54).2 rfl (by rw [LP_ref hL54]; rfl) rfl (Nat.le_of_ble_eq_true rfl) hRR ⟨(by show _ + 0 ≤ 800; omega), (by show _ + 0 ≤ 11000; omega)⟩ dL_isCheapest_153 (fun r153 c153 h153 => ?_)
              obtain ⟨hL153, hv153⟩ := h153
              show kv dd g _ _ 156 [(7, .int 1), (10, .int (nI nV)), (9, .int 0), (8, .int (nI i38)), (2, .int (nI C0)), (3, .int 1), (4, .long le38), (6, .int be38), (0, .ref xa), (1, .ref (wx.2.1 0))] [.int r153] (jk c153 wr wx) (jd c153 wr wx) (jE c153 wr wx)
              have ech : r153 = nI C0 := by
                obtain ⟨le1, hmb1⟩ := hv153
                exact (mB_det (2 ^ nV) (fun k _ => ⟨Iff.rfl, fun _ => rfl⟩) _ _ _ _ hmb1 hmb).1
              subst ech
              refine kv_iload_n X 4 dL_isCheapest_156 rfl rfl ?_
              refine kn_icmp_ne (x := C0) (y := C0) (tgt := 164) X (by omega) (by omega) dL_isCheapest_157 (by decide) (fun hc157 => False.elim (hc157 rfl)) (fun hc157 => ?_)
              refine kv_iconst (v := 1) X dL_isCheapest_160 (by decide) ?_
              refine kv_goto (tgt := 165) X dL_isCheapest_161 (by decide) ?_
              refine kv_istore_n (lv2 := [(3, .int 1), (7, .int 1), (10, .int (nI nV)), (9, .int 0), (8, .int (nI i38)), (2, .int (nI C0)), (4, .long le38), (6, .int be38), (0, .ref xa), (1, .ref (wx.2.1 0))]) X dL_isCheapest_165 rfl (by rw [hnL]; decide) rfl ?_
              refine kv_iinc (j := 4) (v := (nI (i38 + 1))) (lv2 := [(8, .int (nI (i38 + 1))), (3, .int 1), (7, .int 1), (10, .int (nI nV)), (9, .int 0), (2, .int (nI C0)), (4, .long le38), (6, .int be38), (0, .ref xa), (1, .ref (wx.2.1 0))]) X dL_isCheapest_166 rfl (nI_add i38 1) (by rw [hnL]; decide) rfl ?_
              refine kv_goto (tgt := 38) X dL_isCheapest_169 (by decide) ?_
              exact kv_lv [0, 5, 1, 6, 7, 2, 8, 9] rfl (ih38 (i38 + 1) (by omega) _ _ _ o54 le38 be38 1 hL153 (chI_no hI38) (by omega) (by omega))
          ·
            obtain ⟨o7, ho7, eo7⟩ := rI_on hL54.1
            have eo7 : o54 = nI o7 := eo7
            have eo38 : o54 = nI i38 := by
              rw [eo7]; exact congrArg nI (bit_all ⟨nV, by omega⟩ ⟨o7, by omega⟩ ⟨i38, by omega⟩ ho7 (by show i38 < 2 ^ nV; omega) (fun i hi => by rw [← eo7]; exact hal54 rfl i.1 hi))
            have hfit38 : kFx (M.2.1 13) cn (fun k => cmI (M.2.1 22) nV (nI i38) (nm k)) (nJ (M.2.1 13) cn (fun k => cmI (M.2.1 22) nV (nI i38) (nm k)) 2) nt := by have q := rI_fx hL54.1; rw [show (Mo M o54).1 24 = nI i38 from eo38] at q; exact q
            have hmax38 : ((wvT M nR nC nt nL nW nV nM cn nm mn me li rl (nI i38))) < 9223372036854775807 := w_max hI hXp _
            refine kv_iload X 1 dL_isCheapest_100 rfl ?_
            refine kv_if_eq (tgt := 125) X dL_isCheapest_102 (by decide) (fun hc => absurd hc (by decide)) (fun hc102 => ?_)
            refine kv_aload_n X 8 dL_isCheapest_105 rfl rfl ?_
            refine kv_calllV (As := []) [] (ci := 13) (κ := 0) (r1 := (TX10, 3)) X (b_total l wr wx hL54) hl0 (kCV_of X 0 (goodIn_ext gL_isCheapest_X10_total) rfl rfl rfl (by decide +kernel) hRR ⟨(Nat.le_of_ble_eq_true rfl), (Nat.le_of_ble_eq_true rfl)⟩) (LP_obj hL54).1 (LP_obj hL54).2 rfl (by rw [LP_ref hL54]; rfl) rfl (Nat.le_of_ble_eq_true rfl) hRR ⟨(by show _ + 0 ≤ 800; omega), (by show _ + 0 ≤ 11000; omega)⟩ dL_isCheapest_106 (fun r106 c106 h106 => ?_)
            obtain ⟨hL106, hv106⟩ := h106
            show kv dd g _ _ 109 [(10, .int (nI nV)), (9, .int 1), (8, .int (nI i38)), (2, .int (nI C0)), (3, .int 1), (4, .long le38), (6, .int be38), (7, .int ir38), (0, .ref xa), (1, .ref (wx.2.1 0))] [.long r106] (jk c106 wr wx) (jd c106 wr wx) (jE c106 wr wx)
            subst hv106
            refine kv_topl (wvT M nR nC nt nL nW nV nM cn nm mn me li rl (nI i38)) (by rw [eo38]; rfl) ?_
            refine kv_lload X 5 dL_isCheapest_109 rfl ?_
            refine kv_lcmp X dL_isCheapest_111 ?_
            by_cases hc112 : (wvT M nR nC nt nL nW nV nM cn nm mn me li rl (nI i38)) < le38
            ·
              refine kv_if_ge (tgt := 125) X dL_isCheapest_112 (by decide) (fun h => absurd h (lclt hc112)) (fun _ => ?_)
              refine kv_aload_n X 8 dL_isCheapest_115 rfl rfl ?_
              refine kv_calllV (As := []) [] (ci := 13) (κ := 0) (r1 := (TX10, 3)) X (b_total l wr wx hL106) hl0 (kCV_of X 0 (goodIn_ext gL_isCheapest_X10_total) rfl rfl rfl (by decide +kernel) hRR ⟨(Nat.le_of_ble_eq_true rfl), (Nat.le_of_ble_eq_true rfl)⟩) (LP_obj hL106).1 (LP_obj hL106).2 rfl (by rw [LP_ref hL106]; rfl) rfl (Nat.le_of_ble_eq_true rfl) hRR ⟨(by show _ + 0 ≤ 800; omega), (by show _ + 0 ≤ 11000; omega)⟩ dL_isCheapest_116 (fun r116 c116 h116 => ?_)
              obtain ⟨hL116, hv116⟩ := h116
              show kv dd g _ _ 119 [(10, .int (nI nV)), (9, .int 1), (8, .int (nI i38)), (2, .int (nI C0)), (3, .int 1), (4, .long le38), (6, .int be38), (7, .int ir38), (0, .ref xa), (1, .ref (wx.2.1 0))] [.long r116] (jk c116 wr wx) (jd c116 wr wx) (jE c116 wr wx)
              subst hv116
              refine kv_topl (wvT M nR nC nt nL nW nV nM cn nm mn me li rl (nI i38)) (by rw [eo38]; rfl) ?_
              refine kv_lstore (lv2 := [(4, .long (wvT M nR nC nt nL nW nV nM cn nm mn me li rl (nI i38))), (10, .int (nI nV)), (9, .int 1), (8, .int (nI i38)), (2, .int (nI C0)), (3, .int 1), (6, .int be38), (7, .int ir38), (0, .ref xa), (1, .ref (wx.2.1 0))]) X dL_isCheapest_119 (by rw [hnL]; decide) rfl ?_
              refine kv_iload X 3 dL_isCheapest_121 rfl ?_
              refine kv_istore (lv2 := [(6, .int (nI i38)), (4, .long (wvT M nR nC nt nL nW nV nM cn nm mn me li rl (nI i38))), (10, .int (nI nV)), (9, .int 1), (8, .int (nI i38)), (2, .int (nI C0)), (3, .int 1), (7, .int ir38), (0, .ref xa), (1, .ref (wx.2.1 0))]) X dL_isCheapest_123 (by rw [hnL]; decide) rfl ?_
              rcases chI_isR hI38 with rfl | rfl
              ·
                refine kv_iload X 7 dL_isCheapest_125 rfl ?_
                refine kv_if_ne (tgt := 141) X dL_isCheapest_127 (by decide) (fun hc => absurd hc (by decide)) (fun hc127 => ?_)
                refine kv_iload X 3 dL_isCheapest_130 rfl ?_
                refine kv_if_eq (tgt := 145) X dL_isCheapest_132 (by decide) (fun hc => absurd hc (by decide)) (fun hc132 => ?_)
                refine kv_iload X 4 dL_isCheapest_135 rfl ?_
                refine kv_iload_n X 5 dL_isCheapest_137 rfl rfl ?_
                refine kn_icmp_ne (x := i38) (y := C0) (tgt := 145) X (by omega) (by omega) dL_isCheapest_138 (by decide) (fun hc138 => ?_) (fun hc138 => ?_)
                ·
                  refine kv_iconst (v := 0) X dL_isCheapest_145 (by decide) ?_
                  refine kv_istore (lv2 := [(7, .int 0), (6, .int (nI i38)), (4, .long (wvT M nR nC nt nL nW nV nM cn nm mn me li rl (nI i38))), (10, .int (nI nV)), (9, .int 1), (8, .int (nI i38)), (2, .int (nI C0)), (3, .int 1), (0, .ref xa), (1, .ref (wx.2.1 0))]) X dL_isCheapest_146 (by rw [hnL]; decide) rfl ?_
                  refine kv_iload_n X 7 dL_isCheapest_148 rfl rfl ?_
                  refine kv_if_eq (tgt := 164) X dL_isCheapest_149 (by decide) (fun hc => absurd hc (by decide)) (fun hc149 => ?_)
                  refine kv_aload_n X 8 dL_isCheapest_152 rfl rfl ?_
                  refine kv_calliV (As := []) [] (ci := 13) (κ := 0) (r1 := (TX10, 3)) X (b_cheapestVariants l wr wx hL116) hl0 (kCV_of X 0 (goodIn_ext gL_isCheapest_X10_cheapestVariants) rfl rfl rfl (by decide +kernel) hRR ⟨(Nat.le_of_ble_eq_true rfl), (Nat.le_of_ble_eq_true rfl)⟩) (LP_obj hL116).1 (LP_obj hL116).2 rfl (by rw [LP_ref hL116]; rfl) rfl (Nat.le_of_ble_eq_true rfl) hRR ⟨(by show _ + 0 ≤ 800; omega), (by show _ + 0 ≤ 11000; omega)⟩ dL_isCheapest_153 (fun r153 c153 h153 => ?_)
                  obtain ⟨hL153, hv153⟩ := h153
                  show kv dd g _ _ 156 [(7, .int 0), (6, .int (nI i38)), (4, .long (wvT M nR nC nt nL nW nV nM cn nm mn me li rl (nI i38))), (10, .int (nI nV)), (9, .int 1), (8, .int (nI i38)), (2, .int (nI C0)), (3, .int 1), (0, .ref xa), (1, .ref (wx.2.1 0))] [.int r153] (jk c153 wr wx) (jd c153 wr wx) (jE c153 wr wx)
                  have ech : r153 = nI C0 := by
                    obtain ⟨le1, hmb1⟩ := hv153
                    exact (mB_det (2 ^ nV) (fun k _ => ⟨Iff.rfl, fun _ => rfl⟩) _ _ _ _ hmb1 hmb).1
                  subst ech
                  refine kv_iload_n X 6 dL_isCheapest_156 rfl rfl ?_
                  refine kn_icmp_ne (x := C0) (y := C0) (tgt := 164) X (by omega) (by omega) dL_isCheapest_157 (by decide) (fun hc157 => False.elim (hc157 rfl)) (fun hc157 => ?_)
                  refine kv_iconst (v := 1) X dL_isCheapest_160 (by decide) ?_
                  refine kv_goto (tgt := 165) X dL_isCheapest_161 (by decide) ?_
                  refine kv_istore_n (lv2 := [(3, .int 1), (7, .int 0), (6, .int (nI i38)), (4, .long (wvT M nR nC nt nL nW nV nM cn nm mn me li rl (nI i38))), (10, .int (nI nV)), (9, .int 1), (8, .int (nI i38)), (2, .int (nI C0)), (0, .ref xa), (1, .ref (wx.2.1 0))]) X dL_isCheapest_165 rfl (by rw [hnL]; decide) rfl ?_
                  refine kv_iinc (j := 6) (v := (nI (i38 + 1))) (lv2 := [(8, .int (nI (i38 + 1))), (3, .int 1), (7, .int 0), (6, .int (nI i38)), (4, .long (wvT M nR nC nt nL nW nV nM cn nm mn me li rl (nI i38))), (10, .int (nI nV)), (9, .int 1), (2, .int (nI C0)), (0, .ref xa), (1, .ref (wx.2.1 0))]) X dL_isCheapest_166 rfl (nI_add i38 1) (by rw [hnL]; decide) rfl ?_
                  refine kv_goto (tgt := 38) X dL_isCheapest_169 (by decide) ?_
                  exact kv_lv [0, 7, 1, 4, 3, 2, 8, 9] rfl (ih38 (i38 + 1) (by omega) _ _ _ o54 (wvT M nR nC nt nL nW nV nM cn nm mn me li rl (nI i38)) (nI i38) 0 hL153 ((chI_r hI38 hfit38 hmax38 0 (Or.inr ⟨rfl, rfl, hc138⟩)).1 hc112) (by omega) (by omega))
                ·
                  refine kv_iconst (v := 1) X dL_isCheapest_141 (by decide) ?_
                  refine kv_goto (tgt := 146) X dL_isCheapest_142 (by decide) ?_
                  refine kv_istore (lv2 := [(7, .int 1), (6, .int (nI i38)), (4, .long (wvT M nR nC nt nL nW nV nM cn nm mn me li rl (nI i38))), (10, .int (nI nV)), (9, .int 1), (8, .int (nI i38)), (2, .int (nI C0)), (3, .int 1), (0, .ref xa), (1, .ref (wx.2.1 0))]) X dL_isCheapest_146 (by rw [hnL]; decide) rfl ?_
                  refine kv_iload_n X 7 dL_isCheapest_148 rfl rfl ?_
                  refine kv_if_eq (tgt := 164) X dL_isCheapest_149 (by decide) (fun hc => absurd hc (by decide)) (fun hc149 => ?_)
                  refine kv_aload_n X 8 dL_isCheapest_152 rfl rfl ?_
                  refine kv_calliV (As := []) [] (ci := 13) (κ := 0) (r1 := (TX10, 3)) X (b_cheapestVariants l wr wx hL116) hl0 (kCV_of X 0 (goodIn_ext gL_isCheapest_X10_cheapestVariants) rfl rfl rfl (by decide +kernel) hRR ⟨(Nat.le_of_ble_eq_true rfl), (Nat.le_of_ble_eq_true rfl)⟩) (LP_obj hL116).1 (LP_obj hL116).2 rfl (by rw [LP_ref hL116]; rfl) rfl (Nat.le_of_ble_eq_true rfl) hRR ⟨(by show _ + 0 ≤ 800; omega), (by show _ + 0 ≤ 11000; omega)⟩ dL_isCheapest_153 (fun r153 c153 h153 => ?_)
                  obtain ⟨hL153, hv153⟩ := h153
                  show kv dd g _ _ 156 [(7, .int 1), (6, .int (nI i38)), (4, .long (wvT M nR nC nt nL nW nV nM cn nm mn me li rl (nI i38))), (10, .int (nI nV)), (9, .int 1), (8, .int (nI i38)), (2, .int (nI C0)), (3, .int 1), (0, .ref xa), (1, .ref (wx.2.1 0))] [.int r153] (jk c153 wr wx) (jd c153 wr wx) (jE c153 wr wx)
                  have ech : r153 = nI C0 := by
                    obtain ⟨le1, hmb1⟩ := hv153
                    exact (mB_det (2 ^ nV) (fun k _ => ⟨Iff.rfl, fun _ => rfl⟩) _ _ _ _ hmb1 hmb).1
                  subst ech
                  refine kv_iload_n X 6 dL_isCheapest_156 rfl rfl ?_
                  refine kn_icmp_ne (x := C0) (y := C0) (tgt := 164) X (by omega) (by omega) dL_isCheapest_157 (by decide) (fun hc157 => False.elim (hc157 rfl)) (fun hc157 => ?_)
                  refine kv_iconst (v := 1) X dL_isCheapest_160 (by decide) ?_
                  refine kv_goto (tgt := 165) X dL_isCheapest_161 (by decide) ?_
                  refine kv_istore_n (lv2 := [(3, .int 1), (7, .int 1), (6, .int (nI i38)), (4, .long (wvT M nR nC nt nL nW nV nM cn nm mn me li rl (nI i38))), (10, .int (nI nV)), (9, .int 1), (8, .int (nI i38)), (2, .int (nI C0)), (0, .ref xa), (1, .ref (wx.2.1 0))]) X dL_isCheapest_165 rfl (by rw [hnL]; decide) rfl ?_
                  refine kv_iinc (j := 6) (v := (nI (i38 + 1))) (lv2 := [(8, .int (nI (i38 + 1))), (3, .int 1), (7, .int 1), (6, .int (nI i38)), (4, .long (wvT M nR nC nt nL nW nV nM cn nm mn me li rl (nI i38))), (10, .int (nI nV)), (9, .int 1), (2, .int (nI C0)), (0, .ref xa), (1, .ref (wx.2.1 0))]) X dL_isCheapest_166 rfl (nI_add i38 1) (by rw [hnL]; decide) rfl ?_
                  refine kv_goto (tgt := 38) X dL_isCheapest_169 (by decide) ?_
                  exact kv_lv [0, 7, 1, 4, 3, 2, 8, 9] rfl (ih38 (i38 + 1) (by omega) _ _ _ o54 (wvT M nR nC nt nL nW nV nM cn nm mn me li rl (nI i38)) (nI i38) 1 hL153 ((chI_r hI38 hfit38 hmax38 1 (Or.inl ⟨rfl, Or.inr hc138⟩)).1 hc112) (by omega) (by omega))
              ·
                refine kv_iload X 7 dL_isCheapest_125 rfl ?_
                refine kv_if_ne (tgt := 141) X dL_isCheapest_127 (by decide) (fun hc127 => ?_) (fun hc => absurd hc (by decide))
                refine kv_iconst (v := 1) X dL_isCheapest_141 (by decide) ?_
                refine kv_goto (tgt := 146) X dL_isCheapest_142 (by decide) ?_
                refine kv_istore (lv2 := [(7, .int 1), (6, .int (nI i38)), (4, .long (wvT M nR nC nt nL nW nV nM cn nm mn me li rl (nI i38))), (10, .int (nI nV)), (9, .int 1), (8, .int (nI i38)), (2, .int (nI C0)), (3, .int 1), (0, .ref xa), (1, .ref (wx.2.1 0))]) X dL_isCheapest_146 (by rw [hnL]; decide) rfl ?_
                refine kv_iload_n X 7 dL_isCheapest_148 rfl rfl ?_
                refine kv_if_eq (tgt := 164) X dL_isCheapest_149 (by decide) (fun hc => absurd hc (by decide)) (fun hc149 => ?_)
                refine kv_aload_n X 8 dL_isCheapest_152 rfl rfl ?_
                refine kv_calliV (As := []) [] (ci := 13) (κ := 0) (r1 := (TX10, 3)) X (b_cheapestVariants l wr wx hL116) hl0 (kCV_of X 0 (goodIn_ext gL_isCheapest_X10_cheapestVariants) rfl rfl rfl (by decide +kernel) hRR ⟨(Nat.le_of_ble_eq_true rfl), (Nat.le_of_ble_eq_true rfl)⟩) (LP_obj hL116).1 (LP_obj hL116).2 rfl (by rw [LP_ref hL116]; rfl) rfl (Nat.le_of_ble_eq_true rfl) hRR ⟨(by show _ + 0 ≤ 800; omega), (by show _ + 0 ≤ 11000; omega)⟩ dL_isCheapest_153 (fun r153 c153 h153 => ?_)
                obtain ⟨hL153, hv153⟩ := h153
                show kv dd g _ _ 156 [(7, .int 1), (6, .int (nI i38)), (4, .long (wvT M nR nC nt nL nW nV nM cn nm mn me li rl (nI i38))), (10, .int (nI nV)), (9, .int 1), (8, .int (nI i38)), (2, .int (nI C0)), (3, .int 1), (0, .ref xa), (1, .ref (wx.2.1 0))] [.int r153] (jk c153 wr wx) (jd c153 wr wx) (jE c153 wr wx)
                have ech : r153 = nI C0 := by
                  obtain ⟨le1, hmb1⟩ := hv153
                  exact (mB_det (2 ^ nV) (fun k _ => ⟨Iff.rfl, fun _ => rfl⟩) _ _ _ _ hmb1 hmb).1
                subst ech
                refine kv_iload_n X 6 dL_isCheapest_156 rfl rfl ?_
                refine kn_icmp_ne (x := C0) (y := C0) (tgt := 164) X (by omega) (by omega) dL_isCheapest_157 (by decide) (fun hc157 => False.elim (hc157 rfl)) (fun hc157 => ?_)
                refine kv_iconst (v := 1) X dL_isCheapest_160 (by decide) ?_
                refine kv_goto (tgt := 165) X dL_isCheapest_161 (by decide) ?_
                refine kv_istore_n (lv2 := [(3, .int 1), (7, .int 1), (6, .int (nI i38)), (4, .long (wvT M nR nC nt nL nW nV nM cn nm mn me li rl (nI i38))), (10, .int (nI nV)), (9, .int 1), (8, .int (nI i38)), (2, .int (nI C0)), (0, .ref xa), (1, .ref (wx.2.1 0))]) X dL_isCheapest_165 rfl (by rw [hnL]; decide) rfl ?_
                refine kv_iinc (j := 6) (v := (nI (i38 + 1))) (lv2 := [(8, .int (nI (i38 + 1))), (3, .int 1), (7, .int 1), (6, .int (nI i38)), (4, .long (wvT M nR nC nt nL nW nV nM cn nm mn me li rl (nI i38))), (10, .int (nI nV)), (9, .int 1), (2, .int (nI C0)), (0, .ref xa), (1, .ref (wx.2.1 0))]) X dL_isCheapest_166 rfl (nI_add i38 1) (by rw [hnL]; decide) rfl ?_
                refine kv_goto (tgt := 38) X dL_isCheapest_169 (by decide) ?_
                exact kv_lv [0, 7, 1, 4, 3, 2, 8, 9] rfl (ih38 (i38 + 1) (by omega) _ _ _ o54 (wvT M nR nC nt nL nW nV nM cn nm mn me li rl (nI i38)) (nI i38) 1 hL153 ((chI_r hI38 hfit38 hmax38 1 (Or.inl ⟨rfl, Or.inl rfl⟩)).1 hc112) (by omega) (by omega))
            ·
              refine kv_if_ge (tgt := 125) X dL_isCheapest_112 (by decide) (fun _ => ?_) (fun h => absurd ((lg_cmp_ge _ _).mpr (Int64.not_lt.mp hc112)) h)
              rcases chI_isR hI38 with rfl | rfl
              ·
                refine kv_iload X 7 dL_isCheapest_125 rfl ?_
                refine kv_if_ne (tgt := 141) X dL_isCheapest_127 (by decide) (fun hc => absurd hc (by decide)) (fun hc127 => ?_)
                refine kv_iload X 1 dL_isCheapest_130 rfl ?_
                refine kv_if_eq (tgt := 145) X dL_isCheapest_132 (by decide) (fun hc => absurd hc (by decide)) (fun hc132 => ?_)
                refine kv_iload X 2 dL_isCheapest_135 rfl ?_
                refine kv_iload_n X 3 dL_isCheapest_137 rfl rfl ?_
                refine kn_icmp_ne (x := i38) (y := C0) (tgt := 145) X (by omega) (by omega) dL_isCheapest_138 (by decide) (fun hc138 => ?_) (fun hc138 => ?_)
                ·
                  refine kv_iconst (v := 0) X dL_isCheapest_145 (by decide) ?_
                  refine kv_istore (lv2 := [(7, .int 0), (10, .int (nI nV)), (9, .int 1), (8, .int (nI i38)), (2, .int (nI C0)), (3, .int 1), (4, .long le38), (6, .int be38), (0, .ref xa), (1, .ref (wx.2.1 0))]) X dL_isCheapest_146 (by rw [hnL]; decide) rfl ?_
                  refine kv_iload_n X 5 dL_isCheapest_148 rfl rfl ?_
                  refine kv_if_eq (tgt := 164) X dL_isCheapest_149 (by decide) (fun hc => absurd hc (by decide)) (fun hc149 => ?_)
                  refine kv_aload_n X 8 dL_isCheapest_152 rfl rfl ?_
                  refine kv_calliV (As := []) [] (ci := 13) (κ := 0) (r1 := (TX10, 3)) X (b_cheapestVariants l wr wx hL106) hl0 (kCV_of X 0 (goodIn_ext gL_isCheapest_X10_cheapestVariants) rfl rfl rfl (by decide +kernel) hRR ⟨(Nat.le_of_ble_eq_true rfl), (Nat.le_of_ble_eq_true rfl)⟩) (LP_obj hL106).1 (LP_obj hL106).2 rfl (by rw [LP_ref hL106]; rfl) rfl (Nat.le_of_ble_eq_true rfl) hRR ⟨(by show _ + 0 ≤ 800; omega), (by show _ + 0 ≤ 11000; omega)⟩ dL_isCheapest_153 (fun r153 c153 h153 => ?_)
                  obtain ⟨hL153, hv153⟩ := h153
                  show kv dd g _ _ 156 [(7, .int 0), (10, .int (nI nV)), (9, .int 1), (8, .int (nI i38)), (2, .int (nI C0)), (3, .int 1), (4, .long le38), (6, .int be38), (0, .ref xa), (1, .ref (wx.2.1 0))] [.int r153] (jk c153 wr wx) (jd c153 wr wx) (jE c153 wr wx)
                  have ech : r153 = nI C0 := by
                    obtain ⟨le1, hmb1⟩ := hv153
                    exact (mB_det (2 ^ nV) (fun k _ => ⟨Iff.rfl, fun _ => rfl⟩) _ _ _ _ hmb1 hmb).1
                  subst ech
                  refine kv_iload_n X 4 dL_isCheapest_156 rfl rfl ?_
                  refine kn_icmp_ne (x := C0) (y := C0) (tgt := 164) X (by omega) (by omega) dL_isCheapest_157 (by decide) (fun hc157 => False.elim (hc157 rfl)) (fun hc157 => ?_)
                  refine kv_iconst (v := 1) X dL_isCheapest_160 (by decide) ?_
                  refine kv_goto (tgt := 165) X dL_isCheapest_161 (by decide) ?_
                  refine kv_istore_n (lv2 := [(3, .int 1), (7, .int 0), (10, .int (nI nV)), (9, .int 1), (8, .int (nI i38)), (2, .int (nI C0)), (4, .long le38), (6, .int be38), (0, .ref xa), (1, .ref (wx.2.1 0))]) X dL_isCheapest_165 rfl (by rw [hnL]; decide) rfl ?_
                  refine kv_iinc (j := 4) (v := (nI (i38 + 1))) (lv2 := [(8, .int (nI (i38 + 1))), (3, .int 1), (7, .int 0), (10, .int (nI nV)), (9, .int 1), (2, .int (nI C0)), (4, .long le38), (6, .int be38), (0, .ref xa), (1, .ref (wx.2.1 0))]) X dL_isCheapest_166 rfl (nI_add i38 1) (by rw [hnL]; decide) rfl ?_
                  refine kv_goto (tgt := 38) X dL_isCheapest_169 (by decide) ?_
                  exact kv_lv [0, 5, 1, 6, 7, 2, 8, 9] rfl (ih38 (i38 + 1) (by omega) _ _ _ o54 le38 be38 0 hL153 ((chI_r hI38 hfit38 hmax38 0 (Or.inr ⟨rfl, rfl, hc138⟩)).2 hc112) (by omega) (by omega))
                ·
                  refine kv_iconst (v := 1) X dL_isCheapest_141 (by decide) ?_
                  refine kv_goto (tgt := 146) X dL_isCheapest_142 (by decide) ?_
                  refine kv_istore (lv2 := [(7, .int 1), (10, .int (nI nV)), (9, .int 1), (8, .int (nI i38)), (2, .int (nI C0)), (3, .int 1), (4, .long le38), (6, .int be38), (0, .ref xa), (1, .ref (wx.2.1 0))]) X dL_isCheapest_146 (by rw [hnL]; decide) rfl ?_
                  refine kv_iload_n X 5 dL_isCheapest_148 rfl rfl ?_
                  refine kv_if_eq (tgt := 164) X dL_isCheapest_149 (by decide) (fun hc => absurd hc (by decide)) (fun hc149 => ?_)
                  refine kv_aload_n X 8 dL_isCheapest_152 rfl rfl ?_
                  refine kv_calliV (As := []) [] (ci := 13) (κ := 0) (r1 := (TX10, 3)) X (b_cheapestVariants l wr wx hL106) hl0 (kCV_of X 0 (goodIn_ext gL_isCheapest_X10_cheapestVariants) rfl rfl rfl (by decide +kernel) hRR ⟨(Nat.le_of_ble_eq_true rfl), (Nat.le_of_ble_eq_true rfl)⟩) (LP_obj hL106).1 (LP_obj hL106).2 rfl (by rw [LP_ref hL106]; rfl) rfl (Nat.le_of_ble_eq_true rfl) hRR ⟨(by show _ + 0 ≤ 800; omega), (by show _ + 0 ≤ 11000; omega)⟩ dL_isCheapest_153 (fun r153 c153 h153 => ?_)
                  obtain ⟨hL153, hv153⟩ := h153
                  show kv dd g _ _ 156 [(7, .int 1), (10, .int (nI nV)), (9, .int 1), (8, .int (nI i38)), (2, .int (nI C0)), (3, .int 1), (4, .long le38), (6, .int be38), (0, .ref xa), (1, .ref (wx.2.1 0))] [.int r153] (jk c153 wr wx) (jd c153 wr wx) (jE c153 wr wx)
                  have ech : r153 = nI C0 := by
                    obtain ⟨le1, hmb1⟩ := hv153
                    exact (mB_det (2 ^ nV) (fun k _ => ⟨Iff.rfl, fun _ => rfl⟩) _ _ _ _ hmb1 hmb).1
                  subst ech
                  refine kv_iload_n X 4 dL_isCheapest_156 rfl rfl ?_
                  refine kn_icmp_ne (x := C0) (y := C0) (tgt := 164) X (by omega) (by omega) dL_isCheapest_157 (by decide) (fun hc157 => False.elim (hc157 rfl)) (fun hc157 => ?_)
                  refine kv_iconst (v := 1) X dL_isCheapest_160 (by decide) ?_
                  refine kv_goto (tgt := 165) X dL_isCheapest_161 (by decide) ?_
                  refine kv_istore_n (lv2 := [(3, .int 1), (7, .int 1), (10, .int (nI nV)), (9, .int 1), (8, .int (nI i38)), (2, .int (nI C0)), (4, .long le38), (6, .int be38), (0, .ref xa), (1, .ref (wx.2.1 0))]) X dL_isCheapest_165 rfl (by rw [hnL]; decide) rfl ?_
                  refine kv_iinc (j := 4) (v := (nI (i38 + 1))) (lv2 := [(8, .int (nI (i38 + 1))), (3, .int 1), (7, .int 1), (10, .int (nI nV)), (9, .int 1), (2, .int (nI C0)), (4, .long le38), (6, .int be38), (0, .ref xa), (1, .ref (wx.2.1 0))]) X dL_isCheapest_166 rfl (nI_add i38 1) (by rw [hnL]; decide) rfl ?_
                  refine kv_goto (tgt := 38) X dL_isCheapest_169 (by decide) ?_
                  exact kv_lv [0, 5, 1, 6, 7, 2, 8, 9] rfl (ih38 (i38 + 1) (by omega) _ _ _ o54 le38 be38 1 hL153 ((chI_r hI38 hfit38 hmax38 1 (Or.inl ⟨rfl, Or.inr hc138⟩)).2 hc112) (by omega) (by omega))
              ·
                refine kv_iload X 7 dL_isCheapest_125 rfl ?_
                refine kv_if_ne (tgt := 141) X dL_isCheapest_127 (by decide) (fun hc127 => ?_) (fun hc => absurd hc (by decide))
                refine kv_iconst (v := 1) X dL_isCheapest_141 (by decide) ?_
                refine kv_goto (tgt := 146) X dL_isCheapest_142 (by decide) ?_
                refine kv_istore (lv2 := [(7, .int 1), (10, .int (nI nV)), (9, .int 1), (8, .int (nI i38)), (2, .int (nI C0)), (3, .int 1), (4, .long le38), (6, .int be38), (0, .ref xa), (1, .ref (wx.2.1 0))]) X dL_isCheapest_146 (by rw [hnL]; decide) rfl ?_
                refine kv_iload_n X 5 dL_isCheapest_148 rfl rfl ?_
                refine kv_if_eq (tgt := 164) X dL_isCheapest_149 (by decide) (fun hc => absurd hc (by decide)) (fun hc149 => ?_)
                refine kv_aload_n X 8 dL_isCheapest_152 rfl rfl ?_
                refine kv_calliV (As := []) [] (ci := 13) (κ := 0) (r1 := (TX10, 3)) X (b_cheapestVariants l wr wx hL106) hl0 (kCV_of X 0 (goodIn_ext gL_isCheapest_X10_cheapestVariants) rfl rfl rfl (by decide +kernel) hRR ⟨(Nat.le_of_ble_eq_true rfl), (Nat.le_of_ble_eq_true rfl)⟩) (LP_obj hL106).1 (LP_obj hL106).2 rfl (by rw [LP_ref hL106]; rfl) rfl (Nat.le_of_ble_eq_true rfl) hRR ⟨(by show _ + 0 ≤ 800; omega), (by show _ + 0 ≤ 11000; omega)⟩ dL_isCheapest_153 (fun r153 c153 h153 => ?_)
                obtain ⟨hL153, hv153⟩ := h153
                show kv dd g _ _ 156 [(7, .int 1), (10, .int (nI nV)), (9, .int 1), (8, .int (nI i38)), (2, .int (nI C0)), (3, .int 1), (4, .long le38), (6, .int be38), (0, .ref xa), (1, .ref (wx.2.1 0))] [.int r153] (jk c153 wr wx) (jd c153 wr wx) (jE c153 wr wx)
                have ech : r153 = nI C0 := by
                  obtain ⟨le1, hmb1⟩ := hv153
                  exact (mB_det (2 ^ nV) (fun k _ => ⟨Iff.rfl, fun _ => rfl⟩) _ _ _ _ hmb1 hmb).1
                subst ech
                refine kv_iload_n X 4 dL_isCheapest_156 rfl rfl ?_
                refine kn_icmp_ne (x := C0) (y := C0) (tgt := 164) X (by omega) (by omega) dL_isCheapest_157 (by decide) (fun hc157 => False.elim (hc157 rfl)) (fun hc157 => ?_)
                refine kv_iconst (v := 1) X dL_isCheapest_160 (by decide) ?_
                refine kv_goto (tgt := 165) X dL_isCheapest_161 (by decide) ?_
                refine kv_istore_n (lv2 := [(3, .int 1), (7, .int 1), (10, .int (nI nV)), (9, .int 1), (8, .int (nI i38)), (2, .int (nI C0)), (4, .long le38), (6, .int be38), (0, .ref xa), (1, .ref (wx.2.1 0))]) X dL_isCheapest_165 rfl (by rw [hnL]; decide) rfl ?_
                refine kv_iinc (j := 4) (v := (nI (i38 + 1))) (lv2 := [(8, .int (nI (i38 + 1))), (3, .int 1), (7, .int 1), (10, .int (nI nV)), (9, .int 1), (2, .int (nI C0)), (4, .long le38), (6, .int be38), (0, .ref xa), (1, .ref (wx.2.1 0))]) X dL_isCheapest_166 rfl (nI_add i38 1) (by rw [hnL]; decide) rfl ?_
                refine kv_goto (tgt := 38) X dL_isCheapest_169 (by decide) ?_
                exact kv_lv [0, 5, 1, 6, 7, 2, 8, 9] rfl (ih38 (i38 + 1) (by omega) _ _ _ o54 le38 be38 1 hL153 ((chI_r hI38 hfit38 hmax38 1 (Or.inl ⟨rfl, Or.inl rfl⟩)).2 hc112) (by omega) (by omega))
        | succ n54 ih54 =>
          intro i54 hin54 a54 b54 cc54 o54 al54 hL54 hz54 hal54 ha54 hb54
          refine kv_iload X 0 dL_isCheapest_54 rfl ?_
          refine kv_aload_n X 9 dL_isCheapest_56 rfl rfl ?_
          refine kv_iconst (v := 3) X dL_isCheapest_57 (by decide) ?_
          refine kv_iaload X (κ := 2000) (n := 50) (j := 3) (f := fm) (j_x0.1.mpr hx.1) (j_x0.2.2.trans hx.2) (by omega) (by decide) dL_isCheapest_58 ?_
          refine kv_topi (nI nV) hm.2.2.2.1 ?_
          refine kn_icmp_ge (x := i54) (y := nV) (tgt := 100) X (by omega) (by omega) dL_isCheapest_59 (by decide) (fun hc59 => absurd hc59 (by omega)) (fun hc59 => ?_)
          obtain ⟨o9, ho9, eo9⟩ := rI_on hL54.1
          have eo9 : o54 = nI o9 := eo9
          subst eo9
          refine kv_aload_n X 8 dL_isCheapest_62 rfl rfl ?_
          refine kv_bipush (v := 14) X dL_isCheapest_63 (by decide) ?_
          refine kv_iload X 0 dL_isCheapest_65 rfl ?_
          refine kv_iload X 2 dL_isCheapest_67 rfl ?_
          refine kv_iload X 0 dL_isCheapest_69 rfl ?_
          refine kv_ishr X dL_isCheapest_71 ?_
          refine kv_iconst (v := 1) X dL_isCheapest_72 (by decide) ?_
          refine kv_iand X dL_isCheapest_73 ?_
          refine kv_iconst (v := 0) X dL_isCheapest_74 (by decide) ?_
          refine kv_iconst (v := 0) X dL_isCheapest_75 (by decide) ?_
          refine kv_calliSW (As := [.ref xa, .int 14, .int (nI i54), .int (((nI i38) >>> ((nI i54) &&& 31)) &&& 1), .int 0, .int 0]) [] X (d_turn l wr wx hL54 i54 (by omega) (((nI i38) >>> ((nI i54) &&& 31)) &&& 1) 0 0 (bit_p ⟨i38, by omega⟩ ⟨i54, by omega⟩)) hl0 (kCSW_of X 6 (show GoodIn (wsL_isCheapest ++ kHp) (va_wsS RL 158 yL_deed (wsL_deed ++ kHp)) from gK (pre := [Cond.methodLink RL 158 yL_deed, Cond.static yL_deed, Cond.initialized yL_deed.cls]) gL_isCheapest_L_deed) rfl rfl rfl (by decide +kernel) hRR ⟨(Nat.le_of_ble_eq_true rfl), (Nat.le_of_ble_eq_true rfl)⟩) rfl rfl (Nat.le_of_ble_eq_true rfl) hRR ⟨(by show _ + 12 ≤ 800; omega), (by show _ + 170 ≤ 11000; omega)⟩ dL_isCheapest_76 (fun r76 c76 h76 => ?_)
          obtain ⟨bv, hbv0, hbv1, hz⟩ := h76
          have ebv : nI o9 >>> (nI i54 &&& 31) &&& 1 = bv := by
            rcases hbv0 with rfl | rfl
            · rcases bit_p ⟨o9, by omega⟩ ⟨i54, by omega⟩ with q | q
              · exact q
              · exact absurd (hbv1.mpr q) (by decide)
            · exact hbv1.mp rfl
          rcases hz with ⟨q1, q2, hLd⟩ | ⟨q1, qf, q2, hLd⟩ | ⟨q1, qf, q2, hLd⟩
          ·
            show kv dd g _ _ 79 [(10, .int (nI i54)), (9, .int al54), (8, .int (nI i38)), (2, .int (nI C0)), (3, .int 1), (4, .long le38), (6, .int be38), (7, .int ir38), (0, .ref xa), (1, .ref (wx.2.1 0))] [.int r76] (jk c76 wr wx) (jd c76 wr wx) (jE c76 wr wx)
            refine kv_if_lt (tgt := 91) X dL_isCheapest_79 (by decide) (fun h => absurd h (by rw [q2]; rcases hbv0 with rfl | rfl <;> decide)) (fun _ => ?_)
            refine kv_iload X 1 dL_isCheapest_82 rfl ?_
            rcases hz54 with hal0 | hal1
            ·
              refine kv_if_eq (tgt := 91) X dL_isCheapest_84 (by decide) (fun hc84 => ?_) (fun hc84 => False.elim (hc84 hal0))
              refine kv_iconst (v := 0) X dL_isCheapest_91 (by decide) ?_
              refine kv_istore (lv2 := [(9, .int 0), (10, .int (nI i54)), (8, .int (nI i38)), (2, .int (nI C0)), (3, .int 1), (4, .long le38), (6, .int be38), (7, .int ir38), (0, .ref xa), (1, .ref (wx.2.1 0))]) X dL_isCheapest_92 (by rw [hnL]; decide) rfl ?_
              refine kv_iinc (j := 1) (v := (nI (i54 + 1))) (lv2 := [(10, .int (nI (i54 + 1))), (9, .int 0), (8, .int (nI i38)), (2, .int (nI C0)), (3, .int 1), (4, .long le38), (6, .int be38), (7, .int ir38), (0, .ref xa), (1, .ref (wx.2.1 0))]) X dL_isCheapest_94 rfl (nI_add i54 1) (by rw [hnL]; decide) rfl ?_
              refine kv_goto (tgt := 54) X dL_isCheapest_97 (by decide) ?_
              exact kv_lv [0, 1, 2, 3, 4, 5, 6, 7, 8, 9] rfl (ih54 (i54 + 1) (by omega) _ _ _ (nI o9) 0 hLd (Or.inl rfl) (fun q => absurd q (by decide)) (by omega) (by omega))
            ·
              refine kv_if_eq (tgt := 91) X dL_isCheapest_84 (by decide) (fun hc84 => False.elim (absurd (hal1.symm.trans hc84) (by decide))) (fun hc84 => ?_)
              refine kv_iconst (v := 1) X dL_isCheapest_87 (by decide) ?_
              refine kv_goto (tgt := 92) X dL_isCheapest_88 (by decide) ?_
              refine kv_istore (lv2 := [(9, .int 1), (10, .int (nI i54)), (8, .int (nI i38)), (2, .int (nI C0)), (3, .int 1), (4, .long le38), (6, .int be38), (7, .int ir38), (0, .ref xa), (1, .ref (wx.2.1 0))]) X dL_isCheapest_92 (by rw [hnL]; decide) rfl ?_
              refine kv_iinc (j := 1) (v := (nI (i54 + 1))) (lv2 := [(10, .int (nI (i54 + 1))), (9, .int 1), (8, .int (nI i38)), (2, .int (nI C0)), (3, .int 1), (4, .long le38), (6, .int be38), (7, .int ir38), (0, .ref xa), (1, .ref (wx.2.1 0))]) X dL_isCheapest_94 rfl (nI_add i54 1) (by rw [hnL]; decide) rfl ?_
              refine kv_goto (tgt := 54) X dL_isCheapest_97 (by decide) ?_
              exact kv_lv [0, 1, 2, 3, 4, 5, 6, 7, 8, 9] rfl (ih54 (i54 + 1) (by omega) _ _ _ (nI o9) 1 hLd (Or.inr rfl) (fun q => bEq_s (hal54 hal1) (ebv.trans q1)) (by omega) (by omega))
          ·
            have hLd2 : LPo dd c76 (Mo M (nI o9 ^^^ ((1 : Int32) <<< (nI i54 &&& 31)))) nR nC nt nL nW nV nM cn nm mn me li rl xa := by
              have q3 : LPo dd c76 (Mo (Mo M (nI o9)) (nI o9 ^^^ ((1 : Int32) <<< (nI i54 &&& 31)))) nR nC nt nL nW nV nM cn nm mn me li rl xa := hLd
              rw [Mo_Mo] at q3; exact q3
            show kv dd g _ _ 79 [(10, .int (nI i54)), (9, .int al54), (8, .int (nI i38)), (2, .int (nI C0)), (3, .int 1), (4, .long le38), (6, .int be38), (7, .int ir38), (0, .ref xa), (1, .ref (wx.2.1 0))] [.int r76] (jk c76 wr wx) (jd c76 wr wx) (jE c76 wr wx)
            refine kv_if_lt (tgt := 91) X dL_isCheapest_79 (by decide) (fun h => absurd h (by rw [q2]; rcases hbv0 with rfl | rfl <;> decide)) (fun _ => ?_)
            refine kv_iload X 1 dL_isCheapest_82 rfl ?_
            rcases hz54 with hal0 | hal1
            ·
              refine kv_if_eq (tgt := 91) X dL_isCheapest_84 (by decide) (fun hc84 => ?_) (fun hc84 => False.elim (hc84 hal0))
              refine kv_iconst (v := 0) X dL_isCheapest_91 (by decide) ?_
              refine kv_istore (lv2 := [(9, .int 0), (10, .int (nI i54)), (8, .int (nI i38)), (2, .int (nI C0)), (3, .int 1), (4, .long le38), (6, .int be38), (7, .int ir38), (0, .ref xa), (1, .ref (wx.2.1 0))]) X dL_isCheapest_92 (by rw [hnL]; decide) rfl ?_
              refine kv_iinc (j := 1) (v := (nI (i54 + 1))) (lv2 := [(10, .int (nI (i54 + 1))), (9, .int 0), (8, .int (nI i38)), (2, .int (nI C0)), (3, .int 1), (4, .long le38), (6, .int be38), (7, .int ir38), (0, .ref xa), (1, .ref (wx.2.1 0))]) X dL_isCheapest_94 rfl (nI_add i54 1) (by rw [hnL]; decide) rfl ?_
              refine kv_goto (tgt := 54) X dL_isCheapest_97 (by decide) ?_
              exact kv_lv [0, 1, 2, 3, 4, 5, 6, 7, 8, 9] rfl (ih54 (i54 + 1) (by omega) _ _ _ (nI o9 ^^^ ((1 : Int32) <<< (nI i54 &&& 31))) 0 hLd2 (Or.inl rfl) (fun q => absurd q (by decide)) (by omega) (by omega))
            ·
              refine kv_if_eq (tgt := 91) X dL_isCheapest_84 (by decide) (fun hc84 => False.elim (absurd (hal1.symm.trans hc84) (by decide))) (fun hc84 => ?_)
              refine kv_iconst (v := 1) X dL_isCheapest_87 (by decide) ?_
              refine kv_goto (tgt := 92) X dL_isCheapest_88 (by decide) ?_
              refine kv_istore (lv2 := [(9, .int 1), (10, .int (nI i54)), (8, .int (nI i38)), (2, .int (nI C0)), (3, .int 1), (4, .long le38), (6, .int be38), (7, .int ir38), (0, .ref xa), (1, .ref (wx.2.1 0))]) X dL_isCheapest_92 (by rw [hnL]; decide) rfl ?_
              refine kv_iinc (j := 1) (v := (nI (i54 + 1))) (lv2 := [(10, .int (nI (i54 + 1))), (9, .int 1), (8, .int (nI i38)), (2, .int (nI C0)), (3, .int 1), (4, .long le38), (6, .int be38), (7, .int ir38), (0, .ref xa), (1, .ref (wx.2.1 0))]) X dL_isCheapest_94 rfl (nI_add i54 1) (by rw [hnL]; decide) rfl ?_
              refine kv_goto (tgt := 54) X dL_isCheapest_97 (by decide) ?_
              exact kv_lv [0, 1, 2, 3, 4, 5, 6, 7, 8, 9] rfl (ih54 (i54 + 1) (by omega) _ _ _ (nI o9 ^^^ ((1 : Int32) <<< (nI i54 &&& 31))) 1 hLd2 (Or.inr rfl) (fun q => bEq_x (hal54 hal1) (by omega) (by omega) (by omega) (fun w => q1 (ebv.symm.trans w))) (by omega) (by omega))
          ·
            subst q2
            show kv dd g _ _ 79 [(10, .int (nI i54)), (9, .int al54), (8, .int (nI i38)), (2, .int (nI C0)), (3, .int 1), (4, .long le38), (6, .int be38), (7, .int ir38), (0, .ref xa), (1, .ref (wx.2.1 0))] [.int (-2004)] (jk c76 wr wx) (jd c76 wr wx) (jE c76 wr wx)
            refine kv_if_lt (tgt := 91) X dL_isCheapest_79 (by decide) (fun _ => ?_) (fun h => absurd (by decide) h)
            refine kv_iconst (v := 0) X dL_isCheapest_91 (by decide) ?_
            refine kv_istore (lv2 := [(9, .int 0), (10, .int (nI i54)), (8, .int (nI i38)), (2, .int (nI C0)), (3, .int 1), (4, .long le38), (6, .int be38), (7, .int ir38), (0, .ref xa), (1, .ref (wx.2.1 0))]) X dL_isCheapest_92 (by rw [hnL]; decide) rfl ?_
            refine kv_iinc (j := 1) (v := (nI (i54 + 1))) (lv2 := [(10, .int (nI (i54 + 1))), (9, .int 0), (8, .int (nI i38)), (2, .int (nI C0)), (3, .int 1), (4, .long le38), (6, .int be38), (7, .int ir38), (0, .ref xa), (1, .ref (wx.2.1 0))]) X dL_isCheapest_94 rfl (nI_add i54 1) (by rw [hnL]; decide) rfl ?_
            refine kv_goto (tgt := 54) X dL_isCheapest_97 (by decide) ?_
            exact kv_lv [0, 1, 2, 3, 4, 5, 6, 7, 8, 9] rfl (ih54 (i54 + 1) (by omega) _ _ _ (nI o9) 0 hLd (Or.inl rfl) (fun q => absurd q (by decide)) (by omega) (by omega))
      exact kv_lv [0, 1, 2, 3, 4, 5, 6, 7, 8, 9] rfl (L54 (nV) 0 (by omega) _ _ _ o38 1 hL38 (Or.inr rfl) (fun _ i hi => absurd hi (by omega)) (by omega) (by omega))
  exact kv_lv [0, 5, 4, 3, 2, 1, 6, 7] rfl (L38 (2 ^ nV) 0 (by omega) _ _ _ (M.1 24) 9223372036854775807 (-1) 0 hL0 chI_0 (by omega) (by omega))


set_option maxRecDepth 100000 in
set_option maxHeartbeats 4000000 in
theorem c_L_turn (l : Launch) (dd : kDD) (ks : List Nat) (ad : Nat → Nat) (E : Nat → va_E) (e : eS) (wr wx : kT) (hks : ∀ j, j ∈ ks → j < 1000) (M : mS) (nR nC nt nL nW nV nM : Nat) (cn nm mn me li rl : Nat → Nat) (on : Int32) (hO : cO dd ks ad E on) (hR : cR dd ks ad E M nR) (hC : cC dd ks ad E M nC mn me) (hT : cT dd ks ad E M nt cn nm) (hL : cL dd ks ad E M nL nW li) (hW : cW dd ks ad E M nW rl) (hV : cV dd ks ad E M nV) (hM : cM dd ks ad E M nM) (hB : cB M nR nC nt nL nW nV cn nm mn me li rl) (mI mR : Int32 → Nat → Nat) (hmI : ∀ o j, j < nt → mnt o (M.2.1 22) j nV 0 = nI (mI o j) ∧ mI o j < nt) (hmR : ∀ o j, j < nR → mnt o (M.2.1 23) j nV 0 = nI (mR o j) ∧ mR o j < nR) (hpk : ∀ r, r < nR → 1 ≤ M.2.1 5 r) (v : Int32) (p : Int32) (f0 : Nat → Int64) (hx0 : 0 ∈ wx.1 ∧ wx.2.2 0 = kJ dd 1 f0) : kCi l yL_turn (wsL_turn ++ kHx) ({ frames := 8, cells := 2, slots := 12, locals := 178 } : Room) 2 12 dd [.ref (ad 0), .int v, .int p, .ref (wx.2.1 0)] (jk (ks, ad, cE dd E e) wr wx, jd (ks, ad, cE dd E e) wr wx, jE (ks, ad, cE dd E e) wr wx) (kQi (S := kT × kT) (fun r9 z => (r9 = 0 ∧ ∃ v9 : Int32, (fun (r : Int32) (z : kT) => ∃ j, (j < nV ∧ v = nI j) ∧ ((on >>> (nI j &&& 31) &&& 1 = 1 ∧ r = 1) ∨ (¬ on >>> (nI j &&& 31) &&& 1 = 1 ∧ r = 0)) ∧ ((r = p ∧ (z.2.1 0 = ad 0 ∧ cAll dd M nR nC nt nL nW nV nM cn nm mn me li rl on z)) ∨ (¬ r = p ∧ kFx (M.2.1 13) cn (fun k => mI (on ^^^ ((1 : Int32) <<< (nI j &&& 31))) (nm k)) (nJ (M.2.1 13) cn (fun k => mI (on ^^^ ((1 : Int32) <<< (nI j &&& 31))) (nm k)) 2) nt ∧ (z.2.1 0 = ad 0 ∧ cAll dd M nR nC nt nL nW nV nM cn nm mn me li rl (on ^^^ ((1 : Int32) <<< (nI j &&& 31))) z)))) v9 z.1 ∧ z.2 = xJ dd wx f0 (if v9 = 0 then 0 else 1)) ∨ (r9 = 1 ∧ ∃ e9, z.1 = (ks, ad, cE dd E e9) ∧ ¬ (∃ j, j < nV ∧ v = nI j) ∧ z.2 = wx) ∨ (r9 = 2 ∧ ∃ e9, z.1 = (ks, ad, cE dd E e9) ∧ (∃ j, (j < nV ∧ v = nI j) ∧ ((on >>> (nI j &&& 31) &&& 1 = 1 ∧ ¬ p = 1) ∨ (¬ on >>> (nI j &&& 31) &&& 1 = 1 ∧ ¬ p = 0)) ∧ ¬ kFx (M.2.1 13) cn (fun k => mI (on ^^^ ((1 : Int32) <<< (nI j &&& 31))) (nm k)) (nJ (M.2.1 13) cn (fun k => mI (on ^^^ ((1 : Int32) <<< (nI j &&& 31))) (nm k)) 2) nt) ∧ z.2 = wx)) (fun z => jk z.1 wr z.2) (fun z => jd z.1 wr z.2) (fun z => jE z.1 wr z.2)) := by
  refine kMetiW (ws' := _) (cc := cL_turn) (maxL := 5) (rt := .int) (by decide) rfl (Nat.le_of_ble_eq_true rfl) (fun g X hr htb hnL hRR hl0 => ?_)
  show kv dd g 0 0 0 [(0, .ref (ad 0)), (1, .int v), (2, .int p), (3, .ref (wx.2.1 0))] [] (jk (ks, ad, cE dd E e) wr wx) (jd (ks, ad, cE dd E e) wr wx) (jE (ks, ad, cE dd E e) wr wx)
  refine kv_aload_n X 3 dL_turn_0 rfl rfl ?_
  refine kv_iconst (v := 0) X dL_turn_1 (by decide) ?_
  refine kv_aload_n X 0 dL_turn_2 rfl rfl ?_
  refine kv_iload_n X 1 dL_turn_3 rfl rfl ?_
  refine kv_iload_n X 2 dL_turn_4 rfl rfl ?_
  refine kv_calliXVc (As := [.int v, .int p]) [.int 0, .ref (wx.2.1 0)] (ci := 13) (κ := 0) (r1 := (TX10, 3)) X (kCiX_frC (c := (ks, ad, cE dd E e)) (r := wr) (x := wx) (by rw [cf_id hks]; exact c_X10_turn l dd ks ad E e M nR nC nt nL nW nV nM cn nm mn me li rl on hO hR hC hT hL hW hV hM hB mI mR hmI hmR hpk v p)) hl0 (kCV_of X 2 (goodIn_ext gL_turn_X10_turn) rfl rfl rfl (by decide +kernel) hRR ⟨(Nat.le_of_ble_eq_true rfl), (Nat.le_of_ble_eq_true rfl)⟩) (j_c0.1.mpr hO.1.1) (j_c0.2.2.trans ((cE_ne (dd := dd) (E := E) (e := e) (k := 0) (by omega)).trans hO.1.2)) rfl rfl rfl (Nat.le_of_ble_eq_true rfl) hRR ⟨(Nat.le_of_ble_eq_true rfl), (Nat.le_of_ble_eq_true rfl)⟩ dL_turn_5 (fun X9 u hX => ?_) (fun r9 z hp => ?_)
  ·
    obtain ⟨u1, ⟨e9, rfl, hX⟩, rfl⟩ := hX
    rcases hX with ⟨rfl, hX⟩ | ⟨rfl, hX⟩
    ·
      refine kvx_catch (nm := "java/lang/IndexOutOfBoundsException") X htb [] (⟨0, 17, 20, 21⟩ : ExceptionTableEntry) [(⟨0, 17, 24, 31⟩ : ExceptionTableEntry)] rfl (fun z hz => nomatch hz) (by decide) (by decide) (List.mem_append_right _ (List.mem_of_getElem? (i := 2) rfl)) (by decide +kernel) (fun q9 => ?_)
      show kv dd g _ _ 20 [(0, .ref (ad 0)), (1, .int v), (2, .int p), (3, .ref (wx.2.1 0))] [.ref q9] (jk (ks, ad, cE dd E e9) wr wx) (jd (ks, ad, cE dd E e9) wr wx) (jE (ks, ad, cE dd E e9) wr wx)
      refine kv_astore (lv2 := [(4, .ref q9), (0, .ref (ad 0)), (1, .int v), (2, .int p), (3, .ref (wx.2.1 0))]) X dL_turn_20 (by rw [hnL]; decide) rfl ?_
      refine kv_iconst (v := 1) X dL_turn_22 (by decide) ?_
      exact kv_ireturn X hr (Nat.le_of_ble_eq_true rfl) (Nat.le_of_ble_eq_true rfl) ⟨((ks, ad, cE dd E e9), wx), (Or.inr (Or.inl (⟨rfl, ⟨e9, rfl, hX, rfl⟩⟩))), rfl⟩ dL_turn_23
    ·
      refine kvx_catch (nm := "java/lang/UnsupportedOperationException") X htb [(⟨0, 17, 20, 21⟩ : ExceptionTableEntry)] (⟨0, 17, 24, 31⟩ : ExceptionTableEntry) [] rfl (fun z hz => by
          simp only [List.mem_cons, List.not_mem_nil, or_false] at hz
          rcases hz with rfl
          · exact ⟨by decide, _, (List.mem_append_right _ (List.mem_of_getElem? (i := 2) rfl)), by decide +kernel⟩) (by decide) (by decide) (List.mem_append_right _ (List.mem_of_getElem? (i := 3) rfl)) (by decide +kernel) (fun q9 => ?_)
      show kv dd g _ _ 24 [(0, .ref (ad 0)), (1, .int v), (2, .int p), (3, .ref (wx.2.1 0))] [.ref q9] (jk (ks, ad, cE dd E e9) wr wx) (jd (ks, ad, cE dd E e9) wr wx) (jE (ks, ad, cE dd E e9) wr wx)
      refine kv_astore (lv2 := [(4, .ref q9), (0, .ref (ad 0)), (1, .int v), (2, .int p), (3, .ref (wx.2.1 0))]) X dL_turn_24 (by rw [hnL]; decide) rfl ?_
      refine kv_iconst (v := 2) X dL_turn_26 (by decide) ?_
      exact kv_ireturn X hr (Nat.le_of_ble_eq_true rfl) (Nat.le_of_ble_eq_true rfl) ⟨((ks, ad, cE dd E e9), wx), (Or.inr (Or.inr (⟨rfl, ⟨e9, rfl, hX, rfl⟩⟩))), rfl⟩ dL_turn_27
  ·
    show kv dd g _ _ 8 [(0, .ref (ad 0)), (1, .int v), (2, .int p), (3, .ref (wx.2.1 0))] [.int r9, .int 0, .ref (wx.2.1 0)] (jk z wr wx) (jd z wr wx) (jE z wr wx)
    refine kv_if_eq (tgt := 15) X dL_turn_8 (by decide) (fun hc8 => ?_) (fun hc8 => ?_)
    ·
      refine kv_lconst (v := 0) X dL_turn_15 (by decide) ?_
      refine kv_lastore X (κ := 2000) (n := 1) (j := 0) (f := f0) (x := 0) (j_x0.1.mpr hx0.1) (j_x0.2.2.trans hx0.2) (by omega) (by omega) dL_turn_16 ?_
      refine kv_E (E2 := (jE z wr (xJ dd wx f0 0))) (fun j _ => xJ_E j) ?_
      refine kv_goto (tgt := 28) X dL_turn_17 (by decide) ?_
      refine kv_iconst (v := 0) X dL_turn_28 (by decide) ?_
      exact kv_ireturn X hr (Nat.le_of_ble_eq_true rfl) (Nat.le_of_ble_eq_true rfl) ⟨(z, (xJ dd wx f0 0)), (Or.inl (⟨rfl, r9, hp, by first | rw [if_pos hc8] | rw [if_neg hc8]⟩)), rfl⟩ dL_turn_29
    ·
      refine kv_lconst (v := 1) X dL_turn_11 (by decide) ?_
      refine kv_goto (tgt := 16) X dL_turn_12 (by decide) ?_
      refine kv_lastore X (κ := 2000) (n := 1) (j := 0) (f := f0) (x := 1) (j_x0.1.mpr hx0.1) (j_x0.2.2.trans hx0.2) (by omega) (by omega) dL_turn_16 ?_
      refine kv_E (E2 := (jE z wr (xJ dd wx f0 1))) (fun j _ => xJ_E j) ?_
      refine kv_goto (tgt := 28) X dL_turn_17 (by decide) ?_
      refine kv_iconst (v := 0) X dL_turn_28 (by decide) ?_
      exact kv_ireturn X hr (Nat.le_of_ble_eq_true rfl) (Nat.le_of_ble_eq_true rfl) ⟨(z, (xJ dd wx f0 1)), (Or.inl (⟨rfl, r9, hp, by first | rw [if_pos hc8] | rw [if_neg hc8]⟩)), rfl⟩ dL_turn_29

set_option maxRecDepth 100000 in
set_option maxHeartbeats 4000000 in
theorem c_L_difference (l : Launch) (dd : kDD) (ks : List Nat) (ad : Nat → Nat) (E : Nat → va_E) (e : eS) (wr wx : kT) (hks : ∀ j, j ∈ ks → j < 1000) (M : mS) (nR nC nt nL nW nV nM : Nat) (cn nm mn me li rl : Nat → Nat) (on : Int32) (hO : cO dd ks ad E on) (hR : cR dd ks ad E M nR) (hC : cC dd ks ad E M nC mn me) (hT : cT dd ks ad E M nt cn nm) (hL : cL dd ks ad E M nL nW li) (hW : cW dd ks ad E M nW rl) (hV : cV dd ks ad E M nV) (hM : cM dd ks ad E M nM) (hB : cB M nR nC nt nL nW nV cn nm mn me li rl) (mI mR : Int32 → Nat → Nat) (hmI : ∀ o j, j < nt → mnt o (M.2.1 22) j nV 0 = nI (mI o j) ∧ mI o j < nt) (hmR : ∀ o j, j < nR → mnt o (M.2.1 23) j nV 0 = nI (mR o j) ∧ mR o j < nR) (hpk : ∀ r, r < nR → 1 ≤ M.2.1 5 r) (v : Int32) (hfx : kFx (M.2.1 13) cn (fun k => mI on (nm k)) (nJ (M.2.1 13) cn (fun k => mI on (nm k)) 2) nt) (f0 : Nat → Int64) (hx0 : 0 ∈ wx.1 ∧ wx.2.2 0 = kJ dd 1 f0) : kCi l yL_difference (wsL_difference ++ kHx) ({ frames := 10, cells := 2, slots := 12, locals := 226 } : Room) 2 12 dd [.ref (ad 0), .int v, .ref (wx.2.1 0)] (jk (ks, ad, cE dd E e) wr wx, jd (ks, ad, cE dd E e) wr wx, jE (ks, ad, cE dd E e) wr wx) (kQi (S := kT × kT) (fun r9 z => (r9 = 0 ∧ ∃ (z9 : eS) (v9 : Int64), (fun (r : Int64) (z : eS) => ∃ j, (j < nV ∧ v = nI j) ∧ kFx (M.2.1 13) cn (fun k => mI (on ^^^ ((1 : Int32) <<< (nI j &&& 31))) (nm k)) (nJ (M.2.1 13) cn (fun k => mI (on ^^^ ((1 : Int32) <<< (nI j &&& 31))) (nm k)) 2) nt ∧ r = cTo M nR nM (cAm M nL nW cn nm mn me li (mI (on ^^^ ((1 : Int32) <<< (nI j &&& 31)))) (mR (on ^^^ ((1 : Int32) <<< (nI j &&& 31))))) - cTo M nR nM (cAm M nL nW cn nm mn me li (mI on) (mR on))) v9 z9 ∧ z.1 = (ks, ad, cE dd E z9) ∧ z.2 = xJ dd wx f0 v9) ∨ (r9 = 1 ∧ ∃ e9, z.1 = (ks, ad, cE dd E e9) ∧ ¬ (∃ j, j < nV ∧ v = nI j) ∧ z.2 = wx) ∨ (r9 = 2 ∧ ∃ e9, z.1 = (ks, ad, cE dd E e9) ∧ (∃ j, (j < nV ∧ v = nI j) ∧ ¬ kFx (M.2.1 13) cn (fun k => mI (on ^^^ ((1 : Int32) <<< (nI j &&& 31))) (nm k)) (nJ (M.2.1 13) cn (fun k => mI (on ^^^ ((1 : Int32) <<< (nI j &&& 31))) (nm k)) 2) nt) ∧ z.2 = wx)) (fun z => jk z.1 wr z.2) (fun z => jd z.1 wr z.2) (fun z => jE z.1 wr z.2)) := by
  refine kMetiW (ws' := _) (cc := cL_difference) (maxL := 4) (rt := .int) (by decide) rfl (Nat.le_of_ble_eq_true rfl) (fun g X hr htb hnL hRR hl0 => ?_)
  show kv dd g 0 0 0 [(0, .ref (ad 0)), (1, .int v), (2, .ref (wx.2.1 0))] [] (jk (ks, ad, cE dd E e) wr wx) (jd (ks, ad, cE dd E e) wr wx) (jE (ks, ad, cE dd E e) wr wx)
  refine kv_aload_n X 2 dL_difference_0 rfl rfl ?_
  refine kv_iconst (v := 0) X dL_difference_1 (by decide) ?_
  refine kv_aload_n X 0 dL_difference_2 rfl rfl ?_
  refine kv_iload_n X 1 dL_difference_3 rfl rfl ?_
  refine kv_calllXVc (As := [.int v]) [.int 0, .ref (wx.2.1 0)] (ci := 13) (κ := 0) (r1 := (TX10, 3)) X (kClX_frC (c := (ks, ad, cE dd E e)) (r := wr) (x := wx) (by rw [cf_id hks]; exact c_X10_difference l dd ks ad E e M nR nC nt nL nW nV nM cn nm mn me li rl on hO hR hC hT hL hW hV hM hB mI mR hmI hmR hpk v hfx)) hl0 (kCV_of X 1 (goodIn_ext gL_difference_X10_difference) rfl rfl rfl (by decide +kernel) hRR ⟨(Nat.le_of_ble_eq_true rfl), (Nat.le_of_ble_eq_true rfl)⟩) (j_c0.1.mpr hO.1.1) (j_c0.2.2.trans ((cE_ne (dd := dd) (E := E) (e := e) (k := 0) (by omega)).trans hO.1.2)) rfl rfl rfl (Nat.le_of_ble_eq_true rfl) hRR ⟨(Nat.le_of_ble_eq_true rfl), (Nat.le_of_ble_eq_true rfl)⟩ dL_difference_4 (fun X9 u hX => ?_) (fun r9 z hp => ?_)
  ·
    obtain ⟨u1, ⟨e9, rfl, hX⟩, rfl⟩ := hX
    rcases hX with ⟨rfl, hX⟩ | ⟨rfl, hX⟩
    ·
      refine kvx_catch (nm := "java/lang/IndexOutOfBoundsException") X htb [] (⟨0, 8, 11, 21⟩ : ExceptionTableEntry) [(⟨0, 8, 14, 31⟩ : ExceptionTableEntry)] rfl (fun z hz => nomatch hz) (by decide) (by decide) (List.mem_append_right _ (List.mem_of_getElem? (i := 2) rfl)) (by decide +kernel) (fun q9 => ?_)
      show kv dd g _ _ 11 [(0, .ref (ad 0)), (1, .int v), (2, .ref (wx.2.1 0))] [.ref q9] (jk (ks, ad, cE dd E e9) wr wx) (jd (ks, ad, cE dd E e9) wr wx) (jE (ks, ad, cE dd E e9) wr wx)
      refine kv_astore_n (lv2 := [(3, .ref q9), (0, .ref (ad 0)), (1, .int v), (2, .ref (wx.2.1 0))]) X dL_difference_11 rfl (by rw [hnL]; decide) rfl ?_
      refine kv_iconst (v := 1) X dL_difference_12 (by decide) ?_
      exact kv_ireturn X hr (Nat.le_of_ble_eq_true rfl) (Nat.le_of_ble_eq_true rfl) ⟨((ks, ad, cE dd E e9), wx), (Or.inr (Or.inl (⟨rfl, ⟨e9, rfl, hX, rfl⟩⟩))), rfl⟩ dL_difference_13
    ·
      refine kvx_catch (nm := "java/lang/UnsupportedOperationException") X htb [(⟨0, 8, 11, 21⟩ : ExceptionTableEntry)] (⟨0, 8, 14, 31⟩ : ExceptionTableEntry) [] rfl (fun z hz => by
          simp only [List.mem_cons, List.not_mem_nil, or_false] at hz
          rcases hz with rfl
          · exact ⟨by decide, _, (List.mem_append_right _ (List.mem_of_getElem? (i := 2) rfl)), by decide +kernel⟩) (by decide) (by decide) (List.mem_append_right _ (List.mem_of_getElem? (i := 3) rfl)) (by decide +kernel) (fun q9 => ?_)
      show kv dd g _ _ 14 [(0, .ref (ad 0)), (1, .int v), (2, .ref (wx.2.1 0))] [.ref q9] (jk (ks, ad, cE dd E e9) wr wx) (jd (ks, ad, cE dd E e9) wr wx) (jE (ks, ad, cE dd E e9) wr wx)
      refine kv_astore_n (lv2 := [(3, .ref q9), (0, .ref (ad 0)), (1, .int v), (2, .ref (wx.2.1 0))]) X dL_difference_14 rfl (by rw [hnL]; decide) rfl ?_
      refine kv_iconst (v := 2) X dL_difference_15 (by decide) ?_
      exact kv_ireturn X hr (Nat.le_of_ble_eq_true rfl) (Nat.le_of_ble_eq_true rfl) ⟨((ks, ad, cE dd E e9), wx), (Or.inr (Or.inr (⟨rfl, ⟨e9, rfl, hX, rfl⟩⟩))), rfl⟩ dL_difference_16
  ·
    show kv dd g _ _ 7 [(0, .ref (ad 0)), (1, .int v), (2, .ref (wx.2.1 0))] [.long r9, .int 0, .ref (wx.2.1 0)] (jk (ks, ad, cE dd E z) wr wx) (jd (ks, ad, cE dd E z) wr wx) (jE (ks, ad, cE dd E z) wr wx)
    refine kv_lastore X (κ := 2000) (n := 1) (j := 0) (f := f0) (x := r9) (j_x0.1.mpr hx0.1) (j_x0.2.2.trans hx0.2) (by omega) (by omega) dL_difference_7 ?_
    refine kv_E (E2 := (jE (ks, ad, cE dd E z) wr (xJ dd wx f0 r9))) (fun j _ => xJ_E j) ?_
    refine kv_goto (tgt := 17) X dL_difference_8 (by decide) ?_
    refine kv_iconst (v := 0) X dL_difference_17 (by decide) ?_
    exact kv_ireturn X hr (Nat.le_of_ble_eq_true rfl) (Nat.le_of_ble_eq_true rfl) ⟨((ks, ad, cE dd E z), (xJ dd wx f0 r9)), (Or.inl (⟨rfl, z, r9, hp, rfl, rfl⟩)), rfl⟩ dL_difference_18

set_option maxRecDepth 100000 in
set_option maxHeartbeats 4000000 in
theorem c_L_addMarkup (l : Launch) (dd : kDD) (ks : List Nat) (ad : Nat → Nat) (E : Nat → va_E) (e : eS) (wr wx : kT) (hks : ∀ j, j ∈ ks → j < 1000) (M : mS) (nR nC nt nL nW nV nM : Nat) (cn nm mn me li rl : Nat → Nat) (on : Int32) (hO : cO dd ks ad E on) (hR : cR dd ks ad E M nR) (hC : cC dd ks ad E M nC mn me) (hT : cT dd ks ad E M nt cn nm) (hL : cL dd ks ad E M nL nW li) (hW : cW dd ks ad E M nW rl) (hV : cV dd ks ad E M nV) (hM : cM dd ks ad E M nM) (hB : cB M nR nC nt nL nW nV cn nm mn me li rl) (mI mR : Int32 → Nat → Nat) (hmI : ∀ o j, j < nt → mnt o (M.2.1 22) j nV 0 = nI (mI o j) ∧ mI o j < nt) (hmR : ∀ o j, j < nR → mnt o (M.2.1 23) j nV 0 = nI (mR o j) ∧ mR o j < nR) (hpk : ∀ r, r < nR → 1 ≤ M.2.1 5 r) (p bs : Int32) (f0 : Nat → Int64) (hx0 : 0 ∈ wx.1 ∧ wx.2.2 0 = kJ dd 1 f0) : kCi l yL_addMarkup (wsL_addMarkup ++ kHx) ({ frames := 8, cells := 8, slots := 140, locals := 195 } : Room) 8 140 dd [.ref (ad 0), .int p, .int bs, .ref (wx.2.1 0)] (jk (ks, ad, cE dd E e) wr wx, jd (ks, ad, cE dd E e) wr wx, jE (ks, ad, cE dd E e) wr wx) (kQi (S := kT × kT) (fun r9 z => (r9 = 0 ∧ ∃ v9 : Int32, (fun (r : Int32) (z : kT) => nM < 4 ∧ (0 ≤ p ∧ p ≤ 50) ∧ bs &&& (((1 : Int32) <<< (nI (4 + nM) &&& 31)) - 1 ^^^ -1) = 0 ∧ (z.2.1 0 = ad 0 ∧ cAll dd (M.1, va_up (va_up M.2.1 26 (upd (M.2.1 26) nM p)) 27 (upd (M.2.1 27) nM bs), M.2.2) nR nC nt nL nW nV (nM + 1) cn nm mn me li rl on z) ∧ r = nI nM) v9 z.1 ∧ z.2 = xJ dd wx f0 v9.toInt64) ∨ (r9 = 1 ∧ ∃ e9, z.1 = (ks, ad, cE dd E e9) ∧ nM = 4 ∧ z.2 = wx) ∨ (r9 = 2 ∧ ∃ e9, z.1 = (ks, ad, cE dd E e9) ∧ (nM < 4 ∧ ¬ ((0 ≤ p ∧ p ≤ 50) ∧ bs &&& (((1 : Int32) <<< (nI (4 + nM) &&& 31)) - 1 ^^^ -1) = 0)) ∧ z.2 = wx)) (fun z => jk z.1 wr z.2) (fun z => jd z.1 wr z.2) (fun z => jE z.1 wr z.2)) := by
  refine kMetiW (ws' := _) (cc := cL_addMarkup) (maxL := 5) (rt := .int) (by decide) rfl (Nat.le_of_ble_eq_true rfl) (fun g X hr htb hnL hRR hl0 => ?_)
  show kv dd g 0 0 0 [(0, .ref (ad 0)), (1, .int p), (2, .int bs), (3, .ref (wx.2.1 0))] [] (jk (ks, ad, cE dd E e) wr wx) (jd (ks, ad, cE dd E e) wr wx) (jE (ks, ad, cE dd E e) wr wx)
  refine kv_aload_n X 3 dL_addMarkup_0 rfl rfl ?_
  refine kv_iconst (v := 0) X dL_addMarkup_1 (by decide) ?_
  refine kv_aload_n X 0 dL_addMarkup_2 rfl rfl ?_
  refine kv_iload_n X 1 dL_addMarkup_3 rfl rfl ?_
  refine kv_iload_n X 2 dL_addMarkup_4 rfl rfl ?_
  refine kv_calliXVc (As := [.int p, .int bs]) [.int 0, .ref (wx.2.1 0)] (ci := 13) (κ := 0) (r1 := (TX10, 3)) X (kCiX_frC (c := (ks, ad, cE dd E e)) (r := wr) (x := wx) (by rw [cf_id hks]; exact c_X10_addMarkup l dd ks ad E e M nR nC nt nL nW nV nM cn nm mn me li rl on hO hR hC hT hL hW hV hM hB mI mR hmI hmR hpk p bs)) hl0 (kCV_of X 2 (goodIn_ext gL_addMarkup_X10_addMarkup) rfl rfl rfl (by decide +kernel) hRR ⟨(Nat.le_of_ble_eq_true rfl), (Nat.le_of_ble_eq_true rfl)⟩) (j_c0.1.mpr hO.1.1) (j_c0.2.2.trans ((cE_ne (dd := dd) (E := E) (e := e) (k := 0) (by omega)).trans hO.1.2)) rfl rfl rfl (Nat.le_of_ble_eq_true rfl) hRR ⟨(Nat.le_of_ble_eq_true rfl), (Nat.le_of_ble_eq_true rfl)⟩ dL_addMarkup_5 (fun X9 u hX => ?_) (fun r9 z hp => ?_)
  ·
    obtain ⟨u1, ⟨e9, rfl, hX⟩, rfl⟩ := hX
    rcases hX with ⟨rfl, hX⟩ | ⟨rfl, hX⟩
    ·
      refine kvx_catch (nm := "java/lang/IllegalStateException") X htb [] (⟨0, 10, 13, 15⟩ : ExceptionTableEntry) [(⟨0, 10, 17, 13⟩ : ExceptionTableEntry)] rfl (fun z hz => nomatch hz) (by decide) (by decide) (List.mem_append_right _ (List.mem_of_getElem? (i := 1) rfl)) (by decide +kernel) (fun q9 => ?_)
      show kv dd g _ _ 13 [(0, .ref (ad 0)), (1, .int p), (2, .int bs), (3, .ref (wx.2.1 0))] [.ref q9] (jk (ks, ad, cE dd E e9) wr wx) (jd (ks, ad, cE dd E e9) wr wx) (jE (ks, ad, cE dd E e9) wr wx)
      refine kv_astore (lv2 := [(4, .ref q9), (0, .ref (ad 0)), (1, .int p), (2, .int bs), (3, .ref (wx.2.1 0))]) X dL_addMarkup_13 (by rw [hnL]; decide) rfl ?_
      refine kv_iconst (v := 1) X dL_addMarkup_15 (by decide) ?_
      exact kv_ireturn X hr (Nat.le_of_ble_eq_true rfl) (Nat.le_of_ble_eq_true rfl) ⟨((ks, ad, cE dd E e9), wx), (Or.inr (Or.inl (⟨rfl, ⟨e9, rfl, hX, rfl⟩⟩))), rfl⟩ dL_addMarkup_16
    ·
      refine kvx_catch (nm := "java/lang/IllegalArgumentException") X htb [(⟨0, 10, 13, 15⟩ : ExceptionTableEntry)] (⟨0, 10, 17, 13⟩ : ExceptionTableEntry) [] rfl (fun z hz => by
          simp only [List.mem_cons, List.not_mem_nil, or_false] at hz
          rcases hz with rfl
          · exact ⟨by decide, _, (List.mem_append_right _ (List.mem_of_getElem? (i := 1) rfl)), by decide +kernel⟩) (by decide) (by decide) (List.mem_append_right _ (List.mem_of_getElem? (i := 0) rfl)) (by decide +kernel) (fun q9 => ?_)
      show kv dd g _ _ 17 [(0, .ref (ad 0)), (1, .int p), (2, .int bs), (3, .ref (wx.2.1 0))] [.ref q9] (jk (ks, ad, cE dd E e9) wr wx) (jd (ks, ad, cE dd E e9) wr wx) (jE (ks, ad, cE dd E e9) wr wx)
      refine kv_astore (lv2 := [(4, .ref q9), (0, .ref (ad 0)), (1, .int p), (2, .int bs), (3, .ref (wx.2.1 0))]) X dL_addMarkup_17 (by rw [hnL]; decide) rfl ?_
      refine kv_iconst (v := 2) X dL_addMarkup_19 (by decide) ?_
      exact kv_ireturn X hr (Nat.le_of_ble_eq_true rfl) (Nat.le_of_ble_eq_true rfl) ⟨((ks, ad, cE dd E e9), wx), (Or.inr (Or.inr (⟨rfl, ⟨e9, rfl, hX, rfl⟩⟩))), rfl⟩ dL_addMarkup_20
  ·
    show kv dd g _ _ 8 [(0, .ref (ad 0)), (1, .int p), (2, .int bs), (3, .ref (wx.2.1 0))] [.int r9, .int 0, .ref (wx.2.1 0)] (jk z wr wx) (jd z wr wx) (jE z wr wx)
    refine kv_i2l X dL_addMarkup_8 rfl ?_
    refine kv_lastore X (κ := 2000) (n := 1) (j := 0) (f := f0) (x := r9.toInt64) (j_x0.1.mpr hx0.1) (j_x0.2.2.trans hx0.2) (by omega) (by omega) dL_addMarkup_9 ?_
    refine kv_E (E2 := (jE z wr (xJ dd wx f0 r9.toInt64))) (fun j _ => xJ_E j) ?_
    refine kv_goto (tgt := 21) X dL_addMarkup_10 (by decide) ?_
    refine kv_iconst (v := 0) X dL_addMarkup_21 (by decide) ?_
    exact kv_ireturn X hr (Nat.le_of_ble_eq_true rfl) (Nat.le_of_ble_eq_true rfl) ⟨(z, (xJ dd wx f0 r9.toInt64)), (Or.inl (⟨rfl, r9, hp, rfl⟩)), rfl⟩ dL_addMarkup_22

set_option maxRecDepth 100000 in
set_option maxHeartbeats 4000000 in
theorem c_L_setPercent (l : Launch) (dd : kDD) (ks : List Nat) (ad : Nat → Nat) (E : Nat → va_E) (e : eS) (wr wx : kT) (hks : ∀ j, j ∈ ks → j < 1000) (M : mS) (nR nC nt nL nW nV nM : Nat) (cn nm mn me li rl : Nat → Nat) (on : Int32) (hO : cO dd ks ad E on) (hR : cR dd ks ad E M nR) (hC : cC dd ks ad E M nC mn me) (hT : cT dd ks ad E M nt cn nm) (hL : cL dd ks ad E M nL nW li) (hW : cW dd ks ad E M nW rl) (hV : cV dd ks ad E M nV) (hM : cM dd ks ad E M nM) (hB : cB M nR nC nt nL nW nV cn nm mn me li rl) (mI mR : Int32 → Nat → Nat) (hmI : ∀ o j, j < nt → mnt o (M.2.1 22) j nV 0 = nI (mI o j) ∧ mI o j < nt) (hmR : ∀ o j, j < nR → mnt o (M.2.1 23) j nV 0 = nI (mR o j) ∧ mR o j < nR) (hpk : ∀ r, r < nR → 1 ≤ M.2.1 5 r) (v p : Int32) (f0 : Nat → Int64) (hx0 : 0 ∈ wx.1 ∧ wx.2.2 0 = kJ dd 1 f0) : kCi l yL_setPercent (wsL_setPercent ++ kHx) ({ frames := 8, cells := 2, slots := 12, locals := 146 } : Room) 2 12 dd [.ref (ad 0), .int v, .int p, .ref (wx.2.1 0)] (jk (ks, ad, cE dd E e) wr wx, jd (ks, ad, cE dd E e) wr wx, jE (ks, ad, cE dd E e) wr wx) (kQi (S := kT × kT) (fun r9 z => (r9 = 0 ∧ ∃ v9 : Int32, (fun (r : Int32) (z : kT) => ∃ j, (j < nM ∧ v = nI j) ∧ (0 ≤ p ∧ p ≤ 50) ∧ (z.2.1 0 = ad 0 ∧ cAll dd (M.1, va_up M.2.1 26 (upd (M.2.1 26) j p), M.2.2) nR nC nt nL nW nV nM cn nm mn me li rl on z) ∧ r = M.2.1 26 j) v9 z.1 ∧ z.2 = xJ dd wx f0 v9.toInt64) ∨ (r9 = 1 ∧ ∃ e9, z.1 = (ks, ad, cE dd E e9) ∧ ¬ (∃ j, j < nM ∧ v = nI j) ∧ z.2 = wx) ∨ (r9 = 2 ∧ ∃ e9, z.1 = (ks, ad, cE dd E e9) ∧ ((∃ j, j < nM ∧ v = nI j) ∧ ¬ (0 ≤ p ∧ p ≤ 50)) ∧ z.2 = wx)) (fun z => jk z.1 wr z.2) (fun z => jd z.1 wr z.2) (fun z => jE z.1 wr z.2)) := by
  refine kMetiW (ws' := _) (cc := cL_setPercent) (maxL := 5) (rt := .int) (by decide) rfl (Nat.le_of_ble_eq_true rfl) (fun g X hr htb hnL hRR hl0 => ?_)
  show kv dd g 0 0 0 [(0, .ref (ad 0)), (1, .int v), (2, .int p), (3, .ref (wx.2.1 0))] [] (jk (ks, ad, cE dd E e) wr wx) (jd (ks, ad, cE dd E e) wr wx) (jE (ks, ad, cE dd E e) wr wx)
  refine kv_aload_n X 3 dL_setPercent_0 rfl rfl ?_
  refine kv_iconst (v := 0) X dL_setPercent_1 (by decide) ?_
  refine kv_aload_n X 0 dL_setPercent_2 rfl rfl ?_
  refine kv_iload_n X 1 dL_setPercent_3 rfl rfl ?_
  refine kv_iload_n X 2 dL_setPercent_4 rfl rfl ?_
  refine kv_calliXVc (As := [.int v, .int p]) [.int 0, .ref (wx.2.1 0)] (ci := 13) (κ := 0) (r1 := (TX10, 3)) X (kCiX_frC (c := (ks, ad, cE dd E e)) (r := wr) (x := wx) (by rw [cf_id hks]; exact c_X10_setPercent l dd ks ad E e M nR nC nt nL nW nV nM cn nm mn me li rl on hO hR hC hT hL hW hV hM hB mI mR hmI hmR hpk v p)) hl0 (kCV_of X 2 (goodIn_ext gL_setPercent_X10_setPercent) rfl rfl rfl (by decide +kernel) hRR ⟨(Nat.le_of_ble_eq_true rfl), (Nat.le_of_ble_eq_true rfl)⟩) (j_c0.1.mpr hO.1.1) (j_c0.2.2.trans ((cE_ne (dd := dd) (E := E) (e := e) (k := 0) (by omega)).trans hO.1.2)) rfl rfl rfl (Nat.le_of_ble_eq_true rfl) hRR ⟨(Nat.le_of_ble_eq_true rfl), (Nat.le_of_ble_eq_true rfl)⟩ dL_setPercent_5 (fun X9 u hX => ?_) (fun r9 z hp => ?_)
  ·
    obtain ⟨u1, ⟨e9, rfl, hX⟩, rfl⟩ := hX
    rcases hX with ⟨rfl, hX⟩ | ⟨rfl, hX⟩
    ·
      refine kvx_catch (nm := "java/lang/IndexOutOfBoundsException") X htb [] (⟨0, 10, 13, 21⟩ : ExceptionTableEntry) [(⟨0, 10, 17, 13⟩ : ExceptionTableEntry)] rfl (fun z hz => nomatch hz) (by decide) (by decide) (List.mem_append_right _ (List.mem_of_getElem? (i := 2) rfl)) (by decide +kernel) (fun q9 => ?_)
      show kv dd g _ _ 13 [(0, .ref (ad 0)), (1, .int v), (2, .int p), (3, .ref (wx.2.1 0))] [.ref q9] (jk (ks, ad, cE dd E e9) wr wx) (jd (ks, ad, cE dd E e9) wr wx) (jE (ks, ad, cE dd E e9) wr wx)
      refine kv_astore (lv2 := [(4, .ref q9), (0, .ref (ad 0)), (1, .int v), (2, .int p), (3, .ref (wx.2.1 0))]) X dL_setPercent_13 (by rw [hnL]; decide) rfl ?_
      refine kv_iconst (v := 1) X dL_setPercent_15 (by decide) ?_
      exact kv_ireturn X hr (Nat.le_of_ble_eq_true rfl) (Nat.le_of_ble_eq_true rfl) ⟨((ks, ad, cE dd E e9), wx), (Or.inr (Or.inl (⟨rfl, ⟨e9, rfl, hX, rfl⟩⟩))), rfl⟩ dL_setPercent_16
    ·
      refine kvx_catch (nm := "java/lang/IllegalArgumentException") X htb [(⟨0, 10, 13, 21⟩ : ExceptionTableEntry)] (⟨0, 10, 17, 13⟩ : ExceptionTableEntry) [] rfl (fun z hz => by
          simp only [List.mem_cons, List.not_mem_nil, or_false] at hz
          rcases hz with rfl
          · exact ⟨by decide, _, (List.mem_append_right _ (List.mem_of_getElem? (i := 2) rfl)), by decide +kernel⟩) (by decide) (by decide) (List.mem_append_right _ (List.mem_of_getElem? (i := 0) rfl)) (by decide +kernel) (fun q9 => ?_)
      show kv dd g _ _ 17 [(0, .ref (ad 0)), (1, .int v), (2, .int p), (3, .ref (wx.2.1 0))] [.ref q9] (jk (ks, ad, cE dd E e9) wr wx) (jd (ks, ad, cE dd E e9) wr wx) (jE (ks, ad, cE dd E e9) wr wx)
      refine kv_astore (lv2 := [(4, .ref q9), (0, .ref (ad 0)), (1, .int v), (2, .int p), (3, .ref (wx.2.1 0))]) X dL_setPercent_17 (by rw [hnL]; decide) rfl ?_
      refine kv_iconst (v := 2) X dL_setPercent_19 (by decide) ?_
      exact kv_ireturn X hr (Nat.le_of_ble_eq_true rfl) (Nat.le_of_ble_eq_true rfl) ⟨((ks, ad, cE dd E e9), wx), (Or.inr (Or.inr (⟨rfl, ⟨e9, rfl, hX, rfl⟩⟩))), rfl⟩ dL_setPercent_20
  ·
    show kv dd g _ _ 8 [(0, .ref (ad 0)), (1, .int v), (2, .int p), (3, .ref (wx.2.1 0))] [.int r9, .int 0, .ref (wx.2.1 0)] (jk z wr wx) (jd z wr wx) (jE z wr wx)
    refine kv_i2l X dL_setPercent_8 rfl ?_
    refine kv_lastore X (κ := 2000) (n := 1) (j := 0) (f := f0) (x := r9.toInt64) (j_x0.1.mpr hx0.1) (j_x0.2.2.trans hx0.2) (by omega) (by omega) dL_setPercent_9 ?_
    refine kv_E (E2 := (jE z wr (xJ dd wx f0 r9.toInt64))) (fun j _ => xJ_E j) ?_
    refine kv_goto (tgt := 21) X dL_setPercent_10 (by decide) ?_
    refine kv_iconst (v := 0) X dL_setPercent_21 (by decide) ?_
    exact kv_ireturn X hr (Nat.le_of_ble_eq_true rfl) (Nat.le_of_ble_eq_true rfl) ⟨(z, (xJ dd wx f0 r9.toInt64)), (Or.inl (⟨rfl, r9, hp, rfl⟩)), rfl⟩ dL_setPercent_22

set_option maxRecDepth 100000 in
set_option maxHeartbeats 4000000 in
theorem c_L_markup (l : Launch) (dd : kDD) (ks : List Nat) (ad : Nat → Nat) (E : Nat → va_E) (e : eS) (wr wx : kT) (hks : ∀ j, j ∈ ks → j < 1000) (M : mS) (nR nC nt nL nW nV nM : Nat) (cn nm mn me li rl : Nat → Nat) (on : Int32) (hO : cO dd ks ad E on) (hR : cR dd ks ad E M nR) (hC : cC dd ks ad E M nC mn me) (hT : cT dd ks ad E M nt cn nm) (hL : cL dd ks ad E M nL nW li) (hW : cW dd ks ad E M nW rl) (hV : cV dd ks ad E M nV) (hM : cM dd ks ad E M nM) (hB : cB M nR nC nt nL nW nV cn nm mn me li rl) (mI mR : Int32 → Nat → Nat) (hmI : ∀ o j, j < nt → mnt o (M.2.1 22) j nV 0 = nI (mI o j) ∧ mI o j < nt) (hmR : ∀ o j, j < nR → mnt o (M.2.1 23) j nV 0 = nI (mR o j) ∧ mR o j < nR) (hpk : ∀ r, r < nR → 1 ≤ M.2.1 5 r) (v : Int32) (hfx : kFx (M.2.1 13) cn (fun k => mI on (nm k)) (nJ (M.2.1 13) cn (fun k => mI on (nm k)) 2) nt) (f0 : Nat → Int64) (hx0 : 0 ∈ wx.1 ∧ wx.2.2 0 = kJ dd 1 f0) : kCi l yL_markup (wsL_markup ++ kHx) ({ frames := 10, cells := 1, slots := 6, locals := 223 } : Room) 1 6 dd [.ref (ad 0), .int v, .ref (wx.2.1 0)] (jk (ks, ad, cE dd E e) wr wx, jd (ks, ad, cE dd E e) wr wx, jE (ks, ad, cE dd E e) wr wx) (kQi (S := kT × kT) (fun r9 z => (r9 = 0 ∧ ∃ (z9 : eS) (v9 : Int64), (fun (r : Int64) (z : eS) => ∃ j, (j < nM ∧ v = nI j) ∧ cDn M nR nt nL nW nM cn nm mn me li (mI on) (mR on) (nJ (M.2.1 13) cn (fun k => mI on (nm k)) 2) z ∧ r = z.2 24 j) v9 z9 ∧ z.1 = (ks, ad, cE dd E z9) ∧ z.2 = xJ dd wx f0 v9) ∨ (r9 = 1 ∧ ∃ e9, z.1 = (ks, ad, cE dd E e9) ∧ ¬ (∃ j, j < nM ∧ v = nI j) ∧ z.2 = wx)) (fun z => jk z.1 wr z.2) (fun z => jd z.1 wr z.2) (fun z => jE z.1 wr z.2)) := by
  refine kMetiW (ws' := _) (cc := cL_markup) (maxL := 4) (rt := .int) (by decide) rfl (Nat.le_of_ble_eq_true rfl) (fun g X hr htb hnL hRR hl0 => ?_)
  show kv dd g 0 0 0 [(0, .ref (ad 0)), (1, .int v), (2, .ref (wx.2.1 0))] [] (jk (ks, ad, cE dd E e) wr wx) (jd (ks, ad, cE dd E e) wr wx) (jE (ks, ad, cE dd E e) wr wx)
  refine kv_aload_n X 2 dL_markup_0 rfl rfl ?_
  refine kv_iconst (v := 0) X dL_markup_1 (by decide) ?_
  refine kv_aload_n X 0 dL_markup_2 rfl rfl ?_
  refine kv_iload_n X 1 dL_markup_3 rfl rfl ?_
  refine kv_calllXVc (As := [.int v]) [.int 0, .ref (wx.2.1 0)] (ci := 13) (κ := 0) (r1 := (TX10, 3)) X (kClX_frC (c := (ks, ad, cE dd E e)) (r := wr) (x := wx) (by rw [cf_id hks]; exact c_X10_markup l dd ks ad E e M nR nC nt nL nW nV nM cn nm mn me li rl on hO hR hC hT hL hW hV hM hB mI mR hmI hmR hpk v hfx)) hl0 (kCV_of X 1 (goodIn_ext gL_markup_X10_markup) rfl rfl rfl (by decide +kernel) hRR ⟨(Nat.le_of_ble_eq_true rfl), (Nat.le_of_ble_eq_true rfl)⟩) (j_c0.1.mpr hO.1.1) (j_c0.2.2.trans ((cE_ne (dd := dd) (E := E) (e := e) (k := 0) (by omega)).trans hO.1.2)) rfl rfl rfl (Nat.le_of_ble_eq_true rfl) hRR ⟨(Nat.le_of_ble_eq_true rfl), (Nat.le_of_ble_eq_true rfl)⟩ dL_markup_4 (fun X9 u hX => ?_) (fun r9 z hp => ?_)
  ·
    obtain ⟨u1, ⟨e9, rfl, hX⟩, rfl⟩ := hX
    rcases hX with ⟨rfl, hX⟩
    refine kvx_catch (nm := "java/lang/IndexOutOfBoundsException") X htb [] (⟨0, 8, 11, 21⟩ : ExceptionTableEntry) [] rfl (fun z hz => nomatch hz) (by decide) (by decide) (List.mem_append_right _ (List.mem_of_getElem? (i := 2) rfl)) (by decide +kernel) (fun q9 => ?_)
    show kv dd g _ _ 11 [(0, .ref (ad 0)), (1, .int v), (2, .ref (wx.2.1 0))] [.ref q9] (jk (ks, ad, cE dd E e9) wr wx) (jd (ks, ad, cE dd E e9) wr wx) (jE (ks, ad, cE dd E e9) wr wx)
    refine kv_astore_n (lv2 := [(3, .ref q9), (0, .ref (ad 0)), (1, .int v), (2, .ref (wx.2.1 0))]) X dL_markup_11 rfl (by rw [hnL]; decide) rfl ?_
    refine kv_iconst (v := 1) X dL_markup_12 (by decide) ?_
    exact kv_ireturn X hr (Nat.le_of_ble_eq_true rfl) (Nat.le_of_ble_eq_true rfl) ⟨((ks, ad, cE dd E e9), wx), (Or.inr (⟨rfl, ⟨e9, rfl, hX, rfl⟩⟩)), rfl⟩ dL_markup_13
  ·
    show kv dd g _ _ 7 [(0, .ref (ad 0)), (1, .int v), (2, .ref (wx.2.1 0))] [.long r9, .int 0, .ref (wx.2.1 0)] (jk (ks, ad, cE dd E z) wr wx) (jd (ks, ad, cE dd E z) wr wx) (jE (ks, ad, cE dd E z) wr wx)
    refine kv_lastore X (κ := 2000) (n := 1) (j := 0) (f := f0) (x := r9) (j_x0.1.mpr hx0.1) (j_x0.2.2.trans hx0.2) (by omega) (by omega) dL_markup_7 ?_
    refine kv_E (E2 := (jE (ks, ad, cE dd E z) wr (xJ dd wx f0 r9))) (fun j _ => xJ_E j) ?_
    refine kv_goto (tgt := 14) X dL_markup_8 (by decide) ?_
    refine kv_iconst (v := 0) X dL_markup_14 (by decide) ?_
    exact kv_ireturn X hr (Nat.le_of_ble_eq_true rfl) (Nat.le_of_ble_eq_true rfl) ⟨((ks, ad, cE dd E z), (xJ dd wx f0 r9)), (Or.inl (⟨rfl, z, r9, hp, rfl, rfl⟩)), rfl⟩ dL_markup_15

set_option maxRecDepth 100000 in
set_option maxHeartbeats 4000000 in
theorem c_L_amount (l : Launch) (dd : kDD) (ks : List Nat) (ad : Nat → Nat) (E : Nat → va_E) (e : eS) (wr wx : kT) (hks : ∀ j, j ∈ ks → j < 1000) (M : mS) (nR nC nt nL nW nV nM : Nat) (cn nm mn me li rl : Nat → Nat) (on : Int32) (hO : cO dd ks ad E on) (hR : cR dd ks ad E M nR) (hC : cC dd ks ad E M nC mn me) (hT : cT dd ks ad E M nt cn nm) (hL : cL dd ks ad E M nL nW li) (hW : cW dd ks ad E M nW rl) (hV : cV dd ks ad E M nV) (hM : cM dd ks ad E M nM) (hB : cB M nR nC nt nL nW nV cn nm mn me li rl) (mI mR : Int32 → Nat → Nat) (hmI : ∀ o j, j < nt → mnt o (M.2.1 22) j nV 0 = nI (mI o j) ∧ mI o j < nt) (hmR : ∀ o j, j < nR → mnt o (M.2.1 23) j nV 0 = nI (mR o j) ∧ mR o j < nR) (hpk : ∀ r, r < nR → 1 ≤ M.2.1 5 r) (v : Int32) (hfx : kFx (M.2.1 13) cn (fun k => mI on (nm k)) (nJ (M.2.1 13) cn (fun k => mI on (nm k)) 2) nt) (f0 : Nat → Int64) (hx0 : 0 ∈ wx.1 ∧ wx.2.2 0 = kJ dd 1 f0) : kCi l yL_amount (wsL_amount ++ kHx) ({ frames := 10, cells := 1, slots := 6, locals := 223 } : Room) 1 6 dd [.ref (ad 0), .int v, .ref (wx.2.1 0)] (jk (ks, ad, cE dd E e) wr wx, jd (ks, ad, cE dd E e) wr wx, jE (ks, ad, cE dd E e) wr wx) (kQi (S := kT × kT) (fun r9 z => (r9 = 0 ∧ ∃ (z9 : eS) (v9 : Int64), (fun (r : Int64) (z : eS) => ∃ j, (j < nR ∧ v = nI j) ∧ cDn M nR nt nL nW nM cn nm mn me li (mI on) (mR on) (nJ (M.2.1 13) cn (fun k => mI on (nm k)) 2) z ∧ r = z.2 23 j) v9 z9 ∧ z.1 = (ks, ad, cE dd E z9) ∧ z.2 = xJ dd wx f0 v9) ∨ (r9 = 1 ∧ ∃ e9, z.1 = (ks, ad, cE dd E e9) ∧ ¬ (∃ j, j < nR ∧ v = nI j) ∧ z.2 = wx)) (fun z => jk z.1 wr z.2) (fun z => jd z.1 wr z.2) (fun z => jE z.1 wr z.2)) := by
  refine kMetiW (ws' := _) (cc := cL_amount) (maxL := 4) (rt := .int) (by decide) rfl (Nat.le_of_ble_eq_true rfl) (fun g X hr htb hnL hRR hl0 => ?_)
  show kv dd g 0 0 0 [(0, .ref (ad 0)), (1, .int v), (2, .ref (wx.2.1 0))] [] (jk (ks, ad, cE dd E e) wr wx) (jd (ks, ad, cE dd E e) wr wx) (jE (ks, ad, cE dd E e) wr wx)
  refine kv_aload_n X 2 dL_amount_0 rfl rfl ?_
  refine kv_iconst (v := 0) X dL_amount_1 (by decide) ?_
  refine kv_aload_n X 0 dL_amount_2 rfl rfl ?_
  refine kv_iload_n X 1 dL_amount_3 rfl rfl ?_
  refine kv_calllXVc (As := [.int v]) [.int 0, .ref (wx.2.1 0)] (ci := 13) (κ := 0) (r1 := (TX10, 3)) X (kClX_frC (c := (ks, ad, cE dd E e)) (r := wr) (x := wx) (by rw [cf_id hks]; exact c_X10_amount l dd ks ad E e M nR nC nt nL nW nV nM cn nm mn me li rl on hO hR hC hT hL hW hV hM hB mI mR hmI hmR hpk v hfx)) hl0 (kCV_of X 1 (goodIn_ext gL_amount_X10_amount) rfl rfl rfl (by decide +kernel) hRR ⟨(Nat.le_of_ble_eq_true rfl), (Nat.le_of_ble_eq_true rfl)⟩) (j_c0.1.mpr hO.1.1) (j_c0.2.2.trans ((cE_ne (dd := dd) (E := E) (e := e) (k := 0) (by omega)).trans hO.1.2)) rfl rfl rfl (Nat.le_of_ble_eq_true rfl) hRR ⟨(Nat.le_of_ble_eq_true rfl), (Nat.le_of_ble_eq_true rfl)⟩ dL_amount_4 (fun X9 u hX => ?_) (fun r9 z hp => ?_)
  ·
    obtain ⟨u1, ⟨e9, rfl, hX⟩, rfl⟩ := hX
    rcases hX with ⟨rfl, hX⟩
    refine kvx_catch (nm := "java/lang/IndexOutOfBoundsException") X htb [] (⟨0, 8, 11, 21⟩ : ExceptionTableEntry) [] rfl (fun z hz => nomatch hz) (by decide) (by decide) (List.mem_append_right _ (List.mem_of_getElem? (i := 2) rfl)) (by decide +kernel) (fun q9 => ?_)
    show kv dd g _ _ 11 [(0, .ref (ad 0)), (1, .int v), (2, .ref (wx.2.1 0))] [.ref q9] (jk (ks, ad, cE dd E e9) wr wx) (jd (ks, ad, cE dd E e9) wr wx) (jE (ks, ad, cE dd E e9) wr wx)
    refine kv_astore_n (lv2 := [(3, .ref q9), (0, .ref (ad 0)), (1, .int v), (2, .ref (wx.2.1 0))]) X dL_amount_11 rfl (by rw [hnL]; decide) rfl ?_
    refine kv_iconst (v := 1) X dL_amount_12 (by decide) ?_
    exact kv_ireturn X hr (Nat.le_of_ble_eq_true rfl) (Nat.le_of_ble_eq_true rfl) ⟨((ks, ad, cE dd E e9), wx), (Or.inr (⟨rfl, ⟨e9, rfl, hX, rfl⟩⟩)), rfl⟩ dL_amount_13
  ·
    show kv dd g _ _ 7 [(0, .ref (ad 0)), (1, .int v), (2, .ref (wx.2.1 0))] [.long r9, .int 0, .ref (wx.2.1 0)] (jk (ks, ad, cE dd E z) wr wx) (jd (ks, ad, cE dd E z) wr wx) (jE (ks, ad, cE dd E z) wr wx)
    refine kv_lastore X (κ := 2000) (n := 1) (j := 0) (f := f0) (x := r9) (j_x0.1.mpr hx0.1) (j_x0.2.2.trans hx0.2) (by omega) (by omega) dL_amount_7 ?_
    refine kv_E (E2 := (jE (ks, ad, cE dd E z) wr (xJ dd wx f0 r9))) (fun j _ => xJ_E j) ?_
    refine kv_goto (tgt := 14) X dL_amount_8 (by decide) ?_
    refine kv_iconst (v := 0) X dL_amount_14 (by decide) ?_
    exact kv_ireturn X hr (Nat.le_of_ble_eq_true rfl) (Nat.le_of_ble_eq_true rfl) ⟨((ks, ad, cE dd E z), (xJ dd wx f0 r9)), (Or.inl (⟨rfl, z, r9, hp, rfl, rfl⟩)), rfl⟩ dL_amount_15

set_option maxRecDepth 100000 in
set_option maxHeartbeats 4000000 in
theorem c_L_amountByTree (l : Launch) (dd : kDD) (ks : List Nat) (ad : Nat → Nat) (E : Nat → va_E) (e : eS) (wr wx : kT) (hks : ∀ j, j ∈ ks → j < 1000) (M : mS) (nR nC nt nL nW nV nM : Nat) (cn nm mn me li rl : Nat → Nat) (on : Int32) (hO : cO dd ks ad E on) (hR : cR dd ks ad E M nR) (hC : cC dd ks ad E M nC mn me) (hT : cT dd ks ad E M nt cn nm) (hL : cL dd ks ad E M nL nW li) (hW : cW dd ks ad E M nW rl) (hV : cV dd ks ad E M nV) (hM : cM dd ks ad E M nM) (hB : cB M nR nC nt nL nW nV cn nm mn me li rl) (mI mR : Int32 → Nat → Nat) (hmI : ∀ o j, j < nt → mnt o (M.2.1 22) j nV 0 = nI (mI o j) ∧ mI o j < nt) (hmR : ∀ o j, j < nR → mnt o (M.2.1 23) j nV 0 = nI (mR o j) ∧ mR o j < nR) (hpk : ∀ r, r < nR → 1 ≤ M.2.1 5 r) (v : Int32) (f0 : Nat → Int64) (hx0 : 0 ∈ wx.1 ∧ wx.2.2 0 = kJ dd 1 f0) : kCi l yL_amountByTree (wsL_amountByTree ++ kHx) ({ frames := 12, cells := 1, slots := 6, locals := 289 } : Room) 1 6 dd [.ref (ad 0), .int v, .ref (wx.2.1 0)] (jk (ks, ad, cE dd E e) wr wx, jd (ks, ad, cE dd E e) wr wx, jE (ks, ad, cE dd E e) wr wx) (kQi (S := kT × kT) (fun r9 z => (r9 = 0 ∧ ∃ (z9 : eS) (v9 : Int64), (fun (r : Int64) (z : eS) => ∃ j, (j < nR ∧ v = nI j) ∧ r = msumJ (fun l => (mq (M.2.1 19) (M.2.1 20) (nI l) nW).toInt64 * utr (M.2.1 13) (M.2.1 15) (M.2.1 9) cn nm mn (mR on) me (fun k => mI on (nm k)) j 3 (mI on (li l))) 0 nL) v9 z9 ∧ z.1 = (ks, ad, cE dd E z9) ∧ z.2 = xJ dd wx f0 v9) ∨ (r9 = 1 ∧ ∃ e9, z.1 = (ks, ad, cE dd E e9) ∧ ¬ (∃ j, j < nR ∧ v = nI j) ∧ z.2 = wx)) (fun z => jk z.1 wr z.2) (fun z => jd z.1 wr z.2) (fun z => jE z.1 wr z.2)) := by
  refine kMetiW (ws' := _) (cc := cL_amountByTree) (maxL := 4) (rt := .int) (by decide) rfl (Nat.le_of_ble_eq_true rfl) (fun g X hr htb hnL hRR hl0 => ?_)
  show kv dd g 0 0 0 [(0, .ref (ad 0)), (1, .int v), (2, .ref (wx.2.1 0))] [] (jk (ks, ad, cE dd E e) wr wx) (jd (ks, ad, cE dd E e) wr wx) (jE (ks, ad, cE dd E e) wr wx)
  refine kv_aload_n X 2 dL_amountByTree_0 rfl rfl ?_
  refine kv_iconst (v := 0) X dL_amountByTree_1 (by decide) ?_
  refine kv_aload_n X 0 dL_amountByTree_2 rfl rfl ?_
  refine kv_iload_n X 1 dL_amountByTree_3 rfl rfl ?_
  refine kv_calllXVc (As := [.int v]) [.int 0, .ref (wx.2.1 0)] (ci := 13) (κ := 0) (r1 := (TX10, 3)) X (kClX_frC (c := (ks, ad, cE dd E e)) (r := wr) (x := wx) (by rw [cf_id hks]; exact c_X10_amountByTree l dd ks ad E e M nR nC nt nL nW nV nM cn nm mn me li rl on hO hR hC hT hL hW hV hM hB mI mR hmI hmR hpk v)) hl0 (kCV_of X 1 (goodIn_ext gL_amountByTree_X10_amountByTree) rfl rfl rfl (by decide +kernel) hRR ⟨(Nat.le_of_ble_eq_true rfl), (Nat.le_of_ble_eq_true rfl)⟩) (j_c0.1.mpr hO.1.1) (j_c0.2.2.trans ((cE_ne (dd := dd) (E := E) (e := e) (k := 0) (by omega)).trans hO.1.2)) rfl rfl rfl (Nat.le_of_ble_eq_true rfl) hRR ⟨(Nat.le_of_ble_eq_true rfl), (Nat.le_of_ble_eq_true rfl)⟩ dL_amountByTree_4 (fun X9 u hX => ?_) (fun r9 z hp => ?_)
  ·
    obtain ⟨u1, ⟨e9, rfl, hX⟩, rfl⟩ := hX
    rcases hX with ⟨rfl, hX⟩
    refine kvx_catch (nm := "java/lang/IndexOutOfBoundsException") X htb [] (⟨0, 8, 11, 21⟩ : ExceptionTableEntry) [] rfl (fun z hz => nomatch hz) (by decide) (by decide) (List.mem_append_right _ (List.mem_of_getElem? (i := 2) rfl)) (by decide +kernel) (fun q9 => ?_)
    show kv dd g _ _ 11 [(0, .ref (ad 0)), (1, .int v), (2, .ref (wx.2.1 0))] [.ref q9] (jk (ks, ad, cE dd E e9) wr wx) (jd (ks, ad, cE dd E e9) wr wx) (jE (ks, ad, cE dd E e9) wr wx)
    refine kv_astore_n (lv2 := [(3, .ref q9), (0, .ref (ad 0)), (1, .int v), (2, .ref (wx.2.1 0))]) X dL_amountByTree_11 rfl (by rw [hnL]; decide) rfl ?_
    refine kv_iconst (v := 1) X dL_amountByTree_12 (by decide) ?_
    exact kv_ireturn X hr (Nat.le_of_ble_eq_true rfl) (Nat.le_of_ble_eq_true rfl) ⟨((ks, ad, cE dd E e9), wx), (Or.inr (⟨rfl, ⟨e9, rfl, hX, rfl⟩⟩)), rfl⟩ dL_amountByTree_13
  ·
    show kv dd g _ _ 7 [(0, .ref (ad 0)), (1, .int v), (2, .ref (wx.2.1 0))] [.long r9, .int 0, .ref (wx.2.1 0)] (jk (ks, ad, cE dd E z) wr wx) (jd (ks, ad, cE dd E z) wr wx) (jE (ks, ad, cE dd E z) wr wx)
    refine kv_lastore X (κ := 2000) (n := 1) (j := 0) (f := f0) (x := r9) (j_x0.1.mpr hx0.1) (j_x0.2.2.trans hx0.2) (by omega) (by omega) dL_amountByTree_7 ?_
    refine kv_E (E2 := (jE (ks, ad, cE dd E z) wr (xJ dd wx f0 r9))) (fun j _ => xJ_E j) ?_
    refine kv_goto (tgt := 14) X dL_amountByTree_8 (by decide) ?_
    refine kv_iconst (v := 0) X dL_amountByTree_14 (by decide) ?_
    exact kv_ireturn X hr (Nat.le_of_ble_eq_true rfl) (Nat.le_of_ble_eq_true rfl) ⟨((ks, ad, cE dd E z), (xJ dd wx f0 r9)), (Or.inl (⟨rfl, z, r9, hp, rfl, rfl⟩)), rfl⟩ dL_amountByTree_15

set_option maxRecDepth 100000 in
set_option maxHeartbeats 4000000 in
theorem c_L_packs (l : Launch) (dd : kDD) (ks : List Nat) (ad : Nat → Nat) (E : Nat → va_E) (e : eS) (wr wx : kT) (hks : ∀ j, j ∈ ks → j < 1000) (M : mS) (nR nC nt nL nW nV nM : Nat) (cn nm mn me li rl : Nat → Nat) (on : Int32) (hO : cO dd ks ad E on) (hR : cR dd ks ad E M nR) (hC : cC dd ks ad E M nC mn me) (hT : cT dd ks ad E M nt cn nm) (hL : cL dd ks ad E M nL nW li) (hW : cW dd ks ad E M nW rl) (hV : cV dd ks ad E M nV) (hM : cM dd ks ad E M nM) (hB : cB M nR nC nt nL nW nV cn nm mn me li rl) (mI mR : Int32 → Nat → Nat) (hmI : ∀ o j, j < nt → mnt o (M.2.1 22) j nV 0 = nI (mI o j) ∧ mI o j < nt) (hmR : ∀ o j, j < nR → mnt o (M.2.1 23) j nV 0 = nI (mR o j) ∧ mR o j < nR) (hpk : ∀ r, r < nR → 1 ≤ M.2.1 5 r) (v : Int32) (hfx : kFx (M.2.1 13) cn (fun k => mI on (nm k)) (nJ (M.2.1 13) cn (fun k => mI on (nm k)) 2) nt) (f0 : Nat → Int64) (hx0 : 0 ∈ wx.1 ∧ wx.2.2 0 = kJ dd 1 f0) : kCi l yL_packs (wsL_packs ++ kHx) ({ frames := 10, cells := 1, slots := 6, locals := 223 } : Room) 1 6 dd [.ref (ad 0), .int v, .ref (wx.2.1 0)] (jk (ks, ad, cE dd E e) wr wx, jd (ks, ad, cE dd E e) wr wx, jE (ks, ad, cE dd E e) wr wx) (kQi (S := kT × kT) (fun r9 z => (r9 = 0 ∧ ∃ (z9 : eS) (v9 : Int64), (fun (r : Int64) (z : eS) => ∃ j, (j < nR ∧ v = nI j) ∧ cDn M nR nt nL nW nM cn nm mn me li (mI on) (mR on) (nJ (M.2.1 13) cn (fun k => mI on (nm k)) 2) z ∧ r = mpk (z.2 23 j) (M.2.1 4 j) (M.2.1 5 j)) v9 z9 ∧ z.1 = (ks, ad, cE dd E z9) ∧ z.2 = xJ dd wx f0 v9) ∨ (r9 = 1 ∧ ∃ e9, z.1 = (ks, ad, cE dd E e9) ∧ ¬ (∃ j, j < nR ∧ v = nI j) ∧ z.2 = wx)) (fun z => jk z.1 wr z.2) (fun z => jd z.1 wr z.2) (fun z => jE z.1 wr z.2)) := by
  refine kMetiW (ws' := _) (cc := cL_packs) (maxL := 4) (rt := .int) (by decide) rfl (Nat.le_of_ble_eq_true rfl) (fun g X hr htb hnL hRR hl0 => ?_)
  show kv dd g 0 0 0 [(0, .ref (ad 0)), (1, .int v), (2, .ref (wx.2.1 0))] [] (jk (ks, ad, cE dd E e) wr wx) (jd (ks, ad, cE dd E e) wr wx) (jE (ks, ad, cE dd E e) wr wx)
  refine kv_aload_n X 2 dL_packs_0 rfl rfl ?_
  refine kv_iconst (v := 0) X dL_packs_1 (by decide) ?_
  refine kv_aload_n X 0 dL_packs_2 rfl rfl ?_
  refine kv_iload_n X 1 dL_packs_3 rfl rfl ?_
  refine kv_calllXVc (As := [.int v]) [.int 0, .ref (wx.2.1 0)] (ci := 13) (κ := 0) (r1 := (TX10, 3)) X (kClX_frC (c := (ks, ad, cE dd E e)) (r := wr) (x := wx) (by rw [cf_id hks]; exact c_X10_packs l dd ks ad E e M nR nC nt nL nW nV nM cn nm mn me li rl on hO hR hC hT hL hW hV hM hB mI mR hmI hmR hpk v hfx)) hl0 (kCV_of X 1 (goodIn_ext gL_packs_X10_packs) rfl rfl rfl (by decide +kernel) hRR ⟨(Nat.le_of_ble_eq_true rfl), (Nat.le_of_ble_eq_true rfl)⟩) (j_c0.1.mpr hO.1.1) (j_c0.2.2.trans ((cE_ne (dd := dd) (E := E) (e := e) (k := 0) (by omega)).trans hO.1.2)) rfl rfl rfl (Nat.le_of_ble_eq_true rfl) hRR ⟨(Nat.le_of_ble_eq_true rfl), (Nat.le_of_ble_eq_true rfl)⟩ dL_packs_4 (fun X9 u hX => ?_) (fun r9 z hp => ?_)
  ·
    obtain ⟨u1, ⟨e9, rfl, hX⟩, rfl⟩ := hX
    rcases hX with ⟨rfl, hX⟩
    refine kvx_catch (nm := "java/lang/IndexOutOfBoundsException") X htb [] (⟨0, 8, 11, 21⟩ : ExceptionTableEntry) [] rfl (fun z hz => nomatch hz) (by decide) (by decide) (List.mem_append_right _ (List.mem_of_getElem? (i := 2) rfl)) (by decide +kernel) (fun q9 => ?_)
    show kv dd g _ _ 11 [(0, .ref (ad 0)), (1, .int v), (2, .ref (wx.2.1 0))] [.ref q9] (jk (ks, ad, cE dd E e9) wr wx) (jd (ks, ad, cE dd E e9) wr wx) (jE (ks, ad, cE dd E e9) wr wx)
    refine kv_astore_n (lv2 := [(3, .ref q9), (0, .ref (ad 0)), (1, .int v), (2, .ref (wx.2.1 0))]) X dL_packs_11 rfl (by rw [hnL]; decide) rfl ?_
    refine kv_iconst (v := 1) X dL_packs_12 (by decide) ?_
    exact kv_ireturn X hr (Nat.le_of_ble_eq_true rfl) (Nat.le_of_ble_eq_true rfl) ⟨((ks, ad, cE dd E e9), wx), (Or.inr (⟨rfl, ⟨e9, rfl, hX, rfl⟩⟩)), rfl⟩ dL_packs_13
  ·
    show kv dd g _ _ 7 [(0, .ref (ad 0)), (1, .int v), (2, .ref (wx.2.1 0))] [.long r9, .int 0, .ref (wx.2.1 0)] (jk (ks, ad, cE dd E z) wr wx) (jd (ks, ad, cE dd E z) wr wx) (jE (ks, ad, cE dd E z) wr wx)
    refine kv_lastore X (κ := 2000) (n := 1) (j := 0) (f := f0) (x := r9) (j_x0.1.mpr hx0.1) (j_x0.2.2.trans hx0.2) (by omega) (by omega) dL_packs_7 ?_
    refine kv_E (E2 := (jE (ks, ad, cE dd E z) wr (xJ dd wx f0 r9))) (fun j _ => xJ_E j) ?_
    refine kv_goto (tgt := 14) X dL_packs_8 (by decide) ?_
    refine kv_iconst (v := 0) X dL_packs_14 (by decide) ?_
    exact kv_ireturn X hr (Nat.le_of_ble_eq_true rfl) (Nat.le_of_ble_eq_true rfl) ⟨((ks, ad, cE dd E z), (xJ dd wx f0 r9)), (Or.inl (⟨rfl, z, r9, hp, rfl, rfl⟩)), rfl⟩ dL_packs_15

set_option maxRecDepth 100000 in
set_option maxHeartbeats 4000000 in
theorem c_L_costOfLine (l : Launch) (dd : kDD) (ks : List Nat) (ad : Nat → Nat) (E : Nat → va_E) (e : eS) (wr wx : kT) (hks : ∀ j, j ∈ ks → j < 1000) (M : mS) (nR nC nt nL nW nV nM : Nat) (cn nm mn me li rl : Nat → Nat) (on : Int32) (hO : cO dd ks ad E on) (hR : cR dd ks ad E M nR) (hC : cC dd ks ad E M nC mn me) (hT : cT dd ks ad E M nt cn nm) (hL : cL dd ks ad E M nL nW li) (hW : cW dd ks ad E M nW rl) (hV : cV dd ks ad E M nV) (hM : cM dd ks ad E M nM) (hB : cB M nR nC nt nL nW nV cn nm mn me li rl) (mI mR : Int32 → Nat → Nat) (hmI : ∀ o j, j < nt → mnt o (M.2.1 22) j nV 0 = nI (mI o j) ∧ mI o j < nt) (hmR : ∀ o j, j < nR → mnt o (M.2.1 23) j nV 0 = nI (mR o j) ∧ mR o j < nR) (hpk : ∀ r, r < nR → 1 ≤ M.2.1 5 r) (v : Int32) (hfx : kFx (M.2.1 13) cn (fun k => mI on (nm k)) (nJ (M.2.1 13) cn (fun k => mI on (nm k)) 2) nt) (f0 : Nat → Int64) (hx0 : 0 ∈ wx.1 ∧ wx.2.2 0 = kJ dd 1 f0) : kCi l yL_costOfLine (wsL_costOfLine ++ kHx) ({ frames := 10, cells := 1, slots := 6, locals := 223 } : Room) 1 6 dd [.ref (ad 0), .int v, .ref (wx.2.1 0)] (jk (ks, ad, cE dd E e) wr wx, jd (ks, ad, cE dd E e) wr wx, jE (ks, ad, cE dd E e) wr wx) (kQi (S := kT × kT) (fun r9 z => (r9 = 0 ∧ ∃ (z9 : eS) (v9 : Int64), (fun (r : Int64) (z : eS) => ∃ j, (j < nL ∧ v = nI j) ∧ cDn M nR nt nL nW nM cn nm mn me li (mI on) (mR on) (nJ (M.2.1 13) cn (fun k => mI on (nm k)) 2) z ∧ r = (mq (M.2.1 19) (M.2.1 20) (nI j) nW).toInt64 * cou (z.2 (37 + mI on (li j))) (M.2.1 3) nR) v9 z9 ∧ z.1 = (ks, ad, cE dd E z9) ∧ z.2 = xJ dd wx f0 v9) ∨ (r9 = 1 ∧ ∃ e9, z.1 = (ks, ad, cE dd E e9) ∧ ¬ (∃ j, j < nL ∧ v = nI j) ∧ z.2 = wx)) (fun z => jk z.1 wr z.2) (fun z => jd z.1 wr z.2) (fun z => jE z.1 wr z.2)) := by
  refine kMetiW (ws' := _) (cc := cL_costOfLine) (maxL := 4) (rt := .int) (by decide) rfl (Nat.le_of_ble_eq_true rfl) (fun g X hr htb hnL hRR hl0 => ?_)
  show kv dd g 0 0 0 [(0, .ref (ad 0)), (1, .int v), (2, .ref (wx.2.1 0))] [] (jk (ks, ad, cE dd E e) wr wx) (jd (ks, ad, cE dd E e) wr wx) (jE (ks, ad, cE dd E e) wr wx)
  refine kv_aload_n X 2 dL_costOfLine_0 rfl rfl ?_
  refine kv_iconst (v := 0) X dL_costOfLine_1 (by decide) ?_
  refine kv_aload_n X 0 dL_costOfLine_2 rfl rfl ?_
  refine kv_iload_n X 1 dL_costOfLine_3 rfl rfl ?_
  refine kv_calllXVc (As := [.int v]) [.int 0, .ref (wx.2.1 0)] (ci := 13) (κ := 0) (r1 := (TX10, 3)) X (kClX_frC (c := (ks, ad, cE dd E e)) (r := wr) (x := wx) (by rw [cf_id hks]; exact c_X10_costOfLine l dd ks ad E e M nR nC nt nL nW nV nM cn nm mn me li rl on hO hR hC hT hL hW hV hM hB mI mR hmI hmR hpk v hfx)) hl0 (kCV_of X 1 (goodIn_ext gL_costOfLine_X10_costOfLine) rfl rfl rfl (by decide +kernel) hRR ⟨(Nat.le_of_ble_eq_true rfl), (Nat.le_of_ble_eq_true rfl)⟩) (j_c0.1.mpr hO.1.1) (j_c0.2.2.trans ((cE_ne (dd := dd) (E := E) (e := e) (k := 0) (by omega)).trans hO.1.2)) rfl rfl rfl (Nat.le_of_ble_eq_true rfl) hRR ⟨(Nat.le_of_ble_eq_true rfl), (Nat.le_of_ble_eq_true rfl)⟩ dL_costOfLine_4 (fun X9 u hX => ?_) (fun r9 z hp => ?_)
  ·
    obtain ⟨u1, ⟨e9, rfl, hX⟩, rfl⟩ := hX
    rcases hX with ⟨rfl, hX⟩
    refine kvx_catch (nm := "java/lang/IndexOutOfBoundsException") X htb [] (⟨0, 8, 11, 21⟩ : ExceptionTableEntry) [] rfl (fun z hz => nomatch hz) (by decide) (by decide) (List.mem_append_right _ (List.mem_of_getElem? (i := 2) rfl)) (by decide +kernel) (fun q9 => ?_)
    show kv dd g _ _ 11 [(0, .ref (ad 0)), (1, .int v), (2, .ref (wx.2.1 0))] [.ref q9] (jk (ks, ad, cE dd E e9) wr wx) (jd (ks, ad, cE dd E e9) wr wx) (jE (ks, ad, cE dd E e9) wr wx)
    refine kv_astore_n (lv2 := [(3, .ref q9), (0, .ref (ad 0)), (1, .int v), (2, .ref (wx.2.1 0))]) X dL_costOfLine_11 rfl (by rw [hnL]; decide) rfl ?_
    refine kv_iconst (v := 1) X dL_costOfLine_12 (by decide) ?_
    exact kv_ireturn X hr (Nat.le_of_ble_eq_true rfl) (Nat.le_of_ble_eq_true rfl) ⟨((ks, ad, cE dd E e9), wx), (Or.inr (⟨rfl, ⟨e9, rfl, hX, rfl⟩⟩)), rfl⟩ dL_costOfLine_13
  ·
    show kv dd g _ _ 7 [(0, .ref (ad 0)), (1, .int v), (2, .ref (wx.2.1 0))] [.long r9, .int 0, .ref (wx.2.1 0)] (jk (ks, ad, cE dd E z) wr wx) (jd (ks, ad, cE dd E z) wr wx) (jE (ks, ad, cE dd E z) wr wx)
    refine kv_lastore X (κ := 2000) (n := 1) (j := 0) (f := f0) (x := r9) (j_x0.1.mpr hx0.1) (j_x0.2.2.trans hx0.2) (by omega) (by omega) dL_costOfLine_7 ?_
    refine kv_E (E2 := (jE (ks, ad, cE dd E z) wr (xJ dd wx f0 r9))) (fun j _ => xJ_E j) ?_
    refine kv_goto (tgt := 14) X dL_costOfLine_8 (by decide) ?_
    refine kv_iconst (v := 0) X dL_costOfLine_14 (by decide) ?_
    exact kv_ireturn X hr (Nat.le_of_ble_eq_true rfl) (Nat.le_of_ble_eq_true rfl) ⟨((ks, ad, cE dd E z), (xJ dd wx f0 r9)), (Or.inl (⟨rfl, z, r9, hp, rfl, rfl⟩)), rfl⟩ dL_costOfLine_15

set_option maxRecDepth 100000 in
set_option maxHeartbeats 4000000 in
theorem c_L_costOfTrade (l : Launch) (dd : kDD) (ks : List Nat) (ad : Nat → Nat) (E : Nat → va_E) (e : eS) (wr wx : kT) (hks : ∀ j, j ∈ ks → j < 1000) (M : mS) (nR nC nt nL nW nV nM : Nat) (cn nm mn me li rl : Nat → Nat) (on : Int32) (hO : cO dd ks ad E on) (hR : cR dd ks ad E M nR) (hC : cC dd ks ad E M nC mn me) (hT : cT dd ks ad E M nt cn nm) (hL : cL dd ks ad E M nL nW li) (hW : cW dd ks ad E M nW rl) (hV : cV dd ks ad E M nV) (hM : cM dd ks ad E M nM) (hB : cB M nR nC nt nL nW nV cn nm mn me li rl) (mI mR : Int32 → Nat → Nat) (hmI : ∀ o j, j < nt → mnt o (M.2.1 22) j nV 0 = nI (mI o j) ∧ mI o j < nt) (hmR : ∀ o j, j < nR → mnt o (M.2.1 23) j nV 0 = nI (mR o j) ∧ mR o j < nR) (hpk : ∀ r, r < nR → 1 ≤ M.2.1 5 r) (v : Int32) (hfx : kFx (M.2.1 13) cn (fun k => mI on (nm k)) (nJ (M.2.1 13) cn (fun k => mI on (nm k)) 2) nt) (f0 : Nat → Int64) (hx0 : 0 ∈ wx.1 ∧ wx.2.2 0 = kJ dd 1 f0) : kCi l yL_costOfTrade (wsL_costOfTrade ++ kHx) ({ frames := 10, cells := 1, slots := 6, locals := 223 } : Room) 1 6 dd [.ref (ad 0), .int v, .ref (wx.2.1 0)] (jk (ks, ad, cE dd E e) wr wx, jd (ks, ad, cE dd E e) wr wx, jE (ks, ad, cE dd E e) wr wx) (kQi (S := kT × kT) (fun r9 z => (r9 = 0 ∧ ∃ (z9 : eS) (v9 : Int64), (fun (r : Int64) (z : eS) => (0 ≤ v ∧ v ≤ 5) ∧ cDn M nR nt nL nW nM cn nm mn me li (mI on) (mR on) (nJ (M.2.1 13) cn (fun k => mI on (nm k)) 2) z ∧ r = ctr (M.2.1 11) (fun i => z.2 22 i * cou (z.2 (25 + i)) (M.2.1 3) nR) v nt) v9 z9 ∧ z.1 = (ks, ad, cE dd E z9) ∧ z.2 = xJ dd wx f0 v9) ∨ (r9 = 1 ∧ ∃ e9, z.1 = (ks, ad, cE dd E e9) ∧ ¬ (0 ≤ v ∧ v ≤ 5) ∧ z.2 = wx)) (fun z => jk z.1 wr z.2) (fun z => jd z.1 wr z.2) (fun z => jE z.1 wr z.2)) := by
  refine kMetiW (ws' := _) (cc := cL_costOfTrade) (maxL := 4) (rt := .int) (by decide) rfl (Nat.le_of_ble_eq_true rfl) (fun g X hr htb hnL hRR hl0 => ?_)
  show kv dd g 0 0 0 [(0, .ref (ad 0)), (1, .int v), (2, .ref (wx.2.1 0))] [] (jk (ks, ad, cE dd E e) wr wx) (jd (ks, ad, cE dd E e) wr wx) (jE (ks, ad, cE dd E e) wr wx)
  refine kv_aload_n X 2 dL_costOfTrade_0 rfl rfl ?_
  refine kv_iconst (v := 0) X dL_costOfTrade_1 (by decide) ?_
  refine kv_aload_n X 0 dL_costOfTrade_2 rfl rfl ?_
  refine kv_iload_n X 1 dL_costOfTrade_3 rfl rfl ?_
  refine kv_calllXVc (As := [.int v]) [.int 0, .ref (wx.2.1 0)] (ci := 13) (κ := 0) (r1 := (TX10, 3)) X (kClX_frC (c := (ks, ad, cE dd E e)) (r := wr) (x := wx) (by rw [cf_id hks]; exact c_X10_costOfTrade l dd ks ad E e M nR nC nt nL nW nV nM cn nm mn me li rl on hO hR hC hT hL hW hV hM hB mI mR hmI hmR hpk v hfx)) hl0 (kCV_of X 1 (goodIn_ext gL_costOfTrade_X10_costOfTrade) rfl rfl rfl (by decide +kernel) hRR ⟨(Nat.le_of_ble_eq_true rfl), (Nat.le_of_ble_eq_true rfl)⟩) (j_c0.1.mpr hO.1.1) (j_c0.2.2.trans ((cE_ne (dd := dd) (E := E) (e := e) (k := 0) (by omega)).trans hO.1.2)) rfl rfl rfl (Nat.le_of_ble_eq_true rfl) hRR ⟨(Nat.le_of_ble_eq_true rfl), (Nat.le_of_ble_eq_true rfl)⟩ dL_costOfTrade_4 (fun X9 u hX => ?_) (fun r9 z hp => ?_)
  ·
    obtain ⟨u1, ⟨e9, rfl, hX⟩, rfl⟩ := hX
    rcases hX with ⟨rfl, hX⟩
    refine kvx_catch (nm := "java/lang/IllegalArgumentException") X htb [] (⟨0, 8, 11, 13⟩ : ExceptionTableEntry) [] rfl (fun z hz => nomatch hz) (by decide) (by decide) (List.mem_append_right _ (List.mem_of_getElem? (i := 0) rfl)) (by decide +kernel) (fun q9 => ?_)
    show kv dd g _ _ 11 [(0, .ref (ad 0)), (1, .int v), (2, .ref (wx.2.1 0))] [.ref q9] (jk (ks, ad, cE dd E e9) wr wx) (jd (ks, ad, cE dd E e9) wr wx) (jE (ks, ad, cE dd E e9) wr wx)
    refine kv_astore_n (lv2 := [(3, .ref q9), (0, .ref (ad 0)), (1, .int v), (2, .ref (wx.2.1 0))]) X dL_costOfTrade_11 rfl (by rw [hnL]; decide) rfl ?_
    refine kv_iconst (v := 1) X dL_costOfTrade_12 (by decide) ?_
    exact kv_ireturn X hr (Nat.le_of_ble_eq_true rfl) (Nat.le_of_ble_eq_true rfl) ⟨((ks, ad, cE dd E e9), wx), (Or.inr (⟨rfl, ⟨e9, rfl, hX, rfl⟩⟩)), rfl⟩ dL_costOfTrade_13
  ·
    show kv dd g _ _ 7 [(0, .ref (ad 0)), (1, .int v), (2, .ref (wx.2.1 0))] [.long r9, .int 0, .ref (wx.2.1 0)] (jk (ks, ad, cE dd E z) wr wx) (jd (ks, ad, cE dd E z) wr wx) (jE (ks, ad, cE dd E z) wr wx)
    refine kv_lastore X (κ := 2000) (n := 1) (j := 0) (f := f0) (x := r9) (j_x0.1.mpr hx0.1) (j_x0.2.2.trans hx0.2) (by omega) (by omega) dL_costOfTrade_7 ?_
    refine kv_E (E2 := (jE (ks, ad, cE dd E z) wr (xJ dd wx f0 r9))) (fun j _ => xJ_E j) ?_
    refine kv_goto (tgt := 14) X dL_costOfTrade_8 (by decide) ?_
    refine kv_iconst (v := 0) X dL_costOfTrade_14 (by decide) ?_
    exact kv_ireturn X hr (Nat.le_of_ble_eq_true rfl) (Nat.le_of_ble_eq_true rfl) ⟨((ks, ad, cE dd E z), (xJ dd wx f0 r9)), (Or.inl (⟨rfl, z, r9, hp, rfl, rfl⟩)), rfl⟩ dL_costOfTrade_15

set_option maxRecDepth 100000 in
set_option maxHeartbeats 4000000 in
theorem c_L_costOfKind (l : Launch) (dd : kDD) (ks : List Nat) (ad : Nat → Nat) (E : Nat → va_E) (e : eS) (wr wx : kT) (hks : ∀ j, j ∈ ks → j < 1000) (M : mS) (nR nC nt nL nW nV nM : Nat) (cn nm mn me li rl : Nat → Nat) (on : Int32) (hO : cO dd ks ad E on) (hR : cR dd ks ad E M nR) (hC : cC dd ks ad E M nC mn me) (hT : cT dd ks ad E M nt cn nm) (hL : cL dd ks ad E M nL nW li) (hW : cW dd ks ad E M nW rl) (hV : cV dd ks ad E M nV) (hM : cM dd ks ad E M nM) (hB : cB M nR nC nt nL nW nV cn nm mn me li rl) (mI mR : Int32 → Nat → Nat) (hmI : ∀ o j, j < nt → mnt o (M.2.1 22) j nV 0 = nI (mI o j) ∧ mI o j < nt) (hmR : ∀ o j, j < nR → mnt o (M.2.1 23) j nV 0 = nI (mR o j) ∧ mR o j < nR) (hpk : ∀ r, r < nR → 1 ≤ M.2.1 5 r) (v : Int32) (hfx : kFx (M.2.1 13) cn (fun k => mI on (nm k)) (nJ (M.2.1 13) cn (fun k => mI on (nm k)) 2) nt) (f0 : Nat → Int64) (hx0 : 0 ∈ wx.1 ∧ wx.2.2 0 = kJ dd 1 f0) : kCi l yL_costOfKind (wsL_costOfKind ++ kHx) ({ frames := 10, cells := 1, slots := 6, locals := 223 } : Room) 1 6 dd [.ref (ad 0), .int v, .ref (wx.2.1 0)] (jk (ks, ad, cE dd E e) wr wx, jd (ks, ad, cE dd E e) wr wx, jE (ks, ad, cE dd E e) wr wx) (kQi (S := kT × kT) (fun r9 z => (r9 = 0 ∧ ∃ (z9 : eS) (v9 : Int64), (fun (r : Int64) (z : eS) => (v = 0 ∨ v = 1 ∨ v = 2) ∧ cDn M nR nt nL nW nM cn nm mn me li (mI on) (mR on) (nJ (M.2.1 13) cn (fun k => mI on (nm k)) 2) z ∧ r = mkd (M.2.1 2) (z.2 23) (M.2.1 3) v nR) v9 z9 ∧ z.1 = (ks, ad, cE dd E z9) ∧ z.2 = xJ dd wx f0 v9) ∨ (r9 = 1 ∧ ∃ e9, z.1 = (ks, ad, cE dd E e9) ∧ ¬ (v = 0 ∨ v = 1 ∨ v = 2) ∧ z.2 = wx)) (fun z => jk z.1 wr z.2) (fun z => jd z.1 wr z.2) (fun z => jE z.1 wr z.2)) := by
  refine kMetiW (ws' := _) (cc := cL_costOfKind) (maxL := 4) (rt := .int) (by decide) rfl (Nat.le_of_ble_eq_true rfl) (fun g X hr htb hnL hRR hl0 => ?_)
  show kv dd g 0 0 0 [(0, .ref (ad 0)), (1, .int v), (2, .ref (wx.2.1 0))] [] (jk (ks, ad, cE dd E e) wr wx) (jd (ks, ad, cE dd E e) wr wx) (jE (ks, ad, cE dd E e) wr wx)
  refine kv_aload_n X 2 dL_costOfKind_0 rfl rfl ?_
  refine kv_iconst (v := 0) X dL_costOfKind_1 (by decide) ?_
  refine kv_aload_n X 0 dL_costOfKind_2 rfl rfl ?_
  refine kv_iload_n X 1 dL_costOfKind_3 rfl rfl ?_
  refine kv_calllXVc (As := [.int v]) [.int 0, .ref (wx.2.1 0)] (ci := 13) (κ := 0) (r1 := (TX10, 3)) X (kClX_frC (c := (ks, ad, cE dd E e)) (r := wr) (x := wx) (by rw [cf_id hks]; exact c_X10_costOfKind l dd ks ad E e M nR nC nt nL nW nV nM cn nm mn me li rl on hO hR hC hT hL hW hV hM hB mI mR hmI hmR hpk v hfx)) hl0 (kCV_of X 1 (goodIn_ext gL_costOfKind_X10_costOfKind) rfl rfl rfl (by decide +kernel) hRR ⟨(Nat.le_of_ble_eq_true rfl), (Nat.le_of_ble_eq_true rfl)⟩) (j_c0.1.mpr hO.1.1) (j_c0.2.2.trans ((cE_ne (dd := dd) (E := E) (e := e) (k := 0) (by omega)).trans hO.1.2)) rfl rfl rfl (Nat.le_of_ble_eq_true rfl) hRR ⟨(Nat.le_of_ble_eq_true rfl), (Nat.le_of_ble_eq_true rfl)⟩ dL_costOfKind_4 (fun X9 u hX => ?_) (fun r9 z hp => ?_)
  ·
    obtain ⟨u1, ⟨e9, rfl, hX⟩, rfl⟩ := hX
    rcases hX with ⟨rfl, hX⟩
    refine kvx_catch (nm := "java/lang/IllegalArgumentException") X htb [] (⟨0, 8, 11, 13⟩ : ExceptionTableEntry) [] rfl (fun z hz => nomatch hz) (by decide) (by decide) (List.mem_append_right _ (List.mem_of_getElem? (i := 0) rfl)) (by decide +kernel) (fun q9 => ?_)
    show kv dd g _ _ 11 [(0, .ref (ad 0)), (1, .int v), (2, .ref (wx.2.1 0))] [.ref q9] (jk (ks, ad, cE dd E e9) wr wx) (jd (ks, ad, cE dd E e9) wr wx) (jE (ks, ad, cE dd E e9) wr wx)
    refine kv_astore_n (lv2 := [(3, .ref q9), (0, .ref (ad 0)), (1, .int v), (2, .ref (wx.2.1 0))]) X dL_costOfKind_11 rfl (by rw [hnL]; decide) rfl ?_
    refine kv_iconst (v := 1) X dL_costOfKind_12 (by decide) ?_
    exact kv_ireturn X hr (Nat.le_of_ble_eq_true rfl) (Nat.le_of_ble_eq_true rfl) ⟨((ks, ad, cE dd E e9), wx), (Or.inr (⟨rfl, ⟨e9, rfl, hX, rfl⟩⟩)), rfl⟩ dL_costOfKind_13
  ·
    show kv dd g _ _ 7 [(0, .ref (ad 0)), (1, .int v), (2, .ref (wx.2.1 0))] [.long r9, .int 0, .ref (wx.2.1 0)] (jk (ks, ad, cE dd E z) wr wx) (jd (ks, ad, cE dd E z) wr wx) (jE (ks, ad, cE dd E z) wr wx)
    refine kv_lastore X (κ := 2000) (n := 1) (j := 0) (f := f0) (x := r9) (j_x0.1.mpr hx0.1) (j_x0.2.2.trans hx0.2) (by omega) (by omega) dL_costOfKind_7 ?_
    refine kv_E (E2 := (jE (ks, ad, cE dd E z) wr (xJ dd wx f0 r9))) (fun j _ => xJ_E j) ?_
    refine kv_goto (tgt := 14) X dL_costOfKind_8 (by decide) ?_
    refine kv_iconst (v := 0) X dL_costOfKind_14 (by decide) ?_
    exact kv_ireturn X hr (Nat.le_of_ble_eq_true rfl) (Nat.le_of_ble_eq_true rfl) ⟨((ks, ad, cE dd E z), (xJ dd wx f0 r9)), (Or.inl (⟨rfl, z, r9, hp, rfl, rfl⟩)), rfl⟩ dL_costOfKind_15

set_option maxRecDepth 100000 in
set_option maxHeartbeats 4000000 in
theorem c_L_dearest (l : Launch) (dd : kDD) (ks : List Nat) (ad : Nat → Nat) (E : Nat → va_E) (e : eS) (wr wx : kT) (hks : ∀ j, j ∈ ks → j < 1000) (M : mS) (nR nC nt nL nW nV nM : Nat) (cn nm mn me li rl : Nat → Nat) (on : Int32) (hO : cO dd ks ad E on) (hR : cR dd ks ad E M nR) (hC : cC dd ks ad E M nC mn me) (hT : cT dd ks ad E M nt cn nm) (hL : cL dd ks ad E M nL nW li) (hW : cW dd ks ad E M nW rl) (hV : cV dd ks ad E M nV) (hM : cM dd ks ad E M nM) (hB : cB M nR nC nt nL nW nV cn nm mn me li rl) (mI mR : Int32 → Nat → Nat) (hmI : ∀ o j, j < nt → mnt o (M.2.1 22) j nV 0 = nI (mI o j) ∧ mI o j < nt) (hmR : ∀ o j, j < nR → mnt o (M.2.1 23) j nV 0 = nI (mR o j) ∧ mR o j < nR) (hpk : ∀ r, r < nR → 1 ≤ M.2.1 5 r) (v : Int32) (hfx : kFx (M.2.1 13) cn (fun k => mI on (nm k)) (nJ (M.2.1 13) cn (fun k => mI on (nm k)) 2) nt) (f0 : Nat → Int64) (hx0 : 0 ∈ wx.1 ∧ wx.2.2 0 = kJ dd 1 f0) : kCi l yL_dearest (wsL_dearest ++ kHx) ({ frames := 10, cells := 1, slots := 6, locals := 224 } : Room) 1 6 dd [.ref (ad 0), .int v, .ref (wx.2.1 0)] (jk (ks, ad, cE dd E e) wr wx, jd (ks, ad, cE dd E e) wr wx, jE (ks, ad, cE dd E e) wr wx) (kQi (S := kT × kT) (fun r9 z => (r9 = 0 ∧ ∃ (z9 : eS) (v9 : Int32), (fun (r : Int32) (z : eS) => cDn M nR nt nL nW nM cn nm mn me li (mI on) (mR on) (nJ (M.2.1 13) cn (fun k => mI on (nm k)) 2) z ∧ ∃ j, j < nR ∧ (0 < (fun j => z.2 23 j * (M.2.1 3 j).toInt64) j ∧ mah (fun j => z.2 23 j * (M.2.1 3 j).toInt64) j nR = v) ∧ (∀ k, k < j → ¬ (0 < (fun j => z.2 23 j * (M.2.1 3 j).toInt64) k ∧ mah (fun j => z.2 23 j * (M.2.1 3 j).toInt64) k nR = v)) ∧ r = nI j) v9 z9 ∧ z.1 = (ks, ad, cE dd E z9) ∧ z.2 = xJ dd wx f0 v9.toInt64) ∨ (r9 = 1 ∧ ∃ e9, z.1 = (ks, ad, cE dd E e9) ∧ (cDn M nR nt nL nW nM cn nm mn me li (mI on) (mR on) (nJ (M.2.1 13) cn (fun k => mI on (nm k)) 2) e9 ∧ (∀ k, k < nR → ¬ (0 < (fun j => e9.2 23 j * (M.2.1 3 j).toInt64) k ∧ mah (fun j => e9.2 23 j * (M.2.1 3 j).toInt64) k nR = v))) ∧ z.2 = wx)) (fun z => jk z.1 wr z.2) (fun z => jd z.1 wr z.2) (fun z => jE z.1 wr z.2)) := by
  refine kMetiW (ws' := _) (cc := cL_dearest) (maxL := 4) (rt := .int) (by decide) rfl (Nat.le_of_ble_eq_true rfl) (fun g X hr htb hnL hRR hl0 => ?_)
  show kv dd g 0 0 0 [(0, .ref (ad 0)), (1, .int v), (2, .ref (wx.2.1 0))] [] (jk (ks, ad, cE dd E e) wr wx) (jd (ks, ad, cE dd E e) wr wx) (jE (ks, ad, cE dd E e) wr wx)
  refine kv_aload_n X 2 dL_dearest_0 rfl rfl ?_
  refine kv_iconst (v := 0) X dL_dearest_1 (by decide) ?_
  refine kv_aload_n X 0 dL_dearest_2 rfl rfl ?_
  refine kv_iload_n X 1 dL_dearest_3 rfl rfl ?_
  refine kv_calliXVc (As := [.int v]) [.int 0, .ref (wx.2.1 0)] (ci := 13) (κ := 0) (r1 := (TX10, 3)) X (kCiX_frC (c := (ks, ad, cE dd E e)) (r := wr) (x := wx) (by rw [cf_id hks]; exact c_X10_dearest l dd ks ad E e M nR nC nt nL nW nV nM cn nm mn me li rl on hO hR hC hT hL hW hV hM hB mI mR hmI hmR hpk v hfx)) hl0 (kCV_of X 1 (goodIn_ext gL_dearest_X10_dearest) rfl rfl rfl (by decide +kernel) hRR ⟨(Nat.le_of_ble_eq_true rfl), (Nat.le_of_ble_eq_true rfl)⟩) (j_c0.1.mpr hO.1.1) (j_c0.2.2.trans ((cE_ne (dd := dd) (E := E) (e := e) (k := 0) (by omega)).trans hO.1.2)) rfl rfl rfl (Nat.le_of_ble_eq_true rfl) hRR ⟨(Nat.le_of_ble_eq_true rfl), (Nat.le_of_ble_eq_true rfl)⟩ dL_dearest_4 (fun X9 u hX => ?_) (fun r9 z hp => ?_)
  ·
    obtain ⟨u1, ⟨e9, rfl, hX⟩, rfl⟩ := hX
    rcases hX with ⟨rfl, hX⟩
    refine kvx_catch (nm := "java/util/NoSuchElementException") X htb [] (⟨0, 9, 12, 124⟩ : ExceptionTableEntry) [] rfl (fun z hz => nomatch hz) (by decide) (by decide) (List.mem_append_right _ (List.mem_of_getElem? (i := 5) rfl)) (by decide +kernel) (fun q9 => ?_)
    show kv dd g _ _ 12 [(0, .ref (ad 0)), (1, .int v), (2, .ref (wx.2.1 0))] [.ref q9] (jk (ks, ad, cE dd E e9) wr wx) (jd (ks, ad, cE dd E e9) wr wx) (jE (ks, ad, cE dd E e9) wr wx)
    refine kv_astore_n (lv2 := [(3, .ref q9), (0, .ref (ad 0)), (1, .int v), (2, .ref (wx.2.1 0))]) X dL_dearest_12 rfl (by rw [hnL]; decide) rfl ?_
    refine kv_iconst (v := 1) X dL_dearest_13 (by decide) ?_
    exact kv_ireturn X hr (Nat.le_of_ble_eq_true rfl) (Nat.le_of_ble_eq_true rfl) ⟨((ks, ad, cE dd E e9), wx), (Or.inr (⟨rfl, ⟨e9, rfl, hX, rfl⟩⟩)), rfl⟩ dL_dearest_14
  ·
    show kv dd g _ _ 7 [(0, .ref (ad 0)), (1, .int v), (2, .ref (wx.2.1 0))] [.int r9, .int 0, .ref (wx.2.1 0)] (jk (ks, ad, cE dd E z) wr wx) (jd (ks, ad, cE dd E z) wr wx) (jE (ks, ad, cE dd E z) wr wx)
    refine kv_i2l X dL_dearest_7 rfl ?_
    refine kv_lastore X (κ := 2000) (n := 1) (j := 0) (f := f0) (x := r9.toInt64) (j_x0.1.mpr hx0.1) (j_x0.2.2.trans hx0.2) (by omega) (by omega) dL_dearest_8 ?_
    refine kv_E (E2 := (jE (ks, ad, cE dd E z) wr (xJ dd wx f0 r9.toInt64))) (fun j _ => xJ_E j) ?_
    refine kv_goto (tgt := 15) X dL_dearest_9 (by decide) ?_
    refine kv_iconst (v := 0) X dL_dearest_15 (by decide) ?_
    exact kv_ireturn X hr (Nat.le_of_ble_eq_true rfl) (Nat.le_of_ble_eq_true rfl) ⟨((ks, ad, cE dd E z), (xJ dd wx f0 r9.toInt64)), (Or.inl (⟨rfl, z, r9, hp, rfl, rfl⟩)), rfl⟩ dL_dearest_16

set_option maxRecDepth 100000 in
set_option maxHeartbeats 4000000 in
theorem c_L_share (l : Launch) (dd : kDD) (ks : List Nat) (ad : Nat → Nat) (E : Nat → va_E) (e : eS) (wr wx : kT) (hks : ∀ j, j ∈ ks → j < 1000) (M : mS) (nR nC nt nL nW nV nM : Nat) (cn nm mn me li rl : Nat → Nat) (on : Int32) (hO : cO dd ks ad E on) (hR : cR dd ks ad E M nR) (hC : cC dd ks ad E M nC mn me) (hT : cT dd ks ad E M nt cn nm) (hL : cL dd ks ad E M nL nW li) (hW : cW dd ks ad E M nW rl) (hV : cV dd ks ad E M nV) (hM : cM dd ks ad E M nM) (hB : cB M nR nC nt nL nW nV cn nm mn me li rl) (mI mR : Int32 → Nat → Nat) (hmI : ∀ o j, j < nt → mnt o (M.2.1 22) j nV 0 = nI (mI o j) ∧ mI o j < nt) (hmR : ∀ o j, j < nR → mnt o (M.2.1 23) j nV 0 = nI (mR o j) ∧ mR o j < nR) (hpk : ∀ r, r < nR → 1 ≤ M.2.1 5 r) (v : Int32) (hfx : kFx (M.2.1 13) cn (fun k => mI on (nm k)) (nJ (M.2.1 13) cn (fun k => mI on (nm k)) 2) nt) (f0 : Nat → UInt64) (hx0 : 1 ∈ wx.1 ∧ wx.2.2 1 = kDb dd 1 f0) : kCi l yL_share (wsL_share ++ kHx) ({ frames := 10, cells := 2, slots := 12, locals := 225 } : Room) 2 12 dd [.ref (ad 0), .int v, .ref (wx.2.1 1)] (jk (ks, ad, cE dd E e) wr wx, jd (ks, ad, cE dd E e) wr wx, jE (ks, ad, cE dd E e) wr wx) (kQi (S := kT × kT) (fun r9 z => (r9 = 0 ∧ ∃ (z9 : eS) (v9 : UInt32), (fun (r : UInt32) (z : eS) => (v = 0 ∨ v = 1 ∨ v = 2) ∧ cDn M nR nt nL nW nM cn nm mn me li (mI on) (mR on) (nJ (M.2.1 13) cn (fun k => mI on (nm k)) 2) z ∧ ¬ cou (z.2 23) (M.2.1 3) nR = 0 ∧ r = FP.fdiv (FP.l2f (mkd (M.2.1 2) (z.2 23) (M.2.1 3) v nR)) (FP.l2f (cou (z.2 23) (M.2.1 3) nR))) v9 z9 ∧ z.1 = (ks, ad, cE dd E z9) ∧ z.2 = xD dd wx f0 (FP.f2d v9)) ∨ (r9 = 1 ∧ ∃ e9, z.1 = (ks, ad, cE dd E e9) ∧ ¬ (v = 0 ∨ v = 1 ∨ v = 2) ∧ z.2 = wx) ∨ (r9 = 2 ∧ ∃ e9, z.1 = (ks, ad, cE dd E e9) ∧ ((v = 0 ∨ v = 1 ∨ v = 2) ∧ cDn M nR nt nL nW nM cn nm mn me li (mI on) (mR on) (nJ (M.2.1 13) cn (fun k => mI on (nm k)) 2) e9 ∧ cou (e9.2 23) (M.2.1 3) nR = 0) ∧ z.2 = wx)) (fun z => jk z.1 wr z.2) (fun z => jd z.1 wr z.2) (fun z => jE z.1 wr z.2)) := by
  refine kMetiW (ws' := _) (cc := cL_share) (maxL := 4) (rt := .int) (by decide) rfl (Nat.le_of_ble_eq_true rfl) (fun g X hr htb hnL hRR hl0 => ?_)
  show kv dd g 0 0 0 [(0, .ref (ad 0)), (1, .int v), (2, .ref (wx.2.1 1))] [] (jk (ks, ad, cE dd E e) wr wx) (jd (ks, ad, cE dd E e) wr wx) (jE (ks, ad, cE dd E e) wr wx)
  refine kv_aload_n X 2 dL_share_0 rfl rfl ?_
  refine kv_iconst (v := 0) X dL_share_1 (by decide) ?_
  refine kv_aload_n X 0 dL_share_2 rfl rfl ?_
  refine kv_iload_n X 1 dL_share_3 rfl rfl ?_
  refine kv_callfXVc (As := [.int v]) [.int 0, .ref (wx.2.1 1)] (ci := 13) (κ := 0) (r1 := (TX10, 3)) X (kCfX_frC (c := (ks, ad, cE dd E e)) (r := wr) (x := wx) (by rw [cf_id hks]; exact c_X10_share l dd ks ad E e M nR nC nt nL nW nV nM cn nm mn me li rl on hO hR hC hT hL hW hV hM hB mI mR hmI hmR hpk v hfx)) hl0 (kCV_of X 1 (goodIn_ext gL_share_X10_share) rfl rfl rfl (by decide +kernel) hRR ⟨(Nat.le_of_ble_eq_true rfl), (Nat.le_of_ble_eq_true rfl)⟩) (j_c0.1.mpr hO.1.1) (j_c0.2.2.trans ((cE_ne (dd := dd) (E := E) (e := e) (k := 0) (by omega)).trans hO.1.2)) rfl rfl rfl (Nat.le_of_ble_eq_true rfl) hRR ⟨(Nat.le_of_ble_eq_true rfl), (Nat.le_of_ble_eq_true rfl)⟩ dL_share_4 (fun X9 u hX => ?_) (fun r9 z hp => ?_)
  ·
    obtain ⟨u1, ⟨e9, rfl, hX⟩, rfl⟩ := hX
    rcases hX with ⟨rfl, hX⟩ | ⟨rfl, hX⟩
    ·
      refine kvx_catch (nm := "java/lang/IllegalArgumentException") X htb [] (⟨0, 9, 12, 13⟩ : ExceptionTableEntry) [(⟨0, 9, 15, 67⟩ : ExceptionTableEntry)] rfl (fun z hz => nomatch hz) (by decide) (by decide) (List.mem_append_right _ (List.mem_of_getElem? (i := 0) rfl)) (by decide +kernel) (fun q9 => ?_)
      show kv dd g _ _ 12 [(0, .ref (ad 0)), (1, .int v), (2, .ref (wx.2.1 1))] [.ref q9] (jk (ks, ad, cE dd E e9) wr wx) (jd (ks, ad, cE dd E e9) wr wx) (jE (ks, ad, cE dd E e9) wr wx)
      refine kv_astore_n (lv2 := [(3, .ref q9), (0, .ref (ad 0)), (1, .int v), (2, .ref (wx.2.1 1))]) X dL_share_12 rfl (by rw [hnL]; decide) rfl ?_
      refine kv_iconst (v := 1) X dL_share_13 (by decide) ?_
      exact kv_ireturn X hr (Nat.le_of_ble_eq_true rfl) (Nat.le_of_ble_eq_true rfl) ⟨((ks, ad, cE dd E e9), wx), (Or.inr (Or.inl (⟨rfl, ⟨e9, rfl, hX, rfl⟩⟩))), rfl⟩ dL_share_14
    ·
      refine kvx_catch (nm := "java/lang/ArithmeticException") X htb [(⟨0, 9, 12, 13⟩ : ExceptionTableEntry)] (⟨0, 9, 15, 67⟩ : ExceptionTableEntry) [] rfl (fun z hz => by
          simp only [List.mem_cons, List.not_mem_nil, or_false] at hz
          rcases hz with rfl
          · exact ⟨by decide, _, (List.mem_append_right _ (List.mem_of_getElem? (i := 0) rfl)), by decide +kernel⟩) (by decide) (by decide) (List.mem_append_right _ (List.mem_of_getElem? (i := 4) rfl)) (by decide +kernel) (fun q9 => ?_)
      show kv dd g _ _ 15 [(0, .ref (ad 0)), (1, .int v), (2, .ref (wx.2.1 1))] [.ref q9] (jk (ks, ad, cE dd E e9) wr wx) (jd (ks, ad, cE dd E e9) wr wx) (jE (ks, ad, cE dd E e9) wr wx)
      refine kv_astore_n (lv2 := [(3, .ref q9), (0, .ref (ad 0)), (1, .int v), (2, .ref (wx.2.1 1))]) X dL_share_15 rfl (by rw [hnL]; decide) rfl ?_
      refine kv_iconst (v := 2) X dL_share_16 (by decide) ?_
      exact kv_ireturn X hr (Nat.le_of_ble_eq_true rfl) (Nat.le_of_ble_eq_true rfl) ⟨((ks, ad, cE dd E e9), wx), (Or.inr (Or.inr (⟨rfl, ⟨e9, rfl, hX, rfl⟩⟩))), rfl⟩ dL_share_17
  ·
    show kv dd g _ _ 7 [(0, .ref (ad 0)), (1, .int v), (2, .ref (wx.2.1 1))] [.float r9, .int 0, .ref (wx.2.1 1)] (jk (ks, ad, cE dd E z) wr wx) (jd (ks, ad, cE dd E z) wr wx) (jE (ks, ad, cE dd E z) wr wx)
    refine kv_f2d X dL_share_7 (fp_f2d (by rw [hp.2.2.2]; exact fp_div32 hp.2.2.1)) ?_
    refine kv_dastore X (κ := 2001) (n := 1) (j := 0) (f := f0) (x := (FP.f2d r9)) (j_x1.1.mpr hx0.1) (j_x1.2.2.trans hx0.2) (by omega) (by omega) dL_share_8 ?_
    refine kv_E (E2 := (jE (ks, ad, cE dd E z) wr (xD dd wx f0 (FP.f2d r9)))) (fun j _ => xD_E j) ?_
    refine kv_goto (tgt := 18) X dL_share_9 (by decide) ?_
    refine kv_iconst (v := 0) X dL_share_18 (by decide) ?_
    exact kv_ireturn X hr (Nat.le_of_ble_eq_true rfl) (Nat.le_of_ble_eq_true rfl) ⟨((ks, ad, cE dd E z), (xD dd wx f0 (FP.f2d r9))), (Or.inl (⟨rfl, z, r9, hp, rfl, rfl⟩)), rfl⟩ dL_share_19

set_option maxRecDepth 100000 in
set_option maxHeartbeats 4000000 in
theorem c_L_factor (l : Launch) (dd : kDD) (ks : List Nat) (ad : Nat → Nat) (E : Nat → va_E) (e : eS) (wr wx : kT) (hks : ∀ j, j ∈ ks → j < 1000) (M : mS) (nR nC nt nL nW nV nM : Nat) (cn nm mn me li rl : Nat → Nat) (on : Int32) (hO : cO dd ks ad E on) (hR : cR dd ks ad E M nR) (hC : cC dd ks ad E M nC mn me) (hT : cT dd ks ad E M nt cn nm) (hL : cL dd ks ad E M nL nW li) (hW : cW dd ks ad E M nW rl) (hV : cV dd ks ad E M nV) (hM : cM dd ks ad E M nM) (hB : cB M nR nC nt nL nW nV cn nm mn me li rl) (mI mR : Int32 → Nat → Nat) (hmI : ∀ o j, j < nt → mnt o (M.2.1 22) j nV 0 = nI (mI o j) ∧ mI o j < nt) (hmR : ∀ o j, j < nR → mnt o (M.2.1 23) j nV 0 = nI (mR o j) ∧ mR o j < nR) (hpk : ∀ r, r < nR → 1 ≤ M.2.1 5 r)  (hfx : kFx (M.2.1 13) cn (fun k => mI on (nm k)) (nJ (M.2.1 13) cn (fun k => mI on (nm k)) 2) nt) (f0 : Nat → UInt64) (hx0 : 1 ∈ wx.1 ∧ wx.2.2 1 = kDb dd 1 f0) : kCi l yL_factor (wsL_factor ++ kHx) ({ frames := 10, cells := 1, slots := 6, locals := 224 } : Room) 1 6 dd [.ref (ad 0), .ref (wx.2.1 1)] (jk (ks, ad, cE dd E e) wr wx, jd (ks, ad, cE dd E e) wr wx, jE (ks, ad, cE dd E e) wr wx) (kQi (S := kT × kT) (fun r9 z => (r9 = 0 ∧ ∃ (z9 : eS) (v9 : UInt64), (fun (r : UInt64) (z : eS) => cDn M nR nt nL nW nM cn nm mn me li (mI on) (mR on) (nJ (M.2.1 13) cn (fun k => mI on (nm k)) 2) z ∧ ¬ cou (z.2 23) (M.2.1 3) nR = 0 ∧ r = FP.ddiv (FP.l2d (msumJ (z.2 24) (cou (z.2 23) (M.2.1 3) nR + mex (z.2 23) (M.2.1 4) (M.2.1 5) (M.2.1 3) nR) nM)) (FP.l2d (cou (z.2 23) (M.2.1 3) nR))) v9 z9 ∧ z.1 = (ks, ad, cE dd E z9) ∧ z.2 = xD dd wx f0 v9) ∨ (r9 = 1 ∧ ∃ e9, z.1 = (ks, ad, cE dd E e9) ∧ (cDn M nR nt nL nW nM cn nm mn me li (mI on) (mR on) (nJ (M.2.1 13) cn (fun k => mI on (nm k)) 2) e9 ∧ cou (e9.2 23) (M.2.1 3) nR = 0) ∧ z.2 = wx)) (fun z => jk z.1 wr z.2) (fun z => jd z.1 wr z.2) (fun z => jE z.1 wr z.2)) := by
  refine kMetiW (ws' := _) (cc := cL_factor) (maxL := 3) (rt := .int) (by decide) rfl (Nat.le_of_ble_eq_true rfl) (fun g X hr htb hnL hRR hl0 => ?_)
  show kv dd g 0 0 0 [(0, .ref (ad 0)), (1, .ref (wx.2.1 1))] [] (jk (ks, ad, cE dd E e) wr wx) (jd (ks, ad, cE dd E e) wr wx) (jE (ks, ad, cE dd E e) wr wx)
  refine kv_aload_n X 1 dL_factor_0 rfl rfl ?_
  refine kv_iconst (v := 0) X dL_factor_1 (by decide) ?_
  refine kv_aload_n X 0 dL_factor_2 rfl rfl ?_
  refine kv_calldXVc (As := []) [.int 0, .ref (wx.2.1 1)] (ci := 13) (κ := 0) (r1 := (TX10, 3)) X (kCdX_frC (c := (ks, ad, cE dd E e)) (r := wr) (x := wx) (by rw [cf_id hks]; exact c_X10_factor l dd ks ad E e M nR nC nt nL nW nV nM cn nm mn me li rl on hO hR hC hT hL hW hV hM hB mI mR hmI hmR hpk hfx)) hl0 (kCV_of X 0 (goodIn_ext gL_factor_X10_factor) rfl rfl rfl (by decide +kernel) hRR ⟨(Nat.le_of_ble_eq_true rfl), (Nat.le_of_ble_eq_true rfl)⟩) (j_c0.1.mpr hO.1.1) (j_c0.2.2.trans ((cE_ne (dd := dd) (E := E) (e := e) (k := 0) (by omega)).trans hO.1.2)) rfl rfl rfl (Nat.le_of_ble_eq_true rfl) hRR ⟨(Nat.le_of_ble_eq_true rfl), (Nat.le_of_ble_eq_true rfl)⟩ dL_factor_3 (fun X9 u hX => ?_) (fun r9 z hp => ?_)
  ·
    obtain ⟨u1, ⟨e9, rfl, hX⟩, rfl⟩ := hX
    rcases hX with ⟨rfl, hX⟩
    refine kvx_catch (nm := "java/lang/ArithmeticException") X htb [] (⟨0, 7, 10, 67⟩ : ExceptionTableEntry) [] rfl (fun z hz => nomatch hz) (by decide) (by decide) (List.mem_append_right _ (List.mem_of_getElem? (i := 4) rfl)) (by decide +kernel) (fun q9 => ?_)
    show kv dd g _ _ 10 [(0, .ref (ad 0)), (1, .ref (wx.2.1 1))] [.ref q9] (jk (ks, ad, cE dd E e9) wr wx) (jd (ks, ad, cE dd E e9) wr wx) (jE (ks, ad, cE dd E e9) wr wx)
    refine kv_astore_n (lv2 := [(2, .ref q9), (0, .ref (ad 0)), (1, .ref (wx.2.1 1))]) X dL_factor_10 rfl (by rw [hnL]; decide) rfl ?_
    refine kv_iconst (v := 1) X dL_factor_11 (by decide) ?_
    exact kv_ireturn X hr (Nat.le_of_ble_eq_true rfl) (Nat.le_of_ble_eq_true rfl) ⟨((ks, ad, cE dd E e9), wx), (Or.inr (⟨rfl, ⟨e9, rfl, hX, rfl⟩⟩)), rfl⟩ dL_factor_12
  ·
    show kv dd g _ _ 6 [(0, .ref (ad 0)), (1, .ref (wx.2.1 1))] [.double r9, .int 0, .ref (wx.2.1 1)] (jk (ks, ad, cE dd E z) wr wx) (jd (ks, ad, cE dd E z) wr wx) (jE (ks, ad, cE dd E z) wr wx)
    refine kv_dastore X (κ := 2001) (n := 1) (j := 0) (f := f0) (x := r9) (j_x1.1.mpr hx0.1) (j_x1.2.2.trans hx0.2) (by omega) (by omega) dL_factor_6 ?_
    refine kv_E (E2 := (jE (ks, ad, cE dd E z) wr (xD dd wx f0 r9))) (fun j _ => xD_E j) ?_
    refine kv_goto (tgt := 13) X dL_factor_7 (by decide) ?_
    refine kv_iconst (v := 0) X dL_factor_13 (by decide) ?_
    exact kv_ireturn X hr (Nat.le_of_ble_eq_true rfl) (Nat.le_of_ble_eq_true rfl) ⟨((ks, ad, cE dd E z), (xD dd wx f0 r9)), (Or.inl (⟨rfl, z, r9, hp, rfl, rfl⟩)), rfl⟩ dL_factor_14

set_option maxRecDepth 100000 in
set_option maxHeartbeats 4000000 in
theorem c_L_addUse (l : Launch) (dd : kDD) (ks : List Nat) (ad : Nat → Nat) (E : Nat → va_E) (e : eS) (wr wx : kT) (hks : ∀ j, j ∈ ks → j < 1000) (M : mS) (nR nC nt nL nW nV nM : Nat) (cn nm mn me li rl : Nat → Nat) (on : Int32) (hO : cO dd ks ad E on) (hR : cR dd ks ad E M nR) (hC : cC dd ks ad E M nC mn me) (hT : cT dd ks ad E M nt cn nm) (hL : cL dd ks ad E M nL nW li) (hW : cW dd ks ad E M nW rl) (hV : cV dd ks ad E M nV) (hM : cM dd ks ad E M nM) (hB : cB M nR nC nt nL nW nV cn nm mn me li rl) (mI mR : Int32 → Nat → Nat) (hmI : ∀ o j, j < nt → mnt o (M.2.1 22) j nV 0 = nI (mI o j) ∧ mI o j < nt) (hmR : ∀ o j, j < nR → mnt o (M.2.1 23) j nV 0 = nI (mR o j) ∧ mR o j < nR) (hpk : ∀ r, r < nR → 1 ≤ M.2.1 5 r) (v x q : Int32) (f0 : Nat → Int64) (hx0 : 0 ∈ wx.1 ∧ wx.2.2 0 = kJ dd 1 f0) : kCi l yL_addUse (wsL_addUse ++ kHx) ({ frames := 9, cells := 8, slots := 150, locals := 217 } : Room) 8 150 dd [.ref (ad 0), .int v, .int x, .int q, .ref (wx.2.1 0)] (jk (ks, ad, cE dd E e) wr wx, jd (ks, ad, cE dd E e) wr wx, jE (ks, ad, cE dd E e) wr wx) (kQi (S := kT × kT) (fun r9 z => (r9 = 0 ∧ ∃ v9 : Int32, (fun (r : Int32) (z : kT) => ∃ j, ∃ j2, (j < nt ∧ j2 < nR ∧ v = nI j ∧ x = nI j2 ∧ (1 ≤ q ∧ q ≤ 99)) ∧ cn j < 4 ∧ (z.2.1 0 = ad 0 ∧ cAll dd (M.1, va_up (va_up (va_up (va_up M.2.1 13 (upd (M.2.1 13) (4 * j + cn j) 1)) 14 (upd (M.2.1 14) (4 * j + cn j) (nI j2))) 15 (upd (M.2.1 15) (4 * j + cn j) q)) 12 (upd (M.2.1 12) j (nI (cn j + 1))), M.2.2) nR nC nt nL nW nV nM (va_up cn j (cn j + 1)) (va_up nm (4 * j + cn j) j2) mn me li rl on z) ∧ r = nI (cn j + 1)) v9 z.1 ∧ z.2 = xJ dd wx f0 v9.toInt64) ∨ (r9 = 1 ∧ (z.1.2.1 0 = ad 0 ∧ cAll dd M nR nC nt nL nW nV nM cn nm mn me li rl on z.1) ∧ ¬ ((∃ j, j < nt ∧ v = nI j) ∧ (∃ j, j < nR ∧ x = nI j)) ∧ z.2 = wx) ∨ (r9 = 2 ∧ (z.1.2.1 0 = ad 0 ∧ cAll dd M nR nC nt nL nW nV nM cn nm mn me li rl on z.1) ∧ (((∃ j, j < nt ∧ v = nI j) ∧ (∃ j, j < nR ∧ x = nI j)) ∧ ¬ (1 ≤ q ∧ q ≤ 99)) ∧ z.2 = wx) ∨ (r9 = 3 ∧ (z.1.2.1 0 = ad 0 ∧ cAll dd M nR nC nt nL nW nV nM cn nm mn me li rl on z.1) ∧ (((∃ j, j < nt ∧ v = nI j) ∧ (∃ j, j < nR ∧ x = nI j)) ∧ (1 ≤ q ∧ q ≤ 99) ∧ ∃ j, v = nI j ∧ j < nt ∧ cn j = 4) ∧ z.2 = wx)) (fun z => jk z.1 wr z.2) (fun z => jd z.1 wr z.2) (fun z => jE z.1 wr z.2)) := by
  refine kMetiW (ws' := _) (cc := cL_addUse) (maxL := 6) (rt := .int) (by decide) rfl (Nat.le_of_ble_eq_true rfl) (fun g X hr htb hnL hRR hl0 => ?_)
  show kv dd g 0 0 0 [(0, .ref (ad 0)), (1, .int v), (2, .int x), (3, .int q), (4, .ref (wx.2.1 0))] [] (jk (ks, ad, cE dd E e) wr wx) (jd (ks, ad, cE dd E e) wr wx) (jE (ks, ad, cE dd E e) wr wx)
  refine kv_aload X 4 dL_addUse_0 rfl ?_
  refine kv_iconst (v := 0) X dL_addUse_2 (by decide) ?_
  refine kv_aload_n X 0 dL_addUse_3 rfl rfl ?_
  refine kv_iload_n X 1 dL_addUse_4 rfl rfl ?_
  refine kv_iload_n X 2 dL_addUse_5 rfl rfl ?_
  refine kv_iload_n X 3 dL_addUse_6 rfl rfl ?_
  refine kv_calliXVc (As := [.int v, .int x, .int q]) [.int 0, .ref (wx.2.1 0)] (ci := 13) (κ := 0) (r1 := (TX10, 3)) X (kCiX_frC (c := (ks, ad, cE dd E e)) (r := wr) (x := wx) (by rw [cf_id hks]; exact c_X10_addUse l dd ks ad E e M nR nC nt nL nW nV nM cn nm mn me li rl on hO hR hC hT hL hW hV hM hB mI mR hmI hmR hpk v x q)) hl0 (kCV_of X 3 (goodIn_ext gL_addUse_X10_addUse) rfl rfl rfl (by decide +kernel) hRR ⟨(Nat.le_of_ble_eq_true rfl), (Nat.le_of_ble_eq_true rfl)⟩) (j_c0.1.mpr hO.1.1) (j_c0.2.2.trans ((cE_ne (dd := dd) (E := E) (e := e) (k := 0) (by omega)).trans hO.1.2)) rfl rfl rfl (Nat.le_of_ble_eq_true rfl) hRR ⟨(Nat.le_of_ble_eq_true rfl), (Nat.le_of_ble_eq_true rfl)⟩ dL_addUse_7 (fun X9 u hX => ?_) (fun r9 z hp => ?_)
  ·
    obtain ⟨u1, hX, rfl⟩ := hX
    obtain ⟨hA, hX⟩ := hX
    rcases hX with ⟨rfl, hX⟩ | ⟨rfl, hX⟩ | ⟨rfl, hX⟩
    ·
      refine kvx_catch (nm := "java/lang/IndexOutOfBoundsException") X htb [] (⟨0, 12, 15, 21⟩ : ExceptionTableEntry) [(⟨0, 12, 19, 13⟩ : ExceptionTableEntry), (⟨0, 12, 23, 15⟩ : ExceptionTableEntry)] rfl (fun z hz => nomatch hz) (by decide) (by decide) (List.mem_append_right _ (List.mem_of_getElem? (i := 2) rfl)) (by decide +kernel) (fun q9 => ?_)
      show kv dd g _ _ 15 [(0, .ref (ad 0)), (1, .int v), (2, .int x), (3, .int q), (4, .ref (wx.2.1 0))] [.ref q9] (jk u1 wr wx) (jd u1 wr wx) (jE u1 wr wx)
      refine kv_astore (lv2 := [(5, .ref q9), (0, .ref (ad 0)), (1, .int v), (2, .int x), (3, .int q), (4, .ref (wx.2.1 0))]) X dL_addUse_15 (by rw [hnL]; decide) rfl ?_
      refine kv_iconst (v := 1) X dL_addUse_17 (by decide) ?_
      exact kv_ireturn X hr (Nat.le_of_ble_eq_true rfl) (Nat.le_of_ble_eq_true rfl) ⟨(u1, wx), (Or.inr (Or.inl (⟨rfl, ⟨hA, hX, rfl⟩⟩))), rfl⟩ dL_addUse_18
    ·
      refine kvx_catch (nm := "java/lang/IllegalArgumentException") X htb [(⟨0, 12, 15, 21⟩ : ExceptionTableEntry)] (⟨0, 12, 19, 13⟩ : ExceptionTableEntry) [(⟨0, 12, 23, 15⟩ : ExceptionTableEntry)] rfl (fun z hz => by
          simp only [List.mem_cons, List.not_mem_nil, or_false] at hz
          rcases hz with rfl
          · exact ⟨by decide, _, (List.mem_append_right _ (List.mem_of_getElem? (i := 2) rfl)), by decide +kernel⟩) (by decide) (by decide) (List.mem_append_right _ (List.mem_of_getElem? (i := 0) rfl)) (by decide +kernel) (fun q9 => ?_)
      show kv dd g _ _ 19 [(0, .ref (ad 0)), (1, .int v), (2, .int x), (3, .int q), (4, .ref (wx.2.1 0))] [.ref q9] (jk u1 wr wx) (jd u1 wr wx) (jE u1 wr wx)
      refine kv_astore (lv2 := [(5, .ref q9), (0, .ref (ad 0)), (1, .int v), (2, .int x), (3, .int q), (4, .ref (wx.2.1 0))]) X dL_addUse_19 (by rw [hnL]; decide) rfl ?_
      refine kv_iconst (v := 2) X dL_addUse_21 (by decide) ?_
      exact kv_ireturn X hr (Nat.le_of_ble_eq_true rfl) (Nat.le_of_ble_eq_true rfl) ⟨(u1, wx), (Or.inr (Or.inr (Or.inl (⟨rfl, ⟨hA, hX, rfl⟩⟩)))), rfl⟩ dL_addUse_22
    ·
      refine kvx_catch (nm := "java/lang/IllegalStateException") X htb [(⟨0, 12, 15, 21⟩ : ExceptionTableEntry), (⟨0, 12, 19, 13⟩ : ExceptionTableEntry)] (⟨0, 12, 23, 15⟩ : ExceptionTableEntry) [] rfl (fun z hz => by
          simp only [List.mem_cons, List.not_mem_nil, or_false] at hz
          rcases hz with rfl | rfl
          · exact ⟨by decide, _, (List.mem_append_right _ (List.mem_of_getElem? (i := 2) rfl)), by decide +kernel⟩
          · exact ⟨by decide, _, (List.mem_append_right _ (List.mem_of_getElem? (i := 0) rfl)), by decide +kernel⟩) (by decide) (by decide) (List.mem_append_right _ (List.mem_of_getElem? (i := 1) rfl)) (by decide +kernel) (fun q9 => ?_)
      show kv dd g _ _ 23 [(0, .ref (ad 0)), (1, .int v), (2, .int x), (3, .int q), (4, .ref (wx.2.1 0))] [.ref q9] (jk u1 wr wx) (jd u1 wr wx) (jE u1 wr wx)
      refine kv_astore (lv2 := [(5, .ref q9), (0, .ref (ad 0)), (1, .int v), (2, .int x), (3, .int q), (4, .ref (wx.2.1 0))]) X dL_addUse_23 (by rw [hnL]; decide) rfl ?_
      refine kv_iconst (v := 3) X dL_addUse_25 (by decide) ?_
      exact kv_ireturn X hr (Nat.le_of_ble_eq_true rfl) (Nat.le_of_ble_eq_true rfl) ⟨(u1, wx), (Or.inr (Or.inr (Or.inr (⟨rfl, ⟨hA, hX, rfl⟩⟩)))), rfl⟩ dL_addUse_26
  ·
    show kv dd g _ _ 10 [(0, .ref (ad 0)), (1, .int v), (2, .int x), (3, .int q), (4, .ref (wx.2.1 0))] [.int r9, .int 0, .ref (wx.2.1 0)] (jk z wr wx) (jd z wr wx) (jE z wr wx)
    refine kv_i2l X dL_addUse_10 rfl ?_
    refine kv_lastore X (κ := 2000) (n := 1) (j := 0) (f := f0) (x := r9.toInt64) (j_x0.1.mpr hx0.1) (j_x0.2.2.trans hx0.2) (by omega) (by omega) dL_addUse_11 ?_
    refine kv_E (E2 := (jE z wr (xJ dd wx f0 r9.toInt64))) (fun j _ => xJ_E j) ?_
    refine kv_goto (tgt := 27) X dL_addUse_12 (by decide) ?_
    refine kv_iconst (v := 0) X dL_addUse_27 (by decide) ?_
    exact kv_ireturn X hr (Nat.le_of_ble_eq_true rfl) (Nat.le_of_ble_eq_true rfl) ⟨(z, (xJ dd wx f0 r9.toInt64)), (Or.inl (⟨rfl, r9, hp, rfl⟩)), rfl⟩ dL_addUse_28

set_option maxRecDepth 100000 in
set_option maxHeartbeats 4000000 in
theorem c_L_addWork (l : Launch) (dd : kDD) (ks : List Nat) (ad : Nat → Nat) (E : Nat → va_E) (e : eS) (wr wx : kT) (hks : ∀ j, j ∈ ks → j < 1000) (M : mS) (nR nC nt nL nW nV nM : Nat) (cn nm mn me li rl : Nat → Nat) (on : Int32) (hO : cO dd ks ad E on) (hR : cR dd ks ad E M nR) (hC : cC dd ks ad E M nC mn me) (hT : cT dd ks ad E M nt cn nm) (hL : cL dd ks ad E M nL nW li) (hW : cW dd ks ad E M nW rl) (hV : cV dd ks ad E M nV) (hM : cM dd ks ad E M nM) (hB : cB M nR nC nt nL nW nV cn nm mn me li rl) (mI mR : Int32 → Nat → Nat) (hmI : ∀ o j, j < nt → mnt o (M.2.1 22) j nV 0 = nI (mI o j) ∧ mI o j < nt) (hmR : ∀ o j, j < nR → mnt o (M.2.1 23) j nV 0 = nI (mR o j) ∧ mR o j < nR) (hpk : ∀ r, r < nR → 1 ≤ M.2.1 5 r) (v x q : Int32) (f0 : Nat → Int64) (hx0 : 0 ∈ wx.1 ∧ wx.2.2 0 = kJ dd 1 f0) : kCi l yL_addWork (wsL_addWork ++ kHx) ({ frames := 9, cells := 8, slots := 150, locals := 217 } : Room) 8 150 dd [.ref (ad 0), .int v, .int x, .int q, .ref (wx.2.1 0)] (jk (ks, ad, cE dd E e) wr wx, jd (ks, ad, cE dd E e) wr wx, jE (ks, ad, cE dd E e) wr wx) (kQi (S := kT × kT) (fun r9 z => (r9 = 0 ∧ ∃ v9 : Int32, (fun (r : Int32) (z : kT) => ∃ j, ∃ j2, (j < nt ∧ j2 < nC ∧ v = nI j ∧ x = nI j2 ∧ (1 ≤ q ∧ q ≤ 99)) ∧ cn j < 4 ∧ (z.2.1 0 = ad 0 ∧ cAll dd (M.1, va_up (va_up (va_up (va_up M.2.1 13 (upd (M.2.1 13) (4 * j + cn j) 2)) 14 (upd (M.2.1 14) (4 * j + cn j) (nI j2))) 15 (upd (M.2.1 15) (4 * j + cn j) q)) 12 (upd (M.2.1 12) j (nI (cn j + 1))), M.2.2) nR nC nt nL nW nV nM (va_up cn j (cn j + 1)) (va_up nm (4 * j + cn j) j2) mn me li rl on z) ∧ r = nI (cn j + 1)) v9 z.1 ∧ z.2 = xJ dd wx f0 v9.toInt64) ∨ (r9 = 1 ∧ (z.1.2.1 0 = ad 0 ∧ cAll dd M nR nC nt nL nW nV nM cn nm mn me li rl on z.1) ∧ ¬ ((∃ j, j < nt ∧ v = nI j) ∧ (∃ j, j < nC ∧ x = nI j)) ∧ z.2 = wx) ∨ (r9 = 2 ∧ (z.1.2.1 0 = ad 0 ∧ cAll dd M nR nC nt nL nW nV nM cn nm mn me li rl on z.1) ∧ (((∃ j, j < nt ∧ v = nI j) ∧ (∃ j, j < nC ∧ x = nI j)) ∧ ¬ (1 ≤ q ∧ q ≤ 99)) ∧ z.2 = wx) ∨ (r9 = 3 ∧ (z.1.2.1 0 = ad 0 ∧ cAll dd M nR nC nt nL nW nV nM cn nm mn me li rl on z.1) ∧ (((∃ j, j < nt ∧ v = nI j) ∧ (∃ j, j < nC ∧ x = nI j)) ∧ (1 ≤ q ∧ q ≤ 99) ∧ ∃ j, v = nI j ∧ j < nt ∧ cn j = 4) ∧ z.2 = wx)) (fun z => jk z.1 wr z.2) (fun z => jd z.1 wr z.2) (fun z => jE z.1 wr z.2)) := by
  refine kMetiW (ws' := _) (cc := cL_addWork) (maxL := 6) (rt := .int) (by decide) rfl (Nat.le_of_ble_eq_true rfl) (fun g X hr htb hnL hRR hl0 => ?_)
  show kv dd g 0 0 0 [(0, .ref (ad 0)), (1, .int v), (2, .int x), (3, .int q), (4, .ref (wx.2.1 0))] [] (jk (ks, ad, cE dd E e) wr wx) (jd (ks, ad, cE dd E e) wr wx) (jE (ks, ad, cE dd E e) wr wx)
  refine kv_aload X 4 dL_addWork_0 rfl ?_
  refine kv_iconst (v := 0) X dL_addWork_2 (by decide) ?_
  refine kv_aload_n X 0 dL_addWork_3 rfl rfl ?_
  refine kv_iload_n X 1 dL_addWork_4 rfl rfl ?_
  refine kv_iload_n X 2 dL_addWork_5 rfl rfl ?_
  refine kv_iload_n X 3 dL_addWork_6 rfl rfl ?_
  refine kv_calliXVc (As := [.int v, .int x, .int q]) [.int 0, .ref (wx.2.1 0)] (ci := 13) (κ := 0) (r1 := (TX10, 3)) X (kCiX_frC (c := (ks, ad, cE dd E e)) (r := wr) (x := wx) (by rw [cf_id hks]; exact c_X10_addWork l dd ks ad E e M nR nC nt nL nW nV nM cn nm mn me li rl on hO hR hC hT hL hW hV hM hB mI mR hmI hmR hpk v x q)) hl0 (kCV_of X 3 (goodIn_ext gL_addWork_X10_addWork) rfl rfl rfl (by decide +kernel) hRR ⟨(Nat.le_of_ble_eq_true rfl), (Nat.le_of_ble_eq_true rfl)⟩) (j_c0.1.mpr hO.1.1) (j_c0.2.2.trans ((cE_ne (dd := dd) (E := E) (e := e) (k := 0) (by omega)).trans hO.1.2)) rfl rfl rfl (Nat.le_of_ble_eq_true rfl) hRR ⟨(Nat.le_of_ble_eq_true rfl), (Nat.le_of_ble_eq_true rfl)⟩ dL_addWork_7 (fun X9 u hX => ?_) (fun r9 z hp => ?_)
  ·
    obtain ⟨u1, hX, rfl⟩ := hX
    obtain ⟨hA, hX⟩ := hX
    rcases hX with ⟨rfl, hX⟩ | ⟨rfl, hX⟩ | ⟨rfl, hX⟩
    ·
      refine kvx_catch (nm := "java/lang/IndexOutOfBoundsException") X htb [] (⟨0, 12, 15, 21⟩ : ExceptionTableEntry) [(⟨0, 12, 19, 13⟩ : ExceptionTableEntry), (⟨0, 12, 23, 15⟩ : ExceptionTableEntry)] rfl (fun z hz => nomatch hz) (by decide) (by decide) (List.mem_append_right _ (List.mem_of_getElem? (i := 2) rfl)) (by decide +kernel) (fun q9 => ?_)
      show kv dd g _ _ 15 [(0, .ref (ad 0)), (1, .int v), (2, .int x), (3, .int q), (4, .ref (wx.2.1 0))] [.ref q9] (jk u1 wr wx) (jd u1 wr wx) (jE u1 wr wx)
      refine kv_astore (lv2 := [(5, .ref q9), (0, .ref (ad 0)), (1, .int v), (2, .int x), (3, .int q), (4, .ref (wx.2.1 0))]) X dL_addWork_15 (by rw [hnL]; decide) rfl ?_
      refine kv_iconst (v := 1) X dL_addWork_17 (by decide) ?_
      exact kv_ireturn X hr (Nat.le_of_ble_eq_true rfl) (Nat.le_of_ble_eq_true rfl) ⟨(u1, wx), (Or.inr (Or.inl (⟨rfl, ⟨hA, hX, rfl⟩⟩))), rfl⟩ dL_addWork_18
    ·
      refine kvx_catch (nm := "java/lang/IllegalArgumentException") X htb [(⟨0, 12, 15, 21⟩ : ExceptionTableEntry)] (⟨0, 12, 19, 13⟩ : ExceptionTableEntry) [(⟨0, 12, 23, 15⟩ : ExceptionTableEntry)] rfl (fun z hz => by
          simp only [List.mem_cons, List.not_mem_nil, or_false] at hz
          rcases hz with rfl
          · exact ⟨by decide, _, (List.mem_append_right _ (List.mem_of_getElem? (i := 2) rfl)), by decide +kernel⟩) (by decide) (by decide) (List.mem_append_right _ (List.mem_of_getElem? (i := 0) rfl)) (by decide +kernel) (fun q9 => ?_)
      show kv dd g _ _ 19 [(0, .ref (ad 0)), (1, .int v), (2, .int x), (3, .int q), (4, .ref (wx.2.1 0))] [.ref q9] (jk u1 wr wx) (jd u1 wr wx) (jE u1 wr wx)
      refine kv_astore (lv2 := [(5, .ref q9), (0, .ref (ad 0)), (1, .int v), (2, .int x), (3, .int q), (4, .ref (wx.2.1 0))]) X dL_addWork_19 (by rw [hnL]; decide) rfl ?_
      refine kv_iconst (v := 2) X dL_addWork_21 (by decide) ?_
      exact kv_ireturn X hr (Nat.le_of_ble_eq_true rfl) (Nat.le_of_ble_eq_true rfl) ⟨(u1, wx), (Or.inr (Or.inr (Or.inl (⟨rfl, ⟨hA, hX, rfl⟩⟩)))), rfl⟩ dL_addWork_22
    ·
      refine kvx_catch (nm := "java/lang/IllegalStateException") X htb [(⟨0, 12, 15, 21⟩ : ExceptionTableEntry), (⟨0, 12, 19, 13⟩ : ExceptionTableEntry)] (⟨0, 12, 23, 15⟩ : ExceptionTableEntry) [] rfl (fun z hz => by
          simp only [List.mem_cons, List.not_mem_nil, or_false] at hz
          rcases hz with rfl | rfl
          · exact ⟨by decide, _, (List.mem_append_right _ (List.mem_of_getElem? (i := 2) rfl)), by decide +kernel⟩
          · exact ⟨by decide, _, (List.mem_append_right _ (List.mem_of_getElem? (i := 0) rfl)), by decide +kernel⟩) (by decide) (by decide) (List.mem_append_right _ (List.mem_of_getElem? (i := 1) rfl)) (by decide +kernel) (fun q9 => ?_)
      show kv dd g _ _ 23 [(0, .ref (ad 0)), (1, .int v), (2, .int x), (3, .int q), (4, .ref (wx.2.1 0))] [.ref q9] (jk u1 wr wx) (jd u1 wr wx) (jE u1 wr wx)
      refine kv_astore (lv2 := [(5, .ref q9), (0, .ref (ad 0)), (1, .int v), (2, .int x), (3, .int q), (4, .ref (wx.2.1 0))]) X dL_addWork_23 (by rw [hnL]; decide) rfl ?_
      refine kv_iconst (v := 3) X dL_addWork_25 (by decide) ?_
      exact kv_ireturn X hr (Nat.le_of_ble_eq_true rfl) (Nat.le_of_ble_eq_true rfl) ⟨(u1, wx), (Or.inr (Or.inr (Or.inr (⟨rfl, ⟨hA, hX, rfl⟩⟩)))), rfl⟩ dL_addWork_26
  ·
    show kv dd g _ _ 10 [(0, .ref (ad 0)), (1, .int v), (2, .int x), (3, .int q), (4, .ref (wx.2.1 0))] [.int r9, .int 0, .ref (wx.2.1 0)] (jk z wr wx) (jd z wr wx) (jE z wr wx)
    refine kv_i2l X dL_addWork_10 rfl ?_
    refine kv_lastore X (κ := 2000) (n := 1) (j := 0) (f := f0) (x := r9.toInt64) (j_x0.1.mpr hx0.1) (j_x0.2.2.trans hx0.2) (by omega) (by omega) dL_addWork_11 ?_
    refine kv_E (E2 := (jE z wr (xJ dd wx f0 r9.toInt64))) (fun j _ => xJ_E j) ?_
    refine kv_goto (tgt := 27) X dL_addWork_12 (by decide) ?_
    refine kv_iconst (v := 0) X dL_addWork_27 (by decide) ?_
    exact kv_ireturn X hr (Nat.le_of_ble_eq_true rfl) (Nat.le_of_ble_eq_true rfl) ⟨(z, (xJ dd wx f0 r9.toInt64)), (Or.inl (⟨rfl, r9, hp, rfl⟩)), rfl⟩ dL_addWork_28

set_option maxRecDepth 100000 in
set_option maxHeartbeats 4000000 in
theorem c_L_addPart (l : Launch) (dd : kDD) (ks : List Nat) (ad : Nat → Nat) (E : Nat → va_E) (e : eS) (wr wx : kT) (hks : ∀ j, j ∈ ks → j < 1000) (M : mS) (nR nC nt nL nW nV nM : Nat) (cn nm mn me li rl : Nat → Nat) (on : Int32) (hO : cO dd ks ad E on) (hR : cR dd ks ad E M nR) (hC : cC dd ks ad E M nC mn me) (hT : cT dd ks ad E M nt cn nm) (hL : cL dd ks ad E M nL nW li) (hW : cW dd ks ad E M nW rl) (hV : cV dd ks ad E M nV) (hM : cM dd ks ad E M nM) (hB : cB M nR nC nt nL nW nV cn nm mn me li rl) (mI mR : Int32 → Nat → Nat) (hmI : ∀ o j, j < nt → mnt o (M.2.1 22) j nV 0 = nI (mI o j) ∧ mI o j < nt) (hmR : ∀ o j, j < nR → mnt o (M.2.1 23) j nV 0 = nI (mR o j) ∧ mR o j < nR) (hpk : ∀ r, r < nR → 1 ≤ M.2.1 5 r) (v x q : Int32) (f0 : Nat → Int64) (hx0 : 0 ∈ wx.1 ∧ wx.2.2 0 = kJ dd 1 f0) : kCi l yL_addPart (wsL_addPart ++ kHx) ({ frames := 9, cells := 9, slots := 160, locals := 217 } : Room) 9 160 dd [.ref (ad 0), .int v, .int x, .int q, .ref (wx.2.1 0)] (jk (ks, ad, cE dd E e) wr wx, jd (ks, ad, cE dd E e) wr wx, jE (ks, ad, cE dd E e) wr wx) (kQi (S := kT × kT) (fun r9 z => (r9 = 0 ∧ ∃ v9 : Int32, (fun (r : Int32) (z : kT) => (∃ j, ∃ j2, (j < nt ∧ j2 < nt ∧ v = nI j ∧ x = nI j2 ∧ (1 ≤ q ∧ q ≤ 9)) ∧ cn j < 4 ∧ kFx (upd (M.2.1 13) (4 * j + cn j) 0) (va_up cn j (cn j + 1)) (fun k => mI on ((va_up nm (4 * j + cn j) j2) k)) (nJ (upd (M.2.1 13) (4 * j + cn j) 0) (va_up cn j (cn j + 1)) (fun k => mI on ((va_up nm (4 * j + cn j) j2) k)) 2) nt ∧ (z.2.1 0 = ad 0 ∧ cAll dd (M.1, va_up (va_up (va_up (va_up M.2.1 13 (upd (M.2.1 13) (4 * j + cn j) 0)) 14 (upd (M.2.1 14) (4 * j + cn j) (nI j2))) 15 (upd (M.2.1 15) (4 * j + cn j) q)) 12 (upd (M.2.1 12) j (nI (cn j + 1))), M.2.2) nR nC nt nL nW nV nM (va_up cn j (cn j + 1)) (va_up nm (4 * j + cn j) j2) mn me li rl on z) ∧ r = nI (nJ (upd (M.2.1 13) (4 * j + cn j) 0) (va_up cn j (cn j + 1)) (fun k => mI on ((va_up nm (4 * j + cn j) j2) k)) 2 j))) v9 z.1 ∧ z.2 = xJ dd wx f0 v9.toInt64) ∨ (r9 = 1 ∧ (z.1.2.1 0 = ad 0 ∧ cAll dd M nR nC nt nL nW nV nM cn nm mn me li rl on z.1) ∧ ¬ ((∃ j, j < nt ∧ v = nI j) ∧ (∃ j, j < nt ∧ x = nI j)) ∧ z.2 = wx) ∨ (r9 = 2 ∧ (z.1.2.1 0 = ad 0 ∧ cAll dd M nR nC nt nL nW nV nM cn nm mn me li rl on z.1) ∧ (((∃ j, j < nt ∧ v = nI j) ∧ (∃ j, j < nt ∧ x = nI j)) ∧ ¬ (1 ≤ q ∧ q ≤ 9)) ∧ z.2 = wx) ∨ (r9 = 3 ∧ (z.1.2.1 0 = ad 0 ∧ cAll dd M nR nC nt nL nW nV nM cn nm mn me li rl on z.1) ∧ (∃ j, ∃ j2, (j < nt ∧ j2 < nt ∧ v = nI j ∧ x = nI j2 ∧ (1 ≤ q ∧ q ≤ 9)) ∧ cn j = 4) ∧ z.2 = wx) ∨ (r9 = 4 ∧ (∃ j, ∃ j2, (j < nt ∧ j2 < nt ∧ v = nI j ∧ x = nI j2 ∧ (1 ≤ q ∧ q ≤ 9)) ∧ cn j < 4 ∧ ¬ kFx (upd (M.2.1 13) (4 * j + cn j) 0) (va_up cn j (cn j + 1)) (fun k => mI on ((va_up nm (4 * j + cn j) j2) k)) (nJ (upd (M.2.1 13) (4 * j + cn j) 0) (va_up cn j (cn j + 1)) (fun k => mI on ((va_up nm (4 * j + cn j) j2) k)) 2) nt ∧ (z.1.2.1 0 = ad 0 ∧ cAll dd (M.1, va_up (va_up (va_up (va_up M.2.1 13 (upd (M.2.1 13) (4 * j + cn j) 0)) 14 (upd (M.2.1 14) (4 * j + cn j) (nI j2))) 15 (upd (M.2.1 15) (4 * j + cn j) q)) 12 (upd (M.2.1 12) j (nI (cn j + 1))), M.2.2) nR nC nt nL nW nV nM cn (va_up nm (4 * j + cn j) j2) mn me li rl on z.1)) ∧ z.2 = wx)) (fun z => jk z.1 wr z.2) (fun z => jd z.1 wr z.2) (fun z => jE z.1 wr z.2)) := by
  refine kMetiW (ws' := _) (cc := cL_addPart) (maxL := 6) (rt := .int) (by decide) rfl (Nat.le_of_ble_eq_true rfl) (fun g X hr htb hnL hRR hl0 => ?_)
  show kv dd g 0 0 0 [(0, .ref (ad 0)), (1, .int v), (2, .int x), (3, .int q), (4, .ref (wx.2.1 0))] [] (jk (ks, ad, cE dd E e) wr wx) (jd (ks, ad, cE dd E e) wr wx) (jE (ks, ad, cE dd E e) wr wx)
  refine kv_aload X 4 dL_addPart_0 rfl ?_
  refine kv_iconst (v := 0) X dL_addPart_2 (by decide) ?_
  refine kv_aload_n X 0 dL_addPart_3 rfl rfl ?_
  refine kv_iload_n X 1 dL_addPart_4 rfl rfl ?_
  refine kv_iload_n X 2 dL_addPart_5 rfl rfl ?_
  refine kv_iload_n X 3 dL_addPart_6 rfl rfl ?_
  refine kv_calliXVc (As := [.int v, .int x, .int q]) [.int 0, .ref (wx.2.1 0)] (ci := 13) (κ := 0) (r1 := (TX10, 3)) X (kCiX_frC (c := (ks, ad, cE dd E e)) (r := wr) (x := wx) (by rw [cf_id hks]; exact c_X10_addPart l dd ks ad E e M nR nC nt nL nW nV nM cn nm mn me li rl on hO hR hC hT hL hW hV hM hB mI mR hmI hmR hpk v x q)) hl0 (kCV_of X 3 (goodIn_ext gL_addPart_X10_addPart) rfl rfl rfl (by decide +kernel) hRR ⟨(Nat.le_of_ble_eq_true rfl), (Nat.le_of_ble_eq_true rfl)⟩) (j_c0.1.mpr hO.1.1) (j_c0.2.2.trans ((cE_ne (dd := dd) (E := E) (e := e) (k := 0) (by omega)).trans hO.1.2)) rfl rfl rfl (Nat.le_of_ble_eq_true rfl) hRR ⟨(Nat.le_of_ble_eq_true rfl), (Nat.le_of_ble_eq_true rfl)⟩ dL_addPart_7 (fun X9 u hX => ?_) (fun r9 z hp => ?_)
  ·
    obtain ⟨u1, hX, rfl⟩ := hX
    rcases hX with ⟨hA, ⟨rfl, hX⟩ | ⟨rfl, hX⟩ | ⟨rfl, hX⟩⟩ | ⟨rfl, hX⟩
    ·
      refine kvx_catch (nm := "java/lang/IndexOutOfBoundsException") X htb [] (⟨0, 12, 15, 21⟩ : ExceptionTableEntry) [(⟨0, 12, 19, 13⟩ : ExceptionTableEntry), (⟨0, 12, 23, 15⟩ : ExceptionTableEntry), (⟨0, 12, 27, 31⟩ : ExceptionTableEntry)] rfl (fun z hz => nomatch hz) (by decide) (by decide) (List.mem_append_right _ (List.mem_of_getElem? (i := 2) rfl)) (by decide +kernel) (fun q9 => ?_)
      show kv dd g _ _ 15 [(0, .ref (ad 0)), (1, .int v), (2, .int x), (3, .int q), (4, .ref (wx.2.1 0))] [.ref q9] (jk u1 wr wx) (jd u1 wr wx) (jE u1 wr wx)
      refine kv_astore (lv2 := [(5, .ref q9), (0, .ref (ad 0)), (1, .int v), (2, .int x), (3, .int q), (4, .ref (wx.2.1 0))]) X dL_addPart_15 (by rw [hnL]; decide) rfl ?_
      refine kv_iconst (v := 1) X dL_addPart_17 (by decide) ?_
      exact kv_ireturn X hr (Nat.le_of_ble_eq_true rfl) (Nat.le_of_ble_eq_true rfl) ⟨(u1, wx), (Or.inr (Or.inl (⟨rfl, ⟨hA, hX, rfl⟩⟩))), rfl⟩ dL_addPart_18
    ·
      refine kvx_catch (nm := "java/lang/IllegalArgumentException") X htb [(⟨0, 12, 15, 21⟩ : ExceptionTableEntry)] (⟨0, 12, 19, 13⟩ : ExceptionTableEntry) [(⟨0, 12, 23, 15⟩ : ExceptionTableEntry), (⟨0, 12, 27, 31⟩ : ExceptionTableEntry)] rfl (fun z hz => by
          simp only [List.mem_cons, List.not_mem_nil, or_false] at hz
          rcases hz with rfl
          · exact ⟨by decide, _, (List.mem_append_right _ (List.mem_of_getElem? (i := 2) rfl)), by decide +kernel⟩) (by decide) (by decide) (List.mem_append_right _ (List.mem_of_getElem? (i := 0) rfl)) (by decide +kernel) (fun q9 => ?_)
      show kv dd g _ _ 19 [(0, .ref (ad 0)), (1, .int v), (2, .int x), (3, .int q), (4, .ref (wx.2.1 0))] [.ref q9] (jk u1 wr wx) (jd u1 wr wx) (jE u1 wr wx)
      refine kv_astore (lv2 := [(5, .ref q9), (0, .ref (ad 0)), (1, .int v), (2, .int x), (3, .int q), (4, .ref (wx.2.1 0))]) X dL_addPart_19 (by rw [hnL]; decide) rfl ?_
      refine kv_iconst (v := 2) X dL_addPart_21 (by decide) ?_
      exact kv_ireturn X hr (Nat.le_of_ble_eq_true rfl) (Nat.le_of_ble_eq_true rfl) ⟨(u1, wx), (Or.inr (Or.inr (Or.inl (⟨rfl, ⟨hA, hX, rfl⟩⟩)))), rfl⟩ dL_addPart_22
    ·
      refine kvx_catch (nm := "java/lang/IllegalStateException") X htb [(⟨0, 12, 15, 21⟩ : ExceptionTableEntry), (⟨0, 12, 19, 13⟩ : ExceptionTableEntry)] (⟨0, 12, 23, 15⟩ : ExceptionTableEntry) [(⟨0, 12, 27, 31⟩ : ExceptionTableEntry)] rfl (fun z hz => by
          simp only [List.mem_cons, List.not_mem_nil, or_false] at hz
          rcases hz with rfl | rfl
          · exact ⟨by decide, _, (List.mem_append_right _ (List.mem_of_getElem? (i := 2) rfl)), by decide +kernel⟩
          · exact ⟨by decide, _, (List.mem_append_right _ (List.mem_of_getElem? (i := 0) rfl)), by decide +kernel⟩) (by decide) (by decide) (List.mem_append_right _ (List.mem_of_getElem? (i := 1) rfl)) (by decide +kernel) (fun q9 => ?_)
      show kv dd g _ _ 23 [(0, .ref (ad 0)), (1, .int v), (2, .int x), (3, .int q), (4, .ref (wx.2.1 0))] [.ref q9] (jk u1 wr wx) (jd u1 wr wx) (jE u1 wr wx)
      refine kv_astore (lv2 := [(5, .ref q9), (0, .ref (ad 0)), (1, .int v), (2, .int x), (3, .int q), (4, .ref (wx.2.1 0))]) X dL_addPart_23 (by rw [hnL]; decide) rfl ?_
      refine kv_iconst (v := 3) X dL_addPart_25 (by decide) ?_
      exact kv_ireturn X hr (Nat.le_of_ble_eq_true rfl) (Nat.le_of_ble_eq_true rfl) ⟨(u1, wx), (Or.inr (Or.inr (Or.inr (Or.inl (⟨rfl, ⟨hA, hX, rfl⟩⟩))))), rfl⟩ dL_addPart_26
    ·
      refine kvx_catch (nm := "java/lang/UnsupportedOperationException") X htb [(⟨0, 12, 15, 21⟩ : ExceptionTableEntry), (⟨0, 12, 19, 13⟩ : ExceptionTableEntry), (⟨0, 12, 23, 15⟩ : ExceptionTableEntry)] (⟨0, 12, 27, 31⟩ : ExceptionTableEntry) [] rfl (fun z hz => by
          simp only [List.mem_cons, List.not_mem_nil, or_false] at hz
          rcases hz with rfl | rfl | rfl
          · exact ⟨by decide, _, (List.mem_append_right _ (List.mem_of_getElem? (i := 2) rfl)), by decide +kernel⟩
          · exact ⟨by decide, _, (List.mem_append_right _ (List.mem_of_getElem? (i := 0) rfl)), by decide +kernel⟩
          · exact ⟨by decide, _, (List.mem_append_right _ (List.mem_of_getElem? (i := 1) rfl)), by decide +kernel⟩) (by decide) (by decide) (List.mem_append_right _ (List.mem_of_getElem? (i := 3) rfl)) (by decide +kernel) (fun q9 => ?_)
      show kv dd g _ _ 27 [(0, .ref (ad 0)), (1, .int v), (2, .int x), (3, .int q), (4, .ref (wx.2.1 0))] [.ref q9] (jk u1 wr wx) (jd u1 wr wx) (jE u1 wr wx)
      refine kv_astore (lv2 := [(5, .ref q9), (0, .ref (ad 0)), (1, .int v), (2, .int x), (3, .int q), (4, .ref (wx.2.1 0))]) X dL_addPart_27 (by rw [hnL]; decide) rfl ?_
      refine kv_iconst (v := 4) X dL_addPart_29 (by decide) ?_
      exact kv_ireturn X hr (Nat.le_of_ble_eq_true rfl) (Nat.le_of_ble_eq_true rfl) ⟨(u1, wx), (Or.inr (Or.inr (Or.inr (Or.inr (⟨rfl, ⟨hX, rfl⟩⟩))))), rfl⟩ dL_addPart_30
  ·
    show kv dd g _ _ 10 [(0, .ref (ad 0)), (1, .int v), (2, .int x), (3, .int q), (4, .ref (wx.2.1 0))] [.int r9, .int 0, .ref (wx.2.1 0)] (jk z wr wx) (jd z wr wx) (jE z wr wx)
    refine kv_i2l X dL_addPart_10 rfl ?_
    refine kv_lastore X (κ := 2000) (n := 1) (j := 0) (f := f0) (x := r9.toInt64) (j_x0.1.mpr hx0.1) (j_x0.2.2.trans hx0.2) (by omega) (by omega) dL_addPart_11 ?_
    refine kv_E (E2 := (jE z wr (xJ dd wx f0 r9.toInt64))) (fun j _ => xJ_E j) ?_
    refine kv_goto (tgt := 31) X dL_addPart_12 (by decide) ?_
    refine kv_iconst (v := 0) X dL_addPart_31 (by decide) ?_
    exact kv_ireturn X hr (Nat.le_of_ble_eq_true rfl) (Nat.le_of_ble_eq_true rfl) ⟨(z, (xJ dd wx f0 r9.toInt64)), (Or.inl (⟨rfl, r9, hp, rfl⟩)), rfl⟩ dL_addPart_32

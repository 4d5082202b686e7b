/-! the class: what it answers -/
/-- what the estimate holds behind the whole work: what is meant, depths, needs, units, amounts, mark-ups -/
def cDn (M : mS) (nR nt nL nW nM : Nat) (cn nm mn me li mi mr dep : Nat → Nat) (z : eS) : Prop := (∀ j, j < nt → z.1 17 j = nI (mi j)) ∧ (∀ j, j < nR → z.1 18 j = nI (mr j)) ∧ (∀ j, j < nt → z.1 19 j = nI (dep j)) ∧ cWk M nR nt nL nW nM cn nm mn me li mi mr z z
theorem cDn_of {M : mS} {nR nt nL nW nM : Nat} {cn nm mn me li mi mr dep : Nat → Nat} {e z : eS} (h : cWk M nR nt nL nW nM cn nm mn me li mi mr e z) (h1 : ∀ j, j < nt → e.1 17 j = nI (mi j)) (h2 : ∀ j, j < nR → e.1 18 j = nI (mr j)) (h3 : ∀ j, j < nt → e.1 19 j = nI (dep j)) : cDn M nR nt nL nW nM cn nm mn me li mi mr dep z :=
  ⟨fun j hj => by rw [h.1]; exact h1 j hj, fun j hj => by rw [h.1]; exact h2 j hj, fun j hj => by rw [h.1]; exact h3 j hj, rfl, h.2⟩

theorem f_X10_workOut_21 : kF wsX10_workOut RX10 21 13 1 := ⟨_, RX10, TX10, 3, fun _ h => (List.mem_cons_of_mem _ (List.mem_append_left _ (List.mem_append_left _ (List.mem_append_left _ (List.mem_append_left _ (List.mem_append_left _ (List.mem_append_left _ (List.mem_append_left _ (List.mem_append_left _ (List.mem_append_left _ (List.mem_append_left _ (List.mem_append_left _ (List.mem_append_left _ (List.mem_append_right _ h)))))))))))))), (List.mem_cons_of_mem _ (List.mem_append_left _ (List.mem_append_left _ (List.mem_append_left _ (List.mem_append_left _ (List.mem_append_left _ (List.mem_append_left _ (List.mem_append_left _ (List.mem_append_left _ (List.mem_append_left _ (List.mem_append_left _ (List.mem_append_left _ (List.mem_append_left _ (List.mem_append_left _ (List.mem_append_left _ (List.mem_of_getElem? (i := 0) rfl)))))))))))))))), rfl, by decide, rfl⟩
set_option maxRecDepth 100000 in
set_option maxHeartbeats 4000000 in
theorem c_X10_workOut (l : Launch) (dd : kDD) (ks : List Nat) (ad : Nat → Nat) (E : Nat → va_E) (e : eS) (M : mS) (nR nC nt nL nW nV nM : Nat) (cn nm mn me li rl : Nat → Nat) (on : Int32) (hO : cO dd ks ad E on) (hR : cR dd ks ad E M nR) (hC : cC dd ks ad E M nC mn me) (hT : cT dd ks ad E M nt cn nm) (hL : cL dd ks ad E M nL nW li) (hW : cW dd ks ad E M nW rl) (hV : cV dd ks ad E M nV) (hM : cM dd ks ad E M nM) (hB : cB M nR nC nt nL nW nV cn nm mn me li rl) (mI mR : Int32 → Nat → Nat) (hmI : ∀ o j, j < nt → mnt o (M.2.1 22) j nV 0 = nI (mI o j) ∧ mI o j < nt) (hmR : ∀ o j, j < nR → mnt o (M.2.1 23) j nV 0 = nI (mR o j) ∧ mR o j < nR) (hpk : ∀ r, r < nR → 1 ≤ M.2.1 5 r) (o : Int32) (hfo : kFx (M.2.1 13) cn (fun k => mI o (nm k)) (nJ (M.2.1 13) cn (fun k => mI o (nm k)) 2) nt) : kCv l yX10_workOut wsX10_workOut ({ frames := 8, cells := 0, slots := 0, locals := 181 } : Room) 0 0 dd [.ref (ad 0), .int o] (ks, ad, (cE dd E e)) (kQv (S := eS) (fun z => cDn M nR nt nL nW nM cn nm mn me li (mI o) (mR o) (nJ (M.2.1 13) cn (fun k => mI o (nm k)) 2) z) (fun _ => ks) (fun _ => ad) (fun z => cE dd E z)) := by
  refine kMetv (ws' := _) (cc := cX10_workOut) (maxL := 2) (by decide) rfl (Nat.le_of_ble_eq_true rfl) (fun g X hr hnL hRR hl0 hkn => ?_)
  show kv dd g 0 0 0 [(0, .ref (ad 0)), (1, .int o)] [] ks ad (cE dd E e)
  have hT12 := hT.1
  have hR12 := hR.1
  have hL10 := hL.1
  have hV4 := hV.1
  have hM4 := hM.1
  have hC4 := hC.1
  have hW40 := hW.1
  obtain ⟨f20, f21, hf20, hf21, hff⟩ := hO.2.2.2.2
  refine kv_aload_n X 0 dX10_workOut_0 rfl rfl ?_
  refine kv_getfield X f_X10_workOut_21 (κ := 0) (fs := [.ref (ad 1), .ref (ad 2), .int on]) (v := .ref (ad 2)) hO.1.1 ((cE_ne (by omega)).trans hO.1.2) rfl dX10_workOut_1 ?_
  refine kv_iload_n X 1 dX10_workOut_4 rfl rfl ?_
  refine kv_calliV (ci := 5) (κ := 2) (r1 := (TX2, 9)) (As := [.int o]) [] X (c_X2_choose l dd ks ad E e M nR nC nt nL nW nV nM cn nm mn me li rl on hO hR hC hT hL hW hV hM hB o (mI o) (mR o) (hmI o) (hmR o)) hl0 (kCV_of X 1 gX10_workOut_X2_choose rfl rfl rfl (by decide +kernel) hRR ⟨(Nat.le_of_ble_eq_true rfl), (Nat.le_of_ble_eq_true rfl)⟩) hO.2.2.1.1 ((cE_ne (by omega)).trans hO.2.2.1.2) rfl rfl rfl (Nat.le_of_ble_eq_true rfl) hRR ⟨(Nat.le_of_ble_eq_true rfl), (Nat.le_of_ble_eq_true rfl)⟩ dX10_workOut_5 (fun r z hp => ?_)
  obtain ⟨rfl, hz5⟩ := hp
  refine kv_pop X dX10_workOut_8 rfl ?_
  refine kv_aload_n X 0 dX10_workOut_9 rfl rfl ?_
  refine kv_getfield X f_X10_workOut_21 (κ := 0) (fs := [.ref (ad 1), .ref (ad 2), .int on]) (v := .ref (ad 2)) hO.1.1 ((cE_ne (by omega)).trans hO.1.2) rfl dX10_workOut_10 ?_
  refine kv_callvV (ci := 5) (κ := 2) (r1 := (TX2, 9)) (As := []) [] X (c_X2_workOutCosts l dd ks ad E ((va_up (va_up (va_up e.1 17 (mset (e.1 17) (fun j => nI (mI o j)) nt)) 18 (mset (e.1 18) (fun j => nI (mR o j)) nR)) 19 (cpt (M.2.1 13) cn (fun k => mI o (nm k)) nt (mset (e.1 19) (fun _ => 1) 12) 3)), e.2) M nR nC nt nL nW nV nM cn nm mn me li rl on hO hR hC hT hL hW hV hM hB (mI o) (fun j hj => ⟨mset_in (f := e.1 17) (g := fun j => nI (mI o j)) hj, (hmI o j hj).2⟩) (mR o) (fun j hj => ⟨mset_in (f := e.1 18) (g := fun j => nI (mR o j)) hj, (hmR o j hj).2⟩) (nJ (M.2.1 13) cn (fun k => mI o (nm k)) 2) (cpt_dep hT.1 hfo (fun j hj => mset_in (by omega))) (kFx_dp hfo) hpk) hl0 (kCV_of X 0 gX10_workOut_X2_workOutCosts rfl rfl rfl (by decide +kernel) hRR ⟨(Nat.le_of_ble_eq_true rfl), (Nat.le_of_ble_eq_true rfl)⟩) hO.2.2.1.1 ((cE_ne (by omega)).trans hO.2.2.1.2) rfl rfl rfl (Nat.le_of_ble_eq_true rfl) hRR ⟨(Nat.le_of_ble_eq_true rfl), (Nat.le_of_ble_eq_true rfl)⟩ dX10_workOut_13 (fun zw hp => ?_)
  have hw13 := cDn_of hp (fun j hj => mset_in (f := e.1 17) (g := fun j => nI (mI o j)) hj) (fun j hj => mset_in (f := e.1 18) (g := fun j => nI (mR o j)) hj) (cpt_dep hT.1 hfo (fun j hj => mset_in (by omega)))
  exact kv_return X hr (Nat.le_of_ble_eq_true rfl) (Nat.le_of_ble_eq_true rfl) ⟨zw, hw13, rfl⟩ dX10_workOut_16
theorem f_X10_checkFits_21 : kF wsX10_checkFits RX10 21 13 1 := ⟨_, RX10, TX10, 3, fun _ h => (List.mem_cons_of_mem _ (List.mem_append_left _ (List.mem_append_left _ (List.mem_append_left _ (List.mem_append_left _ (List.mem_append_left _ (List.mem_append_left _ (List.mem_append_left _ (List.mem_append_left _ (List.mem_append_right _ h)))))))))), (List.mem_cons_of_mem _ (List.mem_append_left _ (List.mem_append_left _ (List.mem_append_left _ (List.mem_append_left _ (List.mem_append_left _ (List.mem_append_left _ (List.mem_append_left _ (List.mem_append_left _ (List.mem_append_left _ (List.mem_append_left _ (List.mem_of_getElem? (i := 2) rfl)))))))))))), rfl, by decide, rfl⟩
set_option maxRecDepth 100000 in
set_option maxHeartbeats 4000000 in
theorem c_X10_checkFits (l : Launch) (dd : kDD) (ks : List Nat) (ad : Nat → Nat) (E : Nat → va_E) (e : eS) (M : mS) (nR nC nt nL nW nV nM : Nat) (cn nm mn me li rl : Nat → Nat) (on : Int32) (hO : cO dd ks ad E on) (hR : cR dd ks ad E M nR) (hC : cC dd ks ad E M nC mn me) (hT : cT dd ks ad E M nt cn nm) (hL : cL dd ks ad E M nL nW li) (hW : cW dd ks ad E M nW rl) (hV : cV dd ks ad E M nV) (hM : cM dd ks ad E M nM) (hB : cB M nR nC nt nL nW nV cn nm mn me li rl) (mI mR : Int32 → Nat → Nat) (hmI : ∀ o j, j < nt → mnt o (M.2.1 22) j nV 0 = nI (mI o j) ∧ mI o j < nt) (hmR : ∀ o j, j < nR → mnt o (M.2.1 23) j nV 0 = nI (mR o j) ∧ mR o j < nR) (hpk : ∀ r, r < nR → 1 ≤ M.2.1 5 r) (o : Int32) : kCvX l yX10_checkFits wsX10_checkFits ({ frames := 6, cells := 1, slots := 6, locals := 133 } : Room) 1 6 dd [.ref (ad 0), .int o] (ks, ad, (cE dd E e)) (kQv (S := eS) (fun z => kFx (M.2.1 13) cn (fun k => mI o (nm k)) (nJ (M.2.1 13) cn (fun k => mI o (nm k)) 2) nt) (fun _ => ks) (fun _ => ad) (fun z => cE dd E z)) (fun X9 u9 => ∃ e9, u9 = (ks, ad, cE dd E e9) ∧ ((X9 = "java/lang/UnsupportedOperationException" ∧ ¬ kFx (M.2.1 13) cn (fun k => mI o (nm k)) (nJ (M.2.1 13) cn (fun k => mI o (nm k)) 2) nt))) := by
  refine kMetvX (ws' := _) (cc := cX10_checkFits) (maxL := 2) (by decide) rfl (Nat.le_of_ble_eq_true rfl) (fun g X hr hRX hnL hRR hl0 hkn => ?_)
  show kv dd g 0 0 0 [(0, .ref (ad 0)), (1, .int o)] [] ks ad (cE dd E e)
  have hT12 := hT.1
  have hR12 := hR.1
  have hL10 := hL.1
  have hV4 := hV.1
  have hM4 := hM.1
  have hC4 := hC.1
  have hW40 := hW.1
  obtain ⟨f20, f21, hf20, hf21, hff⟩ := hO.2.2.2.2
  refine kv_aload_n X 0 dX10_checkFits_0 rfl rfl ?_
  refine kv_getfield X f_X10_checkFits_21 (κ := 0) (fs := [.ref (ad 1), .ref (ad 2), .int on]) (v := .ref (ad 2)) hO.1.1 ((cE_ne (by omega)).trans hO.1.2) rfl dX10_checkFits_1 ?_
  refine kv_iload_n X 1 dX10_checkFits_4 rfl rfl ?_
  refine kv_calliV (ci := 5) (κ := 2) (r1 := (TX2, 9)) (As := [.int o]) [] X (c_X2_choose l dd ks ad E e M nR nC nt nL nW nV nM cn nm mn me li rl on hO hR hC hT hL hW hV hM hB o (mI o) (mR o) (hmI o) (hmR o)) hl0 (kCV_of X 1 gX10_checkFits_X2_choose rfl rfl rfl (by decide +kernel) hRR ⟨(Nat.le_of_ble_eq_true rfl), (Nat.le_of_ble_eq_true rfl)⟩) hO.2.2.1.1 ((cE_ne (by omega)).trans hO.2.2.1.2) rfl rfl rfl (Nat.le_of_ble_eq_true rfl) hRR ⟨(Nat.le_of_ble_eq_true rfl), (Nat.le_of_ble_eq_true rfl)⟩ dX10_checkFits_5 (fun r z hp => ?_)
  obtain ⟨rfl, hz5⟩ := hp
  rcases hz5 with ⟨rfl, hz5⟩ | ⟨rfl, hz5⟩
  ·
    refine kv_if_ne (tgt := 21) X dX10_checkFits_8 (by decide) (fun hc8 => ?_) (fun hc => absurd hc (by decide))
    exact kv_return X hr (Nat.le_of_ble_eq_true rfl) (Nat.le_of_ble_eq_true rfl) ⟨_, cpt_ok hT.1 (fun i hi k hk hs => by rcases hB.1 i hi k hk with q | q | q; exact (hmI o _ q.2).2; exact absurd (hs.symm.trans q.1) (by decide); exact absurd (hs.symm.trans q.1) (by decide)) (fun j hj => mset_in (by omega)) hz5, rfl⟩ dX10_checkFits_21
  ·
    refine kv_if_ne (tgt := 21) X dX10_checkFits_8 (by decide) (fun hc => absurd hc (by decide)) (fun hc8 => ?_)
    exact kv_throw (cls := "java/lang/UnsupportedOperationException") (text := "an item would need itself or be too deep") (names := ["java/lang/RuntimeException", "java/lang/Exception"]) (ik := 82) (is := 127) (ic := 86) X hRX tf_UOE (by decide) (List.mem_cons_of_mem _ (List.mem_append_left _ (List.mem_append_left _ (List.mem_append_left _ (List.mem_append_left _ (List.mem_append_left _ (List.mem_append_left _ (List.mem_append_left _ (List.mem_append_left _ (List.mem_append_left _ (List.mem_append_left _ (List.mem_of_getElem? (i := 0) rfl)))))))))))) (List.mem_cons_of_mem _ (List.mem_append_left _ (List.mem_append_left _ (List.mem_append_left _ (List.mem_append_left _ (List.mem_append_left _ (List.mem_append_left _ (List.mem_append_left _ (List.mem_append_left _ (List.mem_append_left _ (List.mem_append_left _ (List.mem_of_getElem? (i := 1) rfl)))))))))))) (by decide +kernel) (fun _ h => (List.mem_cons_of_mem _ (List.mem_append_left _ (List.mem_append_right _ h)))) tb_UOE tg_UOE dX10_checkFits_11 dX10_checkFits_14 dX10_checkFits_15 dX10_checkFits_17 dX10_checkFits_20 hRR (Nat.le_of_ble_eq_true rfl) ⟨(Nat.le_of_ble_eq_true rfl), (Nat.le_of_ble_eq_true rfl), (Nat.le_of_ble_eq_true rfl), (Nat.le_of_ble_eq_true rfl)⟩ (Nat.le_of_ble_eq_true rfl) (Nat.le_of_ble_eq_true rfl) ⟨((va_up (va_up (va_up e.1 17 (mset (e.1 17) (fun j => nI (mI o j)) nt)) 18 (mset (e.1 18) (fun j => nI (mR o j)) nR)) 19 (cpt (M.2.1 13) cn (fun k => mI o (nm k)) nt (mset (e.1 19) (fun _ => 1) 12) 3)), e.2), rfl, ⟨rfl, fun q => hz5 (kFx_le hT.1 q (fun j hj => mset_in (by omega)))⟩⟩
theorem f_X10_unitCost_25 : kF wsX10_unitCost RX10 25 13 2 := ⟨_, RX10, TX10, 3, fun _ h => (List.mem_cons_of_mem _ (List.mem_append_left _ (List.mem_append_left _ (List.mem_append_left _ (List.mem_append_left _ (List.mem_append_left _ (List.mem_append_left _ (List.mem_append_left _ (List.mem_append_left _ (List.mem_append_left _ (List.mem_append_left _ (List.mem_append_left _ (List.mem_append_left _ (List.mem_append_left _ (List.mem_append_right _ h))))))))))))))), (List.mem_cons_of_mem _ (List.mem_append_left _ (List.mem_append_left _ (List.mem_append_left _ (List.mem_append_left _ (List.mem_append_left _ (List.mem_append_left _ (List.mem_append_left _ (List.mem_append_left _ (List.mem_append_left _ (List.mem_append_left _ (List.mem_append_left _ (List.mem_append_left _ (List.mem_append_left _ (List.mem_append_left _ (List.mem_append_left _ (List.mem_of_getElem? (i := 0) rfl))))))))))))))))), rfl, by decide, rfl⟩
theorem f_X10_unitCost_21 : kF wsX10_unitCost RX10 21 13 1 := ⟨_, RX10, TX10, 3, fun _ h => (List.mem_cons_of_mem _ (List.mem_append_left _ (List.mem_append_left _ (List.mem_append_left _ (List.mem_append_left _ (List.mem_append_left _ (List.mem_append_left _ (List.mem_append_left _ (List.mem_append_left _ (List.mem_append_left _ (List.mem_append_left _ (List.mem_append_left _ (List.mem_append_left _ (List.mem_append_left _ (List.mem_append_right _ h))))))))))))))), (List.mem_cons_of_mem _ (List.mem_append_left _ (List.mem_append_left _ (List.mem_append_left _ (List.mem_append_left _ (List.mem_append_left _ (List.mem_append_left _ (List.mem_append_left _ (List.mem_append_left _ (List.mem_append_left _ (List.mem_append_left _ (List.mem_append_left _ (List.mem_append_left _ (List.mem_append_left _ (List.mem_append_left _ (List.mem_append_left _ (List.mem_of_getElem? (i := 1) rfl))))))))))))))))), rfl, by decide, rfl⟩
set_option maxRecDepth 100000 in
set_option maxHeartbeats 4000000 in
theorem c_X10_unitCost (l : Launch) (dd : kDD) (ks : List Nat) (ad : Nat → Nat) (E : Nat → va_E) (e : eS) (M : mS) (nR nC nt nL nW nV nM : Nat) (cn nm mn me li rl : Nat → Nat) (on : Int32) (hO : cO dd ks ad E on) (hR : cR dd ks ad E M nR) (hC : cC dd ks ad E M nC mn me) (hT : cT dd ks ad E M nt cn nm) (hL : cL dd ks ad E M nL nW li) (hW : cW dd ks ad E M nW rl) (hV : cV dd ks ad E M nV) (hM : cM dd ks ad E M nM) (hB : cB M nR nC nt nL nW nV cn nm mn me li rl) (mI mR : Int32 → Nat → Nat) (hmI : ∀ o j, j < nt → mnt o (M.2.1 22) j nV 0 = nI (mI o j) ∧ mI o j < nt) (hmR : ∀ o j, j < nR → mnt o (M.2.1 23) j nV 0 = nI (mR o j) ∧ mR o j < nR) (hpk : ∀ r, r < nR → 1 ≤ M.2.1 5 r) (v : Int32) (hfx : kFx (M.2.1 13) cn (fun k => mI on (nm k)) (nJ (M.2.1 13) cn (fun k => mI on (nm k)) 2) nt) : kClX l yX10_unitCost wsX10_unitCost ({ frames := 9, cells := 1, slots := 6, locals := 202 } : Room) 1 6 dd [.ref (ad 0), .int v] (ks, ad, (cE dd E e)) (kQl (S := eS) (fun r z => ∃ j, (j < nt ∧ v = nI j) ∧ cDn M nR nt nL nW nM cn nm mn me li (mI on) (mR on) (nJ (M.2.1 13) cn (fun k => mI on (nm k)) 2) z ∧ r = cou (z.2 (37 + j)) (M.2.1 3) nR) (fun _ => ks) (fun _ => ad) (fun z => cE dd E z)) (fun X9 u9 => ∃ e9, u9 = (ks, ad, cE dd E e9) ∧ ((X9 = "java/lang/IndexOutOfBoundsException" ∧ ¬ (∃ j, j < nt ∧ v = nI j)))) := by
  refine kMetlX (ws' := _) (cc := cX10_unitCost) (maxL := 2) (rt := .long) (by decide) rfl (Nat.le_of_ble_eq_true rfl) (fun g X hr hRX hnL hRR hl0 hkn => ?_)
  show kv dd g 0 0 0 [(0, .ref (ad 0)), (1, .int v)] [] ks ad (cE dd E e)
  have hT12 := hT.1
  have hR12 := hR.1
  have hL10 := hL.1
  have hV4 := hV.1
  have hM4 := hM.1
  have hC4 := hC.1
  have hW40 := hW.1
  obtain ⟨f20, f21, hf20, hf21, hff⟩ := hO.2.2.2.2
  refine kv_aload_n X 0 dX10_unitCost_0 rfl rfl ?_
  refine kv_iload_n X 1 dX10_unitCost_1 rfl rfl ?_
  refine kv_callvXV (ci := 13) (κ := 0) (r1 := (TX10, 3)) (As := [.int v]) [] X (c_X10_checkItem l dd ks ad E e M nR nC nt nL nW nV nM cn nm mn me li rl on hO hR hC hT hL hW hV hM hB v) hl0 (kCV_of X 1 gX10_unitCost_X10_checkItem rfl rfl rfl (by decide +kernel) hRR ⟨(Nat.le_of_ble_eq_true rfl), (Nat.le_of_ble_eq_true rfl)⟩) hO.1.1 ((cE_ne (by omega)).trans hO.1.2) rfl hRX ⟨(Nat.le_of_ble_eq_true rfl), (Nat.le_of_ble_eq_true rfl)⟩ (fun _ _ h => ⟨e, h.2.1, ⟨h.1, h.2.2⟩⟩) rfl rfl (Nat.le_of_ble_eq_true rfl) hRR ⟨(Nat.le_of_ble_eq_true rfl), (Nat.le_of_ble_eq_true rfl)⟩ dX10_unitCost_2 (fun z hp => ?_)
  obtain ⟨rfl, j2, h2, rfl⟩ := hp
  refine kv_aload_n X 0 dX10_unitCost_5 rfl rfl ?_
  refine kv_aload_n X 0 dX10_unitCost_6 rfl rfl ?_
  refine kv_getfield X f_X10_unitCost_25 (κ := 0) (fs := [.ref (ad 1), .ref (ad 2), .int on]) (v := .int on) hO.1.1 ((cE_ne (by omega)).trans hO.1.2) rfl dX10_unitCost_7 ?_
  refine kv_callvV (ci := 13) (κ := 0) (r1 := (TX10, 3)) (As := [.int on]) [] X (c_X10_workOut l dd ks ad E e M nR nC nt nL nW nV nM cn nm mn me li rl on hO hR hC hT hL hW hV hM hB mI mR hmI hmR hpk on hfx) hl0 (kCV_of X 1 gX10_unitCost_X10_workOut rfl rfl rfl (by decide +kernel) hRR ⟨(Nat.le_of_ble_eq_true rfl), (Nat.le_of_ble_eq_true rfl)⟩) hO.1.1 ((cE_ne (by omega)).trans hO.1.2) rfl rfl rfl (Nat.le_of_ble_eq_true rfl) hRR ⟨(Nat.le_of_ble_eq_true rfl), (Nat.le_of_ble_eq_true rfl)⟩ dX10_unitCost_10 (fun zw hp => ?_)
  have hdn := hp
  refine kv_aload_n X 0 dX10_unitCost_13 rfl rfl ?_
  refine kv_getfield X f_X10_unitCost_21 (κ := 0) (fs := [.ref (ad 1), .ref (ad 2), .int on]) (v := .ref (ad 2)) hO.1.1 ((cE_ne (by omega)).trans hO.1.2) rfl dX10_unitCost_14 ?_
  refine kv_aload_n X 0 dX10_unitCost_17 rfl rfl ?_
  refine kv_getfield X f_X10_unitCost_21 (κ := 0) (fs := [.ref (ad 1), .ref (ad 2), .int on]) (v := .ref (ad 2)) hO.1.1 ((cE_ne (by omega)).trans hO.1.2) rfl dX10_unitCost_18 ?_
  refine kv_getfieldN X (kk := 5) (T := TX2) (N := 9) (Cn := RX2) (ref := RX2) (host := "Takeoff") (κ := 2) (fs := [.ref (ad 1), .ref (ad 17), .ref (ad 18), .ref (ad 19), .ref (ad 20), .ref (ad 21), .ref (ad 22), .ref (ad 23), .ref (ad 24)]) (v := .ref (ad 21)) (by decide) (fun _ h => (List.mem_cons_of_mem _ (List.mem_append_left _ (List.mem_append_left _ (List.mem_append_left _ (List.mem_append_left _ (List.mem_append_left _ (List.mem_append_left _ (List.mem_append_left _ (List.mem_append_left _ (List.mem_append_left _ (List.mem_append_left _ (List.mem_append_left _ (List.mem_append_left _ (List.mem_append_right _ h))))))))))))))) rfl (by decide) rfl hO.2.2.1.1 ((cE_ne (by omega)).trans hO.2.2.1.2) rfl dX10_unitCost_21 ?_
  refine kv_iload_n X 1 dX10_unitCost_24 rfl rfl ?_
  refine kv_aaloadJ X (κ := 21) (n := 12) (j := j2) (f := f21) (hO.2.2.2.1 _ (by omega) (by omega)) ((cE_ne (by omega)).trans hf21) (by omega) (by omega) dX10_unitCost_25 ?_
  refine kv_topg (.ref (ad (37 + j2))) (by rw [(hff j2 (by omega)).2]; rfl) ?_
  refine kv_calllV (ci := 5) (κ := 2) (r1 := (TX2, 9)) (As := [.ref (ad (37 + j2))]) [] X (c_X2_costOfUnits l dd ks ad E zw M nR nC nt nL nW nV nM cn nm mn me li rl on hO hR hC hT hL hW hV hM hB (37 + j2) (by omega)) hl0 (kCV_of X 1 gX10_unitCost_X2_costOfUnits rfl rfl rfl (by decide +kernel) hRR ⟨(Nat.le_of_ble_eq_true rfl), (Nat.le_of_ble_eq_true rfl)⟩) hO.2.2.1.1 ((cE_ne (by omega)).trans hO.2.2.1.2) rfl rfl rfl (Nat.le_of_ble_eq_true rfl) hRR ⟨(Nat.le_of_ble_eq_true rfl), (Nat.le_of_ble_eq_true rfl)⟩ dX10_unitCost_26 (fun r z hp => ?_)
  obtain ⟨rfl, rfl⟩ := hp
  exact kv_lreturn X hr (Nat.le_of_ble_eq_true rfl) (Nat.le_of_ble_eq_true rfl) ⟨zw, ⟨j2, ⟨h2, rfl⟩, hdn, rfl⟩, rfl⟩ dX10_unitCost_29
theorem f_X10_needed_25 : kF wsX10_needed RX10 25 13 2 := ⟨_, RX10, TX10, 3, fun _ h => (List.mem_cons_of_mem _ (List.mem_append_left _ (List.mem_append_left _ (List.mem_append_left _ (List.mem_append_left _ (List.mem_append_left _ (List.mem_append_left _ (List.mem_append_left _ (List.mem_append_left _ (List.mem_append_left _ (List.mem_append_left _ (List.mem_append_left _ (List.mem_append_left _ (List.mem_append_left _ (List.mem_append_right _ h))))))))))))))), (List.mem_cons_of_mem _ (List.mem_append_left _ (List.mem_append_left _ (List.mem_append_left _ (List.mem_append_left _ (List.mem_append_left _ (List.mem_append_left _ (List.mem_append_left _ (List.mem_append_left _ (List.mem_append_left _ (List.mem_append_left _ (List.mem_append_left _ (List.mem_append_left _ (List.mem_append_left _ (List.mem_append_left _ (List.mem_append_left _ (List.mem_of_getElem? (i := 0) rfl))))))))))))))))), rfl, by decide, rfl⟩
theorem f_X10_needed_21 : kF wsX10_needed RX10 21 13 1 := ⟨_, RX10, TX10, 3, fun _ h => (List.mem_cons_of_mem _ (List.mem_append_left _ (List.mem_append_left _ (List.mem_append_left _ (List.mem_append_left _ (List.mem_append_left _ (List.mem_append_left _ (List.mem_append_left _ (List.mem_append_left _ (List.mem_append_left _ (List.mem_append_left _ (List.mem_append_left _ (List.mem_append_left _ (List.mem_append_left _ (List.mem_append_right _ h))))))))))))))), (List.mem_cons_of_mem _ (List.mem_append_left _ (List.mem_append_left _ (List.mem_append_left _ (List.mem_append_left _ (List.mem_append_left _ (List.mem_append_left _ (List.mem_append_left _ (List.mem_append_left _ (List.mem_append_left _ (List.mem_append_left _ (List.mem_append_left _ (List.mem_append_left _ (List.mem_append_left _ (List.mem_append_left _ (List.mem_append_left _ (List.mem_of_getElem? (i := 1) rfl))))))))))))))))), rfl, by decide, rfl⟩
set_option maxRecDepth 100000 in
set_option maxHeartbeats 4000000 in
theorem c_X10_needed (l : Launch) (dd : kDD) (ks : List Nat) (ad : Nat → Nat) (E : Nat → va_E) (e : eS) (M : mS) (nR nC nt nL nW nV nM : Nat) (cn nm mn me li rl : Nat → Nat) (on : Int32) (hO : cO dd ks ad E on) (hR : cR dd ks ad E M nR) (hC : cC dd ks ad E M nC mn me) (hT : cT dd ks ad E M nt cn nm) (hL : cL dd ks ad E M nL nW li) (hW : cW dd ks ad E M nW rl) (hV : cV dd ks ad E M nV) (hM : cM dd ks ad E M nM) (hB : cB M nR nC nt nL nW nV cn nm mn me li rl) (mI mR : Int32 → Nat → Nat) (hmI : ∀ o j, j < nt → mnt o (M.2.1 22) j nV 0 = nI (mI o j) ∧ mI o j < nt) (hmR : ∀ o j, j < nR → mnt o (M.2.1 23) j nV 0 = nI (mR o j) ∧ mR o j < nR) (hpk : ∀ r, r < nR → 1 ≤ M.2.1 5 r) (v : Int32) (x : Int32) (hfx : kFx (M.2.1 13) cn (fun k => mI on (nm k)) (nJ (M.2.1 13) cn (fun k => mI on (nm k)) 2) nt) : kClX l yX10_needed wsX10_needed ({ frames := 9, cells := 2, slots := 12, locals := 202 } : Room) 2 12 dd [.ref (ad 0), .int v, .int x] (ks, ad, (cE dd E e)) (kQl (S := eS) (fun r z => ∃ j, ∃ k, (j < nt ∧ k < nR ∧ v = nI j ∧ x = nI k) ∧ cDn M nR nt nL nW nM cn nm mn me li (mI on) (mR on) (nJ (M.2.1 13) cn (fun k => mI on (nm k)) 2) z ∧ r = z.2 (37 + j) k) (fun _ => ks) (fun _ => ad) (fun z => cE dd E z)) (fun X9 u9 => ∃ e9, u9 = (ks, ad, cE dd E e9) ∧ ((X9 = "java/lang/IndexOutOfBoundsException" ∧ ¬ ((∃ j, j < nt ∧ v = nI j) ∧ (∃ j, j < nR ∧ x = nI j))))) := by
  refine kMetlX (ws' := _) (cc := cX10_needed) (maxL := 3) (rt := .long) (by decide) rfl (Nat.le_of_ble_eq_true rfl) (fun g X hr hRX hnL hRR hl0 hkn => ?_)
  show kv dd g 0 0 0 [(0, .ref (ad 0)), (1, .int v), (2, .int x)] [] ks ad (cE dd E e)
  have hT12 := hT.1
  have hR12 := hR.1
  have hL10 := hL.1
  have hV4 := hV.1
  have hM4 := hM.1
  have hC4 := hC.1
  have hW40 := hW.1
  obtain ⟨f20, f21, hf20, hf21, hff⟩ := hO.2.2.2.2
  refine kv_aload_n X 0 dX10_needed_0 rfl rfl ?_
  refine kv_iload_n X 1 dX10_needed_1 rfl rfl ?_
  refine kv_callvXV (ci := 13) (κ := 0) (r1 := (TX10, 3)) (As := [.int v]) [] X (c_X10_checkItem l dd ks ad E e M nR nC nt nL nW nV nM cn nm mn me li rl on hO hR hC hT hL hW hV hM hB v) hl0 (kCV_of X 1 gX10_needed_X10_checkItem rfl rfl rfl (by decide +kernel) hRR ⟨(Nat.le_of_ble_eq_true rfl), (Nat.le_of_ble_eq_true rfl)⟩) hO.1.1 ((cE_ne (by omega)).trans hO.1.2) rfl hRX ⟨(Nat.le_of_ble_eq_true rfl), (Nat.le_of_ble_eq_true rfl)⟩ (fun _ _ h => ⟨e, h.2.1, ⟨h.1, fun y => h.2.2 y.1⟩⟩) rfl rfl (Nat.le_of_ble_eq_true rfl) hRR ⟨(Nat.le_of_ble_eq_true rfl), (Nat.le_of_ble_eq_true rfl)⟩ dX10_needed_2 (fun z hp => ?_)
  obtain ⟨rfl, j2, h2, rfl⟩ := hp
  refine kv_aload_n X 0 dX10_needed_5 rfl rfl ?_
  refine kv_iload_n X 2 dX10_needed_6 rfl rfl ?_
  refine kv_callvXV (ci := 13) (κ := 0) (r1 := (TX10, 3)) (As := [.int x]) [] X (c_X10_checkResource l dd ks ad E e M nR nC nt nL nW nV nM cn nm mn me li rl on hO hR hC hT hL hW hV hM hB x) hl0 (kCV_of X 1 gX10_needed_X10_checkResource rfl rfl rfl (by decide +kernel) hRR ⟨(Nat.le_of_ble_eq_true rfl), (Nat.le_of_ble_eq_true rfl)⟩) hO.1.1 ((cE_ne (by omega)).trans hO.1.2) rfl hRX ⟨(Nat.le_of_ble_eq_true rfl), (Nat.le_of_ble_eq_true rfl)⟩ (fun _ _ h => ⟨e, h.2.1, ⟨h.1, fun y => h.2.2 y.2⟩⟩) rfl rfl (Nat.le_of_ble_eq_true rfl) hRR ⟨(Nat.le_of_ble_eq_true rfl), (Nat.le_of_ble_eq_true rfl)⟩ dX10_needed_7 (fun z hp => ?_)
  obtain ⟨rfl, j7, h7, rfl⟩ := hp
  refine kv_aload_n X 0 dX10_needed_10 rfl rfl ?_
  refine kv_aload_n X 0 dX10_needed_11 rfl rfl ?_
  refine kv_getfield X f_X10_needed_25 (κ := 0) (fs := [.ref (ad 1), .ref (ad 2), .int on]) (v := .int on) hO.1.1 ((cE_ne (by omega)).trans hO.1.2) rfl dX10_needed_12 ?_
  refine kv_callvV (ci := 13) (κ := 0) (r1 := (TX10, 3)) (As := [.int on]) [] X (c_X10_workOut l dd ks ad E e M nR nC nt nL nW nV nM cn nm mn me li rl on hO hR hC hT hL hW hV hM hB mI mR hmI hmR hpk on hfx) hl0 (kCV_of X 1 gX10_needed_X10_workOut rfl rfl rfl (by decide +kernel) hRR ⟨(Nat.le_of_ble_eq_true rfl), (Nat.le_of_ble_eq_true rfl)⟩) hO.1.1 ((cE_ne (by omega)).trans hO.1.2) rfl rfl rfl (Nat.le_of_ble_eq_true rfl) hRR ⟨(Nat.le_of_ble_eq_true rfl), (Nat.le_of_ble_eq_true rfl)⟩ dX10_needed_15 (fun zw hp => ?_)
  have hdn := hp
  refine kv_aload_n X 0 dX10_needed_18 rfl rfl ?_
  refine kv_getfield X f_X10_needed_21 (κ := 0) (fs := [.ref (ad 1), .ref (ad 2), .int on]) (v := .ref (ad 2)) hO.1.1 ((cE_ne (by omega)).trans hO.1.2) rfl dX10_needed_19 ?_
  refine kv_getfieldN X (kk := 5) (T := TX2) (N := 9) (Cn := RX2) (ref := RX2) (host := "Takeoff") (κ := 2) (fs := [.ref (ad 1), .ref (ad 17), .ref (ad 18), .ref (ad 19), .ref (ad 20), .ref (ad 21), .ref (ad 22), .ref (ad 23), .ref (ad 24)]) (v := .ref (ad 21)) (by decide) (fun _ h => (List.mem_cons_of_mem _ (List.mem_append_left _ (List.mem_append_left _ (List.mem_append_left _ (List.mem_append_left _ (List.mem_append_left _ (List.mem_append_left _ (List.mem_append_left _ (List.mem_append_left _ (List.mem_append_left _ (List.mem_append_left _ (List.mem_append_left _ (List.mem_append_left _ (List.mem_append_right _ h))))))))))))))) rfl (by decide) rfl hO.2.2.1.1 ((cE_ne (by omega)).trans hO.2.2.1.2) rfl dX10_needed_22 ?_
  refine kv_iload_n X 1 dX10_needed_25 rfl rfl ?_
  refine kv_aaloadJ X (κ := 21) (n := 12) (j := j2) (f := f21) (hO.2.2.2.1 _ (by omega) (by omega)) ((cE_ne (by omega)).trans hf21) (by omega) (by omega) dX10_needed_26 ?_
  refine kv_topg (.ref (ad (37 + j2))) (by rw [(hff j2 (by omega)).2]; rfl) ?_
  refine kv_iload_n X 2 dX10_needed_27 rfl rfl ?_
  refine ke_lald X (37 + j2) (j := j7) (hO.2.2.2.1 _ (by omega) (by omega)) (by omega) (by unfold eLen; split <;> omega) dX10_needed_28 ?_
  exact kv_lreturn X hr (Nat.le_of_ble_eq_true rfl) (Nat.le_of_ble_eq_true rfl) ⟨zw, ⟨j2, j7, ⟨h2, h7, rfl, rfl⟩, hdn, rfl⟩, rfl⟩ dX10_needed_29
theorem f_X10_markup_25 : kF wsX10_markup RX10 25 13 2 := ⟨_, RX10, TX10, 3, fun _ h => (List.mem_cons_of_mem _ (List.mem_append_left _ (List.mem_append_left _ (List.mem_append_left _ (List.mem_append_left _ (List.mem_append_left _ (List.mem_append_left _ (List.mem_append_left _ (List.mem_append_left _ (List.mem_append_left _ (List.mem_append_left _ (List.mem_append_left _ (List.mem_append_left _ (List.mem_append_left _ (List.mem_append_right _ h))))))))))))))), (List.mem_cons_of_mem _ (List.mem_append_left _ (List.mem_append_left _ (List.mem_append_left _ (List.mem_append_left _ (List.mem_append_left _ (List.mem_append_left _ (List.mem_append_left _ (List.mem_append_left _ (List.mem_append_left _ (List.mem_append_left _ (List.mem_append_left _ (List.mem_append_left _ (List.mem_append_left _ (List.mem_append_left _ (List.mem_append_left _ (List.mem_of_getElem? (i := 0) rfl))))))))))))))))), rfl, by decide, rfl⟩
theorem f_X10_markup_21 : kF wsX10_markup RX10 21 13 1 := ⟨_, RX10, TX10, 3, fun _ h => (List.mem_cons_of_mem _ (List.mem_append_left _ (List.mem_append_left _ (List.mem_append_left _ (List.mem_append_left _ (List.mem_append_left _ (List.mem_append_left _ (List.mem_append_left _ (List.mem_append_left _ (List.mem_append_left _ (List.mem_append_left _ (List.mem_append_left _ (List.mem_append_left _ (List.mem_append_left _ (List.mem_append_right _ h))))))))))))))), (List.mem_cons_of_mem _ (List.mem_append_left _ (List.mem_append_left _ (List.mem_append_left _ (List.mem_append_left _ (List.mem_append_left _ (List.mem_append_left _ (List.mem_append_left _ (List.mem_append_left _ (List.mem_append_left _ (List.mem_append_left _ (List.mem_append_left _ (List.mem_append_left _ (List.mem_append_left _ (List.mem_append_left _ (List.mem_append_left _ (List.mem_of_getElem? (i := 1) rfl))))))))))))))))), rfl, by decide, rfl⟩
set_option maxRecDepth 100000 in
set_option maxHeartbeats 4000000 in
theorem c_X10_markup (l : Launch) (dd : kDD) (ks : List Nat) (ad : Nat → Nat) (E : Nat → va_E) (e : eS) (M : mS) (nR nC nt nL nW nV nM : Nat) (cn nm mn me li rl : Nat → Nat) (on : Int32) (hO : cO dd ks ad E on) (hR : cR dd ks ad E M nR) (hC : cC dd ks ad E M nC mn me) (hT : cT dd ks ad E M nt cn nm) (hL : cL dd ks ad E M nL nW li) (hW : cW dd ks ad E M nW rl) (hV : cV dd ks ad E M nV) (hM : cM dd ks ad E M nM) (hB : cB M nR nC nt nL nW nV cn nm mn me li rl) (mI mR : Int32 → Nat → Nat) (hmI : ∀ o j, j < nt → mnt o (M.2.1 22) j nV 0 = nI (mI o j) ∧ mI o j < nt) (hmR : ∀ o j, j < nR → mnt o (M.2.1 23) j nV 0 = nI (mR o j) ∧ mR o j < nR) (hpk : ∀ r, r < nR → 1 ≤ M.2.1 5 r) (v : Int32) (hfx : kFx (M.2.1 13) cn (fun k => mI on (nm k)) (nJ (M.2.1 13) cn (fun k => mI on (nm k)) 2) nt) : kClX l yX10_markup wsX10_markup ({ frames := 9, cells := 1, slots := 6, locals := 202 } : Room) 1 6 dd [.ref (ad 0), .int v] (ks, ad, (cE dd E e)) (kQl (S := eS) (fun r z => ∃ j, (j < nM ∧ v = nI j) ∧ cDn M nR nt nL nW nM cn nm mn me li (mI on) (mR on) (nJ (M.2.1 13) cn (fun k => mI on (nm k)) 2) z ∧ r = z.2 24 j) (fun _ => ks) (fun _ => ad) (fun z => cE dd E z)) (fun X9 u9 => ∃ e9, u9 = (ks, ad, cE dd E e9) ∧ ((X9 = "java/lang/IndexOutOfBoundsException" ∧ ¬ (∃ j, j < nM ∧ v = nI j)))) := by
  refine kMetlX (ws' := _) (cc := cX10_markup) (maxL := 2) (rt := .long) (by decide) rfl (Nat.le_of_ble_eq_true rfl) (fun g X hr hRX hnL hRR hl0 hkn => ?_)
  show kv dd g 0 0 0 [(0, .ref (ad 0)), (1, .int v)] [] ks ad (cE dd E e)
  have hT12 := hT.1
  have hR12 := hR.1
  have hL10 := hL.1
  have hV4 := hV.1
  have hM4 := hM.1
  have hC4 := hC.1
  have hW40 := hW.1
  obtain ⟨f20, f21, hf20, hf21, hff⟩ := hO.2.2.2.2
  refine kv_aload_n X 0 dX10_markup_0 rfl rfl ?_
  refine kv_iload_n X 1 dX10_markup_1 rfl rfl ?_
  refine kv_callvXV (ci := 13) (κ := 0) (r1 := (TX10, 3)) (As := [.int v]) [] X (c_X10_checkMarkup l dd ks ad E e M nR nC nt nL nW nV nM cn nm mn me li rl on hO hR hC hT hL hW hV hM hB v) hl0 (kCV_of X 1 gX10_markup_X10_checkMarkup rfl rfl rfl (by decide +kernel) hRR ⟨(Nat.le_of_ble_eq_true rfl), (Nat.le_of_ble_eq_true rfl)⟩) hO.1.1 ((cE_ne (by omega)).trans hO.1.2) rfl hRX ⟨(Nat.le_of_ble_eq_true rfl), (Nat.le_of_ble_eq_true rfl)⟩ (fun _ _ h => ⟨e, h.2.1, ⟨h.1, h.2.2⟩⟩) rfl rfl (Nat.le_of_ble_eq_true rfl) hRR ⟨(Nat.le_of_ble_eq_true rfl), (Nat.le_of_ble_eq_true rfl)⟩ dX10_markup_2 (fun z hp => ?_)
  obtain ⟨rfl, j2, h2, rfl⟩ := hp
  refine kv_aload_n X 0 dX10_markup_5 rfl rfl ?_
  refine kv_aload_n X 0 dX10_markup_6 rfl rfl ?_
  refine kv_getfield X f_X10_markup_25 (κ := 0) (fs := [.ref (ad 1), .ref (ad 2), .int on]) (v := .int on) hO.1.1 ((cE_ne (by omega)).trans hO.1.2) rfl dX10_markup_7 ?_
  refine kv_callvV (ci := 13) (κ := 0) (r1 := (TX10, 3)) (As := [.int on]) [] X (c_X10_workOut l dd ks ad E e M nR nC nt nL nW nV nM cn nm mn me li rl on hO hR hC hT hL hW hV hM hB mI mR hmI hmR hpk on hfx) hl0 (kCV_of X 1 gX10_markup_X10_workOut rfl rfl rfl (by decide +kernel) hRR ⟨(Nat.le_of_ble_eq_true rfl), (Nat.le_of_ble_eq_true rfl)⟩) hO.1.1 ((cE_ne (by omega)).trans hO.1.2) rfl rfl rfl (Nat.le_of_ble_eq_true rfl) hRR ⟨(Nat.le_of_ble_eq_true rfl), (Nat.le_of_ble_eq_true rfl)⟩ dX10_markup_10 (fun zw hp => ?_)
  have hdn := hp
  refine kv_aload_n X 0 dX10_markup_13 rfl rfl ?_
  refine kv_getfield X f_X10_markup_21 (κ := 0) (fs := [.ref (ad 1), .ref (ad 2), .int on]) (v := .ref (ad 2)) hO.1.1 ((cE_ne (by omega)).trans hO.1.2) rfl dX10_markup_14 ?_
  refine kv_getfieldN X (kk := 8) (T := TX2) (N := 9) (Cn := RX2) (ref := RX2) (host := "Takeoff") (κ := 2) (fs := [.ref (ad 1), .ref (ad 17), .ref (ad 18), .ref (ad 19), .ref (ad 20), .ref (ad 21), .ref (ad 22), .ref (ad 23), .ref (ad 24)]) (v := .ref (ad 24)) (by decide) (fun _ h => (List.mem_cons_of_mem _ (List.mem_append_left _ (List.mem_append_left _ (List.mem_append_left _ (List.mem_append_left _ (List.mem_append_left _ (List.mem_append_left _ (List.mem_append_left _ (List.mem_append_left _ (List.mem_append_left _ (List.mem_append_left _ (List.mem_append_left _ (List.mem_append_left _ (List.mem_append_right _ h))))))))))))))) rfl (by decide) rfl hO.2.2.1.1 ((cE_ne (by omega)).trans hO.2.2.1.2) rfl dX10_markup_17 ?_
  refine kv_iload_n X 1 dX10_markup_20 rfl rfl ?_
  refine ke_lald X (24) (j := j2) (hO.2.2.2.1 _ (by omega) (by omega)) (by omega) (by unfold eLen; rw [if_pos rfl]; omega) dX10_markup_21 ?_
  exact kv_lreturn X hr (Nat.le_of_ble_eq_true rfl) (Nat.le_of_ble_eq_true rfl) ⟨zw, ⟨j2, ⟨h2, rfl⟩, hdn, rfl⟩, rfl⟩ dX10_markup_22
theorem f_X10_amount_25 : kF wsX10_amount RX10 25 13 2 := ⟨_, RX10, TX10, 3, fun _ h => (List.mem_cons_of_mem _ (List.mem_append_left _ (List.mem_append_left _ (List.mem_append_left _ (List.mem_append_left _ (List.mem_append_left _ (List.mem_append_left _ (List.mem_append_left _ (List.mem_append_left _ (List.mem_append_left _ (List.mem_append_left _ (List.mem_append_left _ (List.mem_append_left _ (List.mem_append_left _ (List.mem_append_right _ h))))))))))))))), (List.mem_cons_of_mem _ (List.mem_append_left _ (List.mem_append_left _ (List.mem_append_left _ (List.mem_append_left _ (List.mem_append_left _ (List.mem_append_left _ (List.mem_append_left _ (List.mem_append_left _ (List.mem_append_left _ (List.mem_append_left _ (List.mem_append_left _ (List.mem_append_left _ (List.mem_append_left _ (List.mem_append_left _ (List.mem_append_left _ (List.mem_of_getElem? (i := 0) rfl))))))))))))))))), rfl, by decide, rfl⟩
theorem f_X10_amount_21 : kF wsX10_amount RX10 21 13 1 := ⟨_, RX10, TX10, 3, fun _ h => (List.mem_cons_of_mem _ (List.mem_append_left _ (List.mem_append_left _ (List.mem_append_left _ (List.mem_append_left _ (List.mem_append_left _ (List.mem_append_left _ (List.mem_append_left _ (List.mem_append_left _ (List.mem_append_left _ (List.mem_append_left _ (List.mem_append_left _ (List.mem_append_left _ (List.mem_append_left _ (List.mem_append_right _ h))))))))))))))), (List.mem_cons_of_mem _ (List.mem_append_left _ (List.mem_append_left _ (List.mem_append_left _ (List.mem_append_left _ (List.mem_append_left _ (List.mem_append_left _ (List.mem_append_left _ (List.mem_append_left _ (List.mem_append_left _ (List.mem_append_left _ (List.mem_append_left _ (List.mem_append_left _ (List.mem_append_left _ (List.mem_append_left _ (List.mem_append_left _ (List.mem_of_getElem? (i := 1) rfl))))))))))))))))), rfl, by decide, rfl⟩
set_option maxRecDepth 100000 in
set_option maxHeartbeats 4000000 in
theorem c_X10_amount (l : Launch) (dd : kDD) (ks : List Nat) (ad : Nat → Nat) (E : Nat → va_E) (e : eS) (M : mS) (nR nC nt nL nW nV nM : Nat) (cn nm mn me li rl : Nat → Nat) (on : Int32) (hO : cO dd ks ad E on) (hR : cR dd ks ad E M nR) (hC : cC dd ks ad E M nC mn me) (hT : cT dd ks ad E M nt cn nm) (hL : cL dd ks ad E M nL nW li) (hW : cW dd ks ad E M nW rl) (hV : cV dd ks ad E M nV) (hM : cM dd ks ad E M nM) (hB : cB M nR nC nt nL nW nV cn nm mn me li rl) (mI mR : Int32 → Nat → Nat) (hmI : ∀ o j, j < nt → mnt o (M.2.1 22) j nV 0 = nI (mI o j) ∧ mI o j < nt) (hmR : ∀ o j, j < nR → mnt o (M.2.1 23) j nV 0 = nI (mR o j) ∧ mR o j < nR) (hpk : ∀ r, r < nR → 1 ≤ M.2.1 5 r) (v : Int32) (hfx : kFx (M.2.1 13) cn (fun k => mI on (nm k)) (nJ (M.2.1 13) cn (fun k => mI on (nm k)) 2) nt) : kClX l yX10_amount wsX10_amount ({ frames := 9, cells := 1, slots := 6, locals := 202 } : Room) 1 6 dd [.ref (ad 0), .int v] (ks, ad, (cE dd E e)) (kQl (S := eS) (fun r z => ∃ j, (j < nR ∧ v = nI j) ∧ cDn M nR nt nL nW nM cn nm mn me li (mI on) (mR on) (nJ (M.2.1 13) cn (fun k => mI on (nm k)) 2) z ∧ r = z.2 23 j) (fun _ => ks) (fun _ => ad) (fun z => cE dd E z)) (fun X9 u9 => ∃ e9, u9 = (ks, ad, cE dd E e9) ∧ ((X9 = "java/lang/IndexOutOfBoundsException" ∧ ¬ (∃ j, j < nR ∧ v = nI j)))) := by
  refine kMetlX (ws' := _) (cc := cX10_amount) (maxL := 2) (rt := .long) (by decide) rfl (Nat.le_of_ble_eq_true rfl) (fun g X hr hRX hnL hRR hl0 hkn => ?_)
  show kv dd g 0 0 0 [(0, .ref (ad 0)), (1, .int v)] [] ks ad (cE dd E e)
  have hT12 := hT.1
  have hR12 := hR.1
  have hL10 := hL.1
  have hV4 := hV.1
  have hM4 := hM.1
  have hC4 := hC.1
  have hW40 := hW.1
  obtain ⟨f20, f21, hf20, hf21, hff⟩ := hO.2.2.2.2
  refine kv_aload_n X 0 dX10_amount_0 rfl rfl ?_
  refine kv_iload_n X 1 dX10_amount_1 rfl rfl ?_
  refine kv_callvXV (ci := 13) (κ := 0) (r1 := (TX10, 3)) (As := [.int v]) [] X (c_X10_checkResource l dd ks ad E e M nR nC nt nL nW nV nM cn nm mn me li rl on hO hR hC hT hL hW hV hM hB v) hl0 (kCV_of X 1 gX10_amount_X10_checkResource rfl rfl rfl (by decide +kernel) hRR ⟨(Nat.le_of_ble_eq_true rfl), (Nat.le_of_ble_eq_true rfl)⟩) hO.1.1 ((cE_ne (by omega)).trans hO.1.2) rfl hRX ⟨(Nat.le_of_ble_eq_true rfl), (Nat.le_of_ble_eq_true rfl)⟩ (fun _ _ h => ⟨e, h.2.1, ⟨h.1, h.2.2⟩⟩) rfl rfl (Nat.le_of_ble_eq_true rfl) hRR ⟨(Nat.le_of_ble_eq_true rfl), (Nat.le_of_ble_eq_true rfl)⟩ dX10_amount_2 (fun z hp => ?_)
  obtain ⟨rfl, j2, h2, rfl⟩ := hp
  refine kv_aload_n X 0 dX10_amount_5 rfl rfl ?_
  refine kv_aload_n X 0 dX10_amount_6 rfl rfl ?_
  refine kv_getfield X f_X10_amount_25 (κ := 0) (fs := [.ref (ad 1), .ref (ad 2), .int on]) (v := .int on) hO.1.1 ((cE_ne (by omega)).trans hO.1.2) rfl dX10_amount_7 ?_
  refine kv_callvV (ci := 13) (κ := 0) (r1 := (TX10, 3)) (As := [.int on]) [] X (c_X10_workOut l dd ks ad E e M nR nC nt nL nW nV nM cn nm mn me li rl on hO hR hC hT hL hW hV hM hB mI mR hmI hmR hpk on hfx) hl0 (kCV_of X 1 gX10_amount_X10_workOut rfl rfl rfl (by decide +kernel) hRR ⟨(Nat.le_of_ble_eq_true rfl), (Nat.le_of_ble_eq_true rfl)⟩) hO.1.1 ((cE_ne (by omega)).trans hO.1.2) rfl rfl rfl (Nat.le_of_ble_eq_true rfl) hRR ⟨(Nat.le_of_ble_eq_true rfl), (Nat.le_of_ble_eq_true rfl)⟩ dX10_amount_10 (fun zw hp => ?_)
  have hdn := hp
  refine kv_aload_n X 0 dX10_amount_13 rfl rfl ?_
  refine kv_getfield X f_X10_amount_21 (κ := 0) (fs := [.ref (ad 1), .ref (ad 2), .int on]) (v := .ref (ad 2)) hO.1.1 ((cE_ne (by omega)).trans hO.1.2) rfl dX10_amount_14 ?_
  refine kv_getfieldN X (kk := 7) (T := TX2) (N := 9) (Cn := RX2) (ref := RX2) (host := "Takeoff") (κ := 2) (fs := [.ref (ad 1), .ref (ad 17), .ref (ad 18), .ref (ad 19), .ref (ad 20), .ref (ad 21), .ref (ad 22), .ref (ad 23), .ref (ad 24)]) (v := .ref (ad 23)) (by decide) (fun _ h => (List.mem_cons_of_mem _ (List.mem_append_left _ (List.mem_append_left _ (List.mem_append_left _ (List.mem_append_left _ (List.mem_append_left _ (List.mem_append_left _ (List.mem_append_left _ (List.mem_append_left _ (List.mem_append_left _ (List.mem_append_left _ (List.mem_append_left _ (List.mem_append_left _ (List.mem_append_right _ h))))))))))))))) rfl (by decide) rfl hO.2.2.1.1 ((cE_ne (by omega)).trans hO.2.2.1.2) rfl dX10_amount_17 ?_
  refine kv_iload_n X 1 dX10_amount_20 rfl rfl ?_
  refine ke_lald X (23) (j := j2) (hO.2.2.2.1 _ (by omega) (by omega)) (by omega) (by unfold eLen; split <;> omega) dX10_amount_21 ?_
  exact kv_lreturn X hr (Nat.le_of_ble_eq_true rfl) (Nat.le_of_ble_eq_true rfl) ⟨zw, ⟨j2, ⟨h2, rfl⟩, hdn, rfl⟩, rfl⟩ dX10_amount_22
theorem f_X10_packs_25 : kF wsX10_packs RX10 25 13 2 := ⟨_, RX10, TX10, 3, fun _ h => (List.mem_cons_of_mem _ (List.mem_append_left _ (List.mem_append_left _ (List.mem_append_left _ (List.mem_append_left _ (List.mem_append_left _ (List.mem_append_left _ (List.mem_append_left _ (List.mem_append_left _ (List.mem_append_left _ (List.mem_append_left _ (List.mem_append_left _ (List.mem_append_left _ (List.mem_append_left _ (List.mem_append_right _ h))))))))))))))), (List.mem_cons_of_mem _ (List.mem_append_left _ (List.mem_append_left _ (List.mem_append_left _ (List.mem_append_left _ (List.mem_append_left _ (List.mem_append_left _ (List.mem_append_left _ (List.mem_append_left _ (List.mem_append_left _ (List.mem_append_left _ (List.mem_append_left _ (List.mem_append_left _ (List.mem_append_left _ (List.mem_append_left _ (List.mem_append_left _ (List.mem_of_getElem? (i := 0) rfl))))))))))))))))), rfl, by decide, rfl⟩
theorem f_X10_packs_21 : kF wsX10_packs RX10 21 13 1 := ⟨_, RX10, TX10, 3, fun _ h => (List.mem_cons_of_mem _ (List.mem_append_left _ (List.mem_append_left _ (List.mem_append_left _ (List.mem_append_left _ (List.mem_append_left _ (List.mem_append_left _ (List.mem_append_left _ (List.mem_append_left _ (List.mem_append_left _ (List.mem_append_left _ (List.mem_append_left _ (List.mem_append_left _ (List.mem_append_left _ (List.mem_append_right _ h))))))))))))))), (List.mem_cons_of_mem _ (List.mem_append_left _ (List.mem_append_left _ (List.mem_append_left _ (List.mem_append_left _ (List.mem_append_left _ (List.mem_append_left _ (List.mem_append_left _ (List.mem_append_left _ (List.mem_append_left _ (List.mem_append_left _ (List.mem_append_left _ (List.mem_append_left _ (List.mem_append_left _ (List.mem_append_left _ (List.mem_append_left _ (List.mem_of_getElem? (i := 1) rfl))))))))))))))))), rfl, by decide, rfl⟩
set_option maxRecDepth 100000 in
set_option maxHeartbeats 4000000 in
theorem c_X10_packs (l : Launch) (dd : kDD) (ks : List Nat) (ad : Nat → Nat) (E : Nat → va_E) (e : eS) (M : mS) (nR nC nt nL nW nV nM : Nat) (cn nm mn me li rl : Nat → Nat) (on : Int32) (hO : cO dd ks ad E on) (hR : cR dd ks ad E M nR) (hC : cC dd ks ad E M nC mn me) (hT : cT dd ks ad E M nt cn nm) (hL : cL dd ks ad E M nL nW li) (hW : cW dd ks ad E M nW rl) (hV : cV dd ks ad E M nV) (hM : cM dd ks ad E M nM) (hB : cB M nR nC nt nL nW nV cn nm mn me li rl) (mI mR : Int32 → Nat → Nat) (hmI : ∀ o j, j < nt → mnt o (M.2.1 22) j nV 0 = nI (mI o j) ∧ mI o j < nt) (hmR : ∀ o j, j < nR → mnt o (M.2.1 23) j nV 0 = nI (mR o j) ∧ mR o j < nR) (hpk : ∀ r, r < nR → 1 ≤ M.2.1 5 r) (v : Int32) (hfx : kFx (M.2.1 13) cn (fun k => mI on (nm k)) (nJ (M.2.1 13) cn (fun k => mI on (nm k)) 2) nt) : kClX l yX10_packs wsX10_packs ({ frames := 9, cells := 1, slots := 6, locals := 202 } : Room) 1 6 dd [.ref (ad 0), .int v] (ks, ad, (cE dd E e)) (kQl (S := eS) (fun r z => ∃ j, (j < nR ∧ v = nI j) ∧ cDn M nR nt nL nW nM cn nm mn me li (mI on) (mR on) (nJ (M.2.1 13) cn (fun k => mI on (nm k)) 2) z ∧ r = mpk (z.2 23 j) (M.2.1 4 j) (M.2.1 5 j)) (fun _ => ks) (fun _ => ad) (fun z => cE dd E z)) (fun X9 u9 => ∃ e9, u9 = (ks, ad, cE dd E e9) ∧ ((X9 = "java/lang/IndexOutOfBoundsException" ∧ ¬ (∃ j, j < nR ∧ v = nI j)))) := by
  refine kMetlX (ws' := _) (cc := cX10_packs) (maxL := 2) (rt := .long) (by decide) rfl (Nat.le_of_ble_eq_true rfl) (fun g X hr hRX hnL hRR hl0 hkn => ?_)
  show kv dd g 0 0 0 [(0, .ref (ad 0)), (1, .int v)] [] ks ad (cE dd E e)
  have hT12 := hT.1
  have hR12 := hR.1
  have hL10 := hL.1
  have hV4 := hV.1
  have hM4 := hM.1
  have hC4 := hC.1
  have hW40 := hW.1
  obtain ⟨f20, f21, hf20, hf21, hff⟩ := hO.2.2.2.2
  refine kv_aload_n X 0 dX10_packs_0 rfl rfl ?_
  refine kv_iload_n X 1 dX10_packs_1 rfl rfl ?_
  refine kv_callvXV (ci := 13) (κ := 0) (r1 := (TX10, 3)) (As := [.int v]) [] X (c_X10_checkResource l dd ks ad E e M nR nC nt nL nW nV nM cn nm mn me li rl on hO hR hC hT hL hW hV hM hB v) hl0 (kCV_of X 1 gX10_packs_X10_checkResource rfl rfl rfl (by decide +kernel) hRR ⟨(Nat.le_of_ble_eq_true rfl), (Nat.le_of_ble_eq_true rfl)⟩) hO.1.1 ((cE_ne (by omega)).trans hO.1.2) rfl hRX ⟨(Nat.le_of_ble_eq_true rfl), (Nat.le_of_ble_eq_true rfl)⟩ (fun _ _ h => ⟨e, h.2.1, ⟨h.1, h.2.2⟩⟩) rfl rfl (Nat.le_of_ble_eq_true rfl) hRR ⟨(Nat.le_of_ble_eq_true rfl), (Nat.le_of_ble_eq_true rfl)⟩ dX10_packs_2 (fun z hp => ?_)
  obtain ⟨rfl, j2, h2, rfl⟩ := hp
  refine kv_aload_n X 0 dX10_packs_5 rfl rfl ?_
  refine kv_aload_n X 0 dX10_packs_6 rfl rfl ?_
  refine kv_getfield X f_X10_packs_25 (κ := 0) (fs := [.ref (ad 1), .ref (ad 2), .int on]) (v := .int on) hO.1.1 ((cE_ne (by omega)).trans hO.1.2) rfl dX10_packs_7 ?_
  refine kv_callvV (ci := 13) (κ := 0) (r1 := (TX10, 3)) (As := [.int on]) [] X (c_X10_workOut l dd ks ad E e M nR nC nt nL nW nV nM cn nm mn me li rl on hO hR hC hT hL hW hV hM hB mI mR hmI hmR hpk on hfx) hl0 (kCV_of X 1 gX10_packs_X10_workOut rfl rfl rfl (by decide +kernel) hRR ⟨(Nat.le_of_ble_eq_true rfl), (Nat.le_of_ble_eq_true rfl)⟩) hO.1.1 ((cE_ne (by omega)).trans hO.1.2) rfl rfl rfl (Nat.le_of_ble_eq_true rfl) hRR ⟨(Nat.le_of_ble_eq_true rfl), (Nat.le_of_ble_eq_true rfl)⟩ dX10_packs_10 (fun zw hp => ?_)
  have hdn := hp
  refine kv_aload_n X 0 dX10_packs_13 rfl rfl ?_
  refine kv_getfield X f_X10_packs_21 (κ := 0) (fs := [.ref (ad 1), .ref (ad 2), .int on]) (v := .ref (ad 2)) hO.1.1 ((cE_ne (by omega)).trans hO.1.2) rfl dX10_packs_14 ?_
  refine kv_iload_n X 1 dX10_packs_17 rfl rfl ?_
  refine kv_calllV (ci := 5) (κ := 2) (r1 := (TX2, 9)) (As := [.int (nI j2)]) [] X (c_X2_packsBought l dd ks ad E zw M nR nC nt nL nW nV nM cn nm mn me li rl on hO hR hC hT hL hW hV hM hB j2 (by omega) hpk) hl0 (kCV_of X 1 gX10_packs_X2_packsBought rfl rfl rfl (by decide +kernel) hRR ⟨(Nat.le_of_ble_eq_true rfl), (Nat.le_of_ble_eq_true rfl)⟩) hO.2.2.1.1 ((cE_ne (by omega)).trans hO.2.2.1.2) rfl rfl rfl (Nat.le_of_ble_eq_true rfl) hRR ⟨(Nat.le_of_ble_eq_true rfl), (Nat.le_of_ble_eq_true rfl)⟩ dX10_packs_18 (fun r z hp => ?_)
  obtain ⟨rfl, rfl⟩ := hp
  exact kv_lreturn X hr (Nat.le_of_ble_eq_true rfl) (Nat.le_of_ble_eq_true rfl) ⟨zw, ⟨j2, ⟨h2, rfl⟩, hdn, rfl⟩, rfl⟩ dX10_packs_21
theorem f_X10_costOfLine_25 : kF wsX10_costOfLine RX10 25 13 2 := ⟨_, RX10, TX10, 3, fun _ h => (List.mem_cons_of_mem _ (List.mem_append_left _ (List.mem_append_left _ (List.mem_append_left _ (List.mem_append_left _ (List.mem_append_left _ (List.mem_append_left _ (List.mem_append_left _ (List.mem_append_left _ (List.mem_append_left _ (List.mem_append_left _ (List.mem_append_left _ (List.mem_append_left _ (List.mem_append_left _ (List.mem_append_right _ h))))))))))))))), (List.mem_cons_of_mem _ (List.mem_append_left _ (List.mem_append_left _ (List.mem_append_left _ (List.mem_append_left _ (List.mem_append_left _ (List.mem_append_left _ (List.mem_append_left _ (List.mem_append_left _ (List.mem_append_left _ (List.mem_append_left _ (List.mem_append_left _ (List.mem_append_left _ (List.mem_append_left _ (List.mem_append_left _ (List.mem_append_left _ (List.mem_of_getElem? (i := 0) rfl))))))))))))))))), rfl, by decide, rfl⟩
theorem f_X10_costOfLine_21 : kF wsX10_costOfLine RX10 21 13 1 := ⟨_, RX10, TX10, 3, fun _ h => (List.mem_cons_of_mem _ (List.mem_append_left _ (List.mem_append_left _ (List.mem_append_left _ (List.mem_append_left _ (List.mem_append_left _ (List.mem_append_left _ (List.mem_append_left _ (List.mem_append_left _ (List.mem_append_left _ (List.mem_append_left _ (List.mem_append_left _ (List.mem_append_left _ (List.mem_append_left _ (List.mem_append_right _ h))))))))))))))), (List.mem_cons_of_mem _ (List.mem_append_left _ (List.mem_append_left _ (List.mem_append_left _ (List.mem_append_left _ (List.mem_append_left _ (List.mem_append_left _ (List.mem_append_left _ (List.mem_append_left _ (List.mem_append_left _ (List.mem_append_left _ (List.mem_append_left _ (List.mem_append_left _ (List.mem_append_left _ (List.mem_append_left _ (List.mem_append_left _ (List.mem_of_getElem? (i := 1) rfl))))))))))))))))), rfl, by decide, rfl⟩
set_option maxRecDepth 100000 in
set_option maxHeartbeats 4000000 in
theorem c_X10_costOfLine (l : Launch) (dd : kDD) (ks : List Nat) (ad : Nat → Nat) (E : Nat → va_E) (e : eS) (M : mS) (nR nC nt nL nW nV nM : Nat) (cn nm mn me li rl : Nat → Nat) (on : Int32) (hO : cO dd ks ad E on) (hR : cR dd ks ad E M nR) (hC : cC dd ks ad E M nC mn me) (hT : cT dd ks ad E M nt cn nm) (hL : cL dd ks ad E M nL nW li) (hW : cW dd ks ad E M nW rl) (hV : cV dd ks ad E M nV) (hM : cM dd ks ad E M nM) (hB : cB M nR nC nt nL nW nV cn nm mn me li rl) (mI mR : Int32 → Nat → Nat) (hmI : ∀ o j, j < nt → mnt o (M.2.1 22) j nV 0 = nI (mI o j) ∧ mI o j < nt) (hmR : ∀ o j, j < nR → mnt o (M.2.1 23) j nV 0 = nI (mR o j) ∧ mR o j < nR) (hpk : ∀ r, r < nR → 1 ≤ M.2.1 5 r) (v : Int32) (hfx : kFx (M.2.1 13) cn (fun k => mI on (nm k)) (nJ (M.2.1 13) cn (fun k => mI on (nm k)) 2) nt) : kClX l yX10_costOfLine wsX10_costOfLine ({ frames := 9, cells := 1, slots := 6, locals := 202 } : Room) 1 6 dd [.ref (ad 0), .int v] (ks, ad, (cE dd E e)) (kQl (S := eS) (fun r z => ∃ j, (j < nL ∧ v = nI j) ∧ cDn M nR nt nL nW nM cn nm mn me li (mI on) (mR on) (nJ (M.2.1 13) cn (fun k => mI on (nm k)) 2) z ∧ r = (mq (M.2.1 19) (M.2.1 20) (nI j) nW).toInt64 * cou (z.2 (37 + mI on (li j))) (M.2.1 3) nR) (fun _ => ks) (fun _ => ad) (fun z => cE dd E z)) (fun X9 u9 => ∃ e9, u9 = (ks, ad, cE dd E e9) ∧ ((X9 = "java/lang/IndexOutOfBoundsException" ∧ ¬ (∃ j, j < nL ∧ v = nI j)))) := by
  refine kMetlX (ws' := _) (cc := cX10_costOfLine) (maxL := 2) (rt := .long) (by decide) rfl (Nat.le_of_ble_eq_true rfl) (fun g X hr hRX hnL hRR hl0 hkn => ?_)
  show kv dd g 0 0 0 [(0, .ref (ad 0)), (1, .int v)] [] ks ad (cE dd E e)
  have hT12 := hT.1
  have hR12 := hR.1
  have hL10 := hL.1
  have hV4 := hV.1
  have hM4 := hM.1
  have hC4 := hC.1
  have hW40 := hW.1
  obtain ⟨f20, f21, hf20, hf21, hff⟩ := hO.2.2.2.2
  refine kv_aload_n X 0 dX10_costOfLine_0 rfl rfl ?_
  refine kv_iload_n X 1 dX10_costOfLine_1 rfl rfl ?_
  refine kv_callvXV (ci := 13) (κ := 0) (r1 := (TX10, 3)) (As := [.int v]) [] X (c_X10_checkLine l dd ks ad E e M nR nC nt nL nW nV nM cn nm mn me li rl on hO hR hC hT hL hW hV hM hB v) hl0 (kCV_of X 1 gX10_costOfLine_X10_checkLine rfl rfl rfl (by decide +kernel) hRR ⟨(Nat.le_of_ble_eq_true rfl), (Nat.le_of_ble_eq_true rfl)⟩) hO.1.1 ((cE_ne (by omega)).trans hO.1.2) rfl hRX ⟨(Nat.le_of_ble_eq_true rfl), (Nat.le_of_ble_eq_true rfl)⟩ (fun _ _ h => ⟨e, h.2.1, ⟨h.1, h.2.2⟩⟩) rfl rfl (Nat.le_of_ble_eq_true rfl) hRR ⟨(Nat.le_of_ble_eq_true rfl), (Nat.le_of_ble_eq_true rfl)⟩ dX10_costOfLine_2 (fun z hp => ?_)
  obtain ⟨rfl, j2, h2, rfl⟩ := hp
  refine kv_aload_n X 0 dX10_costOfLine_5 rfl rfl ?_
  refine kv_aload_n X 0 dX10_costOfLine_6 rfl rfl ?_
  refine kv_getfield X f_X10_costOfLine_25 (κ := 0) (fs := [.ref (ad 1), .ref (ad 2), .int on]) (v := .int on) hO.1.1 ((cE_ne (by omega)).trans hO.1.2) rfl dX10_costOfLine_7 ?_
  refine kv_callvV (ci := 13) (κ := 0) (r1 := (TX10, 3)) (As := [.int on]) [] X (c_X10_workOut l dd ks ad E e M nR nC nt nL nW nV nM cn nm mn me li rl on hO hR hC hT hL hW hV hM hB mI mR hmI hmR hpk on hfx) hl0 (kCV_of X 1 gX10_costOfLine_X10_workOut rfl rfl rfl (by decide +kernel) hRR ⟨(Nat.le_of_ble_eq_true rfl), (Nat.le_of_ble_eq_true rfl)⟩) hO.1.1 ((cE_ne (by omega)).trans hO.1.2) rfl rfl rfl (Nat.le_of_ble_eq_true rfl) hRR ⟨(Nat.le_of_ble_eq_true rfl), (Nat.le_of_ble_eq_true rfl)⟩ dX10_costOfLine_10 (fun zw hp => ?_)
  have hdn := hp
  refine kv_aload_n X 0 dX10_costOfLine_13 rfl rfl ?_
  refine kv_getfield X f_X10_costOfLine_21 (κ := 0) (fs := [.ref (ad 1), .ref (ad 2), .int on]) (v := .ref (ad 2)) hO.1.1 ((cE_ne (by omega)).trans hO.1.2) rfl dX10_costOfLine_14 ?_
  refine kv_iload_n X 1 dX10_costOfLine_17 rfl rfl ?_
  refine kv_calllV (ci := 5) (κ := 2) (r1 := (TX2, 9)) (As := [.int (nI j2)]) [] X (c_X2_lineCost l dd ks ad E zw M nR nC nt nL nW nV nM cn nm mn me li rl on hO hR hC hT hL hW hV hM hB j2 (by omega) (mI on) (fun j hj => ⟨hdn.1 j hj, (hmI on j hj).2⟩)) hl0 (kCV_of X 1 gX10_costOfLine_X2_lineCost rfl rfl rfl (by decide +kernel) hRR ⟨(Nat.le_of_ble_eq_true rfl), (Nat.le_of_ble_eq_true rfl)⟩) hO.2.2.1.1 ((cE_ne (by omega)).trans hO.2.2.1.2) rfl rfl rfl (Nat.le_of_ble_eq_true rfl) hRR ⟨(Nat.le_of_ble_eq_true rfl), (Nat.le_of_ble_eq_true rfl)⟩ dX10_costOfLine_18 (fun r z hp => ?_)
  obtain ⟨rfl, rfl⟩ := hp
  exact kv_lreturn X hr (Nat.le_of_ble_eq_true rfl) (Nat.le_of_ble_eq_true rfl) ⟨zw, ⟨j2, ⟨h2, rfl⟩, hdn, rfl⟩, rfl⟩ dX10_costOfLine_21
theorem f_X10_costOfTrade_25 : kF wsX10_costOfTrade RX10 25 13 2 := ⟨_, RX10, TX10, 3, fun _ h => (List.mem_cons_of_mem _ (List.mem_append_left _ (List.mem_append_left _ (List.mem_append_left _ (List.mem_append_left _ (List.mem_append_left _ (List.mem_append_left _ (List.mem_append_left _ (List.mem_append_left _ (List.mem_append_left _ (List.mem_append_left _ (List.mem_append_left _ (List.mem_append_left _ (List.mem_append_left _ (List.mem_append_right _ h))))))))))))))), (List.mem_cons_of_mem _ (List.mem_append_left _ (List.mem_append_left _ (List.mem_append_left _ (List.mem_append_left _ (List.mem_append_left _ (List.mem_append_left _ (List.mem_append_left _ (List.mem_append_left _ (List.mem_append_left _ (List.mem_append_left _ (List.mem_append_left _ (List.mem_append_left _ (List.mem_append_left _ (List.mem_append_left _ (List.mem_append_left _ (List.mem_of_getElem? (i := 0) rfl))))))))))))))))), rfl, by decide, rfl⟩
theorem f_X10_costOfTrade_21 : kF wsX10_costOfTrade RX10 21 13 1 := ⟨_, RX10, TX10, 3, fun _ h => (List.mem_cons_of_mem _ (List.mem_append_left _ (List.mem_append_left _ (List.mem_append_left _ (List.mem_append_left _ (List.mem_append_left _ (List.mem_append_left _ (List.mem_append_left _ (List.mem_append_left _ (List.mem_append_left _ (List.mem_append_left _ (List.mem_append_left _ (List.mem_append_left _ (List.mem_append_left _ (List.mem_append_right _ h))))))))))))))), (List.mem_cons_of_mem _ (List.mem_append_left _ (List.mem_append_left _ (List.mem_append_left _ (List.mem_append_left _ (List.mem_append_left _ (List.mem_append_left _ (List.mem_append_left _ (List.mem_append_left _ (List.mem_append_left _ (List.mem_append_left _ (List.mem_append_left _ (List.mem_append_left _ (List.mem_append_left _ (List.mem_append_left _ (List.mem_append_left _ (List.mem_of_getElem? (i := 1) rfl))))))))))))))))), rfl, by decide, rfl⟩
set_option maxRecDepth 100000 in
set_option maxHeartbeats 4000000 in
theorem c_X10_costOfTrade (l : Launch) (dd : kDD) (ks : List Nat) (ad : Nat → Nat) (E : Nat → va_E) (e : eS) (M : mS) (nR nC nt nL nW nV nM : Nat) (cn nm mn me li rl : Nat → Nat) (on : Int32) (hO : cO dd ks ad E on) (hR : cR dd ks ad E M nR) (hC : cC dd ks ad E M nC mn me) (hT : cT dd ks ad E M nt cn nm) (hL : cL dd ks ad E M nL nW li) (hW : cW dd ks ad E M nW rl) (hV : cV dd ks ad E M nV) (hM : cM dd ks ad E M nM) (hB : cB M nR nC nt nL nW nV cn nm mn me li rl) (mI mR : Int32 → Nat → Nat) (hmI : ∀ o j, j < nt → mnt o (M.2.1 22) j nV 0 = nI (mI o j) ∧ mI o j < nt) (hmR : ∀ o j, j < nR → mnt o (M.2.1 23) j nV 0 = nI (mR o j) ∧ mR o j < nR) (hpk : ∀ r, r < nR → 1 ≤ M.2.1 5 r) (v : Int32) (hfx : kFx (M.2.1 13) cn (fun k => mI on (nm k)) (nJ (M.2.1 13) cn (fun k => mI on (nm k)) 2) nt) : kClX l yX10_costOfTrade wsX10_costOfTrade ({ frames := 9, cells := 1, slots := 6, locals := 202 } : Room) 1 6 dd [.ref (ad 0), .int v] (ks, ad, (cE dd E e)) (kQl (S := eS) (fun r z => (0 ≤ v ∧ v ≤ 5) ∧ cDn M nR nt nL nW nM cn nm mn me li (mI on) (mR on) (nJ (M.2.1 13) cn (fun k => mI on (nm k)) 2) z ∧ r = ctr (M.2.1 11) (fun i => z.2 22 i * cou (z.2 (25 + i)) (M.2.1 3) nR) v nt) (fun _ => ks) (fun _ => ad) (fun z => cE dd E z)) (fun X9 u9 => ∃ e9, u9 = (ks, ad, cE dd E e9) ∧ ((X9 = "java/lang/IllegalArgumentException" ∧ ¬ (0 ≤ v ∧ v ≤ 5)))) := by
  refine kMetlX (ws' := _) (cc := cX10_costOfTrade) (maxL := 2) (rt := .long) (by decide) rfl (Nat.le_of_ble_eq_true rfl) (fun g X hr hRX hnL hRR hl0 hkn => ?_)
  show kv dd g 0 0 0 [(0, .ref (ad 0)), (1, .int v)] [] ks ad (cE dd E e)
  have hT12 := hT.1
  have hR12 := hR.1
  have hL10 := hL.1
  have hV4 := hV.1
  have hM4 := hM.1
  have hC4 := hC.1
  have hW40 := hW.1
  obtain ⟨f20, f21, hf20, hf21, hff⟩ := hO.2.2.2.2
  refine kv_iload_n X 1 dX10_costOfTrade_0 rfl rfl ?_
  refine kv_iconst (v := 0) X dX10_costOfTrade_1 (by decide) ?_
  refine kv_iconst (v := 5) X dX10_costOfTrade_2 (by decide) ?_
  refine kv_callvXS (As := [.int v, .int 0, .int 5]) [] X (c_X10_checkRange l dd ks ad (cE dd E e) v 0 5) hl0 (kCS_of X 3 gX10_costOfTrade_X10_checkRange rfl rfl rfl (by decide +kernel) hRR ⟨(Nat.le_of_ble_eq_true rfl), (Nat.le_of_ble_eq_true rfl)⟩) hRX ⟨(Nat.le_of_ble_eq_true rfl), (Nat.le_of_ble_eq_true rfl)⟩ (fun _ _ h => ⟨e, h.2.1, ⟨h.1, h.2.2⟩⟩) rfl rfl (Nat.le_of_ble_eq_true rfl) hRR ⟨(Nat.le_of_ble_eq_true rfl), (Nat.le_of_ble_eq_true rfl)⟩ dX10_costOfTrade_3 (fun z hp => ?_)
  have h3 := hp
  refine kv_aload_n X 0 dX10_costOfTrade_6 rfl rfl ?_
  refine kv_aload_n X 0 dX10_costOfTrade_7 rfl rfl ?_
  refine kv_getfield X f_X10_costOfTrade_25 (κ := 0) (fs := [.ref (ad 1), .ref (ad 2), .int on]) (v := .int on) hO.1.1 ((cE_ne (by omega)).trans hO.1.2) rfl dX10_costOfTrade_8 ?_
  refine kv_callvV (ci := 13) (κ := 0) (r1 := (TX10, 3)) (As := [.int on]) [] X (c_X10_workOut l dd ks ad E e M nR nC nt nL nW nV nM cn nm mn me li rl on hO hR hC hT hL hW hV hM hB mI mR hmI hmR hpk on hfx) hl0 (kCV_of X 1 gX10_costOfTrade_X10_workOut rfl rfl rfl (by decide +kernel) hRR ⟨(Nat.le_of_ble_eq_true rfl), (Nat.le_of_ble_eq_true rfl)⟩) hO.1.1 ((cE_ne (by omega)).trans hO.1.2) rfl rfl rfl (Nat.le_of_ble_eq_true rfl) hRR ⟨(Nat.le_of_ble_eq_true rfl), (Nat.le_of_ble_eq_true rfl)⟩ dX10_costOfTrade_11 (fun zw hp => ?_)
  have hdn := hp
  refine kv_aload_n X 0 dX10_costOfTrade_14 rfl rfl ?_
  refine kv_getfield X f_X10_costOfTrade_21 (κ := 0) (fs := [.ref (ad 1), .ref (ad 2), .int on]) (v := .ref (ad 2)) hO.1.1 ((cE_ne (by omega)).trans hO.1.2) rfl dX10_costOfTrade_15 ?_
  refine kv_iload_n X 1 dX10_costOfTrade_18 rfl rfl ?_
  refine kv_calllV (ci := 5) (κ := 2) (r1 := (TX2, 9)) (As := [.int v]) [] X (c_X2_tradeCost l dd ks ad E zw M nR nC nt nL nW nV nM cn nm mn me li rl on hO hR hC hT hL hW hV hM hB v) hl0 (kCV_of X 1 gX10_costOfTrade_X2_tradeCost rfl rfl rfl (by decide +kernel) hRR ⟨(Nat.le_of_ble_eq_true rfl), (Nat.le_of_ble_eq_true rfl)⟩) hO.2.2.1.1 ((cE_ne (by omega)).trans hO.2.2.1.2) rfl rfl rfl (Nat.le_of_ble_eq_true rfl) hRR ⟨(Nat.le_of_ble_eq_true rfl), (Nat.le_of_ble_eq_true rfl)⟩ dX10_costOfTrade_19 (fun r z hp => ?_)
  obtain ⟨rfl, rfl⟩ := hp
  exact kv_lreturn X hr (Nat.le_of_ble_eq_true rfl) (Nat.le_of_ble_eq_true rfl) ⟨zw, ⟨h3, hdn, rfl⟩, rfl⟩ dX10_costOfTrade_22
theorem f_X10_costOfKind_25 : kF wsX10_costOfKind RX10 25 13 2 := ⟨_, RX10, TX10, 3, fun _ h => (List.mem_cons_of_mem _ (List.mem_append_left _ (List.mem_append_left _ (List.mem_append_left _ (List.mem_append_left _ (List.mem_append_left _ (List.mem_append_left _ (List.mem_append_left _ (List.mem_append_left _ (List.mem_append_left _ (List.mem_append_left _ (List.mem_append_left _ (List.mem_append_left _ (List.mem_append_left _ (List.mem_append_right _ h))))))))))))))), (List.mem_cons_of_mem _ (List.mem_append_left _ (List.mem_append_left _ (List.mem_append_left _ (List.mem_append_left _ (List.mem_append_left _ (List.mem_append_left _ (List.mem_append_left _ (List.mem_append_left _ (List.mem_append_left _ (List.mem_append_left _ (List.mem_append_left _ (List.mem_append_left _ (List.mem_append_left _ (List.mem_append_left _ (List.mem_append_left _ (List.mem_of_getElem? (i := 0) rfl))))))))))))))))), rfl, by decide, rfl⟩
theorem f_X10_costOfKind_21 : kF wsX10_costOfKind RX10 21 13 1 := ⟨_, RX10, TX10, 3, fun _ h => (List.mem_cons_of_mem _ (List.mem_append_left _ (List.mem_append_left _ (List.mem_append_left _ (List.mem_append_left _ (List.mem_append_left _ (List.mem_append_left _ (List.mem_append_left _ (List.mem_append_left _ (List.mem_append_left _ (List.mem_append_left _ (List.mem_append_left _ (List.mem_append_left _ (List.mem_append_left _ (List.mem_append_right _ h))))))))))))))), (List.mem_cons_of_mem _ (List.mem_append_left _ (List.mem_append_left _ (List.mem_append_left _ (List.mem_append_left _ (List.mem_append_left _ (List.mem_append_left _ (List.mem_append_left _ (List.mem_append_left _ (List.mem_append_left _ (List.mem_append_left _ (List.mem_append_left _ (List.mem_append_left _ (List.mem_append_left _ (List.mem_append_left _ (List.mem_append_left _ (List.mem_of_getElem? (i := 1) rfl))))))))))))))))), rfl, by decide, rfl⟩
set_option maxRecDepth 100000 in
set_option maxHeartbeats 4000000 in
theorem c_X10_costOfKind (l : Launch) (dd : kDD) (ks : List Nat) (ad : Nat → Nat) (E : Nat → va_E) (e : eS) (M : mS) (nR nC nt nL nW nV nM : Nat) (cn nm mn me li rl : Nat → Nat) (on : Int32) (hO : cO dd ks ad E on) (hR : cR dd ks ad E M nR) (hC : cC dd ks ad E M nC mn me) (hT : cT dd ks ad E M nt cn nm) (hL : cL dd ks ad E M nL nW li) (hW : cW dd ks ad E M nW rl) (hV : cV dd ks ad E M nV) (hM : cM dd ks ad E M nM) (hB : cB M nR nC nt nL nW nV cn nm mn me li rl) (mI mR : Int32 → Nat → Nat) (hmI : ∀ o j, j < nt → mnt o (M.2.1 22) j nV 0 = nI (mI o j) ∧ mI o j < nt) (hmR : ∀ o j, j < nR → mnt o (M.2.1 23) j nV 0 = nI (mR o j) ∧ mR o j < nR) (hpk : ∀ r, r < nR → 1 ≤ M.2.1 5 r) (v : Int32) (hfx : kFx (M.2.1 13) cn (fun k => mI on (nm k)) (nJ (M.2.1 13) cn (fun k => mI on (nm k)) 2) nt) : kClX l yX10_costOfKind wsX10_costOfKind ({ frames := 9, cells := 1, slots := 6, locals := 202 } : Room) 1 6 dd [.ref (ad 0), .int v] (ks, ad, (cE dd E e)) (kQl (S := eS) (fun r z => (v = 0 ∨ v = 1 ∨ v = 2) ∧ cDn M nR nt nL nW nM cn nm mn me li (mI on) (mR on) (nJ (M.2.1 13) cn (fun k => mI on (nm k)) 2) z ∧ r = mkd (M.2.1 2) (z.2 23) (M.2.1 3) v nR) (fun _ => ks) (fun _ => ad) (fun z => cE dd E z)) (fun X9 u9 => ∃ e9, u9 = (ks, ad, cE dd E e9) ∧ ((X9 = "java/lang/IllegalArgumentException" ∧ ¬ (v = 0 ∨ v = 1 ∨ v = 2)))) := by
  refine kMetlX (ws' := _) (cc := cX10_costOfKind) (maxL := 2) (rt := .long) (by decide) rfl (Nat.le_of_ble_eq_true rfl) (fun g X hr hRX hnL hRR hl0 hkn => ?_)
  show kv dd g 0 0 0 [(0, .ref (ad 0)), (1, .int v)] [] ks ad (cE dd E e)
  have hT12 := hT.1
  have hR12 := hR.1
  have hL10 := hL.1
  have hV4 := hV.1
  have hM4 := hM.1
  have hC4 := hC.1
  have hW40 := hW.1
  obtain ⟨f20, f21, hf20, hf21, hff⟩ := hO.2.2.2.2
  refine kv_iload_n X 1 dX10_costOfKind_0 rfl rfl ?_
  refine kv_callvXS (As := [.int v]) [] X (c_X10_checkKind l dd ks ad (cE dd E e) v) hl0 (kCS_of X 1 gX10_costOfKind_X10_checkKind rfl rfl rfl (by decide +kernel) hRR ⟨(Nat.le_of_ble_eq_true rfl), (Nat.le_of_ble_eq_true rfl)⟩) hRX ⟨(Nat.le_of_ble_eq_true rfl), (Nat.le_of_ble_eq_true rfl)⟩ (fun _ _ h => ⟨e, h.2.1, ⟨h.1, h.2.2⟩⟩) rfl rfl (Nat.le_of_ble_eq_true rfl) hRR ⟨(Nat.le_of_ble_eq_true rfl), (Nat.le_of_ble_eq_true rfl)⟩ dX10_costOfKind_1 (fun z hp => ?_)
  have h1 := hp
  refine kv_aload_n X 0 dX10_costOfKind_4 rfl rfl ?_
  refine kv_aload_n X 0 dX10_costOfKind_5 rfl rfl ?_
  refine kv_getfield X f_X10_costOfKind_25 (κ := 0) (fs := [.ref (ad 1), .ref (ad 2), .int on]) (v := .int on) hO.1.1 ((cE_ne (by omega)).trans hO.1.2) rfl dX10_costOfKind_6 ?_
  refine kv_callvV (ci := 13) (κ := 0) (r1 := (TX10, 3)) (As := [.int on]) [] X (c_X10_workOut l dd ks ad E e M nR nC nt nL nW nV nM cn nm mn me li rl on hO hR hC hT hL hW hV hM hB mI mR hmI hmR hpk on hfx) hl0 (kCV_of X 1 gX10_costOfKind_X10_workOut rfl rfl rfl (by decide +kernel) hRR ⟨(Nat.le_of_ble_eq_true rfl), (Nat.le_of_ble_eq_true rfl)⟩) hO.1.1 ((cE_ne (by omega)).trans hO.1.2) rfl rfl rfl (Nat.le_of_ble_eq_true rfl) hRR ⟨(Nat.le_of_ble_eq_true rfl), (Nat.le_of_ble_eq_true rfl)⟩ dX10_costOfKind_9 (fun zw hp => ?_)
  have hdn := hp
  refine kv_aload_n X 0 dX10_costOfKind_12 rfl rfl ?_
  refine kv_getfield X f_X10_costOfKind_21 (κ := 0) (fs := [.ref (ad 1), .ref (ad 2), .int on]) (v := .ref (ad 2)) hO.1.1 ((cE_ne (by omega)).trans hO.1.2) rfl dX10_costOfKind_13 ?_
  refine kv_iload_n X 1 dX10_costOfKind_16 rfl rfl ?_
  refine kv_calllV (ci := 5) (κ := 2) (r1 := (TX2, 9)) (As := [.int v]) [] X (c_X2_kindCost l dd ks ad E zw M nR nC nt nL nW nV nM cn nm mn me li rl on hO hR hC hT hL hW hV hM hB v) hl0 (kCV_of X 1 gX10_costOfKind_X2_kindCost rfl rfl rfl (by decide +kernel) hRR ⟨(Nat.le_of_ble_eq_true rfl), (Nat.le_of_ble_eq_true rfl)⟩) hO.2.2.1.1 ((cE_ne (by omega)).trans hO.2.2.1.2) rfl rfl rfl (Nat.le_of_ble_eq_true rfl) hRR ⟨(Nat.le_of_ble_eq_true rfl), (Nat.le_of_ble_eq_true rfl)⟩ dX10_costOfKind_17 (fun r z hp => ?_)
  obtain ⟨rfl, rfl⟩ := hp
  exact kv_lreturn X hr (Nat.le_of_ble_eq_true rfl) (Nat.le_of_ble_eq_true rfl) ⟨zw, ⟨h1, hdn, rfl⟩, rfl⟩ dX10_costOfKind_20
theorem f_X10_net_25 : kF wsX10_net RX10 25 13 2 := ⟨_, RX10, TX10, 3, fun _ h => (List.mem_cons_of_mem _ (List.mem_append_left _ (List.mem_append_left _ (List.mem_append_left _ (List.mem_append_left _ (List.mem_append_left _ (List.mem_append_left _ (List.mem_append_left _ (List.mem_append_left _ (List.mem_append_left _ (List.mem_append_left _ (List.mem_append_left _ (List.mem_append_left _ (List.mem_append_right _ h)))))))))))))), (List.mem_cons_of_mem _ (List.mem_append_left _ (List.mem_append_left _ (List.mem_append_left _ (List.mem_append_left _ (List.mem_append_left _ (List.mem_append_left _ (List.mem_append_left _ (List.mem_append_left _ (List.mem_append_left _ (List.mem_append_left _ (List.mem_append_left _ (List.mem_append_left _ (List.mem_append_left _ (List.mem_append_left _ (List.mem_of_getElem? (i := 0) rfl)))))))))))))))), rfl, by decide, rfl⟩
theorem f_X10_net_21 : kF wsX10_net RX10 21 13 1 := ⟨_, RX10, TX10, 3, fun _ h => (List.mem_cons_of_mem _ (List.mem_append_left _ (List.mem_append_left _ (List.mem_append_left _ (List.mem_append_left _ (List.mem_append_left _ (List.mem_append_left _ (List.mem_append_left _ (List.mem_append_left _ (List.mem_append_left _ (List.mem_append_left _ (List.mem_append_left _ (List.mem_append_left _ (List.mem_append_right _ h)))))))))))))), (List.mem_cons_of_mem _ (List.mem_append_left _ (List.mem_append_left _ (List.mem_append_left _ (List.mem_append_left _ (List.mem_append_left _ (List.mem_append_left _ (List.mem_append_left _ (List.mem_append_left _ (List.mem_append_left _ (List.mem_append_left _ (List.mem_append_left _ (List.mem_append_left _ (List.mem_append_left _ (List.mem_append_left _ (List.mem_of_getElem? (i := 1) rfl)))))))))))))))), rfl, by decide, rfl⟩
set_option maxRecDepth 100000 in
set_option maxHeartbeats 4000000 in
theorem c_X10_net (l : Launch) (dd : kDD) (ks : List Nat) (ad : Nat → Nat) (E : Nat → va_E) (e : eS) (M : mS) (nR nC nt nL nW nV nM : Nat) (cn nm mn me li rl : Nat → Nat) (on : Int32) (hO : cO dd ks ad E on) (hR : cR dd ks ad E M nR) (hC : cC dd ks ad E M nC mn me) (hT : cT dd ks ad E M nt cn nm) (hL : cL dd ks ad E M nL nW li) (hW : cW dd ks ad E M nW rl) (hV : cV dd ks ad E M nV) (hM : cM dd ks ad E M nM) (hB : cB M nR nC nt nL nW nV cn nm mn me li rl) (mI mR : Int32 → Nat → Nat) (hmI : ∀ o j, j < nt → mnt o (M.2.1 22) j nV 0 = nI (mI o j) ∧ mI o j < nt) (hmR : ∀ o j, j < nR → mnt o (M.2.1 23) j nV 0 = nI (mR o j) ∧ mR o j < nR) (hpk : ∀ r, r < nR → 1 ≤ M.2.1 5 r)  (hfx : kFx (M.2.1 13) cn (fun k => mI on (nm k)) (nJ (M.2.1 13) cn (fun k => mI on (nm k)) 2) nt) : kCl l yX10_net wsX10_net ({ frames := 9, cells := 0, slots := 0, locals := 202 } : Room) 0 0 dd [.ref (ad 0)] (ks, ad, (cE dd E e)) (kQl (S := eS) (fun r z => cDn M nR nt nL nW nM cn nm mn me li (mI on) (mR on) (nJ (M.2.1 13) cn (fun k => mI on (nm k)) 2) z ∧ r = cou (z.2 23) (M.2.1 3) nR) (fun _ => ks) (fun _ => ad) (fun z => cE dd E z)) := by
  refine kMetl (ws' := _) (cc := cX10_net) (maxL := 1) (rt := .long) (by decide) rfl (Nat.le_of_ble_eq_true rfl) (fun g X hr hnL hRR hl0 hkn => ?_)
  show kv dd g 0 0 0 [(0, .ref (ad 0))] [] ks ad (cE dd E e)
  have hT12 := hT.1
  have hR12 := hR.1
  have hL10 := hL.1
  have hV4 := hV.1
  have hM4 := hM.1
  have hC4 := hC.1
  have hW40 := hW.1
  obtain ⟨f20, f21, hf20, hf21, hff⟩ := hO.2.2.2.2
  refine kv_aload_n X 0 dX10_net_0 rfl rfl ?_
  refine kv_aload_n X 0 dX10_net_1 rfl rfl ?_
  refine kv_getfield X f_X10_net_25 (κ := 0) (fs := [.ref (ad 1), .ref (ad 2), .int on]) (v := .int on) hO.1.1 ((cE_ne (by omega)).trans hO.1.2) rfl dX10_net_2 ?_
  refine kv_callvV (ci := 13) (κ := 0) (r1 := (TX10, 3)) (As := [.int on]) [] X (c_X10_workOut l dd ks ad E e M nR nC nt nL nW nV nM cn nm mn me li rl on hO hR hC hT hL hW hV hM hB mI mR hmI hmR hpk on hfx) hl0 (kCV_of X 1 gX10_net_X10_workOut rfl rfl rfl (by decide +kernel) hRR ⟨(Nat.le_of_ble_eq_true rfl), (Nat.le_of_ble_eq_true rfl)⟩) hO.1.1 ((cE_ne (by omega)).trans hO.1.2) rfl rfl rfl (Nat.le_of_ble_eq_true rfl) hRR ⟨(Nat.le_of_ble_eq_true rfl), (Nat.le_of_ble_eq_true rfl)⟩ dX10_net_5 (fun zw hp => ?_)
  have hdn := hp
  refine kv_aload_n X 0 dX10_net_8 rfl rfl ?_
  refine kv_getfield X f_X10_net_21 (κ := 0) (fs := [.ref (ad 1), .ref (ad 2), .int on]) (v := .ref (ad 2)) hO.1.1 ((cE_ne (by omega)).trans hO.1.2) rfl dX10_net_9 ?_
  refine kv_calllV (ci := 5) (κ := 2) (r1 := (TX2, 9)) (As := []) [] X (c_X2_netCost l dd ks ad E zw M nR nC nt nL nW nV nM cn nm mn me li rl on hO hR hC hT hL hW hV hM hB ) hl0 (kCV_of X 0 gX10_net_X2_netCost rfl rfl rfl (by decide +kernel) hRR ⟨(Nat.le_of_ble_eq_true rfl), (Nat.le_of_ble_eq_true rfl)⟩) hO.2.2.1.1 ((cE_ne (by omega)).trans hO.2.2.1.2) rfl rfl rfl (Nat.le_of_ble_eq_true rfl) hRR ⟨(Nat.le_of_ble_eq_true rfl), (Nat.le_of_ble_eq_true rfl)⟩ dX10_net_12 (fun r z hp => ?_)
  obtain ⟨rfl, rfl⟩ := hp
  exact kv_lreturn X hr (Nat.le_of_ble_eq_true rfl) (Nat.le_of_ble_eq_true rfl) ⟨zw, ⟨hdn, rfl⟩, rfl⟩ dX10_net_15
theorem f_X10_extra_25 : kF wsX10_extra RX10 25 13 2 := ⟨_, RX10, TX10, 3, fun _ h => (List.mem_cons_of_mem _ (List.mem_append_left _ (List.mem_append_left _ (List.mem_append_left _ (List.mem_append_left _ (List.mem_append_left _ (List.mem_append_left _ (List.mem_append_left _ (List.mem_append_left _ (List.mem_append_left _ (List.mem_append_left _ (List.mem_append_left _ (List.mem_append_left _ (List.mem_append_right _ h)))))))))))))), (List.mem_cons_of_mem _ (List.mem_append_left _ (List.mem_append_left _ (List.mem_append_left _ (List.mem_append_left _ (List.mem_append_left _ (List.mem_append_left _ (List.mem_append_left _ (List.mem_append_left _ (List.mem_append_left _ (List.mem_append_left _ (List.mem_append_left _ (List.mem_append_left _ (List.mem_append_left _ (List.mem_append_left _ (List.mem_of_getElem? (i := 0) rfl)))))))))))))))), rfl, by decide, rfl⟩
theorem f_X10_extra_21 : kF wsX10_extra RX10 21 13 1 := ⟨_, RX10, TX10, 3, fun _ h => (List.mem_cons_of_mem _ (List.mem_append_left _ (List.mem_append_left _ (List.mem_append_left _ (List.mem_append_left _ (List.mem_append_left _ (List.mem_append_left _ (List.mem_append_left _ (List.mem_append_left _ (List.mem_append_left _ (List.mem_append_left _ (List.mem_append_left _ (List.mem_append_left _ (List.mem_append_right _ h)))))))))))))), (List.mem_cons_of_mem _ (List.mem_append_left _ (List.mem_append_left _ (List.mem_append_left _ (List.mem_append_left _ (List.mem_append_left _ (List.mem_append_left _ (List.mem_append_left _ (List.mem_append_left _ (List.mem_append_left _ (List.mem_append_left _ (List.mem_append_left _ (List.mem_append_left _ (List.mem_append_left _ (List.mem_append_left _ (List.mem_of_getElem? (i := 1) rfl)))))))))))))))), rfl, by decide, rfl⟩
set_option maxRecDepth 100000 in
set_option maxHeartbeats 4000000 in
theorem c_X10_extra (l : Launch) (dd : kDD) (ks : List Nat) (ad : Nat → Nat) (E : Nat → va_E) (e : eS) (M : mS) (nR nC nt nL nW nV nM : Nat) (cn nm mn me li rl : Nat → Nat) (on : Int32) (hO : cO dd ks ad E on) (hR : cR dd ks ad E M nR) (hC : cC dd ks ad E M nC mn me) (hT : cT dd ks ad E M nt cn nm) (hL : cL dd ks ad E M nL nW li) (hW : cW dd ks ad E M nW rl) (hV : cV dd ks ad E M nV) (hM : cM dd ks ad E M nM) (hB : cB M nR nC nt nL nW nV cn nm mn me li rl) (mI mR : Int32 → Nat → Nat) (hmI : ∀ o j, j < nt → mnt o (M.2.1 22) j nV 0 = nI (mI o j) ∧ mI o j < nt) (hmR : ∀ o j, j < nR → mnt o (M.2.1 23) j nV 0 = nI (mR o j) ∧ mR o j < nR) (hpk : ∀ r, r < nR → 1 ≤ M.2.1 5 r)  (hfx : kFx (M.2.1 13) cn (fun k => mI on (nm k)) (nJ (M.2.1 13) cn (fun k => mI on (nm k)) 2) nt) : kCl l yX10_extra wsX10_extra ({ frames := 9, cells := 0, slots := 0, locals := 202 } : Room) 0 0 dd [.ref (ad 0)] (ks, ad, (cE dd E e)) (kQl (S := eS) (fun r z => cDn M nR nt nL nW nM cn nm mn me li (mI on) (mR on) (nJ (M.2.1 13) cn (fun k => mI on (nm k)) 2) z ∧ r = mex (z.2 23) (M.2.1 4) (M.2.1 5) (M.2.1 3) nR) (fun _ => ks) (fun _ => ad) (fun z => cE dd E z)) := by
  refine kMetl (ws' := _) (cc := cX10_extra) (maxL := 1) (rt := .long) (by decide) rfl (Nat.le_of_ble_eq_true rfl) (fun g X hr hnL hRR hl0 hkn => ?_)
  show kv dd g 0 0 0 [(0, .ref (ad 0))] [] ks ad (cE dd E e)
  have hT12 := hT.1
  have hR12 := hR.1
  have hL10 := hL.1
  have hV4 := hV.1
  have hM4 := hM.1
  have hC4 := hC.1
  have hW40 := hW.1
  obtain ⟨f20, f21, hf20, hf21, hff⟩ := hO.2.2.2.2
  refine kv_aload_n X 0 dX10_extra_0 rfl rfl ?_
  refine kv_aload_n X 0 dX10_extra_1 rfl rfl ?_
  refine kv_getfield X f_X10_extra_25 (κ := 0) (fs := [.ref (ad 1), .ref (ad 2), .int on]) (v := .int on) hO.1.1 ((cE_ne (by omega)).trans hO.1.2) rfl dX10_extra_2 ?_
  refine kv_callvV (ci := 13) (κ := 0) (r1 := (TX10, 3)) (As := [.int on]) [] X (c_X10_workOut l dd ks ad E e M nR nC nt nL nW nV nM cn nm mn me li rl on hO hR hC hT hL hW hV hM hB mI mR hmI hmR hpk on hfx) hl0 (kCV_of X 1 gX10_extra_X10_workOut rfl rfl rfl (by decide +kernel) hRR ⟨(Nat.le_of_ble_eq_true rfl), (Nat.le_of_ble_eq_true rfl)⟩) hO.1.1 ((cE_ne (by omega)).trans hO.1.2) rfl rfl rfl (Nat.le_of_ble_eq_true rfl) hRR ⟨(Nat.le_of_ble_eq_true rfl), (Nat.le_of_ble_eq_true rfl)⟩ dX10_extra_5 (fun zw hp => ?_)
  have hdn := hp
  refine kv_aload_n X 0 dX10_extra_8 rfl rfl ?_
  refine kv_getfield X f_X10_extra_21 (κ := 0) (fs := [.ref (ad 1), .ref (ad 2), .int on]) (v := .ref (ad 2)) hO.1.1 ((cE_ne (by omega)).trans hO.1.2) rfl dX10_extra_9 ?_
  refine kv_calllV (ci := 5) (κ := 2) (r1 := (TX2, 9)) (As := []) [] X (c_X2_extraCost l dd ks ad E zw M nR nC nt nL nW nV nM cn nm mn me li rl on hO hR hC hT hL hW hV hM hB hpk) hl0 (kCV_of X 0 gX10_extra_X2_extraCost rfl rfl rfl (by decide +kernel) hRR ⟨(Nat.le_of_ble_eq_true rfl), (Nat.le_of_ble_eq_true rfl)⟩) hO.2.2.1.1 ((cE_ne (by omega)).trans hO.2.2.1.2) rfl rfl rfl (Nat.le_of_ble_eq_true rfl) hRR ⟨(Nat.le_of_ble_eq_true rfl), (Nat.le_of_ble_eq_true rfl)⟩ dX10_extra_12 (fun r z hp => ?_)
  obtain ⟨rfl, rfl⟩ := hp
  exact kv_lreturn X hr (Nat.le_of_ble_eq_true rfl) (Nat.le_of_ble_eq_true rfl) ⟨zw, ⟨hdn, rfl⟩, rfl⟩ dX10_extra_15
theorem f_X10_total_25 : kF wsX10_total RX10 25 13 2 := ⟨_, RX10, TX10, 3, fun _ h => (List.mem_cons_of_mem _ (List.mem_append_left _ (List.mem_append_left _ (List.mem_append_left _ (List.mem_append_left _ (List.mem_append_left _ (List.mem_append_left _ (List.mem_append_left _ (List.mem_append_left _ (List.mem_append_left _ (List.mem_append_left _ (List.mem_append_left _ (List.mem_append_left _ (List.mem_append_right _ h)))))))))))))), (List.mem_cons_of_mem _ (List.mem_append_left _ (List.mem_append_left _ (List.mem_append_left _ (List.mem_append_left _ (List.mem_append_left _ (List.mem_append_left _ (List.mem_append_left _ (List.mem_append_left _ (List.mem_append_left _ (List.mem_append_left _ (List.mem_append_left _ (List.mem_append_left _ (List.mem_append_left _ (List.mem_append_left _ (List.mem_of_getElem? (i := 0) rfl)))))))))))))))), rfl, by decide, rfl⟩
theorem f_X10_total_21 : kF wsX10_total RX10 21 13 1 := ⟨_, RX10, TX10, 3, fun _ h => (List.mem_cons_of_mem _ (List.mem_append_left _ (List.mem_append_left _ (List.mem_append_left _ (List.mem_append_left _ (List.mem_append_left _ (List.mem_append_left _ (List.mem_append_left _ (List.mem_append_left _ (List.mem_append_left _ (List.mem_append_left _ (List.mem_append_left _ (List.mem_append_left _ (List.mem_append_right _ h)))))))))))))), (List.mem_cons_of_mem _ (List.mem_append_left _ (List.mem_append_left _ (List.mem_append_left _ (List.mem_append_left _ (List.mem_append_left _ (List.mem_append_left _ (List.mem_append_left _ (List.mem_append_left _ (List.mem_append_left _ (List.mem_append_left _ (List.mem_append_left _ (List.mem_append_left _ (List.mem_append_left _ (List.mem_append_left _ (List.mem_of_getElem? (i := 1) rfl)))))))))))))))), rfl, by decide, rfl⟩
set_option maxRecDepth 100000 in
set_option maxHeartbeats 4000000 in
theorem c_X10_total (l : Launch) (dd : kDD) (ks : List Nat) (ad : Nat → Nat) (E : Nat → va_E) (e : eS) (M : mS) (nR nC nt nL nW nV nM : Nat) (cn nm mn me li rl : Nat → Nat) (on : Int32) (hO : cO dd ks ad E on) (hR : cR dd ks ad E M nR) (hC : cC dd ks ad E M nC mn me) (hT : cT dd ks ad E M nt cn nm) (hL : cL dd ks ad E M nL nW li) (hW : cW dd ks ad E M nW rl) (hV : cV dd ks ad E M nV) (hM : cM dd ks ad E M nM) (hB : cB M nR nC nt nL nW nV cn nm mn me li rl) (mI mR : Int32 → Nat → Nat) (hmI : ∀ o j, j < nt → mnt o (M.2.1 22) j nV 0 = nI (mI o j) ∧ mI o j < nt) (hmR : ∀ o j, j < nR → mnt o (M.2.1 23) j nV 0 = nI (mR o j) ∧ mR o j < nR) (hpk : ∀ r, r < nR → 1 ≤ M.2.1 5 r)  (hfx : kFx (M.2.1 13) cn (fun k => mI on (nm k)) (nJ (M.2.1 13) cn (fun k => mI on (nm k)) 2) nt) : kCl l yX10_total wsX10_total ({ frames := 9, cells := 0, slots := 0, locals := 202 } : Room) 0 0 dd [.ref (ad 0)] (ks, ad, (cE dd E e)) (kQl (S := eS) (fun r z => cDn M nR nt nL nW nM cn nm mn me li (mI on) (mR on) (nJ (M.2.1 13) cn (fun k => mI on (nm k)) 2) z ∧ r = msumJ (z.2 24) (cou (z.2 23) (M.2.1 3) nR + mex (z.2 23) (M.2.1 4) (M.2.1 5) (M.2.1 3) nR) nM) (fun _ => ks) (fun _ => ad) (fun z => cE dd E z)) := by
  refine kMetl (ws' := _) (cc := cX10_total) (maxL := 1) (rt := .long) (by decide) rfl (Nat.le_of_ble_eq_true rfl) (fun g X hr hnL hRR hl0 hkn => ?_)
  show kv dd g 0 0 0 [(0, .ref (ad 0))] [] ks ad (cE dd E e)
  have hT12 := hT.1
  have hR12 := hR.1
  have hL10 := hL.1
  have hV4 := hV.1
  have hM4 := hM.1
  have hC4 := hC.1
  have hW40 := hW.1
  obtain ⟨f20, f21, hf20, hf21, hff⟩ := hO.2.2.2.2
  refine kv_aload_n X 0 dX10_total_0 rfl rfl ?_
  refine kv_aload_n X 0 dX10_total_1 rfl rfl ?_
  refine kv_getfield X f_X10_total_25 (κ := 0) (fs := [.ref (ad 1), .ref (ad 2), .int on]) (v := .int on) hO.1.1 ((cE_ne (by omega)).trans hO.1.2) rfl dX10_total_2 ?_
  refine kv_callvV (ci := 13) (κ := 0) (r1 := (TX10, 3)) (As := [.int on]) [] X (c_X10_workOut l dd ks ad E e M nR nC nt nL nW nV nM cn nm mn me li rl on hO hR hC hT hL hW hV hM hB mI mR hmI hmR hpk on hfx) hl0 (kCV_of X 1 gX10_total_X10_workOut rfl rfl rfl (by decide +kernel) hRR ⟨(Nat.le_of_ble_eq_true rfl), (Nat.le_of_ble_eq_true rfl)⟩) hO.1.1 ((cE_ne (by omega)).trans hO.1.2) rfl rfl rfl (Nat.le_of_ble_eq_true rfl) hRR ⟨(Nat.le_of_ble_eq_true rfl), (Nat.le_of_ble_eq_true rfl)⟩ dX10_total_5 (fun zw hp => ?_)
  have hdn := hp
  refine kv_aload_n X 0 dX10_total_8 rfl rfl ?_
  refine kv_getfield X f_X10_total_21 (κ := 0) (fs := [.ref (ad 1), .ref (ad 2), .int on]) (v := .ref (ad 2)) hO.1.1 ((cE_ne (by omega)).trans hO.1.2) rfl dX10_total_9 ?_
  refine kv_calllV (ci := 5) (κ := 2) (r1 := (TX2, 9)) (As := []) [] X (c_X2_totalCost l dd ks ad E zw M nR nC nt nL nW nV nM cn nm mn me li rl on hO hR hC hT hL hW hV hM hB hpk) hl0 (kCV_of X 0 gX10_total_X2_totalCost rfl rfl rfl (by decide +kernel) hRR ⟨(Nat.le_of_ble_eq_true rfl), (Nat.le_of_ble_eq_true rfl)⟩) hO.2.2.1.1 ((cE_ne (by omega)).trans hO.2.2.1.2) rfl rfl rfl (Nat.le_of_ble_eq_true rfl) hRR ⟨(Nat.le_of_ble_eq_true rfl), (Nat.le_of_ble_eq_true rfl)⟩ dX10_total_12 (fun r z hp => ?_)
  obtain ⟨rfl, rfl⟩ := hp
  exact kv_lreturn X hr (Nat.le_of_ble_eq_true rfl) (Nat.le_of_ble_eq_true rfl) ⟨zw, ⟨hdn, rfl⟩, rfl⟩ dX10_total_15
theorem f_X10_rows_10 : kF wsX10_rows RX10 10 13 0 := ⟨_, RX10, TX10, 3, fun _ h => (List.mem_cons_of_mem _ (List.mem_append_left _ (List.mem_append_left _ (List.mem_append_right _ h)))), (List.mem_cons_of_mem _ (List.mem_append_left _ (List.mem_append_left _ (List.mem_append_left _ (List.mem_of_getElem? (i := 0) rfl))))), rfl, by decide, rfl⟩
theorem f_X10_rows_169 : kF wsX10_rows RX10 169 9 4 := ⟨_, RX6, TX6, 7, fun _ h => (List.mem_cons_of_mem _ (List.mem_append_left _ (List.mem_append_right _ h))), (List.mem_cons_of_mem _ (List.mem_append_left _ (List.mem_append_left _ (List.mem_append_left _ (List.mem_of_getElem? (i := 1) rfl))))), rfl, by decide, rfl⟩
set_option maxRecDepth 100000 in
set_option maxHeartbeats 4000000 in
theorem c_X10_rows (l : Launch) (dd : kDD) (ks : List Nat) (ad : Nat → Nat) (E : Nat → va_E) (e : eS) (M : mS) (nR nC nt nL nW nV nM : Nat) (cn nm mn me li rl : Nat → Nat) (on : Int32) (hO : cO dd ks ad E on) (hR : cR dd ks ad E M nR) (hC : cC dd ks ad E M nC mn me) (hT : cT dd ks ad E M nt cn nm) (hL : cL dd ks ad E M nL nW li) (hW : cW dd ks ad E M nW rl) (hV : cV dd ks ad E M nV) (hM : cM dd ks ad E M nM) (hB : cB M nR nC nt nL nW nV cn nm mn me li rl) (mI mR : Int32 → Nat → Nat) (hmI : ∀ o j, j < nt → mnt o (M.2.1 22) j nV 0 = nI (mI o j) ∧ mI o j < nt) (hmR : ∀ o j, j < nR → mnt o (M.2.1 23) j nV 0 = nI (mR o j) ∧ mR o j < nR) (hpk : ∀ r, r < nR → 1 ≤ M.2.1 5 r)  : kCi l yX10_rows wsX10_rows ({ frames := 1, cells := 0, slots := 0, locals := 20 } : Room) 0 0 dd [.ref (ad 0)] (ks, ad, (cE dd E e)) (kQi (S := eS) (fun r z => e = z ∧ r = nI nW) (fun _ => ks) (fun _ => ad) (fun z => cE dd E z)) := by
  refine kMeti (ws' := _) (cc := cX10_rows) (maxL := 1) (rt := .int) (by decide) rfl (Nat.le_of_ble_eq_true rfl) (fun g X hr hnL hRR hl0 hkn => ?_)
  show kv dd g 0 0 0 [(0, .ref (ad 0))] [] ks ad (cE dd E e)
  have hT12 := hT.1
  have hR12 := hR.1
  have hL10 := hL.1
  have hV4 := hV.1
  have hM4 := hM.1
  have hC4 := hC.1
  have hW40 := hW.1
  obtain ⟨f20, f21, hf20, hf21, hff⟩ := hO.2.2.2.2
  refine kv_aload_n X 0 dX10_rows_0 rfl rfl ?_
  refine kv_getfield X f_X10_rows_10 (κ := 0) (fs := [.ref (ad 1), .ref (ad 2), .int on]) (v := .ref (ad 1)) hO.1.1 ((cE_ne (by omega)).trans hO.1.2) rfl dX10_rows_1 ?_
  refine kv_getfield X f_X10_rows_169 (κ := 1) (fs := [.ref (ad 3), .ref (ad 4), .ref (ad 5), .ref (ad 6), .ref (ad 7), .ref (ad 8), .ref (ad 9)]) (v := .ref (ad 7)) hO.2.1.1 ((cE_ne (by omega)).trans hO.2.1.2) rfl dX10_rows_4 ?_
  obtain ⟨_, _, o7⟩ := kLs_obj (dd := dd) (ks := ks) (ad := ad) (E := (cE dd E e)) (kLs_cE hW.2.1 (by omega) (by omega) (fun i hi => by omega))
  refine kv_calliV (ci := 2) (κ := 7) (r1 := (TJx4a65c, 3)) (As := []) [] X (c_Jx4a65c_size_8abf5 l dd ks ad (cE dd E e) (7) (14) (nW) (fun k => 224 + k) 11 (kLs_cE hW.2.1 (by omega) (by omega) (fun i hi => by omega))) hl0 (kCV_of X 0 gX10_rows_Jx4a65c_size_8abf5 rfl rfl rfl (by decide +kernel) hRR ⟨(Nat.le_of_ble_eq_true rfl), (Nat.le_of_ble_eq_true rfl)⟩) hW.2.1.1 o7 rfl rfl rfl (Nat.le_of_ble_eq_true rfl) hRR ⟨(Nat.le_of_ble_eq_true rfl), (Nat.le_of_ble_eq_true rfl)⟩ dX10_rows_7 (fun r z hp => ?_)
  obtain rfl := hp
  exact kv_ireturn X hr (Nat.le_of_ble_eq_true rfl) (Nat.le_of_ble_eq_true rfl) ⟨e, ⟨rfl, rfl⟩, rfl⟩ dX10_rows_10
theorem f_X10_measure_10 : kF wsX10_measure RX10 10 13 0 := ⟨_, RX10, TX10, 3, fun _ h => (List.mem_cons_of_mem _ (List.mem_append_left _ (List.mem_append_left _ (List.mem_append_left _ (List.mem_append_left _ (List.mem_append_right _ h)))))), (List.mem_cons_of_mem _ (List.mem_append_left _ (List.mem_append_left _ (List.mem_append_left _ (List.mem_append_left _ (List.mem_append_left _ (List.mem_append_left _ (List.mem_of_getElem? (i := 0) rfl)))))))), rfl, by decide, rfl⟩
theorem f_X10_measure_169 : kF wsX10_measure RX10 169 9 4 := ⟨_, RX6, TX6, 7, fun _ h => (List.mem_cons_of_mem _ (List.mem_append_left _ (List.mem_append_left _ (List.mem_append_left _ (List.mem_append_right _ h))))), (List.mem_cons_of_mem _ (List.mem_append_left _ (List.mem_append_left _ (List.mem_append_left _ (List.mem_append_left _ (List.mem_append_left _ (List.mem_append_left _ (List.mem_of_getElem? (i := 1) rfl)))))))), rfl, by decide, rfl⟩
theorem f_X10_measure_190 : kF wsX10_measure RX10 190 11 1 := ⟨_, RX8, TX8, 2, fun _ h => (List.mem_cons_of_mem _ (List.mem_append_left _ (List.mem_append_left _ (List.mem_append_right _ h)))), (List.mem_cons_of_mem _ (List.mem_append_left _ (List.mem_append_left _ (List.mem_append_left _ (List.mem_append_left _ (List.mem_append_left _ (List.mem_append_left _ (List.mem_of_getElem? (i := 3) rfl)))))))), rfl, by decide, rfl⟩
set_option maxRecDepth 100000 in
set_option maxHeartbeats 4000000 in
theorem c_X10_measure (l : Launch) (dd : kDD) (ks : List Nat) (ad : Nat → Nat) (E : Nat → va_E) (e : eS) (M : mS) (nR nC nt nL nW nV nM : Nat) (cn nm mn me li rl : Nat → Nat) (on : Int32) (hO : cO dd ks ad E on) (hR : cR dd ks ad E M nR) (hC : cC dd ks ad E M nC mn me) (hT : cT dd ks ad E M nt cn nm) (hL : cL dd ks ad E M nL nW li) (hW : cW dd ks ad E M nW rl) (hV : cV dd ks ad E M nV) (hM : cM dd ks ad E M nM) (hB : cB M nR nC nt nL nW nV cn nm mn me li rl) (mI mR : Int32 → Nat → Nat) (hmI : ∀ o j, j < nt → mnt o (M.2.1 22) j nV 0 = nI (mI o j) ∧ mI o j < nt) (hmR : ∀ o j, j < nR → mnt o (M.2.1 23) j nV 0 = nI (mR o j) ∧ mR o j < nR) (hpk : ∀ r, r < nR → 1 ≤ M.2.1 5 r) (v : Int32) : kCiX l yX10_measure wsX10_measure ({ frames := 7, cells := 1, slots := 6, locals := 121 } : Room) 1 6 dd [.ref (ad 0), .int v] (ks, ad, (cE dd E e)) (kQi (S := eS) (fun r z => e = z ∧ ∃ j, (j < nW ∧ v = nI j) ∧ r = M.2.1 20 j) (fun _ => ks) (fun _ => ad) (fun z => cE dd E z)) (fun X9 u9 => ∃ e9, u9 = (ks, ad, cE dd E e9) ∧ ((X9 = "java/lang/IndexOutOfBoundsException" ∧ ¬ (∃ j, j < nW ∧ v = nI j)))) := by
  refine kMetiX (ws' := _) (cc := cX10_measure) (maxL := 2) (rt := .int) (by decide) rfl (Nat.le_of_ble_eq_true rfl) (fun g X hr hRX hnL hRR hl0 hkn => ?_)
  show kv dd g 0 0 0 [(0, .ref (ad 0)), (1, .int v)] [] ks ad (cE dd E e)
  have hT12 := hT.1
  have hR12 := hR.1
  have hL10 := hL.1
  have hV4 := hV.1
  have hM4 := hM.1
  have hC4 := hC.1
  have hW40 := hW.1
  obtain ⟨f20, f21, hf20, hf21, hff⟩ := hO.2.2.2.2
  refine kv_aload_n X 0 dX10_measure_0 rfl rfl ?_
  refine kv_iload_n X 1 dX10_measure_1 rfl rfl ?_
  refine kv_callvXV (ci := 13) (κ := 0) (r1 := (TX10, 3)) (As := [.int v]) [] X (c_X10_checkRow l dd ks ad E e M nR nC nt nL nW nV nM cn nm mn me li rl on hO hR hC hT hL hW hV hM hB v) hl0 (kCV_of X 1 gX10_measure_X10_checkRow rfl rfl rfl (by decide +kernel) hRR ⟨(Nat.le_of_ble_eq_true rfl), (Nat.le_of_ble_eq_true rfl)⟩) hO.1.1 ((cE_ne (by omega)).trans hO.1.2) rfl hRX ⟨(Nat.le_of_ble_eq_true rfl), (Nat.le_of_ble_eq_true rfl)⟩ (fun _ _ h => ⟨e, h.2.1, ⟨h.1, h.2.2⟩⟩) rfl rfl (Nat.le_of_ble_eq_true rfl) hRR ⟨(Nat.le_of_ble_eq_true rfl), (Nat.le_of_ble_eq_true rfl)⟩ dX10_measure_2 (fun z hp => ?_)
  obtain ⟨rfl, j2, h2, rfl⟩ := hp
  refine kv_aload_n X 0 dX10_measure_5 rfl rfl ?_
  refine kv_getfield X f_X10_measure_10 (κ := 0) (fs := [.ref (ad 1), .ref (ad 2), .int on]) (v := .ref (ad 1)) hO.1.1 ((cE_ne (by omega)).trans hO.1.2) rfl dX10_measure_6 ?_
  refine kv_getfield X f_X10_measure_169 (κ := 1) (fs := [.ref (ad 3), .ref (ad 4), .ref (ad 5), .ref (ad 6), .ref (ad 7), .ref (ad 8), .ref (ad 9)]) (v := .ref (ad 7)) hO.2.1.1 ((cE_ne (by omega)).trans hO.2.1.2) rfl dX10_measure_9 ?_
  refine kv_iload_n X 1 dX10_measure_12 rfl rfl ?_
  obtain ⟨_, _, o13⟩ := kLs_obj (dd := dd) (ks := ks) (ad := ad) (E := (cE dd E e)) (kLs_cE hW.2.1 (by omega) (by omega) (fun i hi => by omega))
  refine kv_callqV (ci := 2) (κ := 7) (r1 := (TJx4a65c, 3)) (As := [.int (nI j2)]) [] X (c_Jx4a65c_get_915e3 l dd ks ad (cE dd E e) (7) (14) (nW) (fun k => 224 + k) 11 (kLs_cE hW.2.1 (by omega) (by omega) (fun i hi => by omega)) j2 (by omega)) hl0 (kCV_of X 1 gX10_measure_Jx4a65c_get_915e3 rfl rfl rfl (by decide +kernel) hRR ⟨(Nat.le_of_ble_eq_true rfl), (Nat.le_of_ble_eq_true rfl)⟩) hW.2.1.1 o13 rfl rfl rfl (Nat.le_of_ble_eq_true rfl) hRR ⟨(Nat.le_of_ble_eq_true rfl), (Nat.le_of_ble_eq_true rfl)⟩ dX10_measure_13 (fun r z hp => ?_)
  obtain rfl := hp
  refine kv_topg (.ref (ad (224 + j2))) rfl ?_
  refine kv_cast X (κ := 224 + j2) (ci := 11) (fs := [.int (nI (rl j2)), .int (M.2.1 20 j2)]) (r := (RX8, TX8, 2)) (List.mem_cons_of_mem _ (List.mem_append_left _ (List.mem_append_left _ (List.mem_append_left _ (List.mem_append_left _ (List.mem_append_left _ (List.mem_append_left _ (List.mem_of_getElem? (i := 2) rfl)))))))) (hW.2.2 j2 (by omega)).1 ((cE_ne (by omega)).trans (hW.2.2 j2 (by omega)).2) rfl dX10_measure_16 ?_
  refine kv_getfield X f_X10_measure_190 (κ := 224 + j2) (fs := [.int (nI (rl j2)), .int (M.2.1 20 j2)]) (v := .int (M.2.1 20 j2)) (hW.2.2 j2 (by omega)).1 ((cE_ne (by omega)).trans (hW.2.2 j2 (by omega)).2) rfl dX10_measure_19 ?_
  exact kv_ireturn X hr (Nat.le_of_ble_eq_true rfl) (Nat.le_of_ble_eq_true rfl) ⟨e, ⟨rfl, j2, ⟨h2, rfl⟩, rfl⟩, rfl⟩ dX10_measure_22
theorem f_X10_quantity_10 : kF wsX10_quantity RX10 10 13 0 := ⟨_, RX10, TX10, 3, fun _ h => (List.mem_cons_of_mem _ (List.mem_append_left _ (List.mem_append_left _ (List.mem_append_left _ (List.mem_append_left _ (List.mem_append_right _ h)))))), (List.mem_cons_of_mem _ (List.mem_append_left _ (List.mem_append_left _ (List.mem_append_left _ (List.mem_append_left _ (List.mem_append_left _ (List.mem_append_left _ (List.mem_of_getElem? (i := 0) rfl)))))))), rfl, by decide, rfl⟩
theorem f_X10_quantity_153 : kF wsX10_quantity RX10 153 9 3 := ⟨_, RX6, TX6, 7, fun _ h => (List.mem_cons_of_mem _ (List.mem_append_left _ (List.mem_append_left _ (List.mem_append_left _ (List.mem_append_right _ h))))), (List.mem_cons_of_mem _ (List.mem_append_left _ (List.mem_append_left _ (List.mem_append_left _ (List.mem_append_left _ (List.mem_append_left _ (List.mem_append_left _ (List.mem_of_getElem? (i := 1) rfl)))))))), rfl, by decide, rfl⟩
theorem f_X10_quantity_196 : kF wsX10_quantity RX10 196 7 1 := ⟨_, RX4, TX4, 2, fun _ h => (List.mem_cons_of_mem _ (List.mem_append_left _ (List.mem_append_left _ (List.mem_append_right _ h)))), (List.mem_cons_of_mem _ (List.mem_append_left _ (List.mem_append_left _ (List.mem_append_left _ (List.mem_append_left _ (List.mem_append_left _ (List.mem_append_left _ (List.mem_of_getElem? (i := 3) rfl)))))))), rfl, by decide, rfl⟩
set_option maxRecDepth 100000 in
set_option maxHeartbeats 4000000 in
theorem c_X10_quantity (l : Launch) (dd : kDD) (ks : List Nat) (ad : Nat → Nat) (E : Nat → va_E) (e : eS) (M : mS) (nR nC nt nL nW nV nM : Nat) (cn nm mn me li rl : Nat → Nat) (on : Int32) (hO : cO dd ks ad E on) (hR : cR dd ks ad E M nR) (hC : cC dd ks ad E M nC mn me) (hT : cT dd ks ad E M nt cn nm) (hL : cL dd ks ad E M nL nW li) (hW : cW dd ks ad E M nW rl) (hV : cV dd ks ad E M nV) (hM : cM dd ks ad E M nM) (hB : cB M nR nC nt nL nW nV cn nm mn me li rl) (mI mR : Int32 → Nat → Nat) (hmI : ∀ o j, j < nt → mnt o (M.2.1 22) j nV 0 = nI (mI o j) ∧ mI o j < nt) (hmR : ∀ o j, j < nR → mnt o (M.2.1 23) j nV 0 = nI (mR o j) ∧ mR o j < nR) (hpk : ∀ r, r < nR → 1 ≤ M.2.1 5 r) (v : Int32) : kCiX l yX10_quantity wsX10_quantity ({ frames := 7, cells := 1, slots := 6, locals := 121 } : Room) 1 6 dd [.ref (ad 0), .int v] (ks, ad, (cE dd E e)) (kQi (S := eS) (fun r z => e = z ∧ ∃ j, (j < nL ∧ v = nI j) ∧ r = mq (M.2.1 19) (M.2.1 20) (nI j) nW) (fun _ => ks) (fun _ => ad) (fun z => cE dd E z)) (fun X9 u9 => ∃ e9, u9 = (ks, ad, cE dd E e9) ∧ ((X9 = "java/lang/IndexOutOfBoundsException" ∧ ¬ (∃ j, j < nL ∧ v = nI j)))) := by
  refine kMetiX (ws' := _) (cc := cX10_quantity) (maxL := 2) (rt := .int) (by decide) rfl (Nat.le_of_ble_eq_true rfl) (fun g X hr hRX hnL hRR hl0 hkn => ?_)
  show kv dd g 0 0 0 [(0, .ref (ad 0)), (1, .int v)] [] ks ad (cE dd E e)
  have hT12 := hT.1
  have hR12 := hR.1
  have hL10 := hL.1
  have hV4 := hV.1
  have hM4 := hM.1
  have hC4 := hC.1
  have hW40 := hW.1
  obtain ⟨f20, f21, hf20, hf21, hff⟩ := hO.2.2.2.2
  refine kv_aload_n X 0 dX10_quantity_0 rfl rfl ?_
  refine kv_iload_n X 1 dX10_quantity_1 rfl rfl ?_
  refine kv_callvXV (ci := 13) (κ := 0) (r1 := (TX10, 3)) (As := [.int v]) [] X (c_X10_checkLine l dd ks ad E e M nR nC nt nL nW nV nM cn nm mn me li rl on hO hR hC hT hL hW hV hM hB v) hl0 (kCV_of X 1 gX10_quantity_X10_checkLine rfl rfl rfl (by decide +kernel) hRR ⟨(Nat.le_of_ble_eq_true rfl), (Nat.le_of_ble_eq_true rfl)⟩) hO.1.1 ((cE_ne (by omega)).trans hO.1.2) rfl hRX ⟨(Nat.le_of_ble_eq_true rfl), (Nat.le_of_ble_eq_true rfl)⟩ (fun _ _ h => ⟨e, h.2.1, ⟨h.1, h.2.2⟩⟩) rfl rfl (Nat.le_of_ble_eq_true rfl) hRR ⟨(Nat.le_of_ble_eq_true rfl), (Nat.le_of_ble_eq_true rfl)⟩ dX10_quantity_2 (fun z hp => ?_)
  obtain ⟨rfl, j2, h2, rfl⟩ := hp
  refine kv_aload_n X 0 dX10_quantity_5 rfl rfl ?_
  refine kv_getfield X f_X10_quantity_10 (κ := 0) (fs := [.ref (ad 1), .ref (ad 2), .int on]) (v := .ref (ad 1)) hO.1.1 ((cE_ne (by omega)).trans hO.1.2) rfl dX10_quantity_6 ?_
  refine kv_getfield X f_X10_quantity_153 (κ := 1) (fs := [.ref (ad 3), .ref (ad 4), .ref (ad 5), .ref (ad 6), .ref (ad 7), .ref (ad 8), .ref (ad 9)]) (v := .ref (ad 6)) hO.2.1.1 ((cE_ne (by omega)).trans hO.2.1.2) rfl dX10_quantity_9 ?_
  refine kv_iload_n X 1 dX10_quantity_12 rfl rfl ?_
  obtain ⟨_, _, o13⟩ := kLs_obj (dd := dd) (ks := ks) (ad := ad) (E := (cE dd E e)) (kLs_cE hL.2.1 (by omega) (by omega) (fun i hi => by omega))
  refine kv_callqV (ci := 2) (κ := 6) (r1 := (TJx4a65c, 3)) (As := [.int (nI j2)]) [] X (c_Jx4a65c_get_915e3 l dd ks ad (cE dd E e) (6) (13) (nL) (fun l => 208 + l) 7 (kLs_cE hL.2.1 (by omega) (by omega) (fun i hi => by omega)) j2 (by omega)) hl0 (kCV_of X 1 gX10_quantity_Jx4a65c_get_915e3 rfl rfl rfl (by decide +kernel) hRR ⟨(Nat.le_of_ble_eq_true rfl), (Nat.le_of_ble_eq_true rfl)⟩) hL.2.1.1 o13 rfl rfl rfl (Nat.le_of_ble_eq_true rfl) hRR ⟨(Nat.le_of_ble_eq_true rfl), (Nat.le_of_ble_eq_true rfl)⟩ dX10_quantity_13 (fun r z hp => ?_)
  obtain rfl := hp
  refine kv_topg (.ref (ad (208 + j2))) rfl ?_
  refine kv_cast X (κ := 208 + j2) (ci := 7) (fs := [.int (nI (li j2)), .int (mq (M.2.1 19) (M.2.1 20) (nI j2) nW)]) (r := (RX4, TX4, 2)) (List.mem_cons_of_mem _ (List.mem_append_left _ (List.mem_append_left _ (List.mem_append_left _ (List.mem_append_left _ (List.mem_append_left _ (List.mem_append_left _ (List.mem_of_getElem? (i := 2) rfl)))))))) (hL.2.2 j2 (by omega)).1 ((cE_ne (by omega)).trans (hL.2.2 j2 (by omega)).2) rfl dX10_quantity_16 ?_
  refine kv_getfield X f_X10_quantity_196 (κ := 208 + j2) (fs := [.int (nI (li j2)), .int (mq (M.2.1 19) (M.2.1 20) (nI j2) nW)]) (v := .int (mq (M.2.1 19) (M.2.1 20) (nI j2) nW)) (hL.2.2 j2 (by omega)).1 ((cE_ne (by omega)).trans (hL.2.2 j2 (by omega)).2) rfl dX10_quantity_19 ?_
  exact kv_ireturn X hr (Nat.le_of_ble_eq_true rfl) (Nat.le_of_ble_eq_true rfl) ⟨e, ⟨rfl, j2, ⟨h2, rfl⟩, rfl⟩, rfl⟩ dX10_quantity_22
theorem f_X10_depthOf_21 : kF wsX10_depthOf RX10 21 13 1 := ⟨_, RX10, TX10, 3, fun _ h => (List.mem_cons_of_mem _ (List.mem_append_left _ (List.mem_append_left _ (List.mem_append_left _ (List.mem_append_left _ (List.mem_append_left _ (List.mem_append_left _ (List.mem_append_left _ (List.mem_append_left _ (List.mem_append_right _ h)))))))))), (List.mem_cons_of_mem _ (List.mem_append_left _ (List.mem_append_left _ (List.mem_append_left _ (List.mem_append_left _ (List.mem_append_left _ (List.mem_append_left _ (List.mem_append_left _ (List.mem_append_left _ (List.mem_append_left _ (List.mem_append_left _ (List.mem_of_getElem? (i := 0) rfl)))))))))))), rfl, by decide, rfl⟩
theorem f_X10_depthOf_25 : kF wsX10_depthOf RX10 25 13 2 := ⟨_, RX10, TX10, 3, fun _ h => (List.mem_cons_of_mem _ (List.mem_append_left _ (List.mem_append_left _ (List.mem_append_left _ (List.mem_append_left _ (List.mem_append_left _ (List.mem_append_left _ (List.mem_append_left _ (List.mem_append_left _ (List.mem_append_right _ h)))))))))), (List.mem_cons_of_mem _ (List.mem_append_left _ (List.mem_append_left _ (List.mem_append_left _ (List.mem_append_left _ (List.mem_append_left _ (List.mem_append_left _ (List.mem_append_left _ (List.mem_append_left _ (List.mem_append_left _ (List.mem_append_left _ (List.mem_of_getElem? (i := 1) rfl)))))))))))), rfl, by decide, rfl⟩
set_option maxRecDepth 100000 in
set_option maxHeartbeats 4000000 in
theorem c_X10_depthOf (l : Launch) (dd : kDD) (ks : List Nat) (ad : Nat → Nat) (E : Nat → va_E) (e : eS) (M : mS) (nR nC nt nL nW nV nM : Nat) (cn nm mn me li rl : Nat → Nat) (on : Int32) (hO : cO dd ks ad E on) (hR : cR dd ks ad E M nR) (hC : cC dd ks ad E M nC mn me) (hT : cT dd ks ad E M nt cn nm) (hL : cL dd ks ad E M nL nW li) (hW : cW dd ks ad E M nW rl) (hV : cV dd ks ad E M nV) (hM : cM dd ks ad E M nM) (hB : cB M nR nC nt nL nW nV cn nm mn me li rl) (mI mR : Int32 → Nat → Nat) (hmI : ∀ o j, j < nt → mnt o (M.2.1 22) j nV 0 = nI (mI o j) ∧ mI o j < nt) (hmR : ∀ o j, j < nR → mnt o (M.2.1 23) j nV 0 = nI (mR o j) ∧ mR o j < nR) (hpk : ∀ r, r < nR → 1 ≤ M.2.1 5 r) (v : Int32) (hfx : kFx (M.2.1 13) cn (fun k => mI on (nm k)) (nJ (M.2.1 13) cn (fun k => mI on (nm k)) 2) nt) : kCiX l yX10_depthOf wsX10_depthOf ({ frames := 7, cells := 1, slots := 6, locals := 133 } : Room) 1 6 dd [.ref (ad 0), .int v] (ks, ad, (cE dd E e)) (kQi (S := eS) (fun r z => ∃ j, (j < nt ∧ v = nI j) ∧ r = nI ((nJ (M.2.1 13) cn (fun k => mI on (nm k)) 2) j)) (fun _ => ks) (fun _ => ad) (fun z => cE dd E z)) (fun X9 u9 => ∃ e9, u9 = (ks, ad, cE dd E e9) ∧ ((X9 = "java/lang/IndexOutOfBoundsException" ∧ ¬ (∃ j, j < nt ∧ v = nI j)))) := by
  refine kMetiX (ws' := _) (cc := cX10_depthOf) (maxL := 2) (rt := .int) (by decide) rfl (Nat.le_of_ble_eq_true rfl) (fun g X hr hRX hnL hRR hl0 hkn => ?_)
  show kv dd g 0 0 0 [(0, .ref (ad 0)), (1, .int v)] [] ks ad (cE dd E e)
  have hT12 := hT.1
  have hR12 := hR.1
  have hL10 := hL.1
  have hV4 := hV.1
  have hM4 := hM.1
  have hC4 := hC.1
  have hW40 := hW.1
  obtain ⟨f20, f21, hf20, hf21, hff⟩ := hO.2.2.2.2
  refine kv_aload_n X 0 dX10_depthOf_0 rfl rfl ?_
  refine kv_iload_n X 1 dX10_depthOf_1 rfl rfl ?_
  refine kv_callvXV (ci := 13) (κ := 0) (r1 := (TX10, 3)) (As := [.int v]) [] X (c_X10_checkItem l dd ks ad E e M nR nC nt nL nW nV nM cn nm mn me li rl on hO hR hC hT hL hW hV hM hB v) hl0 (kCV_of X 1 gX10_depthOf_X10_checkItem rfl rfl rfl (by decide +kernel) hRR ⟨(Nat.le_of_ble_eq_true rfl), (Nat.le_of_ble_eq_true rfl)⟩) hO.1.1 ((cE_ne (by omega)).trans hO.1.2) rfl hRX ⟨(Nat.le_of_ble_eq_true rfl), (Nat.le_of_ble_eq_true rfl)⟩ (fun _ _ h => ⟨e, h.2.1, ⟨h.1, h.2.2⟩⟩) rfl rfl (Nat.le_of_ble_eq_true rfl) hRR ⟨(Nat.le_of_ble_eq_true rfl), (Nat.le_of_ble_eq_true rfl)⟩ dX10_depthOf_2 (fun z hp => ?_)
  obtain ⟨rfl, j2, h2, rfl⟩ := hp
  refine kv_aload_n X 0 dX10_depthOf_5 rfl rfl ?_
  refine kv_getfield X f_X10_depthOf_21 (κ := 0) (fs := [.ref (ad 1), .ref (ad 2), .int on]) (v := .ref (ad 2)) hO.1.1 ((cE_ne (by omega)).trans hO.1.2) rfl dX10_depthOf_6 ?_
  refine kv_aload_n X 0 dX10_depthOf_9 rfl rfl ?_
  refine kv_getfield X f_X10_depthOf_25 (κ := 0) (fs := [.ref (ad 1), .ref (ad 2), .int on]) (v := .int on) hO.1.1 ((cE_ne (by omega)).trans hO.1.2) rfl dX10_depthOf_10 ?_
  refine kv_calliV (ci := 5) (κ := 2) (r1 := (TX2, 9)) (As := [.int on]) [] X (c_X2_choose l dd ks ad E e M nR nC nt nL nW nV nM cn nm mn me li rl on hO hR hC hT hL hW hV hM hB on (mI on) (mR on) (hmI on) (hmR on)) hl0 (kCV_of X 1 gX10_depthOf_X2_choose rfl rfl rfl (by decide +kernel) hRR ⟨(Nat.le_of_ble_eq_true rfl), (Nat.le_of_ble_eq_true rfl)⟩) hO.2.2.1.1 ((cE_ne (by omega)).trans hO.2.2.1.2) rfl rfl rfl (Nat.le_of_ble_eq_true rfl) hRR ⟨(Nat.le_of_ble_eq_true rfl), (Nat.le_of_ble_eq_true rfl)⟩ dX10_depthOf_13 (fun r z hp => ?_)
  obtain ⟨rfl, hz13⟩ := hp
  refine kv_pop X dX10_depthOf_16 rfl ?_
  refine kv_aload_n X 0 dX10_depthOf_17 rfl rfl ?_
  refine kv_getfield X f_X10_depthOf_21 (κ := 0) (fs := [.ref (ad 1), .ref (ad 2), .int on]) (v := .ref (ad 2)) hO.1.1 ((cE_ne (by omega)).trans hO.1.2) rfl dX10_depthOf_18 ?_
  refine kv_getfieldN X (kk := 3) (T := TX2) (N := 9) (Cn := RX2) (ref := RX2) (host := "Takeoff") (κ := 2) (fs := [.ref (ad 1), .ref (ad 17), .ref (ad 18), .ref (ad 19), .ref (ad 20), .ref (ad 21), .ref (ad 22), .ref (ad 23), .ref (ad 24)]) (v := .ref (ad 19)) (by decide) (fun _ h => (List.mem_cons_of_mem _ (List.mem_append_left _ (List.mem_append_left _ (List.mem_append_left _ (List.mem_append_left _ (List.mem_append_left _ (List.mem_append_left _ (List.mem_append_left _ (List.mem_append_right _ h)))))))))) rfl (by decide) rfl hO.2.2.1.1 ((cE_ne (by omega)).trans hO.2.2.1.2) rfl dX10_depthOf_21 ?_
  refine kv_iload_n X 1 dX10_depthOf_24 rfl rfl ?_
  refine ke_iald X (19) (j := j2) (hO.2.2.2.1 _ (by omega) (by omega)) (by omega) (by omega) dX10_depthOf_25 ?_
  refine kv_topi ((cpt (M.2.1 13) cn (fun k => mI on (nm k)) nt (mset (e.1 19) (fun _ => 1) 12) 3) j2) rfl ?_
  exact kv_ireturn X hr (Nat.le_of_ble_eq_true rfl) (Nat.le_of_ble_eq_true rfl) ⟨((va_up (va_up (va_up e.1 17 (mset (e.1 17) (fun j => nI (mI on j)) nt)) 18 (mset (e.1 18) (fun j => nI (mR on j)) nR)) 19 (cpt (M.2.1 13) cn (fun k => mI on (nm k)) nt (mset (e.1 19) (fun _ => 1) 12) 3)), e.2), ⟨j2, ⟨h2, rfl⟩, cpt_dep hT.1 hfx (fun j hj => mset_in (by omega)) j2 h2⟩, rfl⟩ dX10_depthOf_26
theorem f_X10_amountByTree_21 : kF wsX10_amountByTree RX10 21 13 1 := ⟨_, RX10, TX10, 3, fun _ h => (List.mem_cons_of_mem _ (List.mem_append_left _ (List.mem_append_left _ (List.mem_append_left _ (List.mem_append_left _ (List.mem_append_left _ (List.mem_append_left _ (List.mem_append_left _ (List.mem_append_left _ (List.mem_append_left _ (List.mem_append_left _ (List.mem_append_right _ h)))))))))))), (List.mem_cons_of_mem _ (List.mem_append_left _ (List.mem_append_left _ (List.mem_append_left _ (List.mem_append_left _ (List.mem_append_left _ (List.mem_append_left _ (List.mem_append_left _ (List.mem_append_left _ (List.mem_append_left _ (List.mem_append_left _ (List.mem_append_left _ (List.mem_append_left _ (List.mem_of_getElem? (i := 0) rfl)))))))))))))), rfl, by decide, rfl⟩
theorem f_X10_amountByTree_25 : kF wsX10_amountByTree RX10 25 13 2 := ⟨_, RX10, TX10, 3, fun _ h => (List.mem_cons_of_mem _ (List.mem_append_left _ (List.mem_append_left _ (List.mem_append_left _ (List.mem_append_left _ (List.mem_append_left _ (List.mem_append_left _ (List.mem_append_left _ (List.mem_append_left _ (List.mem_append_left _ (List.mem_append_left _ (List.mem_append_right _ h)))))))))))), (List.mem_cons_of_mem _ (List.mem_append_left _ (List.mem_append_left _ (List.mem_append_left _ (List.mem_append_left _ (List.mem_append_left _ (List.mem_append_left _ (List.mem_append_left _ (List.mem_append_left _ (List.mem_append_left _ (List.mem_append_left _ (List.mem_append_left _ (List.mem_append_left _ (List.mem_of_getElem? (i := 1) rfl)))))))))))))), rfl, by decide, rfl⟩
set_option maxRecDepth 100000 in
set_option maxHeartbeats 4000000 in
theorem c_X10_amountByTree (l : Launch) (dd : kDD) (ks : List Nat) (ad : Nat → Nat) (E : Nat → va_E) (e : eS) (M : mS) (nR nC nt nL nW nV nM : Nat) (cn nm mn me li rl : Nat → Nat) (on : Int32) (hO : cO dd ks ad E on) (hR : cR dd ks ad E M nR) (hC : cC dd ks ad E M nC mn me) (hT : cT dd ks ad E M nt cn nm) (hL : cL dd ks ad E M nL nW li) (hW : cW dd ks ad E M nW rl) (hV : cV dd ks ad E M nV) (hM : cM dd ks ad E M nM) (hB : cB M nR nC nt nL nW nV cn nm mn me li rl) (mI mR : Int32 → Nat → Nat) (hmI : ∀ o j, j < nt → mnt o (M.2.1 22) j nV 0 = nI (mI o j) ∧ mI o j < nt) (hmR : ∀ o j, j < nR → mnt o (M.2.1 23) j nV 0 = nI (mR o j) ∧ mR o j < nR) (hpk : ∀ r, r < nR → 1 ≤ M.2.1 5 r) (v : Int32) : kClX l yX10_amountByTree wsX10_amountByTree ({ frames := 11, cells := 1, slots := 6, locals := 268 } : Room) 1 6 dd [.ref (ad 0), .int v] (ks, ad, (cE dd E e)) (kQl (S := eS) (fun r z => ∃ j, (j < nR ∧ v = nI j) ∧ r = msumJ (fun l => (mq (M.2.1 19) (M.2.1 20) (nI l) nW).toInt64 * utr (M.2.1 13) (M.2.1 15) (M.2.1 9) cn nm mn (mR on) me (fun k => mI on (nm k)) j 3 (mI on (li l))) 0 nL) (fun _ => ks) (fun _ => ad) (fun z => cE dd E z)) (fun X9 u9 => ∃ e9, u9 = (ks, ad, cE dd E e9) ∧ ((X9 = "java/lang/IndexOutOfBoundsException" ∧ ¬ (∃ j, j < nR ∧ v = nI j)))) := by
  refine kMetlX (ws' := _) (cc := cX10_amountByTree) (maxL := 2) (rt := .long) (by decide) rfl (Nat.le_of_ble_eq_true rfl) (fun g X hr hRX hnL hRR hl0 hkn => ?_)
  show kv dd g 0 0 0 [(0, .ref (ad 0)), (1, .int v)] [] ks ad (cE dd E e)
  have hT12 := hT.1
  have hR12 := hR.1
  have hL10 := hL.1
  have hV4 := hV.1
  have hM4 := hM.1
  have hC4 := hC.1
  have hW40 := hW.1
  obtain ⟨f20, f21, hf20, hf21, hff⟩ := hO.2.2.2.2
  refine kv_aload_n X 0 dX10_amountByTree_0 rfl rfl ?_
  refine kv_iload_n X 1 dX10_amountByTree_1 rfl rfl ?_
  refine kv_callvXV (ci := 13) (κ := 0) (r1 := (TX10, 3)) (As := [.int v]) [] X (c_X10_checkResource l dd ks ad E e M nR nC nt nL nW nV nM cn nm mn me li rl on hO hR hC hT hL hW hV hM hB v) hl0 (kCV_of X 1 gX10_amountByTree_X10_checkResource rfl rfl rfl (by decide +kernel) hRR ⟨(Nat.le_of_ble_eq_true rfl), (Nat.le_of_ble_eq_true rfl)⟩) hO.1.1 ((cE_ne (by omega)).trans hO.1.2) rfl hRX ⟨(Nat.le_of_ble_eq_true rfl), (Nat.le_of_ble_eq_true rfl)⟩ (fun _ _ h => ⟨e, h.2.1, ⟨h.1, h.2.2⟩⟩) rfl rfl (Nat.le_of_ble_eq_true rfl) hRR ⟨(Nat.le_of_ble_eq_true rfl), (Nat.le_of_ble_eq_true rfl)⟩ dX10_amountByTree_2 (fun z hp => ?_)
  obtain ⟨rfl, j2, h2, rfl⟩ := hp
  refine kv_aload_n X 0 dX10_amountByTree_5 rfl rfl ?_
  refine kv_getfield X f_X10_amountByTree_21 (κ := 0) (fs := [.ref (ad 1), .ref (ad 2), .int on]) (v := .ref (ad 2)) hO.1.1 ((cE_ne (by omega)).trans hO.1.2) rfl dX10_amountByTree_6 ?_
  refine kv_aload_n X 0 dX10_amountByTree_9 rfl rfl ?_
  refine kv_getfield X f_X10_amountByTree_25 (κ := 0) (fs := [.ref (ad 1), .ref (ad 2), .int on]) (v := .int on) hO.1.1 ((cE_ne (by omega)).trans hO.1.2) rfl dX10_amountByTree_10 ?_
  refine kv_calliV (ci := 5) (κ := 2) (r1 := (TX2, 9)) (As := [.int on]) [] X (c_X2_choose l dd ks ad E e M nR nC nt nL nW nV nM cn nm mn me li rl on hO hR hC hT hL hW hV hM hB on (mI on) (mR on) (hmI on) (hmR on)) hl0 (kCV_of X 1 gX10_amountByTree_X2_choose rfl rfl rfl (by decide +kernel) hRR ⟨(Nat.le_of_ble_eq_true rfl), (Nat.le_of_ble_eq_true rfl)⟩) hO.2.2.1.1 ((cE_ne (by omega)).trans hO.2.2.1.2) rfl rfl rfl (Nat.le_of_ble_eq_true rfl) hRR ⟨(Nat.le_of_ble_eq_true rfl), (Nat.le_of_ble_eq_true rfl)⟩ dX10_amountByTree_13 (fun r z hp => ?_)
  obtain ⟨rfl, hz13⟩ := hp
  refine kv_pop X dX10_amountByTree_16 rfl ?_
  refine kv_aload_n X 0 dX10_amountByTree_17 rfl rfl ?_
  refine kv_getfield X f_X10_amountByTree_21 (κ := 0) (fs := [.ref (ad 1), .ref (ad 2), .int on]) (v := .ref (ad 2)) hO.1.1 ((cE_ne (by omega)).trans hO.1.2) rfl dX10_amountByTree_18 ?_
  refine kv_iload_n X 1 dX10_amountByTree_21 rfl rfl ?_
  refine kv_calllV (ci := 5) (κ := 2) (r1 := (TX2, 9)) (As := [.int (nI j2)]) [] X (c_X2_amountInTrees l dd ks ad E ((va_up (va_up (va_up e.1 17 (mset (e.1 17) (fun j => nI (mI on j)) nt)) 18 (mset (e.1 18) (fun j => nI (mR on j)) nR)) 19 (cpt (M.2.1 13) cn (fun k => mI on (nm k)) nt (mset (e.1 19) (fun _ => 1) 12) 3)), e.2) M nR nC nt nL nW nV nM cn nm mn me li rl on hO hR hC hT hL hW hV hM hB j2 (by omega) (mI on) (fun j hj => ⟨mset_in (f := e.1 17) (g := fun j => nI (mI on j)) hj, (hmI on j hj).2⟩) (mR on) (fun j hj => ⟨mset_in (f := e.1 18) (g := fun j => nI (mR on j)) hj, (hmR on j hj).2⟩)) hl0 (kCV_of X 1 gX10_amountByTree_X2_amountInTrees rfl rfl rfl (by decide +kernel) hRR ⟨(Nat.le_of_ble_eq_true rfl), (Nat.le_of_ble_eq_true rfl)⟩) hO.2.2.1.1 ((cE_ne (by omega)).trans hO.2.2.1.2) rfl rfl rfl (Nat.le_of_ble_eq_true rfl) hRR ⟨(Nat.le_of_ble_eq_true rfl), (Nat.le_of_ble_eq_true rfl)⟩ dX10_amountByTree_22 (fun r z hp => ?_)
  obtain ⟨rfl, rfl⟩ := hp
  exact kv_lreturn X hr (Nat.le_of_ble_eq_true rfl) (Nat.le_of_ble_eq_true rfl) ⟨((va_up (va_up (va_up e.1 17 (mset (e.1 17) (fun j => nI (mI on j)) nt)) 18 (mset (e.1 18) (fun j => nI (mR on j)) nR)) 19 (cpt (M.2.1 13) cn (fun k => mI on (nm k)) nt (mset (e.1 19) (fun _ => 1) 12) 3)), e.2), ⟨j2, ⟨h2, rfl⟩, rfl⟩, rfl⟩ dX10_amountByTree_25
theorem f_X10_share_25 : kF wsX10_share RX10 25 13 2 := ⟨_, RX10, TX10, 3, fun _ h => (List.mem_cons_of_mem _ (List.mem_append_left _ (List.mem_append_left _ (List.mem_append_left _ (List.mem_append_left _ (List.mem_append_left _ (List.mem_append_left _ (List.mem_append_left _ (List.mem_append_left _ (List.mem_append_left _ (List.mem_append_left _ (List.mem_append_left _ (List.mem_append_left _ (List.mem_append_left _ (List.mem_append_left _ (List.mem_append_right _ h)))))))))))))))), (List.mem_cons_of_mem _ (List.mem_append_left _ (List.mem_append_left _ (List.mem_append_left _ (List.mem_append_left _ (List.mem_append_left _ (List.mem_append_left _ (List.mem_append_left _ (List.mem_append_left _ (List.mem_append_left _ (List.mem_append_left _ (List.mem_append_left _ (List.mem_append_left _ (List.mem_append_left _ (List.mem_append_left _ (List.mem_append_left _ (List.mem_append_left _ (List.mem_of_getElem? (i := 0) rfl)))))))))))))))))), rfl, by decide, rfl⟩
theorem f_X10_share_21 : kF wsX10_share RX10 21 13 1 := ⟨_, RX10, TX10, 3, fun _ h => (List.mem_cons_of_mem _ (List.mem_append_left _ (List.mem_append_left _ (List.mem_append_left _ (List.mem_append_left _ (List.mem_append_left _ (List.mem_append_left _ (List.mem_append_left _ (List.mem_append_left _ (List.mem_append_left _ (List.mem_append_left _ (List.mem_append_left _ (List.mem_append_left _ (List.mem_append_left _ (List.mem_append_left _ (List.mem_append_right _ h)))))))))))))))), (List.mem_cons_of_mem _ (List.mem_append_left _ (List.mem_append_left _ (List.mem_append_left _ (List.mem_append_left _ (List.mem_append_left _ (List.mem_append_left _ (List.mem_append_left _ (List.mem_append_left _ (List.mem_append_left _ (List.mem_append_left _ (List.mem_append_left _ (List.mem_append_left _ (List.mem_append_left _ (List.mem_append_left _ (List.mem_append_left _ (List.mem_append_left _ (List.mem_of_getElem? (i := 1) rfl)))))))))))))))))), rfl, by decide, rfl⟩
set_option maxRecDepth 100000 in
set_option maxHeartbeats 4000000 in
theorem c_X10_share (l : Launch) (dd : kDD) (ks : List Nat) (ad : Nat → Nat) (E : Nat → va_E) (e : eS) (M : mS) (nR nC nt nL nW nV nM : Nat) (cn nm mn me li rl : Nat → Nat) (on : Int32) (hO : cO dd ks ad E on) (hR : cR dd ks ad E M nR) (hC : cC dd ks ad E M nC mn me) (hT : cT dd ks ad E M nt cn nm) (hL : cL dd ks ad E M nL nW li) (hW : cW dd ks ad E M nW rl) (hV : cV dd ks ad E M nV) (hM : cM dd ks ad E M nM) (hB : cB M nR nC nt nL nW nV cn nm mn me li rl) (mI mR : Int32 → Nat → Nat) (hmI : ∀ o j, j < nt → mnt o (M.2.1 22) j nV 0 = nI (mI o j) ∧ mI o j < nt) (hmR : ∀ o j, j < nR → mnt o (M.2.1 23) j nV 0 = nI (mR o j) ∧ mR o j < nR) (hpk : ∀ r, r < nR → 1 ≤ M.2.1 5 r) (v : Int32) (hfx : kFx (M.2.1 13) cn (fun k => mI on (nm k)) (nJ (M.2.1 13) cn (fun k => mI on (nm k)) 2) nt) : kCfX l yX10_share wsX10_share ({ frames := 9, cells := 2, slots := 12, locals := 202 } : Room) 2 12 dd [.ref (ad 0), .int v] (ks, ad, (cE dd E e)) (kQf (S := eS) (fun r z => (v = 0 ∨ v = 1 ∨ v = 2) ∧ cDn M nR nt nL nW nM cn nm mn me li (mI on) (mR on) (nJ (M.2.1 13) cn (fun k => mI on (nm k)) 2) z ∧ ¬ cou (z.2 23) (M.2.1 3) nR = 0 ∧ r = FP.fdiv (FP.l2f (mkd (M.2.1 2) (z.2 23) (M.2.1 3) v nR)) (FP.l2f (cou (z.2 23) (M.2.1 3) nR))) (fun _ => ks) (fun _ => ad) (fun z => cE dd E z)) (fun X9 u9 => ∃ e9, u9 = (ks, ad, cE dd E e9) ∧ ((X9 = "java/lang/IllegalArgumentException" ∧ ¬ (v = 0 ∨ v = 1 ∨ v = 2)) ∨ (X9 = "java/lang/ArithmeticException" ∧ ((v = 0 ∨ v = 1 ∨ v = 2) ∧ cDn M nR nt nL nW nM cn nm mn me li (mI on) (mR on) (nJ (M.2.1 13) cn (fun k => mI on (nm k)) 2) e9 ∧ cou (e9.2 23) (M.2.1 3) nR = 0)))) := by
  refine kMetfX (ws' := _) (cc := cX10_share) (maxL := 4) (rt := .float) (by decide) rfl (Nat.le_of_ble_eq_true rfl) (fun g X hr hRX hnL hRR hl0 hkn => ?_)
  show kv dd g 0 0 0 [(0, .ref (ad 0)), (1, .int v)] [] ks ad (cE dd E e)
  have hT12 := hT.1
  have hR12 := hR.1
  have hL10 := hL.1
  have hV4 := hV.1
  have hM4 := hM.1
  have hC4 := hC.1
  have hW40 := hW.1
  obtain ⟨f20, f21, hf20, hf21, hff⟩ := hO.2.2.2.2
  refine kv_iload_n X 1 dX10_share_0 rfl rfl ?_
  refine kv_callvXS (As := [.int v]) [] X (c_X10_checkKind l dd ks ad (cE dd E e) v) hl0 (kCS_of X 1 gX10_share_X10_checkKind rfl rfl rfl (by decide +kernel) hRR ⟨(Nat.le_of_ble_eq_true rfl), (Nat.le_of_ble_eq_true rfl)⟩) hRX ⟨(Nat.le_of_ble_eq_true rfl), (Nat.le_of_ble_eq_true rfl)⟩ (fun _ _ h => ⟨e, h.2.1, (Or.inl (⟨h.1, h.2.2⟩))⟩) rfl rfl (Nat.le_of_ble_eq_true rfl) hRR ⟨(Nat.le_of_ble_eq_true rfl), (Nat.le_of_ble_eq_true rfl)⟩ dX10_share_1 (fun z hp => ?_)
  have h1 := hp
  refine kv_aload_n X 0 dX10_share_4 rfl rfl ?_
  refine kv_aload_n X 0 dX10_share_5 rfl rfl ?_
  refine kv_getfield X f_X10_share_25 (κ := 0) (fs := [.ref (ad 1), .ref (ad 2), .int on]) (v := .int on) hO.1.1 ((cE_ne (by omega)).trans hO.1.2) rfl dX10_share_6 ?_
  refine kv_callvV (ci := 13) (κ := 0) (r1 := (TX10, 3)) (As := [.int on]) [] X (c_X10_workOut l dd ks ad E e M nR nC nt nL nW nV nM cn nm mn me li rl on hO hR hC hT hL hW hV hM hB mI mR hmI hmR hpk on hfx) hl0 (kCV_of X 1 gX10_share_X10_workOut rfl rfl rfl (by decide +kernel) hRR ⟨(Nat.le_of_ble_eq_true rfl), (Nat.le_of_ble_eq_true rfl)⟩) hO.1.1 ((cE_ne (by omega)).trans hO.1.2) rfl rfl rfl (Nat.le_of_ble_eq_true rfl) hRR ⟨(Nat.le_of_ble_eq_true rfl), (Nat.le_of_ble_eq_true rfl)⟩ dX10_share_9 (fun zw hp => ?_)
  have hdn := hp
  refine kv_aload_n X 0 dX10_share_12 rfl rfl ?_
  refine kv_getfield X f_X10_share_21 (κ := 0) (fs := [.ref (ad 1), .ref (ad 2), .int on]) (v := .ref (ad 2)) hO.1.1 ((cE_ne (by omega)).trans hO.1.2) rfl dX10_share_13 ?_
  refine kv_calllV (ci := 5) (κ := 2) (r1 := (TX2, 9)) (As := []) [] X (c_X2_netCost l dd ks ad E zw M nR nC nt nL nW nV nM cn nm mn me li rl on hO hR hC hT hL hW hV hM hB ) hl0 (kCV_of X 0 gX10_share_X2_netCost rfl rfl rfl (by decide +kernel) hRR ⟨(Nat.le_of_ble_eq_true rfl), (Nat.le_of_ble_eq_true rfl)⟩) hO.2.2.1.1 ((cE_ne (by omega)).trans hO.2.2.1.2) rfl rfl rfl (Nat.le_of_ble_eq_true rfl) hRR ⟨(Nat.le_of_ble_eq_true rfl), (Nat.le_of_ble_eq_true rfl)⟩ dX10_share_16 (fun r z hp => ?_)
  obtain ⟨rfl, rfl⟩ := hp
  refine kv_lstore_n (lv2 := [(2, .long (cou (zw.2 23) (M.2.1 3) nR)), (0, .ref (ad 0)), (1, .int v)]) X dX10_share_19 rfl (by rw [hnL]; decide) rfl ?_
  refine kv_lload_n X 0 dX10_share_20 rfl rfl ?_
  refine kv_callvXS (As := [.long (cou (zw.2 23) (M.2.1 3) nR)]) [] X (c_X10_checkDivisor l dd ks ad (cE dd E zw) (cou (zw.2 23) (M.2.1 3) nR)) hl0 (kCS_of X 1 gX10_share_X10_checkDivisor rfl rfl rfl (by decide +kernel) hRR ⟨(Nat.le_of_ble_eq_true rfl), (Nat.le_of_ble_eq_true rfl)⟩) hRX ⟨(Nat.le_of_ble_eq_true rfl), (Nat.le_of_ble_eq_true rfl)⟩ (fun _ _ h => ⟨zw, h.2.1, (Or.inr (⟨h.1, ⟨h1, hdn, Decidable.not_not.mp h.2.2⟩⟩))⟩) rfl rfl (Nat.le_of_ble_eq_true rfl) hRR ⟨(Nat.le_of_ble_eq_true rfl), (Nat.le_of_ble_eq_true rfl)⟩ dX10_share_21 (fun z hp => ?_)
  have h21 := hp
  refine kv_aload_n X 1 dX10_share_24 rfl rfl ?_
  refine kv_getfield X f_X10_share_21 (κ := 0) (fs := [.ref (ad 1), .ref (ad 2), .int on]) (v := .ref (ad 2)) hO.1.1 ((cE_ne (by omega)).trans hO.1.2) rfl dX10_share_25 ?_
  refine kv_iload_n X 2 dX10_share_28 rfl rfl ?_
  refine kv_calllV (ci := 5) (κ := 2) (r1 := (TX2, 9)) (As := [.int v]) [] X (c_X2_kindCost l dd ks ad E zw M nR nC nt nL nW nV nM cn nm mn me li rl on hO hR hC hT hL hW hV hM hB v) hl0 (kCV_of X 1 gX10_share_X2_kindCost rfl rfl rfl (by decide +kernel) hRR ⟨(Nat.le_of_ble_eq_true rfl), (Nat.le_of_ble_eq_true rfl)⟩) hO.2.2.1.1 ((cE_ne (by omega)).trans hO.2.2.1.2) rfl rfl rfl (Nat.le_of_ble_eq_true rfl) hRR ⟨(Nat.le_of_ble_eq_true rfl), (Nat.le_of_ble_eq_true rfl)⟩ dX10_share_29 (fun r z hp => ?_)
  obtain ⟨rfl, rfl⟩ := hp
  refine kv_l2f X dX10_share_32 ?_
  refine kv_lload_n X 0 dX10_share_33 rfl rfl ?_
  refine kv_l2f X dX10_share_34 ?_
  refine kv_fdiv X dX10_share_35 (fp_div32 h21) ?_
  exact kv_freturn X hr (Nat.le_of_ble_eq_true rfl) (Nat.le_of_ble_eq_true rfl) ⟨zw, ⟨h1, hdn, h21, rfl⟩, rfl⟩ dX10_share_36
theorem f_X10_factor_25 : kF wsX10_factor RX10 25 13 2 := ⟨_, RX10, TX10, 3, fun _ h => (List.mem_cons_of_mem _ (List.mem_append_left _ (List.mem_append_left _ (List.mem_append_left _ (List.mem_append_left _ (List.mem_append_left _ (List.mem_append_left _ (List.mem_append_left _ (List.mem_append_left _ (List.mem_append_left _ (List.mem_append_left _ (List.mem_append_left _ (List.mem_append_left _ (List.mem_append_left _ (List.mem_append_right _ h))))))))))))))), (List.mem_cons_of_mem _ (List.mem_append_left _ (List.mem_append_left _ (List.mem_append_left _ (List.mem_append_left _ (List.mem_append_left _ (List.mem_append_left _ (List.mem_append_left _ (List.mem_append_left _ (List.mem_append_left _ (List.mem_append_left _ (List.mem_append_left _ (List.mem_append_left _ (List.mem_append_left _ (List.mem_append_left _ (List.mem_append_left _ (List.mem_of_getElem? (i := 0) rfl))))))))))))))))), rfl, by decide, rfl⟩
theorem f_X10_factor_21 : kF wsX10_factor RX10 21 13 1 := ⟨_, RX10, TX10, 3, fun _ h => (List.mem_cons_of_mem _ (List.mem_append_left _ (List.mem_append_left _ (List.mem_append_left _ (List.mem_append_left _ (List.mem_append_left _ (List.mem_append_left _ (List.mem_append_left _ (List.mem_append_left _ (List.mem_append_left _ (List.mem_append_left _ (List.mem_append_left _ (List.mem_append_left _ (List.mem_append_left _ (List.mem_append_right _ h))))))))))))))), (List.mem_cons_of_mem _ (List.mem_append_left _ (List.mem_append_left _ (List.mem_append_left _ (List.mem_append_left _ (List.mem_append_left _ (List.mem_append_left _ (List.mem_append_left _ (List.mem_append_left _ (List.mem_append_left _ (List.mem_append_left _ (List.mem_append_left _ (List.mem_append_left _ (List.mem_append_left _ (List.mem_append_left _ (List.mem_append_left _ (List.mem_of_getElem? (i := 1) rfl))))))))))))))))), rfl, by decide, rfl⟩
set_option maxRecDepth 100000 in
set_option maxHeartbeats 4000000 in
theorem c_X10_factor (l : Launch) (dd : kDD) (ks : List Nat) (ad : Nat → Nat) (E : Nat → va_E) (e : eS) (M : mS) (nR nC nt nL nW nV nM : Nat) (cn nm mn me li rl : Nat → Nat) (on : Int32) (hO : cO dd ks ad E on) (hR : cR dd ks ad E M nR) (hC : cC dd ks ad E M nC mn me) (hT : cT dd ks ad E M nt cn nm) (hL : cL dd ks ad E M nL nW li) (hW : cW dd ks ad E M nW rl) (hV : cV dd ks ad E M nV) (hM : cM dd ks ad E M nM) (hB : cB M nR nC nt nL nW nV cn nm mn me li rl) (mI mR : Int32 → Nat → Nat) (hmI : ∀ o j, j < nt → mnt o (M.2.1 22) j nV 0 = nI (mI o j) ∧ mI o j < nt) (hmR : ∀ o j, j < nR → mnt o (M.2.1 23) j nV 0 = nI (mR o j) ∧ mR o j < nR) (hpk : ∀ r, r < nR → 1 ≤ M.2.1 5 r)  (hfx : kFx (M.2.1 13) cn (fun k => mI on (nm k)) (nJ (M.2.1 13) cn (fun k => mI on (nm k)) 2) nt) : kCdX l yX10_factor wsX10_factor ({ frames := 9, cells := 1, slots := 6, locals := 202 } : Room) 1 6 dd [.ref (ad 0)] (ks, ad, (cE dd E e)) (kQd (S := eS) (fun r z => cDn M nR nt nL nW nM cn nm mn me li (mI on) (mR on) (nJ (M.2.1 13) cn (fun k => mI on (nm k)) 2) z ∧ ¬ cou (z.2 23) (M.2.1 3) nR = 0 ∧ r = FP.ddiv (FP.l2d (msumJ (z.2 24) (cou (z.2 23) (M.2.1 3) nR + mex (z.2 23) (M.2.1 4) (M.2.1 5) (M.2.1 3) nR) nM)) (FP.l2d (cou (z.2 23) (M.2.1 3) nR))) (fun _ => ks) (fun _ => ad) (fun z => cE dd E z)) (fun X9 u9 => ∃ e9, u9 = (ks, ad, cE dd E e9) ∧ ((X9 = "java/lang/ArithmeticException" ∧ (cDn M nR nt nL nW nM cn nm mn me li (mI on) (mR on) (nJ (M.2.1 13) cn (fun k => mI on (nm k)) 2) e9 ∧ cou (e9.2 23) (M.2.1 3) nR = 0)))) := by
  refine kMetdX (ws' := _) (cc := cX10_factor) (maxL := 3) (rt := .double) (by decide) rfl (Nat.le_of_ble_eq_true rfl) (fun g X hr hRX hnL hRR hl0 hkn => ?_)
  show kv dd g 0 0 0 [(0, .ref (ad 0))] [] ks ad (cE dd E e)
  have hT12 := hT.1
  have hR12 := hR.1
  have hL10 := hL.1
  have hV4 := hV.1
  have hM4 := hM.1
  have hC4 := hC.1
  have hW40 := hW.1
  obtain ⟨f20, f21, hf20, hf21, hff⟩ := hO.2.2.2.2
  refine kv_aload_n X 0 dX10_factor_0 rfl rfl ?_
  refine kv_aload_n X 0 dX10_factor_1 rfl rfl ?_
  refine kv_getfield X f_X10_factor_25 (κ := 0) (fs := [.ref (ad 1), .ref (ad 2), .int on]) (v := .int on) hO.1.1 ((cE_ne (by omega)).trans hO.1.2) rfl dX10_factor_2 ?_
  refine kv_callvV (ci := 13) (κ := 0) (r1 := (TX10, 3)) (As := [.int on]) [] X (c_X10_workOut l dd ks ad E e M nR nC nt nL nW nV nM cn nm mn me li rl on hO hR hC hT hL hW hV hM hB mI mR hmI hmR hpk on hfx) hl0 (kCV_of X 1 gX10_factor_X10_workOut rfl rfl rfl (by decide +kernel) hRR ⟨(Nat.le_of_ble_eq_true rfl), (Nat.le_of_ble_eq_true rfl)⟩) hO.1.1 ((cE_ne (by omega)).trans hO.1.2) rfl rfl rfl (Nat.le_of_ble_eq_true rfl) hRR ⟨(Nat.le_of_ble_eq_true rfl), (Nat.le_of_ble_eq_true rfl)⟩ dX10_factor_5 (fun zw hp => ?_)
  have hdn := hp
  refine kv_aload_n X 0 dX10_factor_8 rfl rfl ?_
  refine kv_getfield X f_X10_factor_21 (κ := 0) (fs := [.ref (ad 1), .ref (ad 2), .int on]) (v := .ref (ad 2)) hO.1.1 ((cE_ne (by omega)).trans hO.1.2) rfl dX10_factor_9 ?_
  refine kv_calllV (ci := 5) (κ := 2) (r1 := (TX2, 9)) (As := []) [] X (c_X2_netCost l dd ks ad E zw M nR nC nt nL nW nV nM cn nm mn me li rl on hO hR hC hT hL hW hV hM hB ) hl0 (kCV_of X 0 gX10_factor_X2_netCost rfl rfl rfl (by decide +kernel) hRR ⟨(Nat.le_of_ble_eq_true rfl), (Nat.le_of_ble_eq_true rfl)⟩) hO.2.2.1.1 ((cE_ne (by omega)).trans hO.2.2.1.2) rfl rfl rfl (Nat.le_of_ble_eq_true rfl) hRR ⟨(Nat.le_of_ble_eq_true rfl), (Nat.le_of_ble_eq_true rfl)⟩ dX10_factor_12 (fun r z hp => ?_)
  obtain ⟨rfl, rfl⟩ := hp
  refine kv_lstore_n (lv2 := [(1, .long (cou (zw.2 23) (M.2.1 3) nR)), (0, .ref (ad 0))]) X dX10_factor_15 rfl (by rw [hnL]; decide) rfl ?_
  refine kv_lload_n X 0 dX10_factor_16 rfl rfl ?_
  refine kv_callvXS (As := [.long (cou (zw.2 23) (M.2.1 3) nR)]) [] X (c_X10_checkDivisor l dd ks ad (cE dd E zw) (cou (zw.2 23) (M.2.1 3) nR)) hl0 (kCS_of X 1 gX10_factor_X10_checkDivisor rfl rfl rfl (by decide +kernel) hRR ⟨(Nat.le_of_ble_eq_true rfl), (Nat.le_of_ble_eq_true rfl)⟩) hRX ⟨(Nat.le_of_ble_eq_true rfl), (Nat.le_of_ble_eq_true rfl)⟩ (fun _ _ h => ⟨zw, h.2.1, ⟨h.1, ⟨hdn, Decidable.not_not.mp h.2.2⟩⟩⟩) rfl rfl (Nat.le_of_ble_eq_true rfl) hRR ⟨(Nat.le_of_ble_eq_true rfl), (Nat.le_of_ble_eq_true rfl)⟩ dX10_factor_17 (fun z hp => ?_)
  have h17 := hp
  refine kv_aload_n X 1 dX10_factor_20 rfl rfl ?_
  refine kv_getfield X f_X10_factor_21 (κ := 0) (fs := [.ref (ad 1), .ref (ad 2), .int on]) (v := .ref (ad 2)) hO.1.1 ((cE_ne (by omega)).trans hO.1.2) rfl dX10_factor_21 ?_
  refine kv_calllV (ci := 5) (κ := 2) (r1 := (TX2, 9)) (As := []) [] X (c_X2_totalCost l dd ks ad E zw M nR nC nt nL nW nV nM cn nm mn me li rl on hO hR hC hT hL hW hV hM hB hpk) hl0 (kCV_of X 0 gX10_factor_X2_totalCost rfl rfl rfl (by decide +kernel) hRR ⟨(Nat.le_of_ble_eq_true rfl), (Nat.le_of_ble_eq_true rfl)⟩) hO.2.2.1.1 ((cE_ne (by omega)).trans hO.2.2.1.2) rfl rfl rfl (Nat.le_of_ble_eq_true rfl) hRR ⟨(Nat.le_of_ble_eq_true rfl), (Nat.le_of_ble_eq_true rfl)⟩ dX10_factor_24 (fun r z hp => ?_)
  obtain ⟨rfl, rfl⟩ := hp
  refine kv_l2d X dX10_factor_27 ?_
  refine kv_lload_n X 0 dX10_factor_28 rfl rfl ?_
  refine kv_l2d X dX10_factor_29 ?_
  refine kv_ddiv X dX10_factor_30 (fp_div64 h17) ?_
  exact kv_dreturn X hr (Nat.le_of_ble_eq_true rfl) (Nat.le_of_ble_eq_true rfl) ⟨zw, ⟨hdn, h17, rfl⟩, rfl⟩ dX10_factor_31

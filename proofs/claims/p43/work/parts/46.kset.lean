/-! the class: what changes in place -/
theorem kLs_set {dd : kDD} {ks : List Nat} {ad : Nat → Nat} {E : Nat → va_E} {lk ak n : Nat} {ek : Nat → Nat} {ci κ : Nat} {fs : List Value} (h : kLs dd ks ad E lk ak n ek ci) (h1 : κ ≠ lk) (h2 : κ ≠ ak) : kLs dd ks ad (va_up E κ (.inr (ci, fs))) lk ak n ek ci :=
  kLs_frame h ⟨h.1, va_up_ne _ _ (Ne.symm h1)⟩ (fun q => ⟨q, rfl, va_up_ne _ _ (Ne.symm h2)⟩) (fun i _ q => ⟨q, rfl, fun fs1 hfs => (Decidable.em (ek i = κ)).elim (fun c => ⟨fs, by rw [c]; exact va_up_self _ _ _⟩) (fun c => ⟨fs1, (va_up_ne _ _ c).trans hfs⟩)⟩)
theorem cO_up {dd : kDD} {ks : List Nat} {ad : Nat → Nat} {E : Nat → va_E} {on : Int32} {κ : Nat} (hO : cO dd ks ad E on) (h : 0 ≠ κ ∧ 1 ≠ κ ∧ 2 ≠ κ ∧ 20 ≠ κ ∧ 21 ≠ κ) (x : va_E) : cO dd ks ad (va_up E κ x) on :=
  cO_frame (fun _ _ => ⟨id, rfl⟩) ⟨va_up_ne _ _ h.1, va_up_ne _ _ h.2.1, va_up_ne _ _ h.2.2.1, va_up_ne _ _ h.2.2.2.1, va_up_ne _ _ h.2.2.2.2⟩ hO
theorem cR_set {dd : kDD} {ks : List Nat} {ad : Nat → Nat} {E : Nat → va_E} {M : mS} {nR j : Nat} {p : Int32} (hX : cR dd ks ad E M nR) (hj : j < nR) : cR dd ks ad (va_up E (64 + j) (.inr (10, [.int (M.2.1 2 j), .int p, .int (M.2.1 4 j), .int (M.2.1 5 j)]))) (M.1, va_up M.2.1 3 (upd (M.2.1 3) j p), M.2.2) nR := by
  obtain ⟨h1, h2, h3⟩ := hX
  refine ⟨h1, kLs_set h2 (by omega) (by omega), fun r hr => ⟨(h3 r hr).1, ?_⟩⟩
  by_cases c : r = j
  · subst c
    rw [va_up_self]
    show _ = Sum.inr (10, [Value.int (M.2.1 2 r), .int (upd (M.2.1 3) r p r), .int (M.2.1 4 r), .int (M.2.1 5 r)])
    rw [show upd (M.2.1 3) r p r = p from if_pos rfl]
  · rw [va_up_ne _ _ (by omega), (h3 r hr).2]
    show _ = Sum.inr (10, [Value.int (M.2.1 2 r), .int (upd (M.2.1 3) j p r), .int (M.2.1 4 r), .int (M.2.1 5 r)])
    rw [show upd (M.2.1 3) j p r = M.2.1 3 r from if_neg c]
theorem cM_set {dd : kDD} {ks : List Nat} {ad : Nat → Nat} {E : Nat → va_E} {M : mS} {nM j : Nat} {p : Int32} (hX : cM dd ks ad E M nM) (hj : j < nM) : cM dd ks ad (va_up E (288 + j) (.inr (8, [.int p, .int (M.2.1 27 j)]))) (M.1, va_up M.2.1 26 (upd (M.2.1 26) j p), M.2.2) nM := by
  obtain ⟨h1, h2, h3⟩ := hX
  refine ⟨h1, kLs_set h2 (by omega) (by omega), fun r hr => ⟨(h3 r hr).1, ?_⟩⟩
  by_cases c : r = j
  · subst c
    rw [va_up_self]
    show _ = Sum.inr (8, [Value.int (upd (M.2.1 26) r p r), .int (M.2.1 27 r)])
    rw [show upd (M.2.1 26) r p r = p from if_pos rfl]
  · rw [va_up_ne _ _ (by omega), (h3 r hr).2]
    show _ = Sum.inr (8, [Value.int (upd (M.2.1 26) j p r), .int (M.2.1 27 r)])
    rw [show upd (M.2.1 26) j p r = M.2.1 26 r from if_neg c]
theorem c_upd {f1 tab : Nat → Int32} {v a : Nat} {x : Int32} (h : ∀ k, k < 12 → f1 k = tab (12 * v + k)) : ∀ k, k < 12 → va_up f1 a x k = upd tab (12 * v + a) x (12 * v + k) := by
  intro k hk
  by_cases c : k = a
  · subst c; rw [va_up_self]; exact (if_pos rfl).symm
  · rw [va_up_ne _ _ c, h k hk]; exact (if_neg (by omega)).symm
theorem c_updn {tab : Nat → Int32} {v w a k : Nat} {x : Int32} (h : w ≠ v) (ha : a < 12) (hk : k < 12) : upd tab (12 * v + a) x (12 * w + k) = tab (12 * w + k) := if_neg (by omega)
theorem cV_set1 {dd : kDD} {ks : List Nat} {ad : Nat → Nat} {E : Nat → va_E} {M : mS} {nV v a : Nat} {x : Int32} {f1 : Nat → Int32} (hX : cV dd ks ad E M nV) (hv : v < nV) (ha : a < 12) (hf : ∀ k, k < 12 → f1 k = M.2.1 22 (12 * v + k)) : cV dd ks ad (va_up E (276 + v) (kI dd 12 (va_up f1 a x))) (M.1, va_up M.2.1 22 (upd (M.2.1 22) (12 * v + a) x), M.2.2) nV := by
  obtain ⟨h1, h2, h3⟩ := hX
  refine ⟨h1, kLs_frame h2 ⟨h2.1, va_up_ne _ _ (by omega)⟩ (fun q => ⟨q, rfl, va_up_ne _ _ (by omega)⟩) (fun i hi q => ⟨q, rfl, fun fs hfs => ⟨fs, (va_up_ne _ _ (by omega)).trans hfs⟩⟩), fun w hw => ?_⟩
  obtain ⟨a1, a2, a4, a5, g1, g2, a6, a7, a8⟩ := h3 w hw
  rw [va_up_ne _ _ (by omega : 272 + w ≠ 276 + v), va_up_ne _ _ (by omega : 280 + w ≠ 276 + v)]
  by_cases c : w = v
  · subst c
    exact ⟨a1, a2, a4, a5, _, g2, va_up_self _ _ _, a7, fun k hk => ⟨c_upd hf k hk, (a8 k hk).2⟩⟩
  · exact ⟨a1, a2, a4, a5, g1, g2, (va_up_ne _ _ (by omega)).trans a6, a7, fun k hk => ⟨(a8 k hk).1.trans (c_updn c ha hk).symm, (a8 k hk).2⟩⟩
theorem cV_set2 {dd : kDD} {ks : List Nat} {ad : Nat → Nat} {E : Nat → va_E} {M : mS} {nV v a : Nat} {x : Int32} {f1 : Nat → Int32} (hX : cV dd ks ad E M nV) (hv : v < nV) (ha : a < 12) (hf : ∀ k, k < 12 → f1 k = M.2.1 23 (12 * v + k)) : cV dd ks ad (va_up E (280 + v) (kI dd 12 (va_up f1 a x))) (M.1, va_up M.2.1 23 (upd (M.2.1 23) (12 * v + a) x), M.2.2) nV := by
  obtain ⟨h1, h2, h3⟩ := hX
  refine ⟨h1, kLs_frame h2 ⟨h2.1, va_up_ne _ _ (by omega)⟩ (fun q => ⟨q, rfl, va_up_ne _ _ (by omega)⟩) (fun i hi q => ⟨q, rfl, fun fs hfs => ⟨fs, (va_up_ne _ _ (by omega)).trans hfs⟩⟩), fun w hw => ?_⟩
  obtain ⟨a1, a2, a4, a5, g1, g2, a6, a7, a8⟩ := h3 w hw
  rw [va_up_ne _ _ (by omega : 272 + w ≠ 280 + v), va_up_ne _ _ (by omega : 276 + w ≠ 280 + v)]
  by_cases c : w = v
  · subst c
    exact ⟨a1, a2, a4, a5, g1, _, a6, va_up_self _ _ _, fun k hk => ⟨(a8 k hk).1, c_upd hf k hk⟩⟩
  · exact ⟨a1, a2, a4, a5, g1, g2, a6, (va_up_ne _ _ (by omega)).trans a7, fun k hk => ⟨(a8 k hk).1, (a8 k hk).2.trans (c_updn c ha hk).symm⟩⟩

theorem f_X10_setPrice_10 : kF wsX10_setPrice RX10 10 13 0 := ⟨_, RX10, TX10, 3, fun _ h => (List.mem_cons_of_mem _ (List.mem_append_left _ (List.mem_append_left _ (List.mem_append_left _ (List.mem_append_left _ (List.mem_append_left _ (List.mem_append_right _ h))))))), (List.mem_cons_of_mem _ (List.mem_append_left _ (List.mem_append_left _ (List.mem_append_left _ (List.mem_append_left _ (List.mem_append_left _ (List.mem_append_left _ (List.mem_append_left _ (List.mem_of_getElem? (i := 0) rfl))))))))), rfl, by decide, rfl⟩
theorem f_X10_setPrice_37 : kF wsX10_setPrice RX10 37 9 0 := ⟨_, RX6, TX6, 7, fun _ h => (List.mem_cons_of_mem _ (List.mem_append_left _ (List.mem_append_left _ (List.mem_append_left _ (List.mem_append_left _ (List.mem_append_right _ h)))))), (List.mem_cons_of_mem _ (List.mem_append_left _ (List.mem_append_left _ (List.mem_append_left _ (List.mem_append_left _ (List.mem_append_left _ (List.mem_append_left _ (List.mem_append_left _ (List.mem_of_getElem? (i := 1) rfl))))))))), rfl, by decide, rfl⟩
theorem f_X10_setPrice_67 : kF wsX10_setPrice RX10 67 10 1 := ⟨_, RX7, TX7, 4, fun _ h => (List.mem_cons_of_mem _ (List.mem_append_left _ (List.mem_append_left _ (List.mem_append_left _ (List.mem_append_right _ h))))), (List.mem_cons_of_mem _ (List.mem_append_left _ (List.mem_append_left _ (List.mem_append_left _ (List.mem_append_left _ (List.mem_append_left _ (List.mem_append_left _ (List.mem_append_left _ (List.mem_of_getElem? (i := 3) rfl))))))))), rfl, by decide, rfl⟩
theorem fp_X10_setPrice_67 : kFq wsX10_setPrice RX10 67 10 1 .int := ⟨_, RX7, TX7, 4, tyX7, fun _ h => (List.mem_cons_of_mem _ (List.mem_append_left _ (List.mem_append_left _ (List.mem_append_left _ (List.mem_append_right _ h))))), tyX7_ok, nmX7, (List.mem_cons_of_mem _ (List.mem_append_left _ (List.mem_append_left _ (List.mem_append_left _ (List.mem_append_left _ (List.mem_append_left _ (List.mem_append_left _ (List.mem_append_left _ (List.mem_of_getElem? (i := 3) rfl))))))))), rfl, by decide, rfl, rfl, by decide +kernel⟩
set_option maxRecDepth 100000 in
set_option maxHeartbeats 4000000 in
theorem c_X10_setPrice (l : Launch) (dd : kDD) (ks : List Nat) (ad : Nat → Nat) (E : Nat → va_E) (e : eS) (M : mS) (nR nC nt nL nW nV nM : Nat) (cn nm mn me li rl : Nat → Nat) (on : Int32) (hO : cO dd ks ad E on) (hR : cR dd ks ad E M nR) (hC : cC dd ks ad E M nC mn me) (hT : cT dd ks ad E M nt cn nm) (hL : cL dd ks ad E M nL nW li) (hW : cW dd ks ad E M nW rl) (hV : cV dd ks ad E M nV) (hM : cM dd ks ad E M nM) (hB : cB M nR nC nt nL nW nV cn nm mn me li rl) (mI mR : Int32 → Nat → Nat) (hmI : ∀ o j, j < nt → mnt o (M.2.1 22) j nV 0 = nI (mI o j) ∧ mI o j < nt) (hmR : ∀ o j, j < nR → mnt o (M.2.1 23) j nV 0 = nI (mR o j) ∧ mR o j < nR) (hpk : ∀ r, r < nR → 1 ≤ M.2.1 5 r) (v p : Int32) : kCiX l yX10_setPrice wsX10_setPrice ({ frames := 7, cells := 2, slots := 12, locals := 122 } : Room) 2 12 dd [.ref (ad 0), .int v, .int p] (ks, ad, (cE dd E e)) (kQi (S := kT) (fun r z => ∃ j, (j < nR ∧ v = nI j) ∧ (0 ≤ p ∧ p ≤ 9999) ∧ (z.2.1 0 = ad 0 ∧ cAll dd (M.1, va_up M.2.1 3 (upd (M.2.1 3) j p), M.2.2) nR nC nt nL nW nV nM cn nm mn me li rl on z) ∧ r = M.2.1 3 j) (fun z => z.1) (fun z => z.2.1) (fun z => z.2.2)) (fun X9 u9 => ∃ e9, u9 = (ks, ad, cE dd E e9) ∧ ((X9 = "java/lang/IndexOutOfBoundsException" ∧ ¬ (∃ j, j < nR ∧ v = nI j)) ∨ (X9 = "java/lang/IllegalArgumentException" ∧ ((∃ j, j < nR ∧ v = nI j) ∧ ¬ (0 ≤ p ∧ p ≤ 9999))))) := by
  refine kMetiX (ws' := _) (cc := cX10_setPrice) (maxL := 5) (rt := .int) (by decide) rfl (Nat.le_of_ble_eq_true rfl) (fun g X hr hRX hnL hRR hl0 hkn => ?_)
  show kv dd g 0 0 0 [(0, .ref (ad 0)), (1, .int v), (2, .int p)] [] ks ad (cE dd E e)
  have hT12 := hT.1
  have hR12 := hR.1
  have hL10 := hL.1
  have hV4 := hV.1
  have hM4 := hM.1
  have hC4 := hC.1
  have hW40 := hW.1
  obtain ⟨f20, f21, hf20, hf21, hff⟩ := hO.2.2.2.2
  refine kv_aload_n X 0 dX10_setPrice_0 rfl rfl ?_
  refine kv_iload_n X 1 dX10_setPrice_1 rfl rfl ?_
  refine kv_callvXV (ci := 13) (κ := 0) (r1 := (TX10, 3)) (As := [.int v]) [] X (c_X10_checkResource l dd ks ad E e M nR nC nt nL nW nV nM cn nm mn me li rl on hO hR hC hT hL hW hV hM hB v) hl0 (kCV_of X 1 gX10_setPrice_X10_checkResource rfl rfl rfl (by decide +kernel) hRR ⟨(Nat.le_of_ble_eq_true rfl), (Nat.le_of_ble_eq_true rfl)⟩) hO.1.1 ((cE_ne (by omega)).trans hO.1.2) rfl hRX ⟨(Nat.le_of_ble_eq_true rfl), (Nat.le_of_ble_eq_true rfl)⟩ (fun _ _ h => ⟨e, h.2.1, (Or.inl (⟨h.1, h.2.2⟩))⟩) rfl rfl (Nat.le_of_ble_eq_true rfl) hRR ⟨(Nat.le_of_ble_eq_true rfl), (Nat.le_of_ble_eq_true rfl)⟩ dX10_setPrice_2 (fun z hp => ?_)
  obtain ⟨rfl, j2, h2, rfl⟩ := hp
  refine kv_iload_n X 2 dX10_setPrice_5 rfl rfl ?_
  refine kv_iconst (v := 0) X dX10_setPrice_6 (by decide) ?_
  refine kv_sipush (v := 9999) X dX10_setPrice_7 (by decide) ?_
  refine kv_callvXS (As := [.int p, .int 0, .int 9999]) [] X (c_X10_checkRange l dd ks ad (cE dd E e) p 0 9999) hl0 (kCS_of X 3 gX10_setPrice_X10_checkRange rfl rfl rfl (by decide +kernel) hRR ⟨(Nat.le_of_ble_eq_true rfl), (Nat.le_of_ble_eq_true rfl)⟩) hRX ⟨(Nat.le_of_ble_eq_true rfl), (Nat.le_of_ble_eq_true rfl)⟩ (fun _ _ h => ⟨e, h.2.1, (Or.inr (⟨h.1, ⟨⟨j2, h2, rfl⟩, h.2.2⟩⟩))⟩) rfl rfl (Nat.le_of_ble_eq_true rfl) hRR ⟨(Nat.le_of_ble_eq_true rfl), (Nat.le_of_ble_eq_true rfl)⟩ dX10_setPrice_10 (fun z hp => ?_)
  have h10 := hp
  refine kv_aload_n X 0 dX10_setPrice_13 rfl rfl ?_
  refine kv_getfield X f_X10_setPrice_10 (κ := 0) (fs := [.ref (ad 1), .ref (ad 2), .int on]) (v := .ref (ad 1)) hO.1.1 ((cE_ne (by omega)).trans hO.1.2) rfl dX10_setPrice_14 ?_
  refine kv_getfield X f_X10_setPrice_37 (κ := 1) (fs := [.ref (ad 3), .ref (ad 4), .ref (ad 5), .ref (ad 6), .ref (ad 7), .ref (ad 8), .ref (ad 9)]) (v := .ref (ad 3)) hO.2.1.1 ((cE_ne (by omega)).trans hO.2.1.2) rfl dX10_setPrice_17 ?_
  refine kv_iload_n X 1 dX10_setPrice_20 rfl rfl ?_
  obtain ⟨_, _, o21⟩ := kLs_obj (dd := dd) (ks := ks) (ad := ad) (E := (cE dd E e)) (kLs_cE hR.2.1 (by omega) (by omega) (fun i hi => by omega))
  refine kv_callqV (ci := 2) (κ := 3) (r1 := (TJx4a65c, 3)) (As := [.int (nI j2)]) [] X (c_Jx4a65c_get_915e3 l dd ks ad (cE dd E e) (3) (10) (nR) (fun r => 64 + r) 10 (kLs_cE hR.2.1 (by omega) (by omega) (fun i hi => by omega)) j2 (by omega)) hl0 (kCV_of X 1 gX10_setPrice_Jx4a65c_get_915e3 rfl rfl rfl (by decide +kernel) hRR ⟨(Nat.le_of_ble_eq_true rfl), (Nat.le_of_ble_eq_true rfl)⟩) hR.2.1.1 o21 rfl rfl rfl (Nat.le_of_ble_eq_true rfl) hRR ⟨(Nat.le_of_ble_eq_true rfl), (Nat.le_of_ble_eq_true rfl)⟩ dX10_setPrice_21 (fun r z hp => ?_)
  obtain rfl := hp
  refine kv_topg (.ref (ad (64 + j2))) rfl ?_
  refine kv_cast X (κ := 64 + j2) (ci := 10) (fs := [.int (M.2.1 2 j2), .int (M.2.1 3 j2), .int (M.2.1 4 j2), .int (M.2.1 5 j2)]) (r := (RX7, TX7, 4)) (List.mem_cons_of_mem _ (List.mem_append_left _ (List.mem_append_left _ (List.mem_append_left _ (List.mem_append_left _ (List.mem_append_left _ (List.mem_append_left _ (List.mem_append_left _ (List.mem_of_getElem? (i := 2) rfl))))))))) (hR.2.2 j2 (by omega)).1 ((cE_ne (by omega)).trans (hR.2.2 j2 (by omega)).2) rfl dX10_setPrice_24 ?_
  refine kv_astore_n (lv2 := [(3, .ref (ad (64 + j2))), (0, .ref (ad 0)), (1, .int (nI j2)), (2, .int p)]) X dX10_setPrice_27 rfl (by rw [hnL]; decide) rfl ?_
  refine kv_aload_n X 0 dX10_setPrice_28 rfl rfl ?_
  refine kv_getfield X f_X10_setPrice_67 (κ := 64 + j2) (fs := [.int (M.2.1 2 j2), .int (M.2.1 3 j2), .int (M.2.1 4 j2), .int (M.2.1 5 j2)]) (v := .int (M.2.1 3 j2)) (hR.2.2 j2 (by omega)).1 ((cE_ne (by omega)).trans (hR.2.2 j2 (by omega)).2) rfl dX10_setPrice_29 ?_
  refine kv_istore (lv2 := [(4, .int (M.2.1 3 j2)), (3, .ref (ad (64 + j2))), (0, .ref (ad 0)), (1, .int (nI j2)), (2, .int p)]) X dX10_setPrice_32 (by rw [hnL]; decide) rfl ?_
  refine kv_aload_n X 1 dX10_setPrice_34 rfl rfl ?_
  refine kv_iload_n X 4 dX10_setPrice_35 rfl rfl ?_
  refine kv_putfieldO X fp_X10_setPrice_67 (κ := 64 + j2) (fs := [.int (M.2.1 2 j2), .int (M.2.1 3 j2), .int (M.2.1 4 j2), .int (M.2.1 5 j2)]) (hR.2.2 j2 (by omega)).1 ((cE_ne (by omega)).trans (hR.2.2 j2 (by omega)).2) rfl rfl (Nat.le_of_ble_eq_true rfl) dX10_setPrice_36 ?_
  refine kv_E (E2 := cE dd (va_up E (64 + j2) (Sum.inr (10, [.int (M.2.1 2 j2), .int p, .int (M.2.1 4 j2), .int (M.2.1 5 j2)]))) e) (fun j _ => cE_upO (by omega) _ j) ?_
  refine kv_iload X 0 dX10_setPrice_39 rfl ?_
  exact kv_ireturn X hr (Nat.le_of_ble_eq_true rfl) (Nat.le_of_ble_eq_true rfl) ⟨(ks, ad, (cE dd (va_up E (64 + j2) (Sum.inr (10, [.int (M.2.1 2 j2), .int p, .int (M.2.1 4 j2), .int (M.2.1 5 j2)]))) e)), ⟨j2, ⟨h2, rfl⟩, h10, ⟨rfl, _, _, rfl, cO_up hO (by omega) _, cR_set hR h2, cC_frame (cAg_up (by unfold sC; omega) _) hC, cT_frame (cAg_up (by unfold sT; omega) _) hT, cL_frame (cAg_up (by unfold sL; omega) _) hL, cW_frame (cAg_up (by unfold sW; omega) _) hW, cV_frame (cAg_up (by unfold sV; omega) _) hV, cM_frame (cAg_up (by unfold sM; omega) _) hM⟩, rfl⟩, rfl⟩ dX10_setPrice_41
theorem f_X10_setPercent_10 : kF wsX10_setPercent RX10 10 13 0 := ⟨_, RX10, TX10, 3, fun _ h => (List.mem_cons_of_mem _ (List.mem_append_left _ (List.mem_append_left _ (List.mem_append_left _ (List.mem_append_left _ (List.mem_append_left _ (List.mem_append_right _ h))))))), (List.mem_cons_of_mem _ (List.mem_append_left _ (List.mem_append_left _ (List.mem_append_left _ (List.mem_append_left _ (List.mem_append_left _ (List.mem_append_left _ (List.mem_append_left _ (List.mem_of_getElem? (i := 0) rfl))))))))), rfl, by decide, rfl⟩
theorem f_X10_setPercent_244 : kF wsX10_setPercent RX10 244 9 6 := ⟨_, RX6, TX6, 7, fun _ h => (List.mem_cons_of_mem _ (List.mem_append_left _ (List.mem_append_left _ (List.mem_append_left _ (List.mem_append_left _ (List.mem_append_right _ h)))))), (List.mem_cons_of_mem _ (List.mem_append_left _ (List.mem_append_left _ (List.mem_append_left _ (List.mem_append_left _ (List.mem_append_left _ (List.mem_append_left _ (List.mem_append_left _ (List.mem_of_getElem? (i := 1) rfl))))))))), rfl, by decide, rfl⟩
theorem f_X10_setPercent_255 : kF wsX10_setPercent RX10 255 8 0 := ⟨_, RX5, TX5, 2, fun _ h => (List.mem_cons_of_mem _ (List.mem_append_left _ (List.mem_append_left _ (List.mem_append_left _ (List.mem_append_right _ h))))), (List.mem_cons_of_mem _ (List.mem_append_left _ (List.mem_append_left _ (List.mem_append_left _ (List.mem_append_left _ (List.mem_append_left _ (List.mem_append_left _ (List.mem_append_left _ (List.mem_of_getElem? (i := 3) rfl))))))))), rfl, by decide, rfl⟩
theorem fp_X10_setPercent_255 : kFq wsX10_setPercent RX10 255 8 0 .int := ⟨_, RX5, TX5, 2, tyX5, fun _ h => (List.mem_cons_of_mem _ (List.mem_append_left _ (List.mem_append_left _ (List.mem_append_left _ (List.mem_append_right _ h))))), tyX5_ok, nmX5, (List.mem_cons_of_mem _ (List.mem_append_left _ (List.mem_append_left _ (List.mem_append_left _ (List.mem_append_left _ (List.mem_append_left _ (List.mem_append_left _ (List.mem_append_left _ (List.mem_of_getElem? (i := 3) rfl))))))))), rfl, by decide, rfl, rfl, by decide +kernel⟩
set_option maxRecDepth 100000 in
set_option maxHeartbeats 4000000 in
theorem c_X10_setPercent (l : Launch) (dd : kDD) (ks : List Nat) (ad : Nat → Nat) (E : Nat → va_E) (e : eS) (M : mS) (nR nC nt nL nW nV nM : Nat) (cn nm mn me li rl : Nat → Nat) (on : Int32) (hO : cO dd ks ad E on) (hR : cR dd ks ad E M nR) (hC : cC dd ks ad E M nC mn me) (hT : cT dd ks ad E M nt cn nm) (hL : cL dd ks ad E M nL nW li) (hW : cW dd ks ad E M nW rl) (hV : cV dd ks ad E M nV) (hM : cM dd ks ad E M nM) (hB : cB M nR nC nt nL nW nV cn nm mn me li rl) (mI mR : Int32 → Nat → Nat) (hmI : ∀ o j, j < nt → mnt o (M.2.1 22) j nV 0 = nI (mI o j) ∧ mI o j < nt) (hmR : ∀ o j, j < nR → mnt o (M.2.1 23) j nV 0 = nI (mR o j) ∧ mR o j < nR) (hpk : ∀ r, r < nR → 1 ≤ M.2.1 5 r) (v p : Int32) : kCiX l yX10_setPercent wsX10_setPercent ({ frames := 7, cells := 2, slots := 12, locals := 122 } : Room) 2 12 dd [.ref (ad 0), .int v, .int p] (ks, ad, (cE dd E e)) (kQi (S := kT) (fun r z => ∃ j, (j < nM ∧ v = nI j) ∧ (0 ≤ p ∧ p ≤ 50) ∧ (z.2.1 0 = ad 0 ∧ cAll dd (M.1, va_up M.2.1 26 (upd (M.2.1 26) j p), M.2.2) nR nC nt nL nW nV nM cn nm mn me li rl on z) ∧ r = M.2.1 26 j) (fun z => z.1) (fun z => z.2.1) (fun z => z.2.2)) (fun X9 u9 => ∃ e9, u9 = (ks, ad, cE dd E e9) ∧ ((X9 = "java/lang/IndexOutOfBoundsException" ∧ ¬ (∃ j, j < nM ∧ v = nI j)) ∨ (X9 = "java/lang/IllegalArgumentException" ∧ ((∃ j, j < nM ∧ v = nI j) ∧ ¬ (0 ≤ p ∧ p ≤ 50))))) := by
  refine kMetiX (ws' := _) (cc := cX10_setPercent) (maxL := 5) (rt := .int) (by decide) rfl (Nat.le_of_ble_eq_true rfl) (fun g X hr hRX hnL hRR hl0 hkn => ?_)
  show kv dd g 0 0 0 [(0, .ref (ad 0)), (1, .int v), (2, .int p)] [] ks ad (cE dd E e)
  have hT12 := hT.1
  have hR12 := hR.1
  have hL10 := hL.1
  have hV4 := hV.1
  have hM4 := hM.1
  have hC4 := hC.1
  have hW40 := hW.1
  obtain ⟨f20, f21, hf20, hf21, hff⟩ := hO.2.2.2.2
  refine kv_aload_n X 0 dX10_setPercent_0 rfl rfl ?_
  refine kv_iload_n X 1 dX10_setPercent_1 rfl rfl ?_
  refine kv_callvXV (ci := 13) (κ := 0) (r1 := (TX10, 3)) (As := [.int v]) [] X (c_X10_checkMarkup l dd ks ad E e M nR nC nt nL nW nV nM cn nm mn me li rl on hO hR hC hT hL hW hV hM hB v) hl0 (kCV_of X 1 gX10_setPercent_X10_checkMarkup rfl rfl rfl (by decide +kernel) hRR ⟨(Nat.le_of_ble_eq_true rfl), (Nat.le_of_ble_eq_true rfl)⟩) hO.1.1 ((cE_ne (by omega)).trans hO.1.2) rfl hRX ⟨(Nat.le_of_ble_eq_true rfl), (Nat.le_of_ble_eq_true rfl)⟩ (fun _ _ h => ⟨e, h.2.1, (Or.inl (⟨h.1, h.2.2⟩))⟩) rfl rfl (Nat.le_of_ble_eq_true rfl) hRR ⟨(Nat.le_of_ble_eq_true rfl), (Nat.le_of_ble_eq_true rfl)⟩ dX10_setPercent_2 (fun z hp => ?_)
  obtain ⟨rfl, j2, h2, rfl⟩ := hp
  refine kv_iload_n X 2 dX10_setPercent_5 rfl rfl ?_
  refine kv_iconst (v := 0) X dX10_setPercent_6 (by decide) ?_
  refine kv_bipush (v := 50) X dX10_setPercent_7 (by decide) ?_
  refine kv_callvXS (As := [.int p, .int 0, .int 50]) [] X (c_X10_checkRange l dd ks ad (cE dd E e) p 0 50) hl0 (kCS_of X 3 gX10_setPercent_X10_checkRange rfl rfl rfl (by decide +kernel) hRR ⟨(Nat.le_of_ble_eq_true rfl), (Nat.le_of_ble_eq_true rfl)⟩) hRX ⟨(Nat.le_of_ble_eq_true rfl), (Nat.le_of_ble_eq_true rfl)⟩ (fun _ _ h => ⟨e, h.2.1, (Or.inr (⟨h.1, ⟨⟨j2, h2, rfl⟩, h.2.2⟩⟩))⟩) rfl rfl (Nat.le_of_ble_eq_true rfl) hRR ⟨(Nat.le_of_ble_eq_true rfl), (Nat.le_of_ble_eq_true rfl)⟩ dX10_setPercent_9 (fun z hp => ?_)
  have h9 := hp
  refine kv_aload_n X 0 dX10_setPercent_12 rfl rfl ?_
  refine kv_getfield X f_X10_setPercent_10 (κ := 0) (fs := [.ref (ad 1), .ref (ad 2), .int on]) (v := .ref (ad 1)) hO.1.1 ((cE_ne (by omega)).trans hO.1.2) rfl dX10_setPercent_13 ?_
  refine kv_getfield X f_X10_setPercent_244 (κ := 1) (fs := [.ref (ad 3), .ref (ad 4), .ref (ad 5), .ref (ad 6), .ref (ad 7), .ref (ad 8), .ref (ad 9)]) (v := .ref (ad 9)) hO.2.1.1 ((cE_ne (by omega)).trans hO.2.1.2) rfl dX10_setPercent_16 ?_
  refine kv_iload_n X 1 dX10_setPercent_19 rfl rfl ?_
  obtain ⟨_, _, o20⟩ := kLs_obj (dd := dd) (ks := ks) (ad := ad) (E := (cE dd E e)) (kLs_cE hM.2.1 (by omega) (by omega) (fun i hi => by omega))
  refine kv_callqV (ci := 2) (κ := 9) (r1 := (TJx4a65c, 3)) (As := [.int (nI j2)]) [] X (c_Jx4a65c_get_915e3 l dd ks ad (cE dd E e) (9) (16) (nM) (fun m => 288 + m) 8 (kLs_cE hM.2.1 (by omega) (by omega) (fun i hi => by omega)) j2 (by omega)) hl0 (kCV_of X 1 gX10_setPercent_Jx4a65c_get_915e3 rfl rfl rfl (by decide +kernel) hRR ⟨(Nat.le_of_ble_eq_true rfl), (Nat.le_of_ble_eq_true rfl)⟩) hM.2.1.1 o20 rfl rfl rfl (Nat.le_of_ble_eq_true rfl) hRR ⟨(Nat.le_of_ble_eq_true rfl), (Nat.le_of_ble_eq_true rfl)⟩ dX10_setPercent_20 (fun r z hp => ?_)
  obtain rfl := hp
  refine kv_topg (.ref (ad (288 + j2))) rfl ?_
  refine kv_cast X (κ := 288 + j2) (ci := 8) (fs := [.int (M.2.1 26 j2), .int (M.2.1 27 j2)]) (r := (RX5, TX5, 2)) (List.mem_cons_of_mem _ (List.mem_append_left _ (List.mem_append_left _ (List.mem_append_left _ (List.mem_append_left _ (List.mem_append_left _ (List.mem_append_left _ (List.mem_append_left _ (List.mem_of_getElem? (i := 2) rfl))))))))) (hM.2.2 j2 (by omega)).1 ((cE_ne (by omega)).trans (hM.2.2 j2 (by omega)).2) rfl dX10_setPercent_23 ?_
  refine kv_astore_n (lv2 := [(3, .ref (ad (288 + j2))), (0, .ref (ad 0)), (1, .int (nI j2)), (2, .int p)]) X dX10_setPercent_26 rfl (by rw [hnL]; decide) rfl ?_
  refine kv_aload_n X 0 dX10_setPercent_27 rfl rfl ?_
  refine kv_getfield X f_X10_setPercent_255 (κ := 288 + j2) (fs := [.int (M.2.1 26 j2), .int (M.2.1 27 j2)]) (v := .int (M.2.1 26 j2)) (hM.2.2 j2 (by omega)).1 ((cE_ne (by omega)).trans (hM.2.2 j2 (by omega)).2) rfl dX10_setPercent_28 ?_
  refine kv_istore (lv2 := [(4, .int (M.2.1 26 j2)), (3, .ref (ad (288 + j2))), (0, .ref (ad 0)), (1, .int (nI j2)), (2, .int p)]) X dX10_setPercent_31 (by rw [hnL]; decide) rfl ?_
  refine kv_aload_n X 1 dX10_setPercent_33 rfl rfl ?_
  refine kv_iload_n X 4 dX10_setPercent_34 rfl rfl ?_
  refine kv_putfieldO X fp_X10_setPercent_255 (κ := 288 + j2) (fs := [.int (M.2.1 26 j2), .int (M.2.1 27 j2)]) (hM.2.2 j2 (by omega)).1 ((cE_ne (by omega)).trans (hM.2.2 j2 (by omega)).2) rfl rfl (Nat.le_of_ble_eq_true rfl) dX10_setPercent_35 ?_
  refine kv_E (E2 := cE dd (va_up E (288 + j2) (Sum.inr (8, [.int p, .int (M.2.1 27 j2)]))) e) (fun j _ => cE_upO (by omega) _ j) ?_
  refine kv_iload X 0 dX10_setPercent_38 rfl ?_
  exact kv_ireturn X hr (Nat.le_of_ble_eq_true rfl) (Nat.le_of_ble_eq_true rfl) ⟨(ks, ad, (cE dd (va_up E (288 + j2) (Sum.inr (8, [.int p, .int (M.2.1 27 j2)]))) e)), ⟨j2, ⟨h2, rfl⟩, h9, ⟨rfl, _, _, rfl, cO_up hO (by omega) _, cR_frame (cAg_up (by unfold sR; omega) _) hR, cC_frame (cAg_up (by unfold sC; omega) _) hC, cT_frame (cAg_up (by unfold sT; omega) _) hT, cL_frame (cAg_up (by unfold sL; omega) _) hL, cW_frame (cAg_up (by unfold sW; omega) _) hW, cV_frame (cAg_up (by unfold sV; omega) _) hV, cM_set hM h2⟩, rfl⟩, rfl⟩ dX10_setPercent_40
theorem f_X10_replaceItem_10 : kF wsX10_replaceItem RX10 10 13 0 := ⟨_, RX10, TX10, 3, fun _ h => (List.mem_cons_of_mem _ (List.mem_append_left _ (List.mem_append_left _ (List.mem_append_left _ (List.mem_append_left _ (List.mem_append_left _ (List.mem_append_left _ (List.mem_append_left _ (List.mem_append_right _ h))))))))), (List.mem_cons_of_mem _ (List.mem_append_left _ (List.mem_append_left _ (List.mem_append_left _ (List.mem_append_left _ (List.mem_append_left _ (List.mem_append_left _ (List.mem_append_left _ (List.mem_append_left _ (List.mem_append_left _ (List.mem_of_getElem? (i := 2) rfl))))))))))), rfl, by decide, rfl⟩
theorem f_X10_replaceItem_199 : kF wsX10_replaceItem RX10 199 9 5 := ⟨_, RX6, TX6, 7, fun _ h => (List.mem_cons_of_mem _ (List.mem_append_left _ (List.mem_append_left _ (List.mem_append_left _ (List.mem_append_left _ (List.mem_append_left _ (List.mem_append_left _ (List.mem_append_right _ h)))))))), (List.mem_cons_of_mem _ (List.mem_append_left _ (List.mem_append_left _ (List.mem_append_left _ (List.mem_append_left _ (List.mem_append_left _ (List.mem_append_left _ (List.mem_append_left _ (List.mem_append_left _ (List.mem_append_left _ (List.mem_of_getElem? (i := 3) rfl))))))))))), rfl, by decide, rfl⟩
theorem f_X10_replaceItem_216 : kF wsX10_replaceItem RX10 216 12 0 := ⟨_, RX9, TX9, 2, fun _ h => (List.mem_cons_of_mem _ (List.mem_append_left _ (List.mem_append_left _ (List.mem_append_left _ (List.mem_append_left _ (List.mem_append_left _ (List.mem_append_right _ h))))))), (List.mem_cons_of_mem _ (List.mem_append_left _ (List.mem_append_left _ (List.mem_append_left _ (List.mem_append_left _ (List.mem_append_left _ (List.mem_append_left _ (List.mem_append_left _ (List.mem_append_left _ (List.mem_append_left _ (List.mem_of_getElem? (i := 5) rfl))))))))))), rfl, by decide, rfl⟩
set_option maxRecDepth 100000 in
set_option maxHeartbeats 4000000 in
theorem c_X10_replaceItem (l : Launch) (dd : kDD) (ks : List Nat) (ad : Nat → Nat) (E : Nat → va_E) (e : eS) (M : mS) (nR nC nt nL nW nV nM : Nat) (cn nm mn me li rl : Nat → Nat) (on : Int32) (hO : cO dd ks ad E on) (hR : cR dd ks ad E M nR) (hC : cC dd ks ad E M nC mn me) (hT : cT dd ks ad E M nt cn nm) (hL : cL dd ks ad E M nL nW li) (hW : cW dd ks ad E M nW rl) (hV : cV dd ks ad E M nV) (hM : cM dd ks ad E M nM) (hB : cB M nR nC nt nL nW nV cn nm mn me li rl) (mI mR : Int32 → Nat → Nat) (hmI : ∀ o j, j < nt → mnt o (M.2.1 22) j nV 0 = nI (mI o j) ∧ mI o j < nt) (hmR : ∀ o j, j < nR → mnt o (M.2.1 23) j nV 0 = nI (mR o j) ∧ mR o j < nR) (hpk : ∀ r, r < nR → 1 ≤ M.2.1 5 r) (v x y : Int32) : kCiX l yX10_replaceItem wsX10_replaceItem ({ frames := 7, cells := 5, slots := 30, locals := 121 } : Room) 5 30 dd [.ref (ad 0), .int v, .int x, .int y] (ks, ad, (cE dd E e)) (kQi (S := kT) (fun r z => ∃ jv, ∃ ja, ∃ jb, (jv < nV ∧ ja < nt ∧ jb < nt ∧ v = nI jv ∧ x = nI ja ∧ y = nI jb) ∧ (ja ≠ jb) ∧ ¬ on >>> (nI jv &&& 31) &&& 1 = 1 ∧ (z.2.1 0 = ad 0 ∧ cAll dd (M.1, va_up M.2.1 22 (upd (M.2.1 22) (12 * jv + ja) (nI jb)), M.2.2) nR nC nt nL nW nV nM cn nm mn me li rl on z) ∧ r = tld (upd (M.2.1 22) (12 * jv + ja) (nI jb)) (12 * jv) 12) (fun z => z.1) (fun z => z.2.1) (fun z => z.2.2)) (fun X9 u9 => ∃ e9, u9 = (ks, ad, cE dd E e9) ∧ ((X9 = "java/lang/IndexOutOfBoundsException" ∧ ¬ ((∃ j, j < nV ∧ v = nI j) ∧ (∃ j, j < nt ∧ x = nI j) ∧ (∃ j, j < nt ∧ y = nI j))) ∨ (X9 = "java/lang/IllegalArgumentException" ∧ (∃ jv, ∃ ja, ∃ jb, (jv < nV ∧ ja < nt ∧ jb < nt ∧ v = nI jv ∧ x = nI ja ∧ y = nI jb) ∧ ¬ (ja ≠ jb))) ∨ (X9 = "java/lang/IllegalStateException" ∧ (∃ jv, ∃ ja, ∃ jb, (jv < nV ∧ ja < nt ∧ jb < nt ∧ v = nI jv ∧ x = nI ja ∧ y = nI jb) ∧ ((ja ≠ jb) ∧ on >>> (nI jv &&& 31) &&& 1 = 1))))) := by
  refine kMetiX (ws' := _) (cc := cX10_replaceItem) (maxL := 5) (rt := .int) (by decide) rfl (Nat.le_of_ble_eq_true rfl) (fun g X hr hRX hnL hRR hl0 hkn => ?_)
  show kv dd g 0 0 0 [(0, .ref (ad 0)), (1, .int v), (2, .int x), (3, .int y)] [] ks ad (cE dd E e)
  have hT12 := hT.1
  have hR12 := hR.1
  have hL10 := hL.1
  have hV4 := hV.1
  have hM4 := hM.1
  have hC4 := hC.1
  have hW40 := hW.1
  obtain ⟨f20, f21, hf20, hf21, hff⟩ := hO.2.2.2.2
  refine kv_aload_n X 0 dX10_replaceItem_0 rfl rfl ?_
  refine kv_iload_n X 1 dX10_replaceItem_1 rfl rfl ?_
  refine kv_callvXV (ci := 13) (κ := 0) (r1 := (TX10, 3)) (As := [.int v]) [] X (c_X10_checkVariant l dd ks ad E e M nR nC nt nL nW nV nM cn nm mn me li rl on hO hR hC hT hL hW hV hM hB v) hl0 (kCV_of X 1 gX10_replaceItem_X10_checkVariant rfl rfl rfl (by decide +kernel) hRR ⟨(Nat.le_of_ble_eq_true rfl), (Nat.le_of_ble_eq_true rfl)⟩) hO.1.1 ((cE_ne (by omega)).trans hO.1.2) rfl hRX ⟨(Nat.le_of_ble_eq_true rfl), (Nat.le_of_ble_eq_true rfl)⟩ (fun _ _ h => ⟨e, h.2.1, (Or.inl (⟨h.1, fun q => h.2.2 q.1⟩))⟩) rfl rfl (Nat.le_of_ble_eq_true rfl) hRR ⟨(Nat.le_of_ble_eq_true rfl), (Nat.le_of_ble_eq_true rfl)⟩ dX10_replaceItem_2 (fun z hp => ?_)
  obtain ⟨rfl, j2, h2, rfl⟩ := hp
  refine kv_aload_n X 0 dX10_replaceItem_5 rfl rfl ?_
  refine kv_iload_n X 2 dX10_replaceItem_6 rfl rfl ?_
  refine kv_callvXV (ci := 13) (κ := 0) (r1 := (TX10, 3)) (As := [.int x]) [] X (c_X10_checkItem l dd ks ad E e M nR nC nt nL nW nV nM cn nm mn me li rl on hO hR hC hT hL hW hV hM hB x) hl0 (kCV_of X 1 gX10_replaceItem_X10_checkItem rfl rfl rfl (by decide +kernel) hRR ⟨(Nat.le_of_ble_eq_true rfl), (Nat.le_of_ble_eq_true rfl)⟩) hO.1.1 ((cE_ne (by omega)).trans hO.1.2) rfl hRX ⟨(Nat.le_of_ble_eq_true rfl), (Nat.le_of_ble_eq_true rfl)⟩ (fun _ _ h => ⟨e, h.2.1, (Or.inl (⟨h.1, fun q => h.2.2 q.2.1⟩))⟩) rfl rfl (Nat.le_of_ble_eq_true rfl) hRR ⟨(Nat.le_of_ble_eq_true rfl), (Nat.le_of_ble_eq_true rfl)⟩ dX10_replaceItem_7 (fun z hp => ?_)
  obtain ⟨rfl, j7, h7, rfl⟩ := hp
  refine kv_aload_n X 0 dX10_replaceItem_10 rfl rfl ?_
  refine kv_iload_n X 3 dX10_replaceItem_11 rfl rfl ?_
  refine kv_callvXV (ci := 13) (κ := 0) (r1 := (TX10, 3)) (As := [.int y]) [] X (c_X10_checkItem l dd ks ad E e M nR nC nt nL nW nV nM cn nm mn me li rl on hO hR hC hT hL hW hV hM hB y) hl0 (kCV_of X 1 gX10_replaceItem_X10_checkItem rfl rfl rfl (by decide +kernel) hRR ⟨(Nat.le_of_ble_eq_true rfl), (Nat.le_of_ble_eq_true rfl)⟩) hO.1.1 ((cE_ne (by omega)).trans hO.1.2) rfl hRX ⟨(Nat.le_of_ble_eq_true rfl), (Nat.le_of_ble_eq_true rfl)⟩ (fun _ _ h => ⟨e, h.2.1, (Or.inl (⟨h.1, fun q => h.2.2 q.2.2⟩))⟩) rfl rfl (Nat.le_of_ble_eq_true rfl) hRR ⟨(Nat.le_of_ble_eq_true rfl), (Nat.le_of_ble_eq_true rfl)⟩ dX10_replaceItem_12 (fun z hp => ?_)
  obtain ⟨rfl, j12, h12, rfl⟩ := hp
  refine kv_iload_n X 2 dX10_replaceItem_15 rfl rfl ?_
  refine kv_iload_n X 3 dX10_replaceItem_16 rfl rfl ?_
  refine kn_icmp_ne (x := j7) (y := j12) (tgt := 30) X (by omega) (by omega) dX10_replaceItem_17 (by decide) (fun hc17 => ?_) (fun hc17 => ?_)
  ·
    refine kv_aload_n X 0 dX10_replaceItem_30 rfl rfl ?_
    refine kv_iload_n X 1 dX10_replaceItem_31 rfl rfl ?_
    refine kv_callvXV (ci := 13) (κ := 0) (r1 := (TX10, 3)) (As := [.int (nI j2)]) [] X (c_X10_checkOff l dd ks ad E e M nR nC nt nL nW nV nM cn nm mn me li rl on hO hR hC hT hL hW hV hM hB (nI j2)) hl0 (kCV_of X 1 gX10_replaceItem_X10_checkOff rfl rfl rfl (by decide +kernel) hRR ⟨(Nat.le_of_ble_eq_true rfl), (Nat.le_of_ble_eq_true rfl)⟩) hO.1.1 ((cE_ne (by omega)).trans hO.1.2) rfl hRX ⟨(Nat.le_of_ble_eq_true rfl), (Nat.le_of_ble_eq_true rfl)⟩ (fun _ _ h => ⟨e, h.2.1, (Or.inr (Or.inr (⟨h.1, ⟨j2, j7, j12, ⟨h2, h7, h12, rfl, rfl, rfl⟩, hc17, h.2.2⟩⟩)))⟩) rfl rfl (Nat.le_of_ble_eq_true rfl) hRR ⟨(Nat.le_of_ble_eq_true rfl), (Nat.le_of_ble_eq_true rfl)⟩ dX10_replaceItem_32 (fun z hp => ?_)
    obtain ⟨rfl, h32⟩ := hp
    refine kv_aload_n X 0 dX10_replaceItem_35 rfl rfl ?_
    refine kv_getfield X f_X10_replaceItem_10 (κ := 0) (fs := [.ref (ad 1), .ref (ad 2), .int on]) (v := .ref (ad 1)) hO.1.1 ((cE_ne (by omega)).trans hO.1.2) rfl dX10_replaceItem_36 ?_
    refine kv_getfield X f_X10_replaceItem_199 (κ := 1) (fs := [.ref (ad 3), .ref (ad 4), .ref (ad 5), .ref (ad 6), .ref (ad 7), .ref (ad 8), .ref (ad 9)]) (v := .ref (ad 8)) hO.2.1.1 ((cE_ne (by omega)).trans hO.2.1.2) rfl dX10_replaceItem_39 ?_
    refine kv_iload_n X 1 dX10_replaceItem_42 rfl rfl ?_
    obtain ⟨_, _, o43⟩ := kLs_obj (dd := dd) (ks := ks) (ad := ad) (E := (cE dd E e)) (kLs_cE hV.2.1 (by omega) (by omega) (fun i hi => by omega))
    refine kv_callqV (ci := 2) (κ := 8) (r1 := (TJx4a65c, 3)) (As := [.int (nI j2)]) [] X (c_Jx4a65c_get_915e3 l dd ks ad (cE dd E e) (8) (15) (nV) (fun v => 272 + v) 12 (kLs_cE hV.2.1 (by omega) (by omega) (fun i hi => by omega)) j2 (by omega)) hl0 (kCV_of X 1 gX10_replaceItem_Jx4a65c_get_915e3 rfl rfl rfl (by decide +kernel) hRR ⟨(Nat.le_of_ble_eq_true rfl), (Nat.le_of_ble_eq_true rfl)⟩) hV.2.1.1 o43 rfl rfl rfl (Nat.le_of_ble_eq_true rfl) hRR ⟨(Nat.le_of_ble_eq_true rfl), (Nat.le_of_ble_eq_true rfl)⟩ dX10_replaceItem_43 (fun r z hp => ?_)
    obtain rfl := hp
    refine kv_topg (.ref (ad (272 + j2))) rfl ?_
    refine kv_cast X (κ := 272 + j2) (ci := 12) (fs := [.ref (ad (276 + j2)), .ref (ad (280 + j2))]) (r := (RX9, TX9, 2)) (List.mem_cons_of_mem _ (List.mem_append_left _ (List.mem_append_left _ (List.mem_append_left _ (List.mem_append_left _ (List.mem_append_left _ (List.mem_append_left _ (List.mem_append_left _ (List.mem_append_left _ (List.mem_append_left _ (List.mem_of_getElem? (i := 4) rfl))))))))))) (hV.2.2 j2 (by omega)).1 ((cE_ne (by omega)).trans (hV.2.2 j2 (by omega)).2.1) rfl dX10_replaceItem_46 ?_
    obtain ⟨f1, f2, hf1, hf2, hff2⟩ := (hV.2.2 j2 h2).2.2.2.2
    refine kv_astore (lv2 := [(4, .ref (ad (272 + j2))), (0, .ref (ad 0)), (1, .int (nI j2)), (2, .int (nI j7)), (3, .int (nI j12))]) X dX10_replaceItem_49 (by rw [hnL]; decide) rfl ?_
    refine kv_aload X 0 dX10_replaceItem_51 rfl ?_
    refine kv_getfield X f_X10_replaceItem_216 (κ := 272 + j2) (fs := [.ref (ad (276 + j2)), .ref (ad (280 + j2))]) (v := .ref (ad (276 + j2))) (hV.2.2 j2 (by omega)).1 ((cE_ne (by omega)).trans (hV.2.2 j2 (by omega)).2.1) rfl dX10_replaceItem_53 ?_
    refine kv_iload_n X 3 dX10_replaceItem_56 rfl rfl ?_
    refine kv_iload_n X 4 dX10_replaceItem_57 rfl rfl ?_
    refine kv_iastore X (κ := 276 + j2) (n := 12) (j := j7) (f := f1) (x := (nI j12)) (hV.2.2 j2 h2).2.2.1 ((cE_ne (by omega)).trans hf1) (by omega) (by omega) dX10_replaceItem_58 ?_
    refine kv_E (E2 := cE dd (va_up E (276 + j2) (kI dd 12 (va_up f1 j7 (nI j12)))) e) (fun j _ => cE_upO (by omega) _ j) ?_
    refine kv_aload X 0 dX10_replaceItem_59 rfl ?_
    refine kv_getfield X f_X10_replaceItem_216 (κ := 272 + j2) (fs := [.ref (ad (276 + j2)), .ref (ad (280 + j2))]) (v := .ref (ad (276 + j2))) (hV.2.2 j2 (by omega)).1 ((cE_ne (by omega)).trans ((va_up_ne _ _ (by omega)).trans (hV.2.2 j2 (by omega)).2.1)) rfl dX10_replaceItem_61 ?_
    refine kv_calliS (As := [.ref (ad (276 + j2))]) [] X (c_X10_countReplaced l dd ks ad (cE dd (va_up E (276 + j2) (kI dd 12 (va_up f1 j7 (nI j12)))) e) (276 + j2) (va_up f1 j7 (nI j12)) (12 * j2) (upd (M.2.1 22) (12 * j2 + j7) (nI j12)) (hV.2.2 j2 h2).2.2.1 ((cE_ne (by omega)).trans (va_up_self _ _ _)) (c_upd (fun k hk => (hff2 k hk).1))) hl0 (kCS_of X 1 gX10_replaceItem_X10_countReplaced rfl rfl rfl (by decide +kernel) hRR ⟨(Nat.le_of_ble_eq_true rfl), (Nat.le_of_ble_eq_true rfl)⟩) rfl rfl (Nat.le_of_ble_eq_true rfl) hRR ⟨(Nat.le_of_ble_eq_true rfl), (Nat.le_of_ble_eq_true rfl)⟩ dX10_replaceItem_64 (fun r z hp => ?_)
    obtain rfl := hp
    exact kv_ireturn X hr (Nat.le_of_ble_eq_true rfl) (Nat.le_of_ble_eq_true rfl) ⟨(ks, ad, (cE dd (va_up E (276 + j2) (kI dd 12 (va_up f1 j7 (nI j12)))) e)), ⟨j2, j7, j12, ⟨h2, h7, h12, rfl, rfl, rfl⟩, hc17, h32, ⟨rfl, _, _, rfl, cO_up hO (by omega) _, cR_frame (cAg_up (by unfold sR; omega) _) hR, cC_frame (cAg_up (by unfold sC; omega) _) hC, cT_frame (cAg_up (by unfold sT; omega) _) hT, cL_frame (cAg_up (by unfold sL; omega) _) hL, cW_frame (cAg_up (by unfold sW; omega) _) hW, cV_set1 hV h2 (by omega) (fun k hk => (hff2 k hk).1), cM_frame (cAg_up (by unfold sM; omega) _) hM⟩, rfl⟩, rfl⟩ dX10_replaceItem_67
  ·
    exact kv_throw (cls := "java/lang/IllegalArgumentException") (text := "both items are the same") (names := ["java/lang/RuntimeException", "java/lang/Exception"]) (ik := 208) (is := 210) (ic := 212) X hRX tf_IAE (by decide) (List.mem_cons_of_mem _ (List.mem_append_left _ (List.mem_append_left _ (List.mem_append_left _ (List.mem_append_left _ (List.mem_append_left _ (List.mem_append_left _ (List.mem_append_left _ (List.mem_append_left _ (List.mem_append_left _ (List.mem_of_getElem? (i := 0) rfl))))))))))) (List.mem_cons_of_mem _ (List.mem_append_left _ (List.mem_append_left _ (List.mem_append_left _ (List.mem_append_left _ (List.mem_append_left _ (List.mem_append_left _ (List.mem_append_left _ (List.mem_append_left _ (List.mem_append_left _ (List.mem_of_getElem? (i := 1) rfl))))))))))) (by decide +kernel) (fun _ h => (List.mem_cons_of_mem _ (List.mem_append_left _ (List.mem_append_left _ (List.mem_append_left _ (List.mem_append_right _ h)))))) tb_IAE tg_IAE dX10_replaceItem_20 dX10_replaceItem_23 dX10_replaceItem_24 dX10_replaceItem_26 dX10_replaceItem_29 hRR (Nat.le_of_ble_eq_true rfl) ⟨(Nat.le_of_ble_eq_true rfl), (Nat.le_of_ble_eq_true rfl), (Nat.le_of_ble_eq_true rfl), (Nat.le_of_ble_eq_true rfl)⟩ (Nat.le_of_ble_eq_true rfl) (Nat.le_of_ble_eq_true rfl) ⟨e, rfl, (Or.inr (Or.inl (⟨rfl, ⟨j2, j7, j12, ⟨h2, h7, h12, rfl, rfl, rfl⟩, fun q => q hc17⟩⟩)))⟩
theorem f_X10_replaceResource_10 : kF wsX10_replaceResource RX10 10 13 0 := ⟨_, RX10, TX10, 3, fun _ h => (List.mem_cons_of_mem _ (List.mem_append_left _ (List.mem_append_left _ (List.mem_append_left _ (List.mem_append_left _ (List.mem_append_left _ (List.mem_append_left _ (List.mem_append_left _ (List.mem_append_left _ (List.mem_append_right _ h)))))))))), (List.mem_cons_of_mem _ (List.mem_append_left _ (List.mem_append_left _ (List.mem_append_left _ (List.mem_append_left _ (List.mem_append_left _ (List.mem_append_left _ (List.mem_append_left _ (List.mem_append_left _ (List.mem_append_left _ (List.mem_append_left _ (List.mem_of_getElem? (i := 2) rfl)))))))))))), rfl, by decide, rfl⟩
theorem f_X10_replaceResource_37 : kF wsX10_replaceResource RX10 37 9 0 := ⟨_, RX6, TX6, 7, fun _ h => (List.mem_cons_of_mem _ (List.mem_append_left _ (List.mem_append_left _ (List.mem_append_left _ (List.mem_append_left _ (List.mem_append_left _ (List.mem_append_left _ (List.mem_append_left _ (List.mem_append_right _ h))))))))), (List.mem_cons_of_mem _ (List.mem_append_left _ (List.mem_append_left _ (List.mem_append_left _ (List.mem_append_left _ (List.mem_append_left _ (List.mem_append_left _ (List.mem_append_left _ (List.mem_append_left _ (List.mem_append_left _ (List.mem_append_left _ (List.mem_of_getElem? (i := 3) rfl)))))))))))), rfl, by decide, rfl⟩
theorem f_X10_replaceResource_79 : kF wsX10_replaceResource RX10 79 10 0 := ⟨_, RX7, TX7, 4, fun _ h => (List.mem_cons_of_mem _ (List.mem_append_left _ (List.mem_append_left _ (List.mem_append_left _ (List.mem_append_left _ (List.mem_append_left _ (List.mem_append_left _ (List.mem_append_right _ h)))))))), (List.mem_cons_of_mem _ (List.mem_append_left _ (List.mem_append_left _ (List.mem_append_left _ (List.mem_append_left _ (List.mem_append_left _ (List.mem_append_left _ (List.mem_append_left _ (List.mem_append_left _ (List.mem_append_left _ (List.mem_append_left _ (List.mem_of_getElem? (i := 5) rfl)))))))))))), rfl, by decide, rfl⟩
theorem f_X10_replaceResource_199 : kF wsX10_replaceResource RX10 199 9 5 := ⟨_, RX6, TX6, 7, fun _ h => (List.mem_cons_of_mem _ (List.mem_append_left _ (List.mem_append_left _ (List.mem_append_left _ (List.mem_append_left _ (List.mem_append_left _ (List.mem_append_left _ (List.mem_append_left _ (List.mem_append_right _ h))))))))), (List.mem_cons_of_mem _ (List.mem_append_left _ (List.mem_append_left _ (List.mem_append_left _ (List.mem_append_left _ (List.mem_append_left _ (List.mem_append_left _ (List.mem_append_left _ (List.mem_append_left _ (List.mem_append_left _ (List.mem_append_left _ (List.mem_of_getElem? (i := 6) rfl)))))))))))), rfl, by decide, rfl⟩
theorem f_X10_replaceResource_227 : kF wsX10_replaceResource RX10 227 12 1 := ⟨_, RX9, TX9, 2, fun _ h => (List.mem_cons_of_mem _ (List.mem_append_left _ (List.mem_append_left _ (List.mem_append_left _ (List.mem_append_left _ (List.mem_append_left _ (List.mem_append_right _ h))))))), (List.mem_cons_of_mem _ (List.mem_append_left _ (List.mem_append_left _ (List.mem_append_left _ (List.mem_append_left _ (List.mem_append_left _ (List.mem_append_left _ (List.mem_append_left _ (List.mem_append_left _ (List.mem_append_left _ (List.mem_append_left _ (List.mem_of_getElem? (i := 8) rfl)))))))))))), rfl, by decide, rfl⟩
set_option maxRecDepth 100000 in
set_option maxHeartbeats 4000000 in
theorem c_X10_replaceResource (l : Launch) (dd : kDD) (ks : List Nat) (ad : Nat → Nat) (E : Nat → va_E) (e : eS) (M : mS) (nR nC nt nL nW nV nM : Nat) (cn nm mn me li rl : Nat → Nat) (on : Int32) (hO : cO dd ks ad E on) (hR : cR dd ks ad E M nR) (hC : cC dd ks ad E M nC mn me) (hT : cT dd ks ad E M nt cn nm) (hL : cL dd ks ad E M nL nW li) (hW : cW dd ks ad E M nW rl) (hV : cV dd ks ad E M nV) (hM : cM dd ks ad E M nM) (hB : cB M nR nC nt nL nW nV cn nm mn me li rl) (mI mR : Int32 → Nat → Nat) (hmI : ∀ o j, j < nt → mnt o (M.2.1 22) j nV 0 = nI (mI o j) ∧ mI o j < nt) (hmR : ∀ o j, j < nR → mnt o (M.2.1 23) j nV 0 = nI (mR o j) ∧ mR o j < nR) (hpk : ∀ r, r < nR → 1 ≤ M.2.1 5 r) (v x y : Int32) : kCiX l yX10_replaceResource wsX10_replaceResource ({ frames := 7, cells := 5, slots := 30, locals := 121 } : Room) 5 30 dd [.ref (ad 0), .int v, .int x, .int y] (ks, ad, (cE dd E e)) (kQi (S := kT) (fun r z => ∃ jv, ∃ ja, ∃ jb, (jv < nV ∧ ja < nR ∧ jb < nR ∧ v = nI jv ∧ x = nI ja ∧ y = nI jb) ∧ (ja ≠ jb ∧ M.2.1 2 ja = M.2.1 2 jb) ∧ ¬ on >>> (nI jv &&& 31) &&& 1 = 1 ∧ (z.2.1 0 = ad 0 ∧ cAll dd (M.1, va_up M.2.1 23 (upd (M.2.1 23) (12 * jv + ja) (nI jb)), M.2.2) nR nC nt nL nW nV nM cn nm mn me li rl on z) ∧ r = tld (upd (M.2.1 23) (12 * jv + ja) (nI jb)) (12 * jv) 12) (fun z => z.1) (fun z => z.2.1) (fun z => z.2.2)) (fun X9 u9 => ∃ e9, u9 = (ks, ad, cE dd E e9) ∧ ((X9 = "java/lang/IndexOutOfBoundsException" ∧ ¬ ((∃ j, j < nV ∧ v = nI j) ∧ (∃ j, j < nR ∧ x = nI j) ∧ (∃ j, j < nR ∧ y = nI j))) ∨ (X9 = "java/lang/IllegalArgumentException" ∧ (∃ jv, ∃ ja, ∃ jb, (jv < nV ∧ ja < nR ∧ jb < nR ∧ v = nI jv ∧ x = nI ja ∧ y = nI jb) ∧ ¬ (ja ≠ jb ∧ M.2.1 2 ja = M.2.1 2 jb))) ∨ (X9 = "java/lang/IllegalStateException" ∧ (∃ jv, ∃ ja, ∃ jb, (jv < nV ∧ ja < nR ∧ jb < nR ∧ v = nI jv ∧ x = nI ja ∧ y = nI jb) ∧ ((ja ≠ jb ∧ M.2.1 2 ja = M.2.1 2 jb) ∧ on >>> (nI jv &&& 31) &&& 1 = 1))))) := by
  refine kMetiX (ws' := _) (cc := cX10_replaceResource) (maxL := 5) (rt := .int) (by decide) rfl (Nat.le_of_ble_eq_true rfl) (fun g X hr hRX hnL hRR hl0 hkn => ?_)
  show kv dd g 0 0 0 [(0, .ref (ad 0)), (1, .int v), (2, .int x), (3, .int y)] [] ks ad (cE dd E e)
  have hT12 := hT.1
  have hR12 := hR.1
  have hL10 := hL.1
  have hV4 := hV.1
  have hM4 := hM.1
  have hC4 := hC.1
  have hW40 := hW.1
  obtain ⟨f20, f21, hf20, hf21, hff⟩ := hO.2.2.2.2
  refine kv_aload_n X 0 dX10_replaceResource_0 rfl rfl ?_
  refine kv_iload_n X 1 dX10_replaceResource_1 rfl rfl ?_
  refine kv_callvXV (ci := 13) (κ := 0) (r1 := (TX10, 3)) (As := [.int v]) [] X (c_X10_checkVariant l dd ks ad E e M nR nC nt nL nW nV nM cn nm mn me li rl on hO hR hC hT hL hW hV hM hB v) hl0 (kCV_of X 1 gX10_replaceResource_X10_checkVariant rfl rfl rfl (by decide +kernel) hRR ⟨(Nat.le_of_ble_eq_true rfl), (Nat.le_of_ble_eq_true rfl)⟩) hO.1.1 ((cE_ne (by omega)).trans hO.1.2) rfl hRX ⟨(Nat.le_of_ble_eq_true rfl), (Nat.le_of_ble_eq_true rfl)⟩ (fun _ _ h => ⟨e, h.2.1, (Or.inl (⟨h.1, fun q => h.2.2 q.1⟩))⟩) rfl rfl (Nat.le_of_ble_eq_true rfl) hRR ⟨(Nat.le_of_ble_eq_true rfl), (Nat.le_of_ble_eq_true rfl)⟩ dX10_replaceResource_2 (fun z hp => ?_)
  obtain ⟨rfl, j2, h2, rfl⟩ := hp
  refine kv_aload_n X 0 dX10_replaceResource_5 rfl rfl ?_
  refine kv_iload_n X 2 dX10_replaceResource_6 rfl rfl ?_
  refine kv_callvXV (ci := 13) (κ := 0) (r1 := (TX10, 3)) (As := [.int x]) [] X (c_X10_checkResource l dd ks ad E e M nR nC nt nL nW nV nM cn nm mn me li rl on hO hR hC hT hL hW hV hM hB x) hl0 (kCV_of X 1 gX10_replaceResource_X10_checkResource rfl rfl rfl (by decide +kernel) hRR ⟨(Nat.le_of_ble_eq_true rfl), (Nat.le_of_ble_eq_true rfl)⟩) hO.1.1 ((cE_ne (by omega)).trans hO.1.2) rfl hRX ⟨(Nat.le_of_ble_eq_true rfl), (Nat.le_of_ble_eq_true rfl)⟩ (fun _ _ h => ⟨e, h.2.1, (Or.inl (⟨h.1, fun q => h.2.2 q.2.1⟩))⟩) rfl rfl (Nat.le_of_ble_eq_true rfl) hRR ⟨(Nat.le_of_ble_eq_true rfl), (Nat.le_of_ble_eq_true rfl)⟩ dX10_replaceResource_7 (fun z hp => ?_)
  obtain ⟨rfl, j7, h7, rfl⟩ := hp
  refine kv_aload_n X 0 dX10_replaceResource_10 rfl rfl ?_
  refine kv_iload_n X 3 dX10_replaceResource_11 rfl rfl ?_
  refine kv_callvXV (ci := 13) (κ := 0) (r1 := (TX10, 3)) (As := [.int y]) [] X (c_X10_checkResource l dd ks ad E e M nR nC nt nL nW nV nM cn nm mn me li rl on hO hR hC hT hL hW hV hM hB y) hl0 (kCV_of X 1 gX10_replaceResource_X10_checkResource rfl rfl rfl (by decide +kernel) hRR ⟨(Nat.le_of_ble_eq_true rfl), (Nat.le_of_ble_eq_true rfl)⟩) hO.1.1 ((cE_ne (by omega)).trans hO.1.2) rfl hRX ⟨(Nat.le_of_ble_eq_true rfl), (Nat.le_of_ble_eq_true rfl)⟩ (fun _ _ h => ⟨e, h.2.1, (Or.inl (⟨h.1, fun q => h.2.2 q.2.2⟩))⟩) rfl rfl (Nat.le_of_ble_eq_true rfl) hRR ⟨(Nat.le_of_ble_eq_true rfl), (Nat.le_of_ble_eq_true rfl)⟩ dX10_replaceResource_12 (fun z hp => ?_)
  obtain ⟨rfl, j12, h12, rfl⟩ := hp
  refine kv_iload_n X 2 dX10_replaceResource_15 rfl rfl ?_
  refine kv_iload_n X 3 dX10_replaceResource_16 rfl rfl ?_
  refine kn_icmp_ne (x := j7) (y := j12) (tgt := 30) X (by omega) (by omega) dX10_replaceResource_17 (by decide) (fun hc17 => ?_) (fun hc17 => ?_)
  ·
    refine kv_aload_n X 0 dX10_replaceResource_30 rfl rfl ?_
    refine kv_getfield X f_X10_replaceResource_10 (κ := 0) (fs := [.ref (ad 1), .ref (ad 2), .int on]) (v := .ref (ad 1)) hO.1.1 ((cE_ne (by omega)).trans hO.1.2) rfl dX10_replaceResource_31 ?_
    refine kv_getfield X f_X10_replaceResource_37 (κ := 1) (fs := [.ref (ad 3), .ref (ad 4), .ref (ad 5), .ref (ad 6), .ref (ad 7), .ref (ad 8), .ref (ad 9)]) (v := .ref (ad 3)) hO.2.1.1 ((cE_ne (by omega)).trans hO.2.1.2) rfl dX10_replaceResource_34 ?_
    refine kv_iload_n X 2 dX10_replaceResource_37 rfl rfl ?_
    obtain ⟨_, _, o38⟩ := kLs_obj (dd := dd) (ks := ks) (ad := ad) (E := (cE dd E e)) (kLs_cE hR.2.1 (by omega) (by omega) (fun i hi => by omega))
    refine kv_callqV (ci := 2) (κ := 3) (r1 := (TJx4a65c, 3)) (As := [.int (nI j7)]) [] X (c_Jx4a65c_get_915e3 l dd ks ad (cE dd E e) (3) (10) (nR) (fun r => 64 + r) 10 (kLs_cE hR.2.1 (by omega) (by omega) (fun i hi => by omega)) j7 (by omega)) hl0 (kCV_of X 1 gX10_replaceResource_Jx4a65c_get_915e3 rfl rfl rfl (by decide +kernel) hRR ⟨(Nat.le_of_ble_eq_true rfl), (Nat.le_of_ble_eq_true rfl)⟩) hR.2.1.1 o38 rfl rfl rfl (Nat.le_of_ble_eq_true rfl) hRR ⟨(Nat.le_of_ble_eq_true rfl), (Nat.le_of_ble_eq_true rfl)⟩ dX10_replaceResource_38 (fun r z hp => ?_)
    obtain rfl := hp
    refine kv_topg (.ref (ad (64 + j7))) rfl ?_
    refine kv_cast X (κ := 64 + j7) (ci := 10) (fs := [.int (M.2.1 2 j7), .int (M.2.1 3 j7), .int (M.2.1 4 j7), .int (M.2.1 5 j7)]) (r := (RX7, TX7, 4)) (List.mem_cons_of_mem _ (List.mem_append_left _ (List.mem_append_left _ (List.mem_append_left _ (List.mem_append_left _ (List.mem_append_left _ (List.mem_append_left _ (List.mem_append_left _ (List.mem_append_left _ (List.mem_append_left _ (List.mem_append_left _ (List.mem_of_getElem? (i := 4) rfl)))))))))))) (hR.2.2 j7 (by omega)).1 ((cE_ne (by omega)).trans (hR.2.2 j7 (by omega)).2) rfl dX10_replaceResource_41 ?_
    refine kv_getfield X f_X10_replaceResource_79 (κ := 64 + j7) (fs := [.int (M.2.1 2 j7), .int (M.2.1 3 j7), .int (M.2.1 4 j7), .int (M.2.1 5 j7)]) (v := .int (M.2.1 2 j7)) (hR.2.2 j7 (by omega)).1 ((cE_ne (by omega)).trans (hR.2.2 j7 (by omega)).2) rfl dX10_replaceResource_44 ?_
    refine kv_aload_n X 0 dX10_replaceResource_47 rfl rfl ?_
    refine kv_getfield X f_X10_replaceResource_10 (κ := 0) (fs := [.ref (ad 1), .ref (ad 2), .int on]) (v := .ref (ad 1)) hO.1.1 ((cE_ne (by omega)).trans hO.1.2) rfl dX10_replaceResource_48 ?_
    refine kv_getfield X f_X10_replaceResource_37 (κ := 1) (fs := [.ref (ad 3), .ref (ad 4), .ref (ad 5), .ref (ad 6), .ref (ad 7), .ref (ad 8), .ref (ad 9)]) (v := .ref (ad 3)) hO.2.1.1 ((cE_ne (by omega)).trans hO.2.1.2) rfl dX10_replaceResource_51 ?_
    refine kv_iload_n X 3 dX10_replaceResource_54 rfl rfl ?_
    obtain ⟨_, _, o55⟩ := kLs_obj (dd := dd) (ks := ks) (ad := ad) (E := (cE dd E e)) (kLs_cE hR.2.1 (by omega) (by omega) (fun i hi => by omega))
    refine kv_callqV (ci := 2) (κ := 3) (r1 := (TJx4a65c, 3)) (As := [.int (nI j12)]) [.int (M.2.1 2 j7)] X (c_Jx4a65c_get_915e3 l dd ks ad (cE dd E e) (3) (10) (nR) (fun r => 64 + r) 10 (kLs_cE hR.2.1 (by omega) (by omega) (fun i hi => by omega)) j12 (by omega)) hl0 (kCV_of X 1 gX10_replaceResource_Jx4a65c_get_915e3 rfl rfl rfl (by decide +kernel) hRR ⟨(Nat.le_of_ble_eq_true rfl), (Nat.le_of_ble_eq_true rfl)⟩) hR.2.1.1 o55 rfl rfl rfl (Nat.le_of_ble_eq_true rfl) hRR ⟨(Nat.le_of_ble_eq_true rfl), (Nat.le_of_ble_eq_true rfl)⟩ dX10_replaceResource_55 (fun r z hp => ?_)
    obtain rfl := hp
    refine kv_topg (.ref (ad (64 + j12))) rfl ?_
    refine kv_cast X (κ := 64 + j12) (ci := 10) (fs := [.int (M.2.1 2 j12), .int (M.2.1 3 j12), .int (M.2.1 4 j12), .int (M.2.1 5 j12)]) (r := (RX7, TX7, 4)) (List.mem_cons_of_mem _ (List.mem_append_left _ (List.mem_append_left _ (List.mem_append_left _ (List.mem_append_left _ (List.mem_append_left _ (List.mem_append_left _ (List.mem_append_left _ (List.mem_append_left _ (List.mem_append_left _ (List.mem_append_left _ (List.mem_of_getElem? (i := 4) rfl)))))))))))) (hR.2.2 j12 (by omega)).1 ((cE_ne (by omega)).trans (hR.2.2 j12 (by omega)).2) rfl dX10_replaceResource_58 ?_
    refine kv_getfield X f_X10_replaceResource_79 (κ := 64 + j12) (fs := [.int (M.2.1 2 j12), .int (M.2.1 3 j12), .int (M.2.1 4 j12), .int (M.2.1 5 j12)]) (v := .int (M.2.1 2 j12)) (hR.2.2 j12 (by omega)).1 ((cE_ne (by omega)).trans (hR.2.2 j12 (by omega)).2) rfl dX10_replaceResource_61 ?_
    refine kv_icmp_eq (tgt := 77) X dX10_replaceResource_64 (by decide) (fun hc64 => ?_) (fun hc64 => ?_)
    ·
      refine kv_aload_n X 0 dX10_replaceResource_77 rfl rfl ?_
      refine kv_iload_n X 1 dX10_replaceResource_78 rfl rfl ?_
      refine kv_callvXV (ci := 13) (κ := 0) (r1 := (TX10, 3)) (As := [.int (nI j2)]) [] X (c_X10_checkOff l dd ks ad E e M nR nC nt nL nW nV nM cn nm mn me li rl on hO hR hC hT hL hW hV hM hB (nI j2)) hl0 (kCV_of X 1 gX10_replaceResource_X10_checkOff rfl rfl rfl (by decide +kernel) hRR ⟨(Nat.le_of_ble_eq_true rfl), (Nat.le_of_ble_eq_true rfl)⟩) hO.1.1 ((cE_ne (by omega)).trans hO.1.2) rfl hRX ⟨(Nat.le_of_ble_eq_true rfl), (Nat.le_of_ble_eq_true rfl)⟩ (fun _ _ h => ⟨e, h.2.1, (Or.inr (Or.inr (⟨h.1, ⟨j2, j7, j12, ⟨h2, h7, h12, rfl, rfl, rfl⟩, ⟨hc17, hc64⟩, h.2.2⟩⟩)))⟩) rfl rfl (Nat.le_of_ble_eq_true rfl) hRR ⟨(Nat.le_of_ble_eq_true rfl), (Nat.le_of_ble_eq_true rfl)⟩ dX10_replaceResource_79 (fun z hp => ?_)
      obtain ⟨rfl, h79⟩ := hp
      refine kv_aload_n X 0 dX10_replaceResource_82 rfl rfl ?_
      refine kv_getfield X f_X10_replaceResource_10 (κ := 0) (fs := [.ref (ad 1), .ref (ad 2), .int on]) (v := .ref (ad 1)) hO.1.1 ((cE_ne (by omega)).trans hO.1.2) rfl dX10_replaceResource_83 ?_
      refine kv_getfield X f_X10_replaceResource_199 (κ := 1) (fs := [.ref (ad 3), .ref (ad 4), .ref (ad 5), .ref (ad 6), .ref (ad 7), .ref (ad 8), .ref (ad 9)]) (v := .ref (ad 8)) hO.2.1.1 ((cE_ne (by omega)).trans hO.2.1.2) rfl dX10_replaceResource_86 ?_
      refine kv_iload_n X 1 dX10_replaceResource_89 rfl rfl ?_
      obtain ⟨_, _, o90⟩ := kLs_obj (dd := dd) (ks := ks) (ad := ad) (E := (cE dd E e)) (kLs_cE hV.2.1 (by omega) (by omega) (fun i hi => by omega))
      refine kv_callqV (ci := 2) (κ := 8) (r1 := (TJx4a65c, 3)) (As := [.int (nI j2)]) [] X (c_Jx4a65c_get_915e3 l dd ks ad (cE dd E e) (8) (15) (nV) (fun v => 272 + v) 12 (kLs_cE hV.2.1 (by omega) (by omega) (fun i hi => by omega)) j2 (by omega)) hl0 (kCV_of X 1 gX10_replaceResource_Jx4a65c_get_915e3 rfl rfl rfl (by decide +kernel) hRR ⟨(Nat.le_of_ble_eq_true rfl), (Nat.le_of_ble_eq_true rfl)⟩) hV.2.1.1 o90 rfl rfl rfl (Nat.le_of_ble_eq_true rfl) hRR ⟨(Nat.le_of_ble_eq_true rfl), (Nat.le_of_ble_eq_true rfl)⟩ dX10_replaceResource_90 (fun r z hp => ?_)
      obtain rfl := hp
      refine kv_topg (.ref (ad (272 + j2))) rfl ?_
      refine kv_cast X (κ := 272 + j2) (ci := 12) (fs := [.ref (ad (276 + j2)), .ref (ad (280 + j2))]) (r := (RX9, TX9, 2)) (List.mem_cons_of_mem _ (List.mem_append_left _ (List.mem_append_left _ (List.mem_append_left _ (List.mem_append_left _ (List.mem_append_left _ (List.mem_append_left _ (List.mem_append_left _ (List.mem_append_left _ (List.mem_append_left _ (List.mem_append_left _ (List.mem_of_getElem? (i := 7) rfl)))))))))))) (hV.2.2 j2 (by omega)).1 ((cE_ne (by omega)).trans (hV.2.2 j2 (by omega)).2.1) rfl dX10_replaceResource_93 ?_
      obtain ⟨f1, f2, hf1, hf2, hff2⟩ := (hV.2.2 j2 h2).2.2.2.2
      refine kv_astore (lv2 := [(4, .ref (ad (272 + j2))), (0, .ref (ad 0)), (1, .int (nI j2)), (2, .int (nI j7)), (3, .int (nI j12))]) X dX10_replaceResource_96 (by rw [hnL]; decide) rfl ?_
      refine kv_aload X 0 dX10_replaceResource_98 rfl ?_
      refine kv_getfield X f_X10_replaceResource_227 (κ := 272 + j2) (fs := [.ref (ad (276 + j2)), .ref (ad (280 + j2))]) (v := .ref (ad (280 + j2))) (hV.2.2 j2 (by omega)).1 ((cE_ne (by omega)).trans (hV.2.2 j2 (by omega)).2.1) rfl dX10_replaceResource_100 ?_
      refine kv_iload_n X 3 dX10_replaceResource_103 rfl rfl ?_
      refine kv_iload_n X 4 dX10_replaceResource_104 rfl rfl ?_
      refine kv_iastore X (κ := 280 + j2) (n := 12) (j := j7) (f := f2) (x := (nI j12)) (hV.2.2 j2 h2).2.2.2.1 ((cE_ne (by omega)).trans hf2) (by omega) (by omega) dX10_replaceResource_105 ?_
      refine kv_E (E2 := cE dd (va_up E (280 + j2) (kI dd 12 (va_up f2 j7 (nI j12)))) e) (fun j _ => cE_upO (by omega) _ j) ?_
      refine kv_aload X 0 dX10_replaceResource_106 rfl ?_
      refine kv_getfield X f_X10_replaceResource_227 (κ := 272 + j2) (fs := [.ref (ad (276 + j2)), .ref (ad (280 + j2))]) (v := .ref (ad (280 + j2))) (hV.2.2 j2 (by omega)).1 ((cE_ne (by omega)).trans ((va_up_ne _ _ (by omega)).trans (hV.2.2 j2 (by omega)).2.1)) rfl dX10_replaceResource_108 ?_
      refine kv_calliS (As := [.ref (ad (280 + j2))]) [] X (c_X10_countReplaced l dd ks ad (cE dd (va_up E (280 + j2) (kI dd 12 (va_up f2 j7 (nI j12)))) e) (280 + j2) (va_up f2 j7 (nI j12)) (12 * j2) (upd (M.2.1 23) (12 * j2 + j7) (nI j12)) (hV.2.2 j2 h2).2.2.2.1 ((cE_ne (by omega)).trans (va_up_self _ _ _)) (c_upd (fun k hk => (hff2 k hk).2))) hl0 (kCS_of X 1 gX10_replaceResource_X10_countReplaced rfl rfl rfl (by decide +kernel) hRR ⟨(Nat.le_of_ble_eq_true rfl), (Nat.le_of_ble_eq_true rfl)⟩) rfl rfl (Nat.le_of_ble_eq_true rfl) hRR ⟨(Nat.le_of_ble_eq_true rfl), (Nat.le_of_ble_eq_true rfl)⟩ dX10_replaceResource_111 (fun r z hp => ?_)
      obtain rfl := hp
      exact kv_ireturn X hr (Nat.le_of_ble_eq_true rfl) (Nat.le_of_ble_eq_true rfl) ⟨(ks, ad, (cE dd (va_up E (280 + j2) (kI dd 12 (va_up f2 j7 (nI j12)))) e)), ⟨j2, j7, j12, ⟨h2, h7, h12, rfl, rfl, rfl⟩, ⟨hc17, hc64⟩, h79, ⟨rfl, _, _, rfl, cO_up hO (by omega) _, cR_frame (cAg_up (by unfold sR; omega) _) hR, cC_frame (cAg_up (by unfold sC; omega) _) hC, cT_frame (cAg_up (by unfold sT; omega) _) hT, cL_frame (cAg_up (by unfold sL; omega) _) hL, cW_frame (cAg_up (by unfold sW; omega) _) hW, cV_set2 hV h2 (by omega) (fun k hk => (hff2 k hk).2), cM_frame (cAg_up (by unfold sM; omega) _) hM⟩, rfl⟩, rfl⟩ dX10_replaceResource_114
    ·
      exact kv_throw (cls := "java/lang/IllegalArgumentException") (text := "the kinds of the resources are different") (names := ["java/lang/RuntimeException", "java/lang/Exception"]) (ik := 208) (is := 225) (ic := 212) X hRX tf_IAE (by decide) (List.mem_cons_of_mem _ (List.mem_append_left _ (List.mem_append_left _ (List.mem_append_left _ (List.mem_append_left _ (List.mem_append_left _ (List.mem_append_left _ (List.mem_append_left _ (List.mem_append_left _ (List.mem_append_left _ (List.mem_append_left _ (List.mem_of_getElem? (i := 0) rfl)))))))))))) (List.mem_cons_of_mem _ (List.mem_append_left _ (List.mem_append_left _ (List.mem_append_left _ (List.mem_append_left _ (List.mem_append_left _ (List.mem_append_left _ (List.mem_append_left _ (List.mem_append_left _ (List.mem_append_left _ (List.mem_append_left _ (List.mem_of_getElem? (i := 1) rfl)))))))))))) (by decide +kernel) (fun _ h => (List.mem_cons_of_mem _ (List.mem_append_left _ (List.mem_append_left _ (List.mem_append_left _ (List.mem_append_right _ h)))))) tb_IAE tg_IAE dX10_replaceResource_67 dX10_replaceResource_70 dX10_replaceResource_71 dX10_replaceResource_73 dX10_replaceResource_76 hRR (Nat.le_of_ble_eq_true rfl) ⟨(Nat.le_of_ble_eq_true rfl), (Nat.le_of_ble_eq_true rfl), (Nat.le_of_ble_eq_true rfl), (Nat.le_of_ble_eq_true rfl)⟩ (Nat.le_of_ble_eq_true rfl) (Nat.le_of_ble_eq_true rfl) ⟨e, rfl, (Or.inr (Or.inl (⟨rfl, ⟨j2, j7, j12, ⟨h2, h7, h12, rfl, rfl, rfl⟩, fun q => hc64 q.2⟩⟩)))⟩
  ·
    exact kv_throw (cls := "java/lang/IllegalArgumentException") (text := "both resources are the same") (names := ["java/lang/RuntimeException", "java/lang/Exception"]) (ik := 208) (is := 223) (ic := 212) X hRX tf_IAE (by decide) (List.mem_cons_of_mem _ (List.mem_append_left _ (List.mem_append_left _ (List.mem_append_left _ (List.mem_append_left _ (List.mem_append_left _ (List.mem_append_left _ (List.mem_append_left _ (List.mem_append_left _ (List.mem_append_left _ (List.mem_append_left _ (List.mem_of_getElem? (i := 0) rfl)))))))))))) (List.mem_cons_of_mem _ (List.mem_append_left _ (List.mem_append_left _ (List.mem_append_left _ (List.mem_append_left _ (List.mem_append_left _ (List.mem_append_left _ (List.mem_append_left _ (List.mem_append_left _ (List.mem_append_left _ (List.mem_append_left _ (List.mem_of_getElem? (i := 1) rfl)))))))))))) (by decide +kernel) (fun _ h => (List.mem_cons_of_mem _ (List.mem_append_left _ (List.mem_append_left _ (List.mem_append_left _ (List.mem_append_right _ h)))))) tb_IAE tg_IAE dX10_replaceResource_20 dX10_replaceResource_23 dX10_replaceResource_24 dX10_replaceResource_26 dX10_replaceResource_29 hRR (Nat.le_of_ble_eq_true rfl) ⟨(Nat.le_of_ble_eq_true rfl), (Nat.le_of_ble_eq_true rfl), (Nat.le_of_ble_eq_true rfl), (Nat.le_of_ble_eq_true rfl)⟩ (Nat.le_of_ble_eq_true rfl) (Nat.le_of_ble_eq_true rfl) ⟨e, rfl, (Or.inr (Or.inl (⟨rfl, ⟨j2, j7, j12, ⟨h2, h7, h12, rfl, rfl, rfl⟩, fun q => q.1 hc17⟩⟩)))⟩

theorem fs_Jx4a65c_fastRemove_b59b0_63 : kFS wsJx4a65c_fastRemove_b59b0 RJx4a65c 63 2 0 .int := ⟨_, RJx4a65c, TJx4a65c, 3, tyJx4a65c, fun _ h => (List.mem_cons_of_mem _ (List.mem_append_right _ h)), tyJx4a65c_ok, nmJx4a65c, (List.mem_cons_of_mem _ (List.mem_append_left _ (List.mem_of_getElem? (i := 0) rfl))), rfl, by decide, (List.mem_cons_of_mem _ (List.mem_append_left _ (List.mem_of_getElem? (i := 1) rfl))), rfl, by decide +kernel⟩
theorem f_Jx4a65c_fastRemove_b59b0_48 : kF wsJx4a65c_fastRemove_b59b0 RJx4a65c 48 2 2 := ⟨_, RJx4a65c, TJx4a65c, 3, fun _ h => (List.mem_cons_of_mem _ (List.mem_append_right _ h)), (List.mem_cons_of_mem _ (List.mem_append_left _ (List.mem_of_getElem? (i := 2) rfl))), rfl, by decide, rfl⟩
theorem fp_Jx4a65c_fastRemove_b59b0_48 : kFp wsJx4a65c_fastRemove_b59b0 RJx4a65c 48 2 2 .int false := ⟨_, RJx4a65c, TJx4a65c, 3, tyJx4a65c, fun _ h => (List.mem_cons_of_mem _ (List.mem_append_right _ h)), tyJx4a65c_ok, nmJx4a65c, (List.mem_cons_of_mem _ (List.mem_append_left _ (List.mem_of_getElem? (i := 2) rfl))), rfl, by decide, rfl, rfl, by decide +kernel, rfl⟩
set_option maxRecDepth 100000 in
set_option maxHeartbeats 4000000 in
theorem c_Jx4a65c_fastRemove_b59b0 (l : Launch) (dd : kDD) (ks : List Nat) (ad : Nat → Nat) (E : Nat → va_E) (lk ak n i : Nat) (ek : Nat → Nat) (ci : Nat) (mc : Int32) (cap : Nat) (f : Nat → Option Nat) (hlk : lk ∈ ks) (hne : lk ≠ ak) (hes : kEs ks E lk ak n ek ci) (hi : i < n) (hn : n < 60) (hak : ak ∈ ks) (hnc : n ≤ cap) (h0c : 0 < cap) (hc100 : cap < 100) (hA : E ak = kO dd cap f) (hf : ∀ i, i < n → f i = some (ad (ek i))) (hO : E lk = .inr (2, [.int mc, .ref (ad ak), .int (nI n)])) : kCv l yJx4a65c_fastRemove_b59b0 wsJx4a65c_fastRemove_b59b0 ({ frames := 1, cells := 0, slots := 0, locals := 60 } : Room) 0 0 dd [.ref (ad lk), .ref (ad ak), .int (nI i)] (ks, ad, E) (kQv (S := kT) (fun z => kGw ks ad E dd lk ak (n - 1) (n - 1) (n - 1) (mc + 1) (fun j => some (ad (ek (if j < i then j else j + 1)))) z ∧ z.1 = ks ∧ z.2.1 = ad) (fun z => z.1) (fun z => z.2.1) (fun z => z.2.2)) := by
  refine kMetv (ws' := _) (cc := cJx4a65c_fastRemove_b59b0) (maxL := 4) (by decide) rfl (Nat.le_of_ble_eq_true rfl) (fun g X hr hnL hRR hl0 hkn => ?_)
  show kv dd g 0 0 0 [(0, .ref (ad lk)), (1, .ref (ad ak)), (2, .int (nI i))] [] ks ad E
  refine kv_aload_n X 0 dJx4a65c_fastRemove_b59b0_0 rfl rfl ?_
  refine kv_dup X dJx4a65c_fastRemove_b59b0_1 rfl ?_
  refine kv_getfieldS X fs_Jx4a65c_fastRemove_b59b0_63 (κ := lk) (fs := [.int mc, .ref (ad ak), .int (nI n)]) (v := .int mc) hlk hO rfl dJx4a65c_fastRemove_b59b0_2 ?_
  refine kv_iconst (v := 1) X dJx4a65c_fastRemove_b59b0_5 (by decide) ?_
  refine kv_iadd X dJx4a65c_fastRemove_b59b0_6 ?_
  refine kv_putfieldS X fs_Jx4a65c_fastRemove_b59b0_63 (κ := lk) (fs := [.int mc, .ref (ad ak), .int (nI n)]) hlk hO rfl rfl (Nat.le_of_ble_eq_true rfl) dJx4a65c_fastRemove_b59b0_7 ?_
  refine kv_aload_n X 0 dJx4a65c_fastRemove_b59b0_10 rfl rfl ?_
  refine kv_getfield X f_Jx4a65c_fastRemove_b59b0_48 (κ := lk) (fs := [.int (mc + 1), .ref (ad ak), .int (nI n)]) (v := .int (nI n)) hlk (va_up_self _ _ _) rfl dJx4a65c_fastRemove_b59b0_11 ?_
  refine kv_iconst (v := 1) X dJx4a65c_fastRemove_b59b0_14 (by decide) ?_
  refine kv_isub X dJx4a65c_fastRemove_b59b0_15 ?_
  refine kv_topi (nI (n - 1)) (pk_sub (b := 1) (by omega)) ?_
  refine kv_dup X dJx4a65c_fastRemove_b59b0_16 rfl ?_
  refine kv_istore_n (lv2 := [(3, .int (nI (n - 1))), (0, .ref (ad lk)), (1, .ref (ad ak)), (2, .int (nI i))]) X dJx4a65c_fastRemove_b59b0_17 rfl (by rw [hnL]; decide) rfl ?_
  refine kv_iload_n X 3 dJx4a65c_fastRemove_b59b0_18 rfl rfl ?_
  have hes2 : kEs ks (va_up E lk (Sum.inr (2, [.int (mc + 1), .ref (ad ak), .int (nI n)]))) lk ak n ek ci := ⟨hes.1, fun i hi => by obtain ⟨b1, b2, b3, fs, b4⟩ := hes.2 i hi; exact ⟨b1, b2, b3, fs, (va_up_ne _ _ b2).trans b4⟩⟩
  refine kn_icmp_le (x := n - 1) (y := i) (tgt := 34) X (by omega) (by omega) dJx4a65c_fastRemove_b59b0_19 (by decide) (fun hc19 => ?_) (fun hc19 => ?_)
  ·
    refine kv_aload_n X 2 dJx4a65c_fastRemove_b59b0_34 rfl rfl ?_
    refine kv_aload_n X 1 dJx4a65c_fastRemove_b59b0_35 rfl rfl ?_
    refine kv_iload_n X 0 dJx4a65c_fastRemove_b59b0_36 rfl rfl ?_
    refine kv_dup_x1 X dJx4a65c_fastRemove_b59b0_37 rfl rfl ?_
    refine kv_putfield X fp_Jx4a65c_fastRemove_b59b0_48 (κ := lk) (fs := [.int (mc + 1), .ref (ad ak), .int (nI n)]) hlk (va_up_self _ _ _) rfl rfl (Nat.le_of_ble_eq_true rfl) dJx4a65c_fastRemove_b59b0_38 ?_
    refine kv_null X dJx4a65c_fastRemove_b59b0_41 ?_
    refine kv_aastN X (κ := ak) (n := cap) (j := n - 1) (f := f) hak ((va_up_ne _ _ (Ne.symm hne)).trans ((va_up_ne _ _ (Ne.symm hne)).trans hA)) (by omega) (by omega) dJx4a65c_fastRemove_b59b0_42 ?_
    exact kv_return X hr (Nat.le_of_ble_eq_true rfl) (Nat.le_of_ble_eq_true rfl) ⟨(ks, ad, (va_up (va_up (va_up E lk (Sum.inr (2, [.int (mc + 1), .ref (ad ak), .int (nI n)]))) lk (Sum.inr (2, [.int (mc + 1), .ref (ad ak), .int (nI (n - 1))]))) ak (kO dd cap (va_up f (n - 1) none)))), ⟨⟨fun j => ⟨Or.inl, fun q => q.elim id (fun q => by rw [q]; exact hak)⟩, fun j _ => rfl, fun j h1 h2 => (va_up_ne _ _ h1).trans ((va_up_ne _ _ h2).trans (va_up_ne _ _ h2)), (va_up_ne _ _ hne).trans (va_up_self _ _ _), cap, _, by omega, by omega, by omega, va_up_self _ _ _, fun j hj => by show va_up f (n - 1) none j = some _; rw [va_up_ne _ _ (by omega), if_pos (by omega)]; exact hf j (by omega)⟩, rfl, rfl⟩, rfl⟩ dJx4a65c_fastRemove_b59b0_43
  ·
    refine kv_aload_n X 2 dJx4a65c_fastRemove_b59b0_22 rfl rfl ?_
    refine kv_iload_n X 3 dJx4a65c_fastRemove_b59b0_23 rfl rfl ?_
    refine kv_iconst (v := 1) X dJx4a65c_fastRemove_b59b0_24 (by decide) ?_
    refine kv_iadd X dJx4a65c_fastRemove_b59b0_25 ?_
    refine kv_topi (nI (i + 1)) (nI_add i 1) ?_
    refine kv_aload_n X 2 dJx4a65c_fastRemove_b59b0_26 rfl rfl ?_
    refine kv_iload_n X 3 dJx4a65c_fastRemove_b59b0_27 rfl rfl ?_
    refine kv_iload_n X 0 dJx4a65c_fastRemove_b59b0_28 rfl rfl ?_
    refine kv_iload_n X 3 dJx4a65c_fastRemove_b59b0_29 rfl rfl ?_
    refine kv_isub X dJx4a65c_fastRemove_b59b0_30 ?_
    refine kv_topi (nI (n - 1 - i)) (pk_sub (by omega)) ?_
    refine kv_copyO (κ0 := ak) (κ1 := ak) (n0 := cap) (n1 := cap) (sp := i + 1) (dp := i) (n := n - 1 - i) (f := f) (f1 := f) X (List.mem_cons_of_mem _ (List.mem_append_left _ (List.mem_of_getElem? (i := 3) rfl))) (List.mem_cons_of_mem _ (List.mem_append_left _ (List.mem_of_getElem? (i := 4) rfl))) (List.mem_cons_of_mem _ (List.mem_append_left _ (List.mem_of_getElem? (i := 5) rfl))) (List.mem_cons_of_mem _ (List.mem_append_left _ (List.mem_of_getElem? (i := 6) rfl))) hak ((va_up_ne _ _ (Ne.symm hne)).trans hA) hak ((va_up_ne _ _ (Ne.symm hne)).trans hA) (by omega) (by omega) (by omega) (by omega) (fun j hj y hy => kEs_any hes2 hf (i + 1 + j) (by omega) y hy) hRR (Nat.le_of_ble_eq_true rfl) ⟨(Nat.le_of_ble_eq_true rfl), (Nat.le_of_ble_eq_true rfl)⟩ dJx4a65c_fastRemove_b59b0_31 ?_
    refine kv_aload_n X 2 dJx4a65c_fastRemove_b59b0_34 rfl rfl ?_
    refine kv_aload_n X 1 dJx4a65c_fastRemove_b59b0_35 rfl rfl ?_
    refine kv_iload_n X 0 dJx4a65c_fastRemove_b59b0_36 rfl rfl ?_
    refine kv_dup_x1 X dJx4a65c_fastRemove_b59b0_37 rfl rfl ?_
    refine kv_putfield X fp_Jx4a65c_fastRemove_b59b0_48 (κ := lk) (fs := [.int (mc + 1), .ref (ad ak), .int (nI n)]) hlk ((va_up_ne _ _ hne).trans (va_up_self _ _ _)) rfl rfl (Nat.le_of_ble_eq_true rfl) dJx4a65c_fastRemove_b59b0_38 ?_
    refine kv_null X dJx4a65c_fastRemove_b59b0_41 ?_
    refine kv_aastN X (κ := ak) (n := cap) (j := n - 1) (f := va_cpy f f (i + 1) i (n - 1 - i)) hak ((va_up_ne _ _ (Ne.symm hne)).trans (va_up_self _ _ _)) (by omega) (by omega) dJx4a65c_fastRemove_b59b0_42 ?_
    exact kv_return X hr (Nat.le_of_ble_eq_true rfl) (Nat.le_of_ble_eq_true rfl) ⟨(ks, ad, (va_up (va_up (va_up (va_up E lk (Sum.inr (2, [.int (mc + 1), .ref (ad ak), .int (nI n)]))) ak (kO dd cap (va_cpy f f (i + 1) i (n - 1 - i)))) lk (Sum.inr (2, [.int (mc + 1), .ref (ad ak), .int (nI (n - 1))]))) ak (kO dd cap (va_up (va_cpy f f (i + 1) i (n - 1 - i)) (n - 1) none)))), ⟨⟨fun j => ⟨Or.inl, fun q => q.elim id (fun q => by rw [q]; exact hak)⟩, fun j _ => rfl, fun j h1 h2 => (va_up_ne _ _ h1).trans ((va_up_ne _ _ h2).trans ((va_up_ne _ _ h1).trans (va_up_ne _ _ h2))), (va_up_ne _ _ hne).trans (va_up_self _ _ _), cap, _, by omega, by omega, by omega, va_up_self _ _ _, fun j hj => by show va_up (va_cpy f f (i + 1) i (n - 1 - i)) (n - 1) none j = some _; rw [va_up_ne _ _ (by omega)]; unfold va_cpy; exact (Decidable.em (j < i)).elim (fun c => by rw [if_neg (by omega), if_pos c]; exact hf j (by omega)) (fun c => by rw [if_pos ⟨by omega, by omega⟩, if_neg c, show i + 1 + (j - i) = j + 1 by omega]; exact hf (j + 1) (by omega))⟩, rfl, rfl⟩, rfl⟩ dJx4a65c_fastRemove_b59b0_43
theorem f_Jx4a65c_remove_915e3_48 : kF wsJx4a65c_remove_915e3 RJx4a65c 48 2 2 := ⟨_, RJx4a65c, TJx4a65c, 3, fun _ h => (List.mem_cons_of_mem _ (List.mem_append_right _ h)), (List.mem_cons_of_mem _ (List.mem_append_left _ (List.mem_of_getElem? (i := 0) rfl))), rfl, by decide, rfl⟩
theorem f_Jx4a65c_remove_915e3_9 : kF wsJx4a65c_remove_915e3 RJx4a65c 9 2 1 := ⟨_, RJx4a65c, TJx4a65c, 3, fun _ h => (List.mem_cons_of_mem _ (List.mem_append_right _ h)), (List.mem_cons_of_mem _ (List.mem_append_left _ (List.mem_of_getElem? (i := 1) rfl))), rfl, by decide, rfl⟩
set_option maxRecDepth 100000 in
set_option maxHeartbeats 4000000 in
theorem c_Jx4a65c_remove_915e3 (l : Launch) (dd : kDD) (ks : List Nat) (ad : Nat → Nat) (E : Nat → va_E) (lk ak n : Nat) (ek : Nat → Nat) (ci i : Nat) (hL : kLs dd ks ad E lk ak n ek ci) (hi : i < n) : kCq l yJx4a65c_remove_915e3 wsJx4a65c_remove_915e3 ({ frames := 2, cells := 0, slots := 0, locals := 83 } : Room) 0 0 dd [.ref (ad lk), .int (nI i)] (ks, ad, E) (kQq (S := kT) (fun r z => r = some (ad (ek i)) ∧ (∃ mc, kGw ks ad E dd lk ak (n - 1) (n - 1) (n - 1) mc (fun j => some (ad (ek (if j < i then j else j + 1)))) z) ∧ z.1 = ks ∧ z.2.1 = ad) (fun z => z.1) (fun z => z.2.1) (fun z => z.2.2)) := by
  refine kMetq (ws' := _) (cc := cJx4a65c_remove_915e3) (maxL := 4) (rt := (.object "java/lang/Object")) (by decide) rfl (Nat.le_of_ble_eq_true rfl) (fun g X hr hnL hRR hl0 hkn => ?_)
  show kv dd g 0 0 0 [(0, .ref (ad lk)), (1, .int (nI i))] [] ks ad E
  have hn60 := hL.2.2.2.1
  have hes : kEs ks E lk ak n ek ci := ⟨hL.2.2.1, hL.2.2.2.2.1⟩
  obtain ⟨mc, ⟨h0, -⟩ | ⟨cap, f, a1, a2, a3, a4, a5, a6, a7⟩⟩ := hL.2.2.2.2.2
  · exact absurd h0 (by omega)
  refine kv_iload_n X 1 dJx4a65c_remove_915e3_0 rfl rfl ?_
  refine kv_aload_n X 0 dJx4a65c_remove_915e3_1 rfl rfl ?_
  refine kv_getfield X f_Jx4a65c_remove_915e3_48 (κ := lk) (fs := [.int mc, .ref (ad ak), .int (nI n)]) (v := .int (nI n)) hL.1 a7 rfl dJx4a65c_remove_915e3_2 ?_
  refine kv_calliS (As := [.int (nI i), .int (nI n)]) [] X (c_J15_checkIndex_7cf53 l dd ks ad E i n (by omega) (by omega)) hl0 (kCS_of X 2 gJx4a65c_remove_915e3_J15_checkIndex_7cf53 rfl rfl rfl (by decide +kernel) hRR ⟨(Nat.le_of_ble_eq_true rfl), (Nat.le_of_ble_eq_true rfl)⟩) rfl rfl (Nat.le_of_ble_eq_true rfl) hRR ⟨(Nat.le_of_ble_eq_true rfl), (Nat.le_of_ble_eq_true rfl)⟩ dJx4a65c_remove_915e3_5 (fun r z hp => ?_)
  obtain rfl := hp
  refine kv_pop X dJx4a65c_remove_915e3_8 rfl ?_
  refine kv_aload_n X 0 dJx4a65c_remove_915e3_9 rfl rfl ?_
  refine kv_getfield X f_Jx4a65c_remove_915e3_9 (κ := lk) (fs := [.int mc, .ref (ad ak), .int (nI n)]) (v := .ref (ad ak)) hL.1 a7 rfl dJx4a65c_remove_915e3_10 ?_
  refine kv_astore_n (lv2 := [(2, .ref (ad ak)), (0, .ref (ad lk)), (1, .int (nI i))]) X dJx4a65c_remove_915e3_13 rfl (by rw [hnL]; decide) rfl ?_
  refine kv_aload_n X 0 dJx4a65c_remove_915e3_14 rfl rfl ?_
  refine kv_iload_n X 2 dJx4a65c_remove_915e3_15 rfl rfl ?_
  refine kv_aaload X (κ := ak) (n := cap) (j := i) (f := f) a1 a5 (by omega) (by omega) dJx4a65c_remove_915e3_16 ?_
  refine kv_topg (.ref (ad (ek i))) (by rw [a6 i hi]; rfl) ?_
  refine kv_astore_n (lv2 := [(3, .ref (ad (ek i))), (2, .ref (ad ak)), (0, .ref (ad lk)), (1, .int (nI i))]) X dJx4a65c_remove_915e3_17 rfl (by rw [hnL]; decide) rfl ?_
  refine kv_aload_n X 2 dJx4a65c_remove_915e3_18 rfl rfl ?_
  refine kv_aload_n X 1 dJx4a65c_remove_915e3_19 rfl rfl ?_
  refine kv_iload_n X 3 dJx4a65c_remove_915e3_20 rfl rfl ?_
  refine kv_callvV (ci := 2) (κ := lk) (r1 := (TJx4a65c, 3)) (As := [.ref (ad ak), .int (nI i)]) [] X (c_Jx4a65c_fastRemove_b59b0 l dd ks ad E lk ak n i ek ci mc cap f hL.1 hL.2.1 hes hi (by omega) a1 a2 a3 a4 a5 a6 a7) hl0 (kCV_of X 2 gJx4a65c_remove_915e3_Jx4a65c_fastRemove_b59b0 rfl rfl rfl (by decide +kernel) hRR ⟨(Nat.le_of_ble_eq_true rfl), (Nat.le_of_ble_eq_true rfl)⟩) hL.1 a7 rfl rfl rfl (Nat.le_of_ble_eq_true rfl) hRR ⟨(Nat.le_of_ble_eq_true rfl), (Nat.le_of_ble_eq_true rfl)⟩ dJx4a65c_remove_915e3_21 (fun z hp => ?_)
  obtain ⟨hw, hz1, hz2⟩ := hp
  refine kv_lv (lv2 := [(3, .ref (ad (ek i)))]) [0] rfl ?_
  refine kv_LS [(3, .ref (z.2.1 (ek i)))] [] (by rw [hz2]) rfl ?_
  refine kv_aload_n X 0 dJx4a65c_remove_915e3_24 rfl rfl ?_
  exact kv_areturn (v := some (z.2.1 (ek i))) X hr (Or.inl ⟨_, rfl⟩) (Nat.le_of_ble_eq_true rfl) (Nat.le_of_ble_eq_true rfl) ⟨z, ⟨by rw [hz2], ⟨_, hw⟩, hz1, hz2⟩, rfl⟩ dJx4a65c_remove_915e3_25
theorem kLs_rem {dd : kDD} {ks : List Nat} {ad : Nat → Nat} {E : Nat → va_E} {lk ak n i : Nat} {ek : Nat → Nat} {ci : Nat} {mc : Int32} {z : kT} (hL : kLs dd ks ad E lk ak n ek ci) (hi : i < n) (hw : kGw ks ad E dd lk ak (n - 1) (n - 1) (n - 1) mc (fun j => some (ad (ek (if j < i then j else j + 1)))) z) : kLs dd z.1 z.2.1 z.2.2 lk ak (n - 1) (fun j => ek (if j < i then j else j + 1)) ci := by
  obtain ⟨hlk, hne, hci, hn60, hes, -⟩ := hL
  obtain ⟨w1, w2, w3, w4, cap2, f2, c1, c2, c3, w5, w6⟩ := hw
  have hx : ∀ j, j < n - 1 → (if j < i then j else j + 1) < n := by intro j hj; split <;> omega
  refine ⟨(w1 _).mpr (Or.inl hlk), hne, hci, by omega, fun j hj => ?_, mc, Or.inr ⟨cap2, f2, (w1 _).mpr (Or.inr rfl), c1, c2, c3, w5, fun j hj => ?_, w4⟩⟩
  · obtain ⟨b1, b2, b3, fs, b4⟩ := hes _ (hx j hj)
    exact ⟨(w1 _).mpr (Or.inl b1), b2, b3, fs, (w3 _ b3 b2).trans b4⟩
  · rw [w6 j hj]
    show some (ad (ek _)) = _
    rw [w2 _ (hes _ (hx j hj)).2.2.1]
theorem kLs_ek {dd : kDD} {ks : List Nat} {ad : Nat → Nat} {E : Nat → va_E} {lk ak n : Nat} {ek ek2 : Nat → Nat} {ci : Nat} (h : ∀ i, i < n → ek2 i = ek i) (hL : kLs dd ks ad E lk ak n ek ci) : kLs dd ks ad E lk ak n ek2 ci := by
  obtain ⟨a1, a2, a3, a4, a5, mc, a6⟩ := hL
  refine ⟨a1, a2, a3, a4, fun i hi => by rw [h i hi]; exact a5 i hi, mc, ?_⟩
  rcases a6 with q | ⟨cap, f, b1, b2, b3, b4, b5, b6, b7⟩
  · exact Or.inl q
  · exact Or.inr ⟨cap, f, b1, b2, b3, b4, b5, fun i hi => by rw [h i hi]; exact b6 i hi, b7⟩

set_option maxRecDepth 100000 in
set_option maxHeartbeats 4000000 in
theorem c_Jxa1e45_init_da8c8 (l : Launch) (dd : kDD) (ks : List Nat) (ad : Nat → Nat) (E : Nat → va_E) (κ : Nat) : kCv l yJxa1e45_init_da8c8 wsJxa1e45_init_da8c8 ({ frames := 1, cells := 0, slots := 0, locals := 20 } : Room) 0 0 dd [.ref (ad κ)] (ks, ad, E) (kQv (S := Unit) (fun z => True) (fun _ => ks) (fun _ => ad) (fun _ => E)) := by
  refine kMetv (ws' := _) (cc := cJxa1e45_init_da8c8) (maxL := 1) (by decide) rfl (Nat.le_of_ble_eq_true rfl) (fun g X hr hnL hRR hl0 hkn => ?_)
  show kv dd g 0 0 0 [(0, .ref (ad κ))] [] ks ad E
  refine kv_aload_n X 0 dJxa1e45_init_da8c8_0 rfl rfl ?_
  refine kv_objInit (κ := κ) X (List.mem_cons_of_mem _ (List.mem_of_getElem? (i := 0) rfl)) (List.mem_cons_of_mem _ (List.mem_of_getElem? (i := 1) rfl)) (List.mem_cons_of_mem _ (List.mem_of_getElem? (i := 2) rfl)) hRR (Nat.le_of_ble_eq_true rfl) ⟨(Nat.le_of_ble_eq_true rfl), (Nat.le_of_ble_eq_true rfl)⟩ dJxa1e45_init_da8c8_1 ?_
  exact kv_return X hr (Nat.le_of_ble_eq_true rfl) (Nat.le_of_ble_eq_true rfl) ⟨(), trivial, rfl⟩ dJxa1e45_init_da8c8_4
theorem fp_Jxc12de_init_da8c8_7 : kFp wsJxc12de_init_da8c8 RJxc12de 7 2 0 .int false := ⟨_, RJx4a65c, TJx4a65c, 3, tyJx4a65c, fun _ h => (List.mem_cons_of_mem _ (List.mem_append_right _ h)), tyJx4a65c_ok, nmJx4a65c, (List.mem_cons_of_mem _ (List.mem_append_left _ (List.mem_of_getElem? (i := 0) rfl))), rfl, by decide, rfl, rfl, by decide +kernel, rfl⟩

set_option maxRecDepth 100000 in
set_option maxHeartbeats 4000000 in
theorem c_Jxc12de_init_da8c8 (l : Launch) (dd : kDD) (ks : List Nat) (ad : Nat → Nat) (E : Nat → va_E) (κ : Nat) (x0 : Int32) (v1 : Value) (x2 : Int32) (hκ : κ ∈ ks) (hE : E κ = .inr (2, [.int x0, v1, .int x2])) : kCv l yJxc12de_init_da8c8 wsJxc12de_init_da8c8 ({ frames := 2, cells := 0, slots := 0, locals := 40 } : Room) 0 0 dd [.ref (ad κ)] (ks, ad, E) (kQv (S := Unit) (fun z => True) (fun _ => ks) (fun _ => ad) (fun _ => va_up E κ (.inr (2, [.int 0, v1, .int x2])))) := by
  refine kMetv (ws' := _) (cc := cJxc12de_init_da8c8) (maxL := 1) (by decide) rfl (Nat.le_of_ble_eq_true rfl) (fun g X hr hnL hRR hl0 hkn => ?_)
  show kv dd g 0 0 0 [(0, .ref (ad κ))] [] ks ad E
  refine kv_aload_n X 0 dJxc12de_init_da8c8_0 rfl rfl ?_
  refine kv_callvI (κ := κ) (As := []) [] X (c_Jxa1e45_init_da8c8 l dd ks ad E κ) hl0 (kCI_of X 0 gJxc12de_init_da8c8_Jxa1e45_init_da8c8 (List.mem_cons_of_mem _ (List.mem_append_left _ (List.mem_of_getElem? (i := 3) rfl))) (List.mem_cons_of_mem _ (List.mem_append_left _ (List.mem_of_getElem? (i := 1) rfl))) (List.mem_cons_of_mem _ (List.mem_append_left _ (List.mem_of_getElem? (i := 2) rfl))) rfl rfl rfl rfl (by decide +kernel) hRR ⟨(Nat.le_of_ble_eq_true rfl), (Nat.le_of_ble_eq_true rfl)⟩) rfl rfl (Nat.le_of_ble_eq_true rfl) hRR ⟨(Nat.le_of_ble_eq_true rfl), (Nat.le_of_ble_eq_true rfl)⟩ dJxc12de_init_da8c8_1 (fun z hp => ?_)
  refine kv_aload_n X 0 dJxc12de_init_da8c8_4 rfl rfl ?_
  refine kv_iconst (v := 0) X dJxc12de_init_da8c8_5 (by decide) ?_
  refine kv_putfield X fp_Jxc12de_init_da8c8_7 (κ := κ) (fs := [.int x0, v1, .int x2]) hκ hE rfl rfl (Nat.le_of_ble_eq_true rfl) dJxc12de_init_da8c8_6 ?_
  exact kv_return X hr (Nat.le_of_ble_eq_true rfl) (Nat.le_of_ble_eq_true rfl) ⟨(), trivial, rfl⟩ dJxc12de_init_da8c8_9
theorem fp_Jx4a65c_init_da8c8_9 : kFp wsJx4a65c_init_da8c8 RJx4a65c 9 2 1 (.array (.object "java/lang/Object")) false := ⟨_, RJx4a65c, TJx4a65c, 3, tyJx4a65c, fun _ h => (List.mem_cons_of_mem _ (List.mem_append_right _ h)), tyJx4a65c_ok, nmJx4a65c, (List.mem_cons_of_mem _ (List.mem_append_left _ (List.mem_of_getElem? (i := 1) rfl))), rfl, by decide, rfl, rfl, by decide +kernel, rfl⟩
set_option maxRecDepth 100000 in
set_option maxHeartbeats 4000000 in
theorem c_Jx4a65c_init_da8c8 (l : Launch) (dd : kDD) (ks : List Nat) (ad : Nat → Nat) (E : Nat → va_E) (κ : Nat) (hκ : κ ∈ ks) (hE : E κ = .inr (2, [.int 0, .null, .int 0])) : kCv l yJx4a65c_init_da8c8 wsJx4a65c_init_da8c8 ({ frames := 3, cells := 0, slots := 0, locals := 60 } : Room) 0 0 dd [.ref (ad κ)] (ks, ad, E) (kQv (S := Unit) (fun z => True) (fun _ => ks) (fun _ => ad) (fun _ => va_up E κ (.inr (2, [.int 0, .ref (ktE dd).1, .int 0])))) := by
  refine kMetv (ws' := _) (cc := cJx4a65c_init_da8c8) (maxL := 1) (by decide) rfl (Nat.le_of_ble_eq_true rfl) (fun g X hr hnL hRR hl0 hkn => ?_)
  show kv dd g 0 0 0 [(0, .ref (ad κ))] [] ks ad E
  refine kv_aload_n X 0 dJx4a65c_init_da8c8_0 rfl rfl ?_
  refine kv_callvI (κ := κ) (As := []) [] X (c_Jxc12de_init_da8c8 l dd ks ad E κ 0 .null 0 hκ hE) hl0 (kCI_of X 0 gJx4a65c_init_da8c8_Jxc12de_init_da8c8 (List.mem_cons_of_mem _ (List.mem_append_left _ (List.mem_of_getElem? (i := 4) rfl))) (List.mem_cons_of_mem _ (List.mem_append_left _ (List.mem_of_getElem? (i := 2) rfl))) (List.mem_cons_of_mem _ (List.mem_append_left _ (List.mem_of_getElem? (i := 3) rfl))) rfl rfl rfl rfl (by decide +kernel) hRR ⟨(Nat.le_of_ble_eq_true rfl), (Nat.le_of_ble_eq_true rfl)⟩) rfl rfl (Nat.le_of_ble_eq_true rfl) hRR ⟨(Nat.le_of_ble_eq_true rfl), (Nat.le_of_ble_eq_true rfl)⟩ dJx4a65c_init_da8c8_1 (fun z hp => ?_)
  refine kv_aload_n X 0 dJx4a65c_init_da8c8_4 rfl rfl ?_
  refine kv_getsE X (List.mem_cons_of_mem _ (List.mem_append_left _ (List.mem_of_getElem? (i := 0) rfl))) dJx4a65c_init_da8c8_5 ?_
  refine kv_putfield X fp_Jx4a65c_init_da8c8_9 (κ := κ) (fs := [.int 0, .null, .int 0]) hκ (va_up_self _ _ _) rfl rfl (Nat.le_of_ble_eq_true rfl) dJx4a65c_init_da8c8_8 ?_
  refine kv_E (E2 := (va_up E κ (Sum.inr (2, [.int 0, .ref (ktE dd).1, .int 0])))) (fun j _ => by rw [va_up_up]; rfl) ?_
  exact kv_return X hr (Nat.le_of_ble_eq_true rfl) (Nat.le_of_ble_eq_true rfl) ⟨(), trivial, rfl⟩ dJx4a65c_init_da8c8_11

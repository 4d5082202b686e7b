theorem f_Jx4a65c_size_8abf5_48 : kF wsJx4a65c_size_8abf5 RJx4a65c 48 2 2 := ⟨_, RJx4a65c, TJx4a65c, 3, fun _ h => (List.mem_cons_of_mem _ (List.mem_append_right _ h)), (List.mem_cons_of_mem _ (List.mem_append_left _ (List.mem_of_getElem? (i := 0) rfl))), rfl, by decide, rfl⟩
set_option maxRecDepth 100000 in
set_option maxHeartbeats 4000000 in
theorem c_Jx4a65c_size_8abf5 (l : Launch) (dd : kDD) (ks : List Nat) (ad : Nat → Nat) (E : Nat → va_E) (lk ak n : Nat) (ek : Nat → Nat) (ci : Nat) (hL : kLs dd ks ad E lk ak n ek ci) : kCi l yJx4a65c_size_8abf5 wsJx4a65c_size_8abf5 ({ frames := 0, cells := 0, slots := 0, locals := 0 } : Room) 0 0 dd [.ref (ad lk)] (ks, ad, E) (kQi (S := Unit) (fun r z => r = nI n) (fun _ => ks) (fun _ => ad) (fun _ => E)) := by
  refine kMeti (ws' := _) (cc := cJx4a65c_size_8abf5) (maxL := 1) (rt := .int) (by decide) rfl (Nat.le_of_ble_eq_true rfl) (fun g X hr hnL hRR hl0 hkn => ?_)
  show kv dd g 0 0 0 [(0, .ref (ad lk))] [] ks ad E
  obtain ⟨mc, q, hO⟩ := kLs_obj hL
  have hn60 := hL.2.2.2.1
  refine kv_aload_n X 0 dJx4a65c_size_8abf5_0 rfl rfl ?_
  refine kv_getfield X f_Jx4a65c_size_8abf5_48 (κ := lk) (fs := [.int mc, .ref q, .int (nI n)]) (v := .int (nI n)) hL.1 hO rfl dJx4a65c_size_8abf5_1 ?_
  exact kv_ireturn X hr (Nat.le_of_ble_eq_true rfl) (Nat.le_of_ble_eq_true rfl) ⟨(), rfl, rfl⟩ dJx4a65c_size_8abf5_4
theorem f_Jx4a65c_isEmpty_aae02_48 : kF wsJx4a65c_isEmpty_aae02 RJx4a65c 48 2 2 := ⟨_, RJx4a65c, TJx4a65c, 3, fun _ h => (List.mem_cons_of_mem _ (List.mem_append_right _ h)), (List.mem_cons_of_mem _ (List.mem_append_left _ (List.mem_of_getElem? (i := 0) rfl))), rfl, by decide, rfl⟩
set_option maxRecDepth 100000 in
set_option maxHeartbeats 4000000 in
theorem c_Jx4a65c_isEmpty_aae02 (l : Launch) (dd : kDD) (ks : List Nat) (ad : Nat → Nat) (E : Nat → va_E) (lk ak n : Nat) (ek : Nat → Nat) (ci : Nat) (hL : kLs dd ks ad E lk ak n ek ci) : kCi l yJx4a65c_isEmpty_aae02 wsJx4a65c_isEmpty_aae02 ({ frames := 0, cells := 0, slots := 0, locals := 0 } : Room) 0 0 dd [.ref (ad lk)] (ks, ad, E) (kQi (S := Unit) (fun r z => (n = 0 ∧ r = 1) ∨ (¬ n = 0 ∧ r = 0)) (fun _ => ks) (fun _ => ad) (fun _ => E)) := by
  refine kMeti (ws' := _) (cc := cJx4a65c_isEmpty_aae02) (maxL := 1) (rt := .boolean) (by decide) rfl (Nat.le_of_ble_eq_true rfl) (fun g X hr hnL hRR hl0 hkn => ?_)
  show kv dd g 0 0 0 [(0, .ref (ad lk))] [] ks ad E
  obtain ⟨mc, q, hO⟩ := kLs_obj hL
  have hn60 := hL.2.2.2.1
  refine kv_aload_n X 0 dJx4a65c_isEmpty_aae02_0 rfl rfl ?_
  refine kv_getfield X f_Jx4a65c_isEmpty_aae02_48 (κ := lk) (fs := [.int mc, .ref q, .int (nI n)]) (v := .int (nI n)) hL.1 hO rfl dJx4a65c_isEmpty_aae02_1 ?_
  refine kn_if_ne (x := n) (tgt := 11) X (by omega) dJx4a65c_isEmpty_aae02_4 (by decide) (fun hc4 => ?_) (fun hc4 => ?_)
  ·
    refine kv_iconst (v := 0) X dJx4a65c_isEmpty_aae02_11 (by decide) ?_
    exact kv_zreturn X hr rfl (Nat.le_of_ble_eq_true rfl) (Nat.le_of_ble_eq_true rfl) ⟨(), Or.inr ⟨hc4, rfl⟩, rfl⟩ dJx4a65c_isEmpty_aae02_12
  ·
    refine kv_iconst (v := 1) X dJx4a65c_isEmpty_aae02_7 (by decide) ?_
    refine kv_goto (tgt := 12) X dJx4a65c_isEmpty_aae02_8 (by decide) ?_
    exact kv_zreturn X hr rfl (Nat.le_of_ble_eq_true rfl) (Nat.le_of_ble_eq_true rfl) ⟨(), Or.inl ⟨hc4, rfl⟩, rfl⟩ dJx4a65c_isEmpty_aae02_12

set_option maxRecDepth 100000 in
set_option maxHeartbeats 4000000 in
theorem c_J3_checkIndex_8e157 (l : Launch) (dd : kDD) (ks : List Nat) (ad : Nat → Nat) (E : Nat → va_E) (i n : Nat) (hi : i < n) (hn : n < 100) : kCi l yJ3_checkIndex_8e157 wsJ3_checkIndex_8e157 ({ frames := 0, cells := 0, slots := 0, locals := 0 } : Room) 0 0 dd [.int (nI i), .int (nI n), .null] (ks, ad, E) (kQi (S := Unit) (fun r z => r = nI i) (fun _ => ks) (fun _ => ad) (fun _ => E)) := by
  refine kMeti (ws' := _) (cc := cJ3_checkIndex_8e157) (maxL := 3) (rt := .int) (by decide) rfl (Nat.le_of_ble_eq_true rfl) (fun g X hr hnL hRR hl0 hkn => ?_)
  show kv dd g 0 0 0 [(0, .int (nI i)), (1, .int (nI n)), (2, .null)] [] ks ad E
  refine kv_iload_n X 0 dJ3_checkIndex_8e157_0 rfl rfl ?_
  refine kv_if_lt (tgt := 9) X dJ3_checkIndex_8e157_1 (by decide) (fun hc1 => False.elim (absurd hc1 (by rw [i_lt, nI_toInt (by omega)]; show ¬ (_ : Int) < 0; omega))) (fun hc1 => ?_)
  refine kv_iload_n X 0 dJ3_checkIndex_8e157_4 rfl rfl ?_
  refine kv_iload_n X 1 dJ3_checkIndex_8e157_5 rfl rfl ?_
  refine kn_icmp_lt (x := i) (y := n) (tgt := 16) X (by omega) (by omega) dJ3_checkIndex_8e157_6 (by decide) (fun hc6 => ?_) (fun hc6 => absurd hc6 (by omega))
  refine kv_iload_n X 0 dJ3_checkIndex_8e157_16 rfl rfl ?_
  exact kv_ireturn X hr (Nat.le_of_ble_eq_true rfl) (Nat.le_of_ble_eq_true rfl) ⟨(), rfl, rfl⟩ dJ3_checkIndex_8e157_17

set_option maxRecDepth 100000 in
set_option maxHeartbeats 4000000 in
theorem c_J15_checkIndex_7cf53 (l : Launch) (dd : kDD) (ks : List Nat) (ad : Nat → Nat) (E : Nat → va_E) (i n : Nat) (hi : i < n) (hn : n < 100) : kCi l yJ15_checkIndex_7cf53 wsJ15_checkIndex_7cf53 ({ frames := 1, cells := 0, slots := 0, locals := 22 } : Room) 0 0 dd [.int (nI i), .int (nI n)] (ks, ad, E) (kQi (S := Unit) (fun r z => r = nI i) (fun _ => ks) (fun _ => ad) (fun _ => E)) := by
  refine kMeti (ws' := _) (cc := cJ15_checkIndex_7cf53) (maxL := 2) (rt := .int) (by decide) rfl (Nat.le_of_ble_eq_true rfl) (fun g X hr hnL hRR hl0 hkn => ?_)
  show kv dd g 0 0 0 [(0, .int (nI i)), (1, .int (nI n))] [] ks ad E
  refine kv_iload_n X 0 dJ15_checkIndex_7cf53_0 rfl rfl ?_
  refine kv_iload_n X 1 dJ15_checkIndex_7cf53_1 rfl rfl ?_
  refine kv_null X dJ15_checkIndex_7cf53_2 ?_
  refine kv_calliS (As := [.int (nI i), .int (nI n), .null]) [] X (c_J3_checkIndex_8e157 l dd ks ad E i n (by omega) (by omega)) hl0 (kCS_of X 3 gJ15_checkIndex_7cf53_J3_checkIndex_8e157 rfl rfl rfl (by decide +kernel) hRR ⟨(Nat.le_of_ble_eq_true rfl), (Nat.le_of_ble_eq_true rfl)⟩) rfl rfl (Nat.le_of_ble_eq_true rfl) hRR ⟨(Nat.le_of_ble_eq_true rfl), (Nat.le_of_ble_eq_true rfl)⟩ dJ15_checkIndex_7cf53_3 (fun r z hp => ?_)
  obtain rfl := hp
  exact kv_ireturn X hr (Nat.le_of_ble_eq_true rfl) (Nat.le_of_ble_eq_true rfl) ⟨(), rfl, rfl⟩ dJ15_checkIndex_7cf53_6
theorem f_Jx4a65c_elementData_915e3_9 : kF wsJx4a65c_elementData_915e3 RJx4a65c 9 2 1 := ⟨_, RJx4a65c, TJx4a65c, 3, fun _ h => (List.mem_cons_of_mem _ (List.mem_append_right _ h)), (List.mem_cons_of_mem _ (List.mem_append_left _ (List.mem_of_getElem? (i := 0) rfl))), rfl, by decide, rfl⟩
set_option maxRecDepth 100000 in
set_option maxHeartbeats 4000000 in
theorem c_Jx4a65c_elementData_915e3 (l : Launch) (dd : kDD) (ks : List Nat) (ad : Nat → Nat) (E : Nat → va_E) (lk ak n : Nat) (ek : Nat → Nat) (ci : Nat) (hL : kLs dd ks ad E lk ak n ek ci) (i : Nat) (hi : i < n) : kCq l yJx4a65c_elementData_915e3 wsJx4a65c_elementData_915e3 ({ frames := 0, cells := 0, slots := 0, locals := 0 } : Room) 0 0 dd [.ref (ad lk), .int (nI i)] (ks, ad, E) (kQq (S := Unit) (fun r z => r = some (ad (ek i))) (fun _ => ks) (fun _ => ad) (fun _ => E)) := by
  refine kMetq (ws' := _) (cc := cJx4a65c_elementData_915e3) (maxL := 2) (rt := (.object "java/lang/Object")) (by decide) rfl (Nat.le_of_ble_eq_true rfl) (fun g X hr hnL hRR hl0 hkn => ?_)
  show kv dd g 0 0 0 [(0, .ref (ad lk)), (1, .int (nI i))] [] ks ad E
  have hn60 := hL.2.2.2.1
  obtain ⟨mc, ⟨h0, -⟩ | ⟨cap, f, a1, a2, a3, a4, a5, a6, a7⟩⟩ := hL.2.2.2.2.2
  · exact absurd h0 (by omega)
  refine kv_aload_n X 0 dJx4a65c_elementData_915e3_0 rfl rfl ?_
  refine kv_getfield X f_Jx4a65c_elementData_915e3_9 (κ := lk) (fs := [.int mc, .ref (ad ak), .int (nI n)]) (v := .ref (ad ak)) hL.1 a7 rfl dJx4a65c_elementData_915e3_1 ?_
  refine kv_iload_n X 1 dJx4a65c_elementData_915e3_4 rfl rfl ?_
  refine kv_aaload X (κ := ak) (n := cap) (j := i) (f := f) a1 a5 (by omega) (by omega) dJx4a65c_elementData_915e3_5 ?_
  exact kv_areturn (v := f i) X hr (Or.inl ⟨_, rfl⟩) (Nat.le_of_ble_eq_true rfl) (Nat.le_of_ble_eq_true rfl) ⟨(), a6 i hi, rfl⟩ dJx4a65c_elementData_915e3_6
theorem f_Jx4a65c_get_915e3_48 : kF wsJx4a65c_get_915e3 RJx4a65c 48 2 2 := ⟨_, RJx4a65c, TJx4a65c, 3, fun _ h => (List.mem_cons_of_mem _ (List.mem_append_right _ h)), (List.mem_cons_of_mem _ (List.mem_append_left _ (List.mem_of_getElem? (i := 0) rfl))), rfl, by decide, rfl⟩
set_option maxRecDepth 100000 in
set_option maxHeartbeats 4000000 in
theorem c_Jx4a65c_get_915e3 (l : Launch) (dd : kDD) (ks : List Nat) (ad : Nat → Nat) (E : Nat → va_E) (lk ak n : Nat) (ek : Nat → Nat) (ci : Nat) (hL : kLs dd ks ad E lk ak n ek ci) (i : Nat) (hi : i < n) : kCq l yJx4a65c_get_915e3 wsJx4a65c_get_915e3 ({ frames := 2, cells := 0, slots := 0, locals := 43 } : Room) 0 0 dd [.ref (ad lk), .int (nI i)] (ks, ad, E) (kQq (S := Unit) (fun r z => r = some (ad (ek i))) (fun _ => ks) (fun _ => ad) (fun _ => E)) := by
  refine kMetq (ws' := _) (cc := cJx4a65c_get_915e3) (maxL := 2) (rt := (.object "java/lang/Object")) (by decide) rfl (Nat.le_of_ble_eq_true rfl) (fun g X hr hnL hRR hl0 hkn => ?_)
  show kv dd g 0 0 0 [(0, .ref (ad lk)), (1, .int (nI i))] [] ks ad E
  obtain ⟨mc, q, hO⟩ := kLs_obj hL
  have hn60 := hL.2.2.2.1
  refine kv_iload_n X 1 dJx4a65c_get_915e3_0 rfl rfl ?_
  refine kv_aload_n X 0 dJx4a65c_get_915e3_1 rfl rfl ?_
  refine kv_getfield X f_Jx4a65c_get_915e3_48 (κ := lk) (fs := [.int mc, .ref q, .int (nI n)]) (v := .int (nI n)) hL.1 hO rfl dJx4a65c_get_915e3_2 ?_
  refine kv_calliS (As := [.int (nI i), .int (nI n)]) [] X (c_J15_checkIndex_7cf53 l dd ks ad E i n (by omega) (by omega)) hl0 (kCS_of X 2 gJx4a65c_get_915e3_J15_checkIndex_7cf53 rfl rfl rfl (by decide +kernel) hRR ⟨(Nat.le_of_ble_eq_true rfl), (Nat.le_of_ble_eq_true rfl)⟩) rfl rfl (Nat.le_of_ble_eq_true rfl) hRR ⟨(Nat.le_of_ble_eq_true rfl), (Nat.le_of_ble_eq_true rfl)⟩ dJx4a65c_get_915e3_5 (fun r z hp => ?_)
  obtain rfl := hp
  refine kv_pop X dJx4a65c_get_915e3_8 rfl ?_
  refine kv_aload_n X 0 dJx4a65c_get_915e3_9 rfl rfl ?_
  refine kv_iload_n X 1 dJx4a65c_get_915e3_10 rfl rfl ?_
  refine kv_callqV (ci := 2) (κ := lk) (r1 := (TJx4a65c, 3)) (As := [.int (nI i)]) [] X (c_Jx4a65c_elementData_915e3 l dd ks ad E lk ak n ek ci hL i (by omega)) hl0 (kCV_of X 1 gJx4a65c_get_915e3_Jx4a65c_elementData_915e3 rfl rfl rfl (by decide +kernel) hRR ⟨(Nat.le_of_ble_eq_true rfl), (Nat.le_of_ble_eq_true rfl)⟩) hL.1 hO rfl rfl rfl (Nat.le_of_ble_eq_true rfl) hRR ⟨(Nat.le_of_ble_eq_true rfl), (Nat.le_of_ble_eq_true rfl)⟩ dJx4a65c_get_915e3_11 (fun r z hp => ?_)
  obtain rfl := hp
  exact kv_areturn (v := some (ad (ek i))) X hr (Or.inl ⟨_, rfl⟩) (Nat.le_of_ble_eq_true rfl) (Nat.le_of_ble_eq_true rfl) ⟨(), rfl, rfl⟩ dJx4a65c_get_915e3_14

theorem fp_X7_init_7 : kFp wsX7_init RX7 7 10 0 .int true := ⟨_, RX7, TX7, 4, tyX7, fun _ h => (List.mem_cons_of_mem _ (List.mem_append_right _ h)), tyX7_ok, nmX7, (List.mem_cons_of_mem _ (List.mem_append_left _ (List.mem_of_getElem? (i := 3) rfl))), rfl, by decide, rfl, rfl, by decide +kernel, rfl⟩
theorem fp_X7_init_13 : kFp wsX7_init RX7 13 10 1 .int false := ⟨_, RX7, TX7, 4, tyX7, fun _ h => (List.mem_cons_of_mem _ (List.mem_append_right _ h)), tyX7_ok, nmX7, (List.mem_cons_of_mem _ (List.mem_append_left _ (List.mem_of_getElem? (i := 4) rfl))), rfl, by decide, rfl, rfl, by decide +kernel, rfl⟩
theorem fp_X7_init_16 : kFp wsX7_init RX7 16 10 2 .int true := ⟨_, RX7, TX7, 4, tyX7, fun _ h => (List.mem_cons_of_mem _ (List.mem_append_right _ h)), tyX7_ok, nmX7, (List.mem_cons_of_mem _ (List.mem_append_left _ (List.mem_of_getElem? (i := 5) rfl))), rfl, by decide, rfl, rfl, by decide +kernel, rfl⟩
theorem fp_X7_init_19 : kFp wsX7_init RX7 19 10 3 .int true := ⟨_, RX7, TX7, 4, tyX7, fun _ h => (List.mem_cons_of_mem _ (List.mem_append_right _ h)), tyX7_ok, nmX7, (List.mem_cons_of_mem _ (List.mem_append_left _ (List.mem_of_getElem? (i := 6) rfl))), rfl, by decide, rfl, rfl, by decide +kernel, rfl⟩
set_option maxRecDepth 100000 in
set_option maxHeartbeats 4000000 in
theorem c_X7_init (l : Launch) (dd : kDD) (ks : List Nat) (ad : Nat → Nat) (E : Nat → va_E) (κ : Nat) (k p w q : Int32) (hκ : κ ∈ ks) (hE : E κ = .inr (10, [.int 0, .int 0, .int 0, .int 0])) : kCv l yX7_init wsX7_init ({ frames := 1, cells := 0, slots := 0, locals := 20 } : Room) 0 0 dd [.ref (ad κ), .int k, .int p, .int w, .int q] (ks, ad, E) (kQv (S := Unit) (fun z => True) (fun _ => ks) (fun _ => ad) (fun _ => va_up E κ (.inr (10, [.int k, .int p, .int w, .int q])))) := by
  refine kMetv (ws' := _) (cc := cX7_init) (maxL := 5) (by decide) rfl (Nat.le_of_ble_eq_true rfl) (fun g X hr hnL hRR hl0 hkn => ?_)
  show kv dd g 0 0 0 [(0, .ref (ad κ)), (1, .int k), (2, .int p), (3, .int w), (4, .int q)] [] ks ad E
  refine kv_aload_n X 0 dX7_init_0 rfl rfl ?_
  refine kv_objInit (κ := κ) X (List.mem_cons_of_mem _ (List.mem_append_left _ (List.mem_of_getElem? (i := 0) rfl))) (List.mem_cons_of_mem _ (List.mem_append_left _ (List.mem_of_getElem? (i := 1) rfl))) (List.mem_cons_of_mem _ (List.mem_append_left _ (List.mem_of_getElem? (i := 2) rfl))) hRR (Nat.le_of_ble_eq_true rfl) ⟨(Nat.le_of_ble_eq_true rfl), (Nat.le_of_ble_eq_true rfl)⟩ dX7_init_1 ?_
  refine kv_aload_n X 0 dX7_init_4 rfl rfl ?_
  refine kv_iload_n X 1 dX7_init_5 rfl rfl ?_
  refine kv_putfieldF X fp_X7_init_7 hkn (κ := κ) (fs := [.int 0, .int 0, .int 0, .int 0]) hκ hE rfl rfl (Nat.le_of_ble_eq_true rfl) dX7_init_6 ?_
  refine kv_aload_n X 0 dX7_init_9 rfl rfl ?_
  refine kv_iload_n X 2 dX7_init_10 rfl rfl ?_
  refine kv_putfield X fp_X7_init_13 (κ := κ) (fs := [.int k, .int 0, .int 0, .int 0]) hκ (va_up_self _ _ _) rfl rfl (Nat.le_of_ble_eq_true rfl) dX7_init_11 ?_
  refine kv_aload_n X 0 dX7_init_14 rfl rfl ?_
  refine kv_iload_n X 3 dX7_init_15 rfl rfl ?_
  refine kv_putfieldF X fp_X7_init_16 hkn (κ := κ) (fs := [.int k, .int p, .int 0, .int 0]) hκ (va_up_self _ _ _) rfl rfl (Nat.le_of_ble_eq_true rfl) dX7_init_16 ?_
  refine kv_aload_n X 0 dX7_init_19 rfl rfl ?_
  refine kv_iload X 4 dX7_init_20 rfl ?_
  refine kv_putfieldF X fp_X7_init_19 hkn (κ := κ) (fs := [.int k, .int p, .int w, .int 0]) hκ (va_up_self _ _ _) rfl rfl (Nat.le_of_ble_eq_true rfl) dX7_init_22 ?_
  refine kv_E (E2 := va_up E κ (Sum.inr (10, [.int k, .int p, .int w, .int q]))) (fun j _ => by simp only [va_up_up]; rfl) ?_
  exact kv_return X hr (Nat.le_of_ble_eq_true rfl) (Nat.le_of_ble_eq_true rfl) ⟨(), trivial, rfl⟩ dX7_init_25
theorem fp_X0_init_7 : kFp wsX0_init RX0 7 3 0 .int true := ⟨_, RX0, TX0, 3, tyX0, fun _ h => (List.mem_cons_of_mem _ (List.mem_append_right _ h)), tyX0_ok, nmX0, (List.mem_cons_of_mem _ (List.mem_append_left _ (List.mem_of_getElem? (i := 3) rfl))), rfl, by decide, rfl, rfl, by decide +kernel, rfl⟩
theorem fp_X0_init_13 : kFp wsX0_init RX0 13 3 1 .int true := ⟨_, RX0, TX0, 3, tyX0, fun _ h => (List.mem_cons_of_mem _ (List.mem_append_right _ h)), tyX0_ok, nmX0, (List.mem_cons_of_mem _ (List.mem_append_left _ (List.mem_of_getElem? (i := 4) rfl))), rfl, by decide, rfl, rfl, by decide +kernel, rfl⟩
theorem fp_X0_init_16 : kFp wsX0_init RX0 16 3 2 .int true := ⟨_, RX0, TX0, 3, tyX0, fun _ h => (List.mem_cons_of_mem _ (List.mem_append_right _ h)), tyX0_ok, nmX0, (List.mem_cons_of_mem _ (List.mem_append_left _ (List.mem_of_getElem? (i := 5) rfl))), rfl, by decide, rfl, rfl, by decide +kernel, rfl⟩
set_option maxRecDepth 100000 in
set_option maxHeartbeats 4000000 in
theorem c_X0_init (l : Launch) (dd : kDD) (ks : List Nat) (ad : Nat → Nat) (E : Nat → va_E) (κ : Nat) (k p w : Int32) (hκ : κ ∈ ks) (hE : E κ = .inr (3, [.int 0, .int 0, .int 0])) : kCv l yX0_init wsX0_init ({ frames := 1, cells := 0, slots := 0, locals := 20 } : Room) 0 0 dd [.ref (ad κ), .int k, .int p, .int w] (ks, ad, E) (kQv (S := Unit) (fun z => True) (fun _ => ks) (fun _ => ad) (fun _ => va_up E κ (.inr (3, [.int k, .int p, .int w])))) := by
  refine kMetv (ws' := _) (cc := cX0_init) (maxL := 4) (by decide) rfl (Nat.le_of_ble_eq_true rfl) (fun g X hr hnL hRR hl0 hkn => ?_)
  show kv dd g 0 0 0 [(0, .ref (ad κ)), (1, .int k), (2, .int p), (3, .int w)] [] ks ad E
  refine kv_aload_n X 0 dX0_init_0 rfl rfl ?_
  refine kv_objInit (κ := κ) X (List.mem_cons_of_mem _ (List.mem_append_left _ (List.mem_of_getElem? (i := 0) rfl))) (List.mem_cons_of_mem _ (List.mem_append_left _ (List.mem_of_getElem? (i := 1) rfl))) (List.mem_cons_of_mem _ (List.mem_append_left _ (List.mem_of_getElem? (i := 2) rfl))) hRR (Nat.le_of_ble_eq_true rfl) ⟨(Nat.le_of_ble_eq_true rfl), (Nat.le_of_ble_eq_true rfl)⟩ dX0_init_1 ?_
  refine kv_aload_n X 0 dX0_init_4 rfl rfl ?_
  refine kv_iload_n X 1 dX0_init_5 rfl rfl ?_
  refine kv_putfieldF X fp_X0_init_7 hkn (κ := κ) (fs := [.int 0, .int 0, .int 0]) hκ hE rfl rfl (Nat.le_of_ble_eq_true rfl) dX0_init_6 ?_
  refine kv_aload_n X 0 dX0_init_9 rfl rfl ?_
  refine kv_iload_n X 2 dX0_init_10 rfl rfl ?_
  refine kv_putfieldF X fp_X0_init_13 hkn (κ := κ) (fs := [.int k, .int 0, .int 0]) hκ (va_up_self _ _ _) rfl rfl (Nat.le_of_ble_eq_true rfl) dX0_init_11 ?_
  refine kv_aload_n X 0 dX0_init_14 rfl rfl ?_
  refine kv_iload_n X 3 dX0_init_15 rfl rfl ?_
  refine kv_putfieldF X fp_X0_init_16 hkn (κ := κ) (fs := [.int k, .int p, .int 0]) hκ (va_up_self _ _ _) rfl rfl (Nat.le_of_ble_eq_true rfl) dX0_init_16 ?_
  refine kv_E (E2 := va_up E κ (Sum.inr (3, [.int k, .int p, .int w]))) (fun j _ => by simp only [va_up_up]; rfl) ?_
  exact kv_return X hr (Nat.le_of_ble_eq_true rfl) (Nat.le_of_ble_eq_true rfl) ⟨(), trivial, rfl⟩ dX0_init_19
theorem fp_X4_init_7 : kFp wsX4_init RX4 7 7 1 .int false := ⟨_, RX4, TX4, 2, tyX4, fun _ h => (List.mem_cons_of_mem _ (List.mem_append_right _ h)), tyX4_ok, nmX4, (List.mem_cons_of_mem _ (List.mem_append_left _ (List.mem_of_getElem? (i := 3) rfl))), rfl, by decide, rfl, rfl, by decide +kernel, rfl⟩
theorem fp_X4_init_13 : kFp wsX4_init RX4 13 7 0 .int true := ⟨_, RX4, TX4, 2, tyX4, fun _ h => (List.mem_cons_of_mem _ (List.mem_append_right _ h)), tyX4_ok, nmX4, (List.mem_cons_of_mem _ (List.mem_append_left _ (List.mem_of_getElem? (i := 4) rfl))), rfl, by decide, rfl, rfl, by decide +kernel, rfl⟩
set_option maxRecDepth 100000 in
set_option maxHeartbeats 4000000 in
theorem c_X4_init (l : Launch) (dd : kDD) (ks : List Nat) (ad : Nat → Nat) (E : Nat → va_E) (κ : Nat) (k : Int32) (hκ : κ ∈ ks) (hE : E κ = .inr (7, [.int 0, .int 0])) : kCv l yX4_init wsX4_init ({ frames := 1, cells := 0, slots := 0, locals := 20 } : Room) 0 0 dd [.ref (ad κ), .int k] (ks, ad, E) (kQv (S := Unit) (fun z => True) (fun _ => ks) (fun _ => ad) (fun _ => va_up E κ (.inr (7, [.int k, .int 0])))) := by
  refine kMetv (ws' := _) (cc := cX4_init) (maxL := 2) (by decide) rfl (Nat.le_of_ble_eq_true rfl) (fun g X hr hnL hRR hl0 hkn => ?_)
  show kv dd g 0 0 0 [(0, .ref (ad κ)), (1, .int k)] [] ks ad E
  refine kv_aload_n X 0 dX4_init_0 rfl rfl ?_
  refine kv_objInit (κ := κ) X (List.mem_cons_of_mem _ (List.mem_append_left _ (List.mem_of_getElem? (i := 0) rfl))) (List.mem_cons_of_mem _ (List.mem_append_left _ (List.mem_of_getElem? (i := 1) rfl))) (List.mem_cons_of_mem _ (List.mem_append_left _ (List.mem_of_getElem? (i := 2) rfl))) hRR (Nat.le_of_ble_eq_true rfl) ⟨(Nat.le_of_ble_eq_true rfl), (Nat.le_of_ble_eq_true rfl)⟩ dX4_init_1 ?_
  refine kv_aload_n X 0 dX4_init_4 rfl rfl ?_
  refine kv_iconst (v := 0) X dX4_init_5 (by decide) ?_
  refine kv_putfield X fp_X4_init_7 (κ := κ) (fs := [.int 0, .int 0]) hκ hE rfl rfl (Nat.le_of_ble_eq_true rfl) dX4_init_6 ?_
  refine kv_aload_n X 0 dX4_init_9 rfl rfl ?_
  refine kv_iload_n X 1 dX4_init_10 rfl rfl ?_
  refine kv_putfieldF X fp_X4_init_13 hkn (κ := κ) (fs := [.int 0, .int 0]) hκ (va_up_self _ _ _) rfl rfl (Nat.le_of_ble_eq_true rfl) dX4_init_11 ?_
  refine kv_E (E2 := va_up E κ (Sum.inr (7, [.int k, .int 0]))) (fun j _ => by simp only [va_up_up]; rfl) ?_
  exact kv_return X hr (Nat.le_of_ble_eq_true rfl) (Nat.le_of_ble_eq_true rfl) ⟨(), trivial, rfl⟩ dX4_init_14
theorem fp_X5_init_7 : kFp wsX5_init RX5 7 8 0 .int false := ⟨_, RX5, TX5, 2, tyX5, fun _ h => (List.mem_cons_of_mem _ (List.mem_append_right _ h)), tyX5_ok, nmX5, (List.mem_cons_of_mem _ (List.mem_append_left _ (List.mem_of_getElem? (i := 3) rfl))), rfl, by decide, rfl, rfl, by decide +kernel, rfl⟩
theorem fp_X5_init_13 : kFp wsX5_init RX5 13 8 1 .int true := ⟨_, RX5, TX5, 2, tyX5, fun _ h => (List.mem_cons_of_mem _ (List.mem_append_right _ h)), tyX5_ok, nmX5, (List.mem_cons_of_mem _ (List.mem_append_left _ (List.mem_of_getElem? (i := 4) rfl))), rfl, by decide, rfl, rfl, by decide +kernel, rfl⟩
set_option maxRecDepth 100000 in
set_option maxHeartbeats 4000000 in
theorem c_X5_init (l : Launch) (dd : kDD) (ks : List Nat) (ad : Nat → Nat) (E : Nat → va_E) (κ : Nat) (k p : Int32) (hκ : κ ∈ ks) (hE : E κ = .inr (8, [.int 0, .int 0])) : kCv l yX5_init wsX5_init ({ frames := 1, cells := 0, slots := 0, locals := 20 } : Room) 0 0 dd [.ref (ad κ), .int k, .int p] (ks, ad, E) (kQv (S := Unit) (fun z => True) (fun _ => ks) (fun _ => ad) (fun _ => va_up E κ (.inr (8, [.int k, .int p])))) := by
  refine kMetv (ws' := _) (cc := cX5_init) (maxL := 3) (by decide) rfl (Nat.le_of_ble_eq_true rfl) (fun g X hr hnL hRR hl0 hkn => ?_)
  show kv dd g 0 0 0 [(0, .ref (ad κ)), (1, .int k), (2, .int p)] [] ks ad E
  refine kv_aload_n X 0 dX5_init_0 rfl rfl ?_
  refine kv_objInit (κ := κ) X (List.mem_cons_of_mem _ (List.mem_append_left _ (List.mem_of_getElem? (i := 0) rfl))) (List.mem_cons_of_mem _ (List.mem_append_left _ (List.mem_of_getElem? (i := 1) rfl))) (List.mem_cons_of_mem _ (List.mem_append_left _ (List.mem_of_getElem? (i := 2) rfl))) hRR (Nat.le_of_ble_eq_true rfl) ⟨(Nat.le_of_ble_eq_true rfl), (Nat.le_of_ble_eq_true rfl)⟩ dX5_init_1 ?_
  refine kv_aload_n X 0 dX5_init_4 rfl rfl ?_
  refine kv_iload_n X 1 dX5_init_5 rfl rfl ?_
  refine kv_putfield X fp_X5_init_7 (κ := κ) (fs := [.int 0, .int 0]) hκ hE rfl rfl (Nat.le_of_ble_eq_true rfl) dX5_init_6 ?_
  refine kv_aload_n X 0 dX5_init_9 rfl rfl ?_
  refine kv_iload_n X 2 dX5_init_10 rfl rfl ?_
  refine kv_putfieldF X fp_X5_init_13 hkn (κ := κ) (fs := [.int k, .int 0]) hκ (va_up_self _ _ _) rfl rfl (Nat.le_of_ble_eq_true rfl) dX5_init_11 ?_
  refine kv_E (E2 := va_up E κ (Sum.inr (8, [.int k, .int p]))) (fun j _ => by simp only [va_up_up]; rfl) ?_
  exact kv_return X hr (Nat.le_of_ble_eq_true rfl) (Nat.le_of_ble_eq_true rfl) ⟨(), trivial, rfl⟩ dX5_init_14
theorem fp_X8_init_7 : kFp wsX8_init RX8 7 11 0 .int true := ⟨_, RX8, TX8, 2, tyX8, fun _ h => (List.mem_cons_of_mem _ (List.mem_append_right _ h)), tyX8_ok, nmX8, (List.mem_cons_of_mem _ (List.mem_append_left _ (List.mem_of_getElem? (i := 3) rfl))), rfl, by decide, rfl, rfl, by decide +kernel, rfl⟩
theorem fp_X8_init_13 : kFp wsX8_init RX8 13 11 1 .int true := ⟨_, RX8, TX8, 2, tyX8, fun _ h => (List.mem_cons_of_mem _ (List.mem_append_right _ h)), tyX8_ok, nmX8, (List.mem_cons_of_mem _ (List.mem_append_left _ (List.mem_of_getElem? (i := 4) rfl))), rfl, by decide, rfl, rfl, by decide +kernel, rfl⟩
set_option maxRecDepth 100000 in
set_option maxHeartbeats 4000000 in
theorem c_X8_init (l : Launch) (dd : kDD) (ks : List Nat) (ad : Nat → Nat) (E : Nat → va_E) (κ : Nat) (k p : Int32) (hκ : κ ∈ ks) (hE : E κ = .inr (11, [.int 0, .int 0])) : kCv l yX8_init wsX8_init ({ frames := 1, cells := 0, slots := 0, locals := 20 } : Room) 0 0 dd [.ref (ad κ), .int k, .int p] (ks, ad, E) (kQv (S := Unit) (fun z => True) (fun _ => ks) (fun _ => ad) (fun _ => va_up E κ (.inr (11, [.int k, .int p])))) := by
  refine kMetv (ws' := _) (cc := cX8_init) (maxL := 3) (by decide) rfl (Nat.le_of_ble_eq_true rfl) (fun g X hr hnL hRR hl0 hkn => ?_)
  show kv dd g 0 0 0 [(0, .ref (ad κ)), (1, .int k), (2, .int p)] [] ks ad E
  refine kv_aload_n X 0 dX8_init_0 rfl rfl ?_
  refine kv_objInit (κ := κ) X (List.mem_cons_of_mem _ (List.mem_append_left _ (List.mem_of_getElem? (i := 0) rfl))) (List.mem_cons_of_mem _ (List.mem_append_left _ (List.mem_of_getElem? (i := 1) rfl))) (List.mem_cons_of_mem _ (List.mem_append_left _ (List.mem_of_getElem? (i := 2) rfl))) hRR (Nat.le_of_ble_eq_true rfl) ⟨(Nat.le_of_ble_eq_true rfl), (Nat.le_of_ble_eq_true rfl)⟩ dX8_init_1 ?_
  refine kv_aload_n X 0 dX8_init_4 rfl rfl ?_
  refine kv_iload_n X 1 dX8_init_5 rfl rfl ?_
  refine kv_putfieldF X fp_X8_init_7 hkn (κ := κ) (fs := [.int 0, .int 0]) hκ hE rfl rfl (Nat.le_of_ble_eq_true rfl) dX8_init_6 ?_
  refine kv_aload_n X 0 dX8_init_9 rfl rfl ?_
  refine kv_iload_n X 2 dX8_init_10 rfl rfl ?_
  refine kv_putfieldF X fp_X8_init_13 hkn (κ := κ) (fs := [.int k, .int 0]) hκ (va_up_self _ _ _) rfl rfl (Nat.le_of_ble_eq_true rfl) dX8_init_11 ?_
  refine kv_E (E2 := va_up E κ (Sum.inr (11, [.int k, .int p]))) (fun j _ => by simp only [va_up_up]; rfl) ?_
  exact kv_return X hr (Nat.le_of_ble_eq_true rfl) (Nat.le_of_ble_eq_true rfl) ⟨(), trivial, rfl⟩ dX8_init_14
theorem fp_X1_init_9 : kFp wsX1_init RX1 9 4 0 (.array .int) true := ⟨_, RX1, TX1, 3, tyX1, fun _ h => (List.mem_cons_of_mem _ (List.mem_append_right _ h)), tyX1_ok, nmX1, (List.mem_cons_of_mem _ (List.mem_append_left _ (List.mem_of_getElem? (i := 4) rfl))), rfl, by decide, rfl, rfl, by decide +kernel, rfl⟩
theorem fp_X1_init_15 : kFp wsX1_init RX1 15 4 1 (.array .int) true := ⟨_, RX1, TX1, 3, tyX1, fun _ h => (List.mem_cons_of_mem _ (List.mem_append_right _ h)), tyX1_ok, nmX1, (List.mem_cons_of_mem _ (List.mem_append_left _ (List.mem_of_getElem? (i := 5) rfl))), rfl, by decide, rfl, rfl, by decide +kernel, rfl⟩
theorem fp_X1_init_18 : kFp wsX1_init RX1 18 4 2 .int false := ⟨_, RX1, TX1, 3, tyX1, fun _ h => (List.mem_cons_of_mem _ (List.mem_append_right _ h)), tyX1_ok, nmX1, (List.mem_cons_of_mem _ (List.mem_append_left _ (List.mem_of_getElem? (i := 6) rfl))), rfl, by decide, rfl, rfl, by decide +kernel, rfl⟩
set_option maxRecDepth 100000 in
set_option maxHeartbeats 4000000 in
theorem c_X1_init (l : Launch) (dd : kDD) (ks : List Nat) (ad : Nat → Nat) (E : Nat → va_E) (κ κ1 κ2 : Nat) (h1 : κ ≠ κ1) (h2 : κ ≠ κ2) (h3 : κ1 ≠ κ2) (hκ : κ ∈ ks) (hE : E κ = .inr (4, [.null, .null, .int 0])) : kCv l yX1_init wsX1_init ({ frames := 1, cells := 2, slots := 6, locals := 20 } : Room) 2 6 dd [.ref (ad κ)] (ks, ad, E) (kQv (S := kT) (fun z => (∀ j, ¬ (j = κ1 ∨ j = κ2) → (j ∈ ks → j ∈ z.1) ∧ z.2.1 j = ad j) ∧ (∀ j, ¬ (j = κ ∨ j = κ1 ∨ j = κ2) → z.2.2 j = E j) ∧ κ ∈ z.1 ∧ κ1 ∈ z.1 ∧ κ2 ∈ z.1 ∧ z.2.2 κ = .inr (4, [.ref (z.2.1 κ1), .ref (z.2.1 κ2), .int 0]) ∧ z.2.2 κ1 = kI dd 3 (fun _ => 0) ∧ z.2.2 κ2 = kI dd 3 (fun _ => 0)) (fun z => z.1) (fun z => z.2.1) (fun z => z.2.2)) := by
  refine kMetv (ws' := _) (cc := cX1_init) (maxL := 1) (by decide) rfl (Nat.le_of_ble_eq_true rfl) (fun g X hr hnL hRR hl0 hkn => ?_)
  show kv dd g 0 0 0 [(0, .ref (ad κ))] [] ks ad E
  refine kv_aload_n X 0 dX1_init_0 rfl rfl ?_
  refine kv_objInit (κ := κ) X (List.mem_cons_of_mem _ (List.mem_append_left _ (List.mem_of_getElem? (i := 0) rfl))) (List.mem_cons_of_mem _ (List.mem_append_left _ (List.mem_of_getElem? (i := 1) rfl))) (List.mem_cons_of_mem _ (List.mem_append_left _ (List.mem_of_getElem? (i := 2) rfl))) hRR (Nat.le_of_ble_eq_true rfl) ⟨(Nat.le_of_ble_eq_true rfl), (Nat.le_of_ble_eq_true rfl)⟩ dX1_init_1 ?_
  refine kv_aload_n X 0 dX1_init_4 rfl rfl ?_
  refine kv_iconst (v := 3) X dX1_init_5 (by decide) ?_
  refine kv_topi (nI 3) rfl ?_
  refine kv_newarrIR X κ1 (List.mem_cons_of_mem _ (List.mem_append_left _ (List.mem_of_getElem? (i := 3) rfl))) (by omega) hRR ⟨(Nat.le_of_ble_eq_true rfl), (Nat.le_of_ble_eq_true rfl)⟩ dX1_init_6 (fun ks6 ad6 E6 hs6 => ?_)
  refine kv_LS [(0, .ref (ad6 κ))] [.ref (ad6 κ1), .ref (ad6 κ)] (by rw [hs6.2.1 (κ) h1]) (by rw [hs6.2.1 (κ) h1]) ?_
  refine kv_putfieldF X fp_X1_init_9 hkn (κ := κ) (fs := [.null, .null, .int 0]) ((hs6.1 _).mpr (Or.inl hκ)) ((hs6.2.2.1 _ h1).trans hE) rfl rfl (Nat.le_of_ble_eq_true rfl) dX1_init_8 ?_
  refine kv_aload_n X 0 dX1_init_11 rfl rfl ?_
  refine kv_iconst (v := 3) X dX1_init_12 (by decide) ?_
  refine kv_topi (nI 3) rfl ?_
  refine kv_newarrIR X κ2 (List.mem_cons_of_mem _ (List.mem_append_left _ (List.mem_of_getElem? (i := 3) rfl))) (by omega) hRR ⟨(Nat.le_of_ble_eq_true rfl), (Nat.le_of_ble_eq_true rfl)⟩ dX1_init_13 (fun ks13 ad13 E13 hs13 => ?_)
  refine kv_LS [(0, .ref (ad13 κ))] [.ref (ad13 κ2), .ref (ad13 κ)] (by rw [hs13.2.1 (κ) h2]) (by rw [hs13.2.1 (κ) h2]) ?_
  refine kv_putfieldF X fp_X1_init_15 hkn (κ := κ) (fs := [.ref (ad13 κ1), .null, .int 0]) ((hs13.1 _).mpr (Or.inl ((hs6.1 _).mpr (Or.inl hκ)))) ((hs13.2.2.1 _ h2).trans ((va_up_self _ _ _).trans (by rw [hs13.2.1 (κ1) h3]; try rfl))) rfl rfl (Nat.le_of_ble_eq_true rfl) dX1_init_15 ?_
  refine kv_aload_n X 0 dX1_init_18 rfl rfl ?_
  refine kv_iconst (v := 0) X dX1_init_19 (by decide) ?_
  refine kv_putfield X fp_X1_init_18 (κ := κ) (fs := [.ref (ad13 κ1), .ref (ad13 κ2), .int 0]) ((hs13.1 _).mpr (Or.inl ((hs6.1 _).mpr (Or.inl hκ)))) (va_up_self _ _ _) rfl rfl (Nat.le_of_ble_eq_true rfl) dX1_init_20 ?_
  exact kv_return X hr (Nat.le_of_ble_eq_true rfl) (Nat.le_of_ble_eq_true rfl) ⟨(ks13, ad13, (va_up (va_up E13 κ (Sum.inr (4, [.ref (ad13 κ1), .ref (ad13 κ2), .int 0]))) κ (Sum.inr (4, [.ref (ad13 κ1), .ref (ad13 κ2), .int 0])))), ⟨fun j hj => ⟨fun q => (hs13.1 _).mpr (Or.inl ((hs6.1 _).mpr (Or.inl q))), (hs13.2.1 _ (fun q => hj (Or.inr q))).trans (hs6.2.1 _ (fun q => hj (Or.inl q)))⟩, fun j hj => (va_up_ne _ _ (fun q => hj (Or.inl q))).trans ((va_up_ne _ _ (fun q => hj (Or.inl q))).trans ((hs13.2.2.1 j (fun q => hj (Or.inr (Or.inr q)))).trans ((va_up_ne _ _ (fun q => hj (Or.inl q))).trans (hs6.2.2.1 j (fun q => hj (Or.inr (Or.inl q))))))), ((hs13.1 _).mpr (Or.inl ((hs6.1 _).mpr (Or.inl hκ)))), ((hs13.1 _).mpr (Or.inl ((hs6.1 _).mpr (Or.inr rfl)))), ((hs13.1 _).mpr (Or.inr rfl)), (va_up_self _ _ _), ((va_up_ne _ _ (Ne.symm h1)).trans ((va_up_ne _ _ (Ne.symm h1)).trans ((hs13.2.2.1 _ h3).trans ((va_up_ne _ _ (Ne.symm h1)).trans hs6.2.2.2)))), ((va_up_ne _ _ (Ne.symm h2)).trans ((va_up_ne _ _ (Ne.symm h2)).trans hs13.2.2.2))⟩, rfl⟩ dX1_init_23
theorem fp_X9_init_9 : kFp wsX9_init RX9 9 12 0 (.array .int) true := ⟨_, RX9, TX9, 2, tyX9, fun _ h => (List.mem_cons_of_mem _ (List.mem_append_right _ h)), tyX9_ok, nmX9, (List.mem_cons_of_mem _ (List.mem_append_left _ (List.mem_of_getElem? (i := 4) rfl))), rfl, by decide, rfl, rfl, by decide +kernel, rfl⟩
theorem fp_X9_init_15 : kFp wsX9_init RX9 15 12 1 (.array .int) true := ⟨_, RX9, TX9, 2, tyX9, fun _ h => (List.mem_cons_of_mem _ (List.mem_append_right _ h)), tyX9_ok, nmX9, (List.mem_cons_of_mem _ (List.mem_append_left _ (List.mem_of_getElem? (i := 5) rfl))), rfl, by decide, rfl, rfl, by decide +kernel, rfl⟩
theorem f_X9_init_9 : kF wsX9_init RX9 9 12 0 := ⟨_, RX9, TX9, 2, fun _ h => (List.mem_cons_of_mem _ (List.mem_append_right _ h)), (List.mem_cons_of_mem _ (List.mem_append_left _ (List.mem_of_getElem? (i := 4) rfl))), rfl, by decide, rfl⟩
theorem f_X9_init_15 : kF wsX9_init RX9 15 12 1 := ⟨_, RX9, TX9, 2, fun _ h => (List.mem_cons_of_mem _ (List.mem_append_right _ h)), (List.mem_cons_of_mem _ (List.mem_append_left _ (List.mem_of_getElem? (i := 5) rfl))), rfl, by decide, rfl⟩
set_option maxRecDepth 100000 in
set_option maxHeartbeats 4000000 in
theorem c_X9_init (l : Launch) (dd : kDD) (ks : List Nat) (ad : Nat → Nat) (E : Nat → va_E) (κ κ1 κ2 : Nat) (h1 : κ ≠ κ1) (h2 : κ ≠ κ2) (h3 : κ1 ≠ κ2) (hκ : κ ∈ ks) (hE : E κ = .inr (12, [.null, .null])) : kCv l yX9_init wsX9_init ({ frames := 1, cells := 2, slots := 24, locals := 23 } : Room) 2 24 dd [.ref (ad κ)] (ks, ad, E) (kQv (S := kT) (fun z => (∀ j, ¬ (j = κ1 ∨ j = κ2) → (j ∈ ks → j ∈ z.1) ∧ z.2.1 j = ad j) ∧ (∀ j, ¬ (j = κ ∨ j = κ1 ∨ j = κ2) → z.2.2 j = E j) ∧ κ ∈ z.1 ∧ κ1 ∈ z.1 ∧ κ2 ∈ z.1 ∧ z.2.2 κ = .inr (12, [.ref (z.2.1 κ1), .ref (z.2.1 κ2)]) ∧ z.2.2 κ1 = kI dd 12 (mset (fun _ => 0) (fun _ => -1) 12) ∧ z.2.2 κ2 = kI dd 12 (mset (fun _ => 0) (fun _ => -1) 12)) (fun z => z.1) (fun z => z.2.1) (fun z => z.2.2)) := by
  refine kMetv (ws' := _) (cc := cX9_init) (maxL := 1) (by decide) rfl (Nat.le_of_ble_eq_true rfl) (fun g X hr hnL hRR hl0 hkn => ?_)
  show kv dd g 0 0 0 [(0, .ref (ad κ))] [] ks ad E
  refine kv_aload_n X 0 dX9_init_0 rfl rfl ?_
  refine kv_objInit (κ := κ) X (List.mem_cons_of_mem _ (List.mem_append_left _ (List.mem_of_getElem? (i := 0) rfl))) (List.mem_cons_of_mem _ (List.mem_append_left _ (List.mem_of_getElem? (i := 1) rfl))) (List.mem_cons_of_mem _ (List.mem_append_left _ (List.mem_of_getElem? (i := 2) rfl))) hRR (Nat.le_of_ble_eq_true rfl) ⟨(Nat.le_of_ble_eq_true rfl), (Nat.le_of_ble_eq_true rfl)⟩ dX9_init_1 ?_
  refine kv_aload_n X 0 dX9_init_4 rfl rfl ?_
  refine kv_bipush (v := 12) X dX9_init_5 (by decide) ?_
  refine kv_topi (nI 12) rfl ?_
  refine kv_newarrIR X κ1 (List.mem_cons_of_mem _ (List.mem_append_left _ (List.mem_of_getElem? (i := 3) rfl))) (by omega) hRR ⟨(Nat.le_of_ble_eq_true rfl), (Nat.le_of_ble_eq_true rfl)⟩ dX9_init_7 (fun ks7 ad7 E7 hs7 => ?_)
  refine kv_LS [(0, .ref (ad7 κ))] [.ref (ad7 κ1), .ref (ad7 κ)] (by rw [hs7.2.1 (κ) h1]) (by rw [hs7.2.1 (κ) h1]) ?_
  refine kv_putfieldF X fp_X9_init_9 hkn (κ := κ) (fs := [.null, .null]) ((hs7.1 _).mpr (Or.inl hκ)) ((hs7.2.2.1 _ h1).trans hE) rfl rfl (Nat.le_of_ble_eq_true rfl) dX9_init_9 ?_
  refine kv_aload_n X 0 dX9_init_12 rfl rfl ?_
  refine kv_bipush (v := 12) X dX9_init_13 (by decide) ?_
  refine kv_topi (nI 12) rfl ?_
  refine kv_newarrIR X κ2 (List.mem_cons_of_mem _ (List.mem_append_left _ (List.mem_of_getElem? (i := 3) rfl))) (by omega) hRR ⟨(Nat.le_of_ble_eq_true rfl), (Nat.le_of_ble_eq_true rfl)⟩ dX9_init_15 (fun ks15 ad15 E15 hs15 => ?_)
  refine kv_LS [(0, .ref (ad15 κ))] [.ref (ad15 κ2), .ref (ad15 κ)] (by rw [hs15.2.1 (κ) h2]) (by rw [hs15.2.1 (κ) h2]) ?_
  refine kv_putfieldF X fp_X9_init_15 hkn (κ := κ) (fs := [.ref (ad15 κ1), .null]) ((hs15.1 _).mpr (Or.inl ((hs7.1 _).mpr (Or.inl hκ)))) ((hs15.2.2.1 _ h2).trans ((va_up_self _ _ _).trans (by rw [hs15.2.1 (κ1) h3]; try rfl))) rfl rfl (Nat.le_of_ble_eq_true rfl) dX9_init_17 ?_
  refine kv_aload_n X 0 dX9_init_20 rfl rfl ?_
  refine kv_getfield X f_X9_init_9 (κ := κ) (fs := [.ref (ad15 κ1), .ref (ad15 κ2)]) (v := .ref (ad15 κ1)) ((hs15.1 _).mpr (Or.inl ((hs7.1 _).mpr (Or.inl hκ)))) (va_up_self _ _ _) rfl dX9_init_21 ?_
  refine kv_iconst (v := (-1)) X dX9_init_24 (by decide) ?_
  refine kv_callvS (As := [.ref (ad15 κ1), .int (-1)]) [] X (c_J7_fill_53178 l dd ks15 ad15 (va_up E15 κ (Sum.inr (12, [.ref (ad15 κ1), .ref (ad15 κ2)]))) κ1 12 (fun _ => 0) (-1) ((hs15.1 _).mpr (Or.inl ((hs7.1 _).mpr (Or.inr rfl)))) ((va_up_ne _ _ (Ne.symm h1)).trans ((hs15.2.2.1 _ h3).trans ((va_up_ne _ _ (Ne.symm h1)).trans hs7.2.2.2))) (by omega)) hl0 (kCS_of X 2 gX9_init_J7_fill_53178 rfl rfl rfl (by decide +kernel) hRR ⟨(Nat.le_of_ble_eq_true rfl), (Nat.le_of_ble_eq_true rfl)⟩) rfl rfl (Nat.le_of_ble_eq_true rfl) hRR ⟨(Nat.le_of_ble_eq_true rfl), (Nat.le_of_ble_eq_true rfl)⟩ dX9_init_25 (fun z hp => ?_)
  refine kv_aload_n X 0 dX9_init_28 rfl rfl ?_
  refine kv_getfield X f_X9_init_15 (κ := κ) (fs := [.ref (ad15 κ1), .ref (ad15 κ2)]) (v := .ref (ad15 κ2)) ((hs15.1 _).mpr (Or.inl ((hs7.1 _).mpr (Or.inl hκ)))) ((va_up_ne _ _ h1).trans (va_up_self _ _ _)) rfl dX9_init_29 ?_
  refine kv_iconst (v := (-1)) X dX9_init_32 (by decide) ?_
  refine kv_callvS (As := [.ref (ad15 κ2), .int (-1)]) [] X (c_J7_fill_53178 l dd ks15 ad15 (va_up (va_up E15 κ (Sum.inr (12, [.ref (ad15 κ1), .ref (ad15 κ2)]))) κ1 (kI dd 12 (mset (fun _ => 0) (fun _ => -1) 12))) κ2 12 (fun _ => 0) (-1) ((hs15.1 _).mpr (Or.inr rfl)) ((va_up_ne _ _ (Ne.symm h3)).trans ((va_up_ne _ _ (Ne.symm h2)).trans hs15.2.2.2)) (by omega)) hl0 (kCS_of X 2 gX9_init_J7_fill_53178 rfl rfl rfl (by decide +kernel) hRR ⟨(Nat.le_of_ble_eq_true rfl), (Nat.le_of_ble_eq_true rfl)⟩) rfl rfl (Nat.le_of_ble_eq_true rfl) hRR ⟨(Nat.le_of_ble_eq_true rfl), (Nat.le_of_ble_eq_true rfl)⟩ dX9_init_33 (fun z hp => ?_)
  exact kv_return X hr (Nat.le_of_ble_eq_true rfl) (Nat.le_of_ble_eq_true rfl) ⟨(ks15, ad15, (va_up (va_up (va_up E15 κ (Sum.inr (12, [.ref (ad15 κ1), .ref (ad15 κ2)]))) κ1 (kI dd 12 (mset (fun _ => 0) (fun _ => -1) 12))) κ2 (kI dd 12 (mset (fun _ => 0) (fun _ => -1) 12)))), ⟨fun j hj => ⟨fun q => (hs15.1 _).mpr (Or.inl ((hs7.1 _).mpr (Or.inl q))), (hs15.2.1 _ (fun q => hj (Or.inr q))).trans (hs7.2.1 _ (fun q => hj (Or.inl q)))⟩, fun j hj => (va_up_ne _ _ (fun q => hj (Or.inr (Or.inr q)))).trans ((va_up_ne _ _ (fun q => hj (Or.inr (Or.inl q)))).trans ((va_up_ne _ _ (fun q => hj (Or.inl q))).trans ((hs15.2.2.1 j (fun q => hj (Or.inr (Or.inr q)))).trans ((va_up_ne _ _ (fun q => hj (Or.inl q))).trans (hs7.2.2.1 j (fun q => hj (Or.inr (Or.inl q)))))))), ((hs15.1 _).mpr (Or.inl ((hs7.1 _).mpr (Or.inl hκ)))), ((hs15.1 _).mpr (Or.inl ((hs7.1 _).mpr (Or.inr rfl)))), ((hs15.1 _).mpr (Or.inr rfl)), ((va_up_ne _ _ h2).trans ((va_up_ne _ _ h1).trans (va_up_self _ _ _))), ((va_up_ne _ _ h3).trans (va_up_self _ _ _)), (va_up_self _ _ _)⟩, rfl⟩ dX9_init_36
theorem fp_X3_init_10 : kFp wsX3_init RX3 10 6 1 (.object "java/util/ArrayList") true := ⟨_, RX3, TX3, 2, tyX3, fun _ h => (List.mem_cons_of_mem _ (List.mem_append_right _ h)), tyX3_ok, nmX3, (List.mem_cons_of_mem _ (List.mem_append_left _ (List.mem_append_left _ (List.mem_of_getElem? (i := 6) rfl)))), rfl, by decide, rfl, rfl, by decide +kernel, rfl⟩
theorem fp_X3_init_16 : kFp wsX3_init RX3 16 6 0 .int true := ⟨_, RX3, TX3, 2, tyX3, fun _ h => (List.mem_cons_of_mem _ (List.mem_append_right _ h)), tyX3_ok, nmX3, (List.mem_cons_of_mem _ (List.mem_append_left _ (List.mem_append_left _ (List.mem_of_getElem? (i := 7) rfl)))), rfl, by decide, rfl, rfl, by decide +kernel, rfl⟩
set_option maxRecDepth 100000 in
set_option maxHeartbeats 4000000 in
theorem c_X3_init (l : Launch) (dd : kDD) (ks : List Nat) (ad : Nat → Nat) (E : Nat → va_E) (κ κ1 : Nat) (t : Int32) (h1 : κ ≠ κ1) (hκ : κ ∈ ks) (hE : E κ = .inr (6, [.int 0, .null])) : kCv l yX3_init wsX3_init ({ frames := 4, cells := 1, slots := 3, locals := 80 } : Room) 1 3 dd [.ref (ad κ), .int t] (ks, ad, E) (kQv (S := kT) (fun z => (∀ j, j ≠ κ1 → (j ∈ ks → j ∈ z.1) ∧ z.2.1 j = ad j) ∧ (∀ j, ¬ (j = κ ∨ j = κ1) → z.2.2 j = E j) ∧ κ ∈ z.1 ∧ κ1 ∈ z.1 ∧ z.2.2 κ = .inr (6, [.int t, .ref (z.2.1 κ1)]) ∧ z.2.2 κ1 = .inr (2, [.int 0, .ref (ktE dd).1, .int 0])) (fun z => z.1) (fun z => z.2.1) (fun z => z.2.2)) := by
  refine kMetv (ws' := _) (cc := cX3_init) (maxL := 2) (by decide) rfl (Nat.le_of_ble_eq_true rfl) (fun g X hr hnL hRR hl0 hkn => ?_)
  show kv dd g 0 0 0 [(0, .ref (ad κ)), (1, .int t)] [] ks ad E
  refine kv_aload_n X 0 dX3_init_0 rfl rfl ?_
  refine kv_objInit (κ := κ) X (List.mem_cons_of_mem _ (List.mem_append_left _ (List.mem_append_left _ (List.mem_of_getElem? (i := 0) rfl)))) (List.mem_cons_of_mem _ (List.mem_append_left _ (List.mem_append_left _ (List.mem_of_getElem? (i := 1) rfl)))) (List.mem_cons_of_mem _ (List.mem_append_left _ (List.mem_append_left _ (List.mem_of_getElem? (i := 2) rfl)))) hRR (Nat.le_of_ble_eq_true rfl) ⟨(Nat.le_of_ble_eq_true rfl), (Nat.le_of_ble_eq_true rfl)⟩ dX3_init_1 ?_
  refine kv_aload_n X 0 dX3_init_4 rfl rfl ?_
  refine kv_newR X κ1 (⟨RJx4a65c, TJx4a65c, tyJx4a65c, fun _ h => (List.mem_cons_of_mem _ (List.mem_append_left _ (List.mem_append_right _ h))), tyJx4a65c_ok, (List.mem_cons_of_mem _ (List.mem_append_left _ (List.mem_append_left _ (List.mem_of_getElem? (i := 3) rfl)))), (List.mem_cons_of_mem _ (List.mem_append_left _ (List.mem_append_left _ (List.mem_of_getElem? (i := 4) rfl)))), (List.mem_cons_of_mem _ (List.mem_append_left _ (List.mem_append_left _ (List.mem_of_getElem? (i := 5) rfl)))), rfl, by decide⟩ : kN wsX3_init RX3 7 2 [.int 0, .null, .int 0] 3) hRR ⟨(Nat.le_of_ble_eq_true rfl), (Nat.le_of_ble_eq_true rfl)⟩ dX3_init_5 (fun ks5 ad5 E5 hs5 => ?_)
  refine kv_LS [(0, .ref (ad5 κ)), (1, .int t)] [.ref (ad5 κ1), .ref (ad5 κ)] (by rw [hs5.2.1 (κ) h1]) (by rw [hs5.2.1 (κ) h1]) ?_
  refine kv_dup X dX3_init_8 rfl ?_
  refine kv_callvI (κ := κ1) (As := []) [.ref (ad5 κ1), .ref (ad5 κ)] X (c_Jx4a65c_init_da8c8 l dd ks5 ad5 E5 κ1 ((hs5.1 _).mpr (Or.inr rfl)) hs5.2.2.2) hl0 (kCI_of X 0 gX3_init_Jx4a65c_init_da8c8 (List.mem_cons_of_mem _ (List.mem_append_left _ (List.mem_append_left _ (List.mem_of_getElem? (i := 5) rfl)))) (List.mem_cons_of_mem _ (List.mem_append_left _ (List.mem_append_left _ (List.mem_of_getElem? (i := 8) rfl)))) (List.mem_cons_of_mem _ (List.mem_append_left _ (List.mem_append_left _ (List.mem_of_getElem? (i := 9) rfl)))) rfl rfl rfl rfl (by decide +kernel) hRR ⟨(Nat.le_of_ble_eq_true rfl), (Nat.le_of_ble_eq_true rfl)⟩) rfl rfl (Nat.le_of_ble_eq_true rfl) hRR ⟨(Nat.le_of_ble_eq_true rfl), (Nat.le_of_ble_eq_true rfl)⟩ dX3_init_9 (fun z hp => ?_)
  refine kv_putfieldF X fp_X3_init_10 hkn (κ := κ) (fs := [.int 0, .null]) ((hs5.1 _).mpr (Or.inl hκ)) ((va_up_ne _ _ h1).trans ((hs5.2.2.1 _ h1).trans hE)) rfl rfl (Nat.le_of_ble_eq_true rfl) dX3_init_12 ?_
  refine kv_aload_n X 0 dX3_init_15 rfl rfl ?_
  refine kv_iload_n X 1 dX3_init_16 rfl rfl ?_
  refine kv_putfieldF X fp_X3_init_16 hkn (κ := κ) (fs := [.int 0, .ref (ad5 κ1)]) ((hs5.1 _).mpr (Or.inl hκ)) (va_up_self _ _ _) rfl rfl (Nat.le_of_ble_eq_true rfl) dX3_init_17 ?_
  exact kv_return X hr (Nat.le_of_ble_eq_true rfl) (Nat.le_of_ble_eq_true rfl) ⟨(ks5, ad5, (va_up (va_up (va_up E5 κ1 (Sum.inr (2, [.int 0, .ref (ktE dd).1, .int 0]))) κ (Sum.inr (6, [.int 0, .ref (ad5 κ1)]))) κ (Sum.inr (6, [.int t, .ref (ad5 κ1)])))), ⟨fun j hj => ⟨fun q => (hs5.1 _).mpr (Or.inl q), hs5.2.1 _ hj⟩, fun j hj => (va_up_ne _ _ (fun q => hj (Or.inl q))).trans ((va_up_ne _ _ (fun q => hj (Or.inl q))).trans ((va_up_ne _ _ (fun q => hj (Or.inr q))).trans (hs5.2.2.1 j (fun q => hj (Or.inr q))))), ((hs5.1 _).mpr (Or.inl hκ)), ((hs5.1 _).mpr (Or.inr rfl)), (va_up_self _ _ _), ((va_up_ne _ _ (Ne.symm h1)).trans ((va_up_ne _ _ (Ne.symm h1)).trans (va_up_self _ _ _)))⟩, rfl⟩ dX3_init_20
theorem f_X1_hasMember_18 : kF wsX1_hasMember RX1 18 4 2 := ⟨_, RX1, TX1, 3, fun _ h => (List.mem_cons_of_mem _ (List.mem_append_left _ (List.mem_append_right _ h))), (List.mem_cons_of_mem _ (List.mem_append_left _ (List.mem_append_left _ (List.mem_of_getElem? (i := 0) rfl)))), rfl, by decide, rfl⟩
theorem f_X1_hasMember_9 : kF wsX1_hasMember RX1 9 4 0 := ⟨_, RX1, TX1, 3, fun _ h => (List.mem_cons_of_mem _ (List.mem_append_left _ (List.mem_append_right _ h))), (List.mem_cons_of_mem _ (List.mem_append_left _ (List.mem_append_left _ (List.mem_of_getElem? (i := 1) rfl)))), rfl, by decide, rfl⟩
set_option maxRecDepth 100000 in
set_option maxHeartbeats 4000000 in
theorem c_X1_hasMember (l : Launch) (dd : kDD) (ks : List Nat) (ad : Nat → Nat) (E : Nat → va_E) (κ κ1 κ2 : Nat) (f1 f2 : Nat → Int32) (n : Nat) (hn : n ≤ 3) (hκ : κ ∈ ks) (hE : E κ = .inr (4, [.ref (ad κ1), .ref (ad κ2), .int (nI n)])) (hκ1 : κ1 ∈ ks) (hE1 : E κ1 = kI dd 3 f1) (hκ2 : κ2 ∈ ks) (hE2 : E κ2 = kI dd 3 f2) (x : Int32) : kCi l yX1_hasMember wsX1_hasMember ({ frames := 0, cells := 0, slots := 0, locals := 0 } : Room) 0 0 dd [.ref (ad κ), .int x] (ks, ad, E) (kQi (S := Unit) (fun r z => (r = 1 ∧ mhas f1 0 x n) ∨ (r = 0 ∧ ¬ mhas f1 0 x n)) (fun _ => ks) (fun _ => ad) (fun _ => E)) := by
  refine kMeti (ws' := _) (cc := cX1_hasMember) (maxL := 3) (rt := .boolean) (by decide) rfl (Nat.le_of_ble_eq_true rfl) (fun g X hr hnL hRR hl0 hkn => ?_)
  show kv dd g 0 0 0 [(0, .ref (ad κ)), (1, .int x)] [] ks ad E
  refine kv_iconst (v := 0) X dX1_hasMember_0 (by decide) ?_
  refine kv_istore_n (lv2 := [(2, .int 0), (0, .ref (ad κ)), (1, .int x)]) X dX1_hasMember_1 rfl (by rw [hnL]; decide) rfl ?_
  have L2 : ∀ (n9 i : Nat), i + n9 = n → ∀ (_ : Unit) (hno : ¬ mhas f1 0 x i), kv dd g 0 0 2 [(2, .int (nI i)), (0, .ref (ad κ)), (1, .int x)] [] ks ad E := by
    intro n9
    induction n9 with
    | zero =>
      intro i hin2 _ hno
      refine kv_iload_n X 0 dX1_hasMember_2 rfl rfl ?_
      refine kv_aload_n X 1 dX1_hasMember_3 rfl rfl ?_
      refine kv_getfield X f_X1_hasMember_18 (κ := κ) (fs := [.ref (ad κ1), .ref (ad κ2), .int (nI n)]) (v := .int (nI n)) hκ hE rfl dX1_hasMember_4 ?_
      refine kn_icmp_ge (x := i) (y := n) (tgt := 28) X (by omega) (by omega) dX1_hasMember_7 (by decide) (fun hc7 => ?_) (fun hc7 => absurd hc7 (by omega))
      refine kv_iconst (v := 0) X dX1_hasMember_28 (by decide) ?_
      exact kv_zreturn X hr rfl (Nat.le_of_ble_eq_true rfl) (Nat.le_of_ble_eq_true rfl) ⟨(), Or.inr ⟨rfl, by rw [show n = i by omega]; exact hno⟩, rfl⟩ dX1_hasMember_29
    | succ n9 ih2 =>
      intro i hin2 _ hno
      refine kv_iload_n X 0 dX1_hasMember_2 rfl rfl ?_
      refine kv_aload_n X 1 dX1_hasMember_3 rfl rfl ?_
      refine kv_getfield X f_X1_hasMember_18 (κ := κ) (fs := [.ref (ad κ1), .ref (ad κ2), .int (nI n)]) (v := .int (nI n)) hκ hE rfl dX1_hasMember_4 ?_
      refine kn_icmp_ge (x := i) (y := n) (tgt := 28) X (by omega) (by omega) dX1_hasMember_7 (by decide) (fun hc7 => absurd hc7 (by omega)) (fun hc7 => ?_)
      refine kv_aload_n X 1 dX1_hasMember_10 rfl rfl ?_
      refine kv_getfield X f_X1_hasMember_9 (κ := κ) (fs := [.ref (ad κ1), .ref (ad κ2), .int (nI n)]) (v := .ref (ad κ1)) hκ hE rfl dX1_hasMember_11 ?_
      refine kv_iload_n X 0 dX1_hasMember_14 rfl rfl ?_
      refine kv_iaload X (κ := κ1) (n := 3) (j := i) (f := f1) hκ1 hE1 (by omega) (by omega) dX1_hasMember_15 ?_
      refine kv_iload_n X 2 dX1_hasMember_16 rfl rfl ?_
      refine kv_icmp_ne (tgt := 22) X dX1_hasMember_17 (by decide) (fun hc17 => ?_) (fun hc17 => ?_)
      ·
        refine kv_iinc (j := 0) (v := (nI (i + 1))) (lv2 := [(2, .int (nI (i + 1))), (0, .ref (ad κ)), (1, .int x)]) X dX1_hasMember_22 rfl (nI_add i 1) (by rw [hnL]; decide) rfl ?_
        refine kv_goto (tgt := 2) X dX1_hasMember_25 (by decide) ?_
        exact kv_lv [0, 1, 2] rfl (ih2 (i + 1) (by omega) () (fun q => by rcases mhas_s.mp q with q | q; exact hno q; exact hc17 (by rw [show i = 0 + i by omega]; exact q)))
      ·
        refine kv_iconst (v := 1) X dX1_hasMember_20 (by decide) ?_
        exact kv_zreturn X hr rfl (Nat.le_of_ble_eq_true rfl) (Nat.le_of_ble_eq_true rfl) ⟨(), Or.inl ⟨rfl, i, by omega, by rw [show 0 + i = i by omega]; exact hc17⟩, rfl⟩ dX1_hasMember_21
  exact kv_lv [0, 1, 2] rfl (L2 n 0 (by omega) () (fun ⟨y, hy, _⟩ => absurd hy (by omega)))
theorem f_X1_join_9 : kF wsX1_join RX1 9 4 0 := ⟨_, RX1, TX1, 3, fun _ h => (List.mem_cons_of_mem _ (List.mem_append_left _ (List.mem_append_right _ h))), (List.mem_cons_of_mem _ (List.mem_append_left _ (List.mem_append_left _ (List.mem_of_getElem? (i := 0) rfl)))), rfl, by decide, rfl⟩
theorem f_X1_join_18 : kF wsX1_join RX1 18 4 2 := ⟨_, RX1, TX1, 3, fun _ h => (List.mem_cons_of_mem _ (List.mem_append_left _ (List.mem_append_right _ h))), (List.mem_cons_of_mem _ (List.mem_append_left _ (List.mem_append_left _ (List.mem_of_getElem? (i := 1) rfl)))), rfl, by decide, rfl⟩
theorem f_X1_join_15 : kF wsX1_join RX1 15 4 1 := ⟨_, RX1, TX1, 3, fun _ h => (List.mem_cons_of_mem _ (List.mem_append_left _ (List.mem_append_right _ h))), (List.mem_cons_of_mem _ (List.mem_append_left _ (List.mem_append_left _ (List.mem_of_getElem? (i := 2) rfl)))), rfl, by decide, rfl⟩
theorem fp_X1_join_18 : kFp wsX1_join RX1 18 4 2 .int false := ⟨_, RX1, TX1, 3, tyX1, fun _ h => (List.mem_cons_of_mem _ (List.mem_append_left _ (List.mem_append_right _ h))), tyX1_ok, nmX1, (List.mem_cons_of_mem _ (List.mem_append_left _ (List.mem_append_left _ (List.mem_of_getElem? (i := 1) rfl)))), rfl, by decide, rfl, rfl, by decide +kernel, rfl⟩
set_option maxRecDepth 100000 in
set_option maxHeartbeats 4000000 in
theorem c_X1_join (l : Launch) (dd : kDD) (ks : List Nat) (ad : Nat → Nat) (E : Nat → va_E) (κ κ1 κ2 : Nat) (f1 f2 : Nat → Int32) (n : Nat) (hn : n < 3) (hκ : κ ∈ ks) (hE : E κ = .inr (4, [.ref (ad κ1), .ref (ad κ2), .int (nI n)])) (hκ1 : κ1 ∈ ks) (hE1 : E κ1 = kI dd 3 f1) (hκ2 : κ2 ∈ ks) (hE2 : E κ2 = kI dd 3 f2) (x y : Int32) (h1 : κ ≠ κ1) (h2 : κ ≠ κ2) (h3 : κ1 ≠ κ2) : kCv l yX1_join wsX1_join ({ frames := 0, cells := 0, slots := 0, locals := 0 } : Room) 0 0 dd [.ref (ad κ), .int x, .int y] (ks, ad, E) (kQv (S := Unit) (fun z => True) (fun _ => ks) (fun _ => ad) (fun _ => va_up (va_up (va_up E κ1 (kI dd 3 (va_up f1 n x))) κ2 (kI dd 3 (va_up f2 n y))) κ (.inr (4, [.ref (ad κ1), .ref (ad κ2), .int (nI (n + 1))])))) := by
  refine kMetv (ws' := _) (cc := cX1_join) (maxL := 3) (by decide) rfl (Nat.le_of_ble_eq_true rfl) (fun g X hr hnL hRR hl0 hkn => ?_)
  show kv dd g 0 0 0 [(0, .ref (ad κ)), (1, .int x), (2, .int y)] [] ks ad E
  refine kv_aload_n X 0 dX1_join_0 rfl rfl ?_
  refine kv_getfield X f_X1_join_9 (κ := κ) (fs := [.ref (ad κ1), .ref (ad κ2), .int (nI n)]) (v := .ref (ad κ1)) hκ hE rfl dX1_join_1 ?_
  refine kv_aload_n X 0 dX1_join_4 rfl rfl ?_
  refine kv_getfield X f_X1_join_18 (κ := κ) (fs := [.ref (ad κ1), .ref (ad κ2), .int (nI n)]) (v := .int (nI n)) hκ hE rfl dX1_join_5 ?_
  refine kv_iload_n X 1 dX1_join_8 rfl rfl ?_
  refine kv_iastore X (κ := κ1) (n := 3) (j := n) (f := f1) (x := x) hκ1 hE1 (by omega) (by omega) dX1_join_9 ?_
  refine kv_aload_n X 0 dX1_join_10 rfl rfl ?_
  refine kv_getfield X f_X1_join_15 (κ := κ) (fs := [.ref (ad κ1), .ref (ad κ2), .int (nI n)]) (v := .ref (ad κ2)) hκ ((va_up_ne _ _ h1).trans hE) rfl dX1_join_11 ?_
  refine kv_aload_n X 0 dX1_join_14 rfl rfl ?_
  refine kv_getfield X f_X1_join_18 (κ := κ) (fs := [.ref (ad κ1), .ref (ad κ2), .int (nI n)]) (v := .int (nI n)) hκ ((va_up_ne _ _ h1).trans hE) rfl dX1_join_15 ?_
  refine kv_iload_n X 2 dX1_join_18 rfl rfl ?_
  refine kv_iastore X (κ := κ2) (n := 3) (j := n) (f := f2) (x := y) hκ2 ((va_up_ne _ _ (Ne.symm h3)).trans hE2) (by omega) (by omega) dX1_join_19 ?_
  refine kv_aload_n X 0 dX1_join_20 rfl rfl ?_
  refine kv_dup X dX1_join_21 rfl ?_
  refine kv_getfield X f_X1_join_18 (κ := κ) (fs := [.ref (ad κ1), .ref (ad κ2), .int (nI n)]) (v := .int (nI n)) hκ ((va_up_ne _ _ h2).trans ((va_up_ne _ _ h1).trans hE)) rfl dX1_join_22 ?_
  refine kv_iconst (v := 1) X dX1_join_25 (by decide) ?_
  refine kv_iadd X dX1_join_26 ?_
  refine kv_topi (nI (n + 1)) (nI_add n 1) ?_
  refine kv_putfield X fp_X1_join_18 (κ := κ) (fs := [.ref (ad κ1), .ref (ad κ2), .int (nI n)]) hκ ((va_up_ne _ _ h2).trans ((va_up_ne _ _ h1).trans hE)) rfl rfl (Nat.le_of_ble_eq_true rfl) dX1_join_27 ?_
  exact kv_return X hr (Nat.le_of_ble_eq_true rfl) (Nat.le_of_ble_eq_true rfl) ⟨(), trivial, rfl⟩ dX1_join_30
theorem f_X3_dropLastComponent_10 : kF wsX3_dropLastComponent RX3 10 6 1 := ⟨_, RX3, TX3, 2, fun _ h => (List.mem_cons_of_mem _ (List.mem_append_left _ (List.mem_append_right _ h))), (List.mem_cons_of_mem _ (List.mem_append_left _ (List.mem_append_left _ (List.mem_append_left _ (List.mem_of_getElem? (i := 0) rfl))))), rfl, by decide, rfl⟩
set_option maxRecDepth 100000 in
set_option maxHeartbeats 4000000 in
theorem c_X3_dropLastComponent (l : Launch) (dd : kDD) (ks : List Nat) (ad : Nat → Nat) (E : Nat → va_E) (κ lk ak n : Nat) (t : Int32) (ek : Nat → Nat) (ci : Nat) (hκ : κ ∈ ks) (hE : E κ = .inr (6, [.int t, .ref (ad lk)])) (hL : kLs dd ks ad E lk ak n ek ci) : kCv l yX3_dropLastComponent wsX3_dropLastComponent ({ frames := 3, cells := 0, slots := 0, locals := 106 } : Room) 0 0 dd [.ref (ad κ)] (ks, ad, E) (kQv (S := kT) (fun z => (n = 0 ∧ z.1 = ks ∧ z.2.1 = ad ∧ z.2.2 = E) ∨ (0 < n ∧ z.1 = ks ∧ z.2.1 = ad ∧ ∃ mc, kGw ks ad E dd lk ak (n - 1) (n - 1) (n - 1) mc (fun j => some (ad (ek (if j < n - 1 then j else j + 1)))) z)) (fun z => z.1) (fun z => z.2.1) (fun z => z.2.2)) := by
  refine kMetv (ws' := _) (cc := cX3_dropLastComponent) (maxL := 1) (by decide) rfl (Nat.le_of_ble_eq_true rfl) (fun g X hr hnL hRR hl0 hkn => ?_)
  show kv dd g 0 0 0 [(0, .ref (ad κ))] [] ks ad E
  have hn60 := hL.2.2.2.1
  refine kv_aload_n X 0 dX3_dropLastComponent_0 rfl rfl ?_
  refine kv_getfield X f_X3_dropLastComponent_10 (κ := κ) (fs := [.int t, .ref (ad lk)]) (v := .ref (ad lk)) hκ hE rfl dX3_dropLastComponent_1 ?_
  obtain ⟨_, _, o4⟩ := kLs_obj hL
  refine kv_calliV (ci := 2) (κ := lk) (r1 := (TJx4a65c, 3)) (As := []) [] X (c_Jx4a65c_isEmpty_aae02 l dd ks ad E lk ak n ek ci hL) hl0 (kCV_of X 0 gX3_dropLastComponent_Jx4a65c_isEmpty_aae02 rfl rfl rfl (by decide +kernel) hRR ⟨(Nat.le_of_ble_eq_true rfl), (Nat.le_of_ble_eq_true rfl)⟩) hL.1 o4 rfl rfl rfl (Nat.le_of_ble_eq_true rfl) hRR ⟨(Nat.le_of_ble_eq_true rfl), (Nat.le_of_ble_eq_true rfl)⟩ dX3_dropLastComponent_4 (fun r z hp => ?_)
  obtain ⟨hp0, rfl⟩ | ⟨hp0, rfl⟩ := hp
  ·
    refine kv_if_ne (tgt := 27) X dX3_dropLastComponent_7 (by decide) (fun hc7 => ?_) (fun hc => absurd hc (by decide))
    exact kv_return X hr (Nat.le_of_ble_eq_true rfl) (Nat.le_of_ble_eq_true rfl) ⟨(ks, ad, E), Or.inl ⟨hp0, rfl, rfl, rfl⟩, rfl⟩ dX3_dropLastComponent_27
  ·
    refine kv_if_ne (tgt := 27) X dX3_dropLastComponent_7 (by decide) (fun hc => absurd hc (by decide)) (fun hc7 => ?_)
    refine kv_aload_n X 0 dX3_dropLastComponent_10 rfl rfl ?_
    refine kv_getfield X f_X3_dropLastComponent_10 (κ := κ) (fs := [.int t, .ref (ad lk)]) (v := .ref (ad lk)) hκ hE rfl dX3_dropLastComponent_11 ?_
    refine kv_aload_n X 0 dX3_dropLastComponent_14 rfl rfl ?_
    refine kv_getfield X f_X3_dropLastComponent_10 (κ := κ) (fs := [.int t, .ref (ad lk)]) (v := .ref (ad lk)) hκ hE rfl dX3_dropLastComponent_15 ?_
    obtain ⟨_, _, o18⟩ := kLs_obj hL
    refine kv_calliV (ci := 2) (κ := lk) (r1 := (TJx4a65c, 3)) (As := []) [.ref (ad lk)] X (c_Jx4a65c_size_8abf5 l dd ks ad E lk ak n ek ci hL) hl0 (kCV_of X 0 gX3_dropLastComponent_Jx4a65c_size_8abf5 rfl rfl rfl (by decide +kernel) hRR ⟨(Nat.le_of_ble_eq_true rfl), (Nat.le_of_ble_eq_true rfl)⟩) hL.1 o18 rfl rfl rfl (Nat.le_of_ble_eq_true rfl) hRR ⟨(Nat.le_of_ble_eq_true rfl), (Nat.le_of_ble_eq_true rfl)⟩ dX3_dropLastComponent_18 (fun r z hp => ?_)
    obtain rfl := hp
    refine kv_iconst (v := 1) X dX3_dropLastComponent_21 (by decide) ?_
    refine kv_isub X dX3_dropLastComponent_22 ?_
    refine kv_topi (nI (n - 1)) (pk_sub (b := 1) (by omega)) ?_
    obtain ⟨_, _, o23⟩ := kLs_obj hL
    refine kv_callqV (ci := 2) (κ := lk) (r1 := (TJx4a65c, 3)) (As := [.int (nI (n - 1))]) [] X (c_Jx4a65c_remove_915e3 l dd ks ad E lk ak n ek ci (n - 1) hL (by omega)) hl0 (kCV_of X 1 gX3_dropLastComponent_Jx4a65c_remove_915e3 rfl rfl rfl (by decide +kernel) hRR ⟨(Nat.le_of_ble_eq_true rfl), (Nat.le_of_ble_eq_true rfl)⟩) hL.1 o23 rfl rfl rfl (Nat.le_of_ble_eq_true rfl) hRR ⟨(Nat.le_of_ble_eq_true rfl), (Nat.le_of_ble_eq_true rfl)⟩ dX3_dropLastComponent_23 (fun r z hp => ?_)
    obtain ⟨rfl, hg, hz1, hz2⟩ := hp
    refine kv_pop X dX3_dropLastComponent_26 rfl ?_
    exact kv_return X hr (Nat.le_of_ble_eq_true rfl) (Nat.le_of_ble_eq_true rfl) ⟨z, Or.inr ⟨by omega, hz1, hz2, hg⟩, rfl⟩ dX3_dropLastComponent_27

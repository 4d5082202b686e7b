theorem tb_IAE : ∀ w ∈ (vx_atS RX10 212 "java/lang/IllegalArgumentException" ["java/lang/RuntimeException", "java/lang/Exception"]).filter (fun w => !goodWord w), w ∈ kBad := by decide +kernel
theorem tg_IAE : ∀ w ∈ Cond.classLink RX10 208 "java/lang/IllegalArgumentException" :: Cond.initialized "java/lang/IllegalArgumentException" :: vx_atS RX10 212 "java/lang/IllegalArgumentException" ["java/lang/RuntimeException", "java/lang/Exception"], vx_ot w = true := by decide +kernel
theorem tf_IAE : Bundle.fit "java/lang/IllegalArgumentException" = true := by decide +kernel

theorem tb_UOE : ∀ w ∈ (vx_atS RX10 86 "java/lang/UnsupportedOperationException" ["java/lang/RuntimeException", "java/lang/Exception"]).filter (fun w => !goodWord w), w ∈ kBad := by decide +kernel
theorem tg_UOE : ∀ w ∈ Cond.classLink RX10 82 "java/lang/UnsupportedOperationException" :: Cond.initialized "java/lang/UnsupportedOperationException" :: vx_atS RX10 86 "java/lang/UnsupportedOperationException" ["java/lang/RuntimeException", "java/lang/Exception"], vx_ot w = true := by decide +kernel
theorem tf_UOE : Bundle.fit "java/lang/UnsupportedOperationException" = true := by decide +kernel

theorem tb_ISE : ∀ w ∈ (vx_atS RX10 97 "java/lang/IllegalStateException" ["java/lang/RuntimeException", "java/lang/Exception"]).filter (fun w => !goodWord w), w ∈ kBad := by decide +kernel
theorem tg_ISE : ∀ w ∈ Cond.classLink RX10 93 "java/lang/IllegalStateException" :: Cond.initialized "java/lang/IllegalStateException" :: vx_atS RX10 97 "java/lang/IllegalStateException" ["java/lang/RuntimeException", "java/lang/Exception"], vx_ot w = true := by decide +kernel
theorem tf_ISE : Bundle.fit "java/lang/IllegalStateException" = true := by decide +kernel


theorem tb_AE : ∀ w ∈ (vx_atS RX10 319 "java/lang/ArithmeticException" ["java/lang/RuntimeException", "java/lang/Exception"]).filter (fun w => !goodWord w), w ∈ kBad := by decide +kernel
theorem tg_AE : ∀ w ∈ Cond.classLink RX10 315 "java/lang/ArithmeticException" :: Cond.initialized "java/lang/ArithmeticException" :: vx_atS RX10 319 "java/lang/ArithmeticException" ["java/lang/RuntimeException", "java/lang/Exception"], vx_ot w = true := by decide +kernel
theorem tf_AE : Bundle.fit "java/lang/ArithmeticException" = true := by decide +kernel

theorem tb_IOOBE : ∀ w ∈ (vx_atS RX10 327 "java/lang/IndexOutOfBoundsException" ["java/lang/RuntimeException", "java/lang/Exception"]).filter (fun w => !goodWord w), w ∈ kBad := by decide +kernel
theorem tg_IOOBE : ∀ w ∈ Cond.classLink RX10 323 "java/lang/IndexOutOfBoundsException" :: Cond.initialized "java/lang/IndexOutOfBoundsException" :: vx_atS RX10 327 "java/lang/IndexOutOfBoundsException" ["java/lang/RuntimeException", "java/lang/Exception"], vx_ot w = true := by decide +kernel
theorem tf_IOOBE : Bundle.fit "java/lang/IndexOutOfBoundsException" = true := by decide +kernel




















set_option maxRecDepth 100000 in
set_option maxHeartbeats 4000000 in
theorem c_X10_checkRange (l : Launch) (dd : kDD) (ks : List Nat) (ad : Nat → Nat) (E : Nat → va_E) (v lo hi : Int32) : kCvX l yX10_checkRange wsX10_checkRange ({ frames := 6, cells := 1, slots := 6, locals := 100 } : Room) 1 6 dd [.int v, .int lo, .int hi] (ks, ad, E) (kQv (S := Unit) (fun z => lo ≤ v ∧ v ≤ hi) (fun _ => ks) (fun _ => ad) (fun _ => E)) (fun X9 u9 => X9 = "java/lang/IllegalArgumentException" ∧ u9 = (ks, ad, E) ∧ ¬ (lo ≤ v ∧ v ≤ hi)) := by
  refine kMetvX (ws' := _) (cc := cX10_checkRange) (maxL := 3) (by decide) rfl (Nat.le_of_ble_eq_true rfl) (fun g X hr hRX hnL hRR hl0 hkn => ?_)
  show kv dd g 0 0 0 [(0, .int v), (1, .int lo), (2, .int hi)] [] ks ad E
  refine kv_iload_n X 0 dX10_checkRange_0 rfl rfl ?_
  refine kv_iload_n X 1 dX10_checkRange_1 rfl rfl ?_
  refine kv_icmp_lt (tgt := 10) X dX10_checkRange_2 (by decide) (fun hc2 => ?_) (fun hc2 => ?_)
  ·
    exact kv_throwW (cls := "java/lang/IllegalArgumentException") (text := "a number is out of range") (names := ["java/lang/RuntimeException", "java/lang/Exception"]) (ik := 208) (is := 346) (ic := 212) X hRX tf_IAE (by decide) (List.mem_cons_of_mem _ (List.mem_append_left _ (List.mem_of_getElem? (i := 0) rfl))) (List.mem_cons_of_mem _ (List.mem_append_left _ (List.mem_of_getElem? (i := 1) rfl))) (by decide +kernel) (fun _ h => (List.mem_cons_of_mem _ (List.mem_append_right _ h))) tb_IAE tg_IAE dX10_checkRange_10 dX10_checkRange_13 dX10_checkRange_14 dX10_checkRange_17 dX10_checkRange_20 hRR (Nat.le_of_ble_eq_true rfl) ⟨(Nat.le_of_ble_eq_true rfl), (Nat.le_of_ble_eq_true rfl), (Nat.le_of_ble_eq_true rfl), (Nat.le_of_ble_eq_true rfl)⟩ (Nat.le_of_ble_eq_true rfl) (Nat.le_of_ble_eq_true rfl) ⟨rfl, rfl, (fun q => by first | exact hc7 q.2 | exact hc2 q.1 | exact absurd hc2 (Int32.not_lt.mpr q.1))⟩
  ·
    refine kv_iload_n X 0 dX10_checkRange_5 rfl rfl ?_
    refine kv_iload_n X 2 dX10_checkRange_6 rfl rfl ?_
    refine kv_icmp_le (tgt := 21) X dX10_checkRange_7 (by decide) (fun hc7 => ?_) (fun hc7 => ?_)
    ·
      exact kv_return X hr (Nat.le_of_ble_eq_true rfl) (Nat.le_of_ble_eq_true rfl) ⟨(), ⟨Int32.not_lt.mp hc2, hc7⟩, rfl⟩ dX10_checkRange_21
    ·
      exact kv_throwW (cls := "java/lang/IllegalArgumentException") (text := "a number is out of range") (names := ["java/lang/RuntimeException", "java/lang/Exception"]) (ik := 208) (is := 346) (ic := 212) X hRX tf_IAE (by decide) (List.mem_cons_of_mem _ (List.mem_append_left _ (List.mem_of_getElem? (i := 0) rfl))) (List.mem_cons_of_mem _ (List.mem_append_left _ (List.mem_of_getElem? (i := 1) rfl))) (by decide +kernel) (fun _ h => (List.mem_cons_of_mem _ (List.mem_append_right _ h))) tb_IAE tg_IAE dX10_checkRange_10 dX10_checkRange_13 dX10_checkRange_14 dX10_checkRange_17 dX10_checkRange_20 hRR (Nat.le_of_ble_eq_true rfl) ⟨(Nat.le_of_ble_eq_true rfl), (Nat.le_of_ble_eq_true rfl), (Nat.le_of_ble_eq_true rfl), (Nat.le_of_ble_eq_true rfl)⟩ (Nat.le_of_ble_eq_true rfl) (Nat.le_of_ble_eq_true rfl) ⟨rfl, rfl, (fun q => by first | exact hc7 q.2 | exact hc2 q.1 | exact absurd hc2 (Int32.not_lt.mpr q.1))⟩

set_option maxRecDepth 100000 in
set_option maxHeartbeats 4000000 in
theorem c_X10_checkRoom (l : Launch) (dd : kDD) (ks : List Nat) (ad : Nat → Nat) (E : Nat → va_E) (n N : Nat) (hn : n < 100) (hN : N < 100) : kCvX l yX10_checkRoom wsX10_checkRoom ({ frames := 6, cells := 1, slots := 6, locals := 100 } : Room) 1 6 dd [.int (nI n), .int (nI N)] (ks, ad, E) (kQv (S := Unit) (fun z => n < N) (fun _ => ks) (fun _ => ad) (fun _ => E)) (fun X9 u9 => X9 = "java/lang/IllegalStateException" ∧ u9 = (ks, ad, E) ∧ ¬ (n < N)) := by
  refine kMetvX (ws' := _) (cc := cX10_checkRoom) (maxL := 2) (by decide) rfl (Nat.le_of_ble_eq_true rfl) (fun g X hr hRX hnL hRR hl0 hkn => ?_)
  show kv dd g 0 0 0 [(0, .int (nI n)), (1, .int (nI N))] [] ks ad E
  refine kv_iload_n X 0 dX10_checkRoom_0 rfl rfl ?_
  refine kv_iload_n X 1 dX10_checkRoom_1 rfl rfl ?_
  refine kn_icmp_lt (x := n) (y := N) (tgt := 16) X (by omega) (by omega) dX10_checkRoom_2 (by decide) (fun hc2 => ?_) (fun hc2 => ?_)
  ·
    exact kv_return X hr (Nat.le_of_ble_eq_true rfl) (Nat.le_of_ble_eq_true rfl) ⟨(), hc2, rfl⟩ dX10_checkRoom_16
  ·
    exact kv_throwW (cls := "java/lang/IllegalStateException") (text := "there is no room for one more") (names := ["java/lang/RuntimeException", "java/lang/Exception"]) (ik := 93) (is := 348) (ic := 97) X hRX tf_ISE (by decide) (List.mem_cons_of_mem _ (List.mem_append_left _ (List.mem_of_getElem? (i := 0) rfl))) (List.mem_cons_of_mem _ (List.mem_append_left _ (List.mem_of_getElem? (i := 1) rfl))) (by decide +kernel) (fun _ h => (List.mem_cons_of_mem _ (List.mem_append_right _ h))) tb_ISE tg_ISE dX10_checkRoom_5 dX10_checkRoom_8 dX10_checkRoom_9 dX10_checkRoom_12 dX10_checkRoom_15 hRR (Nat.le_of_ble_eq_true rfl) ⟨(Nat.le_of_ble_eq_true rfl), (Nat.le_of_ble_eq_true rfl), (Nat.le_of_ble_eq_true rfl), (Nat.le_of_ble_eq_true rfl)⟩ (Nat.le_of_ble_eq_true rfl) (Nat.le_of_ble_eq_true rfl) ⟨rfl, rfl, (by omega)⟩

set_option maxRecDepth 100000 in
set_option maxHeartbeats 4000000 in
theorem c_X10_checkKind (l : Launch) (dd : kDD) (ks : List Nat) (ad : Nat → Nat) (E : Nat → va_E) (v : Int32) : kCvX l yX10_checkKind wsX10_checkKind ({ frames := 6, cells := 1, slots := 6, locals := 100 } : Room) 1 6 dd [.int v] (ks, ad, E) (kQv (S := Unit) (fun z => v = 0 ∨ v = 1 ∨ v = 2) (fun _ => ks) (fun _ => ad) (fun _ => E)) (fun X9 u9 => X9 = "java/lang/IllegalArgumentException" ∧ u9 = (ks, ad, E) ∧ ¬ (v = 0 ∨ v = 1 ∨ v = 2)) := by
  refine kMetvX (ws' := _) (cc := cX10_checkKind) (maxL := 1) (by decide) rfl (Nat.le_of_ble_eq_true rfl) (fun g X hr hRX hnL hRR hl0 hkn => ?_)
  show kv dd g 0 0 0 [(0, .int v)] [] ks ad E
  refine kv_iload_n X 0 dX10_checkKind_0 rfl rfl ?_
  refine kv_if_eq (tgt := 25) X dX10_checkKind_1 (by decide) (fun hc1 => ?_) (fun hc1 => ?_)
  ·
    exact kv_return X hr (Nat.le_of_ble_eq_true rfl) (Nat.le_of_ble_eq_true rfl) ⟨(), by first | exact Or.inl hc1 | exact Or.inr (Or.inl hc6) | exact Or.inr (Or.inr hc11), rfl⟩ dX10_checkKind_25
  ·
    refine kv_iload_n X 0 dX10_checkKind_4 rfl rfl ?_
    refine kv_iconst (v := 1) X dX10_checkKind_5 (by decide) ?_
    refine kv_icmp_eq (tgt := 25) X dX10_checkKind_6 (by decide) (fun hc6 => ?_) (fun hc6 => ?_)
    ·
      exact kv_return X hr (Nat.le_of_ble_eq_true rfl) (Nat.le_of_ble_eq_true rfl) ⟨(), by first | exact Or.inl hc1 | exact Or.inr (Or.inl hc6) | exact Or.inr (Or.inr hc11), rfl⟩ dX10_checkKind_25
    ·
      refine kv_iload_n X 0 dX10_checkKind_9 rfl rfl ?_
      refine kv_iconst (v := 2) X dX10_checkKind_10 (by decide) ?_
      refine kv_icmp_eq (tgt := 25) X dX10_checkKind_11 (by decide) (fun hc11 => ?_) (fun hc11 => ?_)
      ·
        exact kv_return X hr (Nat.le_of_ble_eq_true rfl) (Nat.le_of_ble_eq_true rfl) ⟨(), by first | exact Or.inl hc1 | exact Or.inr (Or.inl hc6) | exact Or.inr (Or.inr hc11), rfl⟩ dX10_checkKind_25
      ·
        exact kv_throwW (cls := "java/lang/IllegalArgumentException") (text := "there is no such kind") (names := ["java/lang/RuntimeException", "java/lang/Exception"]) (ik := 208) (is := 340) (ic := 212) X hRX tf_IAE (by decide) (List.mem_cons_of_mem _ (List.mem_append_left _ (List.mem_of_getElem? (i := 0) rfl))) (List.mem_cons_of_mem _ (List.mem_append_left _ (List.mem_of_getElem? (i := 1) rfl))) (by decide +kernel) (fun _ h => (List.mem_cons_of_mem _ (List.mem_append_right _ h))) tb_IAE tg_IAE dX10_checkKind_14 dX10_checkKind_17 dX10_checkKind_18 dX10_checkKind_21 dX10_checkKind_24 hRR (Nat.le_of_ble_eq_true rfl) ⟨(Nat.le_of_ble_eq_true rfl), (Nat.le_of_ble_eq_true rfl), (Nat.le_of_ble_eq_true rfl), (Nat.le_of_ble_eq_true rfl)⟩ (Nat.le_of_ble_eq_true rfl) (Nat.le_of_ble_eq_true rfl) ⟨rfl, rfl, (fun q => by rcases q with q | q | q; exact hc1 q; exact hc6 q; exact hc11 q)⟩

set_option maxRecDepth 100000 in
set_option maxHeartbeats 4000000 in
theorem c_X10_checkShape (l : Launch) (dd : kDD) (ks : List Nat) (ad : Nat → Nat) (E : Nat → va_E) (s : Int32) : kCvX l yX10_checkShape wsX10_checkShape ({ frames := 6, cells := 1, slots := 6, locals := 100 } : Room) 1 6 dd [.int s] (ks, ad, E) (kQv (S := Unit) (fun z => s = 110 ∨ s = 108 ∨ s = 114 ∨ s = 116 ∨ s = 112 ∨ s = 118) (fun _ => ks) (fun _ => ad) (fun _ => E)) (fun X9 u9 => X9 = "java/lang/IllegalArgumentException" ∧ u9 = (ks, ad, E) ∧ ¬ (s = 110 ∨ s = 108 ∨ s = 114 ∨ s = 116 ∨ s = 112 ∨ s = 118)) := by
  refine kMetvX (ws' := _) (cc := cX10_checkShape) (maxL := 1) (by decide) rfl (Nat.le_of_ble_eq_true rfl) (fun g X hr hRX hnL hRR hl0 hkn => ?_)
  show kv dd g 0 0 0 [(0, .int s)] [] ks ad E
  refine kv_iload_n X 0 dX10_checkShape_0 rfl rfl ?_
  refine kv_bipush (v := 110) X dX10_checkShape_1 (by decide) ?_
  refine kv_icmp_eq (tgt := 47) X dX10_checkShape_3 (by decide) (fun hc3 => ?_) (fun hc3 => ?_)
  ·
    exact kv_return X hr (Nat.le_of_ble_eq_true rfl) (Nat.le_of_ble_eq_true rfl) ⟨(), by first | exact Or.inl hc3 | exact Or.inr (Or.inl hc9) | exact Or.inr (Or.inr (Or.inl hc15)) | exact Or.inr (Or.inr (Or.inr (Or.inl hc21))) | exact Or.inr (Or.inr (Or.inr (Or.inr (Or.inl hc27)))) | exact Or.inr (Or.inr (Or.inr (Or.inr (Or.inr hc33)))), rfl⟩ dX10_checkShape_47
  ·
    refine kv_iload_n X 0 dX10_checkShape_6 rfl rfl ?_
    refine kv_bipush (v := 108) X dX10_checkShape_7 (by decide) ?_
    refine kv_icmp_eq (tgt := 47) X dX10_checkShape_9 (by decide) (fun hc9 => ?_) (fun hc9 => ?_)
    ·
      exact kv_return X hr (Nat.le_of_ble_eq_true rfl) (Nat.le_of_ble_eq_true rfl) ⟨(), by first | exact Or.inl hc3 | exact Or.inr (Or.inl hc9) | exact Or.inr (Or.inr (Or.inl hc15)) | exact Or.inr (Or.inr (Or.inr (Or.inl hc21))) | exact Or.inr (Or.inr (Or.inr (Or.inr (Or.inl hc27)))) | exact Or.inr (Or.inr (Or.inr (Or.inr (Or.inr hc33)))), rfl⟩ dX10_checkShape_47
    ·
      refine kv_iload_n X 0 dX10_checkShape_12 rfl rfl ?_
      refine kv_bipush (v := 114) X dX10_checkShape_13 (by decide) ?_
      refine kv_icmp_eq (tgt := 47) X dX10_checkShape_15 (by decide) (fun hc15 => ?_) (fun hc15 => ?_)
      ·
        exact kv_return X hr (Nat.le_of_ble_eq_true rfl) (Nat.le_of_ble_eq_true rfl) ⟨(), by first | exact Or.inl hc3 | exact Or.inr (Or.inl hc9) | exact Or.inr (Or.inr (Or.inl hc15)) | exact Or.inr (Or.inr (Or.inr (Or.inl hc21))) | exact Or.inr (Or.inr (Or.inr (Or.inr (Or.inl hc27)))) | exact Or.inr (Or.inr (Or.inr (Or.inr (Or.inr hc33)))), rfl⟩ dX10_checkShape_47
      ·
        refine kv_iload_n X 0 dX10_checkShape_18 rfl rfl ?_
        refine kv_bipush (v := 116) X dX10_checkShape_19 (by decide) ?_
        refine kv_icmp_eq (tgt := 47) X dX10_checkShape_21 (by decide) (fun hc21 => ?_) (fun hc21 => ?_)
        ·
          exact kv_return X hr (Nat.le_of_ble_eq_true rfl) (Nat.le_of_ble_eq_true rfl) ⟨(), by first | exact Or.inl hc3 | exact Or.inr (Or.inl hc9) | exact Or.inr (Or.inr (Or.inl hc15)) | exact Or.inr (Or.inr (Or.inr (Or.inl hc21))) | exact Or.inr (Or.inr (Or.inr (Or.inr (Or.inl hc27)))) | exact Or.inr (Or.inr (Or.inr (Or.inr (Or.inr hc33)))), rfl⟩ dX10_checkShape_47
        ·
          refine kv_iload_n X 0 dX10_checkShape_24 rfl rfl ?_
          refine kv_bipush (v := 112) X dX10_checkShape_25 (by decide) ?_
          refine kv_icmp_eq (tgt := 47) X dX10_checkShape_27 (by decide) (fun hc27 => ?_) (fun hc27 => ?_)
          ·
            exact kv_return X hr (Nat.le_of_ble_eq_true rfl) (Nat.le_of_ble_eq_true rfl) ⟨(), by first | exact Or.inl hc3 | exact Or.inr (Or.inl hc9) | exact Or.inr (Or.inr (Or.inl hc15)) | exact Or.inr (Or.inr (Or.inr (Or.inl hc21))) | exact Or.inr (Or.inr (Or.inr (Or.inr (Or.inl hc27)))) | exact Or.inr (Or.inr (Or.inr (Or.inr (Or.inr hc33)))), rfl⟩ dX10_checkShape_47
          ·
            refine kv_iload_n X 0 dX10_checkShape_30 rfl rfl ?_
            refine kv_bipush (v := 118) X dX10_checkShape_31 (by decide) ?_
            refine kv_icmp_eq (tgt := 47) X dX10_checkShape_33 (by decide) (fun hc33 => ?_) (fun hc33 => ?_)
            ·
              exact kv_return X hr (Nat.le_of_ble_eq_true rfl) (Nat.le_of_ble_eq_true rfl) ⟨(), by first | exact Or.inl hc3 | exact Or.inr (Or.inl hc9) | exact Or.inr (Or.inr (Or.inl hc15)) | exact Or.inr (Or.inr (Or.inr (Or.inl hc21))) | exact Or.inr (Or.inr (Or.inr (Or.inr (Or.inl hc27)))) | exact Or.inr (Or.inr (Or.inr (Or.inr (Or.inr hc33)))), rfl⟩ dX10_checkShape_47
            ·
              exact kv_throwW (cls := "java/lang/IllegalArgumentException") (text := "there is no such shape") (names := ["java/lang/RuntimeException", "java/lang/Exception"]) (ik := 208) (is := 342) (ic := 212) X hRX tf_IAE (by decide) (List.mem_cons_of_mem _ (List.mem_append_left _ (List.mem_of_getElem? (i := 0) rfl))) (List.mem_cons_of_mem _ (List.mem_append_left _ (List.mem_of_getElem? (i := 1) rfl))) (by decide +kernel) (fun _ h => (List.mem_cons_of_mem _ (List.mem_append_right _ h))) tb_IAE tg_IAE dX10_checkShape_36 dX10_checkShape_39 dX10_checkShape_40 dX10_checkShape_43 dX10_checkShape_46 hRR (Nat.le_of_ble_eq_true rfl) ⟨(Nat.le_of_ble_eq_true rfl), (Nat.le_of_ble_eq_true rfl), (Nat.le_of_ble_eq_true rfl), (Nat.le_of_ble_eq_true rfl)⟩ (Nat.le_of_ble_eq_true rfl) (Nat.le_of_ble_eq_true rfl) ⟨rfl, rfl, (fun q => by rcases q with q | q | q | q | q | q; exact hc3 q; exact hc9 q; exact hc15 q; exact hc21 q; exact hc27 q; exact hc33 q)⟩

set_option maxRecDepth 100000 in
set_option maxHeartbeats 4000000 in
theorem c_X10_checkDivisor (l : Launch) (dd : kDD) (ks : List Nat) (ad : Nat → Nat) (E : Nat → va_E) (x : Int64) : kCvX l yX10_checkDivisor wsX10_checkDivisor ({ frames := 6, cells := 1, slots := 6, locals := 100 } : Room) 1 6 dd [.long x] (ks, ad, E) (kQv (S := Unit) (fun z => ¬ x = 0) (fun _ => ks) (fun _ => ad) (fun _ => E)) (fun X9 u9 => X9 = "java/lang/ArithmeticException" ∧ u9 = (ks, ad, E) ∧ ¬ (¬ x = 0)) := by
  refine kMetvX (ws' := _) (cc := cX10_checkDivisor) (maxL := 2) (by decide) rfl (Nat.le_of_ble_eq_true rfl) (fun g X hr hRX hnL hRR hl0 hkn => ?_)
  show kv dd g 0 0 0 [(0, .long x)] [] ks ad E
  refine kv_lload_n X 0 dX10_checkDivisor_0 rfl rfl ?_
  refine kv_lconst (v := 0) X dX10_checkDivisor_1 (by decide) ?_
  refine kv_lcmp X dX10_checkDivisor_2 ?_
  refine kv_if_ne (tgt := 17) X dX10_checkDivisor_3 (by decide) (fun hc3 => ?_) (fun hc3 => ?_)
  ·
    exact kv_return X hr (Nat.le_of_ble_eq_true rfl) (Nat.le_of_ble_eq_true rfl) ⟨(), fun q => hc3 ((lg_cmp_eq _ _).mpr q), rfl⟩ dX10_checkDivisor_17
  ·
    exact kv_throwW (cls := "java/lang/ArithmeticException") (text := "the net cost is 0") (names := ["java/lang/RuntimeException", "java/lang/Exception"]) (ik := 315) (is := 352) (ic := 319) X hRX tf_AE (by decide) (List.mem_cons_of_mem _ (List.mem_append_left _ (List.mem_of_getElem? (i := 0) rfl))) (List.mem_cons_of_mem _ (List.mem_append_left _ (List.mem_of_getElem? (i := 1) rfl))) (by decide +kernel) (fun _ h => (List.mem_cons_of_mem _ (List.mem_append_right _ h))) tb_AE tg_AE dX10_checkDivisor_6 dX10_checkDivisor_9 dX10_checkDivisor_10 dX10_checkDivisor_13 dX10_checkDivisor_16 hRR (Nat.le_of_ble_eq_true rfl) ⟨(Nat.le_of_ble_eq_true rfl), (Nat.le_of_ble_eq_true rfl), (Nat.le_of_ble_eq_true rfl), (Nat.le_of_ble_eq_true rfl)⟩ (Nat.le_of_ble_eq_true rfl) (Nat.le_of_ble_eq_true rfl) ⟨rfl, rfl, (fun q => q ((lg_cmp_eq _ _).mp hc3))⟩

set_option maxRecDepth 100000 in
set_option maxHeartbeats 4000000 in
theorem c_X10_checkTimes (l : Launch) (dd : kDD) (ks : List Nat) (ad : Nat → Nat) (E : Nat → va_E) (v : Int32) : kCvX l yX10_checkTimes wsX10_checkTimes ({ frames := 7, cells := 2, slots := 12, locals := 122 } : Room) 2 12 dd [.int v] (ks, ad, E) (kQv (S := Unit) (fun z => (-9 ≤ v ∧ v ≤ 99) ∧ ¬ v = 0) (fun _ => ks) (fun _ => ad) (fun _ => E)) (fun X9 u9 => X9 = "java/lang/IllegalArgumentException" ∧ u9 = (ks, ad, E) ∧ ¬ ((-9 ≤ v ∧ v ≤ 99) ∧ ¬ v = 0)) := by
  refine kMetvX (ws' := _) (cc := cX10_checkTimes) (maxL := 1) (by decide) rfl (Nat.le_of_ble_eq_true rfl) (fun g X hr hRX hnL hRR hl0 hkn => ?_)
  show kv dd g 0 0 0 [(0, .int v)] [] ks ad E
  refine kv_iload_n X 0 dX10_checkTimes_0 rfl rfl ?_
  refine kv_bipush (v := (-9)) X dX10_checkTimes_1 (by decide) ?_
  refine kv_bipush (v := 99) X dX10_checkTimes_3 (by decide) ?_
  refine kv_callvXS (As := [.int v, .int (-9), .int 99]) [] X (c_X10_checkRange l dd ks ad E v (-9) 99) hl0 (kCS_of X 3 gX10_checkTimes_X10_checkRange rfl rfl rfl (by decide +kernel) hRR ⟨(Nat.le_of_ble_eq_true rfl), (Nat.le_of_ble_eq_true rfl)⟩) hRX ⟨(Nat.le_of_ble_eq_true rfl), (Nat.le_of_ble_eq_true rfl)⟩ (fun _ _ h => ⟨h.1, h.2.1, fun q => h.2.2 q.1⟩) rfl rfl (Nat.le_of_ble_eq_true rfl) hRR ⟨(Nat.le_of_ble_eq_true rfl), (Nat.le_of_ble_eq_true rfl)⟩ dX10_checkTimes_5 (fun z hp => ?_)
  have h5 := hp
  refine kv_iload_n X 0 dX10_checkTimes_8 rfl rfl ?_
  refine kv_if_ne (tgt := 23) X dX10_checkTimes_9 (by decide) (fun hc9 => ?_) (fun hc9 => ?_)
  ·
    exact kv_return X hr (Nat.le_of_ble_eq_true rfl) (Nat.le_of_ble_eq_true rfl) ⟨(), ⟨h5, hc9⟩, rfl⟩ dX10_checkTimes_23
  ·
    exact kv_throwW (cls := "java/lang/IllegalArgumentException") (text := "the times are 0") (names := ["java/lang/RuntimeException", "java/lang/Exception"]) (ik := 208) (is := 344) (ic := 212) X hRX tf_IAE (by decide) (List.mem_cons_of_mem _ (List.mem_append_left _ (List.mem_of_getElem? (i := 0) rfl))) (List.mem_cons_of_mem _ (List.mem_append_left _ (List.mem_of_getElem? (i := 1) rfl))) (by decide +kernel) (fun _ h => (List.mem_cons_of_mem _ (List.mem_append_right _ h))) tb_IAE tg_IAE dX10_checkTimes_12 dX10_checkTimes_15 dX10_checkTimes_16 dX10_checkTimes_19 dX10_checkTimes_22 hRR (Nat.le_of_ble_eq_true rfl) ⟨(Nat.le_of_ble_eq_true rfl), (Nat.le_of_ble_eq_true rfl), (Nat.le_of_ble_eq_true rfl), (Nat.le_of_ble_eq_true rfl)⟩ (Nat.le_of_ble_eq_true rfl) (Nat.le_of_ble_eq_true rfl) ⟨rfl, rfl, fun q => q.2 hc9⟩

set_option maxRecDepth 100000 in
set_option maxHeartbeats 4000000 in
theorem c_X10_isNumberOf (l : Launch) (dd : kDD) (ks : List Nat) (ad : Nat → Nat) (E : Nat → va_E) (v : Int32) (n : Nat) (hn : n < 100) : kCi l yX10_isNumberOf wsX10_isNumberOf ({ frames := 0, cells := 0, slots := 0, locals := 0 } : Room) 0 0 dd [.int v, .int (nI n)] (ks, ad, E) (kQi (S := Unit) (fun r z => (r = 1 ∧ ∃ j, j < n ∧ v = nI j) ∨ (r = 0 ∧ ¬ ∃ j, j < n ∧ v = nI j)) (fun _ => ks) (fun _ => ad) (fun _ => E)) := by
  refine kMeti (ws' := _) (cc := cX10_isNumberOf) (maxL := 2) (rt := .boolean) (by decide) rfl (Nat.le_of_ble_eq_true rfl) (fun g X hr hnL hRR hl0 hkn => ?_)
  show kv dd g 0 0 0 [(0, .int v), (1, .int (nI n))] [] ks ad E
  refine kv_iload_n X 0 dX10_isNumberOf_0 rfl rfl ?_
  refine kv_if_lt (tgt := 13) X dX10_isNumberOf_1 (by decide) (fun hc1 => ?_) (fun hc1 => ?_)
  ·
    refine kv_iconst (v := 0) X dX10_isNumberOf_13 (by decide) ?_
    exact kv_zreturn X hr rfl (Nat.le_of_ble_eq_true rfl) (Nat.le_of_ble_eq_true rfl) ⟨(), Or.inr ⟨rfl, fun ⟨j, hj, hv⟩ => by subst hv; first | exact absurd hc1 (Int32.not_lt.mpr (by rw [i_le, nI_toInt (by omega)]; show (0 : Int) ≤ _; omega)) | exact absurd ((nI_ltI (by omega) (by omega)).mpr hj) (by first | exact Int32.not_lt.mpr hc6 | exact hc6)⟩, rfl⟩ dX10_isNumberOf_14
  ·
    refine kv_iload_n X 0 dX10_isNumberOf_4 rfl rfl ?_
    refine kv_iload_n X 1 dX10_isNumberOf_5 rfl rfl ?_
    refine kv_icmp_ge (tgt := 13) X dX10_isNumberOf_6 (by decide) (fun hc6 => ?_) (fun hc6 => ?_)
    ·
      refine kv_iconst (v := 0) X dX10_isNumberOf_13 (by decide) ?_
      exact kv_zreturn X hr rfl (Nat.le_of_ble_eq_true rfl) (Nat.le_of_ble_eq_true rfl) ⟨(), Or.inr ⟨rfl, fun ⟨j, hj, hv⟩ => by subst hv; first | exact absurd hc1 (Int32.not_lt.mpr (by rw [i_le, nI_toInt (by omega)]; show (0 : Int) ≤ _; omega)) | exact absurd ((nI_ltI (by omega) (by omega)).mpr hj) (by first | exact Int32.not_lt.mpr hc6 | exact hc6)⟩, rfl⟩ dX10_isNumberOf_14
    ·
      refine kv_iconst (v := 1) X dX10_isNumberOf_9 (by decide) ?_
      refine kv_goto (tgt := 14) X dX10_isNumberOf_10 (by decide) ?_
      exact kv_zreturn X hr rfl (Nat.le_of_ble_eq_true rfl) (Nat.le_of_ble_eq_true rfl) ⟨(), Or.inl ⟨rfl, by obtain ⟨j, hj, rfl⟩ := nI_of (x := v) hc1; exact ⟨j, (nI_ltI hj (by omega)).mp (by first | exact hc6 | exact Int32.not_le.mp hc6), rfl⟩⟩, rfl⟩ dX10_isNumberOf_14
theorem f_X10_checkResource_10 : kF wsX10_checkResource RX10 10 13 0 := ⟨_, RX10, TX10, 3, fun _ h => (List.mem_cons_of_mem _ (List.mem_append_left _ (List.mem_append_left _ (List.mem_append_left _ (List.mem_append_right _ h))))), (List.mem_cons_of_mem _ (List.mem_append_left _ (List.mem_append_left _ (List.mem_append_left _ (List.mem_append_left _ (List.mem_of_getElem? (i := 2) rfl)))))), rfl, by decide, rfl⟩
theorem f_X10_checkResource_37 : kF wsX10_checkResource RX10 37 9 0 := ⟨_, RX6, TX6, 7, fun _ h => (List.mem_cons_of_mem _ (List.mem_append_left _ (List.mem_append_left _ (List.mem_append_right _ h)))), (List.mem_cons_of_mem _ (List.mem_append_left _ (List.mem_append_left _ (List.mem_append_left _ (List.mem_append_left _ (List.mem_of_getElem? (i := 3) rfl)))))), rfl, by decide, rfl⟩
set_option maxRecDepth 100000 in
set_option maxHeartbeats 4000000 in
theorem c_X10_checkResource (l : Launch) (dd : kDD) (ks : List Nat) (ad : Nat → Nat) (E : Nat → va_E) (e : eS) (M : mS) (nR nC nt nL nW nV nM : Nat) (cn nm mn me li rl : Nat → Nat) (on : Int32) (hO : cO dd ks ad E on) (hR : cR dd ks ad E M nR) (hC : cC dd ks ad E M nC mn me) (hT : cT dd ks ad E M nt cn nm) (hL : cL dd ks ad E M nL nW li) (hW : cW dd ks ad E M nW rl) (hV : cV dd ks ad E M nV) (hM : cM dd ks ad E M nM) (hB : cB M nR nC nt nL nW nV cn nm mn me li rl) (v : Int32) : kCvX l yX10_checkResource wsX10_checkResource ({ frames := 6, cells := 1, slots := 6, locals := 100 } : Room) 1 6 dd [.ref (ad 0), .int v] (ks, ad, (cE dd E e)) (kQv (S := eS) (fun z => e = z ∧ ∃ j, j < nR ∧ v = nI j) (fun _ => ks) (fun _ => ad) (fun z => cE dd E z)) (fun X9 u9 => X9 = "java/lang/IndexOutOfBoundsException" ∧ u9 = (ks, ad, cE dd E e) ∧ ¬ ∃ j, j < nR ∧ v = nI j) := by
  refine kMetvX (ws' := _) (cc := cX10_checkResource) (maxL := 2) (by decide) rfl (Nat.le_of_ble_eq_true rfl) (fun g X hr hRX hnL hRR hl0 hkn => ?_)
  show kv dd g 0 0 0 [(0, .ref (ad 0)), (1, .int v)] [] ks ad (cE dd E e)
  have hbb := hR.1
  refine kv_iload_n X 1 dX10_checkResource_0 rfl rfl ?_
  refine kv_aload_n X 0 dX10_checkResource_1 rfl rfl ?_
  refine kv_getfield X f_X10_checkResource_10 (κ := 0) (fs := [.ref (ad 1), .ref (ad 2), .int on]) (v := .ref (ad 1)) hO.1.1 ((cE_ne (by omega)).trans hO.1.2) rfl dX10_checkResource_2 ?_
  refine kv_getfield X f_X10_checkResource_37 (κ := 1) (fs := [.ref (ad 3), .ref (ad 4), .ref (ad 5), .ref (ad 6), .ref (ad 7), .ref (ad 8), .ref (ad 9)]) (v := .ref (ad 3)) hO.2.1.1 ((cE_ne (by omega)).trans hO.2.1.2) rfl dX10_checkResource_5 ?_
  obtain ⟨_, _, o8⟩ := kLs_obj (dd := dd) (ks := ks) (ad := ad) (E := (cE dd E e)) (kLs_cE hR.2.1 (by omega) (by omega) (fun i hi => by omega))
  refine kv_calliV (ci := 2) (κ := 3) (r1 := (TJx4a65c, 3)) (As := []) [.int v] X (c_Jx4a65c_size_8abf5 l dd ks ad (cE dd E e) (3) (10) (nR) (fun r => 64 + r) 10 (kLs_cE hR.2.1 (by omega) (by omega) (fun i hi => by omega))) hl0 (kCV_of X 0 gX10_checkResource_Jx4a65c_size_8abf5 rfl rfl rfl (by decide +kernel) hRR ⟨(Nat.le_of_ble_eq_true rfl), (Nat.le_of_ble_eq_true rfl)⟩) hR.2.1.1 o8 rfl rfl rfl (Nat.le_of_ble_eq_true rfl) hRR ⟨(Nat.le_of_ble_eq_true rfl), (Nat.le_of_ble_eq_true rfl)⟩ dX10_checkResource_8 (fun r z hp => ?_)
  obtain rfl := hp
  refine kv_calliS (As := [.int v, .int (nI nR)]) [] X (c_X10_isNumberOf l dd ks ad (cE dd E e) v nR (by omega)) hl0 (kCS_of X 2 gX10_checkResource_X10_isNumberOf rfl rfl rfl (by decide +kernel) hRR ⟨(Nat.le_of_ble_eq_true rfl), (Nat.le_of_ble_eq_true rfl)⟩) rfl rfl (Nat.le_of_ble_eq_true rfl) hRR ⟨(Nat.le_of_ble_eq_true rfl), (Nat.le_of_ble_eq_true rfl)⟩ dX10_checkResource_11 (fun r z hp => ?_)
  obtain ⟨rfl, j11, h11, rfl⟩ | ⟨rfl, h11⟩ := hp
  ·
    refine kv_if_ne (tgt := 28) X dX10_checkResource_14 (by decide) (fun hc14 => ?_) (fun hc => absurd hc (by decide))
    exact kv_return X hr (Nat.le_of_ble_eq_true rfl) (Nat.le_of_ble_eq_true rfl) ⟨e, ⟨rfl, j11, h11, rfl⟩, rfl⟩ dX10_checkResource_28
  ·
    refine kv_if_ne (tgt := 28) X dX10_checkResource_14 (by decide) (fun hc => absurd hc (by decide)) (fun hc14 => ?_)
    exact kv_throwW (cls := "java/lang/IndexOutOfBoundsException") (text := "there is no such resource") (names := ["java/lang/RuntimeException", "java/lang/Exception"]) (ik := 323) (is := 325) (ic := 327) X hRX tf_IOOBE (by decide) (List.mem_cons_of_mem _ (List.mem_append_left _ (List.mem_append_left _ (List.mem_append_left _ (List.mem_append_left _ (List.mem_of_getElem? (i := 0) rfl)))))) (List.mem_cons_of_mem _ (List.mem_append_left _ (List.mem_append_left _ (List.mem_append_left _ (List.mem_append_left _ (List.mem_of_getElem? (i := 1) rfl)))))) (by decide +kernel) (fun _ h => (List.mem_cons_of_mem _ (List.mem_append_right _ h))) tb_IOOBE tg_IOOBE dX10_checkResource_17 dX10_checkResource_20 dX10_checkResource_21 dX10_checkResource_24 dX10_checkResource_27 hRR (Nat.le_of_ble_eq_true rfl) ⟨(Nat.le_of_ble_eq_true rfl), (Nat.le_of_ble_eq_true rfl), (Nat.le_of_ble_eq_true rfl), (Nat.le_of_ble_eq_true rfl)⟩ (Nat.le_of_ble_eq_true rfl) (Nat.le_of_ble_eq_true rfl) ⟨rfl, rfl, h11⟩
theorem f_X10_checkCrew_10 : kF wsX10_checkCrew RX10 10 13 0 := ⟨_, RX10, TX10, 3, fun _ h => (List.mem_cons_of_mem _ (List.mem_append_left _ (List.mem_append_left _ (List.mem_append_left _ (List.mem_append_right _ h))))), (List.mem_cons_of_mem _ (List.mem_append_left _ (List.mem_append_left _ (List.mem_append_left _ (List.mem_append_left _ (List.mem_of_getElem? (i := 2) rfl)))))), rfl, by decide, rfl⟩
theorem f_X10_checkCrew_70 : kF wsX10_checkCrew RX10 70 9 1 := ⟨_, RX6, TX6, 7, fun _ h => (List.mem_cons_of_mem _ (List.mem_append_left _ (List.mem_append_left _ (List.mem_append_right _ h)))), (List.mem_cons_of_mem _ (List.mem_append_left _ (List.mem_append_left _ (List.mem_append_left _ (List.mem_append_left _ (List.mem_of_getElem? (i := 3) rfl)))))), rfl, by decide, rfl⟩
set_option maxRecDepth 100000 in
set_option maxHeartbeats 4000000 in
theorem c_X10_checkCrew (l : Launch) (dd : kDD) (ks : List Nat) (ad : Nat → Nat) (E : Nat → va_E) (e : eS) (M : mS) (nR nC nt nL nW nV nM : Nat) (cn nm mn me li rl : Nat → Nat) (on : Int32) (hO : cO dd ks ad E on) (hR : cR dd ks ad E M nR) (hC : cC dd ks ad E M nC mn me) (hT : cT dd ks ad E M nt cn nm) (hL : cL dd ks ad E M nL nW li) (hW : cW dd ks ad E M nW rl) (hV : cV dd ks ad E M nV) (hM : cM dd ks ad E M nM) (hB : cB M nR nC nt nL nW nV cn nm mn me li rl) (v : Int32) : kCvX l yX10_checkCrew wsX10_checkCrew ({ frames := 6, cells := 1, slots := 6, locals := 100 } : Room) 1 6 dd [.ref (ad 0), .int v] (ks, ad, (cE dd E e)) (kQv (S := eS) (fun z => e = z ∧ ∃ j, j < nC ∧ v = nI j) (fun _ => ks) (fun _ => ad) (fun z => cE dd E z)) (fun X9 u9 => X9 = "java/lang/IndexOutOfBoundsException" ∧ u9 = (ks, ad, cE dd E e) ∧ ¬ ∃ j, j < nC ∧ v = nI j) := by
  refine kMetvX (ws' := _) (cc := cX10_checkCrew) (maxL := 2) (by decide) rfl (Nat.le_of_ble_eq_true rfl) (fun g X hr hRX hnL hRR hl0 hkn => ?_)
  show kv dd g 0 0 0 [(0, .ref (ad 0)), (1, .int v)] [] ks ad (cE dd E e)
  have hbb := hC.1
  refine kv_iload_n X 1 dX10_checkCrew_0 rfl rfl ?_
  refine kv_aload_n X 0 dX10_checkCrew_1 rfl rfl ?_
  refine kv_getfield X f_X10_checkCrew_10 (κ := 0) (fs := [.ref (ad 1), .ref (ad 2), .int on]) (v := .ref (ad 1)) hO.1.1 ((cE_ne (by omega)).trans hO.1.2) rfl dX10_checkCrew_2 ?_
  refine kv_getfield X f_X10_checkCrew_70 (κ := 1) (fs := [.ref (ad 3), .ref (ad 4), .ref (ad 5), .ref (ad 6), .ref (ad 7), .ref (ad 8), .ref (ad 9)]) (v := .ref (ad 4)) hO.2.1.1 ((cE_ne (by omega)).trans hO.2.1.2) rfl dX10_checkCrew_5 ?_
  obtain ⟨_, _, o8⟩ := kLs_obj (dd := dd) (ks := ks) (ad := ad) (E := (cE dd E e)) (kLs_cE hC.2.1 (by omega) (by omega) (fun i hi => by omega))
  refine kv_calliV (ci := 2) (κ := 4) (r1 := (TJx4a65c, 3)) (As := []) [.int v] X (c_Jx4a65c_size_8abf5 l dd ks ad (cE dd E e) (4) (11) (nC) (fun c => 80 + c) 4 (kLs_cE hC.2.1 (by omega) (by omega) (fun i hi => by omega))) hl0 (kCV_of X 0 gX10_checkCrew_Jx4a65c_size_8abf5 rfl rfl rfl (by decide +kernel) hRR ⟨(Nat.le_of_ble_eq_true rfl), (Nat.le_of_ble_eq_true rfl)⟩) hC.2.1.1 o8 rfl rfl rfl (Nat.le_of_ble_eq_true rfl) hRR ⟨(Nat.le_of_ble_eq_true rfl), (Nat.le_of_ble_eq_true rfl)⟩ dX10_checkCrew_8 (fun r z hp => ?_)
  obtain rfl := hp
  refine kv_calliS (As := [.int v, .int (nI nC)]) [] X (c_X10_isNumberOf l dd ks ad (cE dd E e) v nC (by omega)) hl0 (kCS_of X 2 gX10_checkCrew_X10_isNumberOf rfl rfl rfl (by decide +kernel) hRR ⟨(Nat.le_of_ble_eq_true rfl), (Nat.le_of_ble_eq_true rfl)⟩) rfl rfl (Nat.le_of_ble_eq_true rfl) hRR ⟨(Nat.le_of_ble_eq_true rfl), (Nat.le_of_ble_eq_true rfl)⟩ dX10_checkCrew_11 (fun r z hp => ?_)
  obtain ⟨rfl, j11, h11, rfl⟩ | ⟨rfl, h11⟩ := hp
  ·
    refine kv_if_ne (tgt := 28) X dX10_checkCrew_14 (by decide) (fun hc14 => ?_) (fun hc => absurd hc (by decide))
    exact kv_return X hr (Nat.le_of_ble_eq_true rfl) (Nat.le_of_ble_eq_true rfl) ⟨e, ⟨rfl, j11, h11, rfl⟩, rfl⟩ dX10_checkCrew_28
  ·
    refine kv_if_ne (tgt := 28) X dX10_checkCrew_14 (by decide) (fun hc => absurd hc (by decide)) (fun hc14 => ?_)
    exact kv_throwW (cls := "java/lang/IndexOutOfBoundsException") (text := "there is no such crew") (names := ["java/lang/RuntimeException", "java/lang/Exception"]) (ik := 323) (is := 328) (ic := 327) X hRX tf_IOOBE (by decide) (List.mem_cons_of_mem _ (List.mem_append_left _ (List.mem_append_left _ (List.mem_append_left _ (List.mem_append_left _ (List.mem_of_getElem? (i := 0) rfl)))))) (List.mem_cons_of_mem _ (List.mem_append_left _ (List.mem_append_left _ (List.mem_append_left _ (List.mem_append_left _ (List.mem_of_getElem? (i := 1) rfl)))))) (by decide +kernel) (fun _ h => (List.mem_cons_of_mem _ (List.mem_append_right _ h))) tb_IOOBE tg_IOOBE dX10_checkCrew_17 dX10_checkCrew_20 dX10_checkCrew_21 dX10_checkCrew_24 dX10_checkCrew_27 hRR (Nat.le_of_ble_eq_true rfl) ⟨(Nat.le_of_ble_eq_true rfl), (Nat.le_of_ble_eq_true rfl), (Nat.le_of_ble_eq_true rfl), (Nat.le_of_ble_eq_true rfl)⟩ (Nat.le_of_ble_eq_true rfl) (Nat.le_of_ble_eq_true rfl) ⟨rfl, rfl, h11⟩
theorem f_X10_checkItem_10 : kF wsX10_checkItem RX10 10 13 0 := ⟨_, RX10, TX10, 3, fun _ h => (List.mem_cons_of_mem _ (List.mem_append_left _ (List.mem_append_left _ (List.mem_append_left _ (List.mem_append_right _ h))))), (List.mem_cons_of_mem _ (List.mem_append_left _ (List.mem_append_left _ (List.mem_append_left _ (List.mem_append_left _ (List.mem_of_getElem? (i := 2) rfl)))))), rfl, by decide, rfl⟩
theorem f_X10_checkItem_103 : kF wsX10_checkItem RX10 103 9 2 := ⟨_, RX6, TX6, 7, fun _ h => (List.mem_cons_of_mem _ (List.mem_append_left _ (List.mem_append_left _ (List.mem_append_right _ h)))), (List.mem_cons_of_mem _ (List.mem_append_left _ (List.mem_append_left _ (List.mem_append_left _ (List.mem_append_left _ (List.mem_of_getElem? (i := 3) rfl)))))), rfl, by decide, rfl⟩
set_option maxRecDepth 100000 in
set_option maxHeartbeats 4000000 in
theorem c_X10_checkItem (l : Launch) (dd : kDD) (ks : List Nat) (ad : Nat → Nat) (E : Nat → va_E) (e : eS) (M : mS) (nR nC nt nL nW nV nM : Nat) (cn nm mn me li rl : Nat → Nat) (on : Int32) (hO : cO dd ks ad E on) (hR : cR dd ks ad E M nR) (hC : cC dd ks ad E M nC mn me) (hT : cT dd ks ad E M nt cn nm) (hL : cL dd ks ad E M nL nW li) (hW : cW dd ks ad E M nW rl) (hV : cV dd ks ad E M nV) (hM : cM dd ks ad E M nM) (hB : cB M nR nC nt nL nW nV cn nm mn me li rl) (v : Int32) : kCvX l yX10_checkItem wsX10_checkItem ({ frames := 6, cells := 1, slots := 6, locals := 100 } : Room) 1 6 dd [.ref (ad 0), .int v] (ks, ad, (cE dd E e)) (kQv (S := eS) (fun z => e = z ∧ ∃ j, j < nt ∧ v = nI j) (fun _ => ks) (fun _ => ad) (fun z => cE dd E z)) (fun X9 u9 => X9 = "java/lang/IndexOutOfBoundsException" ∧ u9 = (ks, ad, cE dd E e) ∧ ¬ ∃ j, j < nt ∧ v = nI j) := by
  refine kMetvX (ws' := _) (cc := cX10_checkItem) (maxL := 2) (by decide) rfl (Nat.le_of_ble_eq_true rfl) (fun g X hr hRX hnL hRR hl0 hkn => ?_)
  show kv dd g 0 0 0 [(0, .ref (ad 0)), (1, .int v)] [] ks ad (cE dd E e)
  have hbb := hT.1
  refine kv_iload_n X 1 dX10_checkItem_0 rfl rfl ?_
  refine kv_aload_n X 0 dX10_checkItem_1 rfl rfl ?_
  refine kv_getfield X f_X10_checkItem_10 (κ := 0) (fs := [.ref (ad 1), .ref (ad 2), .int on]) (v := .ref (ad 1)) hO.1.1 ((cE_ne (by omega)).trans hO.1.2) rfl dX10_checkItem_2 ?_
  refine kv_getfield X f_X10_checkItem_103 (κ := 1) (fs := [.ref (ad 3), .ref (ad 4), .ref (ad 5), .ref (ad 6), .ref (ad 7), .ref (ad 8), .ref (ad 9)]) (v := .ref (ad 5)) hO.2.1.1 ((cE_ne (by omega)).trans hO.2.1.2) rfl dX10_checkItem_5 ?_
  obtain ⟨_, _, o8⟩ := kLs_obj (dd := dd) (ks := ks) (ad := ad) (E := (cE dd E e)) (kLs_cE hT.2.1 (by omega) (by omega) (fun i hi => by omega))
  refine kv_calliV (ci := 2) (κ := 5) (r1 := (TJx4a65c, 3)) (As := []) [.int v] X (c_Jx4a65c_size_8abf5 l dd ks ad (cE dd E e) (5) (12) (nt) (fun i => 96 + i) 6 (kLs_cE hT.2.1 (by omega) (by omega) (fun i hi => by omega))) hl0 (kCV_of X 0 gX10_checkItem_Jx4a65c_size_8abf5 rfl rfl rfl (by decide +kernel) hRR ⟨(Nat.le_of_ble_eq_true rfl), (Nat.le_of_ble_eq_true rfl)⟩) hT.2.1.1 o8 rfl rfl rfl (Nat.le_of_ble_eq_true rfl) hRR ⟨(Nat.le_of_ble_eq_true rfl), (Nat.le_of_ble_eq_true rfl)⟩ dX10_checkItem_8 (fun r z hp => ?_)
  obtain rfl := hp
  refine kv_calliS (As := [.int v, .int (nI nt)]) [] X (c_X10_isNumberOf l dd ks ad (cE dd E e) v nt (by omega)) hl0 (kCS_of X 2 gX10_checkItem_X10_isNumberOf rfl rfl rfl (by decide +kernel) hRR ⟨(Nat.le_of_ble_eq_true rfl), (Nat.le_of_ble_eq_true rfl)⟩) rfl rfl (Nat.le_of_ble_eq_true rfl) hRR ⟨(Nat.le_of_ble_eq_true rfl), (Nat.le_of_ble_eq_true rfl)⟩ dX10_checkItem_11 (fun r z hp => ?_)
  obtain ⟨rfl, j11, h11, rfl⟩ | ⟨rfl, h11⟩ := hp
  ·
    refine kv_if_ne (tgt := 28) X dX10_checkItem_14 (by decide) (fun hc14 => ?_) (fun hc => absurd hc (by decide))
    exact kv_return X hr (Nat.le_of_ble_eq_true rfl) (Nat.le_of_ble_eq_true rfl) ⟨e, ⟨rfl, j11, h11, rfl⟩, rfl⟩ dX10_checkItem_28
  ·
    refine kv_if_ne (tgt := 28) X dX10_checkItem_14 (by decide) (fun hc => absurd hc (by decide)) (fun hc14 => ?_)
    exact kv_throwW (cls := "java/lang/IndexOutOfBoundsException") (text := "there is no such item") (names := ["java/lang/RuntimeException", "java/lang/Exception"]) (ik := 323) (is := 330) (ic := 327) X hRX tf_IOOBE (by decide) (List.mem_cons_of_mem _ (List.mem_append_left _ (List.mem_append_left _ (List.mem_append_left _ (List.mem_append_left _ (List.mem_of_getElem? (i := 0) rfl)))))) (List.mem_cons_of_mem _ (List.mem_append_left _ (List.mem_append_left _ (List.mem_append_left _ (List.mem_append_left _ (List.mem_of_getElem? (i := 1) rfl)))))) (by decide +kernel) (fun _ h => (List.mem_cons_of_mem _ (List.mem_append_right _ h))) tb_IOOBE tg_IOOBE dX10_checkItem_17 dX10_checkItem_20 dX10_checkItem_21 dX10_checkItem_24 dX10_checkItem_27 hRR (Nat.le_of_ble_eq_true rfl) ⟨(Nat.le_of_ble_eq_true rfl), (Nat.le_of_ble_eq_true rfl), (Nat.le_of_ble_eq_true rfl), (Nat.le_of_ble_eq_true rfl)⟩ (Nat.le_of_ble_eq_true rfl) (Nat.le_of_ble_eq_true rfl) ⟨rfl, rfl, h11⟩
theorem f_X10_checkLine_10 : kF wsX10_checkLine RX10 10 13 0 := ⟨_, RX10, TX10, 3, fun _ h => (List.mem_cons_of_mem _ (List.mem_append_left _ (List.mem_append_left _ (List.mem_append_left _ (List.mem_append_right _ h))))), (List.mem_cons_of_mem _ (List.mem_append_left _ (List.mem_append_left _ (List.mem_append_left _ (List.mem_append_left _ (List.mem_of_getElem? (i := 2) rfl)))))), rfl, by decide, rfl⟩
theorem f_X10_checkLine_153 : kF wsX10_checkLine RX10 153 9 3 := ⟨_, RX6, TX6, 7, fun _ h => (List.mem_cons_of_mem _ (List.mem_append_left _ (List.mem_append_left _ (List.mem_append_right _ h)))), (List.mem_cons_of_mem _ (List.mem_append_left _ (List.mem_append_left _ (List.mem_append_left _ (List.mem_append_left _ (List.mem_of_getElem? (i := 3) rfl)))))), rfl, by decide, rfl⟩
set_option maxRecDepth 100000 in
set_option maxHeartbeats 4000000 in
theorem c_X10_checkLine (l : Launch) (dd : kDD) (ks : List Nat) (ad : Nat → Nat) (E : Nat → va_E) (e : eS) (M : mS) (nR nC nt nL nW nV nM : Nat) (cn nm mn me li rl : Nat → Nat) (on : Int32) (hO : cO dd ks ad E on) (hR : cR dd ks ad E M nR) (hC : cC dd ks ad E M nC mn me) (hT : cT dd ks ad E M nt cn nm) (hL : cL dd ks ad E M nL nW li) (hW : cW dd ks ad E M nW rl) (hV : cV dd ks ad E M nV) (hM : cM dd ks ad E M nM) (hB : cB M nR nC nt nL nW nV cn nm mn me li rl) (v : Int32) : kCvX l yX10_checkLine wsX10_checkLine ({ frames := 6, cells := 1, slots := 6, locals := 100 } : Room) 1 6 dd [.ref (ad 0), .int v] (ks, ad, (cE dd E e)) (kQv (S := eS) (fun z => e = z ∧ ∃ j, j < nL ∧ v = nI j) (fun _ => ks) (fun _ => ad) (fun z => cE dd E z)) (fun X9 u9 => X9 = "java/lang/IndexOutOfBoundsException" ∧ u9 = (ks, ad, cE dd E e) ∧ ¬ ∃ j, j < nL ∧ v = nI j) := by
  refine kMetvX (ws' := _) (cc := cX10_checkLine) (maxL := 2) (by decide) rfl (Nat.le_of_ble_eq_true rfl) (fun g X hr hRX hnL hRR hl0 hkn => ?_)
  show kv dd g 0 0 0 [(0, .ref (ad 0)), (1, .int v)] [] ks ad (cE dd E e)
  have hbb := hL.1
  refine kv_iload_n X 1 dX10_checkLine_0 rfl rfl ?_
  refine kv_aload_n X 0 dX10_checkLine_1 rfl rfl ?_
  refine kv_getfield X f_X10_checkLine_10 (κ := 0) (fs := [.ref (ad 1), .ref (ad 2), .int on]) (v := .ref (ad 1)) hO.1.1 ((cE_ne (by omega)).trans hO.1.2) rfl dX10_checkLine_2 ?_
  refine kv_getfield X f_X10_checkLine_153 (κ := 1) (fs := [.ref (ad 3), .ref (ad 4), .ref (ad 5), .ref (ad 6), .ref (ad 7), .ref (ad 8), .ref (ad 9)]) (v := .ref (ad 6)) hO.2.1.1 ((cE_ne (by omega)).trans hO.2.1.2) rfl dX10_checkLine_5 ?_
  obtain ⟨_, _, o8⟩ := kLs_obj (dd := dd) (ks := ks) (ad := ad) (E := (cE dd E e)) (kLs_cE hL.2.1 (by omega) (by omega) (fun i hi => by omega))
  refine kv_calliV (ci := 2) (κ := 6) (r1 := (TJx4a65c, 3)) (As := []) [.int v] X (c_Jx4a65c_size_8abf5 l dd ks ad (cE dd E e) (6) (13) (nL) (fun l => 208 + l) 7 (kLs_cE hL.2.1 (by omega) (by omega) (fun i hi => by omega))) hl0 (kCV_of X 0 gX10_checkLine_Jx4a65c_size_8abf5 rfl rfl rfl (by decide +kernel) hRR ⟨(Nat.le_of_ble_eq_true rfl), (Nat.le_of_ble_eq_true rfl)⟩) hL.2.1.1 o8 rfl rfl rfl (Nat.le_of_ble_eq_true rfl) hRR ⟨(Nat.le_of_ble_eq_true rfl), (Nat.le_of_ble_eq_true rfl)⟩ dX10_checkLine_8 (fun r z hp => ?_)
  obtain rfl := hp
  refine kv_calliS (As := [.int v, .int (nI nL)]) [] X (c_X10_isNumberOf l dd ks ad (cE dd E e) v nL (by omega)) hl0 (kCS_of X 2 gX10_checkLine_X10_isNumberOf rfl rfl rfl (by decide +kernel) hRR ⟨(Nat.le_of_ble_eq_true rfl), (Nat.le_of_ble_eq_true rfl)⟩) rfl rfl (Nat.le_of_ble_eq_true rfl) hRR ⟨(Nat.le_of_ble_eq_true rfl), (Nat.le_of_ble_eq_true rfl)⟩ dX10_checkLine_11 (fun r z hp => ?_)
  obtain ⟨rfl, j11, h11, rfl⟩ | ⟨rfl, h11⟩ := hp
  ·
    refine kv_if_ne (tgt := 28) X dX10_checkLine_14 (by decide) (fun hc14 => ?_) (fun hc => absurd hc (by decide))
    exact kv_return X hr (Nat.le_of_ble_eq_true rfl) (Nat.le_of_ble_eq_true rfl) ⟨e, ⟨rfl, j11, h11, rfl⟩, rfl⟩ dX10_checkLine_28
  ·
    refine kv_if_ne (tgt := 28) X dX10_checkLine_14 (by decide) (fun hc => absurd hc (by decide)) (fun hc14 => ?_)
    exact kv_throwW (cls := "java/lang/IndexOutOfBoundsException") (text := "there is no such line") (names := ["java/lang/RuntimeException", "java/lang/Exception"]) (ik := 323) (is := 332) (ic := 327) X hRX tf_IOOBE (by decide) (List.mem_cons_of_mem _ (List.mem_append_left _ (List.mem_append_left _ (List.mem_append_left _ (List.mem_append_left _ (List.mem_of_getElem? (i := 0) rfl)))))) (List.mem_cons_of_mem _ (List.mem_append_left _ (List.mem_append_left _ (List.mem_append_left _ (List.mem_append_left _ (List.mem_of_getElem? (i := 1) rfl)))))) (by decide +kernel) (fun _ h => (List.mem_cons_of_mem _ (List.mem_append_right _ h))) tb_IOOBE tg_IOOBE dX10_checkLine_17 dX10_checkLine_20 dX10_checkLine_21 dX10_checkLine_24 dX10_checkLine_27 hRR (Nat.le_of_ble_eq_true rfl) ⟨(Nat.le_of_ble_eq_true rfl), (Nat.le_of_ble_eq_true rfl), (Nat.le_of_ble_eq_true rfl), (Nat.le_of_ble_eq_true rfl)⟩ (Nat.le_of_ble_eq_true rfl) (Nat.le_of_ble_eq_true rfl) ⟨rfl, rfl, h11⟩
theorem f_X10_checkRow_10 : kF wsX10_checkRow RX10 10 13 0 := ⟨_, RX10, TX10, 3, fun _ h => (List.mem_cons_of_mem _ (List.mem_append_left _ (List.mem_append_left _ (List.mem_append_left _ (List.mem_append_right _ h))))), (List.mem_cons_of_mem _ (List.mem_append_left _ (List.mem_append_left _ (List.mem_append_left _ (List.mem_append_left _ (List.mem_of_getElem? (i := 2) rfl)))))), rfl, by decide, rfl⟩
theorem f_X10_checkRow_169 : kF wsX10_checkRow RX10 169 9 4 := ⟨_, RX6, TX6, 7, fun _ h => (List.mem_cons_of_mem _ (List.mem_append_left _ (List.mem_append_left _ (List.mem_append_right _ h)))), (List.mem_cons_of_mem _ (List.mem_append_left _ (List.mem_append_left _ (List.mem_append_left _ (List.mem_append_left _ (List.mem_of_getElem? (i := 3) rfl)))))), rfl, by decide, rfl⟩
set_option maxRecDepth 100000 in
set_option maxHeartbeats 4000000 in
theorem c_X10_checkRow (l : Launch) (dd : kDD) (ks : List Nat) (ad : Nat → Nat) (E : Nat → va_E) (e : eS) (M : mS) (nR nC nt nL nW nV nM : Nat) (cn nm mn me li rl : Nat → Nat) (on : Int32) (hO : cO dd ks ad E on) (hR : cR dd ks ad E M nR) (hC : cC dd ks ad E M nC mn me) (hT : cT dd ks ad E M nt cn nm) (hL : cL dd ks ad E M nL nW li) (hW : cW dd ks ad E M nW rl) (hV : cV dd ks ad E M nV) (hM : cM dd ks ad E M nM) (hB : cB M nR nC nt nL nW nV cn nm mn me li rl) (v : Int32) : kCvX l yX10_checkRow wsX10_checkRow ({ frames := 6, cells := 1, slots := 6, locals := 100 } : Room) 1 6 dd [.ref (ad 0), .int v] (ks, ad, (cE dd E e)) (kQv (S := eS) (fun z => e = z ∧ ∃ j, j < nW ∧ v = nI j) (fun _ => ks) (fun _ => ad) (fun z => cE dd E z)) (fun X9 u9 => X9 = "java/lang/IndexOutOfBoundsException" ∧ u9 = (ks, ad, cE dd E e) ∧ ¬ ∃ j, j < nW ∧ v = nI j) := by
  refine kMetvX (ws' := _) (cc := cX10_checkRow) (maxL := 2) (by decide) rfl (Nat.le_of_ble_eq_true rfl) (fun g X hr hRX hnL hRR hl0 hkn => ?_)
  show kv dd g 0 0 0 [(0, .ref (ad 0)), (1, .int v)] [] ks ad (cE dd E e)
  have hbb := hW.1
  refine kv_iload_n X 1 dX10_checkRow_0 rfl rfl ?_
  refine kv_aload_n X 0 dX10_checkRow_1 rfl rfl ?_
  refine kv_getfield X f_X10_checkRow_10 (κ := 0) (fs := [.ref (ad 1), .ref (ad 2), .int on]) (v := .ref (ad 1)) hO.1.1 ((cE_ne (by omega)).trans hO.1.2) rfl dX10_checkRow_2 ?_
  refine kv_getfield X f_X10_checkRow_169 (κ := 1) (fs := [.ref (ad 3), .ref (ad 4), .ref (ad 5), .ref (ad 6), .ref (ad 7), .ref (ad 8), .ref (ad 9)]) (v := .ref (ad 7)) hO.2.1.1 ((cE_ne (by omega)).trans hO.2.1.2) rfl dX10_checkRow_5 ?_
  obtain ⟨_, _, o8⟩ := kLs_obj (dd := dd) (ks := ks) (ad := ad) (E := (cE dd E e)) (kLs_cE hW.2.1 (by omega) (by omega) (fun i hi => by omega))
  refine kv_calliV (ci := 2) (κ := 7) (r1 := (TJx4a65c, 3)) (As := []) [.int v] X (c_Jx4a65c_size_8abf5 l dd ks ad (cE dd E e) (7) (14) (nW) (fun k => 224 + k) 11 (kLs_cE hW.2.1 (by omega) (by omega) (fun i hi => by omega))) hl0 (kCV_of X 0 gX10_checkRow_Jx4a65c_size_8abf5 rfl rfl rfl (by decide +kernel) hRR ⟨(Nat.le_of_ble_eq_true rfl), (Nat.le_of_ble_eq_true rfl)⟩) hW.2.1.1 o8 rfl rfl rfl (Nat.le_of_ble_eq_true rfl) hRR ⟨(Nat.le_of_ble_eq_true rfl), (Nat.le_of_ble_eq_true rfl)⟩ dX10_checkRow_8 (fun r z hp => ?_)
  obtain rfl := hp
  refine kv_calliS (As := [.int v, .int (nI nW)]) [] X (c_X10_isNumberOf l dd ks ad (cE dd E e) v nW (by omega)) hl0 (kCS_of X 2 gX10_checkRow_X10_isNumberOf rfl rfl rfl (by decide +kernel) hRR ⟨(Nat.le_of_ble_eq_true rfl), (Nat.le_of_ble_eq_true rfl)⟩) rfl rfl (Nat.le_of_ble_eq_true rfl) hRR ⟨(Nat.le_of_ble_eq_true rfl), (Nat.le_of_ble_eq_true rfl)⟩ dX10_checkRow_11 (fun r z hp => ?_)
  obtain ⟨rfl, j11, h11, rfl⟩ | ⟨rfl, h11⟩ := hp
  ·
    refine kv_if_ne (tgt := 28) X dX10_checkRow_14 (by decide) (fun hc14 => ?_) (fun hc => absurd hc (by decide))
    exact kv_return X hr (Nat.le_of_ble_eq_true rfl) (Nat.le_of_ble_eq_true rfl) ⟨e, ⟨rfl, j11, h11, rfl⟩, rfl⟩ dX10_checkRow_28
  ·
    refine kv_if_ne (tgt := 28) X dX10_checkRow_14 (by decide) (fun hc => absurd hc (by decide)) (fun hc14 => ?_)
    exact kv_throwW (cls := "java/lang/IndexOutOfBoundsException") (text := "there is no such row") (names := ["java/lang/RuntimeException", "java/lang/Exception"]) (ik := 323) (is := 334) (ic := 327) X hRX tf_IOOBE (by decide) (List.mem_cons_of_mem _ (List.mem_append_left _ (List.mem_append_left _ (List.mem_append_left _ (List.mem_append_left _ (List.mem_of_getElem? (i := 0) rfl)))))) (List.mem_cons_of_mem _ (List.mem_append_left _ (List.mem_append_left _ (List.mem_append_left _ (List.mem_append_left _ (List.mem_of_getElem? (i := 1) rfl)))))) (by decide +kernel) (fun _ h => (List.mem_cons_of_mem _ (List.mem_append_right _ h))) tb_IOOBE tg_IOOBE dX10_checkRow_17 dX10_checkRow_20 dX10_checkRow_21 dX10_checkRow_24 dX10_checkRow_27 hRR (Nat.le_of_ble_eq_true rfl) ⟨(Nat.le_of_ble_eq_true rfl), (Nat.le_of_ble_eq_true rfl), (Nat.le_of_ble_eq_true rfl), (Nat.le_of_ble_eq_true rfl)⟩ (Nat.le_of_ble_eq_true rfl) (Nat.le_of_ble_eq_true rfl) ⟨rfl, rfl, h11⟩
theorem f_X10_checkVariant_10 : kF wsX10_checkVariant RX10 10 13 0 := ⟨_, RX10, TX10, 3, fun _ h => (List.mem_cons_of_mem _ (List.mem_append_left _ (List.mem_append_left _ (List.mem_append_left _ (List.mem_append_right _ h))))), (List.mem_cons_of_mem _ (List.mem_append_left _ (List.mem_append_left _ (List.mem_append_left _ (List.mem_append_left _ (List.mem_of_getElem? (i := 2) rfl)))))), rfl, by decide, rfl⟩
theorem f_X10_checkVariant_199 : kF wsX10_checkVariant RX10 199 9 5 := ⟨_, RX6, TX6, 7, fun _ h => (List.mem_cons_of_mem _ (List.mem_append_left _ (List.mem_append_left _ (List.mem_append_right _ h)))), (List.mem_cons_of_mem _ (List.mem_append_left _ (List.mem_append_left _ (List.mem_append_left _ (List.mem_append_left _ (List.mem_of_getElem? (i := 3) rfl)))))), rfl, by decide, rfl⟩
set_option maxRecDepth 100000 in
set_option maxHeartbeats 4000000 in
theorem c_X10_checkVariant (l : Launch) (dd : kDD) (ks : List Nat) (ad : Nat → Nat) (E : Nat → va_E) (e : eS) (M : mS) (nR nC nt nL nW nV nM : Nat) (cn nm mn me li rl : Nat → Nat) (on : Int32) (hO : cO dd ks ad E on) (hR : cR dd ks ad E M nR) (hC : cC dd ks ad E M nC mn me) (hT : cT dd ks ad E M nt cn nm) (hL : cL dd ks ad E M nL nW li) (hW : cW dd ks ad E M nW rl) (hV : cV dd ks ad E M nV) (hM : cM dd ks ad E M nM) (hB : cB M nR nC nt nL nW nV cn nm mn me li rl) (v : Int32) : kCvX l yX10_checkVariant wsX10_checkVariant ({ frames := 6, cells := 1, slots := 6, locals := 100 } : Room) 1 6 dd [.ref (ad 0), .int v] (ks, ad, (cE dd E e)) (kQv (S := eS) (fun z => e = z ∧ ∃ j, j < nV ∧ v = nI j) (fun _ => ks) (fun _ => ad) (fun z => cE dd E z)) (fun X9 u9 => X9 = "java/lang/IndexOutOfBoundsException" ∧ u9 = (ks, ad, cE dd E e) ∧ ¬ ∃ j, j < nV ∧ v = nI j) := by
  refine kMetvX (ws' := _) (cc := cX10_checkVariant) (maxL := 2) (by decide) rfl (Nat.le_of_ble_eq_true rfl) (fun g X hr hRX hnL hRR hl0 hkn => ?_)
  show kv dd g 0 0 0 [(0, .ref (ad 0)), (1, .int v)] [] ks ad (cE dd E e)
  have hbb := hV.1
  refine kv_iload_n X 1 dX10_checkVariant_0 rfl rfl ?_
  refine kv_aload_n X 0 dX10_checkVariant_1 rfl rfl ?_
  refine kv_getfield X f_X10_checkVariant_10 (κ := 0) (fs := [.ref (ad 1), .ref (ad 2), .int on]) (v := .ref (ad 1)) hO.1.1 ((cE_ne (by omega)).trans hO.1.2) rfl dX10_checkVariant_2 ?_
  refine kv_getfield X f_X10_checkVariant_199 (κ := 1) (fs := [.ref (ad 3), .ref (ad 4), .ref (ad 5), .ref (ad 6), .ref (ad 7), .ref (ad 8), .ref (ad 9)]) (v := .ref (ad 8)) hO.2.1.1 ((cE_ne (by omega)).trans hO.2.1.2) rfl dX10_checkVariant_5 ?_
  obtain ⟨_, _, o8⟩ := kLs_obj (dd := dd) (ks := ks) (ad := ad) (E := (cE dd E e)) (kLs_cE hV.2.1 (by omega) (by omega) (fun i hi => by omega))
  refine kv_calliV (ci := 2) (κ := 8) (r1 := (TJx4a65c, 3)) (As := []) [.int v] X (c_Jx4a65c_size_8abf5 l dd ks ad (cE dd E e) (8) (15) (nV) (fun v => 272 + v) 12 (kLs_cE hV.2.1 (by omega) (by omega) (fun i hi => by omega))) hl0 (kCV_of X 0 gX10_checkVariant_Jx4a65c_size_8abf5 rfl rfl rfl (by decide +kernel) hRR ⟨(Nat.le_of_ble_eq_true rfl), (Nat.le_of_ble_eq_true rfl)⟩) hV.2.1.1 o8 rfl rfl rfl (Nat.le_of_ble_eq_true rfl) hRR ⟨(Nat.le_of_ble_eq_true rfl), (Nat.le_of_ble_eq_true rfl)⟩ dX10_checkVariant_8 (fun r z hp => ?_)
  obtain rfl := hp
  refine kv_calliS (As := [.int v, .int (nI nV)]) [] X (c_X10_isNumberOf l dd ks ad (cE dd E e) v nV (by omega)) hl0 (kCS_of X 2 gX10_checkVariant_X10_isNumberOf rfl rfl rfl (by decide +kernel) hRR ⟨(Nat.le_of_ble_eq_true rfl), (Nat.le_of_ble_eq_true rfl)⟩) rfl rfl (Nat.le_of_ble_eq_true rfl) hRR ⟨(Nat.le_of_ble_eq_true rfl), (Nat.le_of_ble_eq_true rfl)⟩ dX10_checkVariant_11 (fun r z hp => ?_)
  obtain ⟨rfl, j11, h11, rfl⟩ | ⟨rfl, h11⟩ := hp
  ·
    refine kv_if_ne (tgt := 28) X dX10_checkVariant_14 (by decide) (fun hc14 => ?_) (fun hc => absurd hc (by decide))
    exact kv_return X hr (Nat.le_of_ble_eq_true rfl) (Nat.le_of_ble_eq_true rfl) ⟨e, ⟨rfl, j11, h11, rfl⟩, rfl⟩ dX10_checkVariant_28
  ·
    refine kv_if_ne (tgt := 28) X dX10_checkVariant_14 (by decide) (fun hc => absurd hc (by decide)) (fun hc14 => ?_)
    exact kv_throwW (cls := "java/lang/IndexOutOfBoundsException") (text := "there is no such variant") (names := ["java/lang/RuntimeException", "java/lang/Exception"]) (ik := 323) (is := 336) (ic := 327) X hRX tf_IOOBE (by decide) (List.mem_cons_of_mem _ (List.mem_append_left _ (List.mem_append_left _ (List.mem_append_left _ (List.mem_append_left _ (List.mem_of_getElem? (i := 0) rfl)))))) (List.mem_cons_of_mem _ (List.mem_append_left _ (List.mem_append_left _ (List.mem_append_left _ (List.mem_append_left _ (List.mem_of_getElem? (i := 1) rfl)))))) (by decide +kernel) (fun _ h => (List.mem_cons_of_mem _ (List.mem_append_right _ h))) tb_IOOBE tg_IOOBE dX10_checkVariant_17 dX10_checkVariant_20 dX10_checkVariant_21 dX10_checkVariant_24 dX10_checkVariant_27 hRR (Nat.le_of_ble_eq_true rfl) ⟨(Nat.le_of_ble_eq_true rfl), (Nat.le_of_ble_eq_true rfl), (Nat.le_of_ble_eq_true rfl), (Nat.le_of_ble_eq_true rfl)⟩ (Nat.le_of_ble_eq_true rfl) (Nat.le_of_ble_eq_true rfl) ⟨rfl, rfl, h11⟩
theorem f_X10_checkMarkup_10 : kF wsX10_checkMarkup RX10 10 13 0 := ⟨_, RX10, TX10, 3, fun _ h => (List.mem_cons_of_mem _ (List.mem_append_left _ (List.mem_append_left _ (List.mem_append_left _ (List.mem_append_right _ h))))), (List.mem_cons_of_mem _ (List.mem_append_left _ (List.mem_append_left _ (List.mem_append_left _ (List.mem_append_left _ (List.mem_of_getElem? (i := 2) rfl)))))), rfl, by decide, rfl⟩
theorem f_X10_checkMarkup_244 : kF wsX10_checkMarkup RX10 244 9 6 := ⟨_, RX6, TX6, 7, fun _ h => (List.mem_cons_of_mem _ (List.mem_append_left _ (List.mem_append_left _ (List.mem_append_right _ h)))), (List.mem_cons_of_mem _ (List.mem_append_left _ (List.mem_append_left _ (List.mem_append_left _ (List.mem_append_left _ (List.mem_of_getElem? (i := 3) rfl)))))), rfl, by decide, rfl⟩
set_option maxRecDepth 100000 in
set_option maxHeartbeats 4000000 in
theorem c_X10_checkMarkup (l : Launch) (dd : kDD) (ks : List Nat) (ad : Nat → Nat) (E : Nat → va_E) (e : eS) (M : mS) (nR nC nt nL nW nV nM : Nat) (cn nm mn me li rl : Nat → Nat) (on : Int32) (hO : cO dd ks ad E on) (hR : cR dd ks ad E M nR) (hC : cC dd ks ad E M nC mn me) (hT : cT dd ks ad E M nt cn nm) (hL : cL dd ks ad E M nL nW li) (hW : cW dd ks ad E M nW rl) (hV : cV dd ks ad E M nV) (hM : cM dd ks ad E M nM) (hB : cB M nR nC nt nL nW nV cn nm mn me li rl) (v : Int32) : kCvX l yX10_checkMarkup wsX10_checkMarkup ({ frames := 6, cells := 1, slots := 6, locals := 100 } : Room) 1 6 dd [.ref (ad 0), .int v] (ks, ad, (cE dd E e)) (kQv (S := eS) (fun z => e = z ∧ ∃ j, j < nM ∧ v = nI j) (fun _ => ks) (fun _ => ad) (fun z => cE dd E z)) (fun X9 u9 => X9 = "java/lang/IndexOutOfBoundsException" ∧ u9 = (ks, ad, cE dd E e) ∧ ¬ ∃ j, j < nM ∧ v = nI j) := by
  refine kMetvX (ws' := _) (cc := cX10_checkMarkup) (maxL := 2) (by decide) rfl (Nat.le_of_ble_eq_true rfl) (fun g X hr hRX hnL hRR hl0 hkn => ?_)
  show kv dd g 0 0 0 [(0, .ref (ad 0)), (1, .int v)] [] ks ad (cE dd E e)
  have hbb := hM.1
  refine kv_iload_n X 1 dX10_checkMarkup_0 rfl rfl ?_
  refine kv_aload_n X 0 dX10_checkMarkup_1 rfl rfl ?_
  refine kv_getfield X f_X10_checkMarkup_10 (κ := 0) (fs := [.ref (ad 1), .ref (ad 2), .int on]) (v := .ref (ad 1)) hO.1.1 ((cE_ne (by omega)).trans hO.1.2) rfl dX10_checkMarkup_2 ?_
  refine kv_getfield X f_X10_checkMarkup_244 (κ := 1) (fs := [.ref (ad 3), .ref (ad 4), .ref (ad 5), .ref (ad 6), .ref (ad 7), .ref (ad 8), .ref (ad 9)]) (v := .ref (ad 9)) hO.2.1.1 ((cE_ne (by omega)).trans hO.2.1.2) rfl dX10_checkMarkup_5 ?_
  obtain ⟨_, _, o8⟩ := kLs_obj (dd := dd) (ks := ks) (ad := ad) (E := (cE dd E e)) (kLs_cE hM.2.1 (by omega) (by omega) (fun i hi => by omega))
  refine kv_calliV (ci := 2) (κ := 9) (r1 := (TJx4a65c, 3)) (As := []) [.int v] X (c_Jx4a65c_size_8abf5 l dd ks ad (cE dd E e) (9) (16) (nM) (fun m => 288 + m) 8 (kLs_cE hM.2.1 (by omega) (by omega) (fun i hi => by omega))) hl0 (kCV_of X 0 gX10_checkMarkup_Jx4a65c_size_8abf5 rfl rfl rfl (by decide +kernel) hRR ⟨(Nat.le_of_ble_eq_true rfl), (Nat.le_of_ble_eq_true rfl)⟩) hM.2.1.1 o8 rfl rfl rfl (Nat.le_of_ble_eq_true rfl) hRR ⟨(Nat.le_of_ble_eq_true rfl), (Nat.le_of_ble_eq_true rfl)⟩ dX10_checkMarkup_8 (fun r z hp => ?_)
  obtain rfl := hp
  refine kv_calliS (As := [.int v, .int (nI nM)]) [] X (c_X10_isNumberOf l dd ks ad (cE dd E e) v nM (by omega)) hl0 (kCS_of X 2 gX10_checkMarkup_X10_isNumberOf rfl rfl rfl (by decide +kernel) hRR ⟨(Nat.le_of_ble_eq_true rfl), (Nat.le_of_ble_eq_true rfl)⟩) rfl rfl (Nat.le_of_ble_eq_true rfl) hRR ⟨(Nat.le_of_ble_eq_true rfl), (Nat.le_of_ble_eq_true rfl)⟩ dX10_checkMarkup_11 (fun r z hp => ?_)
  obtain ⟨rfl, j11, h11, rfl⟩ | ⟨rfl, h11⟩ := hp
  ·
    refine kv_if_ne (tgt := 28) X dX10_checkMarkup_14 (by decide) (fun hc14 => ?_) (fun hc => absurd hc (by decide))
    exact kv_return X hr (Nat.le_of_ble_eq_true rfl) (Nat.le_of_ble_eq_true rfl) ⟨e, ⟨rfl, j11, h11, rfl⟩, rfl⟩ dX10_checkMarkup_28
  ·
    refine kv_if_ne (tgt := 28) X dX10_checkMarkup_14 (by decide) (fun hc => absurd hc (by decide)) (fun hc14 => ?_)
    exact kv_throwW (cls := "java/lang/IndexOutOfBoundsException") (text := "there is no such mark-up") (names := ["java/lang/RuntimeException", "java/lang/Exception"]) (ik := 323) (is := 338) (ic := 327) X hRX tf_IOOBE (by decide) (List.mem_cons_of_mem _ (List.mem_append_left _ (List.mem_append_left _ (List.mem_append_left _ (List.mem_append_left _ (List.mem_of_getElem? (i := 0) rfl)))))) (List.mem_cons_of_mem _ (List.mem_append_left _ (List.mem_append_left _ (List.mem_append_left _ (List.mem_append_left _ (List.mem_of_getElem? (i := 1) rfl)))))) (by decide +kernel) (fun _ h => (List.mem_cons_of_mem _ (List.mem_append_right _ h))) tb_IOOBE tg_IOOBE dX10_checkMarkup_17 dX10_checkMarkup_20 dX10_checkMarkup_21 dX10_checkMarkup_24 dX10_checkMarkup_27 hRR (Nat.le_of_ble_eq_true rfl) ⟨(Nat.le_of_ble_eq_true rfl), (Nat.le_of_ble_eq_true rfl), (Nat.le_of_ble_eq_true rfl), (Nat.le_of_ble_eq_true rfl)⟩ (Nat.le_of_ble_eq_true rfl) (Nat.le_of_ble_eq_true rfl) ⟨rfl, rfl, h11⟩
theorem f_X10_checkOff_25 : kF wsX10_checkOff RX10 25 13 2 := ⟨_, RX10, TX10, 3, fun _ h => (List.mem_cons_of_mem _ (List.mem_append_left _ (List.mem_append_right _ h))), (List.mem_cons_of_mem _ (List.mem_append_left _ (List.mem_append_left _ (List.mem_of_getElem? (i := 2) rfl)))), rfl, by decide, rfl⟩
set_option maxRecDepth 100000 in
set_option maxHeartbeats 4000000 in
theorem c_X10_checkOff (l : Launch) (dd : kDD) (ks : List Nat) (ad : Nat → Nat) (E : Nat → va_E) (e : eS) (M : mS) (nR nC nt nL nW nV nM : Nat) (cn nm mn me li rl : Nat → Nat) (on : Int32) (hO : cO dd ks ad E on) (hR : cR dd ks ad E M nR) (hC : cC dd ks ad E M nC mn me) (hT : cT dd ks ad E M nt cn nm) (hL : cL dd ks ad E M nL nW li) (hW : cW dd ks ad E M nW rl) (hV : cV dd ks ad E M nV) (hM : cM dd ks ad E M nM) (hB : cB M nR nC nt nL nW nV cn nm mn me li rl) (v : Int32) : kCvX l yX10_checkOff wsX10_checkOff ({ frames := 6, cells := 1, slots := 6, locals := 100 } : Room) 1 6 dd [.ref (ad 0), .int v] (ks, ad, (cE dd E e)) (kQv (S := eS) (fun z => e = z ∧ ¬ on >>> (v &&& 31) &&& 1 = 1) (fun _ => ks) (fun _ => ad) (fun z => cE dd E z)) (fun X9 u9 => X9 = "java/lang/IllegalStateException" ∧ u9 = (ks, ad, cE dd E e) ∧ on >>> (v &&& 31) &&& 1 = 1) := by
  refine kMetvX (ws' := _) (cc := cX10_checkOff) (maxL := 2) (by decide) rfl (Nat.le_of_ble_eq_true rfl) (fun g X hr hRX hnL hRR hl0 hkn => ?_)
  show kv dd g 0 0 0 [(0, .ref (ad 0)), (1, .int v)] [] ks ad (cE dd E e)
  refine kv_aload_n X 0 dX10_checkOff_0 rfl rfl ?_
  refine kv_getfield X f_X10_checkOff_25 (κ := 0) (fs := [.ref (ad 1), .ref (ad 2), .int on]) (v := .int on) hO.1.1 ((cE_ne (by omega)).trans hO.1.2) rfl dX10_checkOff_1 ?_
  refine kv_iload_n X 1 dX10_checkOff_4 rfl rfl ?_
  refine kv_calliS (As := [.int on, .int v]) [] X (c_X10_hasBit l dd ks ad (cE dd E e) on v) hl0 (kCS_of X 2 gX10_checkOff_X10_hasBit rfl rfl rfl (by decide +kernel) hRR ⟨(Nat.le_of_ble_eq_true rfl), (Nat.le_of_ble_eq_true rfl)⟩) rfl rfl (Nat.le_of_ble_eq_true rfl) hRR ⟨(Nat.le_of_ble_eq_true rfl), (Nat.le_of_ble_eq_true rfl)⟩ dX10_checkOff_5 (fun r z hp => ?_)
  obtain ⟨hb5, rfl⟩ | ⟨hb5, rfl⟩ := hp
  ·
    refine kv_if_eq (tgt := 22) X dX10_checkOff_8 (by decide) (fun hc => absurd hc (by decide)) (fun hc8 => ?_)
    exact kv_throwW (cls := "java/lang/IllegalStateException") (text := "the variant is on") (names := ["java/lang/RuntimeException", "java/lang/Exception"]) (ik := 93) (is := 350) (ic := 97) X hRX tf_ISE (by decide) (List.mem_cons_of_mem _ (List.mem_append_left _ (List.mem_append_left _ (List.mem_of_getElem? (i := 0) rfl)))) (List.mem_cons_of_mem _ (List.mem_append_left _ (List.mem_append_left _ (List.mem_of_getElem? (i := 1) rfl)))) (by decide +kernel) (fun _ h => (List.mem_cons_of_mem _ (List.mem_append_right _ h))) tb_ISE tg_ISE dX10_checkOff_11 dX10_checkOff_14 dX10_checkOff_15 dX10_checkOff_18 dX10_checkOff_21 hRR (Nat.le_of_ble_eq_true rfl) ⟨(Nat.le_of_ble_eq_true rfl), (Nat.le_of_ble_eq_true rfl), (Nat.le_of_ble_eq_true rfl), (Nat.le_of_ble_eq_true rfl)⟩ (Nat.le_of_ble_eq_true rfl) (Nat.le_of_ble_eq_true rfl) ⟨rfl, rfl, hb5⟩
  ·
    refine kv_if_eq (tgt := 22) X dX10_checkOff_8 (by decide) (fun hc8 => ?_) (fun hc => absurd hc (by decide))
    exact kv_return X hr (Nat.le_of_ble_eq_true rfl) (Nat.le_of_ble_eq_true rfl) ⟨e, ⟨rfl, hb5⟩, rfl⟩ dX10_checkOff_22

set_option maxRecDepth 100000 in
set_option maxHeartbeats 4000000 in
theorem c_X10_sizeOf (l : Launch) (dd : kDD) (ks : List Nat) (ad : Nat → Nat) (E : Nat → va_E) (s a b c : Int32) (hs : s = 110 ∨ s = 108 ∨ s = 114 ∨ s = 116 ∨ s = 112 ∨ s = 118) : kCi l yX10_sizeOf wsX10_sizeOf ({ frames := 0, cells := 0, slots := 0, locals := 0 } : Room) 0 0 dd [.int s, .int a, .int b, .int c] (ks, ad, E) (kQi (S := Unit) (fun r z => r = msh s a b c) (fun _ => ks) (fun _ => ad) (fun _ => E)) := by
  refine kMeti (ws' := _) (cc := cX10_sizeOf) (maxL := 4) (rt := .int) (by decide) rfl (Nat.le_of_ble_eq_true rfl) (fun g X hr hnL hRR hl0 hkn => ?_)
  show kv dd g 0 0 0 [(0, .int s), (1, .int a), (2, .int b), (3, .int c)] [] ks ad E
  refine kv_iload_n X 0 dX10_sizeOf_0 rfl rfl ?_
  rcases hs with rfl | rfl | rfl | rfl | rfl | rfl
  ·
    refine kv_tableIn (off := 83) (tgt := 84) X dX10_sizeOf_1 (by decide) (by decide) (by decide) (by decide) ?_
    refine kv_iconst (v := 1) X dX10_sizeOf_84 (by decide) ?_
    exact kv_ireturn X hr (Nat.le_of_ble_eq_true rfl) (Nat.le_of_ble_eq_true rfl) ⟨(), rfl, rfl⟩ dX10_sizeOf_85
  ·
    refine kv_tableIn (off := 59) (tgt := 60) X dX10_sizeOf_1 (by decide) (by decide) (by decide) (by decide) ?_
    refine kv_iload_n X 1 dX10_sizeOf_60 rfl rfl ?_
    exact kv_ireturn X hr (Nat.le_of_ble_eq_true rfl) (Nat.le_of_ble_eq_true rfl) ⟨(), rfl, rfl⟩ dX10_sizeOf_61
  ·
    refine kv_tableIn (off := 61) (tgt := 62) X dX10_sizeOf_1 (by decide) (by decide) (by decide) (by decide) ?_
    refine kv_iload_n X 1 dX10_sizeOf_62 rfl rfl ?_
    refine kv_iload_n X 2 dX10_sizeOf_63 rfl rfl ?_
    refine kv_imul X dX10_sizeOf_64 ?_
    exact kv_ireturn X hr (Nat.le_of_ble_eq_true rfl) (Nat.le_of_ble_eq_true rfl) ⟨(), rfl, rfl⟩ dX10_sizeOf_65
  ·
    refine kv_tableIn (off := 65) (tgt := 66) X dX10_sizeOf_1 (by decide) (by decide) (by decide) (by decide) ?_
    refine kv_iload_n X 1 dX10_sizeOf_66 rfl rfl ?_
    refine kv_iload_n X 2 dX10_sizeOf_67 rfl rfl ?_
    refine kv_imul X dX10_sizeOf_68 ?_
    refine kv_iconst (v := 2) X dX10_sizeOf_69 (by decide) ?_
    refine kv_idiv X dX10_sizeOf_70 (by decide) ?_
    exact kv_ireturn X hr (Nat.le_of_ble_eq_true rfl) (Nat.le_of_ble_eq_true rfl) ⟨(), rfl, rfl⟩ dX10_sizeOf_71
  ·
    refine kv_tableIn (off := 71) (tgt := 72) X dX10_sizeOf_1 (by decide) (by decide) (by decide) (by decide) ?_
    refine kv_iconst (v := 2) X dX10_sizeOf_72 (by decide) ?_
    refine kv_iload_n X 1 dX10_sizeOf_73 rfl rfl ?_
    refine kv_iload_n X 2 dX10_sizeOf_74 rfl rfl ?_
    refine kv_iadd X dX10_sizeOf_75 ?_
    refine kv_imul X dX10_sizeOf_76 ?_
    exact kv_ireturn X hr (Nat.le_of_ble_eq_true rfl) (Nat.le_of_ble_eq_true rfl) ⟨(), rfl, rfl⟩ dX10_sizeOf_77
  ·
    refine kv_tableIn (off := 77) (tgt := 78) X dX10_sizeOf_1 (by decide) (by decide) (by decide) (by decide) ?_
    refine kv_iload_n X 1 dX10_sizeOf_78 rfl rfl ?_
    refine kv_iload_n X 2 dX10_sizeOf_79 rfl rfl ?_
    refine kv_imul X dX10_sizeOf_80 ?_
    refine kv_iload_n X 3 dX10_sizeOf_81 rfl rfl ?_
    refine kv_imul X dX10_sizeOf_82 ?_
    exact kv_ireturn X hr (Nat.le_of_ble_eq_true rfl) (Nat.le_of_ble_eq_true rfl) ⟨(), rfl, rfl⟩ dX10_sizeOf_83

set_option maxRecDepth 100000 in
set_option maxHeartbeats 4000000 in
theorem c_X10_countReplaced (l : Launch) (dd : kDD) (ks : List Nat) (ad : Nat → Nat) (E : Nat → va_E) (κ : Nat) (f : Nat → Int32) (b : Nat) (tab : Nat → Int32) (hκ : κ ∈ ks) (hE : E κ = kI dd 12 f) (hf : ∀ k, k < 12 → f k = tab (b + k)) : kCi l yX10_countReplaced wsX10_countReplaced ({ frames := 0, cells := 0, slots := 0, locals := 0 } : Room) 0 0 dd [.ref (ad κ)] (ks, ad, E) (kQi (S := Unit) (fun r z => r = tld tab b 12) (fun _ => ks) (fun _ => ad) (fun _ => E)) := by
  refine kMeti (ws' := _) (cc := cX10_countReplaced) (maxL := 3) (rt := .int) (by decide) rfl (Nat.le_of_ble_eq_true rfl) (fun g X hr hnL hRR hl0 hkn => ?_)
  show kv dd g 0 0 0 [(0, .ref (ad κ))] [] ks ad E
  refine kv_iconst (v := 0) X dX10_countReplaced_0 (by decide) ?_
  refine kv_istore_n (lv2 := [(1, .int 0), (0, .ref (ad κ))]) X dX10_countReplaced_1 rfl (by rw [hnL]; decide) rfl ?_
  refine kv_iconst (v := 0) X dX10_countReplaced_2 (by decide) ?_
  refine kv_istore_n (lv2 := [(2, .int 0), (1, .int 0), (0, .ref (ad κ))]) X dX10_countReplaced_3 rfl (by rw [hnL]; decide) rfl ?_
  have L4 : ∀ (n9 i : Nat), i + n9 = 12 → ∀ (_ : Unit) , kv dd g 0 0 4 [(2, .int (nI i)), (1, .int (tld tab b i)), (0, .ref (ad κ))] [] ks ad E := by
    intro n9
    induction n9 with
    | zero =>
      intro i hin4 _ 
      refine kv_iload_n X 0 dX10_countReplaced_4 rfl rfl ?_
      refine kv_aload_n X 2 dX10_countReplaced_5 rfl rfl ?_
      refine kv_alenI X (κ := κ) (n := 12) (f := f) hκ hE dX10_countReplaced_6 ?_
      refine kn_icmp_ge (x := i) (y := 12) (tgt := 26) X (by omega) (by omega) dX10_countReplaced_7 (by decide) (fun hc7 => ?_) (fun hc7 => absurd hc7 (by omega))
      refine kv_iload_n X 1 dX10_countReplaced_26 rfl rfl ?_
      exact kv_ireturn X hr (Nat.le_of_ble_eq_true rfl) (Nat.le_of_ble_eq_true rfl) ⟨(), by rw [show i = 12 by omega], rfl⟩ dX10_countReplaced_27
    | succ n9 ih4 =>
      intro i hin4 _ 
      refine kv_iload_n X 0 dX10_countReplaced_4 rfl rfl ?_
      refine kv_aload_n X 2 dX10_countReplaced_5 rfl rfl ?_
      refine kv_alenI X (κ := κ) (n := 12) (f := f) hκ hE dX10_countReplaced_6 ?_
      refine kn_icmp_ge (x := i) (y := 12) (tgt := 26) X (by omega) (by omega) dX10_countReplaced_7 (by decide) (fun hc7 => absurd hc7 (by omega)) (fun hc7 => ?_)
      refine kv_aload_n X 2 dX10_countReplaced_10 rfl rfl ?_
      refine kv_iload_n X 0 dX10_countReplaced_11 rfl rfl ?_
      refine kv_iaload X (κ := κ) (n := 12) (j := i) (f := f) hκ hE (by omega) (by omega) dX10_countReplaced_12 ?_
      refine kv_topi (tab (b + i)) (hf i (by omega)) ?_
      refine kv_iconst (v := (-1)) X dX10_countReplaced_13 (by decide) ?_
      refine kv_icmp_eq (tgt := 20) X dX10_countReplaced_14 (by decide) (fun hc14 => ?_) (fun hc14 => ?_)
      ·
        refine kv_L [(2, .int (nI i)), (1, .int (tld tab b (i + 1))), (0, .ref (ad κ))] (by have h9 : (tld tab b (i + 1)) = (tld tab b i) := (by rw [tld, if_pos hc14, Int32.add_zero]); rw [h9]) ?_
        refine kv_iinc (j := 0) (v := (nI (i + 1))) (lv2 := [(2, .int (nI (i + 1))), (1, .int (tld tab b (i + 1))), (0, .ref (ad κ))]) X dX10_countReplaced_20 rfl (nI_add i 1) (by rw [hnL]; decide) rfl ?_
        refine kv_goto (tgt := 4) X dX10_countReplaced_23 (by decide) ?_
        exact kv_lv [0, 1, 2] rfl (ih4 (i + 1) (by omega) ())
      ·
        refine kv_iinc (j := 1) (v := ((tld tab b i) + 1)) (lv2 := [(1, .int ((tld tab b i) + 1)), (2, .int (nI i)), (0, .ref (ad κ))]) X dX10_countReplaced_17 rfl rfl (by rw [hnL]; decide) rfl ?_
        refine kv_L [(1, .int (tld tab b (i + 1))), (2, .int (nI i)), (0, .ref (ad κ))] (by have h9 : (tld tab b (i + 1)) = ((tld tab b i) + 1) := (by rw [tld, if_neg hc14]); rw [h9]) ?_
        refine kv_iinc (j := 1) (v := (nI (i + 1))) (lv2 := [(2, .int (nI (i + 1))), (1, .int (tld tab b (i + 1))), (0, .ref (ad κ))]) X dX10_countReplaced_20 rfl (nI_add i 1) (by rw [hnL]; decide) rfl ?_
        refine kv_goto (tgt := 4) X dX10_countReplaced_23 (by decide) ?_
        exact kv_lv [0, 1, 2] rfl (ih4 (i + 1) (by omega) ())
  exact kv_lv [0, 1, 2] rfl (L4 12 0 (by omega) ())

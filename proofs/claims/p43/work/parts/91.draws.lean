/-! P43: DRAWS -/
theorem nI_poss {m : Nat} (h : 0 < m) (h2 : m < 1000) : ¬ nI m = 0 := by
  intro q
  have := nI_inj (a := m) (b := 0) (by omega) (by omega) q
  omega
set_option maxRecDepth 100000 in
set_option maxHeartbeats 4000000 in
theorem c_L_cell (l : Launch) (dd : kDD) (u : kT) {sc L : Nat} {xs : Nat → Int32} (hLL : L ≤ 260) (i : Nat) (hi : i < 1000) : kCiS l yL_cell wsL_cell ({ frames := 0, cells := 0, slots := 0, locals := 0 } : Room) 0 0 dd [.ref sc, .int (nI i)] u sc L xs (kQi (S := Unit) (fun r z => True) (fun _ => u.1) (fun _ => u.2.1) (fun _ => u.2.2)) := by
  refine kMetiS (ws' := _) (cc := cL_cell) (maxL := 3) (rt := .int) (by decide) rfl (Nat.le_of_ble_eq_true rfl) (fun g X hr hs hnL hRR hl0 hkn => ?_)
  show kv dd g 0 0 0 [(0, .ref sc), (1, .int (nI i))] [] u.1 u.2.1 u.2.2
  refine kv_ldc (v := 69069) X dL_cell_0 (List.mem_cons_of_mem _ (List.mem_append_left _ (List.mem_of_getElem? (i := 0) rfl))) ?_
  refine kv_iload_n X 1 dL_cell_2 rfl rfl ?_
  refine kv_aload_n X 0 dL_cell_3 rfl rfl ?_
  refine kv_slen X hs dL_cell_4 ?_
  refine kn_icmp_ge (x := i) (y := L) (tgt := 14) X (by omega) (by omega) dL_cell_5 (by decide) (fun hc5 => ?_) (fun hc5 => ?_)
  ·
    refine kv_iconst (v := 0) X dL_cell_14 (by decide) ?_
    refine kv_sipush (v := 1009) X dL_cell_15 (by decide) ?_
    refine kv_iload_n X 1 dL_cell_18 rfl rfl ?_
    refine kv_imul X dL_cell_19 ?_
    refine kv_topi (nI (1009 * i)) (pk_mul 1009 i) ?_
    refine kv_iadd X dL_cell_20 ?_
    refine kv_topi (nI (0 + (1009 * i))) (nI_add 0 (1009 * i)) ?_
    refine kv_imul X dL_cell_21 ?_
    refine kv_topi (nI (69069 * (0 + (1009 * i)))) (pk_mul 69069 (0 + (1009 * i))) ?_
    refine kv_sipush (v := 12345) X dL_cell_22 (by decide) ?_
    refine kv_iadd X dL_cell_25 ?_
    refine kv_topi (nI ((69069 * (0 + (1009 * i))) + 12345)) (nI_add (69069 * (0 + (1009 * i))) 12345) ?_
    refine kv_istore_n (lv2 := [(2, .int (nI ((69069 * (0 + (1009 * i))) + 12345))), (0, .ref sc), (1, .int (nI i))]) X dL_cell_26 rfl (by rw [hnL]; decide) rfl ?_
    refine kv_iload_n X 0 dL_cell_27 rfl rfl ?_
    refine kv_iload_n X 0 dL_cell_28 rfl rfl ?_
    refine kv_bipush (v := 13) X dL_cell_29 (by decide) ?_
    refine kv_iushr (v := ((nI ((69069 * (0 + (1009 * i))) + 12345)).toUInt32 >>> ((13 : Int32).toUInt32 &&& Int32.toUInt32 31)).toInt32) X dL_cell_31 rfl ?_
    generalize (((nI ((69069 * (0 + (1009 * i))) + 12345)).toUInt32 >>> ((13 : Int32).toUInt32 &&& Int32.toUInt32 31)).toInt32) = q32
    refine kv_ixor X dL_cell_32 ?_
    refine kv_ldc (v := 1103515245) X dL_cell_33 (List.mem_cons_of_mem _ (List.mem_append_left _ (List.mem_of_getElem? (i := 1) rfl))) ?_
    refine kv_imul X dL_cell_35 ?_
    generalize (((nI ((69069 * (0 + (1009 * i))) + 12345)) ^^^ q32) * 1103515245) = q36
    refine kv_istore_n (lv2 := [(2, .int q36), (0, .ref sc), (1, .int (nI i))]) X dL_cell_36 rfl (by rw [hnL]; decide) rfl ?_
    refine kv_iload_n X 0 dL_cell_37 rfl rfl ?_
    refine kv_iload_n X 0 dL_cell_38 rfl rfl ?_
    refine kv_bipush (v := 16) X dL_cell_39 (by decide) ?_
    refine kv_iushr (v := (q36.toUInt32 >>> ((16 : Int32).toUInt32 &&& Int32.toUInt32 31)).toInt32) X dL_cell_41 rfl ?_
    generalize ((q36.toUInt32 >>> ((16 : Int32).toUInt32 &&& Int32.toUInt32 31)).toInt32) = q42
    refine kv_ixor X dL_cell_42 ?_
    exact kv_ireturn X hr (Nat.le_of_ble_eq_true rfl) (Nat.le_of_ble_eq_true rfl) ⟨(), trivial, rfl⟩ dL_cell_43
  ·
    refine kv_aload_n X 0 dL_cell_8 rfl rfl ?_
    refine kv_iload_n X 1 dL_cell_9 rfl rfl ?_
    refine kv_sld X hs (j := i) (by omega) (by omega) dL_cell_10 ?_
    refine kv_goto (tgt := 15) X dL_cell_11 (by decide) ?_
    refine kv_sipush (v := 1009) X dL_cell_15 (by decide) ?_
    refine kv_iload_n X 1 dL_cell_18 rfl rfl ?_
    refine kv_imul X dL_cell_19 ?_
    refine kv_topi (nI (1009 * i)) (pk_mul 1009 i) ?_
    refine kv_iadd X dL_cell_20 ?_
    refine kv_imul X dL_cell_21 ?_
    refine kv_sipush (v := 12345) X dL_cell_22 (by decide) ?_
    refine kv_iadd X dL_cell_25 ?_
    refine kv_istore_n (lv2 := [(2, .int ((69069 * ((xs i) + (nI (1009 * i)))) + 12345)), (0, .ref sc), (1, .int (nI i))]) X dL_cell_26 rfl (by rw [hnL]; decide) rfl ?_
    refine kv_iload_n X 0 dL_cell_27 rfl rfl ?_
    refine kv_iload_n X 0 dL_cell_28 rfl rfl ?_
    refine kv_bipush (v := 13) X dL_cell_29 (by decide) ?_
    refine kv_iushr (v := (((69069 * ((xs i) + (nI (1009 * i)))) + 12345).toUInt32 >>> ((13 : Int32).toUInt32 &&& Int32.toUInt32 31)).toInt32) X dL_cell_31 rfl ?_
    generalize ((((69069 * ((xs i) + (nI (1009 * i)))) + 12345).toUInt32 >>> ((13 : Int32).toUInt32 &&& Int32.toUInt32 31)).toInt32) = q32
    refine kv_ixor X dL_cell_32 ?_
    refine kv_ldc (v := 1103515245) X dL_cell_33 (List.mem_cons_of_mem _ (List.mem_append_left _ (List.mem_of_getElem? (i := 1) rfl))) ?_
    refine kv_imul X dL_cell_35 ?_
    generalize ((((69069 * ((xs i) + (nI (1009 * i)))) + 12345) ^^^ q32) * 1103515245) = q36
    refine kv_istore_n (lv2 := [(2, .int q36), (0, .ref sc), (1, .int (nI i))]) X dL_cell_36 rfl (by rw [hnL]; decide) rfl ?_
    refine kv_iload_n X 0 dL_cell_37 rfl rfl ?_
    refine kv_iload_n X 0 dL_cell_38 rfl rfl ?_
    refine kv_bipush (v := 16) X dL_cell_39 (by decide) ?_
    refine kv_iushr (v := (q36.toUInt32 >>> ((16 : Int32).toUInt32 &&& Int32.toUInt32 31)).toInt32) X dL_cell_41 rfl ?_
    generalize ((q36.toUInt32 >>> ((16 : Int32).toUInt32 &&& Int32.toUInt32 31)).toInt32) = q42
    refine kv_ixor X dL_cell_42 ?_
    exact kv_ireturn X hr (Nat.le_of_ble_eq_true rfl) (Nat.le_of_ble_eq_true rfl) ⟨(), trivial, rfl⟩ dL_cell_43
set_option maxRecDepth 100000 in
set_option maxHeartbeats 4000000 in
theorem sh8 (c : Int32) : ∃ n, n < 2 ^ 31 ∧ (c.toUInt32 >>> ((8 : Int32).toUInt32 &&& Int32.toUInt32 31)).toInt32 = nI n := by
  refine ⟨(c.toUInt32 >>> ((8 : Int32).toUInt32 &&& Int32.toUInt32 31)).toNat, ?_, ?_⟩
  · rw [show ((8 : Int32).toUInt32 &&& Int32.toUInt32 31) = 8 by decide, UInt32.toNat_shiftRight]
    have := c.toUInt32.toNat_lt
    have e : (8 : UInt32).toNat % 32 = 8 := by decide
    rw [e, Nat.shiftRight_eq_div_pow]
    omega
  · apply Int32.toBitVec_inj.mp
    show _ = BitVec.ofNat 32 _
    rw [← UInt32.toNat_toBitVec, BitVec.ofNat_toNat, BitVec.setWidth_eq]
    rfl
set_option maxRecDepth 100000 in
set_option maxHeartbeats 4000000 in
theorem c_L_pick (l : Launch) (dd : kDD) (u : kT) {sc L : Nat} {xs : Nat → Int32} (hLL : L ≤ 260) (i m : Nat) (hi : i < 1000) (hm : 0 < m ∧ m < 1000) : kCiS l yL_pick wsL_pick ({ frames := 1, cells := 0, slots := 0, locals := 60 } : Room) 0 0 dd [.ref sc, .int (nI i), .int (nI m)] u sc L xs (kQi (S := Nat) (fun r z => z < m ∧ r = nI z) (fun _ => u.1) (fun _ => u.2.1) (fun _ => u.2.2)) := by
  refine kMetiS (ws' := _) (cc := cL_pick) (maxL := 3) (rt := .int) (by decide) rfl (Nat.le_of_ble_eq_true rfl) (fun g X hr hs hnL hRR hl0 hkn => ?_)
  show kv dd g 0 0 0 [(0, .ref sc), (1, .int (nI i)), (2, .int (nI m))] [] u.1 u.2.1 u.2.2
  refine kv_aload_n X 0 dL_pick_0 rfl rfl ?_
  refine kv_iload_n X 1 dL_pick_1 rfl rfl ?_
  refine kv_calliSs (As := [.ref sc, .int (nI i)]) [] X hs (c_L_cell l dd u hLL i hi) hl0 (kCS_of X 2 gL_pick_L_cell rfl rfl rfl (by decide +kernel) hRR ⟨(Nat.le_of_ble_eq_true rfl), (Nat.le_of_ble_eq_true rfl)⟩) rfl rfl (Nat.le_of_ble_eq_true rfl) hRR ⟨(Nat.le_of_ble_eq_true rfl), (Nat.le_of_ble_eq_true rfl)⟩ dL_pick_2 (fun r z _ => ?_)
  refine kv_bipush (v := 8) X dL_pick_5 (by decide) ?_
  refine kv_iushr (v := (r.toUInt32 >>> ((8 : Int32).toUInt32 &&& Int32.toUInt32 31)).toInt32) X dL_pick_7 rfl ?_
  obtain ⟨n, hn, en⟩ := sh8 r
  rw [en]
  refine kv_iload_n X 2 dL_pick_8 rfl rfl ?_
  refine kv_irem X dL_pick_9 (nI_poss hm.1 hm.2) ?_
  refine kv_topi (nI (n % m)) (pk_rem hn hm.1 (by omega)) ?_
  exact kv_ireturn X hr (Nat.le_of_ble_eq_true rfl) (Nat.le_of_ble_eq_true rfl) ⟨n % m, ⟨Nat.mod_lt _ hm.1, rfl⟩, rfl⟩ dL_pick_10
set_option maxRecDepth 100000 in
set_option maxHeartbeats 4000000 in
theorem c_L_shape (l : Launch) (dd : kDD) (u : kT) (v : Int32) : kCi l yL_shape wsL_shape ({ frames := 0, cells := 0, slots := 0, locals := 0 } : Room) 0 0 dd [.int v] u (kQi (S := Unit) (fun _ _ => True) (fun _ => u.1) (fun _ => u.2.1) (fun _ => u.2.2)) := by
  refine kMeti (ws' := _) (cc := cL_shape) (maxL := 1) (rt := .char) (by decide) rfl (Nat.le_of_ble_eq_true rfl) (fun g X hr hnL hRR hl0 hkn => ?_)
  show kv dd g 0 0 0 [(0, .int v)] [] u.1 u.2.1 u.2.2
  refine kv_iload_n X 0 dL_shape_0 rfl rfl ?_
  refine kv_if_ne (tgt := 9) X dL_shape_1 (by decide) (fun hc1 => ?_) (fun hc1 => ?_)
  ·
    refine kv_iload_n X 0 dL_shape_9 rfl rfl ?_
    refine kv_iconst (v := 1) X dL_shape_10 (by decide) ?_
    refine kv_icmp_ne (tgt := 19) X dL_shape_11 (by decide) (fun hc11 => ?_) (fun hc11 => ?_)
    ·
      refine kv_iload_n X 0 dL_shape_19 rfl rfl ?_
      refine kv_iconst (v := 2) X dL_shape_20 (by decide) ?_
      refine kv_icmp_ne (tgt := 29) X dL_shape_21 (by decide) (fun hc21 => ?_) (fun hc21 => ?_)
      ·
        refine kv_iload_n X 0 dL_shape_29 rfl rfl ?_
        refine kv_iconst (v := 3) X dL_shape_30 (by decide) ?_
        refine kv_icmp_ne (tgt := 39) X dL_shape_31 (by decide) (fun hc31 => ?_) (fun hc31 => ?_)
        ·
          refine kv_iload_n X 0 dL_shape_39 rfl rfl ?_
          refine kv_iconst (v := 4) X dL_shape_40 (by decide) ?_
          refine kv_icmp_ne (tgt := 49) X dL_shape_41 (by decide) (fun hc41 => ?_) (fun hc41 => ?_)
          ·
            refine kv_bipush (v := 118) X dL_shape_49 (by decide) ?_
            exact kv_nreturn X hr rfl (Nat.le_of_ble_eq_true rfl) (Nat.le_of_ble_eq_true rfl) ⟨(), trivial, rfl⟩ dL_shape_51
          ·
            refine kv_bipush (v := 112) X dL_shape_44 (by decide) ?_
            refine kv_goto (tgt := 51) X dL_shape_46 (by decide) ?_
            exact kv_nreturn X hr rfl (Nat.le_of_ble_eq_true rfl) (Nat.le_of_ble_eq_true rfl) ⟨(), trivial, rfl⟩ dL_shape_51
        ·
          refine kv_bipush (v := 116) X dL_shape_34 (by decide) ?_
          refine kv_goto (tgt := 51) X dL_shape_36 (by decide) ?_
          exact kv_nreturn X hr rfl (Nat.le_of_ble_eq_true rfl) (Nat.le_of_ble_eq_true rfl) ⟨(), trivial, rfl⟩ dL_shape_51
      ·
        refine kv_bipush (v := 114) X dL_shape_24 (by decide) ?_
        refine kv_goto (tgt := 51) X dL_shape_26 (by decide) ?_
        exact kv_nreturn X hr rfl (Nat.le_of_ble_eq_true rfl) (Nat.le_of_ble_eq_true rfl) ⟨(), trivial, rfl⟩ dL_shape_51
    ·
      refine kv_bipush (v := 108) X dL_shape_14 (by decide) ?_
      refine kv_goto (tgt := 51) X dL_shape_16 (by decide) ?_
      exact kv_nreturn X hr rfl (Nat.le_of_ble_eq_true rfl) (Nat.le_of_ble_eq_true rfl) ⟨(), trivial, rfl⟩ dL_shape_51
  ·
    refine kv_bipush (v := 110) X dL_shape_4 (by decide) ?_
    refine kv_goto (tgt := 51) X dL_shape_6 (by decide) ?_
    exact kv_nreturn X hr rfl (Nat.le_of_ble_eq_true rfl) (Nat.le_of_ble_eq_true rfl) ⟨(), trivial, rfl⟩ dL_shape_51

theorem f_X2_findDepths_18 : kF wsX2_findDepths RX2 18 5 3 := ⟨_, RX2, TX2, 9, fun _ h => (List.mem_cons_of_mem _ (List.mem_append_left _ (List.mem_append_left _ (List.mem_append_left _ (List.mem_append_left _ (List.mem_append_left _ (List.mem_append_right _ h))))))), (List.mem_cons_of_mem _ (List.mem_append_left _ (List.mem_append_left _ (List.mem_append_left _ (List.mem_append_left _ (List.mem_append_left _ (List.mem_append_left _ (List.mem_append_left _ (List.mem_of_getElem? (i := 0) rfl))))))))), rfl, by decide, rfl⟩
theorem f_X2_findDepths_39 : kF wsX2_findDepths RX2 39 5 0 := ⟨_, RX2, TX2, 9, fun _ h => (List.mem_cons_of_mem _ (List.mem_append_left _ (List.mem_append_left _ (List.mem_append_left _ (List.mem_append_left _ (List.mem_append_left _ (List.mem_append_right _ h))))))), (List.mem_cons_of_mem _ (List.mem_append_left _ (List.mem_append_left _ (List.mem_append_left _ (List.mem_append_left _ (List.mem_append_left _ (List.mem_append_left _ (List.mem_append_left _ (List.mem_of_getElem? (i := 1) rfl))))))))), rfl, by decide, rfl⟩
theorem f_X2_findDepths_43 : kF wsX2_findDepths RX2 43 9 2 := ⟨_, RX6, TX6, 7, fun _ h => (List.mem_cons_of_mem _ (List.mem_append_left _ (List.mem_append_left _ (List.mem_append_left _ (List.mem_append_left _ (List.mem_append_right _ h)))))), (List.mem_cons_of_mem _ (List.mem_append_left _ (List.mem_append_left _ (List.mem_append_left _ (List.mem_append_left _ (List.mem_append_left _ (List.mem_append_left _ (List.mem_append_left _ (List.mem_of_getElem? (i := 2) rfl))))))))), rfl, by decide, rfl⟩
set_option maxRecDepth 100000 in
set_option maxHeartbeats 4000000 in
theorem c_X2_findDepths (l : Launch) (dd : kDD) (ks : List Nat) (ad : Nat → Nat) (E : Nat → va_E) (e : eS) (M : mS) (nR nC nt nL nW nV nM : Nat) (cn nm mn me li rl : Nat → Nat) (on : Int32) (hO : cO dd ks ad E on) (hR : cR dd ks ad E M nR) (hC : cC dd ks ad E M nC mn me) (hT : cT dd ks ad E M nt cn nm) (hL : cL dd ks ad E M nL nW li) (hW : cW dd ks ad E M nW rl) (hV : cV dd ks ad E M nV) (hM : cM dd ks ad E M nM) (hB : cB M nR nC nt nL nW nV cn nm mn me li rl) (mi : Nat → Nat) (hmi : ∀ j, j < nt → e.1 17 j = nI (mi j) ∧ mi j < nt) : kCi l yX2_findDepths wsX2_findDepths ({ frames := 4, cells := 0, slots := 0, locals := 89 } : Room) 0 0 dd [.ref (ad 2)] (ks, ad, (cE dd E e)) (kQi (S := eS) (fun r z => (va_up e.1 19 (cpt (M.2.1 13) cn (fun k => mi (nm k)) nt (mset (e.1 19) (fun _ => 1) 12) 3), e.2) = z ∧ ((r = 1 ∧ ∀ j, j < nt → cpt (M.2.1 13) cn (fun k => mi (nm k)) nt (mset (e.1 19) (fun _ => 1) 12) 3 j ≤ 3) ∨ (r = 0 ∧ ¬ ∀ j, j < nt → cpt (M.2.1 13) cn (fun k => mi (nm k)) nt (mset (e.1 19) (fun _ => 1) 12) 3 j ≤ 3))) (fun _ => ks) (fun _ => ad) (fun z => cE dd E z)) := by
  refine kMeti (ws' := _) (cc := cX2_findDepths) (maxL := 3) (rt := .boolean) (by decide) rfl (Nat.le_of_ble_eq_true rfl) (fun g X hr hnL hRR hl0 hkn => ?_)
  show kv dd g 0 0 0 [(0, .ref (ad 2))] [] ks ad (cE dd E e)
  have hT12 := hT.1
  refine kv_aload_n X 0 dX2_findDepths_0 rfl rfl ?_
  refine kv_getfield X f_X2_findDepths_18 (κ := 2) (fs := [.ref (ad 1), .ref (ad 17), .ref (ad 18), .ref (ad 19), .ref (ad 20), .ref (ad 21), .ref (ad 22), .ref (ad 23), .ref (ad 24)]) (v := .ref (ad 19)) hO.2.2.1.1 ((cE_ne (by omega)).trans hO.2.2.1.2) rfl dX2_findDepths_1 ?_
  refine kv_iconst (v := 1) X dX2_findDepths_4 (by decide) ?_
  refine kv_callvS (As := [.ref (ad 19), .int 1]) [] X (c_J7_fill_53178 l dd ks ad (cE dd E e) (19) 12 (e.1 19) 1 (hO.2.2.2.1 _ (by omega) (by omega)) (cE_I (by omega)) (by omega)) hl0 (kCS_of X 2 gX2_findDepths_J7_fill_53178 rfl rfl rfl (by decide +kernel) hRR ⟨(Nat.le_of_ble_eq_true rfl), (Nat.le_of_ble_eq_true rfl)⟩) rfl rfl (Nat.le_of_ble_eq_true rfl) hRR ⟨(Nat.le_of_ble_eq_true rfl), (Nat.le_of_ble_eq_true rfl)⟩ dX2_findDepths_5 (fun z hp => ?_)
  refine kv_E (fun j _ => cE_upI (k := 19) (by omega) _ j) ?_
  refine kv_iconst (v := 0) X dX2_findDepths_8 (by decide) ?_
  refine kv_istore_n (lv2 := [(1, .int 0), (0, .ref (ad 2))]) X dX2_findDepths_9 rfl (by rw [hnL]; decide) rfl ?_
  have L10 : ∀ (n9 p : Nat), p + n9 = 3 → ∀ (_ : Unit) , kv dd g 0 0 10 [(1, .int (nI p)), (0, .ref (ad 2))] [] ks ad (cE dd E ((va_up e.1 19 (cpt (M.2.1 13) cn (fun k => mi (nm k)) nt (mset (e.1 19) (fun _ => 1) 12) p)), e.2)) := by
    intro n9
    induction n9 with
    | zero =>
      intro p hin10 _ 
      refine kv_iload_n X 0 dX2_findDepths_10 rfl rfl ?_
      refine kv_iconst (v := 3) X dX2_findDepths_11 (by decide) ?_
      refine kn_icmp_ge (x := p) (y := 3) (tgt := 56) X (by omega) (by omega) dX2_findDepths_12 (by decide) (fun hc12 => ?_) (fun hc12 => absurd hc12 (by omega))
      refine kv_iconst (v := 0) X dX2_findDepths_56 (by decide) ?_
      refine kv_istore_n (lv2 := [(1, .int 0), (0, .ref (ad 2))]) X dX2_findDepths_57 rfl (by rw [hnL]; decide) rfl ?_
      have L58 : ∀ (n7 i : Nat), i + n7 = nt → ∀ (_ : Unit) (hle : ∀ j, j < i → cpt (M.2.1 13) cn (fun k => mi (nm k)) nt (mset (e.1 19) (fun _ => 1) 12) p j ≤ 3), kv dd g 0 0 58 [(1, .int (nI i)), (0, .ref (ad 2))] [] ks ad (cE dd E ((va_up e.1 19 (cpt (M.2.1 13) cn (fun k => mi (nm k)) nt (mset (e.1 19) (fun _ => 1) 12) p)), e.2)) := by
        intro n7
        induction n7 with
        | zero =>
          intro i hin58 _ hle
          refine kv_iload_n X 0 dX2_findDepths_58 rfl rfl ?_
          refine kv_aload_n X 1 dX2_findDepths_59 rfl rfl ?_
          refine kv_getfield X f_X2_findDepths_39 (κ := 2) (fs := [.ref (ad 1), .ref (ad 17), .ref (ad 18), .ref (ad 19), .ref (ad 20), .ref (ad 21), .ref (ad 22), .ref (ad 23), .ref (ad 24)]) (v := .ref (ad 1)) hO.2.2.1.1 ((cE_ne (by omega)).trans hO.2.2.1.2) rfl dX2_findDepths_60 ?_
          refine kv_getfield X f_X2_findDepths_43 (κ := 1) (fs := [.ref (ad 3), .ref (ad 4), .ref (ad 5), .ref (ad 6), .ref (ad 7), .ref (ad 8), .ref (ad 9)]) (v := .ref (ad 5)) hO.2.1.1 ((cE_ne (by omega)).trans hO.2.1.2) rfl dX2_findDepths_63 ?_
          obtain ⟨_, _, o66⟩ := kLs_obj (dd := dd) (ks := ks) (ad := ad) (E := (cE dd E ((va_up e.1 19 (cpt (M.2.1 13) cn (fun k => mi (nm k)) nt (mset (e.1 19) (fun _ => 1) 12) p)), e.2))) (kLs_cE hT.2.1 (by omega) (by omega) (fun i hi => by omega))
          refine kv_calliV (ci := 2) (κ := 5) (r1 := (TJx4a65c, 3)) (As := []) [.int (nI i)] X (c_Jx4a65c_size_8abf5 l dd ks ad (cE dd E ((va_up e.1 19 (cpt (M.2.1 13) cn (fun k => mi (nm k)) nt (mset (e.1 19) (fun _ => 1) 12) p)), e.2)) (5) (12) (nt) (fun i => 96 + i) 6 (kLs_cE hT.2.1 (by omega) (by omega) (fun i hi => by omega))) hl0 (kCV_of X 0 gX2_findDepths_Jx4a65c_size_8abf5 rfl rfl rfl (by decide +kernel) hRR ⟨(Nat.le_of_ble_eq_true rfl), (Nat.le_of_ble_eq_true rfl)⟩) hT.2.1.1 o66 rfl rfl rfl (Nat.le_of_ble_eq_true rfl) hRR ⟨(Nat.le_of_ble_eq_true rfl), (Nat.le_of_ble_eq_true rfl)⟩ dX2_findDepths_66 (fun r z hp => ?_)
          obtain rfl := hp
          refine kn_icmp_ge (x := i) (y := nt) (tgt := 90) X (by omega) (by omega) dX2_findDepths_69 (by decide) (fun hc69 => ?_) (fun hc69 => absurd hc69 (by omega))
          refine kv_iconst (v := 1) X dX2_findDepths_90 (by decide) ?_
          exact kv_zreturn X hr rfl (Nat.le_of_ble_eq_true rfl) (Nat.le_of_ble_eq_true rfl) ⟨((va_up e.1 19 (cpt (M.2.1 13) cn (fun k => mi (nm k)) nt (mset (e.1 19) (fun _ => 1) 12) p)), e.2), ⟨by rw [show p = 3 by omega], Or.inl ⟨rfl, fun j hj => by have h9 := hle j (by omega); rw [show p = 3 by omega] at h9; exact h9⟩⟩, rfl⟩ dX2_findDepths_91
        | succ n7 ih58 =>
          intro i hin58 _ hle
          refine kv_iload_n X 0 dX2_findDepths_58 rfl rfl ?_
          refine kv_aload_n X 1 dX2_findDepths_59 rfl rfl ?_
          refine kv_getfield X f_X2_findDepths_39 (κ := 2) (fs := [.ref (ad 1), .ref (ad 17), .ref (ad 18), .ref (ad 19), .ref (ad 20), .ref (ad 21), .ref (ad 22), .ref (ad 23), .ref (ad 24)]) (v := .ref (ad 1)) hO.2.2.1.1 ((cE_ne (by omega)).trans hO.2.2.1.2) rfl dX2_findDepths_60 ?_
          refine kv_getfield X f_X2_findDepths_43 (κ := 1) (fs := [.ref (ad 3), .ref (ad 4), .ref (ad 5), .ref (ad 6), .ref (ad 7), .ref (ad 8), .ref (ad 9)]) (v := .ref (ad 5)) hO.2.1.1 ((cE_ne (by omega)).trans hO.2.1.2) rfl dX2_findDepths_63 ?_
          obtain ⟨_, _, o66⟩ := kLs_obj (dd := dd) (ks := ks) (ad := ad) (E := (cE dd E ((va_up e.1 19 (cpt (M.2.1 13) cn (fun k => mi (nm k)) nt (mset (e.1 19) (fun _ => 1) 12) p)), e.2))) (kLs_cE hT.2.1 (by omega) (by omega) (fun i hi => by omega))
          refine kv_calliV (ci := 2) (κ := 5) (r1 := (TJx4a65c, 3)) (As := []) [.int (nI i)] X (c_Jx4a65c_size_8abf5 l dd ks ad (cE dd E ((va_up e.1 19 (cpt (M.2.1 13) cn (fun k => mi (nm k)) nt (mset (e.1 19) (fun _ => 1) 12) p)), e.2)) (5) (12) (nt) (fun i => 96 + i) 6 (kLs_cE hT.2.1 (by omega) (by omega) (fun i hi => by omega))) hl0 (kCV_of X 0 gX2_findDepths_Jx4a65c_size_8abf5 rfl rfl rfl (by decide +kernel) hRR ⟨(Nat.le_of_ble_eq_true rfl), (Nat.le_of_ble_eq_true rfl)⟩) hT.2.1.1 o66 rfl rfl rfl (Nat.le_of_ble_eq_true rfl) hRR ⟨(Nat.le_of_ble_eq_true rfl), (Nat.le_of_ble_eq_true rfl)⟩ dX2_findDepths_66 (fun r z hp => ?_)
          obtain rfl := hp
          refine kn_icmp_ge (x := i) (y := nt) (tgt := 90) X (by omega) (by omega) dX2_findDepths_69 (by decide) (fun hc69 => absurd hc69 (by omega)) (fun hc69 => ?_)
          refine kv_aload_n X 1 dX2_findDepths_72 rfl rfl ?_
          refine kv_getfield X f_X2_findDepths_18 (κ := 2) (fs := [.ref (ad 1), .ref (ad 17), .ref (ad 18), .ref (ad 19), .ref (ad 20), .ref (ad 21), .ref (ad 22), .ref (ad 23), .ref (ad 24)]) (v := .ref (ad 19)) hO.2.2.1.1 ((cE_ne (by omega)).trans hO.2.2.1.2) rfl dX2_findDepths_73 ?_
          refine kv_iload_n X 0 dX2_findDepths_76 rfl rfl ?_
          refine ke_iald X (19) (j := i) (hO.2.2.2.1 _ (by omega) (by omega)) (by omega) (by omega) dX2_findDepths_77 ?_
          refine kv_topi ((cpt (M.2.1 13) cn (fun k => mi (nm k)) nt (mset (e.1 19) (fun _ => 1) 12) p) i) rfl ?_
          refine kv_iconst (v := 3) X dX2_findDepths_78 (by decide) ?_
          refine kv_icmp_le (tgt := 84) X dX2_findDepths_79 (by decide) (fun hc79 => ?_) (fun hc79 => ?_)
          ·
            refine kv_iinc (j := 0) (v := (nI (i + 1))) (lv2 := [(1, .int (nI (i + 1))), (0, .ref (ad 2))]) X dX2_findDepths_84 rfl (nI_add i 1) (by rw [hnL]; decide) rfl ?_
            refine kv_goto (tgt := 58) X dX2_findDepths_87 (by decide) ?_
            exact kv_lv [0, 1] rfl (ih58 (i + 1) (by omega) () (fun j hj => (Nat.lt_succ_iff_lt_or_eq.mp hj).elim (hle j) (fun q => by rw [q]; exact hc79)))
          ·
            refine kv_iconst (v := 0) X dX2_findDepths_82 (by decide) ?_
            exact kv_zreturn X hr rfl (Nat.le_of_ble_eq_true rfl) (Nat.le_of_ble_eq_true rfl) ⟨((va_up e.1 19 (cpt (M.2.1 13) cn (fun k => mi (nm k)) nt (mset (e.1 19) (fun _ => 1) 12) p)), e.2), ⟨by rw [show p = 3 by omega], Or.inr ⟨rfl, fun q => hc79 (by have h9 := q i (by omega); rw [show p = 3 by omega]; exact h9)⟩⟩, rfl⟩ dX2_findDepths_83
      exact kv_lv [0, 1] rfl (L58 nt 0 (by omega) () (fun j hj => absurd hj (by omega)))
    | succ n9 ih10 =>
      intro p hin10 _ 
      refine kv_iload_n X 0 dX2_findDepths_10 rfl rfl ?_
      refine kv_iconst (v := 3) X dX2_findDepths_11 (by decide) ?_
      refine kn_icmp_ge (x := p) (y := 3) (tgt := 56) X (by omega) (by omega) dX2_findDepths_12 (by decide) (fun hc12 => absurd hc12 (by omega)) (fun hc12 => ?_)
      refine kv_iconst (v := 0) X dX2_findDepths_15 (by decide) ?_
      refine kv_istore_n (lv2 := [(2, .int 0), (1, .int (nI p)), (0, .ref (ad 2))]) X dX2_findDepths_16 rfl (by rw [hnL]; decide) rfl ?_
      have L17 : ∀ (n8 i : Nat), i + n8 = nt → ∀ (_ : Unit) , kv dd g 0 0 17 [(2, .int (nI i)), (1, .int (nI p)), (0, .ref (ad 2))] [] ks ad (cE dd E ((va_up e.1 19 (cps (M.2.1 13) cn (fun k => mi (nm k)) (cpt (M.2.1 13) cn (fun k => mi (nm k)) nt (mset (e.1 19) (fun _ => 1) 12) p) i)), e.2)) := by
        intro n8
        induction n8 with
        | zero =>
          intro i hin17 _ 
          refine kv_iload_n X 0 dX2_findDepths_17 rfl rfl ?_
          refine kv_aload_n X 2 dX2_findDepths_18 rfl rfl ?_
          refine kv_getfield X f_X2_findDepths_39 (κ := 2) (fs := [.ref (ad 1), .ref (ad 17), .ref (ad 18), .ref (ad 19), .ref (ad 20), .ref (ad 21), .ref (ad 22), .ref (ad 23), .ref (ad 24)]) (v := .ref (ad 1)) hO.2.2.1.1 ((cE_ne (by omega)).trans hO.2.2.1.2) rfl dX2_findDepths_19 ?_
          refine kv_getfield X f_X2_findDepths_43 (κ := 1) (fs := [.ref (ad 3), .ref (ad 4), .ref (ad 5), .ref (ad 6), .ref (ad 7), .ref (ad 8), .ref (ad 9)]) (v := .ref (ad 5)) hO.2.1.1 ((cE_ne (by omega)).trans hO.2.1.2) rfl dX2_findDepths_22 ?_
          obtain ⟨_, _, o25⟩ := kLs_obj (dd := dd) (ks := ks) (ad := ad) (E := (cE dd E ((va_up e.1 19 (cps (M.2.1 13) cn (fun k => mi (nm k)) (cpt (M.2.1 13) cn (fun k => mi (nm k)) nt (mset (e.1 19) (fun _ => 1) 12) p) i)), e.2))) (kLs_cE hT.2.1 (by omega) (by omega) (fun i hi => by omega))
          refine kv_calliV (ci := 2) (κ := 5) (r1 := (TJx4a65c, 3)) (As := []) [.int (nI i)] X (c_Jx4a65c_size_8abf5 l dd ks ad (cE dd E ((va_up e.1 19 (cps (M.2.1 13) cn (fun k => mi (nm k)) (cpt (M.2.1 13) cn (fun k => mi (nm k)) nt (mset (e.1 19) (fun _ => 1) 12) p) i)), e.2)) (5) (12) (nt) (fun i => 96 + i) 6 (kLs_cE hT.2.1 (by omega) (by omega) (fun i hi => by omega))) hl0 (kCV_of X 0 gX2_findDepths_Jx4a65c_size_8abf5 rfl rfl rfl (by decide +kernel) hRR ⟨(Nat.le_of_ble_eq_true rfl), (Nat.le_of_ble_eq_true rfl)⟩) hT.2.1.1 o25 rfl rfl rfl (Nat.le_of_ble_eq_true rfl) hRR ⟨(Nat.le_of_ble_eq_true rfl), (Nat.le_of_ble_eq_true rfl)⟩ dX2_findDepths_25 (fun r z hp => ?_)
          obtain rfl := hp
          refine kn_icmp_ge (x := i) (y := nt) (tgt := 50) X (by omega) (by omega) dX2_findDepths_28 (by decide) (fun hc28 => ?_) (fun hc28 => absurd hc28 (by omega))
          refine kv_e ((va_up e.1 19 (cpt (M.2.1 13) cn (fun k => mi (nm k)) nt (mset (e.1 19) (fun _ => 1) 12) (p + 1))), e.2) (by show ((va_up e.1 19 (cps (M.2.1 13) cn (fun k => mi (nm k)) (cpt (M.2.1 13) cn (fun k => mi (nm k)) nt (mset (e.1 19) (fun _ => 1) 12) p) i)), e.2) = _; rw [show i = nt by omega]; rfl) ?_
          refine kv_iinc (j := 1) (v := (nI (p + 1))) (lv2 := [(1, .int (nI (p + 1))), (2, .int (nI i)), (0, .ref (ad 2))]) X dX2_findDepths_50 rfl (nI_add p 1) (by rw [hnL]; decide) rfl ?_
          refine kv_goto (tgt := 10) X dX2_findDepths_53 (by decide) ?_
          exact kv_lv [0, 2] rfl (ih10 (p + 1) (by omega) ())
        | succ n8 ih17 =>
          intro i hin17 _ 
          refine kv_iload_n X 0 dX2_findDepths_17 rfl rfl ?_
          refine kv_aload_n X 2 dX2_findDepths_18 rfl rfl ?_
          refine kv_getfield X f_X2_findDepths_39 (κ := 2) (fs := [.ref (ad 1), .ref (ad 17), .ref (ad 18), .ref (ad 19), .ref (ad 20), .ref (ad 21), .ref (ad 22), .ref (ad 23), .ref (ad 24)]) (v := .ref (ad 1)) hO.2.2.1.1 ((cE_ne (by omega)).trans hO.2.2.1.2) rfl dX2_findDepths_19 ?_
          refine kv_getfield X f_X2_findDepths_43 (κ := 1) (fs := [.ref (ad 3), .ref (ad 4), .ref (ad 5), .ref (ad 6), .ref (ad 7), .ref (ad 8), .ref (ad 9)]) (v := .ref (ad 5)) hO.2.1.1 ((cE_ne (by omega)).trans hO.2.1.2) rfl dX2_findDepths_22 ?_
          obtain ⟨_, _, o25⟩ := kLs_obj (dd := dd) (ks := ks) (ad := ad) (E := (cE dd E ((va_up e.1 19 (cps (M.2.1 13) cn (fun k => mi (nm k)) (cpt (M.2.1 13) cn (fun k => mi (nm k)) nt (mset (e.1 19) (fun _ => 1) 12) p) i)), e.2))) (kLs_cE hT.2.1 (by omega) (by omega) (fun i hi => by omega))
          refine kv_calliV (ci := 2) (κ := 5) (r1 := (TJx4a65c, 3)) (As := []) [.int (nI i)] X (c_Jx4a65c_size_8abf5 l dd ks ad (cE dd E ((va_up e.1 19 (cps (M.2.1 13) cn (fun k => mi (nm k)) (cpt (M.2.1 13) cn (fun k => mi (nm k)) nt (mset (e.1 19) (fun _ => 1) 12) p) i)), e.2)) (5) (12) (nt) (fun i => 96 + i) 6 (kLs_cE hT.2.1 (by omega) (by omega) (fun i hi => by omega))) hl0 (kCV_of X 0 gX2_findDepths_Jx4a65c_size_8abf5 rfl rfl rfl (by decide +kernel) hRR ⟨(Nat.le_of_ble_eq_true rfl), (Nat.le_of_ble_eq_true rfl)⟩) hT.2.1.1 o25 rfl rfl rfl (Nat.le_of_ble_eq_true rfl) hRR ⟨(Nat.le_of_ble_eq_true rfl), (Nat.le_of_ble_eq_true rfl)⟩ dX2_findDepths_25 (fun r z hp => ?_)
          obtain rfl := hp
          refine kn_icmp_ge (x := i) (y := nt) (tgt := 50) X (by omega) (by omega) dX2_findDepths_28 (by decide) (fun hc28 => absurd hc28 (by omega)) (fun hc28 => ?_)
          refine kv_aload_n X 2 dX2_findDepths_31 rfl rfl ?_
          refine kv_getfield X f_X2_findDepths_18 (κ := 2) (fs := [.ref (ad 1), .ref (ad 17), .ref (ad 18), .ref (ad 19), .ref (ad 20), .ref (ad 21), .ref (ad 22), .ref (ad 23), .ref (ad 24)]) (v := .ref (ad 19)) hO.2.2.1.1 ((cE_ne (by omega)).trans hO.2.2.1.2) rfl dX2_findDepths_32 ?_
          refine kv_iload_n X 0 dX2_findDepths_35 rfl rfl ?_
          refine kv_iconst (v := 1) X dX2_findDepths_36 (by decide) ?_
          refine kv_aload_n X 2 dX2_findDepths_37 rfl rfl ?_
          refine kv_iload_n X 0 dX2_findDepths_38 rfl rfl ?_
          refine kv_calliV (ci := 5) (κ := 2) (r1 := (TX2, 9)) (As := [.int (nI i)]) [.int 1, .int (nI i), .ref (ad 19)] X (c_X2_deepestPart l dd ks ad E ((va_up e.1 19 (cps (M.2.1 13) cn (fun k => mi (nm k)) (cpt (M.2.1 13) cn (fun k => mi (nm k)) nt (mset (e.1 19) (fun _ => 1) 12) p) i)), e.2) M nR nC nt nL nW nV nM cn nm mn me li rl on hO hR hC hT hL hW hV hM hB i (by omega) mi hmi) hl0 (kCV_of X 1 gX2_findDepths_X2_deepestPart rfl rfl rfl (by decide +kernel) hRR ⟨(Nat.le_of_ble_eq_true rfl), (Nat.le_of_ble_eq_true rfl)⟩) hO.2.2.1.1 ((cE_ne (by omega)).trans hO.2.2.1.2) rfl rfl rfl (Nat.le_of_ble_eq_true rfl) hRR ⟨(Nat.le_of_ble_eq_true rfl), (Nat.le_of_ble_eq_true rfl)⟩ dX2_findDepths_39 (fun r z hp => ?_)
          obtain ⟨rfl, rfl⟩ := hp
          refine kv_iadd X dX2_findDepths_42 ?_
          refine ke_iast X (19) (j := i) (x := (1 + (cmx (M.2.1 13) (fun k => (cps (M.2.1 13) cn (fun k => mi (nm k)) (cpt (M.2.1 13) cn (fun k => mi (nm k)) nt (mset (e.1 19) (fun _ => 1) 12) p) i) (mi (nm k))) (4 * i) (cn i)))) (hO.2.2.2.1 _ (by omega) (by omega)) (by omega) (by omega) dX2_findDepths_43 ?_
          refine kv_e ((va_up e.1 19 (cps (M.2.1 13) cn (fun k => mi (nm k)) (cpt (M.2.1 13) cn (fun k => mi (nm k)) nt (mset (e.1 19) (fun _ => 1) 12) p) (i + 1))), e.2) (by show ((va_up (va_up e.1 19 (cps (M.2.1 13) cn (fun k => mi (nm k)) (cpt (M.2.1 13) cn (fun k => mi (nm k)) nt (mset (e.1 19) (fun _ => 1) 12) p) i)) 19 (va_up (cps (M.2.1 13) cn (fun k => mi (nm k)) (cpt (M.2.1 13) cn (fun k => mi (nm k)) nt (mset (e.1 19) (fun _ => 1) 12) p) i) i (1 + (cmx (M.2.1 13) (fun k => (cps (M.2.1 13) cn (fun k => mi (nm k)) (cpt (M.2.1 13) cn (fun k => mi (nm k)) nt (mset (e.1 19) (fun _ => 1) 12) p) i) (mi (nm k))) (4 * i) (cn i))))), e.2) = ((va_up e.1 19 (cps (M.2.1 13) cn (fun k => mi (nm k)) (cpt (M.2.1 13) cn (fun k => mi (nm k)) nt (mset (e.1 19) (fun _ => 1) 12) p) (i + 1))), e.2); rw [va_up_up]; rfl) ?_
          refine kv_iinc (j := 0) (v := (nI (i + 1))) (lv2 := [(2, .int (nI (i + 1))), (1, .int (nI p)), (0, .ref (ad 2))]) X dX2_findDepths_44 rfl (nI_add i 1) (by rw [hnL]; decide) rfl ?_
          refine kv_goto (tgt := 17) X dX2_findDepths_47 (by decide) ?_
          exact kv_lv [0, 1, 2] rfl (ih17 (i + 1) (by omega) ())
      exact kv_lv [0, 1, 2] rfl (L17 nt 0 (by omega) ())
  exact kv_lv [0, 1] rfl (L10 3 0 (by omega) ())
theorem f_X2_choose_39 : kF wsX2_choose RX2 39 5 0 := ⟨_, RX2, TX2, 9, fun _ h => (List.mem_cons_of_mem _ (List.mem_append_left _ (List.mem_append_left _ (List.mem_append_left _ (List.mem_append_left _ (List.mem_append_left _ (List.mem_append_left _ (List.mem_append_right _ h)))))))), (List.mem_cons_of_mem _ (List.mem_append_left _ (List.mem_append_left _ (List.mem_append_left _ (List.mem_append_left _ (List.mem_append_left _ (List.mem_append_left _ (List.mem_append_left _ (List.mem_append_left _ (List.mem_of_getElem? (i := 0) rfl)))))))))), rfl, by decide, rfl⟩
theorem f_X2_choose_43 : kF wsX2_choose RX2 43 9 2 := ⟨_, RX6, TX6, 7, fun _ h => (List.mem_cons_of_mem _ (List.mem_append_left _ (List.mem_append_left _ (List.mem_append_left _ (List.mem_append_left _ (List.mem_append_left _ (List.mem_append_right _ h))))))), (List.mem_cons_of_mem _ (List.mem_append_left _ (List.mem_append_left _ (List.mem_append_left _ (List.mem_append_left _ (List.mem_append_left _ (List.mem_append_left _ (List.mem_append_left _ (List.mem_append_left _ (List.mem_of_getElem? (i := 1) rfl)))))))))), rfl, by decide, rfl⟩
theorem f_X2_choose_59 : kF wsX2_choose RX2 59 9 0 := ⟨_, RX6, TX6, 7, fun _ h => (List.mem_cons_of_mem _ (List.mem_append_left _ (List.mem_append_left _ (List.mem_append_left _ (List.mem_append_left _ (List.mem_append_left _ (List.mem_append_right _ h))))))), (List.mem_cons_of_mem _ (List.mem_append_left _ (List.mem_append_left _ (List.mem_append_left _ (List.mem_append_left _ (List.mem_append_left _ (List.mem_append_left _ (List.mem_append_left _ (List.mem_append_left _ (List.mem_of_getElem? (i := 3) rfl)))))))))), rfl, by decide, rfl⟩
theorem f_X2_choose_15 : kF wsX2_choose RX2 15 5 2 := ⟨_, RX2, TX2, 9, fun _ h => (List.mem_cons_of_mem _ (List.mem_append_left _ (List.mem_append_left _ (List.mem_append_left _ (List.mem_append_left _ (List.mem_append_left _ (List.mem_append_left _ (List.mem_append_right _ h)))))))), (List.mem_cons_of_mem _ (List.mem_append_left _ (List.mem_append_left _ (List.mem_append_left _ (List.mem_append_left _ (List.mem_append_left _ (List.mem_append_left _ (List.mem_append_left _ (List.mem_append_left _ (List.mem_of_getElem? (i := 4) rfl)))))))))), rfl, by decide, rfl⟩
theorem f_X2_choose_9 : kF wsX2_choose RX2 9 5 1 := ⟨_, RX2, TX2, 9, fun _ h => (List.mem_cons_of_mem _ (List.mem_append_left _ (List.mem_append_left _ (List.mem_append_left _ (List.mem_append_left _ (List.mem_append_left _ (List.mem_append_left _ (List.mem_append_right _ h)))))))), (List.mem_cons_of_mem _ (List.mem_append_left _ (List.mem_append_left _ (List.mem_append_left _ (List.mem_append_left _ (List.mem_append_left _ (List.mem_append_left _ (List.mem_append_left _ (List.mem_append_left _ (List.mem_of_getElem? (i := 2) rfl)))))))))), rfl, by decide, rfl⟩
set_option maxRecDepth 100000 in
set_option maxHeartbeats 4000000 in
theorem c_X2_choose (l : Launch) (dd : kDD) (ks : List Nat) (ad : Nat → Nat) (E : Nat → va_E) (e : eS) (M : mS) (nR nC nt nL nW nV nM : Nat) (cn nm mn me li rl : Nat → Nat) (on : Int32) (hO : cO dd ks ad E on) (hR : cR dd ks ad E M nR) (hC : cC dd ks ad E M nC mn me) (hT : cT dd ks ad E M nt cn nm) (hL : cL dd ks ad E M nL nW li) (hW : cW dd ks ad E M nW rl) (hV : cV dd ks ad E M nV) (hM : cM dd ks ad E M nM) (hB : cB M nR nC nt nL nW nV cn nm mn me li rl) (o : Int32) (mi mr : Nat → Nat) (hmi : ∀ j, j < nt → mnt o (M.2.1 22) j nV 0 = nI (mi j) ∧ mi j < nt) (hmr : ∀ j, j < nR → mnt o (M.2.1 23) j nV 0 = nI (mr j) ∧ mr j < nR) : kCi l yX2_choose wsX2_choose ({ frames := 5, cells := 0, slots := 0, locals := 111 } : Room) 0 0 dd [.ref (ad 2), .int o] (ks, ad, (cE dd E e)) (kQi (S := eS) (fun r z => (va_up (va_up (va_up e.1 17 (mset (e.1 17) (fun j => nI (mi j)) nt)) 18 (mset (e.1 18) (fun j => nI (mr j)) nR)) 19 (cpt (M.2.1 13) cn (fun k => mi (nm k)) nt (mset (e.1 19) (fun _ => 1) 12) 3), e.2) = z ∧ ((r = 1 ∧ ∀ j, j < nt → cpt (M.2.1 13) cn (fun k => mi (nm k)) nt (mset (e.1 19) (fun _ => 1) 12) 3 j ≤ 3) ∨ (r = 0 ∧ ¬ ∀ j, j < nt → cpt (M.2.1 13) cn (fun k => mi (nm k)) nt (mset (e.1 19) (fun _ => 1) 12) 3 j ≤ 3))) (fun _ => ks) (fun _ => ad) (fun z => cE dd E z)) := by
  refine kMeti (ws' := _) (cc := cX2_choose) (maxL := 3) (rt := .boolean) (by decide) rfl (Nat.le_of_ble_eq_true rfl) (fun g X hr hnL hRR hl0 hkn => ?_)
  show kv dd g 0 0 0 [(0, .ref (ad 2)), (1, .int o)] [] ks ad (cE dd E e)
  have hT12 := hT.1
  have hR12 := hR.1
  refine kv_iconst (v := 0) X dX2_choose_0 (by decide) ?_
  refine kv_istore_n (lv2 := [(2, .int 0), (0, .ref (ad 2)), (1, .int o)]) X dX2_choose_1 rfl (by rw [hnL]; decide) rfl ?_
  refine kv_e ((va_up e.1 17 (mset (e.1 17) (fun j => nI (mi j)) 0)), e.2) (by show e = ((va_up e.1 17 (mset (e.1 17) (fun j => nI (mi j)) 0)), e.2); rw [mset_0, va_up_id]) ?_
  have L2 : ∀ (n9 i : Nat), i + n9 = nt → ∀ (_ : Unit) , kv dd g 0 0 2 [(2, .int (nI i)), (0, .ref (ad 2)), (1, .int o)] [] ks ad (cE dd E ((va_up e.1 17 (mset (e.1 17) (fun j => nI (mi j)) i)), e.2)) := by
    intro n9
    induction n9 with
    | zero =>
      intro i hin2 _ 
      refine kv_iload_n X 0 dX2_choose_2 rfl rfl ?_
      refine kv_aload_n X 1 dX2_choose_3 rfl rfl ?_
      refine kv_getfield X f_X2_choose_39 (κ := 2) (fs := [.ref (ad 1), .ref (ad 17), .ref (ad 18), .ref (ad 19), .ref (ad 20), .ref (ad 21), .ref (ad 22), .ref (ad 23), .ref (ad 24)]) (v := .ref (ad 1)) hO.2.2.1.1 ((cE_ne (by omega)).trans hO.2.2.1.2) rfl dX2_choose_4 ?_
      refine kv_getfield X f_X2_choose_43 (κ := 1) (fs := [.ref (ad 3), .ref (ad 4), .ref (ad 5), .ref (ad 6), .ref (ad 7), .ref (ad 8), .ref (ad 9)]) (v := .ref (ad 5)) hO.2.1.1 ((cE_ne (by omega)).trans hO.2.1.2) rfl dX2_choose_7 ?_
      obtain ⟨_, _, o10⟩ := kLs_obj (dd := dd) (ks := ks) (ad := ad) (E := (cE dd E ((va_up e.1 17 (mset (e.1 17) (fun j => nI (mi j)) i)), e.2))) (kLs_cE hT.2.1 (by omega) (by omega) (fun i hi => by omega))
      refine kv_calliV (ci := 2) (κ := 5) (r1 := (TJx4a65c, 3)) (As := []) [.int (nI i)] X (c_Jx4a65c_size_8abf5 l dd ks ad (cE dd E ((va_up e.1 17 (mset (e.1 17) (fun j => nI (mi j)) i)), e.2)) (5) (12) (nt) (fun i => 96 + i) 6 (kLs_cE hT.2.1 (by omega) (by omega) (fun i hi => by omega))) hl0 (kCV_of X 0 gX2_choose_Jx4a65c_size_8abf5 rfl rfl rfl (by decide +kernel) hRR ⟨(Nat.le_of_ble_eq_true rfl), (Nat.le_of_ble_eq_true rfl)⟩) hT.2.1.1 o10 rfl rfl rfl (Nat.le_of_ble_eq_true rfl) hRR ⟨(Nat.le_of_ble_eq_true rfl), (Nat.le_of_ble_eq_true rfl)⟩ dX2_choose_10 (fun r z hp => ?_)
      obtain rfl := hp
      refine kn_icmp_ge (x := i) (y := nt) (tgt := 34) X (by omega) (by omega) dX2_choose_13 (by decide) (fun hc13 => ?_) (fun hc13 => absurd hc13 (by omega))
      refine kv_e ((va_up (va_up e.1 17 (mset (e.1 17) (fun j => nI (mi j)) nt)) 18 (mset (e.1 18) (fun j => nI (mr j)) 0)), e.2) (by show ((va_up e.1 17 (mset (e.1 17) (fun j => nI (mi j)) i)), e.2) = ((va_up (va_up e.1 17 (mset (e.1 17) (fun j => nI (mi j)) nt)) 18 (mset (e.1 18) (fun j => nI (mr j)) 0)), e.2); rw [show i = nt by omega, mset_0]; exact congrArg (fun y => (y, e.2)) (va_up_id _ 18).symm) ?_
      refine kv_iconst (v := 0) X dX2_choose_34 (by decide) ?_
      refine kv_istore_n (lv2 := [(2, .int 0), (0, .ref (ad 2)), (1, .int o)]) X dX2_choose_35 rfl (by rw [hnL]; decide) rfl ?_
      have L36 : ∀ (n8 i : Nat), i + n8 = nR → ∀ (_ : Unit) , kv dd g 0 0 36 [(2, .int (nI i)), (0, .ref (ad 2)), (1, .int o)] [] ks ad (cE dd E ((va_up (va_up e.1 17 (mset (e.1 17) (fun j => nI (mi j)) nt)) 18 (mset (e.1 18) (fun j => nI (mr j)) i)), e.2)) := by
        intro n8
        induction n8 with
        | zero =>
          intro i hin36 _ 
          refine kv_iload_n X 0 dX2_choose_36 rfl rfl ?_
          refine kv_aload_n X 1 dX2_choose_37 rfl rfl ?_
          refine kv_getfield X f_X2_choose_39 (κ := 2) (fs := [.ref (ad 1), .ref (ad 17), .ref (ad 18), .ref (ad 19), .ref (ad 20), .ref (ad 21), .ref (ad 22), .ref (ad 23), .ref (ad 24)]) (v := .ref (ad 1)) hO.2.2.1.1 ((cE_ne (by omega)).trans hO.2.2.1.2) rfl dX2_choose_38 ?_
          refine kv_getfield X f_X2_choose_59 (κ := 1) (fs := [.ref (ad 3), .ref (ad 4), .ref (ad 5), .ref (ad 6), .ref (ad 7), .ref (ad 8), .ref (ad 9)]) (v := .ref (ad 3)) hO.2.1.1 ((cE_ne (by omega)).trans hO.2.1.2) rfl dX2_choose_41 ?_
          obtain ⟨_, _, o44⟩ := kLs_obj (dd := dd) (ks := ks) (ad := ad) (E := (cE dd E ((va_up (va_up e.1 17 (mset (e.1 17) (fun j => nI (mi j)) nt)) 18 (mset (e.1 18) (fun j => nI (mr j)) i)), e.2))) (kLs_cE hR.2.1 (by omega) (by omega) (fun i hi => by omega))
          refine kv_calliV (ci := 2) (κ := 3) (r1 := (TJx4a65c, 3)) (As := []) [.int (nI i)] X (c_Jx4a65c_size_8abf5 l dd ks ad (cE dd E ((va_up (va_up e.1 17 (mset (e.1 17) (fun j => nI (mi j)) nt)) 18 (mset (e.1 18) (fun j => nI (mr j)) i)), e.2)) (3) (10) (nR) (fun r => 64 + r) 10 (kLs_cE hR.2.1 (by omega) (by omega) (fun i hi => by omega))) hl0 (kCV_of X 0 gX2_choose_Jx4a65c_size_8abf5 rfl rfl rfl (by decide +kernel) hRR ⟨(Nat.le_of_ble_eq_true rfl), (Nat.le_of_ble_eq_true rfl)⟩) hR.2.1.1 o44 rfl rfl rfl (Nat.le_of_ble_eq_true rfl) hRR ⟨(Nat.le_of_ble_eq_true rfl), (Nat.le_of_ble_eq_true rfl)⟩ dX2_choose_44 (fun r z hp => ?_)
          obtain rfl := hp
          refine kn_icmp_ge (x := i) (y := nR) (tgt := 68) X (by omega) (by omega) dX2_choose_47 (by decide) (fun hc47 => ?_) (fun hc47 => absurd hc47 (by omega))
          refine kv_e ((va_up (va_up e.1 17 (mset (e.1 17) (fun j => nI (mi j)) nt)) 18 (mset (e.1 18) (fun j => nI (mr j)) nR)), e.2) (by show ((va_up (va_up e.1 17 (mset (e.1 17) (fun j => nI (mi j)) nt)) 18 (mset (e.1 18) (fun j => nI (mr j)) i)), e.2) = ((va_up (va_up e.1 17 (mset (e.1 17) (fun j => nI (mi j)) nt)) 18 (mset (e.1 18) (fun j => nI (mr j)) nR)), e.2); rw [show i = nR by omega]) ?_
          refine kv_aload_n X 1 dX2_choose_68 rfl rfl ?_
          refine kv_calliV (ci := 5) (κ := 2) (r1 := (TX2, 9)) (As := []) [] X (c_X2_findDepths l dd ks ad E ((va_up (va_up e.1 17 (mset (e.1 17) (fun j => nI (mi j)) nt)) 18 (mset (e.1 18) (fun j => nI (mr j)) nR)), e.2) M nR nC nt nL nW nV nM cn nm mn me li rl on hO hR hC hT hL hW hV hM hB mi (fun j hj => ⟨mset_in (f := e.1 17) (g := fun j => nI (mi j)) hj, (hmi j hj).2⟩)) hl0 (kCV_of X 0 gX2_choose_X2_findDepths rfl rfl rfl (by decide +kernel) hRR ⟨(Nat.le_of_ble_eq_true rfl), (Nat.le_of_ble_eq_true rfl)⟩) hO.2.2.1.1 ((cE_ne (by omega)).trans hO.2.2.1.2) rfl rfl rfl (Nat.le_of_ble_eq_true rfl) hRR ⟨(Nat.le_of_ble_eq_true rfl), (Nat.le_of_ble_eq_true rfl)⟩ dX2_choose_69 (fun r z hp => ?_)
          obtain ⟨rfl, hz⟩ := hp
          rcases hz with ⟨rfl, hz⟩ | ⟨rfl, hz⟩
          ·
            exact kv_zreturn X hr rfl (Nat.le_of_ble_eq_true rfl) (Nat.le_of_ble_eq_true rfl) ⟨((va_up (va_up (va_up e.1 17 (mset (e.1 17) (fun j => nI (mi j)) nt)) 18 (mset (e.1 18) (fun j => nI (mr j)) nR)) 19 (cpt (M.2.1 13) cn (fun k => mi (nm k)) nt (mset (e.1 19) (fun _ => 1) 12) 3)), e.2), ⟨rfl, Or.inl ⟨rfl, hz⟩⟩, rfl⟩ dX2_choose_72
          ·
            exact kv_zreturn X hr rfl (Nat.le_of_ble_eq_true rfl) (Nat.le_of_ble_eq_true rfl) ⟨((va_up (va_up (va_up e.1 17 (mset (e.1 17) (fun j => nI (mi j)) nt)) 18 (mset (e.1 18) (fun j => nI (mr j)) nR)) 19 (cpt (M.2.1 13) cn (fun k => mi (nm k)) nt (mset (e.1 19) (fun _ => 1) 12) 3)), e.2), ⟨rfl, Or.inr ⟨rfl, hz⟩⟩, rfl⟩ dX2_choose_72
        | succ n8 ih36 =>
          intro i hin36 _ 
          refine kv_iload_n X 0 dX2_choose_36 rfl rfl ?_
          refine kv_aload_n X 1 dX2_choose_37 rfl rfl ?_
          refine kv_getfield X f_X2_choose_39 (κ := 2) (fs := [.ref (ad 1), .ref (ad 17), .ref (ad 18), .ref (ad 19), .ref (ad 20), .ref (ad 21), .ref (ad 22), .ref (ad 23), .ref (ad 24)]) (v := .ref (ad 1)) hO.2.2.1.1 ((cE_ne (by omega)).trans hO.2.2.1.2) rfl dX2_choose_38 ?_
          refine kv_getfield X f_X2_choose_59 (κ := 1) (fs := [.ref (ad 3), .ref (ad 4), .ref (ad 5), .ref (ad 6), .ref (ad 7), .ref (ad 8), .ref (ad 9)]) (v := .ref (ad 3)) hO.2.1.1 ((cE_ne (by omega)).trans hO.2.1.2) rfl dX2_choose_41 ?_
          obtain ⟨_, _, o44⟩ := kLs_obj (dd := dd) (ks := ks) (ad := ad) (E := (cE dd E ((va_up (va_up e.1 17 (mset (e.1 17) (fun j => nI (mi j)) nt)) 18 (mset (e.1 18) (fun j => nI (mr j)) i)), e.2))) (kLs_cE hR.2.1 (by omega) (by omega) (fun i hi => by omega))
          refine kv_calliV (ci := 2) (κ := 3) (r1 := (TJx4a65c, 3)) (As := []) [.int (nI i)] X (c_Jx4a65c_size_8abf5 l dd ks ad (cE dd E ((va_up (va_up e.1 17 (mset (e.1 17) (fun j => nI (mi j)) nt)) 18 (mset (e.1 18) (fun j => nI (mr j)) i)), e.2)) (3) (10) (nR) (fun r => 64 + r) 10 (kLs_cE hR.2.1 (by omega) (by omega) (fun i hi => by omega))) hl0 (kCV_of X 0 gX2_choose_Jx4a65c_size_8abf5 rfl rfl rfl (by decide +kernel) hRR ⟨(Nat.le_of_ble_eq_true rfl), (Nat.le_of_ble_eq_true rfl)⟩) hR.2.1.1 o44 rfl rfl rfl (Nat.le_of_ble_eq_true rfl) hRR ⟨(Nat.le_of_ble_eq_true rfl), (Nat.le_of_ble_eq_true rfl)⟩ dX2_choose_44 (fun r z hp => ?_)
          obtain rfl := hp
          refine kn_icmp_ge (x := i) (y := nR) (tgt := 68) X (by omega) (by omega) dX2_choose_47 (by decide) (fun hc47 => absurd hc47 (by omega)) (fun hc47 => ?_)
          refine kv_aload_n X 1 dX2_choose_50 rfl rfl ?_
          refine kv_getfield X f_X2_choose_15 (κ := 2) (fs := [.ref (ad 1), .ref (ad 17), .ref (ad 18), .ref (ad 19), .ref (ad 20), .ref (ad 21), .ref (ad 22), .ref (ad 23), .ref (ad 24)]) (v := .ref (ad 18)) hO.2.2.1.1 ((cE_ne (by omega)).trans hO.2.2.1.2) rfl dX2_choose_51 ?_
          refine kv_iload_n X 0 dX2_choose_54 rfl rfl ?_
          refine kv_aload_n X 1 dX2_choose_55 rfl rfl ?_
          refine kv_iload_n X 2 dX2_choose_56 rfl rfl ?_
          refine kv_iload_n X 0 dX2_choose_57 rfl rfl ?_
          refine kv_calliV (ci := 5) (κ := 2) (r1 := (TX2, 9)) (As := [.int o, .int (nI i)]) [.int (nI i), .ref (ad 18)] X (c_X2_meantResource l dd ks ad E ((va_up (va_up e.1 17 (mset (e.1 17) (fun j => nI (mi j)) nt)) 18 (mset (e.1 18) (fun j => nI (mr j)) i)), e.2) M nR nC nt nL nW nV nM cn nm mn me li rl on hO hR hC hT hL hW hV hM hB o i (by omega)) hl0 (kCV_of X 2 gX2_choose_X2_meantResource rfl rfl rfl (by decide +kernel) hRR ⟨(Nat.le_of_ble_eq_true rfl), (Nat.le_of_ble_eq_true rfl)⟩) hO.2.2.1.1 ((cE_ne (by omega)).trans hO.2.2.1.2) rfl rfl rfl (Nat.le_of_ble_eq_true rfl) hRR ⟨(Nat.le_of_ble_eq_true rfl), (Nat.le_of_ble_eq_true rfl)⟩ dX2_choose_58 (fun r z hp => ?_)
          obtain ⟨rfl, rfl⟩ := hp
          refine kv_topi (nI (mr i)) (hmr i (by omega)).1 ?_
          refine ke_iast X (18) (j := i) (x := (nI (mr i))) (hO.2.2.2.1 _ (by omega) (by omega)) (by omega) (by omega) dX2_choose_61 ?_
          refine kv_e ((va_up (va_up e.1 17 (mset (e.1 17) (fun j => nI (mi j)) nt)) 18 (mset (e.1 18) (fun j => nI (mr j)) (i + 1))), e.2) (by show ((va_up (va_up (va_up e.1 17 (mset (e.1 17) (fun j => nI (mi j)) nt)) 18 (mset (e.1 18) (fun j => nI (mr j)) i)) 18 (va_up (mset (e.1 18) (fun j => nI (mr j)) i) i (nI (mr i)))), e.2) = ((va_up (va_up e.1 17 (mset (e.1 17) (fun j => nI (mi j)) nt)) 18 (mset (e.1 18) (fun j => nI (mr j)) (i + 1))), e.2); rw [va_up_up, mset_up rfl]) ?_
          refine kv_iinc (j := 0) (v := (nI (i + 1))) (lv2 := [(2, .int (nI (i + 1))), (0, .ref (ad 2)), (1, .int o)]) X dX2_choose_62 rfl (nI_add i 1) (by rw [hnL]; decide) rfl ?_
          refine kv_goto (tgt := 36) X dX2_choose_65 (by decide) ?_
          exact kv_lv [0, 1, 2] rfl (ih36 (i + 1) (by omega) ())
      exact kv_lv [0, 1, 2] rfl (L36 nR 0 (by omega) ())
    | succ n9 ih2 =>
      intro i hin2 _ 
      refine kv_iload_n X 0 dX2_choose_2 rfl rfl ?_
      refine kv_aload_n X 1 dX2_choose_3 rfl rfl ?_
      refine kv_getfield X f_X2_choose_39 (κ := 2) (fs := [.ref (ad 1), .ref (ad 17), .ref (ad 18), .ref (ad 19), .ref (ad 20), .ref (ad 21), .ref (ad 22), .ref (ad 23), .ref (ad 24)]) (v := .ref (ad 1)) hO.2.2.1.1 ((cE_ne (by omega)).trans hO.2.2.1.2) rfl dX2_choose_4 ?_
      refine kv_getfield X f_X2_choose_43 (κ := 1) (fs := [.ref (ad 3), .ref (ad 4), .ref (ad 5), .ref (ad 6), .ref (ad 7), .ref (ad 8), .ref (ad 9)]) (v := .ref (ad 5)) hO.2.1.1 ((cE_ne (by omega)).trans hO.2.1.2) rfl dX2_choose_7 ?_
      obtain ⟨_, _, o10⟩ := kLs_obj (dd := dd) (ks := ks) (ad := ad) (E := (cE dd E ((va_up e.1 17 (mset (e.1 17) (fun j => nI (mi j)) i)), e.2))) (kLs_cE hT.2.1 (by omega) (by omega) (fun i hi => by omega))
      refine kv_calliV (ci := 2) (κ := 5) (r1 := (TJx4a65c, 3)) (As := []) [.int (nI i)] X (c_Jx4a65c_size_8abf5 l dd ks ad (cE dd E ((va_up e.1 17 (mset (e.1 17) (fun j => nI (mi j)) i)), e.2)) (5) (12) (nt) (fun i => 96 + i) 6 (kLs_cE hT.2.1 (by omega) (by omega) (fun i hi => by omega))) hl0 (kCV_of X 0 gX2_choose_Jx4a65c_size_8abf5 rfl rfl rfl (by decide +kernel) hRR ⟨(Nat.le_of_ble_eq_true rfl), (Nat.le_of_ble_eq_true rfl)⟩) hT.2.1.1 o10 rfl rfl rfl (Nat.le_of_ble_eq_true rfl) hRR ⟨(Nat.le_of_ble_eq_true rfl), (Nat.le_of_ble_eq_true rfl)⟩ dX2_choose_10 (fun r z hp => ?_)
      obtain rfl := hp
      refine kn_icmp_ge (x := i) (y := nt) (tgt := 34) X (by omega) (by omega) dX2_choose_13 (by decide) (fun hc13 => absurd hc13 (by omega)) (fun hc13 => ?_)
      refine kv_aload_n X 1 dX2_choose_16 rfl rfl ?_
      refine kv_getfield X f_X2_choose_9 (κ := 2) (fs := [.ref (ad 1), .ref (ad 17), .ref (ad 18), .ref (ad 19), .ref (ad 20), .ref (ad 21), .ref (ad 22), .ref (ad 23), .ref (ad 24)]) (v := .ref (ad 17)) hO.2.2.1.1 ((cE_ne (by omega)).trans hO.2.2.1.2) rfl dX2_choose_17 ?_
      refine kv_iload_n X 0 dX2_choose_20 rfl rfl ?_
      refine kv_aload_n X 1 dX2_choose_21 rfl rfl ?_
      refine kv_iload_n X 2 dX2_choose_22 rfl rfl ?_
      refine kv_iload_n X 0 dX2_choose_23 rfl rfl ?_
      refine kv_calliV (ci := 5) (κ := 2) (r1 := (TX2, 9)) (As := [.int o, .int (nI i)]) [.int (nI i), .ref (ad 17)] X (c_X2_meantItem l dd ks ad E ((va_up e.1 17 (mset (e.1 17) (fun j => nI (mi j)) i)), e.2) M nR nC nt nL nW nV nM cn nm mn me li rl on hO hR hC hT hL hW hV hM hB o i (by omega)) hl0 (kCV_of X 2 gX2_choose_X2_meantItem rfl rfl rfl (by decide +kernel) hRR ⟨(Nat.le_of_ble_eq_true rfl), (Nat.le_of_ble_eq_true rfl)⟩) hO.2.2.1.1 ((cE_ne (by omega)).trans hO.2.2.1.2) rfl rfl rfl (Nat.le_of_ble_eq_true rfl) hRR ⟨(Nat.le_of_ble_eq_true rfl), (Nat.le_of_ble_eq_true rfl)⟩ dX2_choose_24 (fun r z hp => ?_)
      obtain ⟨rfl, rfl⟩ := hp
      refine kv_topi (nI (mi i)) (hmi i (by omega)).1 ?_
      refine ke_iast X (17) (j := i) (x := (nI (mi i))) (hO.2.2.2.1 _ (by omega) (by omega)) (by omega) (by omega) dX2_choose_27 ?_
      refine kv_e ((va_up e.1 17 (mset (e.1 17) (fun j => nI (mi j)) (i + 1))), e.2) (by show ((va_up (va_up e.1 17 (mset (e.1 17) (fun j => nI (mi j)) i)) 17 (va_up (mset (e.1 17) (fun j => nI (mi j)) i) i (nI (mi i)))), e.2) = ((va_up e.1 17 (mset (e.1 17) (fun j => nI (mi j)) (i + 1))), e.2); rw [va_up_up, mset_up rfl]) ?_
      refine kv_iinc (j := 0) (v := (nI (i + 1))) (lv2 := [(2, .int (nI (i + 1))), (0, .ref (ad 2)), (1, .int o)]) X dX2_choose_28 rfl (nI_add i 1) (by rw [hnL]; decide) rfl ?_
      refine kv_goto (tgt := 2) X dX2_choose_31 (by decide) ?_
      exact kv_lv [0, 1, 2] rfl (ih2 (i + 1) (by omega) ())
  exact kv_lv [0, 1, 2] rfl (L2 nt 0 (by omega) ())

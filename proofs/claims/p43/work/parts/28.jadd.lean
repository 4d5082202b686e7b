theorem fp_Jx4a65c_add_72be8_48 : kFp wsJx4a65c_add_72be8 RJx4a65c 48 2 2 .int false := ⟨_, RJx4a65c, TJx4a65c, 3, tyJx4a65c, fun _ h => (List.mem_cons_of_mem _ (List.mem_append_right _ h)), tyJx4a65c_ok, nmJx4a65c, (List.mem_cons_of_mem _ (List.mem_append_left _ (List.mem_append_left _ (List.mem_of_getElem? (i := 0) rfl)))), rfl, by decide, rfl, rfl, by decide +kernel, rfl⟩
set_option maxRecDepth 100000 in
set_option maxHeartbeats 4000000 in
theorem c_Jx4a65c_add_72be8 (l : Launch) (dd : kDD) (ks : List Nat) (ad : Nat → Nat) (E : Nat → va_E) (lk ak n ci e ce : Nat) (ek : Nat → Nat) (mc : Int32) (q : Nat) (fe : List Value) (hlk : lk ∈ ks) (hne : lk ≠ ak) (hes : kEs ks E lk ak n ek ci) (hn : n < 60) (hQ : kLq dd ks ad E lk ak n ek mc q) (he : e ∈ ks) (hea : e ≠ ak) (hel : e ≠ lk) (hEe : E e = .inr (ce, fe)) (hce : kEl ce) : kCv l yJx4a65c_add_72be8 wsJx4a65c_add_72be8 ({ frames := 5, cells := 1, slots := 90, locals := 127 } : Room) 1 90 dd [.ref (ad lk), .ref (ad e), .ref q, .int (nI n)] (ks, ad, E) (kQv (S := kT) (fun z => kGw ks ad E dd lk ak (n + 1) (n + 1) (n + 1) mc (fun i => if i = n then some (ad e) else some (ad (ek i))) z) (fun z => z.1) (fun z => z.2.1) (fun z => z.2.2)) := by
  refine kMetv (ws' := _) (cc := cJx4a65c_add_72be8) (maxL := 4) (by decide) rfl (Nat.le_of_ble_eq_true rfl) (fun g X hr hnL hRR hl0 hkn => ?_)
  show kv dd g 0 0 0 [(0, .ref (ad lk)), (1, .ref (ad e)), (2, .ref q), (3, .int (nI n))] [] ks ad E
  obtain ⟨re, hcl, hcs⟩ := hce
  rcases hQ with ⟨h0, rfl, hO⟩ | ⟨cap, f, rfl, hak, hnc, h0c, hc100, hA, hf, hO⟩
  ·
    refine kv_iload_n X 3 dJx4a65c_add_72be8_0 rfl rfl ?_
    refine kv_aload_n X 2 dJx4a65c_add_72be8_1 rfl rfl ?_
    refine kv_alenT X dJx4a65c_add_72be8_2 ?_
    refine kn_icmp_ne (x := n) (y := 0) (tgt := 11) X (by omega) (by omega) dJx4a65c_add_72be8_3 (by decide) (fun hc3 => absurd hc3 (by omega)) (fun hc3 => ?_)
    refine kv_aload_n X 0 dJx4a65c_add_72be8_6 rfl rfl ?_
    refine kv_callqV (ci := 2) (κ := lk) (r1 := (TJx4a65c, 3)) (As := []) [] X (c_Jx4a65c_grow_d5877 l dd ks ad E lk ak n ci ek mc hlk hne hes hn (Or.inl ⟨h0, hO⟩)) hl0 (kCV_of X 0 gJx4a65c_add_72be8_Jx4a65c_grow_d5877 rfl rfl rfl (by decide +kernel) hRR ⟨(Nat.le_of_ble_eq_true rfl), (Nat.le_of_ble_eq_true rfl)⟩) hlk hO rfl rfl rfl (Nat.le_of_ble_eq_true rfl) hRR ⟨(Nat.le_of_ble_eq_true rfl), (Nat.le_of_ble_eq_true rfl)⟩ dJx4a65c_add_72be8_7 (fun r z hp => ?_)
    obtain ⟨rfl, w1, w2, w3, w4, cap2, f2, c1, c2, c3, w5, w6⟩ := hp
    refine kv_topg (.ref (z.2.1 ak)) rfl ?_
    refine kv_lv (lv2 := [(0, .ref (ad lk)), (1, .ref (ad e)), (3, .int (nI n))]) [0, 1, 3] rfl ?_
    refine kv_LS [(0, .ref (z.2.1 lk)), (1, .ref (z.2.1 e)), (3, .int (nI n))] [.ref (z.2.1 ak)] (by rw [w2 _ hne, w2 _ hea]) rfl ?_
    refine kv_astore_n (lv2 := [(2, .ref (z.2.1 ak)), (0, .ref (z.2.1 lk)), (1, .ref (z.2.1 e)), (3, .int (nI n))]) X dJx4a65c_add_72be8_10 rfl (by rw [hnL]; decide) rfl ?_
    refine kv_aload_n X 0 dJx4a65c_add_72be8_11 rfl rfl ?_
    refine kv_iload_n X 3 dJx4a65c_add_72be8_12 rfl rfl ?_
    refine kv_aload_n X 2 dJx4a65c_add_72be8_13 rfl rfl ?_
    refine kv_aastO X (κ := ak) (n := cap2) (j := n) (f := f2) (κv := e) ((w1 _).mpr (Or.inr rfl)) w5 (by omega) (by omega) ((w1 _).mpr (Or.inl he)) ((w3 _ hea hel).trans hEe) hcl hcs dJx4a65c_add_72be8_14 ?_
    refine kv_aload_n X 1 dJx4a65c_add_72be8_15 rfl rfl ?_
    refine kv_iload_n X 3 dJx4a65c_add_72be8_16 rfl rfl ?_
    refine kv_iconst (v := 1) X dJx4a65c_add_72be8_17 (by decide) ?_
    refine kv_iadd X dJx4a65c_add_72be8_18 ?_
    refine kv_topi (nI (n + 1)) (nI_add n 1) ?_
    refine kv_putfield X fp_Jx4a65c_add_72be8_48 (κ := lk) (fs := [.int mc, .ref (z.2.1 ak), .int (nI n)]) ((w1 _).mpr (Or.inl hlk)) ((va_up_ne _ _ hne).trans w4) rfl rfl (Nat.le_of_ble_eq_true rfl) dJx4a65c_add_72be8_19 ?_
    exact kv_return X hr (Nat.le_of_ble_eq_true rfl) (Nat.le_of_ble_eq_true rfl) ⟨(z.1, z.2.1, (va_up (va_up z.2.2 ak (kO dd cap2 (va_up f2 n (some (z.2.1 e))))) lk (Sum.inr (2, [.int mc, .ref (z.2.1 ak), .int (nI (n + 1))])))), ⟨w1, w2, fun j h1 h2 => (va_up_ne _ _ h2).trans ((va_up_ne _ _ h1).trans (w3 j h1 h2)), va_up_self _ _ _, cap2, _, c1, c2, c3, (va_up_ne _ _ (Ne.symm hne)).trans (va_up_self _ _ _), fun i hi => (Decidable.em (i = n)).elim (fun c => by rw [c, va_up_self]; show _ = ite _ _ _; rw [if_pos rfl, w2 _ hea]) (fun c => by rw [va_up_ne _ _ c]; show _ = ite _ _ _; rw [if_neg c]; exact w6 i (by omega))⟩, rfl⟩ dJx4a65c_add_72be8_22
  ·
    refine kv_iload_n X 3 dJx4a65c_add_72be8_0 rfl rfl ?_
    refine kv_aload_n X 2 dJx4a65c_add_72be8_1 rfl rfl ?_
    refine kv_alenO X (κ := ak) (n := cap) (f := f) hak hA dJx4a65c_add_72be8_2 ?_
    refine kn_icmp_ne (x := n) (y := cap) (tgt := 11) X (by omega) (by omega) dJx4a65c_add_72be8_3 (by decide) (fun hc3 => ?_) (fun hc3 => ?_)
    ·
      refine kv_aload_n X 2 dJx4a65c_add_72be8_11 rfl rfl ?_
      refine kv_iload_n X 3 dJx4a65c_add_72be8_12 rfl rfl ?_
      refine kv_aload_n X 1 dJx4a65c_add_72be8_13 rfl rfl ?_
      refine kv_aastO X (κ := ak) (n := cap) (j := n) (f := f) (κv := e) hak hA (by omega) (by omega) he hEe hcl hcs dJx4a65c_add_72be8_14 ?_
      refine kv_aload_n X 0 dJx4a65c_add_72be8_15 rfl rfl ?_
      refine kv_iload_n X 3 dJx4a65c_add_72be8_16 rfl rfl ?_
      refine kv_iconst (v := 1) X dJx4a65c_add_72be8_17 (by decide) ?_
      refine kv_iadd X dJx4a65c_add_72be8_18 ?_
      refine kv_topi (nI (n + 1)) (nI_add n 1) ?_
      refine kv_putfield X fp_Jx4a65c_add_72be8_48 (κ := lk) (fs := [.int mc, .ref (ad ak), .int (nI n)]) hlk ((va_up_ne _ _ hne).trans hO) rfl rfl (Nat.le_of_ble_eq_true rfl) dJx4a65c_add_72be8_19 ?_
      exact kv_return X hr (Nat.le_of_ble_eq_true rfl) (Nat.le_of_ble_eq_true rfl) ⟨(ks, ad, (va_up (va_up E ak (kO dd cap (va_up f n (some (ad e))))) lk (Sum.inr (2, [.int mc, .ref (ad ak), .int (nI (n + 1))])))), ⟨fun j => ⟨Or.inl, fun q => q.elim id (fun q => by rw [q]; exact hak)⟩, fun j _ => rfl, fun j h1 h2 => (va_up_ne _ _ h2).trans (va_up_ne _ _ h1), va_up_self _ _ _, cap, _, by omega, by omega, by omega, (va_up_ne _ _ (Ne.symm hne)).trans (va_up_self _ _ _), fun i hi => (Decidable.em (i = n)).elim (fun c => by rw [c, va_up_self]; show _ = ite _ _ _; rw [if_pos rfl]) (fun c => by rw [va_up_ne _ _ c]; show _ = ite _ _ _; rw [if_neg c]; exact hf i (by omega))⟩, rfl⟩ dJx4a65c_add_72be8_22
    ·
      refine kv_aload_n X 0 dJx4a65c_add_72be8_6 rfl rfl ?_
      refine kv_callqV (ci := 2) (κ := lk) (r1 := (TJx4a65c, 3)) (As := []) [] X (c_Jx4a65c_grow_d5877 l dd ks ad E lk ak n ci ek mc hlk hne hes hn (Or.inr ⟨f, by omega, hak, by rw [hc3]; exact hA, hf, hO⟩)) hl0 (kCV_of X 0 gJx4a65c_add_72be8_Jx4a65c_grow_d5877 rfl rfl rfl (by decide +kernel) hRR ⟨(Nat.le_of_ble_eq_true rfl), (Nat.le_of_ble_eq_true rfl)⟩) hlk hO rfl rfl rfl (Nat.le_of_ble_eq_true rfl) hRR ⟨(Nat.le_of_ble_eq_true rfl), (Nat.le_of_ble_eq_true rfl)⟩ dJx4a65c_add_72be8_7 (fun r z hp => ?_)
      obtain ⟨rfl, w1, w2, w3, w4, cap2, f2, c1, c2, c3, w5, w6⟩ := hp
      refine kv_topg (.ref (z.2.1 ak)) rfl ?_
      refine kv_lv (lv2 := [(0, .ref (ad lk)), (1, .ref (ad e)), (3, .int (nI n))]) [0, 1, 3] rfl ?_
      refine kv_LS [(0, .ref (z.2.1 lk)), (1, .ref (z.2.1 e)), (3, .int (nI n))] [.ref (z.2.1 ak)] (by rw [w2 _ hne, w2 _ hea]) rfl ?_
      refine kv_astore_n (lv2 := [(2, .ref (z.2.1 ak)), (0, .ref (z.2.1 lk)), (1, .ref (z.2.1 e)), (3, .int (nI n))]) X dJx4a65c_add_72be8_10 rfl (by rw [hnL]; decide) rfl ?_
      refine kv_aload_n X 0 dJx4a65c_add_72be8_11 rfl rfl ?_
      refine kv_iload_n X 3 dJx4a65c_add_72be8_12 rfl rfl ?_
      refine kv_aload_n X 2 dJx4a65c_add_72be8_13 rfl rfl ?_
      refine kv_aastO X (κ := ak) (n := cap2) (j := n) (f := f2) (κv := e) ((w1 _).mpr (Or.inr rfl)) w5 (by omega) (by omega) ((w1 _).mpr (Or.inl he)) ((w3 _ hea hel).trans hEe) hcl hcs dJx4a65c_add_72be8_14 ?_
      refine kv_aload_n X 1 dJx4a65c_add_72be8_15 rfl rfl ?_
      refine kv_iload_n X 3 dJx4a65c_add_72be8_16 rfl rfl ?_
      refine kv_iconst (v := 1) X dJx4a65c_add_72be8_17 (by decide) ?_
      refine kv_iadd X dJx4a65c_add_72be8_18 ?_
      refine kv_topi (nI (n + 1)) (nI_add n 1) ?_
      refine kv_putfield X fp_Jx4a65c_add_72be8_48 (κ := lk) (fs := [.int mc, .ref (z.2.1 ak), .int (nI n)]) ((w1 _).mpr (Or.inl hlk)) ((va_up_ne _ _ hne).trans w4) rfl rfl (Nat.le_of_ble_eq_true rfl) dJx4a65c_add_72be8_19 ?_
      exact kv_return X hr (Nat.le_of_ble_eq_true rfl) (Nat.le_of_ble_eq_true rfl) ⟨(z.1, z.2.1, (va_up (va_up z.2.2 ak (kO dd cap2 (va_up f2 n (some (z.2.1 e))))) lk (Sum.inr (2, [.int mc, .ref (z.2.1 ak), .int (nI (n + 1))])))), ⟨w1, w2, fun j h1 h2 => (va_up_ne _ _ h2).trans ((va_up_ne _ _ h1).trans (w3 j h1 h2)), va_up_self _ _ _, cap2, _, c1, c2, c3, (va_up_ne _ _ (Ne.symm hne)).trans (va_up_self _ _ _), fun i hi => (Decidable.em (i = n)).elim (fun c => by rw [c, va_up_self]; show _ = ite _ _ _; rw [if_pos rfl, w2 _ hea]) (fun c => by rw [va_up_ne _ _ c]; show _ = ite _ _ _; rw [if_neg c]; exact w6 i (by omega))⟩, rfl⟩ dJx4a65c_add_72be8_22
theorem fs_Jx4a65c_add_9ea2d_63 : kFS wsJx4a65c_add_9ea2d RJx4a65c 63 2 0 .int := ⟨_, RJx4a65c, TJx4a65c, 3, tyJx4a65c, fun _ h => (List.mem_cons_of_mem _ (List.mem_append_right _ h)), tyJx4a65c_ok, nmJx4a65c, (List.mem_cons_of_mem _ (List.mem_append_left _ (List.mem_append_left _ (List.mem_of_getElem? (i := 0) rfl)))), rfl, by decide, (List.mem_cons_of_mem _ (List.mem_append_left _ (List.mem_append_left _ (List.mem_of_getElem? (i := 1) rfl)))), rfl, by decide +kernel⟩
theorem f_Jx4a65c_add_9ea2d_9 : kF wsJx4a65c_add_9ea2d RJx4a65c 9 2 1 := ⟨_, RJx4a65c, TJx4a65c, 3, fun _ h => (List.mem_cons_of_mem _ (List.mem_append_right _ h)), (List.mem_cons_of_mem _ (List.mem_append_left _ (List.mem_append_left _ (List.mem_of_getElem? (i := 2) rfl)))), rfl, by decide, rfl⟩
theorem f_Jx4a65c_add_9ea2d_48 : kF wsJx4a65c_add_9ea2d RJx4a65c 48 2 2 := ⟨_, RJx4a65c, TJx4a65c, 3, fun _ h => (List.mem_cons_of_mem _ (List.mem_append_right _ h)), (List.mem_cons_of_mem _ (List.mem_append_left _ (List.mem_append_left _ (List.mem_of_getElem? (i := 3) rfl)))), rfl, by decide, rfl⟩
set_option maxRecDepth 100000 in
set_option maxHeartbeats 4000000 in
theorem c_Jx4a65c_add_9ea2d (l : Launch) (dd : kDD) (ks : List Nat) (ad : Nat → Nat) (E : Nat → va_E) (lk ak n : Nat) (ek : Nat → Nat) (ci : Nat) (fe : List Value) (hL : kLs dd ks ad E lk ak n ek ci) (hn : n < 59) (he : ek n ∈ ks) (hea : ek n ≠ ak) (hel : ek n ≠ lk) (hEe : E (ek n) = .inr (ci, fe)) : kCi l yJx4a65c_add_9ea2d wsJx4a65c_add_9ea2d ({ frames := 6, cells := 1, slots := 90, locals := 150 } : Room) 1 90 dd [.ref (ad lk), .ref (ad (ek n))] (ks, ad, E) (kQi (S := kT) (fun r z => r = 1 ∧ ∃ mc, kGw ks ad E dd lk ak (n + 1) (n + 1) (n + 1) mc (fun i => some (ad (ek i))) z) (fun z => z.1) (fun z => z.2.1) (fun z => z.2.2)) := by
  refine kMeti (ws' := _) (cc := cJx4a65c_add_9ea2d) (maxL := 2) (rt := .boolean) (by decide) rfl (Nat.le_of_ble_eq_true rfl) (fun g X hr hnL hRR hl0 hkn => ?_)
  show kv dd g 0 0 0 [(0, .ref (ad lk)), (1, .ref (ad (ek n)))] [] ks ad E
  obtain ⟨hlk, hne, hci, hn60, hes0, mc, hdis⟩ := hL
  obtain ⟨q, hQ, hO⟩ : ∃ q, kLq dd ks ad E lk ak n ek mc q ∧ E lk = .inr (2, [.int mc, .ref q, .int (nI n)]) := by
    rcases hdis with ⟨h1, h2⟩ | ⟨cap, f, b1, b2, b3, b4, b5, b6, b7⟩
    · exact ⟨_, Or.inl ⟨h1, rfl, h2⟩, h2⟩
    · exact ⟨_, Or.inr ⟨cap, f, rfl, b1, b2, b3, b4, b5, b6, b7⟩, b7⟩
  refine kv_aload_n X 0 dJx4a65c_add_9ea2d_0 rfl rfl ?_
  refine kv_dup X dJx4a65c_add_9ea2d_1 rfl ?_
  refine kv_getfieldS X fs_Jx4a65c_add_9ea2d_63 (κ := lk) (fs := [.int mc, .ref q, .int (nI n)]) (v := .int mc) hlk hO rfl dJx4a65c_add_9ea2d_2 ?_
  refine kv_iconst (v := 1) X dJx4a65c_add_9ea2d_5 (by decide) ?_
  refine kv_iadd X dJx4a65c_add_9ea2d_6 ?_
  refine kv_putfieldS X fs_Jx4a65c_add_9ea2d_63 (κ := lk) (fs := [.int mc, .ref q, .int (nI n)]) hlk hO rfl rfl (Nat.le_of_ble_eq_true rfl) dJx4a65c_add_9ea2d_7 ?_
  refine kv_aload_n X 0 dJx4a65c_add_9ea2d_10 rfl rfl ?_
  refine kv_aload_n X 1 dJx4a65c_add_9ea2d_11 rfl rfl ?_
  refine kv_aload_n X 0 dJx4a65c_add_9ea2d_12 rfl rfl ?_
  refine kv_getfield X f_Jx4a65c_add_9ea2d_9 (κ := lk) (fs := [.int (mc + 1), .ref q, .int (nI n)]) (v := .ref q) hlk (va_up_self _ _ _) rfl dJx4a65c_add_9ea2d_13 ?_
  refine kv_aload_n X 0 dJx4a65c_add_9ea2d_16 rfl rfl ?_
  refine kv_getfield X f_Jx4a65c_add_9ea2d_48 (κ := lk) (fs := [.int (mc + 1), .ref q, .int (nI n)]) (v := .int (nI n)) hlk (va_up_self _ _ _) rfl dJx4a65c_add_9ea2d_17 ?_
  refine kv_E (E2 := (va_up E lk (Sum.inr (2, [.int (mc + 1), .ref q, .int (nI n)])))) (fun j _ => rfl) ?_
  have hes2 : kEs ks (va_up E lk (Sum.inr (2, [.int (mc + 1), .ref q, .int (nI n)]))) lk ak n ek ci := ⟨hci, fun i hi => by obtain ⟨b1, b2, b3, fs, b4⟩ := hes0 i hi; exact ⟨b1, b2, b3, fs, (va_up_ne _ _ b2).trans b4⟩⟩
  have hQ2 : kLq dd ks ad (va_up E lk (Sum.inr (2, [.int (mc + 1), .ref q, .int (nI n)]))) lk ak n ek (mc + 1) q := by
    rcases hQ with ⟨h1, h2, h3⟩ | ⟨cap, f, b0, b1, b2, b3, b4, b5, b6, b7⟩
    · exact Or.inl ⟨h1, h2, va_up_self _ _ _⟩
    · exact Or.inr ⟨cap, f, b0, b1, b2, b3, b4, (va_up_ne _ _ (Ne.symm hne)).trans b5, b6, va_up_self _ _ _⟩
  refine kv_callvV (ci := 2) (κ := lk) (r1 := (TJx4a65c, 3)) (As := [.ref (ad (ek n)), .ref q, .int (nI n)]) [] X (c_Jx4a65c_add_72be8 l dd ks ad (va_up E lk (Sum.inr (2, [.int (mc + 1), .ref q, .int (nI n)]))) lk ak n ci (ek n) ci ek (mc + 1) q fe hlk hne hes2 (by omega) hQ2 he hea hel ((va_up_ne _ _ hel).trans hEe) hci) hl0 (kCV_of X 3 gJx4a65c_add_9ea2d_Jx4a65c_add_72be8 rfl rfl rfl (by decide +kernel) hRR ⟨(Nat.le_of_ble_eq_true rfl), (Nat.le_of_ble_eq_true rfl)⟩) hlk (va_up_self _ _ _) rfl rfl rfl (Nat.le_of_ble_eq_true rfl) hRR ⟨(Nat.le_of_ble_eq_true rfl), (Nat.le_of_ble_eq_true rfl)⟩ dJx4a65c_add_9ea2d_20 (fun z hp => ?_)
  obtain ⟨w1, w2, w3, w4, cap2, f2, c1, c2, c3, w5, w6⟩ := hp
  refine kv_iconst (v := 1) X dJx4a65c_add_9ea2d_23 (by decide) ?_
  exact kv_zreturn X hr rfl (Nat.le_of_ble_eq_true rfl) (Nat.le_of_ble_eq_true rfl) ⟨z, ⟨rfl, _, w1, w2, fun j h1 h2 => (w3 j h1 h2).trans (va_up_ne _ _ h2), w4, cap2, f2, c1, c2, c3, w5, fun i hi => (w6 i hi).trans (by show ite _ _ _ = _; exact (Decidable.em (i = n)).elim (fun c => by rw [if_pos c, c]) (fun c => by rw [if_neg c]))⟩, rfl⟩ dJx4a65c_add_9ea2d_24
theorem kLs_add {dd : kDD} {ks : List Nat} {ad : Nat → Nat} {E : Nat → va_E} {lk ak n : Nat} {ek : Nat → Nat} {ci : Nat} {fe : List Value} {mc : Int32} {z : kT} (hL : kLs dd ks ad E lk ak n ek ci) (hn : n < 59) (he : ek n ∈ ks) (hea : ek n ≠ ak) (hel : ek n ≠ lk) (hEe : E (ek n) = .inr (ci, fe)) (hw : kGw ks ad E dd lk ak (n + 1) (n + 1) (n + 1) mc (fun i => some (ad (ek i))) z) : kLs dd z.1 z.2.1 z.2.2 lk ak (n + 1) ek ci := by
  obtain ⟨hlk, hne, hci, hn60, hes, -⟩ := hL
  obtain ⟨w1, w2, w3, w4, cap2, f2, c1, c2, c3, w5, w6⟩ := hw
  refine ⟨(w1 _).mpr (Or.inl hlk), hne, hci, by omega, fun i hi => ?_, mc, Or.inr ⟨cap2, f2, (w1 _).mpr (Or.inr rfl), c1, c2, c3, w5, fun i hi => ?_, w4⟩⟩
  · by_cases c : i = n
    · subst c; exact ⟨(w1 _).mpr (Or.inl he), hel, hea, fe, (w3 _ hea hel).trans hEe⟩
    · obtain ⟨b1, b2, b3, fs, b4⟩ := hes i (by omega)
      exact ⟨(w1 _).mpr (Or.inl b1), b2, b3, fs, (w3 _ b3 b2).trans b4⟩
  · rw [w6 i hi]
    by_cases c : i = n
    · subst c; rw [w2 _ hea]
    · rw [w2 _ (hes i (by omega)).2.2.1]

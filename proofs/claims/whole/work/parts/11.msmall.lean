/-! the reference's small methods -/
theorem i_lt (a b : Int32) : a < b ↔ a.toInt < b.toInt := Int32.lt_iff_toInt_lt
theorem i_le (a b : Int32) : a ≤ b ↔ a.toInt ≤ b.toInt := Int32.le_iff_toInt_le
theorem k_rng {v : Int32} {n : Nat} (hn : n < 2 ^ 30) : (0 ≤ v ∧ v ≤ nI n - 1) ↔ ∃ j, j < n ∧ v = nI j := by
  have e2 : (nI n - 1).toInt = (n : Int) - 1 := pk_sub_toInt (a := n) (b := 1) hn (by decide)
  have e0 : (0 : Int32).toInt = 0 := rfl
  constructor
  · rintro ⟨h0, h1⟩
    obtain ⟨j, hj, rfl⟩ := nI_of (x := v) (by rw [i_lt]; rw [i_le] at h0; omega)
    refine ⟨j, ?_, rfl⟩
    rw [i_le, nI_toInt hj] at h1
    omega
  · rintro ⟨j, hj, rfl⟩
    rw [i_le, i_le, nI_toInt (by omega)]
    omega


set_option maxRecDepth 100000 in
set_option maxHeartbeats 4000000 in
theorem c_X11_in (l : Launch) (dd : kDD) (ad : Nat → Nat) (M : mS) (v : Int32) (lo : Int32) (hi : Int32)  : kCi l yX11_in wsX11_in ({ frames := 0, cells := 0, slots := 0, locals := 0 } : Room) 0 0 dd [.int v, .int lo, .int hi] (mK, ad, mE dd ad M) (kQi (S := mS) (fun r z => M = z ∧ ((r = 1 ∧ lo ≤ v ∧ v ≤ hi) ∨ (r = 0 ∧ ¬ (lo ≤ v ∧ v ≤ hi)))) (fun _ => mK) (fun _ => ad) (fun z => mE dd ad z)) := by
  refine kMeti (ws' := _) (cc := cX11_in) (maxL := 3) (rt := .boolean) (by decide) rfl (Nat.le_of_ble_eq_true rfl) (fun g X hr hnL hRR hl0 hkn => ?_)
  show kv dd g 0 0 0 [(0, .int v), (1, .int lo), (2, .int hi)] [] mK ad (mE dd ad M)
  refine kv_iload_n X 0 dX11_in_0 rfl rfl ?_
  refine kv_iload_n X 1 dX11_in_1 rfl rfl ?_
  refine kv_icmp_lt (tgt := 14) X dX11_in_2 (by decide) (fun hc2 => ?_) (fun hc2 => ?_)
  ·
    refine kv_iconst (v := 0) X dX11_in_14 (by decide) ?_
    exact kv_zreturn X hr rfl (by decide) (by decide) ⟨M, ⟨rfl, Or.inr ⟨rfl, fun q => by have q1 := q.1; have q2 := q.2; rw [i_le] at q1 q2; first | (rw [i_lt] at hc7; omega) | (rw [i_lt] at hc2; omega)⟩⟩, rfl⟩ dX11_in_15
  ·
    refine kv_iload_n X 0 dX11_in_5 rfl rfl ?_
    refine kv_iload_n X 2 dX11_in_6 rfl rfl ?_
    refine kv_icmp_gt (tgt := 14) X dX11_in_7 (by decide) (fun hc7 => ?_) (fun hc7 => ?_)
    ·
      refine kv_iconst (v := 0) X dX11_in_14 (by decide) ?_
      exact kv_zreturn X hr rfl (by decide) (by decide) ⟨M, ⟨rfl, Or.inr ⟨rfl, fun q => by have q1 := q.1; have q2 := q.2; rw [i_le] at q1 q2; first | (rw [i_lt] at hc7; omega) | (rw [i_lt] at hc2; omega)⟩⟩, rfl⟩ dX11_in_15
    ·
      refine kv_iconst (v := 1) X dX11_in_10 (by decide) ?_
      refine kv_goto (tgt := 15) X dX11_in_11 (by decide) ?_
      exact kv_zreturn X hr rfl (by decide) (by decide) ⟨M, ⟨rfl, Or.inl ⟨rfl, by rw [i_lt] at hc2; rw [i_le]; omega, by rw [i_lt] at hc7; rw [i_le]; omega⟩⟩, rfl⟩ dX11_in_15
theorem f_X11_fails_86 : kF wsX11_fails RX11 86 14 0 := ⟨_, RX11, TX11, 34, fun _ h => (List.mem_cons_of_mem _ (List.mem_append_right _ h)), (List.mem_cons_of_mem _ (List.mem_append_left _ (List.mem_of_getElem? (i := 0) rfl))), rfl, by decide, rfl⟩
theorem fp_X11_fails_86 : kFp wsX11_fails RX11 86 14 0 .int false := ⟨_, RX11, TX11, 34, tyX11, fun _ h => (List.mem_cons_of_mem _ (List.mem_append_right _ h)), tyX11_ok, nmX11, (List.mem_cons_of_mem _ (List.mem_append_left _ (List.mem_of_getElem? (i := 0) rfl))), rfl, by decide, rfl, rfl, by decide +kernel, rfl⟩
set_option maxRecDepth 100000 in
set_option maxHeartbeats 4000000 in
theorem c_X11_fails1 (l : Launch) (dd : kDD) (ad : Nat → Nat) (M : mS) (e : Int32) (he : ¬ e = 0) (h0 : M.1 0 = 0) : kCi l yX11_fails wsX11_fails ({ frames := 0, cells := 0, slots := 0, locals := 0 } : Room) 0 0 dd [.ref (ad 0), .int 1, .int e] (mK, ad, mE dd ad M) (kQi (S := mS) (fun r z => r = 1 ∧ (va_up M.1 0 e, M.2) = z) (fun _ => mK) (fun _ => ad) (fun z => mE dd ad z)) := by
  refine kMeti (ws' := _) (cc := cX11_fails) (maxL := 3) (rt := .boolean) (by decide) rfl (Nat.le_of_ble_eq_true rfl) (fun g X hr hnL hRR hl0 hkn => ?_)
  show kv dd g 0 0 0 [(0, .ref (ad 0)), (1, .int 1), (2, .int e)] [] mK ad (mE dd ad M)
  refine kv_iload_n X 1 dX11_fails_0 rfl rfl ?_
  refine kv_if_eq (tgt := 16) X dX11_fails_1 (by decide) (fun hc => absurd hc (by decide)) (fun hc1 => ?_)
  refine kv_aload_n X 0 dX11_fails_4 rfl rfl ?_
  refine km_get X 0 (v := .int (M.1 0)) f_X11_fails_86 rfl dX11_fails_5 ?_
  refine kv_topi 0 h0 ?_
  refine kv_if_ne (tgt := 16) X dX11_fails_8 (by decide) (fun hc => absurd hc (by decide)) (fun hc8 => ?_)
  refine kv_aload_n X 0 dX11_fails_11 rfl rfl ?_
  refine kv_iload_n X 2 dX11_fails_12 rfl rfl ?_
  refine km_put X 0 (x := e) fp_X11_fails_86 (by decide) dX11_fails_13 ?_
  refine kv_aload_n X 0 dX11_fails_16 rfl rfl ?_
  refine km_get X 0 (v := .int e) f_X11_fails_86 rfl dX11_fails_17 ?_
  refine kv_if_eq (tgt := 27) X dX11_fails_20 (by decide) (fun hc20 => False.elim (he hc20)) (fun hc20 => ?_)
  refine kv_iconst (v := 1) X dX11_fails_23 (by decide) ?_
  refine kv_goto (tgt := 28) X dX11_fails_24 (by decide) ?_
  exact kv_zreturn X hr rfl (by decide) (by decide) ⟨((va_up M.1 0 e), M.2.1, M.2.2), ⟨rfl, rfl⟩, rfl⟩ dX11_fails_28
set_option maxRecDepth 100000 in
set_option maxHeartbeats 4000000 in
theorem c_X11_fails0 (l : Launch) (dd : kDD) (ad : Nat → Nat) (M : mS) (e : Int32) (h0 : M.1 0 = 0) : kCi l yX11_fails wsX11_fails ({ frames := 0, cells := 0, slots := 0, locals := 0 } : Room) 0 0 dd [.ref (ad 0), .int 0, .int e] (mK, ad, mE dd ad M) (kQi (S := mS) (fun r z => r = 0 ∧ M = z) (fun _ => mK) (fun _ => ad) (fun z => mE dd ad z)) := by
  refine kMeti (ws' := _) (cc := cX11_fails) (maxL := 3) (rt := .boolean) (by decide) rfl (Nat.le_of_ble_eq_true rfl) (fun g X hr hnL hRR hl0 hkn => ?_)
  show kv dd g 0 0 0 [(0, .ref (ad 0)), (1, .int 0), (2, .int e)] [] mK ad (mE dd ad M)
  refine kv_iload_n X 1 dX11_fails_0 rfl rfl ?_
  refine kv_if_eq (tgt := 16) X dX11_fails_1 (by decide) (fun hc1 => ?_) (fun hc => absurd hc (by decide))
  refine kv_aload_n X 0 dX11_fails_16 rfl rfl ?_
  refine km_get X 0 (v := .int (M.1 0)) f_X11_fails_86 rfl dX11_fails_17 ?_
  refine kv_topi 0 h0 ?_
  refine kv_if_eq (tgt := 27) X dX11_fails_20 (by decide) (fun hc20 => ?_) (fun hc => absurd hc (by decide))
  refine kv_iconst (v := 0) X dX11_fails_27 (by decide) ?_
  exact kv_zreturn X hr rfl (by decide) (by decide) ⟨M, ⟨rfl, rfl⟩, rfl⟩ dX11_fails_28
theorem f_X11_noResource_90 : kF wsX11_noResource RX11 90 14 1 := ⟨_, RX11, TX11, 34, fun _ h => (List.mem_cons_of_mem _ (List.mem_append_right _ h)), (List.mem_cons_of_mem _ (List.mem_append_left _ (List.mem_of_getElem? (i := 0) rfl))), rfl, by decide, rfl⟩
set_option maxRecDepth 100000 in
set_option maxHeartbeats 4000000 in
theorem c_X11_noResource (l : Launch) (dd : kDD) (ad : Nat → Nat) (M : mS) (v : Int32) (nR : Nat) (hb : nR ≤ 12) (hn : M.1 1 = nI nR) : kCi l yX11_noResource wsX11_noResource ({ frames := 1, cells := 0, slots := 0, locals := 22 } : Room) 0 0 dd [.ref (ad 0), .int v] (mK, ad, mE dd ad M) (kQi (S := mS) (fun r z => M = z ∧ ((r = 1 ∧ ¬ ∃ j, j < nR ∧ v = nI j) ∨ (r = 0 ∧ ∃ j, j < nR ∧ v = nI j))) (fun _ => mK) (fun _ => ad) (fun z => mE dd ad z)) := by
  refine kMeti (ws' := _) (cc := cX11_noResource) (maxL := 2) (rt := .boolean) (by decide) rfl (Nat.le_of_ble_eq_true rfl) (fun g X hr hnL hRR hl0 hkn => ?_)
  show kv dd g 0 0 0 [(0, .ref (ad 0)), (1, .int v)] [] mK ad (mE dd ad M)
  refine kv_iload_n X 1 dX11_noResource_0 rfl rfl ?_
  refine kv_iconst (v := 0) X dX11_noResource_1 (by decide) ?_
  refine kv_aload_n X 0 dX11_noResource_2 rfl rfl ?_
  refine km_get X 1 (v := .int (M.1 1)) f_X11_noResource_90 rfl dX11_noResource_3 ?_
  refine kv_topi (nI nR) hn ?_
  refine kv_iconst (v := 1) X dX11_noResource_6 (by decide) ?_
  refine kv_isub X dX11_noResource_7 ?_
  refine kv_calliS (As := [.int v, .int 0, .int ((nI nR) - 1)]) [] X (c_X11_in l dd ad M v 0 ((nI nR) - 1)) hl0 (kCS_of X 3 gX11_noResource_X11_in rfl rfl rfl (by decide +kernel) hRR ⟨Nat.le_of_ble_eq_true rfl, Nat.le_of_ble_eq_true rfl⟩) rfl rfl (Nat.le_of_ble_eq_true rfl) hRR ⟨Nat.le_of_ble_eq_true rfl, Nat.le_of_ble_eq_true rfl⟩ dX11_noResource_8 (fun r z hp => ?_)
  obtain ⟨rfl, ⟨rfl, o8⟩ | ⟨rfl, o8⟩⟩ := hp
  ·
    obtain ⟨j8, h8, rfl⟩ := (k_rng (by omega)).mp o8
    refine kv_if_ne (tgt := 18) X dX11_noResource_11 (by decide) (fun hc11 => ?_) (fun hc => absurd hc (by decide))
    refine kv_iconst (v := 0) X dX11_noResource_18 (by decide) ?_
    exact kv_zreturn X hr rfl (by decide) (by decide) ⟨M, ⟨rfl, Or.inr ⟨rfl, j8, h8, rfl⟩⟩, rfl⟩ dX11_noResource_19
  ·
    have h8 := fun q => o8 ((k_rng (by omega)).mpr q)
    refine kv_if_ne (tgt := 18) X dX11_noResource_11 (by decide) (fun hc => absurd hc (by decide)) (fun hc11 => ?_)
    refine kv_iconst (v := 1) X dX11_noResource_14 (by decide) ?_
    refine kv_goto (tgt := 19) X dX11_noResource_15 (by decide) ?_
    exact kv_zreturn X hr rfl (by decide) (by decide) ⟨M, ⟨rfl, Or.inl ⟨rfl, h8⟩⟩, rfl⟩ dX11_noResource_19
theorem f_X11_noItem_97 : kF wsX11_noItem RX11 97 14 10 := ⟨_, RX11, TX11, 34, fun _ h => (List.mem_cons_of_mem _ (List.mem_append_right _ h)), (List.mem_cons_of_mem _ (List.mem_append_left _ (List.mem_of_getElem? (i := 0) rfl))), rfl, by decide, rfl⟩
set_option maxRecDepth 100000 in
set_option maxHeartbeats 4000000 in
theorem c_X11_noItem (l : Launch) (dd : kDD) (ad : Nat → Nat) (M : mS) (v : Int32) (nt : Nat) (hb : nt ≤ 12) (hn : M.1 10 = nI nt) : kCi l yX11_noItem wsX11_noItem ({ frames := 1, cells := 0, slots := 0, locals := 22 } : Room) 0 0 dd [.ref (ad 0), .int v] (mK, ad, mE dd ad M) (kQi (S := mS) (fun r z => M = z ∧ ((r = 1 ∧ ¬ ∃ j, j < nt ∧ v = nI j) ∨ (r = 0 ∧ ∃ j, j < nt ∧ v = nI j))) (fun _ => mK) (fun _ => ad) (fun z => mE dd ad z)) := by
  refine kMeti (ws' := _) (cc := cX11_noItem) (maxL := 2) (rt := .boolean) (by decide) rfl (Nat.le_of_ble_eq_true rfl) (fun g X hr hnL hRR hl0 hkn => ?_)
  show kv dd g 0 0 0 [(0, .ref (ad 0)), (1, .int v)] [] mK ad (mE dd ad M)
  refine kv_iload_n X 1 dX11_noItem_0 rfl rfl ?_
  refine kv_iconst (v := 0) X dX11_noItem_1 (by decide) ?_
  refine kv_aload_n X 0 dX11_noItem_2 rfl rfl ?_
  refine km_get X 10 (v := .int (M.1 10)) f_X11_noItem_97 rfl dX11_noItem_3 ?_
  refine kv_topi (nI nt) hn ?_
  refine kv_iconst (v := 1) X dX11_noItem_6 (by decide) ?_
  refine kv_isub X dX11_noItem_7 ?_
  refine kv_calliS (As := [.int v, .int 0, .int ((nI nt) - 1)]) [] X (c_X11_in l dd ad M v 0 ((nI nt) - 1)) hl0 (kCS_of X 3 gX11_noItem_X11_in rfl rfl rfl (by decide +kernel) hRR ⟨Nat.le_of_ble_eq_true rfl, Nat.le_of_ble_eq_true rfl⟩) rfl rfl (Nat.le_of_ble_eq_true rfl) hRR ⟨Nat.le_of_ble_eq_true rfl, Nat.le_of_ble_eq_true rfl⟩ dX11_noItem_8 (fun r z hp => ?_)
  obtain ⟨rfl, ⟨rfl, o8⟩ | ⟨rfl, o8⟩⟩ := hp
  ·
    obtain ⟨j8, h8, rfl⟩ := (k_rng (by omega)).mp o8
    refine kv_if_ne (tgt := 18) X dX11_noItem_11 (by decide) (fun hc11 => ?_) (fun hc => absurd hc (by decide))
    refine kv_iconst (v := 0) X dX11_noItem_18 (by decide) ?_
    exact kv_zreturn X hr rfl (by decide) (by decide) ⟨M, ⟨rfl, Or.inr ⟨rfl, j8, h8, rfl⟩⟩, rfl⟩ dX11_noItem_19
  ·
    have h8 := fun q => o8 ((k_rng (by omega)).mpr q)
    refine kv_if_ne (tgt := 18) X dX11_noItem_11 (by decide) (fun hc => absurd hc (by decide)) (fun hc11 => ?_)
    refine kv_iconst (v := 1) X dX11_noItem_14 (by decide) ?_
    refine kv_goto (tgt := 19) X dX11_noItem_15 (by decide) ?_
    exact kv_zreturn X hr rfl (by decide) (by decide) ⟨M, ⟨rfl, Or.inl ⟨rfl, h8⟩⟩, rfl⟩ dX11_noItem_19
theorem f_X11_noLine_100 : kF wsX11_noLine RX11 100 14 16 := ⟨_, RX11, TX11, 34, fun _ h => (List.mem_cons_of_mem _ (List.mem_append_right _ h)), (List.mem_cons_of_mem _ (List.mem_append_left _ (List.mem_of_getElem? (i := 0) rfl))), rfl, by decide, rfl⟩
set_option maxRecDepth 100000 in
set_option maxHeartbeats 4000000 in
theorem c_X11_noLine (l : Launch) (dd : kDD) (ad : Nat → Nat) (M : mS) (v : Int32) (nL : Nat) (hb : nL ≤ 10) (hn : M.1 16 = nI nL) : kCi l yX11_noLine wsX11_noLine ({ frames := 1, cells := 0, slots := 0, locals := 22 } : Room) 0 0 dd [.ref (ad 0), .int v] (mK, ad, mE dd ad M) (kQi (S := mS) (fun r z => M = z ∧ ((r = 1 ∧ ¬ ∃ j, j < nL ∧ v = nI j) ∨ (r = 0 ∧ ∃ j, j < nL ∧ v = nI j))) (fun _ => mK) (fun _ => ad) (fun z => mE dd ad z)) := by
  refine kMeti (ws' := _) (cc := cX11_noLine) (maxL := 2) (rt := .boolean) (by decide) rfl (Nat.le_of_ble_eq_true rfl) (fun g X hr hnL hRR hl0 hkn => ?_)
  show kv dd g 0 0 0 [(0, .ref (ad 0)), (1, .int v)] [] mK ad (mE dd ad M)
  refine kv_iload_n X 1 dX11_noLine_0 rfl rfl ?_
  refine kv_iconst (v := 0) X dX11_noLine_1 (by decide) ?_
  refine kv_aload_n X 0 dX11_noLine_2 rfl rfl ?_
  refine km_get X 16 (v := .int (M.1 16)) f_X11_noLine_100 rfl dX11_noLine_3 ?_
  refine kv_topi (nI nL) hn ?_
  refine kv_iconst (v := 1) X dX11_noLine_6 (by decide) ?_
  refine kv_isub X dX11_noLine_7 ?_
  refine kv_calliS (As := [.int v, .int 0, .int ((nI nL) - 1)]) [] X (c_X11_in l dd ad M v 0 ((nI nL) - 1)) hl0 (kCS_of X 3 gX11_noLine_X11_in rfl rfl rfl (by decide +kernel) hRR ⟨Nat.le_of_ble_eq_true rfl, Nat.le_of_ble_eq_true rfl⟩) rfl rfl (Nat.le_of_ble_eq_true rfl) hRR ⟨Nat.le_of_ble_eq_true rfl, Nat.le_of_ble_eq_true rfl⟩ dX11_noLine_8 (fun r z hp => ?_)
  obtain ⟨rfl, ⟨rfl, o8⟩ | ⟨rfl, o8⟩⟩ := hp
  ·
    obtain ⟨j8, h8, rfl⟩ := (k_rng (by omega)).mp o8
    refine kv_if_ne (tgt := 18) X dX11_noLine_11 (by decide) (fun hc11 => ?_) (fun hc => absurd hc (by decide))
    refine kv_iconst (v := 0) X dX11_noLine_18 (by decide) ?_
    exact kv_zreturn X hr rfl (by decide) (by decide) ⟨M, ⟨rfl, Or.inr ⟨rfl, j8, h8, rfl⟩⟩, rfl⟩ dX11_noLine_19
  ·
    have h8 := fun q => o8 ((k_rng (by omega)).mpr q)
    refine kv_if_ne (tgt := 18) X dX11_noLine_11 (by decide) (fun hc => absurd hc (by decide)) (fun hc11 => ?_)
    refine kv_iconst (v := 1) X dX11_noLine_14 (by decide) ?_
    refine kv_goto (tgt := 19) X dX11_noLine_15 (by decide) ?_
    exact kv_zreturn X hr rfl (by decide) (by decide) ⟨M, ⟨rfl, Or.inl ⟨rfl, h8⟩⟩, rfl⟩ dX11_noLine_19
theorem f_X11_noVariant_103 : kF wsX11_noVariant RX11 103 14 21 := ⟨_, RX11, TX11, 34, fun _ h => (List.mem_cons_of_mem _ (List.mem_append_right _ h)), (List.mem_cons_of_mem _ (List.mem_append_left _ (List.mem_of_getElem? (i := 0) rfl))), rfl, by decide, rfl⟩
set_option maxRecDepth 100000 in
set_option maxHeartbeats 4000000 in
theorem c_X11_noVariant (l : Launch) (dd : kDD) (ad : Nat → Nat) (M : mS) (v : Int32) (nV : Nat) (hb : nV ≤ 4) (hn : M.1 21 = nI nV) : kCi l yX11_noVariant wsX11_noVariant ({ frames := 1, cells := 0, slots := 0, locals := 22 } : Room) 0 0 dd [.ref (ad 0), .int v] (mK, ad, mE dd ad M) (kQi (S := mS) (fun r z => M = z ∧ ((r = 1 ∧ ¬ ∃ j, j < nV ∧ v = nI j) ∨ (r = 0 ∧ ∃ j, j < nV ∧ v = nI j))) (fun _ => mK) (fun _ => ad) (fun z => mE dd ad z)) := by
  refine kMeti (ws' := _) (cc := cX11_noVariant) (maxL := 2) (rt := .boolean) (by decide) rfl (Nat.le_of_ble_eq_true rfl) (fun g X hr hnL hRR hl0 hkn => ?_)
  show kv dd g 0 0 0 [(0, .ref (ad 0)), (1, .int v)] [] mK ad (mE dd ad M)
  refine kv_iload_n X 1 dX11_noVariant_0 rfl rfl ?_
  refine kv_iconst (v := 0) X dX11_noVariant_1 (by decide) ?_
  refine kv_aload_n X 0 dX11_noVariant_2 rfl rfl ?_
  refine km_get X 21 (v := .int (M.1 21)) f_X11_noVariant_103 rfl dX11_noVariant_3 ?_
  refine kv_topi (nI nV) hn ?_
  refine kv_iconst (v := 1) X dX11_noVariant_6 (by decide) ?_
  refine kv_isub X dX11_noVariant_7 ?_
  refine kv_calliS (As := [.int v, .int 0, .int ((nI nV) - 1)]) [] X (c_X11_in l dd ad M v 0 ((nI nV) - 1)) hl0 (kCS_of X 3 gX11_noVariant_X11_in rfl rfl rfl (by decide +kernel) hRR ⟨Nat.le_of_ble_eq_true rfl, Nat.le_of_ble_eq_true rfl⟩) rfl rfl (Nat.le_of_ble_eq_true rfl) hRR ⟨Nat.le_of_ble_eq_true rfl, Nat.le_of_ble_eq_true rfl⟩ dX11_noVariant_8 (fun r z hp => ?_)
  obtain ⟨rfl, ⟨rfl, o8⟩ | ⟨rfl, o8⟩⟩ := hp
  ·
    obtain ⟨j8, h8, rfl⟩ := (k_rng (by omega)).mp o8
    refine kv_if_ne (tgt := 18) X dX11_noVariant_11 (by decide) (fun hc11 => ?_) (fun hc => absurd hc (by decide))
    refine kv_iconst (v := 0) X dX11_noVariant_18 (by decide) ?_
    exact kv_zreturn X hr rfl (by decide) (by decide) ⟨M, ⟨rfl, Or.inr ⟨rfl, j8, h8, rfl⟩⟩, rfl⟩ dX11_noVariant_19
  ·
    have h8 := fun q => o8 ((k_rng (by omega)).mpr q)
    refine kv_if_ne (tgt := 18) X dX11_noVariant_11 (by decide) (fun hc => absurd hc (by decide)) (fun hc11 => ?_)
    refine kv_iconst (v := 1) X dX11_noVariant_14 (by decide) ?_
    refine kv_goto (tgt := 19) X dX11_noVariant_15 (by decide) ?_
    exact kv_zreturn X hr rfl (by decide) (by decide) ⟨M, ⟨rfl, Or.inl ⟨rfl, h8⟩⟩, rfl⟩ dX11_noVariant_19
theorem f_X11_noRow_152 : kF wsX11_noRow RX11 152 14 18 := ⟨_, RX11, TX11, 34, fun _ h => (List.mem_cons_of_mem _ (List.mem_append_right _ h)), (List.mem_cons_of_mem _ (List.mem_append_left _ (List.mem_of_getElem? (i := 0) rfl))), rfl, by decide, rfl⟩
set_option maxRecDepth 100000 in
set_option maxHeartbeats 4000000 in
theorem c_X11_noRow (l : Launch) (dd : kDD) (ad : Nat → Nat) (M : mS) (v : Int32) (nW : Nat) (hb : nW ≤ 40) (hn : M.1 18 = nI nW) : kCi l yX11_noRow wsX11_noRow ({ frames := 1, cells := 0, slots := 0, locals := 22 } : Room) 0 0 dd [.ref (ad 0), .int v] (mK, ad, mE dd ad M) (kQi (S := mS) (fun r z => M = z ∧ ((r = 1 ∧ ¬ ∃ j, j < nW ∧ v = nI j) ∨ (r = 0 ∧ ∃ j, j < nW ∧ v = nI j))) (fun _ => mK) (fun _ => ad) (fun z => mE dd ad z)) := by
  refine kMeti (ws' := _) (cc := cX11_noRow) (maxL := 2) (rt := .boolean) (by decide) rfl (Nat.le_of_ble_eq_true rfl) (fun g X hr hnL hRR hl0 hkn => ?_)
  show kv dd g 0 0 0 [(0, .ref (ad 0)), (1, .int v)] [] mK ad (mE dd ad M)
  refine kv_iload_n X 1 dX11_noRow_0 rfl rfl ?_
  refine kv_iconst (v := 0) X dX11_noRow_1 (by decide) ?_
  refine kv_aload_n X 0 dX11_noRow_2 rfl rfl ?_
  refine km_get X 18 (v := .int (M.1 18)) f_X11_noRow_152 rfl dX11_noRow_3 ?_
  refine kv_topi (nI nW) hn ?_
  refine kv_iconst (v := 1) X dX11_noRow_6 (by decide) ?_
  refine kv_isub X dX11_noRow_7 ?_
  refine kv_calliS (As := [.int v, .int 0, .int ((nI nW) - 1)]) [] X (c_X11_in l dd ad M v 0 ((nI nW) - 1)) hl0 (kCS_of X 3 gX11_noRow_X11_in rfl rfl rfl (by decide +kernel) hRR ⟨Nat.le_of_ble_eq_true rfl, Nat.le_of_ble_eq_true rfl⟩) rfl rfl (Nat.le_of_ble_eq_true rfl) hRR ⟨Nat.le_of_ble_eq_true rfl, Nat.le_of_ble_eq_true rfl⟩ dX11_noRow_8 (fun r z hp => ?_)
  obtain ⟨rfl, ⟨rfl, o8⟩ | ⟨rfl, o8⟩⟩ := hp
  ·
    obtain ⟨j8, h8, rfl⟩ := (k_rng (by omega)).mp o8
    refine kv_if_ne (tgt := 18) X dX11_noRow_11 (by decide) (fun hc11 => ?_) (fun hc => absurd hc (by decide))
    refine kv_iconst (v := 0) X dX11_noRow_18 (by decide) ?_
    exact kv_zreturn X hr rfl (by decide) (by decide) ⟨M, ⟨rfl, Or.inr ⟨rfl, j8, h8, rfl⟩⟩, rfl⟩ dX11_noRow_19
  ·
    have h8 := fun q => o8 ((k_rng (by omega)).mpr q)
    refine kv_if_ne (tgt := 18) X dX11_noRow_11 (by decide) (fun hc => absurd hc (by decide)) (fun hc11 => ?_)
    refine kv_iconst (v := 1) X dX11_noRow_14 (by decide) ?_
    refine kv_goto (tgt := 19) X dX11_noRow_15 (by decide) ?_
    exact kv_zreturn X hr rfl (by decide) (by decide) ⟨M, ⟨rfl, Or.inl ⟨rfl, h8⟩⟩, rfl⟩ dX11_noRow_19
theorem f_X11_noMarkup_175 : kF wsX11_noMarkup RX11 175 14 25 := ⟨_, RX11, TX11, 34, fun _ h => (List.mem_cons_of_mem _ (List.mem_append_right _ h)), (List.mem_cons_of_mem _ (List.mem_append_left _ (List.mem_of_getElem? (i := 0) rfl))), rfl, by decide, rfl⟩
set_option maxRecDepth 100000 in
set_option maxHeartbeats 4000000 in
theorem c_X11_noMarkup (l : Launch) (dd : kDD) (ad : Nat → Nat) (M : mS) (v : Int32) (nM : Nat) (hb : nM ≤ 4) (hn : M.1 25 = nI nM) : kCi l yX11_noMarkup wsX11_noMarkup ({ frames := 1, cells := 0, slots := 0, locals := 22 } : Room) 0 0 dd [.ref (ad 0), .int v] (mK, ad, mE dd ad M) (kQi (S := mS) (fun r z => M = z ∧ ((r = 1 ∧ ¬ ∃ j, j < nM ∧ v = nI j) ∨ (r = 0 ∧ ∃ j, j < nM ∧ v = nI j))) (fun _ => mK) (fun _ => ad) (fun z => mE dd ad z)) := by
  refine kMeti (ws' := _) (cc := cX11_noMarkup) (maxL := 2) (rt := .boolean) (by decide) rfl (Nat.le_of_ble_eq_true rfl) (fun g X hr hnL hRR hl0 hkn => ?_)
  show kv dd g 0 0 0 [(0, .ref (ad 0)), (1, .int v)] [] mK ad (mE dd ad M)
  refine kv_iload_n X 1 dX11_noMarkup_0 rfl rfl ?_
  refine kv_iconst (v := 0) X dX11_noMarkup_1 (by decide) ?_
  refine kv_aload_n X 0 dX11_noMarkup_2 rfl rfl ?_
  refine km_get X 25 (v := .int (M.1 25)) f_X11_noMarkup_175 rfl dX11_noMarkup_3 ?_
  refine kv_topi (nI nM) hn ?_
  refine kv_iconst (v := 1) X dX11_noMarkup_6 (by decide) ?_
  refine kv_isub X dX11_noMarkup_7 ?_
  refine kv_calliS (As := [.int v, .int 0, .int ((nI nM) - 1)]) [] X (c_X11_in l dd ad M v 0 ((nI nM) - 1)) hl0 (kCS_of X 3 gX11_noMarkup_X11_in rfl rfl rfl (by decide +kernel) hRR ⟨Nat.le_of_ble_eq_true rfl, Nat.le_of_ble_eq_true rfl⟩) rfl rfl (Nat.le_of_ble_eq_true rfl) hRR ⟨Nat.le_of_ble_eq_true rfl, Nat.le_of_ble_eq_true rfl⟩ dX11_noMarkup_8 (fun r z hp => ?_)
  obtain ⟨rfl, ⟨rfl, o8⟩ | ⟨rfl, o8⟩⟩ := hp
  ·
    obtain ⟨j8, h8, rfl⟩ := (k_rng (by omega)).mp o8
    refine kv_if_ne (tgt := 18) X dX11_noMarkup_11 (by decide) (fun hc11 => ?_) (fun hc => absurd hc (by decide))
    refine kv_iconst (v := 0) X dX11_noMarkup_18 (by decide) ?_
    exact kv_zreturn X hr rfl (by decide) (by decide) ⟨M, ⟨rfl, Or.inr ⟨rfl, j8, h8, rfl⟩⟩, rfl⟩ dX11_noMarkup_19
  ·
    have h8 := fun q => o8 ((k_rng (by omega)).mpr q)
    refine kv_if_ne (tgt := 18) X dX11_noMarkup_11 (by decide) (fun hc => absurd hc (by decide)) (fun hc11 => ?_)
    refine kv_iconst (v := 1) X dX11_noMarkup_14 (by decide) ?_
    refine kv_goto (tgt := 19) X dX11_noMarkup_15 (by decide) ?_
    exact kv_zreturn X hr rfl (by decide) (by decide) ⟨M, ⟨rfl, Or.inl ⟨rfl, h8⟩⟩, rfl⟩ dX11_noMarkup_19

/-! what the reference computes, and its small methods (2) -/
/-- the thrown field behind a refused call, behind another -/
def mT (M : mS) (k : Int32) : mS := (va_up (va_up M.1 0 0) 0 k, M.2)
def mT0 (M : mS) : mS := (va_up M.1 0 0, M.2)
/-- the sum of the measures of a line's rows, the first n rows looked at -/
def mq (rl ms : Nat → Int32) (line : Int32) : Nat → Int32
  | 0 => 0
  | n + 1 => mq rl ms line n + (if rl n = line then ms n else 0)
/-- what is meant by number j, from variant v on, k variants left; w: how many numbers a variant has -/
def mnt (on : Int32) (tab : Nat → Int32) (j : Nat) : Nat → Nat → Int32
  | 0, _ => nI j
  | k + 1, v => if on >>> (nI v &&& 31) &&& 1 = 1 ∧ ¬ tab (12 * v + j) = -1 then tab (12 * v + j) else mnt on tab j k (v + 1)
/-- how many of the first n behind 'fr' are not -1 -/
def tld (tab : Nat → Int32) (fr : Nat) : Nat → Int32
  | 0 => 0
  | n + 1 => tld tab fr n + (if tab (fr + n) = -1 then 0 else 1)
theorem mnt_in {on : Int32} {tab : Nat → Int32} {j : Nat} (hj : j < 12) {m : Nat} (hm : m ≤ 4) (h : ∀ q, q < 12 * m → tab q = -1 ∨ ∃ x, x < 12 ∧ tab q = nI x) : ∀ k v, v + k ≤ m → ∃ x, x < 12 ∧ mnt on tab j k v = nI x := by
  intro k
  induction k with
  | zero => intro v _; exact ⟨j, hj, rfl⟩
  | succ k ih =>
    intro v hv
    rw [mnt]
    by_cases c : on >>> (nI v &&& 31) &&& 1 = 1 ∧ ¬ tab (12 * v + j) = -1
    · rw [if_pos c]
      rcases h (12 * v + j) (by omega) with q | q
      · exact absurd q c.2
      · exact q
    · rw [if_neg c]
      exact ih (v + 1) (by omega)

theorem f_X11_thrown_86 : kF wsX11_thrown RX11 86 14 0 := ⟨_, RX11, TX11, 34, fun _ h => (List.mem_cons_of_mem _ (List.mem_append_right _ h)), (List.mem_cons_of_mem _ (List.mem_append_left _ (List.mem_of_getElem? (i := 0) rfl))), rfl, by decide, rfl⟩
set_option maxRecDepth 100000 in
set_option maxHeartbeats 4000000 in
theorem c_X11_thrown (l : Launch) (dd : kDD) (ad : Nat → Nat) (M : mS)   : kCi l yX11_thrown wsX11_thrown ({ frames := 0, cells := 0, slots := 0, locals := 0 } : Room) 0 0 dd [.ref (ad 0)] (mK, ad, mE dd ad M) (kQi (S := mS) (fun r z => M = z ∧ r = M.1 0) (fun _ => mK) (fun _ => ad) (fun z => mE dd ad z)) := by
  refine kMeti (ws' := _) (cc := cX11_thrown) (maxL := 1) (rt := .int) (by decide) rfl (Nat.le_of_ble_eq_true rfl) (fun g X hr hnL hRR hl0 hkn => ?_)
  show kv dd g 0 0 0 [(0, .ref (ad 0))] [] mK ad (mE dd ad M)
  refine kv_aload_n X 0 dX11_thrown_0 rfl rfl ?_
  refine km_get X 0 (v := .int (M.1 0)) f_X11_thrown_86 rfl dX11_thrown_1 ?_
  exact kv_ireturn X hr (by decide) (by decide) ⟨M, ⟨rfl, rfl⟩, rfl⟩ dX11_thrown_4
theorem fp_X11_rows_86 : kFp wsX11_rows RX11 86 14 0 .int false := ⟨_, RX11, TX11, 34, tyX11, fun _ h => (List.mem_cons_of_mem _ (List.mem_append_right _ h)), tyX11_ok, nmX11, (List.mem_cons_of_mem _ (List.mem_append_left _ (List.mem_of_getElem? (i := 0) rfl))), rfl, by decide, rfl, rfl, by decide +kernel, rfl⟩
theorem f_X11_rows_152 : kF wsX11_rows RX11 152 14 18 := ⟨_, RX11, TX11, 34, fun _ h => (List.mem_cons_of_mem _ (List.mem_append_right _ h)), (List.mem_cons_of_mem _ (List.mem_append_left _ (List.mem_of_getElem? (i := 1) rfl))), rfl, by decide, rfl⟩
set_option maxRecDepth 100000 in
set_option maxHeartbeats 4000000 in
theorem c_X11_rows (l : Launch) (dd : kDD) (ad : Nat → Nat) (M : mS)   : kCi l yX11_rows wsX11_rows ({ frames := 0, cells := 0, slots := 0, locals := 0 } : Room) 0 0 dd [.ref (ad 0)] (mK, ad, mE dd ad M) (kQi (S := mS) (fun r z => mT0 M = z ∧ r = M.1 18) (fun _ => mK) (fun _ => ad) (fun z => mE dd ad z)) := by
  refine kMeti (ws' := _) (cc := cX11_rows) (maxL := 1) (rt := .int) (by decide) rfl (Nat.le_of_ble_eq_true rfl) (fun g X hr hnL hRR hl0 hkn => ?_)
  show kv dd g 0 0 0 [(0, .ref (ad 0))] [] mK ad (mE dd ad M)
  refine kv_aload_n X 0 dX11_rows_0 rfl rfl ?_
  refine kv_iconst (v := 0) X dX11_rows_1 (by decide) ?_
  refine km_put X 0 (x := 0) fp_X11_rows_86 (by decide) dX11_rows_2 ?_
  refine kv_aload_n X 0 dX11_rows_5 rfl rfl ?_
  refine km_get X 18 (v := .int (M.1 18)) f_X11_rows_152 rfl dX11_rows_6 ?_
  exact kv_ireturn X hr (by decide) (by decide) ⟨((va_up M.1 0 0), M.2.1, M.2.2), ⟨rfl, rfl⟩, rfl⟩ dX11_rows_9
theorem fp_X11_isSound_86 : kFp wsX11_isSound RX11 86 14 0 .int false := ⟨_, RX11, TX11, 34, tyX11, fun _ h => (List.mem_cons_of_mem _ (List.mem_append_right _ h)), tyX11_ok, nmX11, (List.mem_cons_of_mem _ (List.mem_append_left _ (List.mem_of_getElem? (i := 0) rfl))), rfl, by decide, rfl, rfl, by decide +kernel, rfl⟩
set_option maxRecDepth 100000 in
set_option maxHeartbeats 4000000 in
theorem c_X11_isSound (l : Launch) (dd : kDD) (ad : Nat → Nat) (M : mS)   : kCi l yX11_isSound wsX11_isSound ({ frames := 0, cells := 0, slots := 0, locals := 0 } : Room) 0 0 dd [.ref (ad 0)] (mK, ad, mE dd ad M) (kQi (S := mS) (fun r z => mT0 M = z ∧ r = 1) (fun _ => mK) (fun _ => ad) (fun z => mE dd ad z)) := by
  refine kMeti (ws' := _) (cc := cX11_isSound) (maxL := 1) (rt := .boolean) (by decide) rfl (Nat.le_of_ble_eq_true rfl) (fun g X hr hnL hRR hl0 hkn => ?_)
  show kv dd g 0 0 0 [(0, .ref (ad 0))] [] mK ad (mE dd ad M)
  refine kv_aload_n X 0 dX11_isSound_0 rfl rfl ?_
  refine kv_iconst (v := 0) X dX11_isSound_1 (by decide) ?_
  refine km_put X 0 (x := 0) fp_X11_isSound_86 (by decide) dX11_isSound_2 ?_
  refine kv_iconst (v := 1) X dX11_isSound_5 (by decide) ?_
  exact kv_zreturn X hr rfl (by decide) (by decide) ⟨((va_up M.1 0 0), M.2.1, M.2.2), ⟨rfl, rfl⟩, rfl⟩ dX11_isSound_6
theorem fp_X11_setPrice_86 : kFp wsX11_setPrice RX11 86 14 0 .int false := ⟨_, RX11, TX11, 34, tyX11, fun _ h => (List.mem_cons_of_mem _ (List.mem_append_left _ (List.mem_append_right _ h))), tyX11_ok, nmX11, (List.mem_cons_of_mem _ (List.mem_append_left _ (List.mem_append_left _ (List.mem_of_getElem? (i := 0) rfl)))), rfl, by decide, rfl, rfl, by decide +kernel, rfl⟩
theorem f_X11_setPrice_13 : kF wsX11_setPrice RX11 13 14 3 := ⟨_, RX11, TX11, 34, fun _ h => (List.mem_cons_of_mem _ (List.mem_append_left _ (List.mem_append_right _ h))), (List.mem_cons_of_mem _ (List.mem_append_left _ (List.mem_append_left _ (List.mem_of_getElem? (i := 1) rfl)))), rfl, by decide, rfl⟩
set_option maxRecDepth 100000 in
set_option maxHeartbeats 4000000 in
theorem c_X11_setPrice (l : Launch) (dd : kDD) (ad : Nat → Nat) (M : mS) (v : Int32) (p : Int32) (nR : Nat) (hR : M.1 1 = nI nR ∧ nR ≤ 12) : kCi l yX11_setPrice wsX11_setPrice ({ frames := 2, cells := 0, slots := 0, locals := 43 } : Room) 0 0 dd [.ref (ad 0), .int v, .int p] (mK, ad, mE dd ad M) (kQi (S := mS) (fun r z => (¬ (∃ j, j < nR ∧ v = nI j) ∧ mT M 1 = z ∧ r = 0) ∨ ((∃ j, j < nR ∧ v = nI j) ∧ ¬ (0 ≤ p ∧ p ≤ 9999) ∧ mT M 2 = z ∧ r = 0) ∨ ∃ j, (j < nR ∧ v = nI j) ∧ (0 ≤ p ∧ p ≤ 9999) ∧ ((mT0 M).1, va_up M.2.1 3 (upd (M.2.1 3) j p), M.2.2) = z ∧ r = M.2.1 3 j) (fun _ => mK) (fun _ => ad) (fun z => mE dd ad z)) := by
  refine kMeti (ws' := _) (cc := cX11_setPrice) (maxL := 4) (rt := .int) (by decide) rfl (Nat.le_of_ble_eq_true rfl) (fun g X hr hnL hRR hl0 hkn => ?_)
  show kv dd g 0 0 0 [(0, .ref (ad 0)), (1, .int v), (2, .int p)] [] mK ad (mE dd ad M)
  refine kv_aload_n X 0 dX11_setPrice_0 rfl rfl ?_
  refine kv_iconst (v := 0) X dX11_setPrice_1 (by decide) ?_
  refine km_put X 0 (x := 0) fp_X11_setPrice_86 (by decide) dX11_setPrice_2 ?_
  refine kv_aload_n X 0 dX11_setPrice_5 rfl rfl ?_
  refine kv_aload_n X 0 dX11_setPrice_6 rfl rfl ?_
  refine kv_iload_n X 1 dX11_setPrice_7 rfl rfl ?_
  refine kv_calliV (ci := 14) (κ := 0) (r1 := (TX11, 34)) (As := [.int v]) [.ref (ad 0)] X (c_X11_noResource l dd ad ((va_up M.1 0 0), M.2.1, M.2.2) v nR hR.2 hR.1) hl0 (kCV_of X 1 gX11_setPrice_X11_noResource rfl rfl rfl (by decide +kernel) hRR ⟨Nat.le_of_ble_eq_true rfl, Nat.le_of_ble_eq_true rfl⟩) (by decide) rfl rfl rfl rfl (Nat.le_of_ble_eq_true rfl) hRR ⟨Nat.le_of_ble_eq_true rfl, Nat.le_of_ble_eq_true rfl⟩ dX11_setPrice_8 (fun r z hp => ?_)
  obtain ⟨rfl, ⟨rfl, h8⟩ | ⟨rfl, j8, h8, rfl⟩⟩ := hp
  ·
    refine kv_iconst (v := 1) X dX11_setPrice_11 (by decide) ?_
    refine kv_calliV (ci := 14) (κ := 0) (r1 := (TX11, 34)) (As := [.int 1, .int 1]) [] X (c_X11_fails1 l dd ad ((va_up M.1 0 0), M.2.1, M.2.2) 1 (by decide) rfl) hl0 (kCV_of X 2 gX11_setPrice_X11_fails rfl rfl rfl (by decide +kernel) hRR ⟨Nat.le_of_ble_eq_true rfl, Nat.le_of_ble_eq_true rfl⟩) (by decide) rfl rfl rfl rfl (Nat.le_of_ble_eq_true rfl) hRR ⟨Nat.le_of_ble_eq_true rfl, Nat.le_of_ble_eq_true rfl⟩ dX11_setPrice_12 (fun r z hp => ?_)
    obtain ⟨rfl, rfl⟩ := hp
    refine kv_if_ne (tgt := 42) X dX11_setPrice_15 (by decide) (fun hc15 => ?_) (fun hc => absurd hc (by decide))
    refine kv_iconst (v := 0) X dX11_setPrice_42 (by decide) ?_
    exact kv_ireturn X hr (by decide) (by decide) ⟨((va_up (va_up M.1 0 0) 0 1), M.2.1, M.2.2), Or.inl ⟨h8, rfl, rfl⟩, rfl⟩ dX11_setPrice_43
  ·
    refine kv_iconst (v := 1) X dX11_setPrice_11 (by decide) ?_
    refine kv_calliV (ci := 14) (κ := 0) (r1 := (TX11, 34)) (As := [.int 0, .int 1]) [] X (c_X11_fails0 l dd ad ((va_up M.1 0 0), M.2.1, M.2.2) 1 rfl) hl0 (kCV_of X 2 gX11_setPrice_X11_fails rfl rfl rfl (by decide +kernel) hRR ⟨Nat.le_of_ble_eq_true rfl, Nat.le_of_ble_eq_true rfl⟩) (by decide) rfl rfl rfl rfl (Nat.le_of_ble_eq_true rfl) hRR ⟨Nat.le_of_ble_eq_true rfl, Nat.le_of_ble_eq_true rfl⟩ dX11_setPrice_12 (fun r z hp => ?_)
    obtain ⟨rfl, rfl⟩ := hp
    refine kv_if_ne (tgt := 42) X dX11_setPrice_15 (by decide) (fun hc => absurd hc (by decide)) (fun hc15 => ?_)
    refine kv_aload_n X 0 dX11_setPrice_18 rfl rfl ?_
    refine kv_iload_n X 2 dX11_setPrice_19 rfl rfl ?_
    refine kv_iconst (v := 0) X dX11_setPrice_20 (by decide) ?_
    refine kv_sipush (v := 9999) X dX11_setPrice_21 (by decide) ?_
    refine kv_calliS (As := [.int p, .int 0, .int 9999]) [.ref (ad 0)] X (c_X11_in l dd ad ((va_up M.1 0 0), M.2.1, M.2.2) p 0 9999) hl0 (kCS_of X 3 gX11_setPrice_X11_in rfl rfl rfl (by decide +kernel) hRR ⟨Nat.le_of_ble_eq_true rfl, Nat.le_of_ble_eq_true rfl⟩) rfl rfl (Nat.le_of_ble_eq_true rfl) hRR ⟨Nat.le_of_ble_eq_true rfl, Nat.le_of_ble_eq_true rfl⟩ dX11_setPrice_24 (fun r z hp => ?_)
    obtain ⟨rfl, ⟨rfl, h24⟩ | ⟨rfl, h24⟩⟩ := hp
    ·
      refine kv_if_ne (tgt := 34) X dX11_setPrice_27 (by decide) (fun hc27 => ?_) (fun hc => absurd hc (by decide))
      refine kv_iconst (v := 0) X dX11_setPrice_34 (by decide) ?_
      refine kv_iconst (v := 2) X dX11_setPrice_35 (by decide) ?_
      refine kv_calliV (ci := 14) (κ := 0) (r1 := (TX11, 34)) (As := [.int 0, .int 2]) [] X (c_X11_fails0 l dd ad ((va_up M.1 0 0), M.2.1, M.2.2) 2 rfl) hl0 (kCV_of X 2 gX11_setPrice_X11_fails rfl rfl rfl (by decide +kernel) hRR ⟨Nat.le_of_ble_eq_true rfl, Nat.le_of_ble_eq_true rfl⟩) (by decide) rfl rfl rfl rfl (Nat.le_of_ble_eq_true rfl) hRR ⟨Nat.le_of_ble_eq_true rfl, Nat.le_of_ble_eq_true rfl⟩ dX11_setPrice_36 (fun r z hp => ?_)
      obtain ⟨rfl, rfl⟩ := hp
      refine kv_if_eq (tgt := 44) X dX11_setPrice_39 (by decide) (fun hc39 => ?_) (fun hc => absurd hc (by decide))
      refine kv_aload_n X 0 dX11_setPrice_44 rfl rfl ?_
      refine km_get X 3 (v := .ref (ad 3)) f_X11_setPrice_13 rfl dX11_setPrice_45 ?_
      refine kv_iload_n X 1 dX11_setPrice_48 rfl rfl ?_
      refine km_iald X 3 (j := j8) (by decide) (by decide) rfl (by show _ < _; simp only [mLen]; omega) (by decide) dX11_setPrice_49 ?_
      refine kv_topi ((M.2.1 3) j8) rfl ?_
      refine kv_istore_n (lv2 := [(3, .int ((M.2.1 3) j8)), (0, .ref (ad 0)), (1, .int (nI j8)), (2, .int p)]) X dX11_setPrice_50 rfl (by rw [hnL]; decide) rfl ?_
      refine kv_aload_n X 1 dX11_setPrice_51 rfl rfl ?_
      refine km_get X 3 (v := .ref (ad 3)) f_X11_setPrice_13 rfl dX11_setPrice_52 ?_
      refine kv_iload_n X 2 dX11_setPrice_55 rfl rfl ?_
      refine kv_iload_n X 3 dX11_setPrice_56 rfl rfl ?_
      refine km_iast X 3 (j := j8) (x := p) (by decide) (by decide) rfl (by show _ < _; simp only [mLen]; omega) (by decide) dX11_setPrice_57 ?_
      refine kv_iload_n X 0 dX11_setPrice_58 rfl rfl ?_
      exact kv_ireturn X hr (by decide) (by decide) ⟨((va_up M.1 0 0), (va_up M.2.1 3 (upd (M.2.1 3) j8 p)), M.2.2), Or.inr (Or.inr ⟨j8, ⟨h8, rfl⟩, h24, rfl, rfl⟩), rfl⟩ dX11_setPrice_59
    ·
      refine kv_if_ne (tgt := 34) X dX11_setPrice_27 (by decide) (fun hc => absurd hc (by decide)) (fun hc27 => ?_)
      refine kv_iconst (v := 1) X dX11_setPrice_30 (by decide) ?_
      refine kv_goto (tgt := 35) X dX11_setPrice_31 (by decide) ?_
      refine kv_iconst (v := 2) X dX11_setPrice_35 (by decide) ?_
      refine kv_calliV (ci := 14) (κ := 0) (r1 := (TX11, 34)) (As := [.int 1, .int 2]) [] X (c_X11_fails1 l dd ad ((va_up M.1 0 0), M.2.1, M.2.2) 2 (by decide) rfl) hl0 (kCV_of X 2 gX11_setPrice_X11_fails rfl rfl rfl (by decide +kernel) hRR ⟨Nat.le_of_ble_eq_true rfl, Nat.le_of_ble_eq_true rfl⟩) (by decide) rfl rfl rfl rfl (Nat.le_of_ble_eq_true rfl) hRR ⟨Nat.le_of_ble_eq_true rfl, Nat.le_of_ble_eq_true rfl⟩ dX11_setPrice_36 (fun r z hp => ?_)
      obtain ⟨rfl, rfl⟩ := hp
      refine kv_if_eq (tgt := 44) X dX11_setPrice_39 (by decide) (fun hc => absurd hc (by decide)) (fun hc39 => ?_)
      refine kv_iconst (v := 0) X dX11_setPrice_42 (by decide) ?_
      exact kv_ireturn X hr (by decide) (by decide) ⟨((va_up (va_up M.1 0 0) 0 2), M.2.1, M.2.2), Or.inr (Or.inl ⟨⟨j8, h8, rfl⟩, h24, rfl, rfl⟩), rfl⟩ dX11_setPrice_43
theorem fp_X11_setPercent_86 : kFp wsX11_setPercent RX11 86 14 0 .int false := ⟨_, RX11, TX11, 34, tyX11, fun _ h => (List.mem_cons_of_mem _ (List.mem_append_left _ (List.mem_append_right _ h))), tyX11_ok, nmX11, (List.mem_cons_of_mem _ (List.mem_append_left _ (List.mem_append_left _ (List.mem_of_getElem? (i := 0) rfl)))), rfl, by decide, rfl, rfl, by decide +kernel, rfl⟩
theorem f_X11_setPercent_61 : kF wsX11_setPercent RX11 61 14 26 := ⟨_, RX11, TX11, 34, fun _ h => (List.mem_cons_of_mem _ (List.mem_append_left _ (List.mem_append_right _ h))), (List.mem_cons_of_mem _ (List.mem_append_left _ (List.mem_append_left _ (List.mem_of_getElem? (i := 1) rfl)))), rfl, by decide, rfl⟩
set_option maxRecDepth 100000 in
set_option maxHeartbeats 4000000 in
theorem c_X11_setPercent (l : Launch) (dd : kDD) (ad : Nat → Nat) (M : mS) (v : Int32) (p : Int32) (nM : Nat) (hM : M.1 25 = nI nM ∧ nM ≤ 4) : kCi l yX11_setPercent wsX11_setPercent ({ frames := 2, cells := 0, slots := 0, locals := 43 } : Room) 0 0 dd [.ref (ad 0), .int v, .int p] (mK, ad, mE dd ad M) (kQi (S := mS) (fun r z => (¬ (∃ j, j < nM ∧ v = nI j) ∧ mT M 1 = z ∧ r = 0) ∨ ((∃ j, j < nM ∧ v = nI j) ∧ ¬ (0 ≤ p ∧ p ≤ 50) ∧ mT M 2 = z ∧ r = 0) ∨ ∃ j, (j < nM ∧ v = nI j) ∧ (0 ≤ p ∧ p ≤ 50) ∧ ((mT0 M).1, va_up M.2.1 26 (upd (M.2.1 26) j p), M.2.2) = z ∧ r = M.2.1 26 j) (fun _ => mK) (fun _ => ad) (fun z => mE dd ad z)) := by
  refine kMeti (ws' := _) (cc := cX11_setPercent) (maxL := 4) (rt := .int) (by decide) rfl (Nat.le_of_ble_eq_true rfl) (fun g X hr hnL hRR hl0 hkn => ?_)
  show kv dd g 0 0 0 [(0, .ref (ad 0)), (1, .int v), (2, .int p)] [] mK ad (mE dd ad M)
  refine kv_aload_n X 0 dX11_setPercent_0 rfl rfl ?_
  refine kv_iconst (v := 0) X dX11_setPercent_1 (by decide) ?_
  refine km_put X 0 (x := 0) fp_X11_setPercent_86 (by decide) dX11_setPercent_2 ?_
  refine kv_aload_n X 0 dX11_setPercent_5 rfl rfl ?_
  refine kv_aload_n X 0 dX11_setPercent_6 rfl rfl ?_
  refine kv_iload_n X 1 dX11_setPercent_7 rfl rfl ?_
  refine kv_calliV (ci := 14) (κ := 0) (r1 := (TX11, 34)) (As := [.int v]) [.ref (ad 0)] X (c_X11_noMarkup l dd ad ((va_up M.1 0 0), M.2.1, M.2.2) v nM hM.2 hM.1) hl0 (kCV_of X 1 gX11_setPercent_X11_noMarkup rfl rfl rfl (by decide +kernel) hRR ⟨Nat.le_of_ble_eq_true rfl, Nat.le_of_ble_eq_true rfl⟩) (by decide) rfl rfl rfl rfl (Nat.le_of_ble_eq_true rfl) hRR ⟨Nat.le_of_ble_eq_true rfl, Nat.le_of_ble_eq_true rfl⟩ dX11_setPercent_8 (fun r z hp => ?_)
  obtain ⟨rfl, ⟨rfl, h8⟩ | ⟨rfl, j8, h8, rfl⟩⟩ := hp
  ·
    refine kv_iconst (v := 1) X dX11_setPercent_11 (by decide) ?_
    refine kv_calliV (ci := 14) (κ := 0) (r1 := (TX11, 34)) (As := [.int 1, .int 1]) [] X (c_X11_fails1 l dd ad ((va_up M.1 0 0), M.2.1, M.2.2) 1 (by decide) rfl) hl0 (kCV_of X 2 gX11_setPercent_X11_fails rfl rfl rfl (by decide +kernel) hRR ⟨Nat.le_of_ble_eq_true rfl, Nat.le_of_ble_eq_true rfl⟩) (by decide) rfl rfl rfl rfl (Nat.le_of_ble_eq_true rfl) hRR ⟨Nat.le_of_ble_eq_true rfl, Nat.le_of_ble_eq_true rfl⟩ dX11_setPercent_12 (fun r z hp => ?_)
    obtain ⟨rfl, rfl⟩ := hp
    refine kv_if_ne (tgt := 41) X dX11_setPercent_15 (by decide) (fun hc15 => ?_) (fun hc => absurd hc (by decide))
    refine kv_iconst (v := 0) X dX11_setPercent_41 (by decide) ?_
    exact kv_ireturn X hr (by decide) (by decide) ⟨((va_up (va_up M.1 0 0) 0 1), M.2.1, M.2.2), Or.inl ⟨h8, rfl, rfl⟩, rfl⟩ dX11_setPercent_42
  ·
    refine kv_iconst (v := 1) X dX11_setPercent_11 (by decide) ?_
    refine kv_calliV (ci := 14) (κ := 0) (r1 := (TX11, 34)) (As := [.int 0, .int 1]) [] X (c_X11_fails0 l dd ad ((va_up M.1 0 0), M.2.1, M.2.2) 1 rfl) hl0 (kCV_of X 2 gX11_setPercent_X11_fails rfl rfl rfl (by decide +kernel) hRR ⟨Nat.le_of_ble_eq_true rfl, Nat.le_of_ble_eq_true rfl⟩) (by decide) rfl rfl rfl rfl (Nat.le_of_ble_eq_true rfl) hRR ⟨Nat.le_of_ble_eq_true rfl, Nat.le_of_ble_eq_true rfl⟩ dX11_setPercent_12 (fun r z hp => ?_)
    obtain ⟨rfl, rfl⟩ := hp
    refine kv_if_ne (tgt := 41) X dX11_setPercent_15 (by decide) (fun hc => absurd hc (by decide)) (fun hc15 => ?_)
    refine kv_aload_n X 0 dX11_setPercent_18 rfl rfl ?_
    refine kv_iload_n X 2 dX11_setPercent_19 rfl rfl ?_
    refine kv_iconst (v := 0) X dX11_setPercent_20 (by decide) ?_
    refine kv_bipush (v := 50) X dX11_setPercent_21 (by decide) ?_
    refine kv_calliS (As := [.int p, .int 0, .int 50]) [.ref (ad 0)] X (c_X11_in l dd ad ((va_up M.1 0 0), M.2.1, M.2.2) p 0 50) hl0 (kCS_of X 3 gX11_setPercent_X11_in rfl rfl rfl (by decide +kernel) hRR ⟨Nat.le_of_ble_eq_true rfl, Nat.le_of_ble_eq_true rfl⟩) rfl rfl (Nat.le_of_ble_eq_true rfl) hRR ⟨Nat.le_of_ble_eq_true rfl, Nat.le_of_ble_eq_true rfl⟩ dX11_setPercent_23 (fun r z hp => ?_)
    obtain ⟨rfl, ⟨rfl, h23⟩ | ⟨rfl, h23⟩⟩ := hp
    ·
      refine kv_if_ne (tgt := 33) X dX11_setPercent_26 (by decide) (fun hc26 => ?_) (fun hc => absurd hc (by decide))
      refine kv_iconst (v := 0) X dX11_setPercent_33 (by decide) ?_
      refine kv_iconst (v := 2) X dX11_setPercent_34 (by decide) ?_
      refine kv_calliV (ci := 14) (κ := 0) (r1 := (TX11, 34)) (As := [.int 0, .int 2]) [] X (c_X11_fails0 l dd ad ((va_up M.1 0 0), M.2.1, M.2.2) 2 rfl) hl0 (kCV_of X 2 gX11_setPercent_X11_fails rfl rfl rfl (by decide +kernel) hRR ⟨Nat.le_of_ble_eq_true rfl, Nat.le_of_ble_eq_true rfl⟩) (by decide) rfl rfl rfl rfl (Nat.le_of_ble_eq_true rfl) hRR ⟨Nat.le_of_ble_eq_true rfl, Nat.le_of_ble_eq_true rfl⟩ dX11_setPercent_35 (fun r z hp => ?_)
      obtain ⟨rfl, rfl⟩ := hp
      refine kv_if_eq (tgt := 43) X dX11_setPercent_38 (by decide) (fun hc38 => ?_) (fun hc => absurd hc (by decide))
      refine kv_aload_n X 0 dX11_setPercent_43 rfl rfl ?_
      refine km_get X 26 (v := .ref (ad 26)) f_X11_setPercent_61 rfl dX11_setPercent_44 ?_
      refine kv_iload_n X 1 dX11_setPercent_47 rfl rfl ?_
      refine km_iald X 26 (j := j8) (by decide) (by decide) rfl (by show _ < _; simp only [mLen]; omega) (by decide) dX11_setPercent_48 ?_
      refine kv_topi ((M.2.1 26) j8) rfl ?_
      refine kv_istore_n (lv2 := [(3, .int ((M.2.1 26) j8)), (0, .ref (ad 0)), (1, .int (nI j8)), (2, .int p)]) X dX11_setPercent_49 rfl (by rw [hnL]; decide) rfl ?_
      refine kv_aload_n X 1 dX11_setPercent_50 rfl rfl ?_
      refine km_get X 26 (v := .ref (ad 26)) f_X11_setPercent_61 rfl dX11_setPercent_51 ?_
      refine kv_iload_n X 2 dX11_setPercent_54 rfl rfl ?_
      refine kv_iload_n X 3 dX11_setPercent_55 rfl rfl ?_
      refine km_iast X 26 (j := j8) (x := p) (by decide) (by decide) rfl (by show _ < _; simp only [mLen]; omega) (by decide) dX11_setPercent_56 ?_
      refine kv_iload_n X 0 dX11_setPercent_57 rfl rfl ?_
      exact kv_ireturn X hr (by decide) (by decide) ⟨((va_up M.1 0 0), (va_up M.2.1 26 (upd (M.2.1 26) j8 p)), M.2.2), Or.inr (Or.inr ⟨j8, ⟨h8, rfl⟩, h23, rfl, rfl⟩), rfl⟩ dX11_setPercent_58
    ·
      refine kv_if_ne (tgt := 33) X dX11_setPercent_26 (by decide) (fun hc => absurd hc (by decide)) (fun hc26 => ?_)
      refine kv_iconst (v := 1) X dX11_setPercent_29 (by decide) ?_
      refine kv_goto (tgt := 34) X dX11_setPercent_30 (by decide) ?_
      refine kv_iconst (v := 2) X dX11_setPercent_34 (by decide) ?_
      refine kv_calliV (ci := 14) (κ := 0) (r1 := (TX11, 34)) (As := [.int 1, .int 2]) [] X (c_X11_fails1 l dd ad ((va_up M.1 0 0), M.2.1, M.2.2) 2 (by decide) rfl) hl0 (kCV_of X 2 gX11_setPercent_X11_fails rfl rfl rfl (by decide +kernel) hRR ⟨Nat.le_of_ble_eq_true rfl, Nat.le_of_ble_eq_true rfl⟩) (by decide) rfl rfl rfl rfl (Nat.le_of_ble_eq_true rfl) hRR ⟨Nat.le_of_ble_eq_true rfl, Nat.le_of_ble_eq_true rfl⟩ dX11_setPercent_35 (fun r z hp => ?_)
      obtain ⟨rfl, rfl⟩ := hp
      refine kv_if_eq (tgt := 43) X dX11_setPercent_38 (by decide) (fun hc => absurd hc (by decide)) (fun hc38 => ?_)
      refine kv_iconst (v := 0) X dX11_setPercent_41 (by decide) ?_
      exact kv_ireturn X hr (by decide) (by decide) ⟨((va_up (va_up M.1 0 0) 0 2), M.2.1, M.2.2), Or.inr (Or.inl ⟨⟨j8, h8, rfl⟩, h23, rfl, rfl⟩), rfl⟩ dX11_setPercent_42
theorem fp_X11_addCrew_86 : kFp wsX11_addCrew RX11 86 14 0 .int false := ⟨_, RX11, TX11, 34, tyX11, fun _ h => (List.mem_cons_of_mem _ (List.mem_append_right _ h)), tyX11_ok, nmX11, (List.mem_cons_of_mem _ (List.mem_append_left _ (List.mem_of_getElem? (i := 0) rfl))), rfl, by decide, rfl, rfl, by decide +kernel, rfl⟩
theorem f_X11_addCrew_114 : kF wsX11_addCrew RX11 114 14 6 := ⟨_, RX11, TX11, 34, fun _ h => (List.mem_cons_of_mem _ (List.mem_append_right _ h)), (List.mem_cons_of_mem _ (List.mem_append_left _ (List.mem_of_getElem? (i := 1) rfl))), rfl, by decide, rfl⟩
theorem fp_X11_addCrew_114 : kFp wsX11_addCrew RX11 114 14 6 .int false := ⟨_, RX11, TX11, 34, tyX11, fun _ h => (List.mem_cons_of_mem _ (List.mem_append_right _ h)), tyX11_ok, nmX11, (List.mem_cons_of_mem _ (List.mem_append_left _ (List.mem_of_getElem? (i := 1) rfl))), rfl, by decide, rfl, rfl, by decide +kernel, rfl⟩
set_option maxRecDepth 100000 in
set_option maxHeartbeats 4000000 in
theorem c_X11_addCrew (l : Launch) (dd : kDD) (ad : Nat → Nat) (M : mS)  (nC : Nat) (hC : M.1 6 = nI nC ∧ nC ≤ 4) : kCi l yX11_addCrew wsX11_addCrew ({ frames := 1, cells := 0, slots := 0, locals := 22 } : Room) 0 0 dd [.ref (ad 0)] (mK, ad, mE dd ad M) (kQi (S := mS) (fun r z => (nC = 4 ∧ mT M 1 = z ∧ r = 0) ∨ (nC < 4 ∧ (va_up (va_up M.1 0 0) 6 (nI (nC + 1)), M.2) = z ∧ r = nI nC)) (fun _ => mK) (fun _ => ad) (fun z => mE dd ad z)) := by
  refine kMeti (ws' := _) (cc := cX11_addCrew) (maxL := 1) (rt := .int) (by decide) rfl (Nat.le_of_ble_eq_true rfl) (fun g X hr hnL hRR hl0 hkn => ?_)
  show kv dd g 0 0 0 [(0, .ref (ad 0))] [] mK ad (mE dd ad M)
  refine kv_aload_n X 0 dX11_addCrew_0 rfl rfl ?_
  refine kv_iconst (v := 0) X dX11_addCrew_1 (by decide) ?_
  refine km_put X 0 (x := 0) fp_X11_addCrew_86 (by decide) dX11_addCrew_2 ?_
  refine kv_aload_n X 0 dX11_addCrew_5 rfl rfl ?_
  refine kv_aload_n X 0 dX11_addCrew_6 rfl rfl ?_
  refine km_get X 6 (v := .int (M.1 6)) f_X11_addCrew_114 rfl dX11_addCrew_7 ?_
  refine kv_topi (nI nC) hC.1 ?_
  refine kv_iconst (v := 4) X dX11_addCrew_10 (by decide) ?_
  refine kn_icmp_ne (x := nC) (y := 4) (tgt := 18) X (by omega) (by omega) dX11_addCrew_11 (by decide) (fun hc11 => ?_) (fun hc11 => ?_)
  ·
    refine kv_iconst (v := 0) X dX11_addCrew_18 (by decide) ?_
    refine kv_iconst (v := 1) X dX11_addCrew_19 (by decide) ?_
    refine kv_calliV (ci := 14) (κ := 0) (r1 := (TX11, 34)) (As := [.int 0, .int 1]) [] X (c_X11_fails0 l dd ad ((va_up M.1 0 0), M.2.1, M.2.2) 1 rfl) hl0 (kCV_of X 2 gX11_addCrew_X11_fails rfl rfl rfl (by decide +kernel) hRR ⟨Nat.le_of_ble_eq_true rfl, Nat.le_of_ble_eq_true rfl⟩) (by decide) rfl rfl rfl rfl (Nat.le_of_ble_eq_true rfl) hRR ⟨Nat.le_of_ble_eq_true rfl, Nat.le_of_ble_eq_true rfl⟩ dX11_addCrew_20 (fun r z hp => ?_)
    obtain ⟨rfl, rfl⟩ := hp
    refine kv_if_eq (tgt := 28) X dX11_addCrew_23 (by decide) (fun hc23 => ?_) (fun hc => absurd hc (by decide))
    refine kv_aload_n X 0 dX11_addCrew_28 rfl rfl ?_
    refine kv_dup X dX11_addCrew_29 rfl ?_
    refine km_get X 6 (v := .int (M.1 6)) f_X11_addCrew_114 rfl dX11_addCrew_30 ?_
    refine kv_topi (nI nC) hC.1 ?_
    refine kv_iconst (v := 1) X dX11_addCrew_33 (by decide) ?_
    refine kv_iadd X dX11_addCrew_34 ?_
    refine kv_topi (nI (nC + 1)) (nI_add nC 1) ?_
    refine km_put X 6 (x := (nI (nC + 1))) fp_X11_addCrew_114 (by decide) dX11_addCrew_35 ?_
    refine kv_aload_n X 0 dX11_addCrew_38 rfl rfl ?_
    refine km_get X 6 (v := .int (nI (nC + 1))) f_X11_addCrew_114 rfl dX11_addCrew_39 ?_
    refine kv_iconst (v := 1) X dX11_addCrew_42 (by decide) ?_
    refine kv_isub X dX11_addCrew_43 ?_
    exact kv_ireturn X hr (by decide) (by decide) ⟨((va_up (va_up M.1 0 0) 6 (nI (nC + 1))), M.2.1, M.2.2), Or.inr ⟨by omega, rfl, nI_pred nC⟩, rfl⟩ dX11_addCrew_44
  ·
    refine kv_iconst (v := 1) X dX11_addCrew_14 (by decide) ?_
    refine kv_goto (tgt := 19) X dX11_addCrew_15 (by decide) ?_
    refine kv_iconst (v := 1) X dX11_addCrew_19 (by decide) ?_
    refine kv_calliV (ci := 14) (κ := 0) (r1 := (TX11, 34)) (As := [.int 1, .int 1]) [] X (c_X11_fails1 l dd ad ((va_up M.1 0 0), M.2.1, M.2.2) 1 (by decide) rfl) hl0 (kCV_of X 2 gX11_addCrew_X11_fails rfl rfl rfl (by decide +kernel) hRR ⟨Nat.le_of_ble_eq_true rfl, Nat.le_of_ble_eq_true rfl⟩) (by decide) rfl rfl rfl rfl (Nat.le_of_ble_eq_true rfl) hRR ⟨Nat.le_of_ble_eq_true rfl, Nat.le_of_ble_eq_true rfl⟩ dX11_addCrew_20 (fun r z hp => ?_)
    obtain ⟨rfl, rfl⟩ := hp
    refine kv_if_eq (tgt := 28) X dX11_addCrew_23 (by decide) (fun hc => absurd hc (by decide)) (fun hc23 => ?_)
    refine kv_iconst (v := 0) X dX11_addCrew_26 (by decide) ?_
    exact kv_ireturn X hr (by decide) (by decide) ⟨((va_up (va_up M.1 0 0) 0 1), M.2.1, M.2.2), Or.inl ⟨hc11, rfl, rfl⟩, rfl⟩ dX11_addCrew_27
theorem fp_X11_addResource_86 : kFp wsX11_addResource RX11 86 14 0 .int false := ⟨_, RX11, TX11, 34, tyX11, fun _ h => (List.mem_cons_of_mem _ (List.mem_append_left _ (List.mem_append_right _ h))), tyX11_ok, nmX11, (List.mem_cons_of_mem _ (List.mem_append_left _ (List.mem_append_left _ (List.mem_of_getElem? (i := 0) rfl)))), rfl, by decide, rfl, rfl, by decide +kernel, rfl⟩
theorem f_X11_addResource_90 : kF wsX11_addResource RX11 90 14 1 := ⟨_, RX11, TX11, 34, fun _ h => (List.mem_cons_of_mem _ (List.mem_append_left _ (List.mem_append_right _ h))), (List.mem_cons_of_mem _ (List.mem_append_left _ (List.mem_append_left _ (List.mem_of_getElem? (i := 1) rfl)))), rfl, by decide, rfl⟩
theorem f_X11_addResource_7 : kF wsX11_addResource RX11 7 14 2 := ⟨_, RX11, TX11, 34, fun _ h => (List.mem_cons_of_mem _ (List.mem_append_left _ (List.mem_append_right _ h))), (List.mem_cons_of_mem _ (List.mem_append_left _ (List.mem_append_left _ (List.mem_of_getElem? (i := 2) rfl)))), rfl, by decide, rfl⟩
theorem f_X11_addResource_13 : kF wsX11_addResource RX11 13 14 3 := ⟨_, RX11, TX11, 34, fun _ h => (List.mem_cons_of_mem _ (List.mem_append_left _ (List.mem_append_right _ h))), (List.mem_cons_of_mem _ (List.mem_append_left _ (List.mem_append_left _ (List.mem_of_getElem? (i := 3) rfl)))), rfl, by decide, rfl⟩
theorem f_X11_addResource_16 : kF wsX11_addResource RX11 16 14 4 := ⟨_, RX11, TX11, 34, fun _ h => (List.mem_cons_of_mem _ (List.mem_append_left _ (List.mem_append_right _ h))), (List.mem_cons_of_mem _ (List.mem_append_left _ (List.mem_append_left _ (List.mem_of_getElem? (i := 4) rfl)))), rfl, by decide, rfl⟩
theorem f_X11_addResource_19 : kF wsX11_addResource RX11 19 14 5 := ⟨_, RX11, TX11, 34, fun _ h => (List.mem_cons_of_mem _ (List.mem_append_left _ (List.mem_append_right _ h))), (List.mem_cons_of_mem _ (List.mem_append_left _ (List.mem_append_left _ (List.mem_of_getElem? (i := 5) rfl)))), rfl, by decide, rfl⟩
theorem fp_X11_addResource_90 : kFp wsX11_addResource RX11 90 14 1 .int false := ⟨_, RX11, TX11, 34, tyX11, fun _ h => (List.mem_cons_of_mem _ (List.mem_append_left _ (List.mem_append_right _ h))), tyX11_ok, nmX11, (List.mem_cons_of_mem _ (List.mem_append_left _ (List.mem_append_left _ (List.mem_of_getElem? (i := 1) rfl)))), rfl, by decide, rfl, rfl, by decide +kernel, rfl⟩
set_option maxRecDepth 100000 in
set_option maxHeartbeats 4000000 in
theorem c_X11_addResource (l : Launch) (dd : kDD) (ad : Nat → Nat) (M : mS) (k : Int32) (p : Int32) (w : Int32) (q : Int32) (nR : Nat) (hR : M.1 1 = nI nR ∧ nR ≤ 12) : kCi l yX11_addResource wsX11_addResource ({ frames := 1, cells := 0, slots := 0, locals := 22 } : Room) 0 0 dd [.ref (ad 0), .int k, .int p, .int w, .int q] (mK, ad, mE dd ad M) (kQi (S := mS) (fun r z => (¬ ((0 ≤ k ∧ k ≤ 2) ∧ (0 ≤ p ∧ p ≤ 9999) ∧ (0 ≤ w ∧ w ≤ 50) ∧ 1 ≤ q ∧ q ≤ 99) ∧ mT M 1 = z ∧ r = 0) ∨ (((0 ≤ k ∧ k ≤ 2) ∧ (0 ≤ p ∧ p ≤ 9999) ∧ (0 ≤ w ∧ w ≤ 50) ∧ 1 ≤ q ∧ q ≤ 99) ∧ nR = 12 ∧ mT M 2 = z ∧ r = 0) ∨ (((0 ≤ k ∧ k ≤ 2) ∧ (0 ≤ p ∧ p ≤ 9999) ∧ (0 ≤ w ∧ w ≤ 50) ∧ 1 ≤ q ∧ q ≤ 99) ∧ nR < 12 ∧ (va_up (va_up M.1 0 0) 1 (nI (nR + 1)), va_up (va_up (va_up (va_up M.2.1 2 (upd (M.2.1 2) nR k)) 3 (upd (M.2.1 3) nR p)) 4 (upd (M.2.1 4) nR w)) 5 (upd (M.2.1 5) nR q), M.2.2) = z ∧ r = nI nR)) (fun _ => mK) (fun _ => ad) (fun z => mE dd ad z)) := by
  refine kMeti (ws' := _) (cc := cX11_addResource) (maxL := 6) (rt := .int) (by decide) rfl (Nat.le_of_ble_eq_true rfl) (fun g X hr hnL hRR hl0 hkn => ?_)
  show kv dd g 0 0 0 [(0, .ref (ad 0)), (1, .int k), (2, .int p), (3, .int w), (4, .int q)] [] mK ad (mE dd ad M)
  refine kv_aload_n X 0 dX11_addResource_0 rfl rfl ?_
  refine kv_iconst (v := 0) X dX11_addResource_1 (by decide) ?_
  refine km_put X 0 (x := 0) fp_X11_addResource_86 (by decide) dX11_addResource_2 ?_
  refine kv_iload_n X 1 dX11_addResource_5 rfl rfl ?_
  refine kv_iconst (v := 0) X dX11_addResource_6 (by decide) ?_
  refine kv_iconst (v := 2) X dX11_addResource_7 (by decide) ?_
  refine kv_calliS (As := [.int k, .int 0, .int 2]) [] X (c_X11_in l dd ad ((va_up M.1 0 0), M.2.1, M.2.2) k 0 2) hl0 (kCS_of X 3 gX11_addResource_X11_in rfl rfl rfl (by decide +kernel) hRR ⟨Nat.le_of_ble_eq_true rfl, Nat.le_of_ble_eq_true rfl⟩) rfl rfl (Nat.le_of_ble_eq_true rfl) hRR ⟨Nat.le_of_ble_eq_true rfl, Nat.le_of_ble_eq_true rfl⟩ dX11_addResource_8 (fun r z hp => ?_)
  obtain ⟨rfl, ⟨rfl, h8⟩ | ⟨rfl, h8⟩⟩ := hp
  ·
    refine kv_if_eq (tgt := 50) X dX11_addResource_11 (by decide) (fun hc => absurd hc (by decide)) (fun hc11 => ?_)
    refine kv_iload_n X 2 dX11_addResource_14 rfl rfl ?_
    refine kv_iconst (v := 0) X dX11_addResource_15 (by decide) ?_
    refine kv_sipush (v := 9999) X dX11_addResource_16 (by decide) ?_
    refine kv_calliS (As := [.int p, .int 0, .int 9999]) [] X (c_X11_in l dd ad ((va_up M.1 0 0), M.2.1, M.2.2) p 0 9999) hl0 (kCS_of X 3 gX11_addResource_X11_in rfl rfl rfl (by decide +kernel) hRR ⟨Nat.le_of_ble_eq_true rfl, Nat.le_of_ble_eq_true rfl⟩) rfl rfl (Nat.le_of_ble_eq_true rfl) hRR ⟨Nat.le_of_ble_eq_true rfl, Nat.le_of_ble_eq_true rfl⟩ dX11_addResource_19 (fun r z hp => ?_)
    obtain ⟨rfl, ⟨rfl, h19⟩ | ⟨rfl, h19⟩⟩ := hp
    ·
      refine kv_if_eq (tgt := 50) X dX11_addResource_22 (by decide) (fun hc => absurd hc (by decide)) (fun hc22 => ?_)
      refine kv_iload_n X 3 dX11_addResource_25 rfl rfl ?_
      refine kv_iconst (v := 0) X dX11_addResource_26 (by decide) ?_
      refine kv_bipush (v := 50) X dX11_addResource_27 (by decide) ?_
      refine kv_calliS (As := [.int w, .int 0, .int 50]) [] X (c_X11_in l dd ad ((va_up M.1 0 0), M.2.1, M.2.2) w 0 50) hl0 (kCS_of X 3 gX11_addResource_X11_in rfl rfl rfl (by decide +kernel) hRR ⟨Nat.le_of_ble_eq_true rfl, Nat.le_of_ble_eq_true rfl⟩) rfl rfl (Nat.le_of_ble_eq_true rfl) hRR ⟨Nat.le_of_ble_eq_true rfl, Nat.le_of_ble_eq_true rfl⟩ dX11_addResource_29 (fun r z hp => ?_)
      obtain ⟨rfl, ⟨rfl, h29⟩ | ⟨rfl, h29⟩⟩ := hp
      ·
        refine kv_if_eq (tgt := 50) X dX11_addResource_32 (by decide) (fun hc => absurd hc (by decide)) (fun hc32 => ?_)
        refine kv_iload X 4 dX11_addResource_35 rfl ?_
        refine kv_iconst (v := 1) X dX11_addResource_37 (by decide) ?_
        refine kv_bipush (v := 99) X dX11_addResource_38 (by decide) ?_
        refine kv_calliS (As := [.int q, .int 1, .int 99]) [] X (c_X11_in l dd ad ((va_up M.1 0 0), M.2.1, M.2.2) q 1 99) hl0 (kCS_of X 3 gX11_addResource_X11_in rfl rfl rfl (by decide +kernel) hRR ⟨Nat.le_of_ble_eq_true rfl, Nat.le_of_ble_eq_true rfl⟩) rfl rfl (Nat.le_of_ble_eq_true rfl) hRR ⟨Nat.le_of_ble_eq_true rfl, Nat.le_of_ble_eq_true rfl⟩ dX11_addResource_40 (fun r z hp => ?_)
        obtain ⟨rfl, ⟨rfl, h40⟩ | ⟨rfl, h40⟩⟩ := hp
        ·
          refine kv_if_eq (tgt := 50) X dX11_addResource_43 (by decide) (fun hc => absurd hc (by decide)) (fun hc43 => ?_)
          refine kv_iconst (v := 1) X dX11_addResource_46 (by decide) ?_
          refine kv_goto (tgt := 51) X dX11_addResource_47 (by decide) ?_
          refine kv_istore (lv2 := [(5, .int 1), (0, .ref (ad 0)), (1, .int k), (2, .int p), (3, .int w), (4, .int q)]) X dX11_addResource_51 (by rw [hnL]; decide) rfl ?_
          refine kv_aload_n X 1 dX11_addResource_53 rfl rfl ?_
          refine kv_iload X 0 dX11_addResource_54 rfl ?_
          refine kv_if_ne (tgt := 63) X dX11_addResource_56 (by decide) (fun hc56 => ?_) (fun hc => absurd hc (by decide))
          refine kv_iconst (v := 0) X dX11_addResource_63 (by decide) ?_
          refine kv_iconst (v := 1) X dX11_addResource_64 (by decide) ?_
          refine kv_calliV (ci := 14) (κ := 0) (r1 := (TX11, 34)) (As := [.int 0, .int 1]) [] X (c_X11_fails0 l dd ad ((va_up M.1 0 0), M.2.1, M.2.2) 1 rfl) hl0 (kCV_of X 2 gX11_addResource_X11_fails rfl rfl rfl (by decide +kernel) hRR ⟨Nat.le_of_ble_eq_true rfl, Nat.le_of_ble_eq_true rfl⟩) (by decide) rfl rfl rfl rfl (Nat.le_of_ble_eq_true rfl) hRR ⟨Nat.le_of_ble_eq_true rfl, Nat.le_of_ble_eq_true rfl⟩ dX11_addResource_65 (fun r z hp => ?_)
          obtain ⟨rfl, rfl⟩ := hp
          refine kv_if_ne (tgt := 93) X dX11_addResource_68 (by decide) (fun hc => absurd hc (by decide)) (fun hc68 => ?_)
          refine kv_aload_n X 1 dX11_addResource_71 rfl rfl ?_
          refine kv_aload_n X 1 dX11_addResource_72 rfl rfl ?_
          refine km_get X 1 (v := .int (M.1 1)) f_X11_addResource_90 rfl dX11_addResource_73 ?_
          refine kv_topi (nI nR) hR.1 ?_
          refine kv_bipush (v := 12) X dX11_addResource_76 (by decide) ?_
          refine kn_icmp_ne (x := nR) (y := 12) (tgt := 85) X (by omega) (by omega) dX11_addResource_78 (by decide) (fun hc78 => ?_) (fun hc78 => ?_)
          ·
            refine kv_iconst (v := 0) X dX11_addResource_85 (by decide) ?_
            refine kv_iconst (v := 2) X dX11_addResource_86 (by decide) ?_
            refine kv_calliV (ci := 14) (κ := 0) (r1 := (TX11, 34)) (As := [.int 0, .int 2]) [] X (c_X11_fails0 l dd ad ((va_up M.1 0 0), M.2.1, M.2.2) 2 rfl) hl0 (kCV_of X 2 gX11_addResource_X11_fails rfl rfl rfl (by decide +kernel) hRR ⟨Nat.le_of_ble_eq_true rfl, Nat.le_of_ble_eq_true rfl⟩) (by decide) rfl rfl rfl rfl (Nat.le_of_ble_eq_true rfl) hRR ⟨Nat.le_of_ble_eq_true rfl, Nat.le_of_ble_eq_true rfl⟩ dX11_addResource_87 (fun r z hp => ?_)
            obtain ⟨rfl, rfl⟩ := hp
            refine kv_if_eq (tgt := 95) X dX11_addResource_90 (by decide) (fun hc90 => ?_) (fun hc => absurd hc (by decide))
            refine kv_aload_n X 1 dX11_addResource_95 rfl rfl ?_
            refine km_get X 2 (v := .ref (ad 2)) f_X11_addResource_7 rfl dX11_addResource_96 ?_
            refine kv_aload_n X 1 dX11_addResource_99 rfl rfl ?_
            refine km_get X 1 (v := .int (M.1 1)) f_X11_addResource_90 rfl dX11_addResource_100 ?_
            refine kv_topi (nI nR) hR.1 ?_
            refine kv_iload_n X 2 dX11_addResource_103 rfl rfl ?_
            refine km_iast X 2 (j := nR) (x := k) (by decide) (by decide) rfl (by show _ < _; simp only [mLen]; omega) (by decide) dX11_addResource_104 ?_
            refine kv_aload_n X 1 dX11_addResource_105 rfl rfl ?_
            refine km_get X 3 (v := .ref (ad 3)) f_X11_addResource_13 rfl dX11_addResource_106 ?_
            refine kv_aload_n X 1 dX11_addResource_109 rfl rfl ?_
            refine km_get X 1 (v := .int (M.1 1)) f_X11_addResource_90 rfl dX11_addResource_110 ?_
            refine kv_topi (nI nR) hR.1 ?_
            refine kv_iload_n X 3 dX11_addResource_113 rfl rfl ?_
            refine km_iast X 3 (j := nR) (x := p) (by decide) (by decide) rfl (by show _ < _; simp only [mLen]; omega) (by decide) dX11_addResource_114 ?_
            refine kv_aload_n X 1 dX11_addResource_115 rfl rfl ?_
            refine km_get X 4 (v := .ref (ad 4)) f_X11_addResource_16 rfl dX11_addResource_116 ?_
            refine kv_aload_n X 1 dX11_addResource_119 rfl rfl ?_
            refine km_get X 1 (v := .int (M.1 1)) f_X11_addResource_90 rfl dX11_addResource_120 ?_
            refine kv_topi (nI nR) hR.1 ?_
            refine kv_iload_n X 4 dX11_addResource_123 rfl rfl ?_
            refine km_iast X 4 (j := nR) (x := w) (by decide) (by decide) rfl (by show _ < _; simp only [mLen]; omega) (by decide) dX11_addResource_124 ?_
            refine kv_aload_n X 1 dX11_addResource_125 rfl rfl ?_
            refine km_get X 5 (v := .ref (ad 5)) f_X11_addResource_19 rfl dX11_addResource_126 ?_
            refine kv_aload_n X 1 dX11_addResource_129 rfl rfl ?_
            refine km_get X 1 (v := .int (M.1 1)) f_X11_addResource_90 rfl dX11_addResource_130 ?_
            refine kv_topi (nI nR) hR.1 ?_
            refine kv_iload X 5 dX11_addResource_133 rfl ?_
            refine km_iast X 5 (j := nR) (x := q) (by decide) (by decide) rfl (by show _ < _; simp only [mLen]; omega) (by decide) dX11_addResource_135 ?_
            refine kv_aload_n X 1 dX11_addResource_136 rfl rfl ?_
            refine kv_dup X dX11_addResource_137 rfl ?_
            refine km_get X 1 (v := .int (M.1 1)) f_X11_addResource_90 rfl dX11_addResource_138 ?_
            refine kv_topi (nI nR) hR.1 ?_
            refine kv_iconst (v := 1) X dX11_addResource_141 (by decide) ?_
            refine kv_iadd X dX11_addResource_142 ?_
            refine kv_topi (nI (nR + 1)) (nI_add nR 1) ?_
            refine km_put X 1 (x := (nI (nR + 1))) fp_X11_addResource_90 (by decide) dX11_addResource_143 ?_
            refine kv_aload_n X 1 dX11_addResource_146 rfl rfl ?_
            refine km_get X 1 (v := .int (nI (nR + 1))) f_X11_addResource_90 rfl dX11_addResource_147 ?_
            refine kv_iconst (v := 1) X dX11_addResource_150 (by decide) ?_
            refine kv_isub X dX11_addResource_151 ?_
            exact kv_ireturn X hr (by decide) (by decide) ⟨((va_up (va_up M.1 0 0) 1 (nI (nR + 1))), (va_up (va_up (va_up (va_up M.2.1 2 (upd (M.2.1 2) nR k)) 3 (upd (M.2.1 3) nR p)) 4 (upd (M.2.1 4) nR w)) 5 (upd (M.2.1 5) nR q)), M.2.2), Or.inr (Or.inr ⟨⟨h8, h19, h29, h40⟩, by omega, rfl, nI_pred nR⟩), rfl⟩ dX11_addResource_152
          ·
            refine kv_iconst (v := 1) X dX11_addResource_81 (by decide) ?_
            refine kv_goto (tgt := 86) X dX11_addResource_82 (by decide) ?_
            refine kv_iconst (v := 2) X dX11_addResource_86 (by decide) ?_
            refine kv_calliV (ci := 14) (κ := 0) (r1 := (TX11, 34)) (As := [.int 1, .int 2]) [] X (c_X11_fails1 l dd ad ((va_up M.1 0 0), M.2.1, M.2.2) 2 (by decide) rfl) hl0 (kCV_of X 2 gX11_addResource_X11_fails rfl rfl rfl (by decide +kernel) hRR ⟨Nat.le_of_ble_eq_true rfl, Nat.le_of_ble_eq_true rfl⟩) (by decide) rfl rfl rfl rfl (Nat.le_of_ble_eq_true rfl) hRR ⟨Nat.le_of_ble_eq_true rfl, Nat.le_of_ble_eq_true rfl⟩ dX11_addResource_87 (fun r z hp => ?_)
            obtain ⟨rfl, rfl⟩ := hp
            refine kv_if_eq (tgt := 95) X dX11_addResource_90 (by decide) (fun hc => absurd hc (by decide)) (fun hc90 => ?_)
            refine kv_iconst (v := 0) X dX11_addResource_93 (by decide) ?_
            exact kv_ireturn X hr (by decide) (by decide) ⟨((va_up (va_up M.1 0 0) 0 2), M.2.1, M.2.2), Or.inr (Or.inl ⟨⟨h8, h19, h29, h40⟩, hc78, rfl, rfl⟩), rfl⟩ dX11_addResource_94
        ·
          refine kv_if_eq (tgt := 50) X dX11_addResource_43 (by decide) (fun hc43 => ?_) (fun hc => absurd hc (by decide))
          refine kv_iconst (v := 0) X dX11_addResource_50 (by decide) ?_
          refine kv_istore (lv2 := [(5, .int 0), (0, .ref (ad 0)), (1, .int k), (2, .int p), (3, .int w), (4, .int q)]) X dX11_addResource_51 (by rw [hnL]; decide) rfl ?_
          refine kv_aload_n X 1 dX11_addResource_53 rfl rfl ?_
          refine kv_iload X 0 dX11_addResource_54 rfl ?_
          refine kv_if_ne (tgt := 63) X dX11_addResource_56 (by decide) (fun hc => absurd hc (by decide)) (fun hc56 => ?_)
          refine kv_iconst (v := 1) X dX11_addResource_59 (by decide) ?_
          refine kv_goto (tgt := 64) X dX11_addResource_60 (by decide) ?_
          refine kv_iconst (v := 1) X dX11_addResource_64 (by decide) ?_
          refine kv_calliV (ci := 14) (κ := 0) (r1 := (TX11, 34)) (As := [.int 1, .int 1]) [] X (c_X11_fails1 l dd ad ((va_up M.1 0 0), M.2.1, M.2.2) 1 (by decide) rfl) hl0 (kCV_of X 2 gX11_addResource_X11_fails rfl rfl rfl (by decide +kernel) hRR ⟨Nat.le_of_ble_eq_true rfl, Nat.le_of_ble_eq_true rfl⟩) (by decide) rfl rfl rfl rfl (Nat.le_of_ble_eq_true rfl) hRR ⟨Nat.le_of_ble_eq_true rfl, Nat.le_of_ble_eq_true rfl⟩ dX11_addResource_65 (fun r z hp => ?_)
          obtain ⟨rfl, rfl⟩ := hp
          refine kv_if_ne (tgt := 93) X dX11_addResource_68 (by decide) (fun hc68 => ?_) (fun hc => absurd hc (by decide))
          refine kv_iconst (v := 0) X dX11_addResource_93 (by decide) ?_
          exact kv_ireturn X hr (by decide) (by decide) ⟨((va_up (va_up M.1 0 0) 0 1), M.2.1, M.2.2), Or.inl ⟨fun y => by first | exact absurd y.1 h8 | exact absurd y.2.1 h19 | exact absurd y.2.2.1 h29 | exact absurd y.2.2.2 h40, rfl, rfl⟩, rfl⟩ dX11_addResource_94
      ·
        refine kv_if_eq (tgt := 50) X dX11_addResource_32 (by decide) (fun hc32 => ?_) (fun hc => absurd hc (by decide))
        refine kv_iconst (v := 0) X dX11_addResource_50 (by decide) ?_
        refine kv_istore (lv2 := [(5, .int 0), (0, .ref (ad 0)), (1, .int k), (2, .int p), (3, .int w), (4, .int q)]) X dX11_addResource_51 (by rw [hnL]; decide) rfl ?_
        refine kv_aload_n X 1 dX11_addResource_53 rfl rfl ?_
        refine kv_iload X 0 dX11_addResource_54 rfl ?_
        refine kv_if_ne (tgt := 63) X dX11_addResource_56 (by decide) (fun hc => absurd hc (by decide)) (fun hc56 => ?_)
        refine kv_iconst (v := 1) X dX11_addResource_59 (by decide) ?_
        refine kv_goto (tgt := 64) X dX11_addResource_60 (by decide) ?_
        refine kv_iconst (v := 1) X dX11_addResource_64 (by decide) ?_
        refine kv_calliV (ci := 14) (κ := 0) (r1 := (TX11, 34)) (As := [.int 1, .int 1]) [] X (c_X11_fails1 l dd ad ((va_up M.1 0 0), M.2.1, M.2.2) 1 (by decide) rfl) hl0 (kCV_of X 2 gX11_addResource_X11_fails rfl rfl rfl (by decide +kernel) hRR ⟨Nat.le_of_ble_eq_true rfl, Nat.le_of_ble_eq_true rfl⟩) (by decide) rfl rfl rfl rfl (Nat.le_of_ble_eq_true rfl) hRR ⟨Nat.le_of_ble_eq_true rfl, Nat.le_of_ble_eq_true rfl⟩ dX11_addResource_65 (fun r z hp => ?_)
        obtain ⟨rfl, rfl⟩ := hp
        refine kv_if_ne (tgt := 93) X dX11_addResource_68 (by decide) (fun hc68 => ?_) (fun hc => absurd hc (by decide))
        refine kv_iconst (v := 0) X dX11_addResource_93 (by decide) ?_
        exact kv_ireturn X hr (by decide) (by decide) ⟨((va_up (va_up M.1 0 0) 0 1), M.2.1, M.2.2), Or.inl ⟨fun y => by first | exact absurd y.1 h8 | exact absurd y.2.1 h19 | exact absurd y.2.2.1 h29 | exact absurd y.2.2.2 h40, rfl, rfl⟩, rfl⟩ dX11_addResource_94
    ·
      refine kv_if_eq (tgt := 50) X dX11_addResource_22 (by decide) (fun hc22 => ?_) (fun hc => absurd hc (by decide))
      refine kv_iconst (v := 0) X dX11_addResource_50 (by decide) ?_
      refine kv_istore (lv2 := [(5, .int 0), (0, .ref (ad 0)), (1, .int k), (2, .int p), (3, .int w), (4, .int q)]) X dX11_addResource_51 (by rw [hnL]; decide) rfl ?_
      refine kv_aload_n X 1 dX11_addResource_53 rfl rfl ?_
      refine kv_iload X 0 dX11_addResource_54 rfl ?_
      refine kv_if_ne (tgt := 63) X dX11_addResource_56 (by decide) (fun hc => absurd hc (by decide)) (fun hc56 => ?_)
      refine kv_iconst (v := 1) X dX11_addResource_59 (by decide) ?_
      refine kv_goto (tgt := 64) X dX11_addResource_60 (by decide) ?_
      refine kv_iconst (v := 1) X dX11_addResource_64 (by decide) ?_
      refine kv_calliV (ci := 14) (κ := 0) (r1 := (TX11, 34)) (As := [.int 1, .int 1]) [] X (c_X11_fails1 l dd ad ((va_up M.1 0 0), M.2.1, M.2.2) 1 (by decide) rfl) hl0 (kCV_of X 2 gX11_addResource_X11_fails rfl rfl rfl (by decide +kernel) hRR ⟨Nat.le_of_ble_eq_true rfl, Nat.le_of_ble_eq_true rfl⟩) (by decide) rfl rfl rfl rfl (Nat.le_of_ble_eq_true rfl) hRR ⟨Nat.le_of_ble_eq_true rfl, Nat.le_of_ble_eq_true rfl⟩ dX11_addResource_65 (fun r z hp => ?_)
      obtain ⟨rfl, rfl⟩ := hp
      refine kv_if_ne (tgt := 93) X dX11_addResource_68 (by decide) (fun hc68 => ?_) (fun hc => absurd hc (by decide))
      refine kv_iconst (v := 0) X dX11_addResource_93 (by decide) ?_
      exact kv_ireturn X hr (by decide) (by decide) ⟨((va_up (va_up M.1 0 0) 0 1), M.2.1, M.2.2), Or.inl ⟨fun y => by first | exact absurd y.1 h8 | exact absurd y.2.1 h19 | exact absurd y.2.2.1 h29 | exact absurd y.2.2.2 h40, rfl, rfl⟩, rfl⟩ dX11_addResource_94
  ·
    refine kv_if_eq (tgt := 50) X dX11_addResource_11 (by decide) (fun hc11 => ?_) (fun hc => absurd hc (by decide))
    refine kv_iconst (v := 0) X dX11_addResource_50 (by decide) ?_
    refine kv_istore (lv2 := [(5, .int 0), (0, .ref (ad 0)), (1, .int k), (2, .int p), (3, .int w), (4, .int q)]) X dX11_addResource_51 (by rw [hnL]; decide) rfl ?_
    refine kv_aload_n X 1 dX11_addResource_53 rfl rfl ?_
    refine kv_iload X 0 dX11_addResource_54 rfl ?_
    refine kv_if_ne (tgt := 63) X dX11_addResource_56 (by decide) (fun hc => absurd hc (by decide)) (fun hc56 => ?_)
    refine kv_iconst (v := 1) X dX11_addResource_59 (by decide) ?_
    refine kv_goto (tgt := 64) X dX11_addResource_60 (by decide) ?_
    refine kv_iconst (v := 1) X dX11_addResource_64 (by decide) ?_
    refine kv_calliV (ci := 14) (κ := 0) (r1 := (TX11, 34)) (As := [.int 1, .int 1]) [] X (c_X11_fails1 l dd ad ((va_up M.1 0 0), M.2.1, M.2.2) 1 (by decide) rfl) hl0 (kCV_of X 2 gX11_addResource_X11_fails rfl rfl rfl (by decide +kernel) hRR ⟨Nat.le_of_ble_eq_true rfl, Nat.le_of_ble_eq_true rfl⟩) (by decide) rfl rfl rfl rfl (Nat.le_of_ble_eq_true rfl) hRR ⟨Nat.le_of_ble_eq_true rfl, Nat.le_of_ble_eq_true rfl⟩ dX11_addResource_65 (fun r z hp => ?_)
    obtain ⟨rfl, rfl⟩ := hp
    refine kv_if_ne (tgt := 93) X dX11_addResource_68 (by decide) (fun hc68 => ?_) (fun hc => absurd hc (by decide))
    refine kv_iconst (v := 0) X dX11_addResource_93 (by decide) ?_
    exact kv_ireturn X hr (by decide) (by decide) ⟨((va_up (va_up M.1 0 0) 0 1), M.2.1, M.2.2), Or.inl ⟨fun y => by first | exact absurd y.1 h8 | exact absurd y.2.1 h19 | exact absurd y.2.2.1 h29 | exact absurd y.2.2.2 h40, rfl, rfl⟩, rfl⟩ dX11_addResource_94
theorem fp_X11_addItem_86 : kFp wsX11_addItem RX11 86 14 0 .int false := ⟨_, RX11, TX11, 34, tyX11, fun _ h => (List.mem_cons_of_mem _ (List.mem_append_left _ (List.mem_append_right _ h))), tyX11_ok, nmX11, (List.mem_cons_of_mem _ (List.mem_append_left _ (List.mem_append_left _ (List.mem_of_getElem? (i := 0) rfl)))), rfl, by decide, rfl, rfl, by decide +kernel, rfl⟩
theorem f_X11_addItem_97 : kF wsX11_addItem RX11 97 14 10 := ⟨_, RX11, TX11, 34, fun _ h => (List.mem_cons_of_mem _ (List.mem_append_left _ (List.mem_append_right _ h))), (List.mem_cons_of_mem _ (List.mem_append_left _ (List.mem_append_left _ (List.mem_of_getElem? (i := 1) rfl)))), rfl, by decide, rfl⟩
theorem f_X11_addItem_31 : kF wsX11_addItem RX11 31 14 11 := ⟨_, RX11, TX11, 34, fun _ h => (List.mem_cons_of_mem _ (List.mem_append_left _ (List.mem_append_right _ h))), (List.mem_cons_of_mem _ (List.mem_append_left _ (List.mem_append_left _ (List.mem_of_getElem? (i := 2) rfl)))), rfl, by decide, rfl⟩
theorem f_X11_addItem_34 : kF wsX11_addItem RX11 34 14 12 := ⟨_, RX11, TX11, 34, fun _ h => (List.mem_cons_of_mem _ (List.mem_append_left _ (List.mem_append_right _ h))), (List.mem_cons_of_mem _ (List.mem_append_left _ (List.mem_append_left _ (List.mem_of_getElem? (i := 3) rfl)))), rfl, by decide, rfl⟩
theorem fp_X11_addItem_97 : kFp wsX11_addItem RX11 97 14 10 .int false := ⟨_, RX11, TX11, 34, tyX11, fun _ h => (List.mem_cons_of_mem _ (List.mem_append_left _ (List.mem_append_right _ h))), tyX11_ok, nmX11, (List.mem_cons_of_mem _ (List.mem_append_left _ (List.mem_append_left _ (List.mem_of_getElem? (i := 1) rfl)))), rfl, by decide, rfl, rfl, by decide +kernel, rfl⟩
set_option maxRecDepth 100000 in
set_option maxHeartbeats 4000000 in
theorem c_X11_addItem (l : Launch) (dd : kDD) (ad : Nat → Nat) (M : mS) (t : Int32) (nt : Nat) (hT : M.1 10 = nI nt ∧ nt ≤ 12) : kCi l yX11_addItem wsX11_addItem ({ frames := 1, cells := 0, slots := 0, locals := 22 } : Room) 0 0 dd [.ref (ad 0), .int t] (mK, ad, mE dd ad M) (kQi (S := mS) (fun r z => (¬ (0 ≤ t ∧ t ≤ 5) ∧ mT M 1 = z ∧ r = 0) ∨ ((0 ≤ t ∧ t ≤ 5) ∧ nt = 12 ∧ mT M 2 = z ∧ r = 0) ∨ ((0 ≤ t ∧ t ≤ 5) ∧ nt < 12 ∧ (va_up (va_up M.1 0 0) 10 (nI (nt + 1)), va_up (va_up M.2.1 11 (upd (M.2.1 11) nt t)) 12 (upd (M.2.1 12) nt 0), M.2.2) = z ∧ r = nI nt)) (fun _ => mK) (fun _ => ad) (fun z => mE dd ad z)) := by
  refine kMeti (ws' := _) (cc := cX11_addItem) (maxL := 2) (rt := .int) (by decide) rfl (Nat.le_of_ble_eq_true rfl) (fun g X hr hnL hRR hl0 hkn => ?_)
  show kv dd g 0 0 0 [(0, .ref (ad 0)), (1, .int t)] [] mK ad (mE dd ad M)
  refine kv_aload_n X 0 dX11_addItem_0 rfl rfl ?_
  refine kv_iconst (v := 0) X dX11_addItem_1 (by decide) ?_
  refine km_put X 0 (x := 0) fp_X11_addItem_86 (by decide) dX11_addItem_2 ?_
  refine kv_aload_n X 0 dX11_addItem_5 rfl rfl ?_
  refine kv_iload_n X 1 dX11_addItem_6 rfl rfl ?_
  refine kv_iconst (v := 0) X dX11_addItem_7 (by decide) ?_
  refine kv_iconst (v := 5) X dX11_addItem_8 (by decide) ?_
  refine kv_calliS (As := [.int t, .int 0, .int 5]) [.ref (ad 0)] X (c_X11_in l dd ad ((va_up M.1 0 0), M.2.1, M.2.2) t 0 5) hl0 (kCS_of X 3 gX11_addItem_X11_in rfl rfl rfl (by decide +kernel) hRR ⟨Nat.le_of_ble_eq_true rfl, Nat.le_of_ble_eq_true rfl⟩) rfl rfl (Nat.le_of_ble_eq_true rfl) hRR ⟨Nat.le_of_ble_eq_true rfl, Nat.le_of_ble_eq_true rfl⟩ dX11_addItem_9 (fun r z hp => ?_)
  obtain ⟨rfl, ⟨rfl, h9⟩ | ⟨rfl, h9⟩⟩ := hp
  ·
    refine kv_if_ne (tgt := 19) X dX11_addItem_12 (by decide) (fun hc12 => ?_) (fun hc => absurd hc (by decide))
    refine kv_iconst (v := 0) X dX11_addItem_19 (by decide) ?_
    refine kv_iconst (v := 1) X dX11_addItem_20 (by decide) ?_
    refine kv_calliV (ci := 14) (κ := 0) (r1 := (TX11, 34)) (As := [.int 0, .int 1]) [] X (c_X11_fails0 l dd ad ((va_up M.1 0 0), M.2.1, M.2.2) 1 rfl) hl0 (kCV_of X 2 gX11_addItem_X11_fails rfl rfl rfl (by decide +kernel) hRR ⟨Nat.le_of_ble_eq_true rfl, Nat.le_of_ble_eq_true rfl⟩) (by decide) rfl rfl rfl rfl (Nat.le_of_ble_eq_true rfl) hRR ⟨Nat.le_of_ble_eq_true rfl, Nat.le_of_ble_eq_true rfl⟩ dX11_addItem_21 (fun r z hp => ?_)
    obtain ⟨rfl, rfl⟩ := hp
    refine kv_if_ne (tgt := 49) X dX11_addItem_24 (by decide) (fun hc => absurd hc (by decide)) (fun hc24 => ?_)
    refine kv_aload_n X 0 dX11_addItem_27 rfl rfl ?_
    refine kv_aload_n X 0 dX11_addItem_28 rfl rfl ?_
    refine km_get X 10 (v := .int (M.1 10)) f_X11_addItem_97 rfl dX11_addItem_29 ?_
    refine kv_topi (nI nt) hT.1 ?_
    refine kv_bipush (v := 12) X dX11_addItem_32 (by decide) ?_
    refine kn_icmp_ne (x := nt) (y := 12) (tgt := 41) X (by omega) (by omega) dX11_addItem_34 (by decide) (fun hc34 => ?_) (fun hc34 => ?_)
    ·
      refine kv_iconst (v := 0) X dX11_addItem_41 (by decide) ?_
      refine kv_iconst (v := 2) X dX11_addItem_42 (by decide) ?_
      refine kv_calliV (ci := 14) (κ := 0) (r1 := (TX11, 34)) (As := [.int 0, .int 2]) [] X (c_X11_fails0 l dd ad ((va_up M.1 0 0), M.2.1, M.2.2) 2 rfl) hl0 (kCV_of X 2 gX11_addItem_X11_fails rfl rfl rfl (by decide +kernel) hRR ⟨Nat.le_of_ble_eq_true rfl, Nat.le_of_ble_eq_true rfl⟩) (by decide) rfl rfl rfl rfl (Nat.le_of_ble_eq_true rfl) hRR ⟨Nat.le_of_ble_eq_true rfl, Nat.le_of_ble_eq_true rfl⟩ dX11_addItem_43 (fun r z hp => ?_)
      obtain ⟨rfl, rfl⟩ := hp
      refine kv_if_eq (tgt := 51) X dX11_addItem_46 (by decide) (fun hc46 => ?_) (fun hc => absurd hc (by decide))
      refine kv_aload_n X 0 dX11_addItem_51 rfl rfl ?_
      refine km_get X 11 (v := .ref (ad 11)) f_X11_addItem_31 rfl dX11_addItem_52 ?_
      refine kv_aload_n X 0 dX11_addItem_55 rfl rfl ?_
      refine km_get X 10 (v := .int (M.1 10)) f_X11_addItem_97 rfl dX11_addItem_56 ?_
      refine kv_topi (nI nt) hT.1 ?_
      refine kv_iload_n X 1 dX11_addItem_59 rfl rfl ?_
      refine km_iast X 11 (j := nt) (x := t) (by decide) (by decide) rfl (by show _ < _; simp only [mLen]; omega) (by decide) dX11_addItem_60 ?_
      refine kv_aload_n X 0 dX11_addItem_61 rfl rfl ?_
      refine km_get X 12 (v := .ref (ad 12)) f_X11_addItem_34 rfl dX11_addItem_62 ?_
      refine kv_aload_n X 0 dX11_addItem_65 rfl rfl ?_
      refine km_get X 10 (v := .int (M.1 10)) f_X11_addItem_97 rfl dX11_addItem_66 ?_
      refine kv_topi (nI nt) hT.1 ?_
      refine kv_iconst (v := 0) X dX11_addItem_69 (by decide) ?_
      refine km_iast X 12 (j := nt) (x := 0) (by decide) (by decide) rfl (by show _ < _; simp only [mLen]; omega) (by decide) dX11_addItem_70 ?_
      refine kv_aload_n X 0 dX11_addItem_71 rfl rfl ?_
      refine kv_dup X dX11_addItem_72 rfl ?_
      refine km_get X 10 (v := .int (M.1 10)) f_X11_addItem_97 rfl dX11_addItem_73 ?_
      refine kv_topi (nI nt) hT.1 ?_
      refine kv_iconst (v := 1) X dX11_addItem_76 (by decide) ?_
      refine kv_iadd X dX11_addItem_77 ?_
      refine kv_topi (nI (nt + 1)) (nI_add nt 1) ?_
      refine km_put X 10 (x := (nI (nt + 1))) fp_X11_addItem_97 (by decide) dX11_addItem_78 ?_
      refine kv_aload_n X 0 dX11_addItem_81 rfl rfl ?_
      refine km_get X 10 (v := .int (nI (nt + 1))) f_X11_addItem_97 rfl dX11_addItem_82 ?_
      refine kv_iconst (v := 1) X dX11_addItem_85 (by decide) ?_
      refine kv_isub X dX11_addItem_86 ?_
      exact kv_ireturn X hr (by decide) (by decide) ⟨((va_up (va_up M.1 0 0) 10 (nI (nt + 1))), (va_up (va_up M.2.1 11 (upd (M.2.1 11) nt t)) 12 (upd (M.2.1 12) nt 0)), M.2.2), Or.inr (Or.inr ⟨h9, by omega, rfl, nI_pred nt⟩), rfl⟩ dX11_addItem_87
    ·
      refine kv_iconst (v := 1) X dX11_addItem_37 (by decide) ?_
      refine kv_goto (tgt := 42) X dX11_addItem_38 (by decide) ?_
      refine kv_iconst (v := 2) X dX11_addItem_42 (by decide) ?_
      refine kv_calliV (ci := 14) (κ := 0) (r1 := (TX11, 34)) (As := [.int 1, .int 2]) [] X (c_X11_fails1 l dd ad ((va_up M.1 0 0), M.2.1, M.2.2) 2 (by decide) rfl) hl0 (kCV_of X 2 gX11_addItem_X11_fails rfl rfl rfl (by decide +kernel) hRR ⟨Nat.le_of_ble_eq_true rfl, Nat.le_of_ble_eq_true rfl⟩) (by decide) rfl rfl rfl rfl (Nat.le_of_ble_eq_true rfl) hRR ⟨Nat.le_of_ble_eq_true rfl, Nat.le_of_ble_eq_true rfl⟩ dX11_addItem_43 (fun r z hp => ?_)
      obtain ⟨rfl, rfl⟩ := hp
      refine kv_if_eq (tgt := 51) X dX11_addItem_46 (by decide) (fun hc => absurd hc (by decide)) (fun hc46 => ?_)
      refine kv_iconst (v := 0) X dX11_addItem_49 (by decide) ?_
      exact kv_ireturn X hr (by decide) (by decide) ⟨((va_up (va_up M.1 0 0) 0 2), M.2.1, M.2.2), Or.inr (Or.inl ⟨h9, hc34, rfl, rfl⟩), rfl⟩ dX11_addItem_50
  ·
    refine kv_if_ne (tgt := 19) X dX11_addItem_12 (by decide) (fun hc => absurd hc (by decide)) (fun hc12 => ?_)
    refine kv_iconst (v := 1) X dX11_addItem_15 (by decide) ?_
    refine kv_goto (tgt := 20) X dX11_addItem_16 (by decide) ?_
    refine kv_iconst (v := 1) X dX11_addItem_20 (by decide) ?_
    refine kv_calliV (ci := 14) (κ := 0) (r1 := (TX11, 34)) (As := [.int 1, .int 1]) [] X (c_X11_fails1 l dd ad ((va_up M.1 0 0), M.2.1, M.2.2) 1 (by decide) rfl) hl0 (kCV_of X 2 gX11_addItem_X11_fails rfl rfl rfl (by decide +kernel) hRR ⟨Nat.le_of_ble_eq_true rfl, Nat.le_of_ble_eq_true rfl⟩) (by decide) rfl rfl rfl rfl (Nat.le_of_ble_eq_true rfl) hRR ⟨Nat.le_of_ble_eq_true rfl, Nat.le_of_ble_eq_true rfl⟩ dX11_addItem_21 (fun r z hp => ?_)
    obtain ⟨rfl, rfl⟩ := hp
    refine kv_if_ne (tgt := 49) X dX11_addItem_24 (by decide) (fun hc24 => ?_) (fun hc => absurd hc (by decide))
    refine kv_iconst (v := 0) X dX11_addItem_49 (by decide) ?_
    exact kv_ireturn X hr (by decide) (by decide) ⟨((va_up (va_up M.1 0 0) 0 1), M.2.1, M.2.2), Or.inl ⟨h9, rfl, rfl⟩, rfl⟩ dX11_addItem_50
theorem fp_X11_addLine_86 : kFp wsX11_addLine RX11 86 14 0 .int false := ⟨_, RX11, TX11, 34, tyX11, fun _ h => (List.mem_cons_of_mem _ (List.mem_append_left _ (List.mem_append_right _ h))), tyX11_ok, nmX11, (List.mem_cons_of_mem _ (List.mem_append_left _ (List.mem_append_left _ (List.mem_of_getElem? (i := 0) rfl)))), rfl, by decide, rfl, rfl, by decide +kernel, rfl⟩
theorem f_X11_addLine_100 : kF wsX11_addLine RX11 100 14 16 := ⟨_, RX11, TX11, 34, fun _ h => (List.mem_cons_of_mem _ (List.mem_append_left _ (List.mem_append_right _ h))), (List.mem_cons_of_mem _ (List.mem_append_left _ (List.mem_append_left _ (List.mem_of_getElem? (i := 1) rfl)))), rfl, by decide, rfl⟩
theorem f_X11_addLine_46 : kF wsX11_addLine RX11 46 14 17 := ⟨_, RX11, TX11, 34, fun _ h => (List.mem_cons_of_mem _ (List.mem_append_left _ (List.mem_append_right _ h))), (List.mem_cons_of_mem _ (List.mem_append_left _ (List.mem_append_left _ (List.mem_of_getElem? (i := 2) rfl)))), rfl, by decide, rfl⟩
theorem fp_X11_addLine_100 : kFp wsX11_addLine RX11 100 14 16 .int false := ⟨_, RX11, TX11, 34, tyX11, fun _ h => (List.mem_cons_of_mem _ (List.mem_append_left _ (List.mem_append_right _ h))), tyX11_ok, nmX11, (List.mem_cons_of_mem _ (List.mem_append_left _ (List.mem_append_left _ (List.mem_of_getElem? (i := 1) rfl)))), rfl, by decide, rfl, rfl, by decide +kernel, rfl⟩
set_option maxRecDepth 100000 in
set_option maxHeartbeats 4000000 in
theorem c_X11_addLine (l : Launch) (dd : kDD) (ad : Nat → Nat) (M : mS) (v : Int32) (nt : Nat) (hT : M.1 10 = nI nt ∧ nt ≤ 12) (nL : Nat) (hL : M.1 16 = nI nL ∧ nL ≤ 10) : kCi l yX11_addLine wsX11_addLine ({ frames := 2, cells := 0, slots := 0, locals := 43 } : Room) 0 0 dd [.ref (ad 0), .int v] (mK, ad, mE dd ad M) (kQi (S := mS) (fun r z => (¬ (∃ j, j < nt ∧ v = nI j) ∧ mT M 1 = z ∧ r = 0) ∨ ((∃ j, j < nt ∧ v = nI j) ∧ nL = 10 ∧ mT M 2 = z ∧ r = 0) ∨ ((∃ j, j < nt ∧ v = nI j) ∧ nL < 10 ∧ (va_up (va_up M.1 0 0) 16 (nI (nL + 1)), va_up M.2.1 17 (upd (M.2.1 17) nL v), M.2.2) = z ∧ r = nI nL)) (fun _ => mK) (fun _ => ad) (fun z => mE dd ad z)) := by
  refine kMeti (ws' := _) (cc := cX11_addLine) (maxL := 2) (rt := .int) (by decide) rfl (Nat.le_of_ble_eq_true rfl) (fun g X hr hnL hRR hl0 hkn => ?_)
  show kv dd g 0 0 0 [(0, .ref (ad 0)), (1, .int v)] [] mK ad (mE dd ad M)
  refine kv_aload_n X 0 dX11_addLine_0 rfl rfl ?_
  refine kv_iconst (v := 0) X dX11_addLine_1 (by decide) ?_
  refine km_put X 0 (x := 0) fp_X11_addLine_86 (by decide) dX11_addLine_2 ?_
  refine kv_aload_n X 0 dX11_addLine_5 rfl rfl ?_
  refine kv_aload_n X 0 dX11_addLine_6 rfl rfl ?_
  refine kv_iload_n X 1 dX11_addLine_7 rfl rfl ?_
  refine kv_calliV (ci := 14) (κ := 0) (r1 := (TX11, 34)) (As := [.int v]) [.ref (ad 0)] X (c_X11_noItem l dd ad ((va_up M.1 0 0), M.2.1, M.2.2) v nt hT.2 hT.1) hl0 (kCV_of X 1 gX11_addLine_X11_noItem rfl rfl rfl (by decide +kernel) hRR ⟨Nat.le_of_ble_eq_true rfl, Nat.le_of_ble_eq_true rfl⟩) (by decide) rfl rfl rfl rfl (Nat.le_of_ble_eq_true rfl) hRR ⟨Nat.le_of_ble_eq_true rfl, Nat.le_of_ble_eq_true rfl⟩ dX11_addLine_8 (fun r z hp => ?_)
  obtain ⟨rfl, ⟨rfl, h8⟩ | ⟨rfl, j8, h8, rfl⟩⟩ := hp
  ·
    refine kv_iconst (v := 1) X dX11_addLine_11 (by decide) ?_
    refine kv_calliV (ci := 14) (κ := 0) (r1 := (TX11, 34)) (As := [.int 1, .int 1]) [] X (c_X11_fails1 l dd ad ((va_up M.1 0 0), M.2.1, M.2.2) 1 (by decide) rfl) hl0 (kCV_of X 2 gX11_addLine_X11_fails rfl rfl rfl (by decide +kernel) hRR ⟨Nat.le_of_ble_eq_true rfl, Nat.le_of_ble_eq_true rfl⟩) (by decide) rfl rfl rfl rfl (Nat.le_of_ble_eq_true rfl) hRR ⟨Nat.le_of_ble_eq_true rfl, Nat.le_of_ble_eq_true rfl⟩ dX11_addLine_12 (fun r z hp => ?_)
    obtain ⟨rfl, rfl⟩ := hp
    refine kv_if_ne (tgt := 40) X dX11_addLine_15 (by decide) (fun hc15 => ?_) (fun hc => absurd hc (by decide))
    refine kv_iconst (v := 0) X dX11_addLine_40 (by decide) ?_
    exact kv_ireturn X hr (by decide) (by decide) ⟨((va_up (va_up M.1 0 0) 0 1), M.2.1, M.2.2), Or.inl ⟨h8, rfl, rfl⟩, rfl⟩ dX11_addLine_41
  ·
    refine kv_iconst (v := 1) X dX11_addLine_11 (by decide) ?_
    refine kv_calliV (ci := 14) (κ := 0) (r1 := (TX11, 34)) (As := [.int 0, .int 1]) [] X (c_X11_fails0 l dd ad ((va_up M.1 0 0), M.2.1, M.2.2) 1 rfl) hl0 (kCV_of X 2 gX11_addLine_X11_fails rfl rfl rfl (by decide +kernel) hRR ⟨Nat.le_of_ble_eq_true rfl, Nat.le_of_ble_eq_true rfl⟩) (by decide) rfl rfl rfl rfl (Nat.le_of_ble_eq_true rfl) hRR ⟨Nat.le_of_ble_eq_true rfl, Nat.le_of_ble_eq_true rfl⟩ dX11_addLine_12 (fun r z hp => ?_)
    obtain ⟨rfl, rfl⟩ := hp
    refine kv_if_ne (tgt := 40) X dX11_addLine_15 (by decide) (fun hc => absurd hc (by decide)) (fun hc15 => ?_)
    refine kv_aload_n X 0 dX11_addLine_18 rfl rfl ?_
    refine kv_aload_n X 0 dX11_addLine_19 rfl rfl ?_
    refine km_get X 16 (v := .int (M.1 16)) f_X11_addLine_100 rfl dX11_addLine_20 ?_
    refine kv_topi (nI nL) hL.1 ?_
    refine kv_bipush (v := 10) X dX11_addLine_23 (by decide) ?_
    refine kn_icmp_ne (x := nL) (y := 10) (tgt := 32) X (by omega) (by omega) dX11_addLine_25 (by decide) (fun hc25 => ?_) (fun hc25 => ?_)
    ·
      refine kv_iconst (v := 0) X dX11_addLine_32 (by decide) ?_
      refine kv_iconst (v := 2) X dX11_addLine_33 (by decide) ?_
      refine kv_calliV (ci := 14) (κ := 0) (r1 := (TX11, 34)) (As := [.int 0, .int 2]) [] X (c_X11_fails0 l dd ad ((va_up M.1 0 0), M.2.1, M.2.2) 2 rfl) hl0 (kCV_of X 2 gX11_addLine_X11_fails rfl rfl rfl (by decide +kernel) hRR ⟨Nat.le_of_ble_eq_true rfl, Nat.le_of_ble_eq_true rfl⟩) (by decide) rfl rfl rfl rfl (Nat.le_of_ble_eq_true rfl) hRR ⟨Nat.le_of_ble_eq_true rfl, Nat.le_of_ble_eq_true rfl⟩ dX11_addLine_34 (fun r z hp => ?_)
      obtain ⟨rfl, rfl⟩ := hp
      refine kv_if_eq (tgt := 42) X dX11_addLine_37 (by decide) (fun hc37 => ?_) (fun hc => absurd hc (by decide))
      refine kv_aload_n X 0 dX11_addLine_42 rfl rfl ?_
      refine km_get X 17 (v := .ref (ad 17)) f_X11_addLine_46 rfl dX11_addLine_43 ?_
      refine kv_aload_n X 0 dX11_addLine_46 rfl rfl ?_
      refine km_get X 16 (v := .int (M.1 16)) f_X11_addLine_100 rfl dX11_addLine_47 ?_
      refine kv_topi (nI nL) hL.1 ?_
      refine kv_iload_n X 1 dX11_addLine_50 rfl rfl ?_
      refine km_iast X 17 (j := nL) (x := (nI j8)) (by decide) (by decide) rfl (by show _ < _; simp only [mLen]; omega) (by decide) dX11_addLine_51 ?_
      refine kv_aload_n X 0 dX11_addLine_52 rfl rfl ?_
      refine kv_dup X dX11_addLine_53 rfl ?_
      refine km_get X 16 (v := .int (M.1 16)) f_X11_addLine_100 rfl dX11_addLine_54 ?_
      refine kv_topi (nI nL) hL.1 ?_
      refine kv_iconst (v := 1) X dX11_addLine_57 (by decide) ?_
      refine kv_iadd X dX11_addLine_58 ?_
      refine kv_topi (nI (nL + 1)) (nI_add nL 1) ?_
      refine km_put X 16 (x := (nI (nL + 1))) fp_X11_addLine_100 (by decide) dX11_addLine_59 ?_
      refine kv_aload_n X 0 dX11_addLine_62 rfl rfl ?_
      refine km_get X 16 (v := .int (nI (nL + 1))) f_X11_addLine_100 rfl dX11_addLine_63 ?_
      refine kv_iconst (v := 1) X dX11_addLine_66 (by decide) ?_
      refine kv_isub X dX11_addLine_67 ?_
      exact kv_ireturn X hr (by decide) (by decide) ⟨((va_up (va_up M.1 0 0) 16 (nI (nL + 1))), (va_up M.2.1 17 (upd (M.2.1 17) nL (nI j8))), M.2.2), Or.inr (Or.inr ⟨⟨j8, h8, rfl⟩, by omega, rfl, nI_pred nL⟩), rfl⟩ dX11_addLine_68
    ·
      refine kv_iconst (v := 1) X dX11_addLine_28 (by decide) ?_
      refine kv_goto (tgt := 33) X dX11_addLine_29 (by decide) ?_
      refine kv_iconst (v := 2) X dX11_addLine_33 (by decide) ?_
      refine kv_calliV (ci := 14) (κ := 0) (r1 := (TX11, 34)) (As := [.int 1, .int 2]) [] X (c_X11_fails1 l dd ad ((va_up M.1 0 0), M.2.1, M.2.2) 2 (by decide) rfl) hl0 (kCV_of X 2 gX11_addLine_X11_fails rfl rfl rfl (by decide +kernel) hRR ⟨Nat.le_of_ble_eq_true rfl, Nat.le_of_ble_eq_true rfl⟩) (by decide) rfl rfl rfl rfl (Nat.le_of_ble_eq_true rfl) hRR ⟨Nat.le_of_ble_eq_true rfl, Nat.le_of_ble_eq_true rfl⟩ dX11_addLine_34 (fun r z hp => ?_)
      obtain ⟨rfl, rfl⟩ := hp
      refine kv_if_eq (tgt := 42) X dX11_addLine_37 (by decide) (fun hc => absurd hc (by decide)) (fun hc37 => ?_)
      refine kv_iconst (v := 0) X dX11_addLine_40 (by decide) ?_
      exact kv_ireturn X hr (by decide) (by decide) ⟨((va_up (va_up M.1 0 0) 0 2), M.2.1, M.2.2), Or.inr (Or.inl ⟨⟨j8, h8, rfl⟩, hc25, rfl, rfl⟩), rfl⟩ dX11_addLine_41
theorem f_X11_quantityOf_152 : kF wsX11_quantityOf RX11 152 14 18 := ⟨_, RX11, TX11, 34, fun _ h => (List.mem_cons_of_mem _ (List.mem_append_left _ (List.mem_append_right _ h))), (List.mem_cons_of_mem _ (List.mem_append_left _ (List.mem_append_left _ (List.mem_of_getElem? (i := 0) rfl)))), rfl, by decide, rfl⟩
theorem f_X11_quantityOf_49 : kF wsX11_quantityOf RX11 49 14 19 := ⟨_, RX11, TX11, 34, fun _ h => (List.mem_cons_of_mem _ (List.mem_append_left _ (List.mem_append_right _ h))), (List.mem_cons_of_mem _ (List.mem_append_left _ (List.mem_append_left _ (List.mem_of_getElem? (i := 1) rfl)))), rfl, by decide, rfl⟩
theorem f_X11_quantityOf_52 : kF wsX11_quantityOf RX11 52 14 20 := ⟨_, RX11, TX11, 34, fun _ h => (List.mem_cons_of_mem _ (List.mem_append_left _ (List.mem_append_right _ h))), (List.mem_cons_of_mem _ (List.mem_append_left _ (List.mem_append_left _ (List.mem_of_getElem? (i := 2) rfl)))), rfl, by decide, rfl⟩
set_option maxRecDepth 100000 in
set_option maxHeartbeats 4000000 in
theorem c_X11_quantityOf (l : Launch) (dd : kDD) (ad : Nat → Nat) (M : mS) (line : Int32) (nW : Nat) (hW : M.1 18 = nI nW ∧ nW ≤ 40) : kCi l yX11_quantityOf wsX11_quantityOf ({ frames := 0, cells := 0, slots := 0, locals := 0 } : Room) 0 0 dd [.ref (ad 0), .int line] (mK, ad, mE dd ad M) (kQi (S := mS) (fun r z => M = z ∧ r = mq (M.2.1 19) (M.2.1 20) line nW) (fun _ => mK) (fun _ => ad) (fun z => mE dd ad z)) := by
  refine kMeti (ws' := _) (cc := cX11_quantityOf) (maxL := 4) (rt := .int) (by decide) rfl (Nat.le_of_ble_eq_true rfl) (fun g X hr hnL hRR hl0 hkn => ?_)
  show kv dd g 0 0 0 [(0, .ref (ad 0)), (1, .int line)] [] mK ad (mE dd ad M)
  refine kv_iconst (v := 0) X dX11_quantityOf_0 (by decide) ?_
  refine kv_istore_n (lv2 := [(2, .int 0), (0, .ref (ad 0)), (1, .int line)]) X dX11_quantityOf_1 rfl (by rw [hnL]; decide) rfl ?_
  refine kv_iconst (v := 0) X dX11_quantityOf_2 (by decide) ?_
  refine kv_istore_n (lv2 := [(3, .int 0), (2, .int 0), (0, .ref (ad 0)), (1, .int line)]) X dX11_quantityOf_3 rfl (by rw [hnL]; decide) rfl ?_
  have L4 : ∀ (n i : Nat), i + n = nW → ∀ (_ : Unit) , kv dd g 0 0 4 [(3, .int (nI i)), (2, .int (mq (M.2.1 19) (M.2.1 20) line (i))), (0, .ref (ad 0)), (1, .int line)] [] mK ad (mE dd ad M) := by
    intro n
    induction n with
    | zero =>
      intro i hin4 _ 
      refine kv_iload_n X 0 dX11_quantityOf_4 rfl rfl ?_
      refine kv_aload_n X 2 dX11_quantityOf_5 rfl rfl ?_
      refine km_get X 18 (v := .int (M.1 18)) f_X11_quantityOf_152 rfl dX11_quantityOf_6 ?_
      refine kv_topi (nI nW) hW.1 ?_
      refine kn_icmp_ge (x := i) (y := nW) (tgt := 41) X (by omega) (by omega) dX11_quantityOf_9 (by decide) (fun hc9 => ?_) (fun hc9 => absurd hc9 (by omega))
      refine kv_iload_n X 1 dX11_quantityOf_41 rfl rfl ?_
      exact kv_ireturn X hr (by decide) (by decide) ⟨M, ⟨rfl, by rw [show i = nW by omega]⟩, rfl⟩ dX11_quantityOf_42
    | succ n ih4 =>
      intro i hin4 _ 
      refine kv_iload_n X 0 dX11_quantityOf_4 rfl rfl ?_
      refine kv_aload_n X 2 dX11_quantityOf_5 rfl rfl ?_
      refine km_get X 18 (v := .int (M.1 18)) f_X11_quantityOf_152 rfl dX11_quantityOf_6 ?_
      refine kv_topi (nI nW) hW.1 ?_
      refine kn_icmp_ge (x := i) (y := nW) (tgt := 41) X (by omega) (by omega) dX11_quantityOf_9 (by decide) (fun hc9 => absurd hc9 (by omega)) (fun hc9 => ?_)
      refine kv_iload_n X 1 dX11_quantityOf_12 rfl rfl ?_
      refine kv_aload_n X 2 dX11_quantityOf_13 rfl rfl ?_
      refine km_get X 19 (v := .ref (ad 19)) f_X11_quantityOf_49 rfl dX11_quantityOf_14 ?_
      refine kv_iload_n X 0 dX11_quantityOf_17 rfl rfl ?_
      refine km_iald X 19 (j := i) (by decide) (by decide) rfl (by show _ < _; simp only [mLen]; omega) (by decide) dX11_quantityOf_18 ?_
      refine kv_topi ((M.2.1 19) i) rfl ?_
      refine kv_iload_n X 3 dX11_quantityOf_19 rfl rfl ?_
      refine kv_icmp_ne (tgt := 32) X dX11_quantityOf_20 (by decide) (fun hc20 => ?_) (fun hc20 => ?_)
      ·
        refine kv_iconst (v := 0) X dX11_quantityOf_32 (by decide) ?_
        refine kv_iadd X dX11_quantityOf_33 ?_
        refine kv_topi (mq (M.2.1 19) (M.2.1 20) line (i + 1)) (by first | (rw [mq, if_pos hc20]; done) | (rw [mq, if_neg hc20]; done)) ?_
        refine kv_istore_n (lv2 := [(2, .int (mq (M.2.1 19) (M.2.1 20) line (i + 1))), (3, .int (nI i)), (0, .ref (ad 0)), (1, .int line)]) X dX11_quantityOf_34 rfl (by rw [hnL]; decide) rfl ?_
        refine kv_iinc (j := 1) (v := (nI (i + 1))) (lv2 := [(3, .int (nI (i + 1))), (2, .int (mq (M.2.1 19) (M.2.1 20) line (i + 1))), (0, .ref (ad 0)), (1, .int line)]) X dX11_quantityOf_35 rfl (nI_add i 1) (by rw [hnL]; decide) rfl ?_
        refine kv_goto (tgt := 4) X dX11_quantityOf_38 (by decide) ?_
        exact kv_lv [0, 1, 2, 3] rfl (ih4 (i + 1) (by omega) ())
      ·
        refine kv_aload_n X 2 dX11_quantityOf_23 rfl rfl ?_
        refine km_get X 20 (v := .ref (ad 20)) f_X11_quantityOf_52 rfl dX11_quantityOf_24 ?_
        refine kv_iload_n X 0 dX11_quantityOf_27 rfl rfl ?_
        refine km_iald X 20 (j := i) (by decide) (by decide) rfl (by show _ < _; simp only [mLen]; omega) (by decide) dX11_quantityOf_28 ?_
        refine kv_topi ((M.2.1 20) i) rfl ?_
        refine kv_goto (tgt := 33) X dX11_quantityOf_29 (by decide) ?_
        refine kv_iadd X dX11_quantityOf_33 ?_
        refine kv_topi (mq (M.2.1 19) (M.2.1 20) line (i + 1)) (by first | (rw [mq, if_pos hc20]; done) | (rw [mq, if_neg hc20]; done)) ?_
        refine kv_istore_n (lv2 := [(2, .int (mq (M.2.1 19) (M.2.1 20) line (i + 1))), (3, .int (nI i)), (0, .ref (ad 0)), (1, .int line)]) X dX11_quantityOf_34 rfl (by rw [hnL]; decide) rfl ?_
        refine kv_iinc (j := 1) (v := (nI (i + 1))) (lv2 := [(3, .int (nI (i + 1))), (2, .int (mq (M.2.1 19) (M.2.1 20) line (i + 1))), (0, .ref (ad 0)), (1, .int line)]) X dX11_quantityOf_35 rfl (nI_add i 1) (by rw [hnL]; decide) rfl ?_
        refine kv_goto (tgt := 4) X dX11_quantityOf_38 (by decide) ?_
        exact kv_lv [0, 1, 2, 3] rfl (ih4 (i + 1) (by omega) ())
  exact kv_lv [0, 1, 2, 3] rfl (L4 nW 0 (by omega) ())
theorem fp_X11_quantity_86 : kFp wsX11_quantity RX11 86 14 0 .int false := ⟨_, RX11, TX11, 34, tyX11, fun _ h => (List.mem_cons_of_mem _ (List.mem_append_left _ (List.mem_append_right _ h))), tyX11_ok, nmX11, (List.mem_cons_of_mem _ (List.mem_append_left _ (List.mem_append_left _ (List.mem_of_getElem? (i := 0) rfl)))), rfl, by decide, rfl, rfl, by decide +kernel, rfl⟩
set_option maxRecDepth 100000 in
set_option maxHeartbeats 4000000 in
theorem c_X11_quantity (l : Launch) (dd : kDD) (ad : Nat → Nat) (M : mS) (v : Int32) (nL : Nat) (hL : M.1 16 = nI nL ∧ nL ≤ 10) (nW : Nat) (hW : M.1 18 = nI nW ∧ nW ≤ 40) : kCi l yX11_quantity wsX11_quantity ({ frames := 2, cells := 0, slots := 0, locals := 43 } : Room) 0 0 dd [.ref (ad 0), .int v] (mK, ad, mE dd ad M) (kQi (S := mS) (fun r z => (¬ (∃ j, j < nL ∧ v = nI j) ∧ mT M 1 = z ∧ r = 0) ∨ ∃ j, (j < nL ∧ v = nI j) ∧ mT0 M = z ∧ r = mq (M.2.1 19) (M.2.1 20) (nI j) nW) (fun _ => mK) (fun _ => ad) (fun z => mE dd ad z)) := by
  refine kMeti (ws' := _) (cc := cX11_quantity) (maxL := 2) (rt := .int) (by decide) rfl (Nat.le_of_ble_eq_true rfl) (fun g X hr hnL hRR hl0 hkn => ?_)
  show kv dd g 0 0 0 [(0, .ref (ad 0)), (1, .int v)] [] mK ad (mE dd ad M)
  refine kv_aload_n X 0 dX11_quantity_0 rfl rfl ?_
  refine kv_iconst (v := 0) X dX11_quantity_1 (by decide) ?_
  refine km_put X 0 (x := 0) fp_X11_quantity_86 (by decide) dX11_quantity_2 ?_
  refine kv_aload_n X 0 dX11_quantity_5 rfl rfl ?_
  refine kv_aload_n X 0 dX11_quantity_6 rfl rfl ?_
  refine kv_iload_n X 1 dX11_quantity_7 rfl rfl ?_
  refine kv_calliV (ci := 14) (κ := 0) (r1 := (TX11, 34)) (As := [.int v]) [.ref (ad 0)] X (c_X11_noLine l dd ad ((va_up M.1 0 0), M.2.1, M.2.2) v nL hL.2 hL.1) hl0 (kCV_of X 1 gX11_quantity_X11_noLine rfl rfl rfl (by decide +kernel) hRR ⟨Nat.le_of_ble_eq_true rfl, Nat.le_of_ble_eq_true rfl⟩) (by decide) rfl rfl rfl rfl (Nat.le_of_ble_eq_true rfl) hRR ⟨Nat.le_of_ble_eq_true rfl, Nat.le_of_ble_eq_true rfl⟩ dX11_quantity_8 (fun r z hp => ?_)
  obtain ⟨rfl, ⟨rfl, h8⟩ | ⟨rfl, j8, h8, rfl⟩⟩ := hp
  ·
    refine kv_iconst (v := 1) X dX11_quantity_11 (by decide) ?_
    refine kv_calliV (ci := 14) (κ := 0) (r1 := (TX11, 34)) (As := [.int 1, .int 1]) [] X (c_X11_fails1 l dd ad ((va_up M.1 0 0), M.2.1, M.2.2) 1 (by decide) rfl) hl0 (kCV_of X 2 gX11_quantity_X11_fails rfl rfl rfl (by decide +kernel) hRR ⟨Nat.le_of_ble_eq_true rfl, Nat.le_of_ble_eq_true rfl⟩) (by decide) rfl rfl rfl rfl (Nat.le_of_ble_eq_true rfl) hRR ⟨Nat.le_of_ble_eq_true rfl, Nat.le_of_ble_eq_true rfl⟩ dX11_quantity_12 (fun r z hp => ?_)
    obtain ⟨rfl, rfl⟩ := hp
    refine kv_if_eq (tgt := 22) X dX11_quantity_15 (by decide) (fun hc => absurd hc (by decide)) (fun hc15 => ?_)
    refine kv_iconst (v := 0) X dX11_quantity_18 (by decide) ?_
    refine kv_goto (tgt := 27) X dX11_quantity_19 (by decide) ?_
    exact kv_ireturn X hr (by decide) (by decide) ⟨((va_up (va_up M.1 0 0) 0 1), M.2.1, M.2.2), Or.inl ⟨h8, rfl, rfl⟩, rfl⟩ dX11_quantity_27
  ·
    refine kv_iconst (v := 1) X dX11_quantity_11 (by decide) ?_
    refine kv_calliV (ci := 14) (κ := 0) (r1 := (TX11, 34)) (As := [.int 0, .int 1]) [] X (c_X11_fails0 l dd ad ((va_up M.1 0 0), M.2.1, M.2.2) 1 rfl) hl0 (kCV_of X 2 gX11_quantity_X11_fails rfl rfl rfl (by decide +kernel) hRR ⟨Nat.le_of_ble_eq_true rfl, Nat.le_of_ble_eq_true rfl⟩) (by decide) rfl rfl rfl rfl (Nat.le_of_ble_eq_true rfl) hRR ⟨Nat.le_of_ble_eq_true rfl, Nat.le_of_ble_eq_true rfl⟩ dX11_quantity_12 (fun r z hp => ?_)
    obtain ⟨rfl, rfl⟩ := hp
    refine kv_if_eq (tgt := 22) X dX11_quantity_15 (by decide) (fun hc15 => ?_) (fun hc => absurd hc (by decide))
    refine kv_aload_n X 0 dX11_quantity_22 rfl rfl ?_
    refine kv_iload_n X 1 dX11_quantity_23 rfl rfl ?_
    refine kv_calliV (ci := 14) (κ := 0) (r1 := (TX11, 34)) (As := [.int (nI j8)]) [] X (c_X11_quantityOf l dd ad ((va_up M.1 0 0), M.2.1, M.2.2) (nI j8) nW hW) hl0 (kCV_of X 1 gX11_quantity_X11_quantityOf rfl rfl rfl (by decide +kernel) hRR ⟨Nat.le_of_ble_eq_true rfl, Nat.le_of_ble_eq_true rfl⟩) (by decide) rfl rfl rfl rfl (Nat.le_of_ble_eq_true rfl) hRR ⟨Nat.le_of_ble_eq_true rfl, Nat.le_of_ble_eq_true rfl⟩ dX11_quantity_24 (fun r z hp => ?_)
    obtain ⟨rfl, rfl⟩ := hp
    exact kv_ireturn X hr (by decide) (by decide) ⟨((va_up M.1 0 0), M.2.1, M.2.2), Or.inr ⟨j8, ⟨h8, rfl⟩, rfl, rfl⟩, rfl⟩ dX11_quantity_27
theorem fp_X11_measure_86 : kFp wsX11_measure RX11 86 14 0 .int false := ⟨_, RX11, TX11, 34, tyX11, fun _ h => (List.mem_cons_of_mem _ (List.mem_append_left _ (List.mem_append_right _ h))), tyX11_ok, nmX11, (List.mem_cons_of_mem _ (List.mem_append_left _ (List.mem_append_left _ (List.mem_of_getElem? (i := 0) rfl)))), rfl, by decide, rfl, rfl, by decide +kernel, rfl⟩
theorem f_X11_measure_52 : kF wsX11_measure RX11 52 14 20 := ⟨_, RX11, TX11, 34, fun _ h => (List.mem_cons_of_mem _ (List.mem_append_left _ (List.mem_append_right _ h))), (List.mem_cons_of_mem _ (List.mem_append_left _ (List.mem_append_left _ (List.mem_of_getElem? (i := 1) rfl)))), rfl, by decide, rfl⟩
set_option maxRecDepth 100000 in
set_option maxHeartbeats 4000000 in
theorem c_X11_measure (l : Launch) (dd : kDD) (ad : Nat → Nat) (M : mS) (v : Int32) (nW : Nat) (hW : M.1 18 = nI nW ∧ nW ≤ 40) : kCi l yX11_measure wsX11_measure ({ frames := 2, cells := 0, slots := 0, locals := 43 } : Room) 0 0 dd [.ref (ad 0), .int v] (mK, ad, mE dd ad M) (kQi (S := mS) (fun r z => (¬ (∃ j, j < nW ∧ v = nI j) ∧ mT M 1 = z ∧ r = 0) ∨ ∃ j, (j < nW ∧ v = nI j) ∧ mT0 M = z ∧ r = M.2.1 20 j) (fun _ => mK) (fun _ => ad) (fun z => mE dd ad z)) := by
  refine kMeti (ws' := _) (cc := cX11_measure) (maxL := 2) (rt := .int) (by decide) rfl (Nat.le_of_ble_eq_true rfl) (fun g X hr hnL hRR hl0 hkn => ?_)
  show kv dd g 0 0 0 [(0, .ref (ad 0)), (1, .int v)] [] mK ad (mE dd ad M)
  refine kv_aload_n X 0 dX11_measure_0 rfl rfl ?_
  refine kv_iconst (v := 0) X dX11_measure_1 (by decide) ?_
  refine km_put X 0 (x := 0) fp_X11_measure_86 (by decide) dX11_measure_2 ?_
  refine kv_aload_n X 0 dX11_measure_5 rfl rfl ?_
  refine kv_aload_n X 0 dX11_measure_6 rfl rfl ?_
  refine kv_iload_n X 1 dX11_measure_7 rfl rfl ?_
  refine kv_calliV (ci := 14) (κ := 0) (r1 := (TX11, 34)) (As := [.int v]) [.ref (ad 0)] X (c_X11_noRow l dd ad ((va_up M.1 0 0), M.2.1, M.2.2) v nW hW.2 hW.1) hl0 (kCV_of X 1 gX11_measure_X11_noRow rfl rfl rfl (by decide +kernel) hRR ⟨Nat.le_of_ble_eq_true rfl, Nat.le_of_ble_eq_true rfl⟩) (by decide) rfl rfl rfl rfl (Nat.le_of_ble_eq_true rfl) hRR ⟨Nat.le_of_ble_eq_true rfl, Nat.le_of_ble_eq_true rfl⟩ dX11_measure_8 (fun r z hp => ?_)
  obtain ⟨rfl, ⟨rfl, h8⟩ | ⟨rfl, j8, h8, rfl⟩⟩ := hp
  ·
    refine kv_iconst (v := 1) X dX11_measure_11 (by decide) ?_
    refine kv_calliV (ci := 14) (κ := 0) (r1 := (TX11, 34)) (As := [.int 1, .int 1]) [] X (c_X11_fails1 l dd ad ((va_up M.1 0 0), M.2.1, M.2.2) 1 (by decide) rfl) hl0 (kCV_of X 2 gX11_measure_X11_fails rfl rfl rfl (by decide +kernel) hRR ⟨Nat.le_of_ble_eq_true rfl, Nat.le_of_ble_eq_true rfl⟩) (by decide) rfl rfl rfl rfl (Nat.le_of_ble_eq_true rfl) hRR ⟨Nat.le_of_ble_eq_true rfl, Nat.le_of_ble_eq_true rfl⟩ dX11_measure_12 (fun r z hp => ?_)
    obtain ⟨rfl, rfl⟩ := hp
    refine kv_if_eq (tgt := 22) X dX11_measure_15 (by decide) (fun hc => absurd hc (by decide)) (fun hc15 => ?_)
    refine kv_iconst (v := 0) X dX11_measure_18 (by decide) ?_
    refine kv_goto (tgt := 28) X dX11_measure_19 (by decide) ?_
    exact kv_ireturn X hr (by decide) (by decide) ⟨((va_up (va_up M.1 0 0) 0 1), M.2.1, M.2.2), Or.inl ⟨h8, rfl, rfl⟩, rfl⟩ dX11_measure_28
  ·
    refine kv_iconst (v := 1) X dX11_measure_11 (by decide) ?_
    refine kv_calliV (ci := 14) (κ := 0) (r1 := (TX11, 34)) (As := [.int 0, .int 1]) [] X (c_X11_fails0 l dd ad ((va_up M.1 0 0), M.2.1, M.2.2) 1 rfl) hl0 (kCV_of X 2 gX11_measure_X11_fails rfl rfl rfl (by decide +kernel) hRR ⟨Nat.le_of_ble_eq_true rfl, Nat.le_of_ble_eq_true rfl⟩) (by decide) rfl rfl rfl rfl (Nat.le_of_ble_eq_true rfl) hRR ⟨Nat.le_of_ble_eq_true rfl, Nat.le_of_ble_eq_true rfl⟩ dX11_measure_12 (fun r z hp => ?_)
    obtain ⟨rfl, rfl⟩ := hp
    refine kv_if_eq (tgt := 22) X dX11_measure_15 (by decide) (fun hc15 => ?_) (fun hc => absurd hc (by decide))
    refine kv_aload_n X 0 dX11_measure_22 rfl rfl ?_
    refine km_get X 20 (v := .ref (ad 20)) f_X11_measure_52 rfl dX11_measure_23 ?_
    refine kv_iload_n X 1 dX11_measure_26 rfl rfl ?_
    refine km_iald X 20 (j := j8) (by decide) (by decide) rfl (by show _ < _; simp only [mLen]; omega) (by decide) dX11_measure_27 ?_
    refine kv_topi ((M.2.1 20) j8) rfl ?_
    exact kv_ireturn X hr (by decide) (by decide) ⟨((va_up M.1 0 0), M.2.1, M.2.2), Or.inr ⟨j8, ⟨h8, rfl⟩, rfl, rfl⟩, rfl⟩ dX11_measure_28
theorem f_X11_meantItem_103 : kF wsX11_meantItem RX11 103 14 21 := ⟨_, RX11, TX11, 34, fun _ h => (List.mem_cons_of_mem _ (List.mem_append_left _ (List.mem_append_right _ h))), (List.mem_cons_of_mem _ (List.mem_append_left _ (List.mem_append_left _ (List.mem_of_getElem? (i := 0) rfl)))), rfl, by decide, rfl⟩
theorem f_X11_meantItem_117 : kF wsX11_meantItem RX11 117 14 24 := ⟨_, RX11, TX11, 34, fun _ h => (List.mem_cons_of_mem _ (List.mem_append_left _ (List.mem_append_right _ h))), (List.mem_cons_of_mem _ (List.mem_append_left _ (List.mem_append_left _ (List.mem_of_getElem? (i := 1) rfl)))), rfl, by decide, rfl⟩
theorem f_X11_meantItem_55 : kF wsX11_meantItem RX11 55 14 22 := ⟨_, RX11, TX11, 34, fun _ h => (List.mem_cons_of_mem _ (List.mem_append_left _ (List.mem_append_right _ h))), (List.mem_cons_of_mem _ (List.mem_append_left _ (List.mem_append_left _ (List.mem_of_getElem? (i := 2) rfl)))), rfl, by decide, rfl⟩
set_option maxRecDepth 100000 in
set_option maxHeartbeats 4000000 in
theorem c_X11_meantItem (l : Launch) (dd : kDD) (ad : Nat → Nat) (M : mS) (j : Nat) (hj : j < 12) (nV : Nat) (hV : M.1 21 = nI nV ∧ nV ≤ 4) : kCi l yX11_meantItem wsX11_meantItem ({ frames := 0, cells := 0, slots := 0, locals := 0 } : Room) 0 0 dd [.ref (ad 0), .int (nI j)] (mK, ad, mE dd ad M) (kQi (S := mS) (fun r z => M = z ∧ r = mnt (M.1 24) (M.2.1 22) j nV 0) (fun _ => mK) (fun _ => ad) (fun z => mE dd ad z)) := by
  refine kMeti (ws' := _) (cc := cX11_meantItem) (maxL := 3) (rt := .int) (by decide) rfl (Nat.le_of_ble_eq_true rfl) (fun g X hr hnL hRR hl0 hkn => ?_)
  show kv dd g 0 0 0 [(0, .ref (ad 0)), (1, .int (nI j))] [] mK ad (mE dd ad M)
  refine kv_iconst (v := 0) X dX11_meantItem_0 (by decide) ?_
  refine kv_istore_n (lv2 := [(2, .int 0), (0, .ref (ad 0)), (1, .int (nI j))]) X dX11_meantItem_1 rfl (by rw [hnL]; decide) rfl ?_
  have L2 : ∀ (n i : Nat), i + n = nV → ∀ (_ : Unit) (hv : mnt (M.1 24) (M.2.1 22) j nV 0 = mnt (M.1 24) (M.2.1 22) j n i), kv dd g 0 0 2 [(2, .int (nI i)), (0, .ref (ad 0)), (1, .int (nI j))] [] mK ad (mE dd ad M) := by
    intro n
    induction n with
    | zero =>
      intro i hin2 _ hv
      refine kv_iload_n X 0 dX11_meantItem_2 rfl rfl ?_
      refine kv_aload_n X 1 dX11_meantItem_3 rfl rfl ?_
      refine km_get X 21 (v := .int (M.1 21)) f_X11_meantItem_103 rfl dX11_meantItem_4 ?_
      refine kv_topi (nI nV) hV.1 ?_
      refine kn_icmp_ge (x := i) (y := nV) (tgt := 55) X (by omega) (by omega) dX11_meantItem_7 (by decide) (fun hc7 => ?_) (fun hc7 => absurd hc7 (by omega))
      refine kv_iload_n X 2 dX11_meantItem_55 rfl rfl ?_
      exact kv_ireturn X hr (by decide) (by decide) ⟨M, ⟨rfl, by rw [hv]; rfl⟩, rfl⟩ dX11_meantItem_56
    | succ n ih2 =>
      intro i hin2 _ hv
      refine kv_iload_n X 0 dX11_meantItem_2 rfl rfl ?_
      refine kv_aload_n X 1 dX11_meantItem_3 rfl rfl ?_
      refine km_get X 21 (v := .int (M.1 21)) f_X11_meantItem_103 rfl dX11_meantItem_4 ?_
      refine kv_topi (nI nV) hV.1 ?_
      refine kn_icmp_ge (x := i) (y := nV) (tgt := 55) X (by omega) (by omega) dX11_meantItem_7 (by decide) (fun hc7 => absurd hc7 (by omega)) (fun hc7 => ?_)
      refine kv_aload_n X 1 dX11_meantItem_10 rfl rfl ?_
      refine km_get X 24 (v := .int (M.1 24)) f_X11_meantItem_117 rfl dX11_meantItem_11 ?_
      refine kv_iload_n X 0 dX11_meantItem_14 rfl rfl ?_
      refine kv_ishr X dX11_meantItem_15 ?_
      refine kv_iconst (v := 1) X dX11_meantItem_16 (by decide) ?_
      refine kv_iand X dX11_meantItem_17 ?_
      refine kv_iconst (v := 1) X dX11_meantItem_18 (by decide) ?_
      refine kv_icmp_ne (tgt := 49) X dX11_meantItem_19 (by decide) (fun hc19 => ?_) (fun hc19 => ?_)
      ·
        refine kv_iinc (j := 0) (v := (nI (i + 1))) (lv2 := [(2, .int (nI (i + 1))), (0, .ref (ad 0)), (1, .int (nI j))]) X dX11_meantItem_49 rfl (nI_add i 1) (by rw [hnL]; decide) rfl ?_
        refine kv_goto (tgt := 2) X dX11_meantItem_52 (by decide) ?_
        exact kv_lv [0, 1, 2] rfl (ih2 (i + 1) (by omega) () (hv.trans (by rw [mnt, if_neg (by first | exact fun y => hc19 y.1 | exact fun y => y.2 hc34)])))
      ·
        refine kv_aload_n X 1 dX11_meantItem_22 rfl rfl ?_
        refine km_get X 22 (v := .ref (ad 22)) f_X11_meantItem_55 rfl dX11_meantItem_23 ?_
        refine kv_bipush (v := 12) X dX11_meantItem_26 (by decide) ?_
        refine kv_iload_n X 0 dX11_meantItem_28 rfl rfl ?_
        refine kv_imul X dX11_meantItem_29 ?_
        refine kv_topi (nI (12 * i)) (pk_mul 12 i) ?_
        refine kv_iload_n X 2 dX11_meantItem_30 rfl rfl ?_
        refine kv_iadd X dX11_meantItem_31 ?_
        refine kv_topi (nI ((12 * i) + j)) (nI_add (12 * i) j) ?_
        refine km_iald X 22 (j := (12 * i) + j) (by decide) (by decide) rfl (by show _ < _; simp only [mLen]; omega) (by decide) dX11_meantItem_32 ?_
        refine kv_topi ((M.2.1 22) ((12 * i) + j)) rfl ?_
        refine kv_iconst (v := (-1)) X dX11_meantItem_33 (by decide) ?_
        refine kv_icmp_eq (tgt := 49) X dX11_meantItem_34 (by decide) (fun hc34 => ?_) (fun hc34 => ?_)
        ·
          refine kv_iinc (j := 0) (v := (nI (i + 1))) (lv2 := [(2, .int (nI (i + 1))), (0, .ref (ad 0)), (1, .int (nI j))]) X dX11_meantItem_49 rfl (nI_add i 1) (by rw [hnL]; decide) rfl ?_
          refine kv_goto (tgt := 2) X dX11_meantItem_52 (by decide) ?_
          exact kv_lv [0, 1, 2] rfl (ih2 (i + 1) (by omega) () (hv.trans (by rw [mnt, if_neg (by first | exact fun y => hc19 y.1 | exact fun y => y.2 hc34)])))
        ·
          refine kv_aload_n X 1 dX11_meantItem_37 rfl rfl ?_
          refine km_get X 22 (v := .ref (ad 22)) f_X11_meantItem_55 rfl dX11_meantItem_38 ?_
          refine kv_bipush (v := 12) X dX11_meantItem_41 (by decide) ?_
          refine kv_iload_n X 0 dX11_meantItem_43 rfl rfl ?_
          refine kv_imul X dX11_meantItem_44 ?_
          refine kv_topi (nI (12 * i)) (pk_mul 12 i) ?_
          refine kv_iload_n X 2 dX11_meantItem_45 rfl rfl ?_
          refine kv_iadd X dX11_meantItem_46 ?_
          refine kv_topi (nI ((12 * i) + j)) (nI_add (12 * i) j) ?_
          refine km_iald X 22 (j := (12 * i) + j) (by decide) (by decide) rfl (by show _ < _; simp only [mLen]; omega) (by decide) dX11_meantItem_47 ?_
          refine kv_topi ((M.2.1 22) ((12 * i) + j)) rfl ?_
          exact kv_ireturn X hr (by decide) (by decide) ⟨M, ⟨rfl, by rw [hv, mnt, if_pos ⟨hc19, hc34⟩]⟩, rfl⟩ dX11_meantItem_48
  exact kv_lv [0, 1, 2] rfl (L2 nV 0 (by omega) () rfl)
theorem f_X11_meantResource_103 : kF wsX11_meantResource RX11 103 14 21 := ⟨_, RX11, TX11, 34, fun _ h => (List.mem_cons_of_mem _ (List.mem_append_left _ (List.mem_append_right _ h))), (List.mem_cons_of_mem _ (List.mem_append_left _ (List.mem_append_left _ (List.mem_of_getElem? (i := 0) rfl)))), rfl, by decide, rfl⟩
theorem f_X11_meantResource_117 : kF wsX11_meantResource RX11 117 14 24 := ⟨_, RX11, TX11, 34, fun _ h => (List.mem_cons_of_mem _ (List.mem_append_left _ (List.mem_append_right _ h))), (List.mem_cons_of_mem _ (List.mem_append_left _ (List.mem_append_left _ (List.mem_of_getElem? (i := 1) rfl)))), rfl, by decide, rfl⟩
theorem f_X11_meantResource_58 : kF wsX11_meantResource RX11 58 14 23 := ⟨_, RX11, TX11, 34, fun _ h => (List.mem_cons_of_mem _ (List.mem_append_left _ (List.mem_append_right _ h))), (List.mem_cons_of_mem _ (List.mem_append_left _ (List.mem_append_left _ (List.mem_of_getElem? (i := 2) rfl)))), rfl, by decide, rfl⟩
set_option maxRecDepth 100000 in
set_option maxHeartbeats 4000000 in
theorem c_X11_meantResource (l : Launch) (dd : kDD) (ad : Nat → Nat) (M : mS) (j : Nat) (hj : j < 12) (nV : Nat) (hV : M.1 21 = nI nV ∧ nV ≤ 4) : kCi l yX11_meantResource wsX11_meantResource ({ frames := 0, cells := 0, slots := 0, locals := 0 } : Room) 0 0 dd [.ref (ad 0), .int (nI j)] (mK, ad, mE dd ad M) (kQi (S := mS) (fun r z => M = z ∧ r = mnt (M.1 24) (M.2.1 23) j nV 0) (fun _ => mK) (fun _ => ad) (fun z => mE dd ad z)) := by
  refine kMeti (ws' := _) (cc := cX11_meantResource) (maxL := 3) (rt := .int) (by decide) rfl (Nat.le_of_ble_eq_true rfl) (fun g X hr hnL hRR hl0 hkn => ?_)
  show kv dd g 0 0 0 [(0, .ref (ad 0)), (1, .int (nI j))] [] mK ad (mE dd ad M)
  refine kv_iconst (v := 0) X dX11_meantResource_0 (by decide) ?_
  refine kv_istore_n (lv2 := [(2, .int 0), (0, .ref (ad 0)), (1, .int (nI j))]) X dX11_meantResource_1 rfl (by rw [hnL]; decide) rfl ?_
  have L2 : ∀ (n i : Nat), i + n = nV → ∀ (_ : Unit) (hv : mnt (M.1 24) (M.2.1 23) j nV 0 = mnt (M.1 24) (M.2.1 23) j n i), kv dd g 0 0 2 [(2, .int (nI i)), (0, .ref (ad 0)), (1, .int (nI j))] [] mK ad (mE dd ad M) := by
    intro n
    induction n with
    | zero =>
      intro i hin2 _ hv
      refine kv_iload_n X 0 dX11_meantResource_2 rfl rfl ?_
      refine kv_aload_n X 1 dX11_meantResource_3 rfl rfl ?_
      refine km_get X 21 (v := .int (M.1 21)) f_X11_meantResource_103 rfl dX11_meantResource_4 ?_
      refine kv_topi (nI nV) hV.1 ?_
      refine kn_icmp_ge (x := i) (y := nV) (tgt := 55) X (by omega) (by omega) dX11_meantResource_7 (by decide) (fun hc7 => ?_) (fun hc7 => absurd hc7 (by omega))
      refine kv_iload_n X 2 dX11_meantResource_55 rfl rfl ?_
      exact kv_ireturn X hr (by decide) (by decide) ⟨M, ⟨rfl, by rw [hv]; rfl⟩, rfl⟩ dX11_meantResource_56
    | succ n ih2 =>
      intro i hin2 _ hv
      refine kv_iload_n X 0 dX11_meantResource_2 rfl rfl ?_
      refine kv_aload_n X 1 dX11_meantResource_3 rfl rfl ?_
      refine km_get X 21 (v := .int (M.1 21)) f_X11_meantResource_103 rfl dX11_meantResource_4 ?_
      refine kv_topi (nI nV) hV.1 ?_
      refine kn_icmp_ge (x := i) (y := nV) (tgt := 55) X (by omega) (by omega) dX11_meantResource_7 (by decide) (fun hc7 => absurd hc7 (by omega)) (fun hc7 => ?_)
      refine kv_aload_n X 1 dX11_meantResource_10 rfl rfl ?_
      refine km_get X 24 (v := .int (M.1 24)) f_X11_meantResource_117 rfl dX11_meantResource_11 ?_
      refine kv_iload_n X 0 dX11_meantResource_14 rfl rfl ?_
      refine kv_ishr X dX11_meantResource_15 ?_
      refine kv_iconst (v := 1) X dX11_meantResource_16 (by decide) ?_
      refine kv_iand X dX11_meantResource_17 ?_
      refine kv_iconst (v := 1) X dX11_meantResource_18 (by decide) ?_
      refine kv_icmp_ne (tgt := 49) X dX11_meantResource_19 (by decide) (fun hc19 => ?_) (fun hc19 => ?_)
      ·
        refine kv_iinc (j := 0) (v := (nI (i + 1))) (lv2 := [(2, .int (nI (i + 1))), (0, .ref (ad 0)), (1, .int (nI j))]) X dX11_meantResource_49 rfl (nI_add i 1) (by rw [hnL]; decide) rfl ?_
        refine kv_goto (tgt := 2) X dX11_meantResource_52 (by decide) ?_
        exact kv_lv [0, 1, 2] rfl (ih2 (i + 1) (by omega) () (hv.trans (by rw [mnt, if_neg (by first | exact fun y => hc19 y.1 | exact fun y => y.2 hc34)])))
      ·
        refine kv_aload_n X 1 dX11_meantResource_22 rfl rfl ?_
        refine km_get X 23 (v := .ref (ad 23)) f_X11_meantResource_58 rfl dX11_meantResource_23 ?_
        refine kv_bipush (v := 12) X dX11_meantResource_26 (by decide) ?_
        refine kv_iload_n X 0 dX11_meantResource_28 rfl rfl ?_
        refine kv_imul X dX11_meantResource_29 ?_
        refine kv_topi (nI (12 * i)) (pk_mul 12 i) ?_
        refine kv_iload_n X 2 dX11_meantResource_30 rfl rfl ?_
        refine kv_iadd X dX11_meantResource_31 ?_
        refine kv_topi (nI ((12 * i) + j)) (nI_add (12 * i) j) ?_
        refine km_iald X 23 (j := (12 * i) + j) (by decide) (by decide) rfl (by show _ < _; simp only [mLen]; omega) (by decide) dX11_meantResource_32 ?_
        refine kv_topi ((M.2.1 23) ((12 * i) + j)) rfl ?_
        refine kv_iconst (v := (-1)) X dX11_meantResource_33 (by decide) ?_
        refine kv_icmp_eq (tgt := 49) X dX11_meantResource_34 (by decide) (fun hc34 => ?_) (fun hc34 => ?_)
        ·
          refine kv_iinc (j := 0) (v := (nI (i + 1))) (lv2 := [(2, .int (nI (i + 1))), (0, .ref (ad 0)), (1, .int (nI j))]) X dX11_meantResource_49 rfl (nI_add i 1) (by rw [hnL]; decide) rfl ?_
          refine kv_goto (tgt := 2) X dX11_meantResource_52 (by decide) ?_
          exact kv_lv [0, 1, 2] rfl (ih2 (i + 1) (by omega) () (hv.trans (by rw [mnt, if_neg (by first | exact fun y => hc19 y.1 | exact fun y => y.2 hc34)])))
        ·
          refine kv_aload_n X 1 dX11_meantResource_37 rfl rfl ?_
          refine km_get X 23 (v := .ref (ad 23)) f_X11_meantResource_58 rfl dX11_meantResource_38 ?_
          refine kv_bipush (v := 12) X dX11_meantResource_41 (by decide) ?_
          refine kv_iload_n X 0 dX11_meantResource_43 rfl rfl ?_
          refine kv_imul X dX11_meantResource_44 ?_
          refine kv_topi (nI (12 * i)) (pk_mul 12 i) ?_
          refine kv_iload_n X 2 dX11_meantResource_45 rfl rfl ?_
          refine kv_iadd X dX11_meantResource_46 ?_
          refine kv_topi (nI ((12 * i) + j)) (nI_add (12 * i) j) ?_
          refine km_iald X 23 (j := (12 * i) + j) (by decide) (by decide) rfl (by show _ < _; simp only [mLen]; omega) (by decide) dX11_meantResource_47 ?_
          refine kv_topi ((M.2.1 23) ((12 * i) + j)) rfl ?_
          exact kv_ireturn X hr (by decide) (by decide) ⟨M, ⟨rfl, by rw [hv, mnt, if_pos ⟨hc19, hc34⟩]⟩, rfl⟩ dX11_meantResource_48
  exact kv_lv [0, 1, 2] rfl (L2 nV 0 (by omega) () rfl)

set_option maxRecDepth 100000 in
set_option maxHeartbeats 4000000 in
theorem c_X11_told22 (l : Launch) (dd : kDD) (ad : Nat → Nat) (M : mS) (fr : Nat) (hf : fr ≤ 36) : kCi l yX11_told wsX11_told ({ frames := 0, cells := 0, slots := 0, locals := 0 } : Room) 0 0 dd [.ref (ad 22), .int (nI fr)] (mK, ad, mE dd ad M) (kQi (S := mS) (fun r z => M = z ∧ r = tld (M.2.1 22) fr 12) (fun _ => mK) (fun _ => ad) (fun z => mE dd ad z)) := by
  refine kMeti (ws' := _) (cc := cX11_told) (maxL := 4) (rt := .int) (by decide) rfl (Nat.le_of_ble_eq_true rfl) (fun g X hr hnL hRR hl0 hkn => ?_)
  show kv dd g 0 0 0 [(0, .ref (ad 22)), (1, .int (nI fr))] [] mK ad (mE dd ad M)
  refine kv_iconst (v := 0) X dX11_told_0 (by decide) ?_
  refine kv_istore_n (lv2 := [(2, .int 0), (0, .ref (ad 22)), (1, .int (nI fr))]) X dX11_told_1 rfl (by rw [hnL]; decide) rfl ?_
  refine kv_iconst (v := 0) X dX11_told_2 (by decide) ?_
  refine kv_istore_n (lv2 := [(3, .int 0), (2, .int 0), (0, .ref (ad 22)), (1, .int (nI fr))]) X dX11_told_3 rfl (by rw [hnL]; decide) rfl ?_
  have L4 : ∀ (n i : Nat), i + n = 12 → ∀ (_ : Unit) , kv dd g 0 0 4 [(3, .int (nI i)), (2, .int (tld (M.2.1 22) fr (i))), (0, .ref (ad 22)), (1, .int (nI fr))] [] mK ad (mE dd ad M) := by
    intro n
    induction n with
    | zero =>
      intro i hin4 _ 
      refine kv_iload_n X 0 dX11_told_4 rfl rfl ?_
      refine kv_bipush (v := 12) X dX11_told_5 (by decide) ?_
      refine kn_icmp_ge (x := i) (y := 12) (tgt := 33) X (by omega) (by omega) dX11_told_7 (by decide) (fun hc7 => ?_) (fun hc7 => absurd hc7 (by omega))
      refine kv_iload_n X 1 dX11_told_33 rfl rfl ?_
      exact kv_ireturn X hr (by decide) (by decide) ⟨M, ⟨rfl, by rw [show i = 12 by omega]⟩, rfl⟩ dX11_told_34
    | succ n ih4 =>
      intro i hin4 _ 
      refine kv_iload_n X 0 dX11_told_4 rfl rfl ?_
      refine kv_bipush (v := 12) X dX11_told_5 (by decide) ?_
      refine kn_icmp_ge (x := i) (y := 12) (tgt := 33) X (by omega) (by omega) dX11_told_7 (by decide) (fun hc7 => absurd hc7 (by omega)) (fun hc7 => ?_)
      refine kv_iload_n X 1 dX11_told_10 rfl rfl ?_
      refine kv_aload_n X 2 dX11_told_11 rfl rfl ?_
      refine kv_iload_n X 3 dX11_told_12 rfl rfl ?_
      refine kv_iload_n X 0 dX11_told_13 rfl rfl ?_
      refine kv_iadd X dX11_told_14 ?_
      refine kv_topi (nI (fr + i)) (nI_add fr i) ?_
      refine km_iald X 22 (j := fr + i) (by decide) (by decide) rfl (by show _ < _; simp only [mLen]; omega) (by decide) dX11_told_15 ?_
      refine kv_topi ((M.2.1 22) (fr + i)) rfl ?_
      refine kv_iconst (v := (-1)) X dX11_told_16 (by decide) ?_
      refine kv_icmp_ne (tgt := 24) X dX11_told_17 (by decide) (fun hc17 => ?_) (fun hc17 => ?_)
      ·
        refine kv_iconst (v := 1) X dX11_told_24 (by decide) ?_
        refine kv_iadd X dX11_told_25 ?_
        refine kv_topi (tld (M.2.1 22) fr (i + 1)) (by first | (rw [tld, if_pos hc17]; done) | (rw [tld, if_neg hc17]; done)) ?_
        refine kv_istore_n (lv2 := [(2, .int (tld (M.2.1 22) fr (i + 1))), (3, .int (nI i)), (0, .ref (ad 22)), (1, .int (nI fr))]) X dX11_told_26 rfl (by rw [hnL]; decide) rfl ?_
        refine kv_iinc (j := 1) (v := (nI (i + 1))) (lv2 := [(3, .int (nI (i + 1))), (2, .int (tld (M.2.1 22) fr (i + 1))), (0, .ref (ad 22)), (1, .int (nI fr))]) X dX11_told_27 rfl (nI_add i 1) (by rw [hnL]; decide) rfl ?_
        refine kv_goto (tgt := 4) X dX11_told_30 (by decide) ?_
        exact kv_lv [0, 1, 2, 3] rfl (ih4 (i + 1) (by omega) ())
      ·
        refine kv_iconst (v := 0) X dX11_told_20 (by decide) ?_
        refine kv_goto (tgt := 25) X dX11_told_21 (by decide) ?_
        refine kv_iadd X dX11_told_25 ?_
        refine kv_topi (tld (M.2.1 22) fr (i + 1)) (by first | (rw [tld, if_pos hc17]; done) | (rw [tld, if_neg hc17]; done)) ?_
        refine kv_istore_n (lv2 := [(2, .int (tld (M.2.1 22) fr (i + 1))), (3, .int (nI i)), (0, .ref (ad 22)), (1, .int (nI fr))]) X dX11_told_26 rfl (by rw [hnL]; decide) rfl ?_
        refine kv_iinc (j := 1) (v := (nI (i + 1))) (lv2 := [(3, .int (nI (i + 1))), (2, .int (tld (M.2.1 22) fr (i + 1))), (0, .ref (ad 22)), (1, .int (nI fr))]) X dX11_told_27 rfl (nI_add i 1) (by rw [hnL]; decide) rfl ?_
        refine kv_goto (tgt := 4) X dX11_told_30 (by decide) ?_
        exact kv_lv [0, 1, 2, 3] rfl (ih4 (i + 1) (by omega) ())
  exact kv_lv [0, 1, 2, 3] rfl (L4 12 0 (by omega) ())

set_option maxRecDepth 100000 in
set_option maxHeartbeats 4000000 in
theorem c_X11_told23 (l : Launch) (dd : kDD) (ad : Nat → Nat) (M : mS) (fr : Nat) (hf : fr ≤ 36) : kCi l yX11_told wsX11_told ({ frames := 0, cells := 0, slots := 0, locals := 0 } : Room) 0 0 dd [.ref (ad 23), .int (nI fr)] (mK, ad, mE dd ad M) (kQi (S := mS) (fun r z => M = z ∧ r = tld (M.2.1 23) fr 12) (fun _ => mK) (fun _ => ad) (fun z => mE dd ad z)) := by
  refine kMeti (ws' := _) (cc := cX11_told) (maxL := 4) (rt := .int) (by decide) rfl (Nat.le_of_ble_eq_true rfl) (fun g X hr hnL hRR hl0 hkn => ?_)
  show kv dd g 0 0 0 [(0, .ref (ad 23)), (1, .int (nI fr))] [] mK ad (mE dd ad M)
  refine kv_iconst (v := 0) X dX11_told_0 (by decide) ?_
  refine kv_istore_n (lv2 := [(2, .int 0), (0, .ref (ad 23)), (1, .int (nI fr))]) X dX11_told_1 rfl (by rw [hnL]; decide) rfl ?_
  refine kv_iconst (v := 0) X dX11_told_2 (by decide) ?_
  refine kv_istore_n (lv2 := [(3, .int 0), (2, .int 0), (0, .ref (ad 23)), (1, .int (nI fr))]) X dX11_told_3 rfl (by rw [hnL]; decide) rfl ?_
  have L4 : ∀ (n i : Nat), i + n = 12 → ∀ (_ : Unit) , kv dd g 0 0 4 [(3, .int (nI i)), (2, .int (tld (M.2.1 23) fr (i))), (0, .ref (ad 23)), (1, .int (nI fr))] [] mK ad (mE dd ad M) := by
    intro n
    induction n with
    | zero =>
      intro i hin4 _ 
      refine kv_iload_n X 0 dX11_told_4 rfl rfl ?_
      refine kv_bipush (v := 12) X dX11_told_5 (by decide) ?_
      refine kn_icmp_ge (x := i) (y := 12) (tgt := 33) X (by omega) (by omega) dX11_told_7 (by decide) (fun hc7 => ?_) (fun hc7 => absurd hc7 (by omega))
      refine kv_iload_n X 1 dX11_told_33 rfl rfl ?_
      exact kv_ireturn X hr (by decide) (by decide) ⟨M, ⟨rfl, by rw [show i = 12 by omega]⟩, rfl⟩ dX11_told_34
    | succ n ih4 =>
      intro i hin4 _ 
      refine kv_iload_n X 0 dX11_told_4 rfl rfl ?_
      refine kv_bipush (v := 12) X dX11_told_5 (by decide) ?_
      refine kn_icmp_ge (x := i) (y := 12) (tgt := 33) X (by omega) (by omega) dX11_told_7 (by decide) (fun hc7 => absurd hc7 (by omega)) (fun hc7 => ?_)
      refine kv_iload_n X 1 dX11_told_10 rfl rfl ?_
      refine kv_aload_n X 2 dX11_told_11 rfl rfl ?_
      refine kv_iload_n X 3 dX11_told_12 rfl rfl ?_
      refine kv_iload_n X 0 dX11_told_13 rfl rfl ?_
      refine kv_iadd X dX11_told_14 ?_
      refine kv_topi (nI (fr + i)) (nI_add fr i) ?_
      refine km_iald X 23 (j := fr + i) (by decide) (by decide) rfl (by show _ < _; simp only [mLen]; omega) (by decide) dX11_told_15 ?_
      refine kv_topi ((M.2.1 23) (fr + i)) rfl ?_
      refine kv_iconst (v := (-1)) X dX11_told_16 (by decide) ?_
      refine kv_icmp_ne (tgt := 24) X dX11_told_17 (by decide) (fun hc17 => ?_) (fun hc17 => ?_)
      ·
        refine kv_iconst (v := 1) X dX11_told_24 (by decide) ?_
        refine kv_iadd X dX11_told_25 ?_
        refine kv_topi (tld (M.2.1 23) fr (i + 1)) (by first | (rw [tld, if_pos hc17]; done) | (rw [tld, if_neg hc17]; done)) ?_
        refine kv_istore_n (lv2 := [(2, .int (tld (M.2.1 23) fr (i + 1))), (3, .int (nI i)), (0, .ref (ad 23)), (1, .int (nI fr))]) X dX11_told_26 rfl (by rw [hnL]; decide) rfl ?_
        refine kv_iinc (j := 1) (v := (nI (i + 1))) (lv2 := [(3, .int (nI (i + 1))), (2, .int (tld (M.2.1 23) fr (i + 1))), (0, .ref (ad 23)), (1, .int (nI fr))]) X dX11_told_27 rfl (nI_add i 1) (by rw [hnL]; decide) rfl ?_
        refine kv_goto (tgt := 4) X dX11_told_30 (by decide) ?_
        exact kv_lv [0, 1, 2, 3] rfl (ih4 (i + 1) (by omega) ())
      ·
        refine kv_iconst (v := 0) X dX11_told_20 (by decide) ?_
        refine kv_goto (tgt := 25) X dX11_told_21 (by decide) ?_
        refine kv_iadd X dX11_told_25 ?_
        refine kv_topi (tld (M.2.1 23) fr (i + 1)) (by first | (rw [tld, if_pos hc17]; done) | (rw [tld, if_neg hc17]; done)) ?_
        refine kv_istore_n (lv2 := [(2, .int (tld (M.2.1 23) fr (i + 1))), (3, .int (nI i)), (0, .ref (ad 23)), (1, .int (nI fr))]) X dX11_told_26 rfl (by rw [hnL]; decide) rfl ?_
        refine kv_iinc (j := 1) (v := (nI (i + 1))) (lv2 := [(3, .int (nI (i + 1))), (2, .int (tld (M.2.1 23) fr (i + 1))), (0, .ref (ad 23)), (1, .int (nI fr))]) X dX11_told_27 rfl (nI_add i 1) (by rw [hnL]; decide) rfl ?_
        refine kv_goto (tgt := 4) X dX11_told_30 (by decide) ?_
        exact kv_lv [0, 1, 2, 3] rfl (ih4 (i + 1) (by omega) ())
  exact kv_lv [0, 1, 2, 3] rfl (L4 12 0 (by omega) ())

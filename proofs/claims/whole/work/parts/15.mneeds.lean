/-! the reference: allowed, own, needs -/
/-- what a unit of resource j counts: its price (r = -1), or 1 if it is r -/
def mun (pr : Nat → Int32) (j : Nat) (r : Int32) : Int64 := if r = -1 then (pr j).toInt64 else if nI j = r then 1 else 0
/-- a crew's work: n members from place b on, behind s0 -/
def mcrew (mu : Int32) (nu : Nat → Int32) (f : Nat → Int64) (b : Nat) (s0 : Int64) : Nat → Int64
  | 0 => s0
  | n + 1 => mcrew mu nu f b s0 n + (mu * nu (b + n)).toInt64 * f (b + n)
/-- one component's own need, behind s0 -/
def mone (so mu nu : Nat → Int32) (nm mn : Nat → Nat) (fu fm : Nat → Int64) (k : Nat) (s0 : Int64) : Int64 :=
  if so k = 2 then mcrew (mu k) nu fm (3 * nm k) (if so k = 1 then s0 + (mu k).toInt64 * fu (nm k) else s0) (mn (nm k)) else if so k = 1 then s0 + (mu k).toInt64 * fu (nm k) else s0
/-- what n components from place b on need by their own -/
def mown (so mu nu : Nat → Int32) (nm mn : Nat → Nat) (fu fm : Nat → Int64) (b : Nat) : Nat → Int64
  | 0 => 0
  | n + 1 => mone so mu nu nm mn fu fm (b + n) (mown so mu nu nm mn fu fm b n)

theorem f_X11_isAllowed_97 : kF wsX11_isAllowed RX11 97 14 10 := ⟨_, RX11, TX11, 34, fun _ h => (List.mem_cons_of_mem _ (List.mem_append_left _ (List.mem_append_right _ h))), (List.mem_cons_of_mem _ (List.mem_append_left _ (List.mem_append_left _ (List.mem_of_getElem? (i := 0) rfl)))), rfl, by decide, rfl⟩
theorem f_X11_isAllowed_74 : kF wsX11_isAllowed RX11 74 14 30 := ⟨_, RX11, TX11, 34, fun _ h => (List.mem_cons_of_mem _ (List.mem_append_left _ (List.mem_append_right _ h))), (List.mem_cons_of_mem _ (List.mem_append_left _ (List.mem_append_left _ (List.mem_of_getElem? (i := 1) rfl)))), rfl, by decide, rfl⟩
set_option maxRecDepth 100000 in
set_option maxHeartbeats 4000000 in
theorem c_X11_isAllowed (l : Launch) (dd : kDD) (ad : Nat → Nat) (M : mS)  (nt : Nat) (hT : M.1 10 = nI nt ∧ nt ≤ 12) (nV : Nat) (hV : M.1 21 = nI nV ∧ nV ≤ 4) (cn : Nat → Nat) (hcn : ∀ i, i < 12 → M.2.1 12 i = nI (cn i) ∧ cn i ≤ 4) (nm : Nat → Nat) (hnm : ∀ k, k < 48 → M.2.1 14 k = nI (nm k) ∧ nm k < 12) (mi : Nat → Nat) (hmi : ∀ j, j < 12 → mnt (M.1 24) (M.2.1 22) j nV 0 = nI (mi j) ∧ mi j < 12) : kCi l yX11_isAllowed wsX11_isAllowed ({ frames := 2, cells := 0, slots := 0, locals := 46 } : Room) 0 0 dd [.ref (ad 0)] (mK, ad, mE dd ad M) (kQi (S := mS) (fun r z => ∃ X, (M.1, va_up M.2.1 30 (mD (M.2.1 13) cn (fun k => mi (nm k)) nt (M.2.1 30) 3), va_up M.2.2 33 X) = z ∧ ((r = 1 ∧ ∀ j, j < nt → mD (M.2.1 13) cn (fun k => mi (nm k)) nt (M.2.1 30) 3 j ≤ 3) ∨ (r = 0 ∧ ¬ ∀ j, j < nt → mD (M.2.1 13) cn (fun k => mi (nm k)) nt (M.2.1 30) 3 j ≤ 3))) (fun _ => mK) (fun _ => ad) (fun z => mE dd ad z)) := by
  refine kMeti (ws' := _) (cc := cX11_isAllowed) (maxL := 3) (rt := .boolean) (by decide) rfl (Nat.le_of_ble_eq_true rfl) (fun g X hr hnL hRR hl0 hkn => ?_)
  show kv dd g 0 0 0 [(0, .ref (ad 0))] [] mK ad (mE dd ad M)
  refine kv_iconst (v := 1) X dX11_isAllowed_0 (by decide) ?_
  refine kv_istore_n (lv2 := [(1, .int 1), (0, .ref (ad 0))]) X dX11_isAllowed_1 rfl (by rw [hnL]; decide) rfl ?_
  refine kv_aload_n X 1 dX11_isAllowed_2 rfl rfl ?_
  refine kv_callvV (ci := 14) (κ := 0) (r1 := (TX11, 34)) (As := []) [] X (c_X11_findDepths l dd ad M nt hT nV hV cn hcn nm hnm mi hmi) hl0 (kCV_of X 0 gX11_isAllowed_X11_findDepths rfl rfl rfl (by decide +kernel) hRR ⟨Nat.le_of_ble_eq_true rfl, Nat.le_of_ble_eq_true rfl⟩) (by decide) rfl rfl rfl rfl (Nat.le_of_ble_eq_true rfl) hRR ⟨Nat.le_of_ble_eq_true rfl, Nat.le_of_ble_eq_true rfl⟩ dX11_isAllowed_3 (fun z hp => ?_)
  obtain ⟨X3, rfl⟩ := hp
  refine kv_iconst (v := 0) X dX11_isAllowed_6 (by decide) ?_
  refine kv_istore_n (lv2 := [(2, .int 0), (1, .int 1), (0, .ref (ad 0))]) X dX11_isAllowed_7 rfl (by rw [hnL]; decide) rfl ?_
  have L8 : ∀ (n i : Nat), i + n = nt → ∀ (is : Int32) (his : (is = 1 ∧ ∀ j, j < i → mD (M.2.1 13) cn (fun k => mi (nm k)) nt (M.2.1 30) 3 j ≤ 3) ∨ (is = 0 ∧ ¬ ∀ j, j < nt → mD (M.2.1 13) cn (fun k => mi (nm k)) nt (M.2.1 30) 3 j ≤ 3)), kv dd g 0 0 8 [(2, .int (nI i)), (1, .int is), (0, .ref (ad 0))] [] mK ad (mE dd ad (M.1, (va_up M.2.1 30 (mD (M.2.1 13) cn (fun k => mi (nm k)) nt (M.2.1 30) 3)), (va_up M.2.2 33 X3))) := by
    intro n
    induction n with
    | zero =>
      intro i hin8 is his
      refine kv_iload_n X 0 dX11_isAllowed_8 rfl rfl ?_
      refine kv_aload_n X 2 dX11_isAllowed_9 rfl rfl ?_
      refine km_get X 10 (v := .int (M.1 10)) f_X11_isAllowed_97 rfl dX11_isAllowed_10 ?_
      refine kv_topi (nI nt) hT.1 ?_
      refine kn_icmp_ge (x := i) (y := nt) (tgt := 42) X (by omega) (by omega) dX11_isAllowed_13 (by decide) (fun hc13 => ?_) (fun hc13 => absurd hc13 (by omega))
      rcases his with ⟨rfl, his⟩ | ⟨rfl, his⟩
      ·
        refine kv_iload_n X 1 dX11_isAllowed_42 rfl rfl ?_
        exact kv_zreturn X hr rfl (by decide) (by decide) ⟨(M.1, (va_up M.2.1 30 (mD (M.2.1 13) cn (fun k => mi (nm k)) nt (M.2.1 30) 3)), (va_up M.2.2 33 X3)), ⟨X3, rfl, Or.inl ⟨rfl, fun j hj => his j (by omega)⟩⟩, rfl⟩ dX11_isAllowed_43
      ·
        refine kv_iload_n X 1 dX11_isAllowed_42 rfl rfl ?_
        exact kv_zreturn X hr rfl (by decide) (by decide) ⟨(M.1, (va_up M.2.1 30 (mD (M.2.1 13) cn (fun k => mi (nm k)) nt (M.2.1 30) 3)), (va_up M.2.2 33 X3)), ⟨X3, rfl, Or.inr ⟨rfl, his⟩⟩, rfl⟩ dX11_isAllowed_43
    | succ n ih8 =>
      intro i hin8 is his
      refine kv_iload_n X 0 dX11_isAllowed_8 rfl rfl ?_
      refine kv_aload_n X 2 dX11_isAllowed_9 rfl rfl ?_
      refine km_get X 10 (v := .int (M.1 10)) f_X11_isAllowed_97 rfl dX11_isAllowed_10 ?_
      refine kv_topi (nI nt) hT.1 ?_
      refine kn_icmp_ge (x := i) (y := nt) (tgt := 42) X (by omega) (by omega) dX11_isAllowed_13 (by decide) (fun hc13 => absurd hc13 (by omega)) (fun hc13 => ?_)
      rcases his with ⟨rfl, his⟩ | ⟨rfl, his⟩
      ·
        refine kv_iload_n X 1 dX11_isAllowed_16 rfl rfl ?_
        refine kv_if_eq (tgt := 42) X dX11_isAllowed_17 (by decide) (fun hc => absurd hc (by decide)) (fun hc17 => ?_)
        refine kv_aload_n X 2 dX11_isAllowed_20 rfl rfl ?_
        refine km_get X 30 (v := .ref (ad 30)) f_X11_isAllowed_74 rfl dX11_isAllowed_21 ?_
        refine kv_iload_n X 0 dX11_isAllowed_24 rfl rfl ?_
        refine km_iald X 30 (j := i) (by decide) (by decide) rfl (by show _ < _; simp only [mLen]; omega) (by decide) dX11_isAllowed_25 ?_
        refine kv_topi ((mD (M.2.1 13) cn (fun k => mi (nm k)) nt (M.2.1 30) 3) i) rfl ?_
        refine kv_iconst (v := 3) X dX11_isAllowed_26 (by decide) ?_
        refine kv_icmp_gt (tgt := 34) X dX11_isAllowed_27 (by decide) (fun hc27 => ?_) (fun hc27 => ?_)
        ·
          refine kv_iconst (v := 0) X dX11_isAllowed_34 (by decide) ?_
          refine kv_istore_n (lv2 := [(1, .int 0), (2, .int (nI i)), (0, .ref (ad 0))]) X dX11_isAllowed_35 rfl (by rw [hnL]; decide) rfl ?_
          refine kv_iinc (j := 1) (v := (nI (i + 1))) (lv2 := [(2, .int (nI (i + 1))), (1, .int 0), (0, .ref (ad 0))]) X dX11_isAllowed_36 rfl (nI_add i 1) (by rw [hnL]; decide) rfl ?_
          refine kv_goto (tgt := 8) X dX11_isAllowed_39 (by decide) ?_
          exact kv_lv [0, 1, 2] rfl (ih8 (i + 1) (by omega) 0 (Or.inr ⟨rfl, fun q => absurd (q i hc13) (Int32.not_le.mpr hc27)⟩))
        ·
          refine kv_iconst (v := 1) X dX11_isAllowed_30 (by decide) ?_
          refine kv_goto (tgt := 35) X dX11_isAllowed_31 (by decide) ?_
          refine kv_istore_n (lv2 := [(1, .int 1), (2, .int (nI i)), (0, .ref (ad 0))]) X dX11_isAllowed_35 rfl (by rw [hnL]; decide) rfl ?_
          refine kv_iinc (j := 1) (v := (nI (i + 1))) (lv2 := [(2, .int (nI (i + 1))), (1, .int 1), (0, .ref (ad 0))]) X dX11_isAllowed_36 rfl (nI_add i 1) (by rw [hnL]; decide) rfl ?_
          refine kv_goto (tgt := 8) X dX11_isAllowed_39 (by decide) ?_
          exact kv_lv [0, 1, 2] rfl (ih8 (i + 1) (by omega) 1 (Or.inl ⟨rfl, fun j hj => by rcases Nat.lt_succ_iff_lt_or_eq.mp hj with q | q; exact his j q; subst q; exact Int32.not_lt.mp hc27⟩))
      ·
        refine kv_iload_n X 1 dX11_isAllowed_16 rfl rfl ?_
        refine kv_if_eq (tgt := 42) X dX11_isAllowed_17 (by decide) (fun hc17 => ?_) (fun hc => absurd hc (by decide))
        refine kv_iload_n X 1 dX11_isAllowed_42 rfl rfl ?_
        exact kv_zreturn X hr rfl (by decide) (by decide) ⟨(M.1, (va_up M.2.1 30 (mD (M.2.1 13) cn (fun k => mi (nm k)) nt (M.2.1 30) 3)), (va_up M.2.2 33 X3)), ⟨X3, rfl, Or.inr ⟨rfl, his⟩⟩, rfl⟩ dX11_isAllowed_43
  exact kv_lv [0, 1, 2] rfl (L8 nt 0 (by omega) 1 (Or.inl ⟨rfl, fun j hj => absurd hj (by omega)⟩))
theorem fp_X11_depthOf_86 : kFp wsX11_depthOf RX11 86 14 0 .int false := ⟨_, RX11, TX11, 34, tyX11, fun _ h => (List.mem_cons_of_mem _ (List.mem_append_left _ (List.mem_append_right _ h))), tyX11_ok, nmX11, (List.mem_cons_of_mem _ (List.mem_append_left _ (List.mem_append_left _ (List.mem_append_left _ (List.mem_of_getElem? (i := 0) rfl))))), rfl, by decide, rfl, rfl, by decide +kernel, rfl⟩
theorem f_X11_depthOf_74 : kF wsX11_depthOf RX11 74 14 30 := ⟨_, RX11, TX11, 34, fun _ h => (List.mem_cons_of_mem _ (List.mem_append_left _ (List.mem_append_right _ h))), (List.mem_cons_of_mem _ (List.mem_append_left _ (List.mem_append_left _ (List.mem_append_left _ (List.mem_of_getElem? (i := 1) rfl))))), rfl, by decide, rfl⟩
set_option maxRecDepth 100000 in
set_option maxHeartbeats 4000000 in
theorem c_X11_depthOf (l : Launch) (dd : kDD) (ad : Nat → Nat) (M : mS) (v : Int32) (nt : Nat) (hT : M.1 10 = nI nt ∧ nt ≤ 12) (nV : Nat) (hV : M.1 21 = nI nV ∧ nV ≤ 4) (cn : Nat → Nat) (hcn : ∀ i, i < 12 → M.2.1 12 i = nI (cn i) ∧ cn i ≤ 4) (nm : Nat → Nat) (hnm : ∀ k, k < 48 → M.2.1 14 k = nI (nm k) ∧ nm k < 12) (mi : Nat → Nat) (hmi : ∀ j, j < 12 → mnt (M.1 24) (M.2.1 22) j nV 0 = nI (mi j) ∧ mi j < 12) : kCi l yX11_depthOf wsX11_depthOf ({ frames := 2, cells := 0, slots := 0, locals := 46 } : Room) 0 0 dd [.ref (ad 0), .int v] (mK, ad, mE dd ad M) (kQi (S := mS) (fun r z => ∃ X, ((¬ (∃ j, j < nt ∧ v = nI j) ∧ (va_up (va_up M.1 0 0) 0 1, va_up M.2.1 30 (mD (M.2.1 13) cn (fun k => mi (nm k)) nt (M.2.1 30) 3), va_up M.2.2 33 X) = z ∧ r = 0) ∨ ∃ j, (j < nt ∧ v = nI j) ∧ (va_up M.1 0 0, va_up M.2.1 30 (mD (M.2.1 13) cn (fun k => mi (nm k)) nt (M.2.1 30) 3), va_up M.2.2 33 X) = z ∧ r = mD (M.2.1 13) cn (fun k => mi (nm k)) nt (M.2.1 30) 3 j)) (fun _ => mK) (fun _ => ad) (fun z => mE dd ad z)) := by
  refine kMeti (ws' := _) (cc := cX11_depthOf) (maxL := 2) (rt := .int) (by decide) rfl (Nat.le_of_ble_eq_true rfl) (fun g X hr hnL hRR hl0 hkn => ?_)
  show kv dd g 0 0 0 [(0, .ref (ad 0)), (1, .int v)] [] mK ad (mE dd ad M)
  refine kv_aload_n X 0 dX11_depthOf_0 rfl rfl ?_
  refine kv_iconst (v := 0) X dX11_depthOf_1 (by decide) ?_
  refine km_put X 0 (x := 0) fp_X11_depthOf_86 (by decide) dX11_depthOf_2 ?_
  refine kv_aload_n X 0 dX11_depthOf_5 rfl rfl ?_
  refine kv_callvV (ci := 14) (κ := 0) (r1 := (TX11, 34)) (As := []) [] X (c_X11_findDepths l dd ad ((va_up M.1 0 0), M.2.1, M.2.2) nt hT nV hV cn hcn nm hnm mi hmi) hl0 (kCV_of X 0 gX11_depthOf_X11_findDepths rfl rfl rfl (by decide +kernel) hRR ⟨Nat.le_of_ble_eq_true rfl, Nat.le_of_ble_eq_true rfl⟩) (by decide) rfl rfl rfl rfl (Nat.le_of_ble_eq_true rfl) hRR ⟨Nat.le_of_ble_eq_true rfl, Nat.le_of_ble_eq_true rfl⟩ dX11_depthOf_6 (fun z hp => ?_)
  obtain ⟨X6, rfl⟩ := hp
  refine kv_aload_n X 0 dX11_depthOf_9 rfl rfl ?_
  refine kv_aload_n X 0 dX11_depthOf_10 rfl rfl ?_
  refine kv_iload_n X 1 dX11_depthOf_11 rfl rfl ?_
  refine kv_calliV (ci := 14) (κ := 0) (r1 := (TX11, 34)) (As := [.int v]) [.ref (ad 0)] X (c_X11_noItem l dd ad ((va_up M.1 0 0), (va_up M.2.1 30 (mD (M.2.1 13) cn (fun k => mi (nm k)) nt (M.2.1 30) 3)), (va_up M.2.2 33 X6)) v nt hT.2 hT.1) hl0 (kCV_of X 1 gX11_depthOf_X11_noItem rfl rfl rfl (by decide +kernel) hRR ⟨Nat.le_of_ble_eq_true rfl, Nat.le_of_ble_eq_true rfl⟩) (by decide) rfl rfl rfl rfl (Nat.le_of_ble_eq_true rfl) hRR ⟨Nat.le_of_ble_eq_true rfl, Nat.le_of_ble_eq_true rfl⟩ dX11_depthOf_12 (fun r z hp => ?_)
  obtain ⟨rfl, ⟨rfl, h12⟩ | ⟨rfl, j12, h12, rfl⟩⟩ := hp
  ·
    refine kv_iconst (v := 1) X dX11_depthOf_15 (by decide) ?_
    refine kv_calliV (ci := 14) (κ := 0) (r1 := (TX11, 34)) (As := [.int 1, .int 1]) [] X (c_X11_fails1 l dd ad ((va_up M.1 0 0), (va_up M.2.1 30 (mD (M.2.1 13) cn (fun k => mi (nm k)) nt (M.2.1 30) 3)), (va_up M.2.2 33 X6)) 1 (by decide) rfl) hl0 (kCV_of X 2 gX11_depthOf_X11_fails rfl rfl rfl (by decide +kernel) hRR ⟨Nat.le_of_ble_eq_true rfl, Nat.le_of_ble_eq_true rfl⟩) (by decide) rfl rfl rfl rfl (Nat.le_of_ble_eq_true rfl) hRR ⟨Nat.le_of_ble_eq_true rfl, Nat.le_of_ble_eq_true rfl⟩ dX11_depthOf_16 (fun r z hp => ?_)
    obtain ⟨rfl, rfl⟩ := hp
    refine kv_if_eq (tgt := 26) X dX11_depthOf_19 (by decide) (fun hc => absurd hc (by decide)) (fun hc19 => ?_)
    refine kv_iconst (v := 0) X dX11_depthOf_22 (by decide) ?_
    refine kv_goto (tgt := 32) X dX11_depthOf_23 (by decide) ?_
    exact kv_ireturn X hr (by decide) (by decide) ⟨((va_up (va_up M.1 0 0) 0 1), (va_up M.2.1 30 (mD (M.2.1 13) cn (fun k => mi (nm k)) nt (M.2.1 30) 3)), (va_up M.2.2 33 X6)), ⟨X6, Or.inl ⟨h12, rfl, rfl⟩⟩, rfl⟩ dX11_depthOf_32
  ·
    refine kv_iconst (v := 1) X dX11_depthOf_15 (by decide) ?_
    refine kv_calliV (ci := 14) (κ := 0) (r1 := (TX11, 34)) (As := [.int 0, .int 1]) [] X (c_X11_fails0 l dd ad ((va_up M.1 0 0), (va_up M.2.1 30 (mD (M.2.1 13) cn (fun k => mi (nm k)) nt (M.2.1 30) 3)), (va_up M.2.2 33 X6)) 1 rfl) hl0 (kCV_of X 2 gX11_depthOf_X11_fails rfl rfl rfl (by decide +kernel) hRR ⟨Nat.le_of_ble_eq_true rfl, Nat.le_of_ble_eq_true rfl⟩) (by decide) rfl rfl rfl rfl (Nat.le_of_ble_eq_true rfl) hRR ⟨Nat.le_of_ble_eq_true rfl, Nat.le_of_ble_eq_true rfl⟩ dX11_depthOf_16 (fun r z hp => ?_)
    obtain ⟨rfl, rfl⟩ := hp
    refine kv_if_eq (tgt := 26) X dX11_depthOf_19 (by decide) (fun hc19 => ?_) (fun hc => absurd hc (by decide))
    refine kv_aload_n X 0 dX11_depthOf_26 rfl rfl ?_
    refine km_get X 30 (v := .ref (ad 30)) f_X11_depthOf_74 rfl dX11_depthOf_27 ?_
    refine kv_iload_n X 1 dX11_depthOf_30 rfl rfl ?_
    refine km_iald X 30 (j := j12) (by decide) (by decide) rfl (by show _ < _; simp only [mLen]; omega) (by decide) dX11_depthOf_31 ?_
    refine kv_topi ((mD (M.2.1 13) cn (fun k => mi (nm k)) nt (M.2.1 30) 3) j12) rfl ?_
    exact kv_ireturn X hr (by decide) (by decide) ⟨((va_up M.1 0 0), (va_up M.2.1 30 (mD (M.2.1 13) cn (fun k => mi (nm k)) nt (M.2.1 30) 3)), (va_up M.2.2 33 X6)), ⟨X6, Or.inr ⟨j12, ⟨h12, rfl⟩, rfl, rfl⟩⟩, rfl⟩ dX11_depthOf_32
theorem f_X11_unit_13 : kF wsX11_unit RX11 13 14 3 := ⟨_, RX11, TX11, 34, fun _ h => (List.mem_cons_of_mem _ (List.mem_append_left _ (List.mem_append_right _ h))), (List.mem_cons_of_mem _ (List.mem_append_left _ (List.mem_append_left _ (List.mem_of_getElem? (i := 0) rfl)))), rfl, by decide, rfl⟩
set_option maxRecDepth 100000 in
set_option maxHeartbeats 4000000 in
theorem c_X11_unit (l : Launch) (dd : kDD) (ad : Nat → Nat) (M : mS) (j : Nat) (r0 : Int32) (hj : j < 12) : kCl l yX11_unit wsX11_unit ({ frames := 0, cells := 0, slots := 0, locals := 0 } : Room) 0 0 dd [.ref (ad 0), .int (nI j), .int r0] (mK, ad, mE dd ad M) (kQl (S := mS) (fun r z => M = z ∧ r = mun (M.2.1 3) j r0) (fun _ => mK) (fun _ => ad) (fun z => mE dd ad z)) := by
  refine kMetl (ws' := _) (cc := cX11_unit) (maxL := 3) (rt := .long) (by decide) rfl (Nat.le_of_ble_eq_true rfl) (fun g X hr hnL hRR hl0 hkn => ?_)
  show kv dd g 0 0 0 [(0, .ref (ad 0)), (1, .int (nI j)), (2, .int r0)] [] mK ad (mE dd ad M)
  refine kv_iload_n X 2 dX11_unit_0 rfl rfl ?_
  refine kv_iconst (v := (-1)) X dX11_unit_1 (by decide) ?_
  refine kv_icmp_ne (tgt := 15) X dX11_unit_2 (by decide) (fun hc2 => ?_) (fun hc2 => ?_)
  ·
    refine kv_iload_n X 1 dX11_unit_15 rfl rfl ?_
    refine kv_iload_n X 2 dX11_unit_16 rfl rfl ?_
    refine kv_icmp_ne (tgt := 24) X dX11_unit_17 (by decide) (fun hc17 => ?_) (fun hc17 => ?_)
    ·
      refine kv_lconst (v := 0) X dX11_unit_24 (by decide) ?_
      exact kv_lreturn X hr (by decide) (by decide) ⟨M, ⟨rfl, by rw [mun, if_neg hc2, if_neg hc17]⟩, rfl⟩ dX11_unit_25
    ·
      refine kv_lconst (v := 1) X dX11_unit_20 (by decide) ?_
      refine kv_goto (tgt := 25) X dX11_unit_21 (by decide) ?_
      exact kv_lreturn X hr (by decide) (by decide) ⟨M, ⟨rfl, by rw [mun, if_neg hc2, if_pos hc17]⟩, rfl⟩ dX11_unit_25
  ·
    refine kv_aload_n X 0 dX11_unit_5 rfl rfl ?_
    refine km_get X 3 (v := .ref (ad 3)) f_X11_unit_13 rfl dX11_unit_6 ?_
    refine kv_iload_n X 1 dX11_unit_9 rfl rfl ?_
    refine km_iald X 3 (j := j) (by decide) (by decide) rfl (by show _ < _; simp only [mLen]; omega) (by decide) dX11_unit_10 ?_
    refine kv_topi ((M.2.1 3) j) rfl ?_
    refine kv_i2l X dX11_unit_11 rfl ?_
    refine kv_goto (tgt := 25) X dX11_unit_12 (by decide) ?_
    exact kv_lreturn X hr (by decide) (by decide) ⟨M, ⟨rfl, by rw [mun, if_pos hc2]⟩, rfl⟩ dX11_unit_25
theorem f_X11_own_34 : kF wsX11_own RX11 34 14 12 := ⟨_, RX11, TX11, 34, fun _ h => (List.mem_cons_of_mem _ (List.mem_append_left _ (List.mem_append_right _ h))), (List.mem_cons_of_mem _ (List.mem_append_left _ (List.mem_append_left _ (List.mem_of_getElem? (i := 0) rfl)))), rfl, by decide, rfl⟩
theorem f_X11_own_37 : kF wsX11_own RX11 37 14 13 := ⟨_, RX11, TX11, 34, fun _ h => (List.mem_cons_of_mem _ (List.mem_append_left _ (List.mem_append_right _ h))), (List.mem_cons_of_mem _ (List.mem_append_left _ (List.mem_append_left _ (List.mem_of_getElem? (i := 1) rfl)))), rfl, by decide, rfl⟩
theorem f_X11_own_40 : kF wsX11_own RX11 40 14 14 := ⟨_, RX11, TX11, 34, fun _ h => (List.mem_cons_of_mem _ (List.mem_append_left _ (List.mem_append_right _ h))), (List.mem_cons_of_mem _ (List.mem_append_left _ (List.mem_append_left _ (List.mem_of_getElem? (i := 3) rfl)))), rfl, by decide, rfl⟩
theorem f_X11_own_22 : kF wsX11_own RX11 22 14 7 := ⟨_, RX11, TX11, 34, fun _ h => (List.mem_cons_of_mem _ (List.mem_append_left _ (List.mem_append_right _ h))), (List.mem_cons_of_mem _ (List.mem_append_left _ (List.mem_append_left _ (List.mem_of_getElem? (i := 4) rfl)))), rfl, by decide, rfl⟩
theorem f_X11_own_43 : kF wsX11_own RX11 43 14 15 := ⟨_, RX11, TX11, 34, fun _ h => (List.mem_cons_of_mem _ (List.mem_append_left _ (List.mem_append_right _ h))), (List.mem_cons_of_mem _ (List.mem_append_left _ (List.mem_append_left _ (List.mem_of_getElem? (i := 2) rfl)))), rfl, by decide, rfl⟩
theorem f_X11_own_28 : kF wsX11_own RX11 28 14 9 := ⟨_, RX11, TX11, 34, fun _ h => (List.mem_cons_of_mem _ (List.mem_append_left _ (List.mem_append_right _ h))), (List.mem_cons_of_mem _ (List.mem_append_left _ (List.mem_append_left _ (List.mem_of_getElem? (i := 5) rfl)))), rfl, by decide, rfl⟩
theorem f_X11_own_25 : kF wsX11_own RX11 25 14 8 := ⟨_, RX11, TX11, 34, fun _ h => (List.mem_cons_of_mem _ (List.mem_append_left _ (List.mem_append_right _ h))), (List.mem_cons_of_mem _ (List.mem_append_left _ (List.mem_append_left _ (List.mem_of_getElem? (i := 6) rfl)))), rfl, by decide, rfl⟩
set_option maxRecDepth 100000 in
set_option maxHeartbeats 4000000 in
theorem c_X11_own (l : Launch) (dd : kDD) (ad : Nat → Nat) (M : mS) (j : Nat) (r0 : Int32) (hj : j < 12) (nV : Nat) (hV : M.1 21 = nI nV ∧ nV ≤ 4) (cn : Nat → Nat) (hcn : ∀ i, i < 12 → M.2.1 12 i = nI (cn i) ∧ cn i ≤ 4) (nm : Nat → Nat) (hnm : ∀ k, k < 48 → M.2.1 14 k = nI (nm k) ∧ nm k < 12) (mn : Nat → Nat) (hmn : ∀ i, i < 4 → M.2.1 7 i = nI (mn i) ∧ mn i ≤ 3) (mr : Nat → Nat) (hmr : ∀ j, j < 12 → mnt (M.1 24) (M.2.1 23) j nV 0 = nI (mr j) ∧ mr j < 12) (me : Nat → Nat) (hme : ∀ q, q < 12 → M.2.1 8 q = nI (me q) ∧ me q < 12) (hs2 : ∀ k, k < 48 → M.2.1 13 k = 2 → nm k < 4) : kCl l yX11_own wsX11_own ({ frames := 1, cells := 0, slots := 0, locals := 22 } : Room) 0 0 dd [.ref (ad 0), .int (nI j), .int r0] (mK, ad, mE dd ad M) (kQl (S := mS) (fun r z => M = z ∧ r = mown (M.2.1 13) (M.2.1 15) (M.2.1 9) nm mn (fun x => mun (M.2.1 3) (mr x) r0) (fun x => mun (M.2.1 3) (mr (me x)) r0) (4 * j) (cn j)) (fun _ => mK) (fun _ => ad) (fun z => mE dd ad z)) := by
  refine kMetl (ws' := _) (cc := cX11_own) (maxL := 7) (rt := .long) (by decide) rfl (Nat.le_of_ble_eq_true rfl) (fun g X hr hnL hRR hl0 hkn => ?_)
  show kv dd g 0 0 0 [(0, .ref (ad 0)), (1, .int (nI j)), (2, .int r0)] [] mK ad (mE dd ad M)
  refine kv_lconst (v := 0) X dX11_own_0 (by decide) ?_
  refine kv_lstore_n (lv2 := [(3, .long 0), (0, .ref (ad 0)), (1, .int (nI j)), (2, .int r0)]) X dX11_own_1 rfl (by rw [hnL]; decide) rfl ?_
  refine kv_iconst (v := 4) X dX11_own_2 (by decide) ?_
  refine kv_iload_n X 2 dX11_own_3 rfl rfl ?_
  refine kv_imul X dX11_own_4 ?_
  refine kv_topi (nI (4 * j)) (pk_mul 4 j) ?_
  refine kv_istore (lv2 := [(5, .int (nI (4 * j))), (3, .long 0), (0, .ref (ad 0)), (1, .int (nI j)), (2, .int r0)]) X dX11_own_5 (by rw [hnL]; decide) rfl ?_
  have L7 : ∀ (n i : Nat), i + n = cn j → ∀ (_ : Unit) , kv dd g 0 0 7 [(5, .int (nI (4 * j + (i)))), (3, .long (mown (M.2.1 13) (M.2.1 15) (M.2.1 9) nm mn (fun x => mun (M.2.1 3) (mr x) r0) (fun x => mun (M.2.1 3) (mr (me x)) r0) (4 * j) i)), (0, .ref (ad 0)), (1, .int (nI j)), (2, .int r0)] [] mK ad (mE dd ad M) := by
    intro n
    induction n with
    | zero =>
      intro i hin7 _ 
      refine kv_iload X 0 dX11_own_7 rfl ?_
      refine kv_iconst (v := 4) X dX11_own_9 (by decide) ?_
      refine kv_iload_n X 3 dX11_own_10 rfl rfl ?_
      refine kv_imul X dX11_own_11 ?_
      refine kv_topi (nI (4 * j)) (pk_mul 4 j) ?_
      refine kv_aload_n X 2 dX11_own_12 rfl rfl ?_
      refine km_get X 12 (v := .ref (ad 12)) f_X11_own_34 rfl dX11_own_13 ?_
      refine kv_iload_n X 3 dX11_own_16 rfl rfl ?_
      refine km_iald X 12 (j := j) (by decide) (by decide) rfl (by show _ < _; simp only [mLen]; omega) (by decide) dX11_own_17 ?_
      have e17 := (hcn j (by omega)).2
      refine kv_topi (nI (cn j)) (hcn j (by omega)).1 ?_
      refine kv_iadd X dX11_own_18 ?_
      refine kv_topi (nI ((4 * j) + (cn j))) (nI_add (4 * j) (cn j)) ?_
      refine kn_icmp_ge (x := 4 * j + (i)) (y := (4 * j) + (cn j)) (tgt := 158) X (by omega) (by omega) dX11_own_19 (by decide) (fun hc19 => ?_) (fun hc19 => absurd hc19 (by omega))
      refine kv_lload_n X 1 dX11_own_158 rfl rfl ?_
      exact kv_lreturn X hr (by decide) (by decide) ⟨M, ⟨rfl, by rw [show i = cn j by omega]⟩, rfl⟩ dX11_own_159
    | succ n ih7 =>
      intro i hin7 _ 
      refine kv_iload X 0 dX11_own_7 rfl ?_
      refine kv_iconst (v := 4) X dX11_own_9 (by decide) ?_
      refine kv_iload_n X 3 dX11_own_10 rfl rfl ?_
      refine kv_imul X dX11_own_11 ?_
      refine kv_topi (nI (4 * j)) (pk_mul 4 j) ?_
      refine kv_aload_n X 2 dX11_own_12 rfl rfl ?_
      refine km_get X 12 (v := .ref (ad 12)) f_X11_own_34 rfl dX11_own_13 ?_
      refine kv_iload_n X 3 dX11_own_16 rfl rfl ?_
      refine km_iald X 12 (j := j) (by decide) (by decide) rfl (by show _ < _; simp only [mLen]; omega) (by decide) dX11_own_17 ?_
      have e17 := (hcn j (by omega)).2
      refine kv_topi (nI (cn j)) (hcn j (by omega)).1 ?_
      refine kv_iadd X dX11_own_18 ?_
      refine kv_topi (nI ((4 * j) + (cn j))) (nI_add (4 * j) (cn j)) ?_
      refine kn_icmp_ge (x := 4 * j + (i)) (y := (4 * j) + (cn j)) (tgt := 158) X (by omega) (by omega) dX11_own_19 (by decide) (fun hc19 => absurd hc19 (by omega)) (fun hc19 => ?_)
      refine kv_aload_n X 2 dX11_own_22 rfl rfl ?_
      refine km_get X 13 (v := .ref (ad 13)) f_X11_own_37 rfl dX11_own_23 ?_
      refine kv_iload X 0 dX11_own_26 rfl ?_
      refine km_iald X 13 (j := 4 * j + (i)) (by decide) (by decide) rfl (by show _ < _; simp only [mLen]; have := (hcn j hj).2; omega) (by decide) dX11_own_28 ?_
      refine kv_topi ((M.2.1 13) (4 * j + (i))) rfl ?_
      refine kv_iconst (v := 1) X dX11_own_29 (by decide) ?_
      refine kv_icmp_ne (tgt := 61) X dX11_own_30 (by decide) (fun hc30 => ?_) (fun hc30 => ?_)
      ·
        refine kv_iconst (v := 3) X dX11_own_61 (by decide) ?_
        refine kv_aload_n X 2 dX11_own_62 rfl rfl ?_
        refine km_get X 14 (v := .ref (ad 14)) f_X11_own_40 rfl dX11_own_63 ?_
        refine kv_iload X 0 dX11_own_66 rfl ?_
        refine km_iald X 14 (j := 4 * j + (i)) (by decide) (by decide) rfl (by show _ < _; simp only [mLen]; have := (hcn j hj).2; omega) (by decide) dX11_own_68 ?_
        have e68 := (hnm (4 * j + (i)) (by have := (hcn j hj).2; omega)).2
        refine kv_topi (nI (nm (4 * j + (i)))) (hnm (4 * j + (i)) (by have := (hcn j hj).2; omega)).1 ?_
        refine kv_imul X dX11_own_69 ?_
        refine kv_topi (nI (3 * (nm (4 * j + (i))))) (pk_mul 3 (nm (4 * j + (i)))) ?_
        refine kv_istore (lv2 := [(6, .int (nI (3 * (nm (4 * j + (i)))))), (5, .int (nI (4 * j + (i)))), (3, .long (mown (M.2.1 13) (M.2.1 15) (M.2.1 9) nm mn (fun x => mun (M.2.1 3) (mr x) r0) (fun x => mun (M.2.1 3) (mr (me x)) r0) (4 * j) i)), (0, .ref (ad 0)), (1, .int (nI j)), (2, .int r0)]) X dX11_own_70 (by rw [hnL]; decide) rfl ?_
        by_cases hs0 : M.2.1 13 (4 * j + i) = 2
        ·
          have hn4 := hs2 (4 * j + i) (by have := (hcn j hj).2; omega) hs0
          refine kv_L [(6, .int (nI (3 * (nm (4 * j + (i)))))), (5, .int (nI (4 * j + (i)))), (3, .long (mcrew (M.2.1 15 (4 * j + i)) (M.2.1 9) (fun x => mun (M.2.1 3) (mr (me x)) r0) (3 * nm (4 * j + i)) (if M.2.1 13 (4 * j + i) = 1 then mown (M.2.1 13) (M.2.1 15) (M.2.1 9) nm mn (fun x => mun (M.2.1 3) (mr x) r0) (fun x => mun (M.2.1 3) (mr (me x)) r0) (4 * j) i + (M.2.1 15 (4 * j + i)).toInt64 * (fun x => mun (M.2.1 3) (mr x) r0) (nm (4 * j + i)) else mown (M.2.1 13) (M.2.1 15) (M.2.1 9) nm mn (fun x => mun (M.2.1 3) (mr x) r0) (fun x => mun (M.2.1 3) (mr (me x)) r0) (4 * j) i) (0))), (0, .ref (ad 0)), (1, .int (nI j)), (2, .int r0)] (by first | rw [show mcrew (M.2.1 15 (4 * j + i)) (M.2.1 9) (fun x => mun (M.2.1 3) (mr (me x)) r0) (3 * nm (4 * j + i)) (if M.2.1 13 (4 * j + i) = 1 then mown (M.2.1 13) (M.2.1 15) (M.2.1 9) nm mn (fun x => mun (M.2.1 3) (mr x) r0) (fun x => mun (M.2.1 3) (mr (me x)) r0) (4 * j) i + (M.2.1 15 (4 * j + i)).toInt64 * (fun x => mun (M.2.1 3) (mr x) r0) (nm (4 * j + i)) else mown (M.2.1 13) (M.2.1 15) (M.2.1 9) nm mn (fun x => mun (M.2.1 3) (mr x) r0) (fun x => mun (M.2.1 3) (mr (me x)) r0) (4 * j) i) (0) = (if M.2.1 13 (4 * j + i) = 1 then mown (M.2.1 13) (M.2.1 15) (M.2.1 9) nm mn (fun x => mun (M.2.1 3) (mr x) r0) (fun x => mun (M.2.1 3) (mr (me x)) r0) (4 * j) i + (M.2.1 15 (4 * j + i)).toInt64 * (fun x => mun (M.2.1 3) (mr x) r0) (nm (4 * j + i)) else mown (M.2.1 13) (M.2.1 15) (M.2.1 9) nm mn (fun x => mun (M.2.1 3) (mr x) r0) (fun x => mun (M.2.1 3) (mr (me x)) r0) (4 * j) i) from rfl, if_pos hc30] | rw [show mcrew (M.2.1 15 (4 * j + i)) (M.2.1 9) (fun x => mun (M.2.1 3) (mr (me x)) r0) (3 * nm (4 * j + i)) (if M.2.1 13 (4 * j + i) = 1 then mown (M.2.1 13) (M.2.1 15) (M.2.1 9) nm mn (fun x => mun (M.2.1 3) (mr x) r0) (fun x => mun (M.2.1 3) (mr (me x)) r0) (4 * j) i + (M.2.1 15 (4 * j + i)).toInt64 * (fun x => mun (M.2.1 3) (mr x) r0) (nm (4 * j + i)) else mown (M.2.1 13) (M.2.1 15) (M.2.1 9) nm mn (fun x => mun (M.2.1 3) (mr x) r0) (fun x => mun (M.2.1 3) (mr (me x)) r0) (4 * j) i) (0) = (if M.2.1 13 (4 * j + i) = 1 then mown (M.2.1 13) (M.2.1 15) (M.2.1 9) nm mn (fun x => mun (M.2.1 3) (mr x) r0) (fun x => mun (M.2.1 3) (mr (me x)) r0) (4 * j) i + (M.2.1 15 (4 * j + i)).toInt64 * (fun x => mun (M.2.1 3) (mr x) r0) (nm (4 * j + i)) else mown (M.2.1 13) (M.2.1 15) (M.2.1 9) nm mn (fun x => mun (M.2.1 3) (mr x) r0) (fun x => mun (M.2.1 3) (mr (me x)) r0) (4 * j) i) from rfl, if_neg hc30]) ?_
          have L72 : ∀ (n2 m : Nat), m + n2 = mn (nm (4 * j + i)) → ∀ (_ : Unit) (hso : M.2.1 13 (4 * j + i) = 2), kv dd g 0 0 72 [(6, .int (nI (3 * nm (4 * j + i) + (m)))), (3, .long (mcrew (M.2.1 15 (4 * j + i)) (M.2.1 9) (fun x => mun (M.2.1 3) (mr (me x)) r0) (3 * nm (4 * j + i)) (if M.2.1 13 (4 * j + i) = 1 then mown (M.2.1 13) (M.2.1 15) (M.2.1 9) nm mn (fun x => mun (M.2.1 3) (mr x) r0) (fun x => mun (M.2.1 3) (mr (me x)) r0) (4 * j) i + (M.2.1 15 (4 * j + i)).toInt64 * (fun x => mun (M.2.1 3) (mr x) r0) (nm (4 * j + i)) else mown (M.2.1 13) (M.2.1 15) (M.2.1 9) nm mn (fun x => mun (M.2.1 3) (mr x) r0) (fun x => mun (M.2.1 3) (mr (me x)) r0) (4 * j) i) (m))), (5, .int (nI (4 * j + i))), (0, .ref (ad 0)), (1, .int (nI j)), (2, .int r0)] [] mK ad (mE dd ad M) := by
            intro n2
            induction n2 with
            | zero =>
              intro m hin72 _ hso
              refine kv_aload_n X 3 dX11_own_72 rfl rfl ?_
              refine km_get X 13 (v := .ref (ad 13)) f_X11_own_37 rfl dX11_own_73 ?_
              refine kv_iload X 2 dX11_own_76 rfl ?_
              refine km_iald X 13 (j := 4 * j + i) (by decide) (by decide) rfl (by show _ < _; simp only [mLen]; have := (hcn j hj).2; omega) (by decide) dX11_own_78 ?_
              refine kv_topi ((M.2.1 13) (4 * j + i)) rfl ?_
              refine kv_iconst (v := 2) X dX11_own_79 (by decide) ?_
              refine kv_icmp_ne (tgt := 152) X dX11_own_80 (by decide) (fun hc80 => False.elim (hc80 hso)) (fun hc80 => ?_)
              refine kv_iload X 0 dX11_own_83 rfl ?_
              refine kv_iconst (v := 3) X dX11_own_85 (by decide) ?_
              refine kv_aload_n X 3 dX11_own_86 rfl rfl ?_
              refine km_get X 14 (v := .ref (ad 14)) f_X11_own_40 rfl dX11_own_87 ?_
              refine kv_iload X 2 dX11_own_90 rfl ?_
              refine km_iald X 14 (j := 4 * j + i) (by decide) (by decide) rfl (by show _ < _; simp only [mLen]; have := (hcn j hj).2; omega) (by decide) dX11_own_92 ?_
              have e92 := (hnm (4 * j + i) (by have := (hcn j hj).2; omega)).2
              refine kv_topi (nI (nm (4 * j + i))) (hnm (4 * j + i) (by have := (hcn j hj).2; omega)).1 ?_
              refine kv_imul X dX11_own_93 ?_
              refine kv_topi (nI (3 * (nm (4 * j + i)))) (pk_mul 3 (nm (4 * j + i))) ?_
              refine kv_aload_n X 3 dX11_own_94 rfl rfl ?_
              refine km_get X 7 (v := .ref (ad 7)) f_X11_own_22 rfl dX11_own_95 ?_
              refine kv_aload_n X 3 dX11_own_98 rfl rfl ?_
              refine km_get X 14 (v := .ref (ad 14)) f_X11_own_40 rfl dX11_own_99 ?_
              refine kv_iload X 2 dX11_own_102 rfl ?_
              refine km_iald X 14 (j := 4 * j + i) (by decide) (by decide) rfl (by show _ < _; simp only [mLen]; have := (hcn j hj).2; omega) (by decide) dX11_own_104 ?_
              have e104 := (hnm (4 * j + i) (by have := (hcn j hj).2; omega)).2
              refine kv_topi (nI (nm (4 * j + i))) (hnm (4 * j + i) (by have := (hcn j hj).2; omega)).1 ?_
              refine km_iald X 7 (j := nm (4 * j + i)) (by decide) (by decide) rfl (by show _ < _; simp only [mLen]; omega) (by decide) dX11_own_105 ?_
              have e105 := (hmn (nm (4 * j + i)) hn4).2
              refine kv_topi (nI (mn (nm (4 * j + i)))) (hmn (nm (4 * j + i)) hn4).1 ?_
              refine kv_iadd X dX11_own_106 ?_
              refine kv_topi (nI ((3 * (nm (4 * j + i))) + (mn (nm (4 * j + i))))) (nI_add (3 * (nm (4 * j + i))) (mn (nm (4 * j + i)))) ?_
              refine kn_icmp_ge (x := 3 * nm (4 * j + i) + (m)) (y := (3 * (nm (4 * j + i))) + (mn (nm (4 * j + i)))) (tgt := 152) X (by omega) (by omega) dX11_own_107 (by decide) (fun hc107 => ?_) (fun hc107 => absurd hc107 (by omega))
              refine kv_L [(6, .int (nI (3 * nm (4 * j + i) + (m)))), (3, .long (mown (M.2.1 13) (M.2.1 15) (M.2.1 9) nm mn (fun x => mun (M.2.1 3) (mr x) r0) (fun x => mun (M.2.1 3) (mr (me x)) r0) (4 * j) (i + 1))), (5, .int (nI (4 * j + i))), (0, .ref (ad 0)), (1, .int (nI j)), (2, .int r0)] (by rw [mown, mone, if_pos hso, show m = mn (nm (4 * j + i)) by omega]) ?_
              refine kv_iinc (j := 2) (v := (nI (4 * j + i + 1))) (lv2 := [(5, .int (nI (4 * j + i + 1))), (6, .int (nI (3 * nm (4 * j + i) + (m)))), (3, .long (mown (M.2.1 13) (M.2.1 15) (M.2.1 9) nm mn (fun x => mun (M.2.1 3) (mr x) r0) (fun x => mun (M.2.1 3) (mr (me x)) r0) (4 * j) (i + 1))), (0, .ref (ad 0)), (1, .int (nI j)), (2, .int r0)]) X dX11_own_152 rfl (nI_add (4 * j + i) 1) (by rw [hnL]; decide) rfl ?_
              refine kv_goto (tgt := 7) X dX11_own_155 (by decide) ?_
              exact kv_lv [0, 2, 3, 4, 5] rfl (ih7 (i + 1) (by omega) ())
            | succ n2 ih72 =>
              intro m hin72 _ hso
              refine kv_aload_n X 3 dX11_own_72 rfl rfl ?_
              refine km_get X 13 (v := .ref (ad 13)) f_X11_own_37 rfl dX11_own_73 ?_
              refine kv_iload X 2 dX11_own_76 rfl ?_
              refine km_iald X 13 (j := 4 * j + i) (by decide) (by decide) rfl (by show _ < _; simp only [mLen]; have := (hcn j hj).2; omega) (by decide) dX11_own_78 ?_
              refine kv_topi ((M.2.1 13) (4 * j + i)) rfl ?_
              refine kv_iconst (v := 2) X dX11_own_79 (by decide) ?_
              refine kv_icmp_ne (tgt := 152) X dX11_own_80 (by decide) (fun hc80 => False.elim (hc80 hso)) (fun hc80 => ?_)
              refine kv_iload X 0 dX11_own_83 rfl ?_
              refine kv_iconst (v := 3) X dX11_own_85 (by decide) ?_
              refine kv_aload_n X 3 dX11_own_86 rfl rfl ?_
              refine km_get X 14 (v := .ref (ad 14)) f_X11_own_40 rfl dX11_own_87 ?_
              refine kv_iload X 2 dX11_own_90 rfl ?_
              refine km_iald X 14 (j := 4 * j + i) (by decide) (by decide) rfl (by show _ < _; simp only [mLen]; have := (hcn j hj).2; omega) (by decide) dX11_own_92 ?_
              have e92 := (hnm (4 * j + i) (by have := (hcn j hj).2; omega)).2
              refine kv_topi (nI (nm (4 * j + i))) (hnm (4 * j + i) (by have := (hcn j hj).2; omega)).1 ?_
              refine kv_imul X dX11_own_93 ?_
              refine kv_topi (nI (3 * (nm (4 * j + i)))) (pk_mul 3 (nm (4 * j + i))) ?_
              refine kv_aload_n X 3 dX11_own_94 rfl rfl ?_
              refine km_get X 7 (v := .ref (ad 7)) f_X11_own_22 rfl dX11_own_95 ?_
              refine kv_aload_n X 3 dX11_own_98 rfl rfl ?_
              refine km_get X 14 (v := .ref (ad 14)) f_X11_own_40 rfl dX11_own_99 ?_
              refine kv_iload X 2 dX11_own_102 rfl ?_
              refine km_iald X 14 (j := 4 * j + i) (by decide) (by decide) rfl (by show _ < _; simp only [mLen]; have := (hcn j hj).2; omega) (by decide) dX11_own_104 ?_
              have e104 := (hnm (4 * j + i) (by have := (hcn j hj).2; omega)).2
              refine kv_topi (nI (nm (4 * j + i))) (hnm (4 * j + i) (by have := (hcn j hj).2; omega)).1 ?_
              refine km_iald X 7 (j := nm (4 * j + i)) (by decide) (by decide) rfl (by show _ < _; simp only [mLen]; omega) (by decide) dX11_own_105 ?_
              have e105 := (hmn (nm (4 * j + i)) hn4).2
              refine kv_topi (nI (mn (nm (4 * j + i)))) (hmn (nm (4 * j + i)) hn4).1 ?_
              refine kv_iadd X dX11_own_106 ?_
              refine kv_topi (nI ((3 * (nm (4 * j + i))) + (mn (nm (4 * j + i))))) (nI_add (3 * (nm (4 * j + i))) (mn (nm (4 * j + i)))) ?_
              refine kn_icmp_ge (x := 3 * nm (4 * j + i) + (m)) (y := (3 * (nm (4 * j + i))) + (mn (nm (4 * j + i)))) (tgt := 152) X (by omega) (by omega) dX11_own_107 (by decide) (fun hc107 => absurd hc107 (by omega)) (fun hc107 => ?_)
              refine kv_lload_n X 1 dX11_own_110 rfl rfl ?_
              refine kv_aload_n X 3 dX11_own_111 rfl rfl ?_
              refine km_get X 15 (v := .ref (ad 15)) f_X11_own_43 rfl dX11_own_112 ?_
              refine kv_iload X 2 dX11_own_115 rfl ?_
              refine km_iald X 15 (j := 4 * j + i) (by decide) (by decide) rfl (by show _ < _; simp only [mLen]; have := (hcn j hj).2; omega) (by decide) dX11_own_117 ?_
              refine kv_topi ((M.2.1 15) (4 * j + i)) rfl ?_
              refine kv_aload_n X 3 dX11_own_118 rfl rfl ?_
              refine km_get X 9 (v := .ref (ad 9)) f_X11_own_28 rfl dX11_own_119 ?_
              refine kv_iload X 0 dX11_own_122 rfl ?_
              refine km_iald X 9 (j := 3 * nm (4 * j + i) + (m)) (by decide) (by decide) rfl (by show _ < _; simp only [mLen]; have := (hmn (nm (4 * j + i)) hn4).2; omega) (by decide) dX11_own_124 ?_
              refine kv_topi ((M.2.1 9) (3 * nm (4 * j + i) + (m))) rfl ?_
              refine kv_imul X dX11_own_125 ?_
              refine kv_i2l X dX11_own_126 rfl ?_
              refine kv_aload_n X 3 dX11_own_127 rfl rfl ?_
              refine kv_aload_n X 3 dX11_own_128 rfl rfl ?_
              refine kv_aload_n X 3 dX11_own_129 rfl rfl ?_
              refine km_get X 8 (v := .ref (ad 8)) f_X11_own_25 rfl dX11_own_130 ?_
              refine kv_iload X 0 dX11_own_133 rfl ?_
              refine km_iald X 8 (j := 3 * nm (4 * j + i) + (m)) (by decide) (by decide) rfl (by show _ < _; simp only [mLen]; have := (hmn (nm (4 * j + i)) hn4).2; omega) (by decide) dX11_own_135 ?_
              have e135 := (hme (3 * nm (4 * j + i) + (m)) (by have := (hmn (nm (4 * j + i)) hn4).2; omega)).2
              refine kv_topi (nI (me (3 * nm (4 * j + i) + (m)))) (hme (3 * nm (4 * j + i) + (m)) (by have := (hmn (nm (4 * j + i)) hn4).2; omega)).1 ?_
              refine kv_calliV (ci := 14) (κ := 0) (r1 := (TX11, 34)) (As := [.int (nI (me (3 * nm (4 * j + i) + (m))))]) [.ref (ad 0), .long ((((M.2.1 15) (4 * j + i)) * ((M.2.1 9) (3 * nm (4 * j + i) + (m)))).toInt64), .long (mcrew (M.2.1 15 (4 * j + i)) (M.2.1 9) (fun x => mun (M.2.1 3) (mr (me x)) r0) (3 * nm (4 * j + i)) (if M.2.1 13 (4 * j + i) = 1 then mown (M.2.1 13) (M.2.1 15) (M.2.1 9) nm mn (fun x => mun (M.2.1 3) (mr x) r0) (fun x => mun (M.2.1 3) (mr (me x)) r0) (4 * j) i + (M.2.1 15 (4 * j + i)).toInt64 * (fun x => mun (M.2.1 3) (mr x) r0) (nm (4 * j + i)) else mown (M.2.1 13) (M.2.1 15) (M.2.1 9) nm mn (fun x => mun (M.2.1 3) (mr x) r0) (fun x => mun (M.2.1 3) (mr (me x)) r0) (4 * j) i) (m))] X (c_X11_meantResource l dd ad M (me (3 * nm (4 * j + i) + (m))) (hme (3 * nm (4 * j + i) + (m)) (by have := (hmn (nm (4 * j + i)) hn4).2; omega)).2 nV hV) hl0 (kCV_of X 1 gX11_own_X11_meantResource rfl rfl rfl (by decide +kernel) hRR ⟨Nat.le_of_ble_eq_true rfl, Nat.le_of_ble_eq_true rfl⟩) (by decide) rfl rfl rfl rfl (Nat.le_of_ble_eq_true rfl) hRR ⟨Nat.le_of_ble_eq_true rfl, Nat.le_of_ble_eq_true rfl⟩ dX11_own_136 (fun r z hp => ?_)
              obtain ⟨rfl, rfl⟩ := hp
              refine kv_topi (nI (mr (me (3 * nm (4 * j + i) + (m))))) (hmr (me (3 * nm (4 * j + i) + (m))) (hme (3 * nm (4 * j + i) + (m)) (by have := (hmn (nm (4 * j + i)) hn4).2; omega)).2).1 ?_
              refine kv_iload_n X 5 dX11_own_139 rfl rfl ?_
              refine kv_calllV (ci := 14) (κ := 0) (r1 := (TX11, 34)) (As := [.int (nI (mr (me (3 * nm (4 * j + i) + (m))))), .int r0]) [.long ((((M.2.1 15) (4 * j + i)) * ((M.2.1 9) (3 * nm (4 * j + i) + (m)))).toInt64), .long (mcrew (M.2.1 15 (4 * j + i)) (M.2.1 9) (fun x => mun (M.2.1 3) (mr (me x)) r0) (3 * nm (4 * j + i)) (if M.2.1 13 (4 * j + i) = 1 then mown (M.2.1 13) (M.2.1 15) (M.2.1 9) nm mn (fun x => mun (M.2.1 3) (mr x) r0) (fun x => mun (M.2.1 3) (mr (me x)) r0) (4 * j) i + (M.2.1 15 (4 * j + i)).toInt64 * (fun x => mun (M.2.1 3) (mr x) r0) (nm (4 * j + i)) else mown (M.2.1 13) (M.2.1 15) (M.2.1 9) nm mn (fun x => mun (M.2.1 3) (mr x) r0) (fun x => mun (M.2.1 3) (mr (me x)) r0) (4 * j) i) (m))] X (c_X11_unit l dd ad M (mr (me (3 * nm (4 * j + i) + (m)))) r0 ((hmr (me (3 * nm (4 * j + i) + (m))) (hme (3 * nm (4 * j + i) + (m)) (by have := (hmn (nm (4 * j + i)) hn4).2; omega)).2).2)) hl0 (kCV_of X 2 gX11_own_X11_unit rfl rfl rfl (by decide +kernel) hRR ⟨Nat.le_of_ble_eq_true rfl, Nat.le_of_ble_eq_true rfl⟩) (by decide) rfl rfl rfl rfl (Nat.le_of_ble_eq_true rfl) hRR ⟨Nat.le_of_ble_eq_true rfl, Nat.le_of_ble_eq_true rfl⟩ dX11_own_140 (fun r z hp => ?_)
              obtain ⟨rfl, rfl⟩ := hp
              refine kv_lmul X dX11_own_143 ?_
              refine kv_ladd X dX11_own_144 ?_
              refine kv_lstore_n (lv2 := [(3, .long ((mcrew (M.2.1 15 (4 * j + i)) (M.2.1 9) (fun x => mun (M.2.1 3) (mr (me x)) r0) (3 * nm (4 * j + i)) (if M.2.1 13 (4 * j + i) = 1 then mown (M.2.1 13) (M.2.1 15) (M.2.1 9) nm mn (fun x => mun (M.2.1 3) (mr x) r0) (fun x => mun (M.2.1 3) (mr (me x)) r0) (4 * j) i + (M.2.1 15 (4 * j + i)).toInt64 * (fun x => mun (M.2.1 3) (mr x) r0) (nm (4 * j + i)) else mown (M.2.1 13) (M.2.1 15) (M.2.1 9) nm mn (fun x => mun (M.2.1 3) (mr x) r0) (fun x => mun (M.2.1 3) (mr (me x)) r0) (4 * j) i) (m)) + (((((M.2.1 15) (4 * j + i)) * ((M.2.1 9) (3 * nm (4 * j + i) + (m)))).toInt64) * (mun (M.2.1 3) (mr (me (3 * nm (4 * j + i) + (m)))) r0)))), (6, .int (nI (3 * nm (4 * j + i) + (m)))), (5, .int (nI (4 * j + i))), (0, .ref (ad 0)), (1, .int (nI j)), (2, .int r0)]) X dX11_own_145 rfl (by rw [hnL]; decide) rfl ?_
              refine kv_iinc (j := 1) (v := (nI (3 * nm (4 * j + i) + (m) + 1))) (lv2 := [(6, .int (nI (3 * nm (4 * j + i) + (m) + 1))), (3, .long ((mcrew (M.2.1 15 (4 * j + i)) (M.2.1 9) (fun x => mun (M.2.1 3) (mr (me x)) r0) (3 * nm (4 * j + i)) (if M.2.1 13 (4 * j + i) = 1 then mown (M.2.1 13) (M.2.1 15) (M.2.1 9) nm mn (fun x => mun (M.2.1 3) (mr x) r0) (fun x => mun (M.2.1 3) (mr (me x)) r0) (4 * j) i + (M.2.1 15 (4 * j + i)).toInt64 * (fun x => mun (M.2.1 3) (mr x) r0) (nm (4 * j + i)) else mown (M.2.1 13) (M.2.1 15) (M.2.1 9) nm mn (fun x => mun (M.2.1 3) (mr x) r0) (fun x => mun (M.2.1 3) (mr (me x)) r0) (4 * j) i) (m)) + (((((M.2.1 15) (4 * j + i)) * ((M.2.1 9) (3 * nm (4 * j + i) + (m)))).toInt64) * (mun (M.2.1 3) (mr (me (3 * nm (4 * j + i) + (m)))) r0)))), (5, .int (nI (4 * j + i))), (0, .ref (ad 0)), (1, .int (nI j)), (2, .int r0)]) X dX11_own_146 rfl (nI_add (3 * nm (4 * j + i) + (m)) 1) (by rw [hnL]; decide) rfl ?_
              refine kv_goto (tgt := 72) X dX11_own_149 (by decide) ?_
              exact kv_lv [0, 1, 2, 3, 4, 5] rfl (ih72 (m + 1) (by omega) () hso)
          exact kv_lv [0, 2, 1, 3, 4, 5] rfl (L72 (mn (nm (4 * j + i))) 0 (by omega) () hs0)
        ·
          refine kv_L [(6, .int (nI (3 * (nm (4 * j + (i)))))), (5, .int (nI (4 * j + (i)))), (3, .long (mown (M.2.1 13) (M.2.1 15) (M.2.1 9) nm mn (fun x => mun (M.2.1 3) (mr x) r0) (fun x => mun (M.2.1 3) (mr (me x)) r0) (4 * j) (i + 1))), (0, .ref (ad 0)), (1, .int (nI j)), (2, .int r0)] (by first | rw [mown, mone, if_neg hs0, if_pos hc30] | rw [mown, mone, if_neg hs0, if_neg hc30]) ?_
          refine kv_aload_n X 3 dX11_own_72 rfl rfl ?_
          refine km_get X 13 (v := .ref (ad 13)) f_X11_own_37 rfl dX11_own_73 ?_
          refine kv_iload X 1 dX11_own_76 rfl ?_
          refine km_iald X 13 (j := 4 * j + (i)) (by decide) (by decide) rfl (by show _ < _; simp only [mLen]; have := (hcn j hj).2; omega) (by decide) dX11_own_78 ?_
          refine kv_topi ((M.2.1 13) (4 * j + (i))) rfl ?_
          refine kv_iconst (v := 2) X dX11_own_79 (by decide) ?_
          refine kv_icmp_ne (tgt := 152) X dX11_own_80 (by decide) (fun hc80 => ?_) (fun hc80 => False.elim (hs0 hc80))
          refine kv_iinc (j := 1) (v := (nI (4 * j + (i) + 1))) (lv2 := [(5, .int (nI (4 * j + (i) + 1))), (6, .int (nI (3 * (nm (4 * j + (i)))))), (3, .long (mown (M.2.1 13) (M.2.1 15) (M.2.1 9) nm mn (fun x => mun (M.2.1 3) (mr x) r0) (fun x => mun (M.2.1 3) (mr (me x)) r0) (4 * j) (i + 1))), (0, .ref (ad 0)), (1, .int (nI j)), (2, .int r0)]) X dX11_own_152 rfl (nI_add (4 * j + (i)) 1) (by rw [hnL]; decide) rfl ?_
          refine kv_goto (tgt := 7) X dX11_own_155 (by decide) ?_
          exact kv_lv [0, 2, 3, 4, 5] rfl (ih7 (i + 1) (by omega) ())
      ·
        refine kv_lload_n X 1 dX11_own_33 rfl rfl ?_
        refine kv_aload_n X 2 dX11_own_34 rfl rfl ?_
        refine km_get X 15 (v := .ref (ad 15)) f_X11_own_43 rfl dX11_own_35 ?_
        refine kv_iload X 0 dX11_own_38 rfl ?_
        refine km_iald X 15 (j := 4 * j + (i)) (by decide) (by decide) rfl (by show _ < _; simp only [mLen]; have := (hcn j hj).2; omega) (by decide) dX11_own_40 ?_
        refine kv_topi ((M.2.1 15) (4 * j + (i))) rfl ?_
        refine kv_i2l X dX11_own_41 rfl ?_
        refine kv_aload_n X 2 dX11_own_42 rfl rfl ?_
        refine kv_aload_n X 2 dX11_own_43 rfl rfl ?_
        refine kv_aload_n X 2 dX11_own_44 rfl rfl ?_
        refine km_get X 14 (v := .ref (ad 14)) f_X11_own_40 rfl dX11_own_45 ?_
        refine kv_iload X 0 dX11_own_48 rfl ?_
        refine km_iald X 14 (j := 4 * j + (i)) (by decide) (by decide) rfl (by show _ < _; simp only [mLen]; have := (hcn j hj).2; omega) (by decide) dX11_own_50 ?_
        have e50 := (hnm (4 * j + (i)) (by have := (hcn j hj).2; omega)).2
        refine kv_topi (nI (nm (4 * j + (i)))) (hnm (4 * j + (i)) (by have := (hcn j hj).2; omega)).1 ?_
        refine kv_calliV (ci := 14) (κ := 0) (r1 := (TX11, 34)) (As := [.int (nI (nm (4 * j + (i))))]) [.ref (ad 0), .long (((M.2.1 15) (4 * j + (i))).toInt64), .long (mown (M.2.1 13) (M.2.1 15) (M.2.1 9) nm mn (fun x => mun (M.2.1 3) (mr x) r0) (fun x => mun (M.2.1 3) (mr (me x)) r0) (4 * j) i)] X (c_X11_meantResource l dd ad M (nm (4 * j + (i))) ((hnm (4 * j + i) (by have := (hcn j hj).2; omega)).2) nV hV) hl0 (kCV_of X 1 gX11_own_X11_meantResource rfl rfl rfl (by decide +kernel) hRR ⟨Nat.le_of_ble_eq_true rfl, Nat.le_of_ble_eq_true rfl⟩) (by decide) rfl rfl rfl rfl (Nat.le_of_ble_eq_true rfl) hRR ⟨Nat.le_of_ble_eq_true rfl, Nat.le_of_ble_eq_true rfl⟩ dX11_own_51 (fun r z hp => ?_)
        obtain ⟨rfl, rfl⟩ := hp
        refine kv_topi (nI (mr (nm (4 * j + i)))) (hmr (nm (4 * j + i)) (hnm (4 * j + i) (by have := (hcn j hj).2; omega)).2).1 ?_
        refine kv_iload_n X 4 dX11_own_54 rfl rfl ?_
        refine kv_calllV (ci := 14) (κ := 0) (r1 := (TX11, 34)) (As := [.int (nI (mr (nm (4 * j + i)))), .int r0]) [.long (((M.2.1 15) (4 * j + (i))).toInt64), .long (mown (M.2.1 13) (M.2.1 15) (M.2.1 9) nm mn (fun x => mun (M.2.1 3) (mr x) r0) (fun x => mun (M.2.1 3) (mr (me x)) r0) (4 * j) i)] X (c_X11_unit l dd ad M (mr (nm (4 * j + i))) r0 ((hmr (nm (4 * j + i)) (hnm (4 * j + i) (by have := (hcn j hj).2; omega)).2).2)) hl0 (kCV_of X 2 gX11_own_X11_unit rfl rfl rfl (by decide +kernel) hRR ⟨Nat.le_of_ble_eq_true rfl, Nat.le_of_ble_eq_true rfl⟩) (by decide) rfl rfl rfl rfl (Nat.le_of_ble_eq_true rfl) hRR ⟨Nat.le_of_ble_eq_true rfl, Nat.le_of_ble_eq_true rfl⟩ dX11_own_55 (fun r z hp => ?_)
        obtain ⟨rfl, rfl⟩ := hp
        refine kv_lmul X dX11_own_58 ?_
        refine kv_ladd X dX11_own_59 ?_
        refine kv_lstore_n (lv2 := [(3, .long ((mown (M.2.1 13) (M.2.1 15) (M.2.1 9) nm mn (fun x => mun (M.2.1 3) (mr x) r0) (fun x => mun (M.2.1 3) (mr (me x)) r0) (4 * j) i) + ((((M.2.1 15) (4 * j + (i))).toInt64) * (mun (M.2.1 3) (mr (nm (4 * j + i))) r0)))), (5, .int (nI (4 * j + (i)))), (0, .ref (ad 0)), (1, .int (nI j)), (2, .int r0)]) X dX11_own_60 rfl (by rw [hnL]; decide) rfl ?_
        refine kv_iconst (v := 3) X dX11_own_61 (by decide) ?_
        refine kv_aload_n X 2 dX11_own_62 rfl rfl ?_
        refine km_get X 14 (v := .ref (ad 14)) f_X11_own_40 rfl dX11_own_63 ?_
        refine kv_iload X 1 dX11_own_66 rfl ?_
        refine km_iald X 14 (j := 4 * j + (i)) (by decide) (by decide) rfl (by show _ < _; simp only [mLen]; have := (hcn j hj).2; omega) (by decide) dX11_own_68 ?_
        have e68 := (hnm (4 * j + (i)) (by have := (hcn j hj).2; omega)).2
        refine kv_topi (nI (nm (4 * j + (i)))) (hnm (4 * j + (i)) (by have := (hcn j hj).2; omega)).1 ?_
        refine kv_imul X dX11_own_69 ?_
        refine kv_topi (nI (3 * (nm (4 * j + (i))))) (pk_mul 3 (nm (4 * j + (i)))) ?_
        refine kv_istore (lv2 := [(6, .int (nI (3 * (nm (4 * j + (i)))))), (3, .long ((mown (M.2.1 13) (M.2.1 15) (M.2.1 9) nm mn (fun x => mun (M.2.1 3) (mr x) r0) (fun x => mun (M.2.1 3) (mr (me x)) r0) (4 * j) i) + ((((M.2.1 15) (4 * j + (i))).toInt64) * (mun (M.2.1 3) (mr (nm (4 * j + i))) r0)))), (5, .int (nI (4 * j + (i)))), (0, .ref (ad 0)), (1, .int (nI j)), (2, .int r0)]) X dX11_own_70 (by rw [hnL]; decide) rfl ?_
        by_cases hs0 : M.2.1 13 (4 * j + i) = 2
        ·
          have hn4 := hs2 (4 * j + i) (by have := (hcn j hj).2; omega) hs0
          refine kv_L [(6, .int (nI (3 * (nm (4 * j + (i)))))), (3, .long (mcrew (M.2.1 15 (4 * j + i)) (M.2.1 9) (fun x => mun (M.2.1 3) (mr (me x)) r0) (3 * nm (4 * j + i)) (if M.2.1 13 (4 * j + i) = 1 then mown (M.2.1 13) (M.2.1 15) (M.2.1 9) nm mn (fun x => mun (M.2.1 3) (mr x) r0) (fun x => mun (M.2.1 3) (mr (me x)) r0) (4 * j) i + (M.2.1 15 (4 * j + i)).toInt64 * (fun x => mun (M.2.1 3) (mr x) r0) (nm (4 * j + i)) else mown (M.2.1 13) (M.2.1 15) (M.2.1 9) nm mn (fun x => mun (M.2.1 3) (mr x) r0) (fun x => mun (M.2.1 3) (mr (me x)) r0) (4 * j) i) (0))), (5, .int (nI (4 * j + (i)))), (0, .ref (ad 0)), (1, .int (nI j)), (2, .int r0)] (by first | rw [show mcrew (M.2.1 15 (4 * j + i)) (M.2.1 9) (fun x => mun (M.2.1 3) (mr (me x)) r0) (3 * nm (4 * j + i)) (if M.2.1 13 (4 * j + i) = 1 then mown (M.2.1 13) (M.2.1 15) (M.2.1 9) nm mn (fun x => mun (M.2.1 3) (mr x) r0) (fun x => mun (M.2.1 3) (mr (me x)) r0) (4 * j) i + (M.2.1 15 (4 * j + i)).toInt64 * (fun x => mun (M.2.1 3) (mr x) r0) (nm (4 * j + i)) else mown (M.2.1 13) (M.2.1 15) (M.2.1 9) nm mn (fun x => mun (M.2.1 3) (mr x) r0) (fun x => mun (M.2.1 3) (mr (me x)) r0) (4 * j) i) (0) = (if M.2.1 13 (4 * j + i) = 1 then mown (M.2.1 13) (M.2.1 15) (M.2.1 9) nm mn (fun x => mun (M.2.1 3) (mr x) r0) (fun x => mun (M.2.1 3) (mr (me x)) r0) (4 * j) i + (M.2.1 15 (4 * j + i)).toInt64 * (fun x => mun (M.2.1 3) (mr x) r0) (nm (4 * j + i)) else mown (M.2.1 13) (M.2.1 15) (M.2.1 9) nm mn (fun x => mun (M.2.1 3) (mr x) r0) (fun x => mun (M.2.1 3) (mr (me x)) r0) (4 * j) i) from rfl, if_pos hc30] | rw [show mcrew (M.2.1 15 (4 * j + i)) (M.2.1 9) (fun x => mun (M.2.1 3) (mr (me x)) r0) (3 * nm (4 * j + i)) (if M.2.1 13 (4 * j + i) = 1 then mown (M.2.1 13) (M.2.1 15) (M.2.1 9) nm mn (fun x => mun (M.2.1 3) (mr x) r0) (fun x => mun (M.2.1 3) (mr (me x)) r0) (4 * j) i + (M.2.1 15 (4 * j + i)).toInt64 * (fun x => mun (M.2.1 3) (mr x) r0) (nm (4 * j + i)) else mown (M.2.1 13) (M.2.1 15) (M.2.1 9) nm mn (fun x => mun (M.2.1 3) (mr x) r0) (fun x => mun (M.2.1 3) (mr (me x)) r0) (4 * j) i) (0) = (if M.2.1 13 (4 * j + i) = 1 then mown (M.2.1 13) (M.2.1 15) (M.2.1 9) nm mn (fun x => mun (M.2.1 3) (mr x) r0) (fun x => mun (M.2.1 3) (mr (me x)) r0) (4 * j) i + (M.2.1 15 (4 * j + i)).toInt64 * (fun x => mun (M.2.1 3) (mr x) r0) (nm (4 * j + i)) else mown (M.2.1 13) (M.2.1 15) (M.2.1 9) nm mn (fun x => mun (M.2.1 3) (mr x) r0) (fun x => mun (M.2.1 3) (mr (me x)) r0) (4 * j) i) from rfl, if_neg hc30]) ?_
          have L72 : ∀ (n2 m : Nat), m + n2 = mn (nm (4 * j + i)) → ∀ (_ : Unit) (hso : M.2.1 13 (4 * j + i) = 2), kv dd g 0 0 72 [(6, .int (nI (3 * nm (4 * j + i) + (m)))), (3, .long (mcrew (M.2.1 15 (4 * j + i)) (M.2.1 9) (fun x => mun (M.2.1 3) (mr (me x)) r0) (3 * nm (4 * j + i)) (if M.2.1 13 (4 * j + i) = 1 then mown (M.2.1 13) (M.2.1 15) (M.2.1 9) nm mn (fun x => mun (M.2.1 3) (mr x) r0) (fun x => mun (M.2.1 3) (mr (me x)) r0) (4 * j) i + (M.2.1 15 (4 * j + i)).toInt64 * (fun x => mun (M.2.1 3) (mr x) r0) (nm (4 * j + i)) else mown (M.2.1 13) (M.2.1 15) (M.2.1 9) nm mn (fun x => mun (M.2.1 3) (mr x) r0) (fun x => mun (M.2.1 3) (mr (me x)) r0) (4 * j) i) (m))), (5, .int (nI (4 * j + i))), (0, .ref (ad 0)), (1, .int (nI j)), (2, .int r0)] [] mK ad (mE dd ad M) := by
            intro n2
            induction n2 with
            | zero =>
              intro m hin72 _ hso
              refine kv_aload_n X 3 dX11_own_72 rfl rfl ?_
              refine km_get X 13 (v := .ref (ad 13)) f_X11_own_37 rfl dX11_own_73 ?_
              refine kv_iload X 2 dX11_own_76 rfl ?_
              refine km_iald X 13 (j := 4 * j + i) (by decide) (by decide) rfl (by show _ < _; simp only [mLen]; have := (hcn j hj).2; omega) (by decide) dX11_own_78 ?_
              refine kv_topi ((M.2.1 13) (4 * j + i)) rfl ?_
              refine kv_iconst (v := 2) X dX11_own_79 (by decide) ?_
              refine kv_icmp_ne (tgt := 152) X dX11_own_80 (by decide) (fun hc80 => False.elim (hc80 hso)) (fun hc80 => ?_)
              refine kv_iload X 0 dX11_own_83 rfl ?_
              refine kv_iconst (v := 3) X dX11_own_85 (by decide) ?_
              refine kv_aload_n X 3 dX11_own_86 rfl rfl ?_
              refine km_get X 14 (v := .ref (ad 14)) f_X11_own_40 rfl dX11_own_87 ?_
              refine kv_iload X 2 dX11_own_90 rfl ?_
              refine km_iald X 14 (j := 4 * j + i) (by decide) (by decide) rfl (by show _ < _; simp only [mLen]; have := (hcn j hj).2; omega) (by decide) dX11_own_92 ?_
              have e92 := (hnm (4 * j + i) (by have := (hcn j hj).2; omega)).2
              refine kv_topi (nI (nm (4 * j + i))) (hnm (4 * j + i) (by have := (hcn j hj).2; omega)).1 ?_
              refine kv_imul X dX11_own_93 ?_
              refine kv_topi (nI (3 * (nm (4 * j + i)))) (pk_mul 3 (nm (4 * j + i))) ?_
              refine kv_aload_n X 3 dX11_own_94 rfl rfl ?_
              refine km_get X 7 (v := .ref (ad 7)) f_X11_own_22 rfl dX11_own_95 ?_
              refine kv_aload_n X 3 dX11_own_98 rfl rfl ?_
              refine km_get X 14 (v := .ref (ad 14)) f_X11_own_40 rfl dX11_own_99 ?_
              refine kv_iload X 2 dX11_own_102 rfl ?_
              refine km_iald X 14 (j := 4 * j + i) (by decide) (by decide) rfl (by show _ < _; simp only [mLen]; have := (hcn j hj).2; omega) (by decide) dX11_own_104 ?_
              have e104 := (hnm (4 * j + i) (by have := (hcn j hj).2; omega)).2
              refine kv_topi (nI (nm (4 * j + i))) (hnm (4 * j + i) (by have := (hcn j hj).2; omega)).1 ?_
              refine km_iald X 7 (j := nm (4 * j + i)) (by decide) (by decide) rfl (by show _ < _; simp only [mLen]; omega) (by decide) dX11_own_105 ?_
              have e105 := (hmn (nm (4 * j + i)) hn4).2
              refine kv_topi (nI (mn (nm (4 * j + i)))) (hmn (nm (4 * j + i)) hn4).1 ?_
              refine kv_iadd X dX11_own_106 ?_
              refine kv_topi (nI ((3 * (nm (4 * j + i))) + (mn (nm (4 * j + i))))) (nI_add (3 * (nm (4 * j + i))) (mn (nm (4 * j + i)))) ?_
              refine kn_icmp_ge (x := 3 * nm (4 * j + i) + (m)) (y := (3 * (nm (4 * j + i))) + (mn (nm (4 * j + i)))) (tgt := 152) X (by omega) (by omega) dX11_own_107 (by decide) (fun hc107 => ?_) (fun hc107 => absurd hc107 (by omega))
              refine kv_L [(6, .int (nI (3 * nm (4 * j + i) + (m)))), (3, .long (mown (M.2.1 13) (M.2.1 15) (M.2.1 9) nm mn (fun x => mun (M.2.1 3) (mr x) r0) (fun x => mun (M.2.1 3) (mr (me x)) r0) (4 * j) (i + 1))), (5, .int (nI (4 * j + i))), (0, .ref (ad 0)), (1, .int (nI j)), (2, .int r0)] (by rw [mown, mone, if_pos hso, show m = mn (nm (4 * j + i)) by omega]) ?_
              refine kv_iinc (j := 2) (v := (nI (4 * j + i + 1))) (lv2 := [(5, .int (nI (4 * j + i + 1))), (6, .int (nI (3 * nm (4 * j + i) + (m)))), (3, .long (mown (M.2.1 13) (M.2.1 15) (M.2.1 9) nm mn (fun x => mun (M.2.1 3) (mr x) r0) (fun x => mun (M.2.1 3) (mr (me x)) r0) (4 * j) (i + 1))), (0, .ref (ad 0)), (1, .int (nI j)), (2, .int r0)]) X dX11_own_152 rfl (nI_add (4 * j + i) 1) (by rw [hnL]; decide) rfl ?_
              refine kv_goto (tgt := 7) X dX11_own_155 (by decide) ?_
              exact kv_lv [0, 2, 3, 4, 5] rfl (ih7 (i + 1) (by omega) ())
            | succ n2 ih72 =>
              intro m hin72 _ hso
              refine kv_aload_n X 3 dX11_own_72 rfl rfl ?_
              refine km_get X 13 (v := .ref (ad 13)) f_X11_own_37 rfl dX11_own_73 ?_
              refine kv_iload X 2 dX11_own_76 rfl ?_
              refine km_iald X 13 (j := 4 * j + i) (by decide) (by decide) rfl (by show _ < _; simp only [mLen]; have := (hcn j hj).2; omega) (by decide) dX11_own_78 ?_
              refine kv_topi ((M.2.1 13) (4 * j + i)) rfl ?_
              refine kv_iconst (v := 2) X dX11_own_79 (by decide) ?_
              refine kv_icmp_ne (tgt := 152) X dX11_own_80 (by decide) (fun hc80 => False.elim (hc80 hso)) (fun hc80 => ?_)
              refine kv_iload X 0 dX11_own_83 rfl ?_
              refine kv_iconst (v := 3) X dX11_own_85 (by decide) ?_
              refine kv_aload_n X 3 dX11_own_86 rfl rfl ?_
              refine km_get X 14 (v := .ref (ad 14)) f_X11_own_40 rfl dX11_own_87 ?_
              refine kv_iload X 2 dX11_own_90 rfl ?_
              refine km_iald X 14 (j := 4 * j + i) (by decide) (by decide) rfl (by show _ < _; simp only [mLen]; have := (hcn j hj).2; omega) (by decide) dX11_own_92 ?_
              have e92 := (hnm (4 * j + i) (by have := (hcn j hj).2; omega)).2
              refine kv_topi (nI (nm (4 * j + i))) (hnm (4 * j + i) (by have := (hcn j hj).2; omega)).1 ?_
              refine kv_imul X dX11_own_93 ?_
              refine kv_topi (nI (3 * (nm (4 * j + i)))) (pk_mul 3 (nm (4 * j + i))) ?_
              refine kv_aload_n X 3 dX11_own_94 rfl rfl ?_
              refine km_get X 7 (v := .ref (ad 7)) f_X11_own_22 rfl dX11_own_95 ?_
              refine kv_aload_n X 3 dX11_own_98 rfl rfl ?_
              refine km_get X 14 (v := .ref (ad 14)) f_X11_own_40 rfl dX11_own_99 ?_
              refine kv_iload X 2 dX11_own_102 rfl ?_
              refine km_iald X 14 (j := 4 * j + i) (by decide) (by decide) rfl (by show _ < _; simp only [mLen]; have := (hcn j hj).2; omega) (by decide) dX11_own_104 ?_
              have e104 := (hnm (4 * j + i) (by have := (hcn j hj).2; omega)).2
              refine kv_topi (nI (nm (4 * j + i))) (hnm (4 * j + i) (by have := (hcn j hj).2; omega)).1 ?_
              refine km_iald X 7 (j := nm (4 * j + i)) (by decide) (by decide) rfl (by show _ < _; simp only [mLen]; omega) (by decide) dX11_own_105 ?_
              have e105 := (hmn (nm (4 * j + i)) hn4).2
              refine kv_topi (nI (mn (nm (4 * j + i)))) (hmn (nm (4 * j + i)) hn4).1 ?_
              refine kv_iadd X dX11_own_106 ?_
              refine kv_topi (nI ((3 * (nm (4 * j + i))) + (mn (nm (4 * j + i))))) (nI_add (3 * (nm (4 * j + i))) (mn (nm (4 * j + i)))) ?_
              refine kn_icmp_ge (x := 3 * nm (4 * j + i) + (m)) (y := (3 * (nm (4 * j + i))) + (mn (nm (4 * j + i)))) (tgt := 152) X (by omega) (by omega) dX11_own_107 (by decide) (fun hc107 => absurd hc107 (by omega)) (fun hc107 => ?_)
              refine kv_lload_n X 1 dX11_own_110 rfl rfl ?_
              refine kv_aload_n X 3 dX11_own_111 rfl rfl ?_
              refine km_get X 15 (v := .ref (ad 15)) f_X11_own_43 rfl dX11_own_112 ?_
              refine kv_iload X 2 dX11_own_115 rfl ?_
              refine km_iald X 15 (j := 4 * j + i) (by decide) (by decide) rfl (by show _ < _; simp only [mLen]; have := (hcn j hj).2; omega) (by decide) dX11_own_117 ?_
              refine kv_topi ((M.2.1 15) (4 * j + i)) rfl ?_
              refine kv_aload_n X 3 dX11_own_118 rfl rfl ?_
              refine km_get X 9 (v := .ref (ad 9)) f_X11_own_28 rfl dX11_own_119 ?_
              refine kv_iload X 0 dX11_own_122 rfl ?_
              refine km_iald X 9 (j := 3 * nm (4 * j + i) + (m)) (by decide) (by decide) rfl (by show _ < _; simp only [mLen]; have := (hmn (nm (4 * j + i)) hn4).2; omega) (by decide) dX11_own_124 ?_
              refine kv_topi ((M.2.1 9) (3 * nm (4 * j + i) + (m))) rfl ?_
              refine kv_imul X dX11_own_125 ?_
              refine kv_i2l X dX11_own_126 rfl ?_
              refine kv_aload_n X 3 dX11_own_127 rfl rfl ?_
              refine kv_aload_n X 3 dX11_own_128 rfl rfl ?_
              refine kv_aload_n X 3 dX11_own_129 rfl rfl ?_
              refine km_get X 8 (v := .ref (ad 8)) f_X11_own_25 rfl dX11_own_130 ?_
              refine kv_iload X 0 dX11_own_133 rfl ?_
              refine km_iald X 8 (j := 3 * nm (4 * j + i) + (m)) (by decide) (by decide) rfl (by show _ < _; simp only [mLen]; have := (hmn (nm (4 * j + i)) hn4).2; omega) (by decide) dX11_own_135 ?_
              have e135 := (hme (3 * nm (4 * j + i) + (m)) (by have := (hmn (nm (4 * j + i)) hn4).2; omega)).2
              refine kv_topi (nI (me (3 * nm (4 * j + i) + (m)))) (hme (3 * nm (4 * j + i) + (m)) (by have := (hmn (nm (4 * j + i)) hn4).2; omega)).1 ?_
              refine kv_calliV (ci := 14) (κ := 0) (r1 := (TX11, 34)) (As := [.int (nI (me (3 * nm (4 * j + i) + (m))))]) [.ref (ad 0), .long ((((M.2.1 15) (4 * j + i)) * ((M.2.1 9) (3 * nm (4 * j + i) + (m)))).toInt64), .long (mcrew (M.2.1 15 (4 * j + i)) (M.2.1 9) (fun x => mun (M.2.1 3) (mr (me x)) r0) (3 * nm (4 * j + i)) (if M.2.1 13 (4 * j + i) = 1 then mown (M.2.1 13) (M.2.1 15) (M.2.1 9) nm mn (fun x => mun (M.2.1 3) (mr x) r0) (fun x => mun (M.2.1 3) (mr (me x)) r0) (4 * j) i + (M.2.1 15 (4 * j + i)).toInt64 * (fun x => mun (M.2.1 3) (mr x) r0) (nm (4 * j + i)) else mown (M.2.1 13) (M.2.1 15) (M.2.1 9) nm mn (fun x => mun (M.2.1 3) (mr x) r0) (fun x => mun (M.2.1 3) (mr (me x)) r0) (4 * j) i) (m))] X (c_X11_meantResource l dd ad M (me (3 * nm (4 * j + i) + (m))) (hme (3 * nm (4 * j + i) + (m)) (by have := (hmn (nm (4 * j + i)) hn4).2; omega)).2 nV hV) hl0 (kCV_of X 1 gX11_own_X11_meantResource rfl rfl rfl (by decide +kernel) hRR ⟨Nat.le_of_ble_eq_true rfl, Nat.le_of_ble_eq_true rfl⟩) (by decide) rfl rfl rfl rfl (Nat.le_of_ble_eq_true rfl) hRR ⟨Nat.le_of_ble_eq_true rfl, Nat.le_of_ble_eq_true rfl⟩ dX11_own_136 (fun r z hp => ?_)
              obtain ⟨rfl, rfl⟩ := hp
              refine kv_topi (nI (mr (me (3 * nm (4 * j + i) + (m))))) (hmr (me (3 * nm (4 * j + i) + (m))) (hme (3 * nm (4 * j + i) + (m)) (by have := (hmn (nm (4 * j + i)) hn4).2; omega)).2).1 ?_
              refine kv_iload_n X 5 dX11_own_139 rfl rfl ?_
              refine kv_calllV (ci := 14) (κ := 0) (r1 := (TX11, 34)) (As := [.int (nI (mr (me (3 * nm (4 * j + i) + (m))))), .int r0]) [.long ((((M.2.1 15) (4 * j + i)) * ((M.2.1 9) (3 * nm (4 * j + i) + (m)))).toInt64), .long (mcrew (M.2.1 15 (4 * j + i)) (M.2.1 9) (fun x => mun (M.2.1 3) (mr (me x)) r0) (3 * nm (4 * j + i)) (if M.2.1 13 (4 * j + i) = 1 then mown (M.2.1 13) (M.2.1 15) (M.2.1 9) nm mn (fun x => mun (M.2.1 3) (mr x) r0) (fun x => mun (M.2.1 3) (mr (me x)) r0) (4 * j) i + (M.2.1 15 (4 * j + i)).toInt64 * (fun x => mun (M.2.1 3) (mr x) r0) (nm (4 * j + i)) else mown (M.2.1 13) (M.2.1 15) (M.2.1 9) nm mn (fun x => mun (M.2.1 3) (mr x) r0) (fun x => mun (M.2.1 3) (mr (me x)) r0) (4 * j) i) (m))] X (c_X11_unit l dd ad M (mr (me (3 * nm (4 * j + i) + (m)))) r0 ((hmr (me (3 * nm (4 * j + i) + (m))) (hme (3 * nm (4 * j + i) + (m)) (by have := (hmn (nm (4 * j + i)) hn4).2; omega)).2).2)) hl0 (kCV_of X 2 gX11_own_X11_unit rfl rfl rfl (by decide +kernel) hRR ⟨Nat.le_of_ble_eq_true rfl, Nat.le_of_ble_eq_true rfl⟩) (by decide) rfl rfl rfl rfl (Nat.le_of_ble_eq_true rfl) hRR ⟨Nat.le_of_ble_eq_true rfl, Nat.le_of_ble_eq_true rfl⟩ dX11_own_140 (fun r z hp => ?_)
              obtain ⟨rfl, rfl⟩ := hp
              refine kv_lmul X dX11_own_143 ?_
              refine kv_ladd X dX11_own_144 ?_
              refine kv_lstore_n (lv2 := [(3, .long ((mcrew (M.2.1 15 (4 * j + i)) (M.2.1 9) (fun x => mun (M.2.1 3) (mr (me x)) r0) (3 * nm (4 * j + i)) (if M.2.1 13 (4 * j + i) = 1 then mown (M.2.1 13) (M.2.1 15) (M.2.1 9) nm mn (fun x => mun (M.2.1 3) (mr x) r0) (fun x => mun (M.2.1 3) (mr (me x)) r0) (4 * j) i + (M.2.1 15 (4 * j + i)).toInt64 * (fun x => mun (M.2.1 3) (mr x) r0) (nm (4 * j + i)) else mown (M.2.1 13) (M.2.1 15) (M.2.1 9) nm mn (fun x => mun (M.2.1 3) (mr x) r0) (fun x => mun (M.2.1 3) (mr (me x)) r0) (4 * j) i) (m)) + (((((M.2.1 15) (4 * j + i)) * ((M.2.1 9) (3 * nm (4 * j + i) + (m)))).toInt64) * (mun (M.2.1 3) (mr (me (3 * nm (4 * j + i) + (m)))) r0)))), (6, .int (nI (3 * nm (4 * j + i) + (m)))), (5, .int (nI (4 * j + i))), (0, .ref (ad 0)), (1, .int (nI j)), (2, .int r0)]) X dX11_own_145 rfl (by rw [hnL]; decide) rfl ?_
              refine kv_iinc (j := 1) (v := (nI (3 * nm (4 * j + i) + (m) + 1))) (lv2 := [(6, .int (nI (3 * nm (4 * j + i) + (m) + 1))), (3, .long ((mcrew (M.2.1 15 (4 * j + i)) (M.2.1 9) (fun x => mun (M.2.1 3) (mr (me x)) r0) (3 * nm (4 * j + i)) (if M.2.1 13 (4 * j + i) = 1 then mown (M.2.1 13) (M.2.1 15) (M.2.1 9) nm mn (fun x => mun (M.2.1 3) (mr x) r0) (fun x => mun (M.2.1 3) (mr (me x)) r0) (4 * j) i + (M.2.1 15 (4 * j + i)).toInt64 * (fun x => mun (M.2.1 3) (mr x) r0) (nm (4 * j + i)) else mown (M.2.1 13) (M.2.1 15) (M.2.1 9) nm mn (fun x => mun (M.2.1 3) (mr x) r0) (fun x => mun (M.2.1 3) (mr (me x)) r0) (4 * j) i) (m)) + (((((M.2.1 15) (4 * j + i)) * ((M.2.1 9) (3 * nm (4 * j + i) + (m)))).toInt64) * (mun (M.2.1 3) (mr (me (3 * nm (4 * j + i) + (m)))) r0)))), (5, .int (nI (4 * j + i))), (0, .ref (ad 0)), (1, .int (nI j)), (2, .int r0)]) X dX11_own_146 rfl (nI_add (3 * nm (4 * j + i) + (m)) 1) (by rw [hnL]; decide) rfl ?_
              refine kv_goto (tgt := 72) X dX11_own_149 (by decide) ?_
              exact kv_lv [0, 1, 2, 3, 4, 5] rfl (ih72 (m + 1) (by omega) () hso)
          exact kv_lv [0, 1, 2, 3, 4, 5] rfl (L72 (mn (nm (4 * j + i))) 0 (by omega) () hs0)
        ·
          refine kv_L [(6, .int (nI (3 * (nm (4 * j + (i)))))), (3, .long (mown (M.2.1 13) (M.2.1 15) (M.2.1 9) nm mn (fun x => mun (M.2.1 3) (mr x) r0) (fun x => mun (M.2.1 3) (mr (me x)) r0) (4 * j) (i + 1))), (5, .int (nI (4 * j + (i)))), (0, .ref (ad 0)), (1, .int (nI j)), (2, .int r0)] (by first | rw [mown, mone, if_neg hs0, if_pos hc30] | rw [mown, mone, if_neg hs0, if_neg hc30]) ?_
          refine kv_aload_n X 3 dX11_own_72 rfl rfl ?_
          refine km_get X 13 (v := .ref (ad 13)) f_X11_own_37 rfl dX11_own_73 ?_
          refine kv_iload X 2 dX11_own_76 rfl ?_
          refine km_iald X 13 (j := 4 * j + (i)) (by decide) (by decide) rfl (by show _ < _; simp only [mLen]; have := (hcn j hj).2; omega) (by decide) dX11_own_78 ?_
          refine kv_topi ((M.2.1 13) (4 * j + (i))) rfl ?_
          refine kv_iconst (v := 2) X dX11_own_79 (by decide) ?_
          refine kv_icmp_ne (tgt := 152) X dX11_own_80 (by decide) (fun hc80 => ?_) (fun hc80 => False.elim (hs0 hc80))
          refine kv_iinc (j := 2) (v := (nI (4 * j + (i) + 1))) (lv2 := [(5, .int (nI (4 * j + (i) + 1))), (6, .int (nI (3 * (nm (4 * j + (i)))))), (3, .long (mown (M.2.1 13) (M.2.1 15) (M.2.1 9) nm mn (fun x => mun (M.2.1 3) (mr x) r0) (fun x => mun (M.2.1 3) (mr (me x)) r0) (4 * j) (i + 1))), (0, .ref (ad 0)), (1, .int (nI j)), (2, .int r0)]) X dX11_own_152 rfl (nI_add (4 * j + (i)) 1) (by rw [hnL]; decide) rfl ?_
          refine kv_goto (tgt := 7) X dX11_own_155 (by decide) ?_
          exact kv_lv [0, 2, 3, 4, 5] rfl (ih7 (i + 1) (by omega) ())
  exact kv_lv [0, 1, 2, 3, 4] rfl (L7 (cn j) 0 (by omega) ())

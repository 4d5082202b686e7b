/-! the class: what depends on sets of variants; the amounts and the total, by what is meant -/
def cAm (M : mS) (nL nW : Nat) (cn nm mn me li mi mr : Nat → Nat) : Nat → Int64 := fun r => msumJ (fun l => (mq (M.2.1 19) (M.2.1 20) (nI l) nW).toInt64 * mN (M.2.1 13) (M.2.1 15) cn (fun k => mi (nm k)) (fun j => cow (M.2.1 13) (M.2.1 15) (M.2.1 9) nm mn mr me (4 * j) (fun _ => 0) (cn j) r) 2 (mi (li l))) 0 nL
def cTo (M : mS) (nR nM : Nat) (am : Nat → Int64) : Int64 := msumJ (mmk (M.2.1 27) (M.2.1 26) (fun b => mkd (M.2.1 2) am (M.2.1 3) (nI b) nR) (mex am (M.2.1 4) (M.2.1 5) (M.2.1 3) nR) nM) (cou am (M.2.1 3) nR + mex am (M.2.1 4) (M.2.1 5) (M.2.1 3) nR) nM
theorem cou_congr {f g : Nat → Int64} {pr : Nat → Int32} {n : Nat} (h : ∀ r, r < n → f r = g r) : cou f pr n = cou g pr n := msumJ_congr n (fun r hr => by rw [h r hr])
theorem mkd_congr {ki pr : Nat → Int32} {f g : Nat → Int64} {its : Int32} : ∀ n, (∀ r, r < n → f r = g r) → mkd ki f pr its n = mkd ki g pr its n := by
  intro n
  induction n with
  | zero => intro _; rfl
  | succ n ih => intro h; rw [mkd, mkd, ih (fun r hr => h r (by omega)), h n (by omega)]
theorem mex_congr {wa pa pr : Nat → Int32} {f g : Nat → Int64} : ∀ n, (∀ r, r < n → f r = g r) → mex f wa pa pr n = mex g wa pa pr n := by
  intro n
  induction n with
  | zero => intro _; rfl
  | succ n ih => intro h; rw [mex, mex, ih (fun r hr => h r (by omega)), h n (by omega)]
theorem cDn_am {M : mS} {nR nt nL nW nM : Nat} {cn nm mn me li mi mr dep : Nat → Nat} {z : eS} (h : cDn M nR nt nL nW nM cn nm mn me li mi mr dep z) : ∀ r, r < 12 → z.2 23 r = cAm M nL nW cn nm mn me li mi mr r := h.2.2.2.2.2.2.2.1
theorem cDn_tot {M : mS} {nR nt nL nW nM : Nat} {cn nm mn me li mi mr dep : Nat → Nat} {z : eS} (hR : nR ≤ 12) (h : cDn M nR nt nL nW nM cn nm mn me li mi mr dep z) : msumJ (z.2 24) (cou (z.2 23) (M.2.1 3) nR + mex (z.2 23) (M.2.1 4) (M.2.1 5) (M.2.1 3) nR) nM = cTo M nR nM (cAm M nL nW cn nm mn me li mi mr) := by
  have a : ∀ r, r < nR → z.2 23 r = cAm M nL nW cn nm mn me li mi mr r := fun r hr => cDn_am h r (by omega)
  unfold cTo
  rw [cou_congr a, mex_congr nR a]
  refine msumJ_congr nM (fun k hk => ?_)
  rw [h.2.2.2.2.2.2.2.2 k hk, mex_congr nR a, show (fun b => mkd (M.2.1 2) (z.2 23) (M.2.1 3) (nI b) nR) = (fun b => mkd (M.2.1 2) (cAm M nL nW cn nm mn me li mi mr) (M.2.1 3) (nI b) nR) from funext fun b => mkd_congr nR a]
theorem cO_on {dd : kDD} {ks : List Nat} {ad : Nat → Nat} {E : Nat → va_E} {on o2 : Int32} (h : cO dd ks ad E on) : cO dd ks ad (va_up E 0 (.inr (13, [.ref (ad 1), .ref (ad 2), .int o2]))) o2 := by
  obtain ⟨a1, a2, a3, a4, f1, f2, a5, a6, a7⟩ := h
  exact ⟨⟨a1.1, va_up_self _ _ _⟩, ⟨a2.1, (va_up_ne _ _ (by decide)).trans a2.2⟩, ⟨a3.1, (va_up_ne _ _ (by decide)).trans a3.2⟩, a4, f1, f2, (va_up_ne _ _ (by decide)).trans a5, (va_up_ne _ _ (by decide)).trans a6, a7⟩
theorem cAg_up {S : Nat → Prop} {ks : List Nat} {ad : Nat → Nat} {E : Nat → va_E} {κ : Nat} (h : ¬ S κ) (x : va_E) : cAg S ks ad E ks ad (va_up E κ x) := fun j hj => ⟨id, rfl, va_up_ne _ _ (fun q => h (q ▸ hj))⟩

theorem f_X10_isSound_25 : kF wsX10_isSound RX10 25 13 2 := ⟨_, RX10, TX10, 3, fun _ h => (List.mem_cons_of_mem _ (List.mem_append_left _ (List.mem_append_left _ (List.mem_append_left _ (List.mem_append_left _ (List.mem_append_left _ (List.mem_append_left _ (List.mem_append_left _ (List.mem_append_left _ (List.mem_append_left _ (List.mem_append_left _ (List.mem_append_left _ (List.mem_append_left _ (List.mem_append_right _ h)))))))))))))), (List.mem_cons_of_mem _ (List.mem_append_left _ (List.mem_append_left _ (List.mem_append_left _ (List.mem_append_left _ (List.mem_append_left _ (List.mem_append_left _ (List.mem_append_left _ (List.mem_append_left _ (List.mem_append_left _ (List.mem_append_left _ (List.mem_append_left _ (List.mem_append_left _ (List.mem_append_left _ (List.mem_append_left _ (List.mem_of_getElem? (i := 0) rfl)))))))))))))))), rfl, by decide, rfl⟩
theorem f_X10_isSound_21 : kF wsX10_isSound RX10 21 13 1 := ⟨_, RX10, TX10, 3, fun _ h => (List.mem_cons_of_mem _ (List.mem_append_left _ (List.mem_append_left _ (List.mem_append_left _ (List.mem_append_left _ (List.mem_append_left _ (List.mem_append_left _ (List.mem_append_left _ (List.mem_append_left _ (List.mem_append_left _ (List.mem_append_left _ (List.mem_append_left _ (List.mem_append_left _ (List.mem_append_right _ h)))))))))))))), (List.mem_cons_of_mem _ (List.mem_append_left _ (List.mem_append_left _ (List.mem_append_left _ (List.mem_append_left _ (List.mem_append_left _ (List.mem_append_left _ (List.mem_append_left _ (List.mem_append_left _ (List.mem_append_left _ (List.mem_append_left _ (List.mem_append_left _ (List.mem_append_left _ (List.mem_append_left _ (List.mem_append_left _ (List.mem_of_getElem? (i := 1) rfl)))))))))))))))), rfl, by decide, rfl⟩
set_option maxRecDepth 100000 in
set_option maxHeartbeats 4000000 in
theorem c_X10_isSound (l : Launch) (dd : kDD) (ks : List Nat) (ad : Nat → Nat) (E : Nat → va_E) (e : eS) (M : mS) (nR nC nt nL nW nV nM : Nat) (cn nm mn me li rl : Nat → Nat) (on : Int32) (hO : cO dd ks ad E on) (hR : cR dd ks ad E M nR) (hC : cC dd ks ad E M nC mn me) (hT : cT dd ks ad E M nt cn nm) (hL : cL dd ks ad E M nL nW li) (hW : cW dd ks ad E M nW rl) (hV : cV dd ks ad E M nV) (hM : cM dd ks ad E M nM) (hB : cB M nR nC nt nL nW nV cn nm mn me li rl) (mI mR : Int32 → Nat → Nat) (hmI : ∀ o j, j < nt → mnt o (M.2.1 22) j nV 0 = nI (mI o j) ∧ mI o j < nt) (hmR : ∀ o j, j < nR → mnt o (M.2.1 23) j nV 0 = nI (mR o j) ∧ mR o j < nR) (hpk : ∀ r, r < nR → 1 ≤ M.2.1 5 r) (hfx : kFx (M.2.1 13) cn (fun k => mI on (nm k)) (nJ (M.2.1 13) cn (fun k => mI on (nm k)) 2) nt) : kCi l yX10_isSound wsX10_isSound ({ frames := 12, cells := 0, slots := 0, locals := 289 } : Room) 0 0 dd [.ref (ad 0)] (ks, ad, (cE dd E e)) (kQi (S := eS) (fun r z => cDn M nR nt nL nW nM cn nm mn me li (mI on) (mR on) (nJ (M.2.1 13) cn (fun k => mI on (nm k)) 2) z ∧ ((r = 1 ∧ (msumJ (fun l0 => (mq (M.2.1 19) (M.2.1 20) (nI l0) nW).toInt64 * cou (z.2 (37 + mI on (li l0))) (M.2.1 3) nR) 0 nL = cou (z.2 23) (M.2.1 3) nR ∧ msumJ (fun k => mkd (M.2.1 2) (z.2 23) (M.2.1 3) (nI k) nR) 0 3 = cou (z.2 23) (M.2.1 3) nR ∧ msumJ (fun k => ctr (M.2.1 11) (fun i => z.2 22 i * cou (z.2 (25 + i)) (M.2.1 3) nR) (nI k) nt) 0 6 = cou (z.2 23) (M.2.1 3) nR ∧ (∀ j, j < nR → z.2 23 j = msumJ (fun l => (mq (M.2.1 19) (M.2.1 20) (nI l) nW).toInt64 * utr (M.2.1 13) (M.2.1 15) (M.2.1 9) cn nm mn (mR on) me (fun k => mI on (nm k)) j 3 (mI on (li l))) 0 nL))) ∨ (r = 0 ∧ ¬ (msumJ (fun l0 => (mq (M.2.1 19) (M.2.1 20) (nI l0) nW).toInt64 * cou (z.2 (37 + mI on (li l0))) (M.2.1 3) nR) 0 nL = cou (z.2 23) (M.2.1 3) nR ∧ msumJ (fun k => mkd (M.2.1 2) (z.2 23) (M.2.1 3) (nI k) nR) 0 3 = cou (z.2 23) (M.2.1 3) nR ∧ msumJ (fun k => ctr (M.2.1 11) (fun i => z.2 22 i * cou (z.2 (25 + i)) (M.2.1 3) nR) (nI k) nt) 0 6 = cou (z.2 23) (M.2.1 3) nR ∧ (∀ j, j < nR → z.2 23 j = msumJ (fun l => (mq (M.2.1 19) (M.2.1 20) (nI l) nW).toInt64 * utr (M.2.1 13) (M.2.1 15) (M.2.1 9) cn nm mn (mR on) me (fun k => mI on (nm k)) j 3 (mI on (li l))) 0 nL))))) (fun _ => ks) (fun _ => ad) (fun z => cE dd E z)) := by
  refine kMeti (ws' := _) (cc := cX10_isSound) (maxL := 3) (rt := .boolean) (by decide) rfl (Nat.le_of_ble_eq_true rfl) (fun g X hr hnL hRR hl0 hkn => ?_)
  show kv dd g 0 0 0 [(0, .ref (ad 0))] [] ks ad (cE dd E e)
  have hT12 := hT.1
  have hR12 := hR.1
  have hL10 := hL.1
  have hV4 := hV.1
  have hM4 := hM.1
  have hC4 := hC.1
  have hW40 := hW.1
  obtain ⟨f20, f21, hf20, hf21, hff⟩ := hO.2.2.2.2
  refine kv_aload_n X 0 dX10_isSound_0 rfl rfl ?_
  refine kv_aload_n X 0 dX10_isSound_1 rfl rfl ?_
  refine kv_getfield X f_X10_isSound_25 (κ := 0) (fs := [.ref (ad 1), .ref (ad 2), .int on]) (v := .int on) hO.1.1 ((cE_ne (by omega)).trans hO.1.2) rfl dX10_isSound_2 ?_
  refine kv_callvV (ci := 13) (κ := 0) (r1 := (TX10, 3)) (As := [.int on]) [] X (c_X10_workOut l dd ks ad E e M nR nC nt nL nW nV nM cn nm mn me li rl on hO hR hC hT hL hW hV hM hB mI mR hmI hmR hpk on hfx) hl0 (kCV_of X 1 gX10_isSound_X10_workOut rfl rfl rfl (by decide +kernel) hRR ⟨(Nat.le_of_ble_eq_true rfl), (Nat.le_of_ble_eq_true rfl)⟩) hO.1.1 ((cE_ne (by omega)).trans hO.1.2) rfl rfl rfl (Nat.le_of_ble_eq_true rfl) hRR ⟨(Nat.le_of_ble_eq_true rfl), (Nat.le_of_ble_eq_true rfl)⟩ dX10_isSound_5 (fun zw hp => ?_)
  have hdn := hp
  refine kv_aload_n X 0 dX10_isSound_8 rfl rfl ?_
  refine kv_getfield X f_X10_isSound_21 (κ := 0) (fs := [.ref (ad 1), .ref (ad 2), .int on]) (v := .ref (ad 2)) hO.1.1 ((cE_ne (by omega)).trans hO.1.2) rfl dX10_isSound_9 ?_
  refine kv_calllV (ci := 5) (κ := 2) (r1 := (TX2, 9)) (As := []) [] X (c_X2_netCost l dd ks ad E zw M nR nC nt nL nW nV nM cn nm mn me li rl on hO hR hC hT hL hW hV hM hB ) hl0 (kCV_of X 0 gX10_isSound_X2_netCost rfl rfl rfl (by decide +kernel) hRR ⟨(Nat.le_of_ble_eq_true rfl), (Nat.le_of_ble_eq_true rfl)⟩) hO.2.2.1.1 ((cE_ne (by omega)).trans hO.2.2.1.2) rfl rfl rfl (Nat.le_of_ble_eq_true rfl) hRR ⟨(Nat.le_of_ble_eq_true rfl), (Nat.le_of_ble_eq_true rfl)⟩ dX10_isSound_12 (fun r z hp => ?_)
  obtain ⟨rfl, rfl⟩ := hp
  refine kv_lstore_n (lv2 := [(1, .long (cou (zw.2 23) (M.2.1 3) nR)), (0, .ref (ad 0))]) X dX10_isSound_15 rfl (by rw [hnL]; decide) rfl ?_
  refine kv_aload_n X 1 dX10_isSound_16 rfl rfl ?_
  refine kv_getfield X f_X10_isSound_21 (κ := 0) (fs := [.ref (ad 1), .ref (ad 2), .int on]) (v := .ref (ad 2)) hO.1.1 ((cE_ne (by omega)).trans hO.1.2) rfl dX10_isSound_17 ?_
  refine kv_calllV (ci := 5) (κ := 2) (r1 := (TX2, 9)) (As := []) [] X (c_X2_costOfAllLines l dd ks ad E zw M nR nC nt nL nW nV nM cn nm mn me li rl on hO hR hC hT hL hW hV hM hB (mI on) (fun j hj => ⟨hdn.1 j hj, (hmI on j hj).2⟩)) hl0 (kCV_of X 0 gX10_isSound_X2_costOfAllLines rfl rfl rfl (by decide +kernel) hRR ⟨(Nat.le_of_ble_eq_true rfl), (Nat.le_of_ble_eq_true rfl)⟩) hO.2.2.1.1 ((cE_ne (by omega)).trans hO.2.2.1.2) rfl rfl rfl (Nat.le_of_ble_eq_true rfl) hRR ⟨(Nat.le_of_ble_eq_true rfl), (Nat.le_of_ble_eq_true rfl)⟩ dX10_isSound_20 (fun r z hp => ?_)
  obtain ⟨rfl, rfl⟩ := hp
  refine kv_lload_n X 0 dX10_isSound_23 rfl rfl ?_
  refine kv_lcmp X dX10_isSound_24 ?_
  refine kv_if_ne (tgt := 66) X dX10_isSound_25 (by decide) (fun hc25 => ?_) (fun hc25 => ?_)
  ·
    refine kv_iconst (v := 0) X dX10_isSound_66 (by decide) ?_
    exact kv_zreturn X hr rfl (Nat.le_of_ble_eq_true rfl) (Nat.le_of_ble_eq_true rfl) ⟨zw, ⟨hdn, Or.inr ⟨rfl, fun q => by first | exact hc25 ((lg_cmp_eq _ _).mpr q.1) | exact hc37 ((lg_cmp_eq _ _).mpr q.2.1) | exact hc49 ((lg_cmp_eq _ _).mpr q.2.2.1) | exact hag q.2.2.2⟩⟩, rfl⟩ dX10_isSound_67
  ·
    refine kv_aload_n X 1 dX10_isSound_28 rfl rfl ?_
    refine kv_getfield X f_X10_isSound_21 (κ := 0) (fs := [.ref (ad 1), .ref (ad 2), .int on]) (v := .ref (ad 2)) hO.1.1 ((cE_ne (by omega)).trans hO.1.2) rfl dX10_isSound_29 ?_
    refine kv_calllV (ci := 5) (κ := 2) (r1 := (TX2, 9)) (As := []) [] X (c_X2_costOfAllKinds l dd ks ad E zw M nR nC nt nL nW nV nM cn nm mn me li rl on hO hR hC hT hL hW hV hM hB ) hl0 (kCV_of X 0 gX10_isSound_X2_costOfAllKinds rfl rfl rfl (by decide +kernel) hRR ⟨(Nat.le_of_ble_eq_true rfl), (Nat.le_of_ble_eq_true rfl)⟩) hO.2.2.1.1 ((cE_ne (by omega)).trans hO.2.2.1.2) rfl rfl rfl (Nat.le_of_ble_eq_true rfl) hRR ⟨(Nat.le_of_ble_eq_true rfl), (Nat.le_of_ble_eq_true rfl)⟩ dX10_isSound_32 (fun r z hp => ?_)
    obtain ⟨rfl, rfl⟩ := hp
    refine kv_lload_n X 0 dX10_isSound_35 rfl rfl ?_
    refine kv_lcmp X dX10_isSound_36 ?_
    refine kv_if_ne (tgt := 66) X dX10_isSound_37 (by decide) (fun hc37 => ?_) (fun hc37 => ?_)
    ·
      refine kv_iconst (v := 0) X dX10_isSound_66 (by decide) ?_
      exact kv_zreturn X hr rfl (Nat.le_of_ble_eq_true rfl) (Nat.le_of_ble_eq_true rfl) ⟨zw, ⟨hdn, Or.inr ⟨rfl, fun q => by first | exact hc25 ((lg_cmp_eq _ _).mpr q.1) | exact hc37 ((lg_cmp_eq _ _).mpr q.2.1) | exact hc49 ((lg_cmp_eq _ _).mpr q.2.2.1) | exact hag q.2.2.2⟩⟩, rfl⟩ dX10_isSound_67
    ·
      refine kv_aload_n X 1 dX10_isSound_40 rfl rfl ?_
      refine kv_getfield X f_X10_isSound_21 (κ := 0) (fs := [.ref (ad 1), .ref (ad 2), .int on]) (v := .ref (ad 2)) hO.1.1 ((cE_ne (by omega)).trans hO.1.2) rfl dX10_isSound_41 ?_
      refine kv_calllV (ci := 5) (κ := 2) (r1 := (TX2, 9)) (As := []) [] X (c_X2_costOfAllTrades l dd ks ad E zw M nR nC nt nL nW nV nM cn nm mn me li rl on hO hR hC hT hL hW hV hM hB ) hl0 (kCV_of X 0 gX10_isSound_X2_costOfAllTrades rfl rfl rfl (by decide +kernel) hRR ⟨(Nat.le_of_ble_eq_true rfl), (Nat.le_of_ble_eq_true rfl)⟩) hO.2.2.1.1 ((cE_ne (by omega)).trans hO.2.2.1.2) rfl rfl rfl (Nat.le_of_ble_eq_true rfl) hRR ⟨(Nat.le_of_ble_eq_true rfl), (Nat.le_of_ble_eq_true rfl)⟩ dX10_isSound_44 (fun r z hp => ?_)
      obtain ⟨rfl, rfl⟩ := hp
      refine kv_lload_n X 0 dX10_isSound_47 rfl rfl ?_
      refine kv_lcmp X dX10_isSound_48 ?_
      refine kv_if_ne (tgt := 66) X dX10_isSound_49 (by decide) (fun hc49 => ?_) (fun hc49 => ?_)
      ·
        refine kv_iconst (v := 0) X dX10_isSound_66 (by decide) ?_
        exact kv_zreturn X hr rfl (Nat.le_of_ble_eq_true rfl) (Nat.le_of_ble_eq_true rfl) ⟨zw, ⟨hdn, Or.inr ⟨rfl, fun q => by first | exact hc25 ((lg_cmp_eq _ _).mpr q.1) | exact hc37 ((lg_cmp_eq _ _).mpr q.2.1) | exact hc49 ((lg_cmp_eq _ _).mpr q.2.2.1) | exact hag q.2.2.2⟩⟩, rfl⟩ dX10_isSound_67
      ·
        refine kv_aload_n X 1 dX10_isSound_52 rfl rfl ?_
        refine kv_getfield X f_X10_isSound_21 (κ := 0) (fs := [.ref (ad 1), .ref (ad 2), .int on]) (v := .ref (ad 2)) hO.1.1 ((cE_ne (by omega)).trans hO.1.2) rfl dX10_isSound_53 ?_
        refine kv_calliV (ci := 5) (κ := 2) (r1 := (TX2, 9)) (As := []) [] X (c_X2_amountsAgree l dd ks ad E zw M nR nC nt nL nW nV nM cn nm mn me li rl on hO hR hC hT hL hW hV hM hB (mI on) (fun j hj => ⟨hdn.1 j hj, (hmI on j hj).2⟩) (mR on) (fun j hj => ⟨hdn.2.1 j hj, (hmR on j hj).2⟩)) hl0 (kCV_of X 0 gX10_isSound_X2_amountsAgree rfl rfl rfl (by decide +kernel) hRR ⟨(Nat.le_of_ble_eq_true rfl), (Nat.le_of_ble_eq_true rfl)⟩) hO.2.2.1.1 ((cE_ne (by omega)).trans hO.2.2.1.2) rfl rfl rfl (Nat.le_of_ble_eq_true rfl) hRR ⟨(Nat.le_of_ble_eq_true rfl), (Nat.le_of_ble_eq_true rfl)⟩ dX10_isSound_56 (fun r z hp => ?_)
        obtain ⟨rfl, ⟨rfl, hag⟩ | ⟨rfl, hag⟩⟩ := hp
        ·
          refine kv_if_eq (tgt := 66) X dX10_isSound_59 (by decide) (fun hc => absurd hc (by decide)) (fun hc59 => ?_)
          refine kv_iconst (v := 1) X dX10_isSound_62 (by decide) ?_
          refine kv_goto (tgt := 67) X dX10_isSound_63 (by decide) ?_
          exact kv_zreturn X hr rfl (Nat.le_of_ble_eq_true rfl) (Nat.le_of_ble_eq_true rfl) ⟨zw, ⟨hdn, Or.inl ⟨rfl, (lg_cmp_eq _ _).mp hc25, (lg_cmp_eq _ _).mp hc37, (lg_cmp_eq _ _).mp hc49, hag⟩⟩, rfl⟩ dX10_isSound_67
        ·
          refine kv_if_eq (tgt := 66) X dX10_isSound_59 (by decide) (fun hc59 => ?_) (fun hc => absurd hc (by decide))
          refine kv_iconst (v := 0) X dX10_isSound_66 (by decide) ?_
          exact kv_zreturn X hr rfl (Nat.le_of_ble_eq_true rfl) (Nat.le_of_ble_eq_true rfl) ⟨zw, ⟨hdn, Or.inr ⟨rfl, fun q => by first | exact hc25 ((lg_cmp_eq _ _).mpr q.1) | exact hc37 ((lg_cmp_eq _ _).mpr q.2.1) | exact hc49 ((lg_cmp_eq _ _).mpr q.2.2.1) | exact hag q.2.2.2⟩⟩, rfl⟩ dX10_isSound_67
theorem f_X10_difference_25 : kF wsX10_difference RX10 25 13 2 := ⟨_, RX10, TX10, 3, fun _ h => (List.mem_cons_of_mem _ (List.mem_append_left _ (List.mem_append_left _ (List.mem_append_left _ (List.mem_append_left _ (List.mem_append_left _ (List.mem_append_left _ (List.mem_append_left _ (List.mem_append_left _ (List.mem_append_left _ (List.mem_append_left _ (List.mem_append_left _ (List.mem_append_left _ (List.mem_append_left _ (List.mem_append_left _ (List.mem_append_right _ h)))))))))))))))), (List.mem_cons_of_mem _ (List.mem_append_left _ (List.mem_append_left _ (List.mem_append_left _ (List.mem_append_left _ (List.mem_append_left _ (List.mem_append_left _ (List.mem_append_left _ (List.mem_append_left _ (List.mem_append_left _ (List.mem_append_left _ (List.mem_append_left _ (List.mem_append_left _ (List.mem_append_left _ (List.mem_append_left _ (List.mem_append_left _ (List.mem_append_left _ (List.mem_of_getElem? (i := 0) rfl)))))))))))))))))), rfl, by decide, rfl⟩
theorem f_X10_difference_21 : kF wsX10_difference RX10 21 13 1 := ⟨_, RX10, TX10, 3, fun _ h => (List.mem_cons_of_mem _ (List.mem_append_left _ (List.mem_append_left _ (List.mem_append_left _ (List.mem_append_left _ (List.mem_append_left _ (List.mem_append_left _ (List.mem_append_left _ (List.mem_append_left _ (List.mem_append_left _ (List.mem_append_left _ (List.mem_append_left _ (List.mem_append_left _ (List.mem_append_left _ (List.mem_append_left _ (List.mem_append_right _ h)))))))))))))))), (List.mem_cons_of_mem _ (List.mem_append_left _ (List.mem_append_left _ (List.mem_append_left _ (List.mem_append_left _ (List.mem_append_left _ (List.mem_append_left _ (List.mem_append_left _ (List.mem_append_left _ (List.mem_append_left _ (List.mem_append_left _ (List.mem_append_left _ (List.mem_append_left _ (List.mem_append_left _ (List.mem_append_left _ (List.mem_append_left _ (List.mem_append_left _ (List.mem_of_getElem? (i := 1) rfl)))))))))))))))))), rfl, by decide, rfl⟩
set_option maxRecDepth 100000 in
set_option maxHeartbeats 4000000 in
theorem c_X10_difference (l : Launch) (dd : kDD) (ks : List Nat) (ad : Nat → Nat) (E : Nat → va_E) (e : eS) (M : mS) (nR nC nt nL nW nV nM : Nat) (cn nm mn me li rl : Nat → Nat) (on : Int32) (hO : cO dd ks ad E on) (hR : cR dd ks ad E M nR) (hC : cC dd ks ad E M nC mn me) (hT : cT dd ks ad E M nt cn nm) (hL : cL dd ks ad E M nL nW li) (hW : cW dd ks ad E M nW rl) (hV : cV dd ks ad E M nV) (hM : cM dd ks ad E M nM) (hB : cB M nR nC nt nL nW nV cn nm mn me li rl) (mI mR : Int32 → Nat → Nat) (hmI : ∀ o j, j < nt → mnt o (M.2.1 22) j nV 0 = nI (mI o j) ∧ mI o j < nt) (hmR : ∀ o j, j < nR → mnt o (M.2.1 23) j nV 0 = nI (mR o j) ∧ mR o j < nR) (hpk : ∀ r, r < nR → 1 ≤ M.2.1 5 r) (v : Int32) (hfx : kFx (M.2.1 13) cn (fun k => mI on (nm k)) (nJ (M.2.1 13) cn (fun k => mI on (nm k)) 2) nt) : kClX l yX10_difference wsX10_difference ({ frames := 9, cells := 2, slots := 12, locals := 202 } : Room) 2 12 dd [.ref (ad 0), .int v] (ks, ad, (cE dd E e)) (kQl (S := eS) (fun r z => ∃ j, (j < nV ∧ v = nI j) ∧ kFx (M.2.1 13) cn (fun k => mI (on ^^^ ((1 : Int32) <<< (nI j &&& 31))) (nm k)) (nJ (M.2.1 13) cn (fun k => mI (on ^^^ ((1 : Int32) <<< (nI j &&& 31))) (nm k)) 2) nt ∧ r = cTo M nR nM (cAm M nL nW cn nm mn me li (mI (on ^^^ ((1 : Int32) <<< (nI j &&& 31)))) (mR (on ^^^ ((1 : Int32) <<< (nI j &&& 31))))) - cTo M nR nM (cAm M nL nW cn nm mn me li (mI on) (mR on))) (fun _ => ks) (fun _ => ad) (fun z => cE dd E z)) (fun X9 u9 => ∃ e9, u9 = (ks, ad, cE dd E e9) ∧ ((X9 = "java/lang/IndexOutOfBoundsException" ∧ ¬ (∃ j, j < nV ∧ v = nI j)) ∨ (X9 = "java/lang/UnsupportedOperationException" ∧ (∃ j, (j < nV ∧ v = nI j) ∧ ¬ kFx (M.2.1 13) cn (fun k => mI (on ^^^ ((1 : Int32) <<< (nI j &&& 31))) (nm k)) (nJ (M.2.1 13) cn (fun k => mI (on ^^^ ((1 : Int32) <<< (nI j &&& 31))) (nm k)) 2) nt)))) := by
  refine kMetlX (ws' := _) (cc := cX10_difference) (maxL := 5) (rt := .long) (by decide) rfl (Nat.le_of_ble_eq_true rfl) (fun g X hr hRX hnL hRR hl0 hkn => ?_)
  show kv dd g 0 0 0 [(0, .ref (ad 0)), (1, .int v)] [] ks ad (cE dd E e)
  have hT12 := hT.1
  have hR12 := hR.1
  have hL10 := hL.1
  have hV4 := hV.1
  have hM4 := hM.1
  have hC4 := hC.1
  have hW40 := hW.1
  obtain ⟨f20, f21, hf20, hf21, hff⟩ := hO.2.2.2.2
  refine kv_aload_n X 0 dX10_difference_0 rfl rfl ?_
  refine kv_iload_n X 1 dX10_difference_1 rfl rfl ?_
  refine kv_callvXV (ci := 13) (κ := 0) (r1 := (TX10, 3)) (As := [.int v]) [] X (c_X10_checkVariant l dd ks ad E e M nR nC nt nL nW nV nM cn nm mn me li rl on hO hR hC hT hL hW hV hM hB v) hl0 (kCV_of X 1 gX10_difference_X10_checkVariant rfl rfl rfl (by decide +kernel) hRR ⟨(Nat.le_of_ble_eq_true rfl), (Nat.le_of_ble_eq_true rfl)⟩) hO.1.1 ((cE_ne (by omega)).trans hO.1.2) rfl hRX ⟨(Nat.le_of_ble_eq_true rfl), (Nat.le_of_ble_eq_true rfl)⟩ (fun _ _ h => ⟨e, h.2.1, (Or.inl (⟨h.1, h.2.2⟩))⟩) rfl rfl (Nat.le_of_ble_eq_true rfl) hRR ⟨(Nat.le_of_ble_eq_true rfl), (Nat.le_of_ble_eq_true rfl)⟩ dX10_difference_2 (fun z hp => ?_)
  obtain ⟨rfl, j2, h2, rfl⟩ := hp
  refine kv_aload_n X 0 dX10_difference_5 rfl rfl ?_
  refine kv_getfield X f_X10_difference_25 (κ := 0) (fs := [.ref (ad 1), .ref (ad 2), .int on]) (v := .int on) hO.1.1 ((cE_ne (by omega)).trans hO.1.2) rfl dX10_difference_6 ?_
  refine kv_iconst (v := 1) X dX10_difference_9 (by decide) ?_
  refine kv_iload_n X 1 dX10_difference_10 rfl rfl ?_
  refine kv_ishl X dX10_difference_11 ?_
  refine kv_ixor X dX10_difference_12 ?_
  refine kv_istore_n (lv2 := [(2, .int (on ^^^ (1 <<< ((nI j2) &&& 31)))), (0, .ref (ad 0)), (1, .int (nI j2))]) X dX10_difference_13 rfl (by rw [hnL]; decide) rfl ?_
  refine kv_aload_n X 1 dX10_difference_14 rfl rfl ?_
  refine kv_iload_n X 0 dX10_difference_15 rfl rfl ?_
  refine kv_callvXV (ci := 13) (κ := 0) (r1 := (TX10, 3)) (As := [.int (on ^^^ (1 <<< ((nI j2) &&& 31)))]) [] X (c_X10_checkFits l dd ks ad E e M nR nC nt nL nW nV nM cn nm mn me li rl on hO hR hC hT hL hW hV hM hB mI mR hmI hmR hpk (on ^^^ (1 <<< ((nI j2) &&& 31)))) hl0 (kCV_of X 1 gX10_difference_X10_checkFits rfl rfl rfl (by decide +kernel) hRR ⟨(Nat.le_of_ble_eq_true rfl), (Nat.le_of_ble_eq_true rfl)⟩) hO.1.1 ((cE_ne (by omega)).trans hO.1.2) rfl hRX ⟨(Nat.le_of_ble_eq_true rfl), (Nat.le_of_ble_eq_true rfl)⟩ (fun _ _ h => by obtain ⟨e9, hu, hh⟩ := h; exact ⟨e9, hu, Or.inr ⟨hh.1, j2, ⟨h2, rfl⟩, hh.2⟩⟩) rfl rfl (Nat.le_of_ble_eq_true rfl) hRR ⟨(Nat.le_of_ble_eq_true rfl), (Nat.le_of_ble_eq_true rfl)⟩ dX10_difference_16 (fun zf16 hp => ?_)
  have hf16 := hp
  refine kv_aload_n X 1 dX10_difference_19 rfl rfl ?_
  refine kv_iload_n X 0 dX10_difference_20 rfl rfl ?_
  refine kv_callvV (ci := 13) (κ := 0) (r1 := (TX10, 3)) (As := [.int (on ^^^ (1 <<< ((nI j2) &&& 31)))]) [] X (c_X10_workOut l dd ks ad E zf16 M nR nC nt nL nW nV nM cn nm mn me li rl on hO hR hC hT hL hW hV hM hB mI mR hmI hmR hpk (on ^^^ (1 <<< ((nI j2) &&& 31))) hf16) hl0 (kCV_of X 1 gX10_difference_X10_workOut rfl rfl rfl (by decide +kernel) hRR ⟨(Nat.le_of_ble_eq_true rfl), (Nat.le_of_ble_eq_true rfl)⟩) hO.1.1 ((cE_ne (by omega)).trans hO.1.2) rfl rfl rfl (Nat.le_of_ble_eq_true rfl) hRR ⟨(Nat.le_of_ble_eq_true rfl), (Nat.le_of_ble_eq_true rfl)⟩ dX10_difference_21 (fun zw21 hp => ?_)
  have hdn21 := hp
  refine kv_aload_n X 1 dX10_difference_24 rfl rfl ?_
  refine kv_getfield X f_X10_difference_21 (κ := 0) (fs := [.ref (ad 1), .ref (ad 2), .int on]) (v := .ref (ad 2)) hO.1.1 ((cE_ne (by omega)).trans hO.1.2) rfl dX10_difference_25 ?_
  refine kv_calllV (ci := 5) (κ := 2) (r1 := (TX2, 9)) (As := []) [] X (c_X2_totalCost l dd ks ad E zw21 M nR nC nt nL nW nV nM cn nm mn me li rl on hO hR hC hT hL hW hV hM hB hpk) hl0 (kCV_of X 0 gX10_difference_X2_totalCost rfl rfl rfl (by decide +kernel) hRR ⟨(Nat.le_of_ble_eq_true rfl), (Nat.le_of_ble_eq_true rfl)⟩) hO.2.2.1.1 ((cE_ne (by omega)).trans hO.2.2.1.2) rfl rfl rfl (Nat.le_of_ble_eq_true rfl) hRR ⟨(Nat.le_of_ble_eq_true rfl), (Nat.le_of_ble_eq_true rfl)⟩ dX10_difference_28 (fun r z hp => ?_)
  obtain ⟨rfl, rfl⟩ := hp
  refine kv_lstore_n (lv2 := [(3, .long (msumJ (zw21.2 24) (cou (zw21.2 23) (M.2.1 3) nR + mex (zw21.2 23) (M.2.1 4) (M.2.1 5) (M.2.1 3) nR) nM)), (2, .int (on ^^^ (1 <<< ((nI j2) &&& 31)))), (0, .ref (ad 0)), (1, .int (nI j2))]) X dX10_difference_31 rfl (by rw [hnL]; decide) rfl ?_
  refine kv_aload_n X 2 dX10_difference_32 rfl rfl ?_
  refine kv_aload_n X 2 dX10_difference_33 rfl rfl ?_
  refine kv_getfield X f_X10_difference_25 (κ := 0) (fs := [.ref (ad 1), .ref (ad 2), .int on]) (v := .int on) hO.1.1 ((cE_ne (by omega)).trans hO.1.2) rfl dX10_difference_34 ?_
  refine kv_callvV (ci := 13) (κ := 0) (r1 := (TX10, 3)) (As := [.int on]) [] X (c_X10_workOut l dd ks ad E zw21 M nR nC nt nL nW nV nM cn nm mn me li rl on hO hR hC hT hL hW hV hM hB mI mR hmI hmR hpk on hfx) hl0 (kCV_of X 1 gX10_difference_X10_workOut rfl rfl rfl (by decide +kernel) hRR ⟨(Nat.le_of_ble_eq_true rfl), (Nat.le_of_ble_eq_true rfl)⟩) hO.1.1 ((cE_ne (by omega)).trans hO.1.2) rfl rfl rfl (Nat.le_of_ble_eq_true rfl) hRR ⟨(Nat.le_of_ble_eq_true rfl), (Nat.le_of_ble_eq_true rfl)⟩ dX10_difference_37 (fun zw37 hp => ?_)
  have hdn37 := hp
  refine kv_lload_n X 0 dX10_difference_40 rfl rfl ?_
  refine kv_aload_n X 2 dX10_difference_41 rfl rfl ?_
  refine kv_getfield X f_X10_difference_21 (κ := 0) (fs := [.ref (ad 1), .ref (ad 2), .int on]) (v := .ref (ad 2)) hO.1.1 ((cE_ne (by omega)).trans hO.1.2) rfl dX10_difference_42 ?_
  refine kv_calllV (ci := 5) (κ := 2) (r1 := (TX2, 9)) (As := []) [.long (msumJ (zw21.2 24) (cou (zw21.2 23) (M.2.1 3) nR + mex (zw21.2 23) (M.2.1 4) (M.2.1 5) (M.2.1 3) nR) nM)] X (c_X2_totalCost l dd ks ad E zw37 M nR nC nt nL nW nV nM cn nm mn me li rl on hO hR hC hT hL hW hV hM hB hpk) hl0 (kCV_of X 0 gX10_difference_X2_totalCost rfl rfl rfl (by decide +kernel) hRR ⟨(Nat.le_of_ble_eq_true rfl), (Nat.le_of_ble_eq_true rfl)⟩) hO.2.2.1.1 ((cE_ne (by omega)).trans hO.2.2.1.2) rfl rfl rfl (Nat.le_of_ble_eq_true rfl) hRR ⟨(Nat.le_of_ble_eq_true rfl), (Nat.le_of_ble_eq_true rfl)⟩ dX10_difference_45 (fun r z hp => ?_)
  obtain ⟨rfl, rfl⟩ := hp
  refine kv_lsub X dX10_difference_48 ?_
  exact kv_lreturn X hr (Nat.le_of_ble_eq_true rfl) (Nat.le_of_ble_eq_true rfl) ⟨zw37, ⟨j2, ⟨h2, rfl⟩, hf16, by rw [cDn_tot hR.1 hdn21, cDn_tot hR.1 hdn37]⟩, rfl⟩ dX10_difference_49
theorem f_X10_cheapestVariants_10 : kF wsX10_cheapestVariants RX10 10 13 0 := ⟨_, RX10, TX10, 3, fun _ h => (List.mem_cons_of_mem _ (List.mem_append_left _ (List.mem_append_left _ (List.mem_append_left _ (List.mem_append_left _ (List.mem_append_left _ (List.mem_append_left _ (List.mem_append_left _ (List.mem_append_left _ (List.mem_append_left _ (List.mem_append_left _ (List.mem_append_left _ (List.mem_append_left _ (List.mem_append_right _ h)))))))))))))), (List.mem_cons_of_mem _ (List.mem_append_left _ (List.mem_append_left _ (List.mem_append_left _ (List.mem_append_left _ (List.mem_append_left _ (List.mem_append_left _ (List.mem_append_left _ (List.mem_append_left _ (List.mem_append_left _ (List.mem_append_left _ (List.mem_append_left _ (List.mem_append_left _ (List.mem_append_left _ (List.mem_append_left _ (List.mem_of_getElem? (i := 0) rfl)))))))))))))))), rfl, by decide, rfl⟩
theorem f_X10_cheapestVariants_199 : kF wsX10_cheapestVariants RX10 199 9 5 := ⟨_, RX6, TX6, 7, fun _ h => (List.mem_cons_of_mem _ (List.mem_append_left _ (List.mem_append_left _ (List.mem_append_left _ (List.mem_append_left _ (List.mem_append_left _ (List.mem_append_left _ (List.mem_append_left _ (List.mem_append_left _ (List.mem_append_left _ (List.mem_append_left _ (List.mem_append_left _ (List.mem_append_right _ h))))))))))))), (List.mem_cons_of_mem _ (List.mem_append_left _ (List.mem_append_left _ (List.mem_append_left _ (List.mem_append_left _ (List.mem_append_left _ (List.mem_append_left _ (List.mem_append_left _ (List.mem_append_left _ (List.mem_append_left _ (List.mem_append_left _ (List.mem_append_left _ (List.mem_append_left _ (List.mem_append_left _ (List.mem_append_left _ (List.mem_of_getElem? (i := 1) rfl)))))))))))))))), rfl, by decide, rfl⟩
theorem f_X10_cheapestVariants_21 : kF wsX10_cheapestVariants RX10 21 13 1 := ⟨_, RX10, TX10, 3, fun _ h => (List.mem_cons_of_mem _ (List.mem_append_left _ (List.mem_append_left _ (List.mem_append_left _ (List.mem_append_left _ (List.mem_append_left _ (List.mem_append_left _ (List.mem_append_left _ (List.mem_append_left _ (List.mem_append_left _ (List.mem_append_left _ (List.mem_append_left _ (List.mem_append_left _ (List.mem_append_right _ h)))))))))))))), (List.mem_cons_of_mem _ (List.mem_append_left _ (List.mem_append_left _ (List.mem_append_left _ (List.mem_append_left _ (List.mem_append_left _ (List.mem_append_left _ (List.mem_append_left _ (List.mem_append_left _ (List.mem_append_left _ (List.mem_append_left _ (List.mem_append_left _ (List.mem_append_left _ (List.mem_append_left _ (List.mem_append_left _ (List.mem_of_getElem? (i := 2) rfl)))))))))))))))), rfl, by decide, rfl⟩
set_option maxRecDepth 100000 in
set_option maxHeartbeats 4000000 in
theorem c_X10_cheapestVariants (l : Launch) (dd : kDD) (ks : List Nat) (ad : Nat → Nat) (E : Nat → va_E) (e : eS) (M : mS) (nR nC nt nL nW nV nM : Nat) (cn nm mn me li rl : Nat → Nat) (on : Int32) (hO : cO dd ks ad E on) (hR : cR dd ks ad E M nR) (hC : cC dd ks ad E M nC mn me) (hT : cT dd ks ad E M nt cn nm) (hL : cL dd ks ad E M nL nW li) (hW : cW dd ks ad E M nW rl) (hV : cV dd ks ad E M nV) (hM : cM dd ks ad E M nM) (hB : cB M nR nC nt nL nW nV cn nm mn me li rl) (mI mR : Int32 → Nat → Nat) (hmI : ∀ o j, j < nt → mnt o (M.2.1 22) j nV 0 = nI (mI o j) ∧ mI o j < nt) (hmR : ∀ o j, j < nR → mnt o (M.2.1 23) j nV 0 = nI (mR o j) ∧ mR o j < nR) (hpk : ∀ r, r < nR → 1 ≤ M.2.1 5 r)  : kCi l yX10_cheapestVariants wsX10_cheapestVariants ({ frames := 8, cells := 0, slots := 0, locals := 181 } : Room) 0 0 dd [.ref (ad 0)] (ks, ad, (cE dd E e)) (kQi (S := eS) (fun r z => ∃ le, mB (fun n => kFx (M.2.1 13) cn (fun k => mI (nI n) (nm k)) (nJ (M.2.1 13) cn (fun k => mI (nI n) (nm k)) 2) nt) (fun n => cTo M nR nM (cAm M nL nW cn nm mn me li (mI (nI n)) (mR (nI n)))) (2 ^ nV) r le) (fun _ => ks) (fun _ => ad) (fun z => cE dd E z)) := by
  refine kMeti (ws' := _) (cc := cX10_cheapestVariants) (maxL := 8) (rt := .int) (by decide) rfl (Nat.le_of_ble_eq_true rfl) (fun g X hr hnL hRR hl0 hkn => ?_)
  show kv dd g 0 0 0 [(0, .ref (ad 0))] [] ks ad (cE dd E e)
  have hT12 := hT.1
  have hR12 := hR.1
  have hV4 := hV.1
  have hM4 := hM.1
  obtain ⟨f20, f21, hf20, hf21, hff⟩ := hO.2.2.2.2
  have hpw := k_pow_le hV.1
  refine kv_iconst (v := (-1)) X dX10_cheapestVariants_0 (by decide) ?_
  refine kv_istore_n (lv2 := [(1, .int (-1)), (0, .ref (ad 0))]) X dX10_cheapestVariants_1 rfl (by rw [hnL]; decide) rfl ?_
  refine kv_lconst (v := 0) X dX10_cheapestVariants_2 (by decide) ?_
  refine kv_lstore_n (lv2 := [(2, .long 0), (1, .int (-1)), (0, .ref (ad 0))]) X dX10_cheapestVariants_3 rfl (by rw [hnL]; decide) rfl ?_
  refine kv_iconst (v := 1) X dX10_cheapestVariants_4 (by decide) ?_
  refine kv_aload_n X 2 dX10_cheapestVariants_5 rfl rfl ?_
  refine kv_getfield X f_X10_cheapestVariants_10 (κ := 0) (fs := [.ref (ad 1), .ref (ad 2), .int on]) (v := .ref (ad 1)) hO.1.1 ((cE_ne (by omega)).trans hO.1.2) rfl dX10_cheapestVariants_6 ?_
  refine kv_getfield X f_X10_cheapestVariants_199 (κ := 1) (fs := [.ref (ad 3), .ref (ad 4), .ref (ad 5), .ref (ad 6), .ref (ad 7), .ref (ad 8), .ref (ad 9)]) (v := .ref (ad 8)) hO.2.1.1 ((cE_ne (by omega)).trans hO.2.1.2) rfl dX10_cheapestVariants_9 ?_
  obtain ⟨_, _, o12⟩ := kLs_obj (dd := dd) (ks := ks) (ad := ad) (E := (cE dd E e)) (kLs_cE hV.2.1 (by omega) (by omega) (fun i hi => by omega))
  refine kv_calliV (ci := 2) (κ := 8) (r1 := (TJx4a65c, 3)) (As := []) [.int 1] X (c_Jx4a65c_size_8abf5 l dd ks ad (cE dd E e) (8) (15) (nV) (fun v => 272 + v) 12 (kLs_cE hV.2.1 (by omega) (by omega) (fun i hi => by omega))) hl0 (kCV_of X 0 gX10_cheapestVariants_Jx4a65c_size_8abf5 rfl rfl rfl (by decide +kernel) hRR ⟨(Nat.le_of_ble_eq_true rfl), (Nat.le_of_ble_eq_true rfl)⟩) hV.2.1.1 o12 rfl rfl rfl (Nat.le_of_ble_eq_true rfl) hRR ⟨(Nat.le_of_ble_eq_true rfl), (Nat.le_of_ble_eq_true rfl)⟩ dX10_cheapestVariants_12 (fun r z hp => ?_)
  obtain rfl := hp
  refine kv_ishl X dX10_cheapestVariants_15 ?_
  refine kv_topi (nI (2 ^ nV)) (k_pow hV.1) ?_
  refine kv_istore (lv2 := [(4, .int (nI (2 ^ nV))), (2, .long 0), (1, .int (-1)), (0, .ref (ad 0))]) X dX10_cheapestVariants_16 (by rw [hnL]; decide) rfl ?_
  refine kv_iconst (v := 0) X dX10_cheapestVariants_18 (by decide) ?_
  refine kv_istore (lv2 := [(5, .int 0), (4, .int (nI (2 ^ nV))), (2, .long 0), (1, .int (-1)), (0, .ref (ad 0))]) X dX10_cheapestVariants_19 (by rw [hnL]; decide) rfl ?_
  have L21 : ∀ (n9 i9 : Nat), i9 + n9 = 2 ^ nV → ∀ (be : Int32) (le : Int64) (y : eS) (hbst : mB (fun n => kFx (M.2.1 13) cn (fun k => mI (nI n) (nm k)) (nJ (M.2.1 13) cn (fun k => mI (nI n) (nm k)) 2) nt) (fun n => cTo M nR nM (cAm M nL nW cn nm mn me li (mI (nI n)) (mR (nI n)))) i9 be le), kv dd g 0 0 21 [(5, .int (nI i9)), (4, .int (nI (2 ^ nV))), (2, .long le), (1, .int be), (0, .ref (ad 0))] [] ks ad (cE dd E y) := by
    intro n9
    induction n9 with
    | zero =>
      intro i9 hin21 be le y hbst
      refine kv_iload X 0 dX10_cheapestVariants_21 rfl ?_
      refine kv_iload X 1 dX10_cheapestVariants_23 rfl ?_
      refine kn_icmp_ge (x := i9) (y := 2 ^ nV) (tgt := 80) X (by omega) (by omega) dX10_cheapestVariants_25 (by decide) (fun hc25 => ?_) (fun hc25 => absurd hc25 (by omega))
      refine kv_iload_n X 3 dX10_cheapestVariants_80 rfl rfl ?_
      exact kv_ireturn X hr (Nat.le_of_ble_eq_true rfl) (Nat.le_of_ble_eq_true rfl) ⟨y, ⟨le, by rw [show 2 ^ nV = i9 by omega]; exact hbst⟩, rfl⟩ dX10_cheapestVariants_81
    | succ n9 ih21 =>
      intro i9 hin21 be le y hbst
      refine kv_iload X 0 dX10_cheapestVariants_21 rfl ?_
      refine kv_iload X 1 dX10_cheapestVariants_23 rfl ?_
      refine kn_icmp_ge (x := i9) (y := 2 ^ nV) (tgt := 80) X (by omega) (by omega) dX10_cheapestVariants_25 (by decide) (fun hc25 => absurd hc25 (by omega)) (fun hc25 => ?_)
      refine kv_aload_n X 4 dX10_cheapestVariants_28 rfl rfl ?_
      refine kv_getfield X f_X10_cheapestVariants_21 (κ := 0) (fs := [.ref (ad 1), .ref (ad 2), .int on]) (v := .ref (ad 2)) hO.1.1 ((cE_ne (by omega)).trans hO.1.2) rfl dX10_cheapestVariants_29 ?_
      refine kv_iload X 0 dX10_cheapestVariants_32 rfl ?_
      refine kv_calliV (ci := 5) (κ := 2) (r1 := (TX2, 9)) (As := [.int (nI i9)]) [] X (c_X2_choose l dd ks ad E y M nR nC nt nL nW nV nM cn nm mn me li rl on hO hR hC hT hL hW hV hM hB (nI i9) (mI (nI i9)) (mR (nI i9)) (hmI (nI i9)) (hmR (nI i9))) hl0 (kCV_of X 1 gX10_cheapestVariants_X2_choose rfl rfl rfl (by decide +kernel) hRR ⟨(Nat.le_of_ble_eq_true rfl), (Nat.le_of_ble_eq_true rfl)⟩) hO.2.2.1.1 ((cE_ne (by omega)).trans hO.2.2.1.2) rfl rfl rfl (Nat.le_of_ble_eq_true rfl) hRR ⟨(Nat.le_of_ble_eq_true rfl), (Nat.le_of_ble_eq_true rfl)⟩ dX10_cheapestVariants_34 (fun r z hp => ?_)
      obtain ⟨rfl, hz34⟩ := hp
      rcases hz34 with ⟨rfl, hz34⟩ | ⟨rfl, hz34⟩
      ·
        refine kv_if_eq (tgt := 74) X dX10_cheapestVariants_37 (by decide) (fun hc => absurd hc (by decide)) (fun hc37 => ?_)
        have hfo := cpt_ok hT.1 (fun i hi k hk hs => by rcases hB.1 i hi k hk with q | q | q; exact (hmI (nI i9) _ q.2).2; exact absurd (hs.symm.trans q.1) (by decide); exact absurd (hs.symm.trans q.1) (by decide)) (fun j hj => mset_in (by omega)) hz34
        refine kv_aload_n X 4 dX10_cheapestVariants_40 rfl rfl ?_
        refine kv_getfield X f_X10_cheapestVariants_21 (κ := 0) (fs := [.ref (ad 1), .ref (ad 2), .int on]) (v := .ref (ad 2)) hO.1.1 ((cE_ne (by omega)).trans hO.1.2) rfl dX10_cheapestVariants_41 ?_
        refine kv_callvV (ci := 5) (κ := 2) (r1 := (TX2, 9)) (As := []) [] X (c_X2_workOutCosts l dd ks ad E ((va_up (va_up (va_up y.1 17 (mset (y.1 17) (fun j => nI (mI (nI i9) j)) nt)) 18 (mset (y.1 18) (fun j => nI (mR (nI i9) j)) nR)) 19 (cpt (M.2.1 13) cn (fun k => mI (nI i9) (nm k)) nt (mset (y.1 19) (fun _ => 1) 12) 3)), y.2) M nR nC nt nL nW nV nM cn nm mn me li rl on hO hR hC hT hL hW hV hM hB (mI (nI i9)) (fun j hj => ⟨mset_in (f := y.1 17) (g := fun j => nI (mI (nI i9) j)) hj, (hmI (nI i9) j hj).2⟩) (mR (nI i9)) (fun j hj => ⟨mset_in (f := y.1 18) (g := fun j => nI (mR (nI i9) j)) hj, (hmR (nI i9) j hj).2⟩) (nJ (M.2.1 13) cn (fun k => mI (nI i9) (nm k)) 2) (cpt_dep hT.1 hfo (fun j hj => mset_in (by omega))) (kFx_dp hfo) hpk) hl0 (kCV_of X 0 gX10_cheapestVariants_X2_workOutCosts rfl rfl rfl (by decide +kernel) hRR ⟨(Nat.le_of_ble_eq_true rfl), (Nat.le_of_ble_eq_true rfl)⟩) hO.2.2.1.1 ((cE_ne (by omega)).trans hO.2.2.1.2) rfl rfl rfl (Nat.le_of_ble_eq_true rfl) hRR ⟨(Nat.le_of_ble_eq_true rfl), (Nat.le_of_ble_eq_true rfl)⟩ dX10_cheapestVariants_44 (fun zw hp => ?_)
        have hw44 := cDn_of hp (fun j hj => mset_in (f := y.1 17) (g := fun j => nI (mI (nI i9) j)) hj) (fun j hj => mset_in (f := y.1 18) (g := fun j => nI (mR (nI i9) j)) hj) (cpt_dep hT.1 hfo (fun j hj => mset_in (by omega)))
        refine kv_aload_n X 4 dX10_cheapestVariants_47 rfl rfl ?_
        refine kv_getfield X f_X10_cheapestVariants_21 (κ := 0) (fs := [.ref (ad 1), .ref (ad 2), .int on]) (v := .ref (ad 2)) hO.1.1 ((cE_ne (by omega)).trans hO.1.2) rfl dX10_cheapestVariants_48 ?_
        refine kv_calllV (ci := 5) (κ := 2) (r1 := (TX2, 9)) (As := []) [] X (c_X2_totalCost l dd ks ad E zw M nR nC nt nL nW nV nM cn nm mn me li rl on hO hR hC hT hL hW hV hM hB hpk) hl0 (kCV_of X 0 gX10_cheapestVariants_X2_totalCost rfl rfl rfl (by decide +kernel) hRR ⟨(Nat.le_of_ble_eq_true rfl), (Nat.le_of_ble_eq_true rfl)⟩) hO.2.2.1.1 ((cE_ne (by omega)).trans hO.2.2.1.2) rfl rfl rfl (Nat.le_of_ble_eq_true rfl) hRR ⟨(Nat.le_of_ble_eq_true rfl), (Nat.le_of_ble_eq_true rfl)⟩ dX10_cheapestVariants_51 (fun r z hp => ?_)
        obtain ⟨rfl, rfl⟩ := hp
        refine kv_topl (cTo M nR nM (cAm M nL nW cn nm mn me li (mI (nI i9)) (mR (nI i9)))) (cDn_tot hR.1 hw44) ?_
        refine kv_lstore (lv2 := [(6, .long (cTo M nR nM (cAm M nL nW cn nm mn me li (mI (nI i9)) (mR (nI i9))))), (5, .int (nI i9)), (4, .int (nI (2 ^ nV))), (2, .long le), (1, .int be), (0, .ref (ad 0))]) X dX10_cheapestVariants_54 (by rw [hnL]; decide) rfl ?_
        refine kv_iload_n X 4 dX10_cheapestVariants_56 rfl rfl ?_
        refine kv_iconst (v := (-1)) X dX10_cheapestVariants_57 (by decide) ?_
        refine kv_icmp_eq (tgt := 68) X dX10_cheapestVariants_58 (by decide) (fun hc58 => ?_) (fun hc58 => ?_)
        ·
          refine kv_iload X 1 dX10_cheapestVariants_68 rfl ?_
          refine kv_istore_n (lv2 := [(1, .int (nI i9)), (6, .long (cTo M nR nM (cAm M nL nW cn nm mn me li (mI (nI i9)) (mR (nI i9))))), (5, .int (nI i9)), (4, .int (nI (2 ^ nV))), (2, .long le), (0, .ref (ad 0))]) X dX10_cheapestVariants_70 rfl (by rw [hnL]; decide) rfl ?_
          refine kv_lload X 1 dX10_cheapestVariants_71 rfl ?_
          refine kv_lstore_n (lv2 := [(2, .long (cTo M nR nM (cAm M nL nW cn nm mn me li (mI (nI i9)) (mR (nI i9))))), (1, .int (nI i9)), (6, .long (cTo M nR nM (cAm M nL nW cn nm mn me li (mI (nI i9)) (mR (nI i9))))), (5, .int (nI i9)), (4, .int (nI (2 ^ nV))), (0, .ref (ad 0))]) X dX10_cheapestVariants_73 rfl (by rw [hnL]; decide) rfl ?_
          refine kv_iinc (j := 3) (v := (nI (i9 + 1))) (lv2 := [(5, .int (nI (i9 + 1))), (2, .long (cTo M nR nM (cAm M nL nW cn nm mn me li (mI (nI i9)) (mR (nI i9))))), (1, .int (nI i9)), (6, .long (cTo M nR nM (cAm M nL nW cn nm mn me li (mI (nI i9)) (mR (nI i9))))), (4, .int (nI (2 ^ nV))), (0, .ref (ad 0))]) X dX10_cheapestVariants_74 rfl (nI_add i9 1) (by rw [hnL]; decide) rfl ?_
          refine kv_goto (tgt := 21) X dX10_cheapestVariants_77 (by decide) ?_
          exact kv_lv [0, 4, 1, 2, 5] rfl (ih21 (i9 + 1) (by omega) (nI i9) (cTo M nR nM (cAm M nL nW cn nm mn me li (mI (nI i9)) (mR (nI i9)))) zw ⟨be, le, hbst, Or.inl ⟨hfo, by first | exact Or.inl hc58 | exact Or.inr ((lg_cmp_lt _ _).mp (Int32.not_le.mp hc65)), rfl, rfl⟩⟩)
        ·
          refine kv_lload X 0 dX10_cheapestVariants_61 rfl ?_
          refine kv_lload_n X 3 dX10_cheapestVariants_63 rfl rfl ?_
          refine kv_lcmp X dX10_cheapestVariants_64 ?_
          refine kv_if_ge (tgt := 74) X dX10_cheapestVariants_65 (by decide) (fun hc65 => ?_) (fun hc65 => ?_)
          ·
            refine kv_iinc (j := 1) (v := (nI (i9 + 1))) (lv2 := [(5, .int (nI (i9 + 1))), (6, .long (cTo M nR nM (cAm M nL nW cn nm mn me li (mI (nI i9)) (mR (nI i9))))), (4, .int (nI (2 ^ nV))), (2, .long le), (1, .int be), (0, .ref (ad 0))]) X dX10_cheapestVariants_74 rfl (nI_add i9 1) (by rw [hnL]; decide) rfl ?_
            refine kv_goto (tgt := 21) X dX10_cheapestVariants_77 (by decide) ?_
            exact kv_lv [0, 2, 3, 4, 5] rfl (ih21 (i9 + 1) (by omega) be le zw ⟨be, le, hbst, Or.inr ⟨fun q => by first | exact hz34 (kFx_le hT.1 q.1 (fun j hj => mset_in (by omega))) | exact q.2.elim hc58 (fun y => absurd ((lg_cmp_ge _ _).mp hc65) (Int64.not_le.mpr y)), rfl, rfl⟩⟩)
          ·
            refine kv_iload X 1 dX10_cheapestVariants_68 rfl ?_
            refine kv_istore_n (lv2 := [(1, .int (nI i9)), (6, .long (cTo M nR nM (cAm M nL nW cn nm mn me li (mI (nI i9)) (mR (nI i9))))), (5, .int (nI i9)), (4, .int (nI (2 ^ nV))), (2, .long le), (0, .ref (ad 0))]) X dX10_cheapestVariants_70 rfl (by rw [hnL]; decide) rfl ?_
            refine kv_lload X 1 dX10_cheapestVariants_71 rfl ?_
            refine kv_lstore_n (lv2 := [(2, .long (cTo M nR nM (cAm M nL nW cn nm mn me li (mI (nI i9)) (mR (nI i9))))), (1, .int (nI i9)), (6, .long (cTo M nR nM (cAm M nL nW cn nm mn me li (mI (nI i9)) (mR (nI i9))))), (5, .int (nI i9)), (4, .int (nI (2 ^ nV))), (0, .ref (ad 0))]) X dX10_cheapestVariants_73 rfl (by rw [hnL]; decide) rfl ?_
            refine kv_iinc (j := 3) (v := (nI (i9 + 1))) (lv2 := [(5, .int (nI (i9 + 1))), (2, .long (cTo M nR nM (cAm M nL nW cn nm mn me li (mI (nI i9)) (mR (nI i9))))), (1, .int (nI i9)), (6, .long (cTo M nR nM (cAm M nL nW cn nm mn me li (mI (nI i9)) (mR (nI i9))))), (4, .int (nI (2 ^ nV))), (0, .ref (ad 0))]) X dX10_cheapestVariants_74 rfl (nI_add i9 1) (by rw [hnL]; decide) rfl ?_
            refine kv_goto (tgt := 21) X dX10_cheapestVariants_77 (by decide) ?_
            exact kv_lv [0, 4, 1, 2, 5] rfl (ih21 (i9 + 1) (by omega) (nI i9) (cTo M nR nM (cAm M nL nW cn nm mn me li (mI (nI i9)) (mR (nI i9)))) zw ⟨be, le, hbst, Or.inl ⟨hfo, by first | exact Or.inl hc58 | exact Or.inr ((lg_cmp_lt _ _).mp (Int32.not_le.mp hc65)), rfl, rfl⟩⟩)
      ·
        refine kv_if_eq (tgt := 74) X dX10_cheapestVariants_37 (by decide) (fun hc37 => ?_) (fun hc => absurd hc (by decide))
        refine kv_iinc (j := 0) (v := (nI (i9 + 1))) (lv2 := [(5, .int (nI (i9 + 1))), (4, .int (nI (2 ^ nV))), (2, .long le), (1, .int be), (0, .ref (ad 0))]) X dX10_cheapestVariants_74 rfl (nI_add i9 1) (by rw [hnL]; decide) rfl ?_
        refine kv_goto (tgt := 21) X dX10_cheapestVariants_77 (by decide) ?_
        exact kv_lv [0, 1, 2, 3, 4] rfl (ih21 (i9 + 1) (by omega) be le ((va_up (va_up (va_up y.1 17 (mset (y.1 17) (fun j => nI (mI (nI i9) j)) nt)) 18 (mset (y.1 18) (fun j => nI (mR (nI i9) j)) nR)) 19 (cpt (M.2.1 13) cn (fun k => mI (nI i9) (nm k)) nt (mset (y.1 19) (fun _ => 1) 12) 3)), y.2) ⟨be, le, hbst, Or.inr ⟨fun q => by first | exact hz34 (kFx_le hT.1 q.1 (fun j hj => mset_in (by omega))) | exact q.2.elim hc58 (fun y => absurd ((lg_cmp_ge _ _).mp hc65) (Int64.not_le.mpr y)), rfl, rfl⟩⟩)
  exact kv_lv [0, 1, 2, 3, 4] rfl (L21 (2 ^ nV) 0 (by omega) (-1) 0 e ⟨rfl, rfl⟩)
theorem f_X10_dearest_25 : kF wsX10_dearest RX10 25 13 2 := ⟨_, RX10, TX10, 3, fun _ h => (List.mem_cons_of_mem _ (List.mem_append_left _ (List.mem_append_left _ (List.mem_append_left _ (List.mem_append_left _ (List.mem_append_left _ (List.mem_append_left _ (List.mem_append_left _ (List.mem_append_left _ (List.mem_append_left _ (List.mem_append_left _ (List.mem_append_left _ (List.mem_append_left _ (List.mem_append_left _ (List.mem_append_right _ h))))))))))))))), (List.mem_cons_of_mem _ (List.mem_append_left _ (List.mem_append_left _ (List.mem_append_left _ (List.mem_append_left _ (List.mem_append_left _ (List.mem_append_left _ (List.mem_append_left _ (List.mem_append_left _ (List.mem_append_left _ (List.mem_append_left _ (List.mem_append_left _ (List.mem_append_left _ (List.mem_append_left _ (List.mem_append_left _ (List.mem_append_left _ (List.mem_of_getElem? (i := 2) rfl))))))))))))))))), rfl, by decide, rfl⟩
theorem f_X10_dearest_10 : kF wsX10_dearest RX10 10 13 0 := ⟨_, RX10, TX10, 3, fun _ h => (List.mem_cons_of_mem _ (List.mem_append_left _ (List.mem_append_left _ (List.mem_append_left _ (List.mem_append_left _ (List.mem_append_left _ (List.mem_append_left _ (List.mem_append_left _ (List.mem_append_left _ (List.mem_append_left _ (List.mem_append_left _ (List.mem_append_left _ (List.mem_append_left _ (List.mem_append_left _ (List.mem_append_right _ h))))))))))))))), (List.mem_cons_of_mem _ (List.mem_append_left _ (List.mem_append_left _ (List.mem_append_left _ (List.mem_append_left _ (List.mem_append_left _ (List.mem_append_left _ (List.mem_append_left _ (List.mem_append_left _ (List.mem_append_left _ (List.mem_append_left _ (List.mem_append_left _ (List.mem_append_left _ (List.mem_append_left _ (List.mem_append_left _ (List.mem_append_left _ (List.mem_of_getElem? (i := 3) rfl))))))))))))))))), rfl, by decide, rfl⟩
theorem f_X10_dearest_37 : kF wsX10_dearest RX10 37 9 0 := ⟨_, RX6, TX6, 7, fun _ h => (List.mem_cons_of_mem _ (List.mem_append_left _ (List.mem_append_left _ (List.mem_append_left _ (List.mem_append_left _ (List.mem_append_left _ (List.mem_append_left _ (List.mem_append_left _ (List.mem_append_left _ (List.mem_append_left _ (List.mem_append_left _ (List.mem_append_left _ (List.mem_append_left _ (List.mem_append_right _ h)))))))))))))), (List.mem_cons_of_mem _ (List.mem_append_left _ (List.mem_append_left _ (List.mem_append_left _ (List.mem_append_left _ (List.mem_append_left _ (List.mem_append_left _ (List.mem_append_left _ (List.mem_append_left _ (List.mem_append_left _ (List.mem_append_left _ (List.mem_append_left _ (List.mem_append_left _ (List.mem_append_left _ (List.mem_append_left _ (List.mem_append_left _ (List.mem_of_getElem? (i := 4) rfl))))))))))))))))), rfl, by decide, rfl⟩
theorem f_X10_dearest_21 : kF wsX10_dearest RX10 21 13 1 := ⟨_, RX10, TX10, 3, fun _ h => (List.mem_cons_of_mem _ (List.mem_append_left _ (List.mem_append_left _ (List.mem_append_left _ (List.mem_append_left _ (List.mem_append_left _ (List.mem_append_left _ (List.mem_append_left _ (List.mem_append_left _ (List.mem_append_left _ (List.mem_append_left _ (List.mem_append_left _ (List.mem_append_left _ (List.mem_append_left _ (List.mem_append_right _ h))))))))))))))), (List.mem_cons_of_mem _ (List.mem_append_left _ (List.mem_append_left _ (List.mem_append_left _ (List.mem_append_left _ (List.mem_append_left _ (List.mem_append_left _ (List.mem_append_left _ (List.mem_append_left _ (List.mem_append_left _ (List.mem_append_left _ (List.mem_append_left _ (List.mem_append_left _ (List.mem_append_left _ (List.mem_append_left _ (List.mem_append_left _ (List.mem_of_getElem? (i := 5) rfl))))))))))))))))), rfl, by decide, rfl⟩
set_option maxRecDepth 100000 in
set_option maxHeartbeats 4000000 in
theorem c_X10_dearest (l : Launch) (dd : kDD) (ks : List Nat) (ad : Nat → Nat) (E : Nat → va_E) (e : eS) (M : mS) (nR nC nt nL nW nV nM : Nat) (cn nm mn me li rl : Nat → Nat) (on : Int32) (hO : cO dd ks ad E on) (hR : cR dd ks ad E M nR) (hC : cC dd ks ad E M nC mn me) (hT : cT dd ks ad E M nt cn nm) (hL : cL dd ks ad E M nL nW li) (hW : cW dd ks ad E M nW rl) (hV : cV dd ks ad E M nV) (hM : cM dd ks ad E M nM) (hB : cB M nR nC nt nL nW nV cn nm mn me li rl) (mI mR : Int32 → Nat → Nat) (hmI : ∀ o j, j < nt → mnt o (M.2.1 22) j nV 0 = nI (mI o j) ∧ mI o j < nt) (hmR : ∀ o j, j < nR → mnt o (M.2.1 23) j nV 0 = nI (mR o j) ∧ mR o j < nR) (hpk : ∀ r, r < nR → 1 ≤ M.2.1 5 r) (v : Int32) (hfx : kFx (M.2.1 13) cn (fun k => mI on (nm k)) (nJ (M.2.1 13) cn (fun k => mI on (nm k)) 2) nt) : kCiX l yX10_dearest wsX10_dearest ({ frames := 9, cells := 1, slots := 6, locals := 202 } : Room) 1 6 dd [.ref (ad 0), .int v] (ks, ad, (cE dd E e)) (kQi (S := eS) (fun r z => cDn M nR nt nL nW nM cn nm mn me li (mI on) (mR on) (nJ (M.2.1 13) cn (fun k => mI on (nm k)) 2) z ∧ ∃ j, j < nR ∧ (0 < (fun j => z.2 23 j * (M.2.1 3 j).toInt64) j ∧ mah (fun j => z.2 23 j * (M.2.1 3 j).toInt64) j nR = v) ∧ (∀ k, k < j → ¬ (0 < (fun j => z.2 23 j * (M.2.1 3 j).toInt64) k ∧ mah (fun j => z.2 23 j * (M.2.1 3 j).toInt64) k nR = v)) ∧ r = nI j) (fun _ => ks) (fun _ => ad) (fun z => cE dd E z)) (fun X9 u9 => ∃ e9, u9 = (ks, ad, cE dd E e9) ∧ ((X9 = "java/util/NoSuchElementException" ∧ (cDn M nR nt nL nW nM cn nm mn me li (mI on) (mR on) (nJ (M.2.1 13) cn (fun k => mI on (nm k)) 2) e9 ∧ (∀ k, k < nR → ¬ (0 < (fun j => e9.2 23 j * (M.2.1 3 j).toInt64) k ∧ mah (fun j => e9.2 23 j * (M.2.1 3 j).toInt64) k nR = v)))))) := by
  refine kMetiX (ws' := _) (cc := cX10_dearest) (maxL := 3) (rt := .int) (by decide) rfl (Nat.le_of_ble_eq_true rfl) (fun g X hr hRX hnL hRR hl0 hkn => ?_)
  show kv dd g 0 0 0 [(0, .ref (ad 0)), (1, .int v)] [] ks ad (cE dd E e)
  have hT12 := hT.1
  have hR12 := hR.1
  have hL10 := hL.1
  have hV4 := hV.1
  have hM4 := hM.1
  have hC4 := hC.1
  have hW40 := hW.1
  obtain ⟨f20, f21, hf20, hf21, hff⟩ := hO.2.2.2.2
  refine kv_aload_n X 0 dX10_dearest_0 rfl rfl ?_
  refine kv_aload_n X 0 dX10_dearest_1 rfl rfl ?_
  refine kv_getfield X f_X10_dearest_25 (κ := 0) (fs := [.ref (ad 1), .ref (ad 2), .int on]) (v := .int on) hO.1.1 ((cE_ne (by omega)).trans hO.1.2) rfl dX10_dearest_2 ?_
  refine kv_callvV (ci := 13) (κ := 0) (r1 := (TX10, 3)) (As := [.int on]) [] X (c_X10_workOut l dd ks ad E e M nR nC nt nL nW nV nM cn nm mn me li rl on hO hR hC hT hL hW hV hM hB mI mR hmI hmR hpk on hfx) hl0 (kCV_of X 1 gX10_dearest_X10_workOut rfl rfl rfl (by decide +kernel) hRR ⟨(Nat.le_of_ble_eq_true rfl), (Nat.le_of_ble_eq_true rfl)⟩) hO.1.1 ((cE_ne (by omega)).trans hO.1.2) rfl rfl rfl (Nat.le_of_ble_eq_true rfl) hRR ⟨(Nat.le_of_ble_eq_true rfl), (Nat.le_of_ble_eq_true rfl)⟩ dX10_dearest_5 (fun zw hp => ?_)
  have hdn := hp
  refine kv_iconst (v := 0) X dX10_dearest_8 (by decide) ?_
  refine kv_istore_n (lv2 := [(2, .int 0), (0, .ref (ad 0)), (1, .int v)]) X dX10_dearest_9 rfl (by rw [hnL]; decide) rfl ?_
  have L10 : ∀ (n9 i9 : Nat), i9 + n9 = nR → ∀ (_ : Unit) (hno : (∀ k, k < i9 → ¬ (0 < (fun j => zw.2 23 j * (M.2.1 3 j).toInt64) k ∧ mah (fun j => zw.2 23 j * (M.2.1 3 j).toInt64) k nR = v))), kv dd g 0 0 10 [(2, .int (nI i9)), (0, .ref (ad 0)), (1, .int v)] [] ks ad (cE dd E zw) := by
    intro n9
    induction n9 with
    | zero =>
      intro i9 hin10 _ hno
      refine kv_iload_n X 0 dX10_dearest_10 rfl rfl ?_
      refine kv_aload_n X 1 dX10_dearest_11 rfl rfl ?_
      refine kv_getfield X f_X10_dearest_10 (κ := 0) (fs := [.ref (ad 1), .ref (ad 2), .int on]) (v := .ref (ad 1)) hO.1.1 ((cE_ne (by omega)).trans hO.1.2) rfl dX10_dearest_12 ?_
      refine kv_getfield X f_X10_dearest_37 (κ := 1) (fs := [.ref (ad 3), .ref (ad 4), .ref (ad 5), .ref (ad 6), .ref (ad 7), .ref (ad 8), .ref (ad 9)]) (v := .ref (ad 3)) hO.2.1.1 ((cE_ne (by omega)).trans hO.2.1.2) rfl dX10_dearest_15 ?_
      obtain ⟨_, _, o18⟩ := kLs_obj (dd := dd) (ks := ks) (ad := ad) (E := (cE dd E zw)) (kLs_cE hR.2.1 (by omega) (by omega) (fun i hi => by omega))
      refine kv_calliV (ci := 2) (κ := 3) (r1 := (TJx4a65c, 3)) (As := []) [.int (nI i9)] X (c_Jx4a65c_size_8abf5 l dd ks ad (cE dd E zw) (3) (10) (nR) (fun r => 64 + r) 10 (kLs_cE hR.2.1 (by omega) (by omega) (fun i hi => by omega))) hl0 (kCV_of X 0 gX10_dearest_Jx4a65c_size_8abf5 rfl rfl rfl (by decide +kernel) hRR ⟨(Nat.le_of_ble_eq_true rfl), (Nat.le_of_ble_eq_true rfl)⟩) hR.2.1.1 o18 rfl rfl rfl (Nat.le_of_ble_eq_true rfl) hRR ⟨(Nat.le_of_ble_eq_true rfl), (Nat.le_of_ble_eq_true rfl)⟩ dX10_dearest_18 (fun r z hp => ?_)
      obtain rfl := hp
      refine kn_icmp_ge (x := i9) (y := nR) (tgt := 57) X (by omega) (by omega) dX10_dearest_21 (by decide) (fun hc21 => ?_) (fun hc21 => absurd hc21 (by omega))
      exact kv_throwN (text := "there is no such rank") (is := 296) X hRX rfl (List.mem_cons_of_mem _ (List.mem_append_left _ (List.mem_append_left _ (List.mem_append_left _ (List.mem_append_left _ (List.mem_append_left _ (List.mem_append_left _ (List.mem_append_left _ (List.mem_append_left _ (List.mem_append_left _ (List.mem_append_left _ (List.mem_append_left _ (List.mem_append_left _ (List.mem_append_left _ (List.mem_append_left _ (List.mem_append_left _ (List.mem_of_getElem? (i := 0) rfl))))))))))))))))) (List.mem_cons_of_mem _ (List.mem_append_left _ (List.mem_append_left _ (List.mem_append_left _ (List.mem_append_left _ (List.mem_append_left _ (List.mem_append_left _ (List.mem_append_left _ (List.mem_append_left _ (List.mem_append_left _ (List.mem_append_left _ (List.mem_append_left _ (List.mem_append_left _ (List.mem_append_left _ (List.mem_append_left _ (List.mem_append_left _ (List.mem_of_getElem? (i := 1) rfl))))))))))))))))) (by decide +kernel) (fun _ h => (List.mem_cons_of_mem _ (List.mem_append_left _ (List.mem_append_left _ (List.mem_append_right _ h))))) dX10_dearest_57 dX10_dearest_60 dX10_dearest_61 dX10_dearest_64 dX10_dearest_67 hRR (Nat.le_of_ble_eq_true rfl) ⟨(Nat.le_of_ble_eq_true rfl), (Nat.le_of_ble_eq_true rfl), (Nat.le_of_ble_eq_true rfl), (Nat.le_of_ble_eq_true rfl)⟩ (Nat.le_of_ble_eq_true rfl) (Nat.le_of_ble_eq_true rfl) ⟨zw, rfl, rfl, hdn, fun k hk => hno k (by omega)⟩
    | succ n9 ih10 =>
      intro i9 hin10 _ hno
      refine kv_iload_n X 0 dX10_dearest_10 rfl rfl ?_
      refine kv_aload_n X 1 dX10_dearest_11 rfl rfl ?_
      refine kv_getfield X f_X10_dearest_10 (κ := 0) (fs := [.ref (ad 1), .ref (ad 2), .int on]) (v := .ref (ad 1)) hO.1.1 ((cE_ne (by omega)).trans hO.1.2) rfl dX10_dearest_12 ?_
      refine kv_getfield X f_X10_dearest_37 (κ := 1) (fs := [.ref (ad 3), .ref (ad 4), .ref (ad 5), .ref (ad 6), .ref (ad 7), .ref (ad 8), .ref (ad 9)]) (v := .ref (ad 3)) hO.2.1.1 ((cE_ne (by omega)).trans hO.2.1.2) rfl dX10_dearest_15 ?_
      obtain ⟨_, _, o18⟩ := kLs_obj (dd := dd) (ks := ks) (ad := ad) (E := (cE dd E zw)) (kLs_cE hR.2.1 (by omega) (by omega) (fun i hi => by omega))
      refine kv_calliV (ci := 2) (κ := 3) (r1 := (TJx4a65c, 3)) (As := []) [.int (nI i9)] X (c_Jx4a65c_size_8abf5 l dd ks ad (cE dd E zw) (3) (10) (nR) (fun r => 64 + r) 10 (kLs_cE hR.2.1 (by omega) (by omega) (fun i hi => by omega))) hl0 (kCV_of X 0 gX10_dearest_Jx4a65c_size_8abf5 rfl rfl rfl (by decide +kernel) hRR ⟨(Nat.le_of_ble_eq_true rfl), (Nat.le_of_ble_eq_true rfl)⟩) hR.2.1.1 o18 rfl rfl rfl (Nat.le_of_ble_eq_true rfl) hRR ⟨(Nat.le_of_ble_eq_true rfl), (Nat.le_of_ble_eq_true rfl)⟩ dX10_dearest_18 (fun r z hp => ?_)
      obtain rfl := hp
      refine kn_icmp_ge (x := i9) (y := nR) (tgt := 57) X (by omega) (by omega) dX10_dearest_21 (by decide) (fun hc21 => absurd hc21 (by omega)) (fun hc21 => ?_)
      refine kv_aload_n X 1 dX10_dearest_24 rfl rfl ?_
      refine kv_getfield X f_X10_dearest_21 (κ := 0) (fs := [.ref (ad 1), .ref (ad 2), .int on]) (v := .ref (ad 2)) hO.1.1 ((cE_ne (by omega)).trans hO.1.2) rfl dX10_dearest_25 ?_
      refine kv_iload_n X 0 dX10_dearest_28 rfl rfl ?_
      refine kv_calllV (ci := 5) (κ := 2) (r1 := (TX2, 9)) (As := [.int (nI i9)]) [] X (c_X2_resourceCost l dd ks ad E zw M nR nC nt nL nW nV nM cn nm mn me li rl on hO hR hC hT hL hW hV hM hB i9 (by omega)) hl0 (kCV_of X 1 gX10_dearest_X2_resourceCost rfl rfl rfl (by decide +kernel) hRR ⟨(Nat.le_of_ble_eq_true rfl), (Nat.le_of_ble_eq_true rfl)⟩) hO.2.2.1.1 ((cE_ne (by omega)).trans hO.2.2.1.2) rfl rfl rfl (Nat.le_of_ble_eq_true rfl) hRR ⟨(Nat.le_of_ble_eq_true rfl), (Nat.le_of_ble_eq_true rfl)⟩ dX10_dearest_29 (fun r z hp => ?_)
      obtain ⟨rfl, rfl⟩ := hp
      refine kv_topl ((fun j => zw.2 23 j * (M.2.1 3 j).toInt64) i9) rfl ?_
      refine kv_lconst (v := 0) X dX10_dearest_32 (by decide) ?_
      refine kv_lcmp X dX10_dearest_33 ?_
      refine kv_if_le (tgt := 51) X dX10_dearest_34 (by decide) (fun hc34 => ?_) (fun hc34 => ?_)
      ·
        refine kv_iinc (j := 0) (v := (nI (i9 + 1))) (lv2 := [(2, .int (nI (i9 + 1))), (0, .ref (ad 0)), (1, .int v)]) X dX10_dearest_51 rfl (nI_add i9 1) (by rw [hnL]; decide) rfl ?_
        refine kv_goto (tgt := 10) X dX10_dearest_54 (by decide) ?_
        exact kv_lv [0, 1, 2] rfl (ih10 (i9 + 1) (by omega) () (fun k hk => by rcases Nat.lt_succ_iff_lt_or_eq.mp hk with q | q; exact hno k q; subst q; exact fun y => by first | exact absurd ((lg_cmp_gt _ _).mpr y.1) (Int32.not_lt.mpr hc34) | exact hc46 y.2))
      ·
        refine kv_aload_n X 1 dX10_dearest_37 rfl rfl ?_
        refine kv_getfield X f_X10_dearest_21 (κ := 0) (fs := [.ref (ad 1), .ref (ad 2), .int on]) (v := .ref (ad 2)) hO.1.1 ((cE_ne (by omega)).trans hO.1.2) rfl dX10_dearest_38 ?_
        refine kv_iload_n X 0 dX10_dearest_41 rfl rfl ?_
        refine kv_calliV (ci := 5) (κ := 2) (r1 := (TX2, 9)) (As := [.int (nI i9)]) [] X (c_X2_rankOf l dd ks ad E zw M nR nC nt nL nW nV nM cn nm mn me li rl on hO hR hC hT hL hW hV hM hB i9 (by omega)) hl0 (kCV_of X 1 gX10_dearest_X2_rankOf rfl rfl rfl (by decide +kernel) hRR ⟨(Nat.le_of_ble_eq_true rfl), (Nat.le_of_ble_eq_true rfl)⟩) hO.2.2.1.1 ((cE_ne (by omega)).trans hO.2.2.1.2) rfl rfl rfl (Nat.le_of_ble_eq_true rfl) hRR ⟨(Nat.le_of_ble_eq_true rfl), (Nat.le_of_ble_eq_true rfl)⟩ dX10_dearest_42 (fun r z hp => ?_)
        obtain ⟨rfl, rfl⟩ := hp
        refine kv_iload_n X 2 dX10_dearest_45 rfl rfl ?_
        refine kv_icmp_ne (tgt := 51) X dX10_dearest_46 (by decide) (fun hc46 => ?_) (fun hc46 => ?_)
        ·
          refine kv_iinc (j := 0) (v := (nI (i9 + 1))) (lv2 := [(2, .int (nI (i9 + 1))), (0, .ref (ad 0)), (1, .int v)]) X dX10_dearest_51 rfl (nI_add i9 1) (by rw [hnL]; decide) rfl ?_
          refine kv_goto (tgt := 10) X dX10_dearest_54 (by decide) ?_
          exact kv_lv [0, 1, 2] rfl (ih10 (i9 + 1) (by omega) () (fun k hk => by rcases Nat.lt_succ_iff_lt_or_eq.mp hk with q | q; exact hno k q; subst q; exact fun y => by first | exact absurd ((lg_cmp_gt _ _).mpr y.1) (Int32.not_lt.mpr hc34) | exact hc46 y.2))
        ·
          refine kv_iload_n X 0 dX10_dearest_49 rfl rfl ?_
          exact kv_ireturn X hr (Nat.le_of_ble_eq_true rfl) (Nat.le_of_ble_eq_true rfl) ⟨zw, ⟨hdn, i9, by omega, ⟨(lg_cmp_gt _ _).mp (Int32.not_le.mp hc34), hc46⟩, hno, rfl⟩, rfl⟩ dX10_dearest_50
  exact kv_lv [0, 1, 2] rfl (L10 nR 0 (by omega) () (fun k hk => absurd hk (by omega)))
theorem f_X10_turn_25 : kF wsX10_turn RX10 25 13 2 := ⟨_, RX10, TX10, 3, fun _ h => (List.mem_cons_of_mem _ (List.mem_append_left _ (List.mem_append_left _ (List.mem_append_left _ (List.mem_append_left _ (List.mem_append_left _ (List.mem_append_left _ (List.mem_append_left _ (List.mem_append_left _ (List.mem_append_left _ (List.mem_append_right _ h))))))))))), (List.mem_cons_of_mem _ (List.mem_append_left _ (List.mem_append_left _ (List.mem_append_left _ (List.mem_append_left _ (List.mem_append_left _ (List.mem_append_left _ (List.mem_append_left _ (List.mem_append_left _ (List.mem_append_left _ (List.mem_append_left _ (List.mem_append_left _ (List.mem_of_getElem? (i := 0) rfl))))))))))))), rfl, by decide, rfl⟩
theorem fp_X10_turn_25 : kFp wsX10_turn RX10 25 13 2 .int false := ⟨_, RX10, TX10, 3, tyX10, fun _ h => (List.mem_cons_of_mem _ (List.mem_append_left _ (List.mem_append_left _ (List.mem_append_left _ (List.mem_append_left _ (List.mem_append_left _ (List.mem_append_left _ (List.mem_append_left _ (List.mem_append_left _ (List.mem_append_left _ (List.mem_append_right _ h))))))))))), tyX10_ok, nmX10, (List.mem_cons_of_mem _ (List.mem_append_left _ (List.mem_append_left _ (List.mem_append_left _ (List.mem_append_left _ (List.mem_append_left _ (List.mem_append_left _ (List.mem_append_left _ (List.mem_append_left _ (List.mem_append_left _ (List.mem_append_left _ (List.mem_append_left _ (List.mem_of_getElem? (i := 0) rfl))))))))))))), rfl, by decide, rfl, rfl, by decide +kernel, rfl⟩
set_option maxRecDepth 100000 in
set_option maxHeartbeats 4000000 in
theorem c_X10_turn (l : Launch) (dd : kDD) (ks : List Nat) (ad : Nat → Nat) (E : Nat → va_E) (e : eS) (M : mS) (nR nC nt nL nW nV nM : Nat) (cn nm mn me li rl : Nat → Nat) (on : Int32) (hO : cO dd ks ad E on) (hR : cR dd ks ad E M nR) (hC : cC dd ks ad E M nC mn me) (hT : cT dd ks ad E M nt cn nm) (hL : cL dd ks ad E M nL nW li) (hW : cW dd ks ad E M nW rl) (hV : cV dd ks ad E M nV) (hM : cM dd ks ad E M nM) (hB : cB M nR nC nt nL nW nV cn nm mn me li rl) (mI mR : Int32 → Nat → Nat) (hmI : ∀ o j, j < nt → mnt o (M.2.1 22) j nV 0 = nI (mI o j) ∧ mI o j < nt) (hmR : ∀ o j, j < nR → mnt o (M.2.1 23) j nV 0 = nI (mR o j) ∧ mR o j < nR) (hpk : ∀ r, r < nR → 1 ≤ M.2.1 5 r) (v : Int32) (p : Int32) : kCiX l yX10_turn wsX10_turn ({ frames := 7, cells := 2, slots := 12, locals := 154 } : Room) 2 12 dd [.ref (ad 0), .int v, .int p] (ks, ad, (cE dd E e)) (kQi (S := kT) (fun r z => ∃ j, (j < nV ∧ v = nI j) ∧ ((on >>> (nI j &&& 31) &&& 1 = 1 ∧ r = 1) ∨ (¬ on >>> (nI j &&& 31) &&& 1 = 1 ∧ r = 0)) ∧ ((r = p ∧ (z.2.1 0 = ad 0 ∧ cAll dd M nR nC nt nL nW nV nM cn nm mn me li rl on z)) ∨ (¬ r = p ∧ kFx (M.2.1 13) cn (fun k => mI (on ^^^ ((1 : Int32) <<< (nI j &&& 31))) (nm k)) (nJ (M.2.1 13) cn (fun k => mI (on ^^^ ((1 : Int32) <<< (nI j &&& 31))) (nm k)) 2) nt ∧ (z.2.1 0 = ad 0 ∧ cAll dd M nR nC nt nL nW nV nM cn nm mn me li rl (on ^^^ ((1 : Int32) <<< (nI j &&& 31))) z)))) (fun z => z.1) (fun z => z.2.1) (fun z => z.2.2)) (fun X9 u9 => ∃ e9, u9 = (ks, ad, cE dd E e9) ∧ ((X9 = "java/lang/IndexOutOfBoundsException" ∧ ¬ (∃ j, j < nV ∧ v = nI j)) ∨ (X9 = "java/lang/UnsupportedOperationException" ∧ (∃ j, (j < nV ∧ v = nI j) ∧ ((on >>> (nI j &&& 31) &&& 1 = 1 ∧ ¬ p = 1) ∨ (¬ on >>> (nI j &&& 31) &&& 1 = 1 ∧ ¬ p = 0)) ∧ ¬ kFx (M.2.1 13) cn (fun k => mI (on ^^^ ((1 : Int32) <<< (nI j &&& 31))) (nm k)) (nJ (M.2.1 13) cn (fun k => mI (on ^^^ ((1 : Int32) <<< (nI j &&& 31))) (nm k)) 2) nt)))) := by
  refine kMetiX (ws' := _) (cc := cX10_turn) (maxL := 5) (rt := .boolean) (by decide) rfl (Nat.le_of_ble_eq_true rfl) (fun g X hr hRX hnL hRR hl0 hkn => ?_)
  show kv dd g 0 0 0 [(0, .ref (ad 0)), (1, .int v), (2, .int p)] [] ks ad (cE dd E e)
  have hT12 := hT.1
  have hR12 := hR.1
  have hL10 := hL.1
  have hV4 := hV.1
  have hM4 := hM.1
  have hC4 := hC.1
  have hW40 := hW.1
  obtain ⟨f20, f21, hf20, hf21, hff⟩ := hO.2.2.2.2
  refine kv_aload_n X 0 dX10_turn_0 rfl rfl ?_
  refine kv_iload_n X 1 dX10_turn_1 rfl rfl ?_
  refine kv_callvXV (ci := 13) (κ := 0) (r1 := (TX10, 3)) (As := [.int v]) [] X (c_X10_checkVariant l dd ks ad E e M nR nC nt nL nW nV nM cn nm mn me li rl on hO hR hC hT hL hW hV hM hB v) hl0 (kCV_of X 1 gX10_turn_X10_checkVariant rfl rfl rfl (by decide +kernel) hRR ⟨(Nat.le_of_ble_eq_true rfl), (Nat.le_of_ble_eq_true rfl)⟩) hO.1.1 ((cE_ne (by omega)).trans hO.1.2) rfl hRX ⟨(Nat.le_of_ble_eq_true rfl), (Nat.le_of_ble_eq_true rfl)⟩ (fun _ _ h => ⟨e, h.2.1, (Or.inl (⟨h.1, h.2.2⟩))⟩) rfl rfl (Nat.le_of_ble_eq_true rfl) hRR ⟨(Nat.le_of_ble_eq_true rfl), (Nat.le_of_ble_eq_true rfl)⟩ dX10_turn_2 (fun z hp => ?_)
  obtain ⟨rfl, j2, h2, rfl⟩ := hp
  refine kv_aload_n X 0 dX10_turn_5 rfl rfl ?_
  refine kv_getfield X f_X10_turn_25 (κ := 0) (fs := [.ref (ad 1), .ref (ad 2), .int on]) (v := .int on) hO.1.1 ((cE_ne (by omega)).trans hO.1.2) rfl dX10_turn_6 ?_
  refine kv_iload_n X 1 dX10_turn_9 rfl rfl ?_
  refine kv_calliS (As := [.int on, .int (nI j2)]) [] X (c_X10_hasBit l dd ks ad (cE dd E e) on (nI j2)) hl0 (kCS_of X 2 gX10_turn_X10_hasBit rfl rfl rfl (by decide +kernel) hRR ⟨(Nat.le_of_ble_eq_true rfl), (Nat.le_of_ble_eq_true rfl)⟩) rfl rfl (Nat.le_of_ble_eq_true rfl) hRR ⟨(Nat.le_of_ble_eq_true rfl), (Nat.le_of_ble_eq_true rfl)⟩ dX10_turn_10 (fun r z hp => ?_)
  obtain ⟨hb10, rfl⟩ | ⟨hb10, rfl⟩ := hp
  ·
    refine kv_istore_n (lv2 := [(3, .int 1), (0, .ref (ad 0)), (1, .int (nI j2)), (2, .int p)]) X dX10_turn_13 rfl (by rw [hnL]; decide) rfl ?_
    refine kv_iload_n X 0 dX10_turn_14 rfl rfl ?_
    refine kv_iload_n X 3 dX10_turn_15 rfl rfl ?_
    refine kv_icmp_eq (tgt := 41) X dX10_turn_16 (by decide) (fun hc16 => ?_) (fun hc16 => ?_)
    ·
      refine kv_iload_n X 0 dX10_turn_41 rfl rfl ?_
      exact kv_zreturn X hr rfl (Nat.le_of_ble_eq_true rfl) (Nat.le_of_ble_eq_true rfl) ⟨(ks, ad, (cE dd E e)), ⟨j2, ⟨h2, rfl⟩, Or.inl ⟨hb10, rfl⟩, Or.inl ⟨hc16, rfl, E, _, rfl, hO, hR, hC, hT, hL, hW, hV, hM⟩⟩, rfl⟩ dX10_turn_42
    ·
      refine kv_aload_n X 1 dX10_turn_19 rfl rfl ?_
      refine kv_getfield X f_X10_turn_25 (κ := 0) (fs := [.ref (ad 1), .ref (ad 2), .int on]) (v := .int on) hO.1.1 ((cE_ne (by omega)).trans hO.1.2) rfl dX10_turn_20 ?_
      refine kv_iconst (v := 1) X dX10_turn_23 (by decide) ?_
      refine kv_iload_n X 2 dX10_turn_24 rfl rfl ?_
      refine kv_ishl X dX10_turn_25 ?_
      refine kv_ixor X dX10_turn_26 ?_
      refine kv_istore (lv2 := [(4, .int (on ^^^ (1 <<< ((nI j2) &&& 31)))), (3, .int 1), (0, .ref (ad 0)), (1, .int (nI j2)), (2, .int p)]) X dX10_turn_27 (by rw [hnL]; decide) rfl ?_
      refine kv_aload_n X 2 dX10_turn_29 rfl rfl ?_
      refine kv_iload X 0 dX10_turn_30 rfl ?_
      refine kv_callvXV (ci := 13) (κ := 0) (r1 := (TX10, 3)) (As := [.int (on ^^^ (1 <<< ((nI j2) &&& 31)))]) [] X (c_X10_checkFits l dd ks ad E e M nR nC nt nL nW nV nM cn nm mn me li rl on hO hR hC hT hL hW hV hM hB mI mR hmI hmR hpk (on ^^^ (1 <<< ((nI j2) &&& 31)))) hl0 (kCV_of X 1 gX10_turn_X10_checkFits rfl rfl rfl (by decide +kernel) hRR ⟨(Nat.le_of_ble_eq_true rfl), (Nat.le_of_ble_eq_true rfl)⟩) hO.1.1 ((cE_ne (by omega)).trans hO.1.2) rfl hRX ⟨(Nat.le_of_ble_eq_true rfl), (Nat.le_of_ble_eq_true rfl)⟩ (fun _ _ h => by obtain ⟨e9, hu, hh⟩ := h; exact ⟨e9, hu, Or.inr ⟨hh.1, j2, ⟨h2, rfl⟩, by first | exact Or.inl ⟨hb10, fun q => hc16 q.symm⟩ | exact Or.inr ⟨hb10, fun q => hc16 q.symm⟩, hh.2⟩⟩) rfl rfl (Nat.le_of_ble_eq_true rfl) hRR ⟨(Nat.le_of_ble_eq_true rfl), (Nat.le_of_ble_eq_true rfl)⟩ dX10_turn_32 (fun zf32 hp => ?_)
      have hf32 := hp
      refine kv_aload_n X 2 dX10_turn_35 rfl rfl ?_
      refine kv_iload X 0 dX10_turn_36 rfl ?_
      refine kv_putfield X fp_X10_turn_25 (κ := 0) (fs := [.ref (ad 1), .ref (ad 2), .int on]) hO.1.1 ((cE_ne (by omega)).trans hO.1.2) rfl rfl (Nat.le_of_ble_eq_true rfl) dX10_turn_38 ?_
      refine kv_E (E2 := cE dd (va_up E (0) (Sum.inr (13, [.ref (ad 1), .ref (ad 2), .int (on ^^^ (1 <<< ((nI j2) &&& 31)))]))) zf32) (fun j _ => cE_upO (by omega) _ j) ?_
      refine kv_iload_n X 1 dX10_turn_41 rfl rfl ?_
      exact kv_zreturn X hr rfl (Nat.le_of_ble_eq_true rfl) (Nat.le_of_ble_eq_true rfl) ⟨(ks, ad, (cE dd (va_up E (0) (Sum.inr (13, [.ref (ad 1), .ref (ad 2), .int (on ^^^ (1 <<< ((nI j2) &&& 31)))]))) zf32)), ⟨j2, ⟨h2, rfl⟩, Or.inl ⟨hb10, rfl⟩, Or.inr ⟨hc16, hf32, rfl, _, _, rfl, cO_on hO, cR_frame (cAg_up (by unfold sR; omega) _) hR, cC_frame (cAg_up (by unfold sC; omega) _) hC, cT_frame (cAg_up (by unfold sT; omega) _) hT, cL_frame (cAg_up (by unfold sL; omega) _) hL, cW_frame (cAg_up (by unfold sW; omega) _) hW, cV_frame (cAg_up (by unfold sV; omega) _) hV, cM_frame (cAg_up (by unfold sM; omega) _) hM⟩⟩, rfl⟩ dX10_turn_42
  ·
    refine kv_istore_n (lv2 := [(3, .int 0), (0, .ref (ad 0)), (1, .int (nI j2)), (2, .int p)]) X dX10_turn_13 rfl (by rw [hnL]; decide) rfl ?_
    refine kv_iload_n X 0 dX10_turn_14 rfl rfl ?_
    refine kv_iload_n X 3 dX10_turn_15 rfl rfl ?_
    refine kv_icmp_eq (tgt := 41) X dX10_turn_16 (by decide) (fun hc16 => ?_) (fun hc16 => ?_)
    ·
      refine kv_iload_n X 0 dX10_turn_41 rfl rfl ?_
      exact kv_zreturn X hr rfl (Nat.le_of_ble_eq_true rfl) (Nat.le_of_ble_eq_true rfl) ⟨(ks, ad, (cE dd E e)), ⟨j2, ⟨h2, rfl⟩, Or.inr ⟨hb10, rfl⟩, Or.inl ⟨hc16, rfl, E, _, rfl, hO, hR, hC, hT, hL, hW, hV, hM⟩⟩, rfl⟩ dX10_turn_42
    ·
      refine kv_aload_n X 1 dX10_turn_19 rfl rfl ?_
      refine kv_getfield X f_X10_turn_25 (κ := 0) (fs := [.ref (ad 1), .ref (ad 2), .int on]) (v := .int on) hO.1.1 ((cE_ne (by omega)).trans hO.1.2) rfl dX10_turn_20 ?_
      refine kv_iconst (v := 1) X dX10_turn_23 (by decide) ?_
      refine kv_iload_n X 2 dX10_turn_24 rfl rfl ?_
      refine kv_ishl X dX10_turn_25 ?_
      refine kv_ixor X dX10_turn_26 ?_
      refine kv_istore (lv2 := [(4, .int (on ^^^ (1 <<< ((nI j2) &&& 31)))), (3, .int 0), (0, .ref (ad 0)), (1, .int (nI j2)), (2, .int p)]) X dX10_turn_27 (by rw [hnL]; decide) rfl ?_
      refine kv_aload_n X 2 dX10_turn_29 rfl rfl ?_
      refine kv_iload X 0 dX10_turn_30 rfl ?_
      refine kv_callvXV (ci := 13) (κ := 0) (r1 := (TX10, 3)) (As := [.int (on ^^^ (1 <<< ((nI j2) &&& 31)))]) [] X (c_X10_checkFits l dd ks ad E e M nR nC nt nL nW nV nM cn nm mn me li rl on hO hR hC hT hL hW hV hM hB mI mR hmI hmR hpk (on ^^^ (1 <<< ((nI j2) &&& 31)))) hl0 (kCV_of X 1 gX10_turn_X10_checkFits rfl rfl rfl (by decide +kernel) hRR ⟨(Nat.le_of_ble_eq_true rfl), (Nat.le_of_ble_eq_true rfl)⟩) hO.1.1 ((cE_ne (by omega)).trans hO.1.2) rfl hRX ⟨(Nat.le_of_ble_eq_true rfl), (Nat.le_of_ble_eq_true rfl)⟩ (fun _ _ h => by obtain ⟨e9, hu, hh⟩ := h; exact ⟨e9, hu, Or.inr ⟨hh.1, j2, ⟨h2, rfl⟩, by first | exact Or.inl ⟨hb10, fun q => hc16 q.symm⟩ | exact Or.inr ⟨hb10, fun q => hc16 q.symm⟩, hh.2⟩⟩) rfl rfl (Nat.le_of_ble_eq_true rfl) hRR ⟨(Nat.le_of_ble_eq_true rfl), (Nat.le_of_ble_eq_true rfl)⟩ dX10_turn_32 (fun zf32 hp => ?_)
      have hf32 := hp
      refine kv_aload_n X 2 dX10_turn_35 rfl rfl ?_
      refine kv_iload X 0 dX10_turn_36 rfl ?_
      refine kv_putfield X fp_X10_turn_25 (κ := 0) (fs := [.ref (ad 1), .ref (ad 2), .int on]) hO.1.1 ((cE_ne (by omega)).trans hO.1.2) rfl rfl (Nat.le_of_ble_eq_true rfl) dX10_turn_38 ?_
      refine kv_E (E2 := cE dd (va_up E (0) (Sum.inr (13, [.ref (ad 1), .ref (ad 2), .int (on ^^^ (1 <<< ((nI j2) &&& 31)))]))) zf32) (fun j _ => cE_upO (by omega) _ j) ?_
      refine kv_iload_n X 1 dX10_turn_41 rfl rfl ?_
      exact kv_zreturn X hr rfl (Nat.le_of_ble_eq_true rfl) (Nat.le_of_ble_eq_true rfl) ⟨(ks, ad, (cE dd (va_up E (0) (Sum.inr (13, [.ref (ad 1), .ref (ad 2), .int (on ^^^ (1 <<< ((nI j2) &&& 31)))]))) zf32)), ⟨j2, ⟨h2, rfl⟩, Or.inr ⟨hb10, rfl⟩, Or.inr ⟨hc16, hf32, rfl, _, _, rfl, cO_on hO, cR_frame (cAg_up (by unfold sR; omega) _) hR, cC_frame (cAg_up (by unfold sC; omega) _) hC, cT_frame (cAg_up (by unfold sT; omega) _) hT, cL_frame (cAg_up (by unfold sL; omega) _) hL, cW_frame (cAg_up (by unfold sW; omega) _) hW, cV_frame (cAg_up (by unfold sV; omega) _) hV, cM_frame (cAg_up (by unfold sM; omega) _) hM⟩⟩, rfl⟩ dX10_turn_42

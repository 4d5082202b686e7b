/-! the class: what is entered -/
theorem cSt_E' {dd : kDD} {Ka Kc : Nat → Prop} {ks ks2 : List Nat} {ad ad2 : Nat → Nat} {E F : Nat → va_E} {e : eS} (h : cSt dd Ka Kc ks ad E e ks2 ad2 F) (hk : ∀ j, (17 ≤ j ∧ j ≤ 19) ∨ (22 ≤ j ∧ j ≤ 48) → ¬ Kc j) : ∀ j, j ∈ ks2 → F j = cE dd F e j := fun j _ => cSt_E h hk j
theorem cSt_id (dd : kDD) (ks : List Nat) (ad : Nat → Nat) (E : Nat → va_E) (e : eS) : cSt dd (fun _ => False) (fun _ => False) ks ad E e ks ad (cE dd E e) := ⟨fun _ _ => ⟨id, rfl⟩, fun _ _ => rfl⟩
theorem upd_at {f : Nat → Int32} {j : Nat} {x : Int32} : upd f j x j = x := if_pos rfl
theorem upd_ne {f : Nat → Int32} {j i : Nat} {x : Int32} (h : i ≠ j) : upd f j x i = f i := if_neg h
/-- a line without rows measures 0 -/
theorem mq_0 {rl ms : Nat → Int32} {line : Int32} : ∀ n, (∀ k, k < n → rl k ≠ line) → mq rl ms line n = 0 := by
  intro n
  induction n with
  | zero => intro _; rfl
  | succ n ih => intro h; rw [mq, if_neg (h n (by omega)), ih (fun k hk => h k (by omega))]; rfl
theorem mq_up {rl ms : Nat → Int32} {a x line : Int32} {N : Nat} : ∀ n, n ≤ N → mq (upd rl N a) (upd ms N x) line n = mq rl ms line n := by
  intro n
  induction n with
  | zero => intro _; rfl
  | succ n ih => intro h; rw [mq, mq, ih (by omega), upd_ne (by omega), upd_ne (by omega)]
theorem mq_add {rl ms : Nat → Int32} {a x line : Int32} {N : Nat} : mq (upd rl N a) (upd ms N x) line (N + 1) = mq rl ms line N + (if a = line then x else 0) := by rw [mq, mq_up N (Nat.le_refl _), upd_at, upd_at]

theorem f_X10_addResource_10 : kF wsX10_addResource RX10 10 13 0 := ⟨_, RX10, TX10, 3, fun _ h => (List.mem_cons_of_mem _ (List.mem_append_left _ (List.mem_append_left _ (List.mem_append_left _ (List.mem_append_left _ (List.mem_append_left _ (List.mem_append_right _ h))))))), (List.mem_cons_of_mem _ (List.mem_append_left _ (List.mem_append_left _ (List.mem_append_left _ (List.mem_append_left _ (List.mem_append_left _ (List.mem_append_left _ (List.mem_append_left _ (List.mem_of_getElem? (i := 0) rfl))))))))), rfl, by decide, rfl⟩
theorem f_X10_addResource_37 : kF wsX10_addResource RX10 37 9 0 := ⟨_, RX6, TX6, 7, fun _ h => (List.mem_cons_of_mem _ (List.mem_append_left _ (List.mem_append_left _ (List.mem_append_left _ (List.mem_append_left _ (List.mem_append_right _ h)))))), (List.mem_cons_of_mem _ (List.mem_append_left _ (List.mem_append_left _ (List.mem_append_left _ (List.mem_append_left _ (List.mem_append_left _ (List.mem_append_left _ (List.mem_append_left _ (List.mem_of_getElem? (i := 1) rfl))))))))), rfl, by decide, rfl⟩
set_option maxRecDepth 100000 in
set_option maxHeartbeats 4000000 in
theorem c_X10_addResource (l : Launch) (dd : kDD) (ks : List Nat) (ad : Nat → Nat) (E : Nat → va_E) (e : eS) (M : mS) (nR nC nt nL nW nV nM : Nat) (cn nm mn me li rl : Nat → Nat) (on : Int32) (hO : cO dd ks ad E on) (hR : cR dd ks ad E M nR) (hC : cC dd ks ad E M nC mn me) (hT : cT dd ks ad E M nt cn nm) (hL : cL dd ks ad E M nL nW li) (hW : cW dd ks ad E M nW rl) (hV : cV dd ks ad E M nV) (hM : cM dd ks ad E M nM) (hB : cB M nR nC nt nL nW nV cn nm mn me li rl) (mI mR : Int32 → Nat → Nat) (hmI : ∀ o j, j < nt → mnt o (M.2.1 22) j nV 0 = nI (mI o j) ∧ mI o j < nt) (hmR : ∀ o j, j < nR → mnt o (M.2.1 23) j nV 0 = nI (mR o j) ∧ mR o j < nR) (hpk : ∀ r, r < nR → 1 ≤ M.2.1 5 r) (k p w q : Int32) : kCiX l yX10_addResource wsX10_addResource ({ frames := 7, cells := 8, slots := 140, locals := 171 } : Room) 8 140 dd [.ref (ad 0), .int k, .int p, .int w, .int q] (ks, ad, (cE dd E e)) (kQi (S := kT) (fun r z => ((k = 0 ∨ k = 1 ∨ k = 2) ∧ (0 ≤ p ∧ p ≤ 9999) ∧ (0 ≤ w ∧ w ≤ 50) ∧ (1 ≤ q ∧ q ≤ 99)) ∧ nR < 12 ∧ (z.2.1 0 = ad 0 ∧ cAll dd (M.1, va_up (va_up (va_up (va_up M.2.1 2 (upd (M.2.1 2) nR k)) 3 (upd (M.2.1 3) nR p)) 4 (upd (M.2.1 4) nR w)) 5 (upd (M.2.1 5) nR q), M.2.2) (nR + 1) nC nt nL nW nV nM cn nm mn me li rl on z) ∧ r = nI nR) (fun z => z.1) (fun z => z.2.1) (fun z => z.2.2)) (fun X9 u9 => ∃ e9, u9 = (ks, ad, cE dd E e9) ∧ ((X9 = "java/lang/IllegalArgumentException" ∧ ¬ ((k = 0 ∨ k = 1 ∨ k = 2) ∧ (0 ≤ p ∧ p ≤ 9999) ∧ (0 ≤ w ∧ w ≤ 50) ∧ (1 ≤ q ∧ q ≤ 99))) ∨ (X9 = "java/lang/IllegalStateException" ∧ (((k = 0 ∨ k = 1 ∨ k = 2) ∧ (0 ≤ p ∧ p ≤ 9999) ∧ (0 ≤ w ∧ w ≤ 50) ∧ (1 ≤ q ∧ q ≤ 99)) ∧ nR = 12)))) := by
  refine kMetiX (ws' := _) (cc := cX10_addResource) (maxL := 5) (rt := .int) (by decide) rfl (Nat.le_of_ble_eq_true rfl) (fun g X hr hRX hnL hRR hl0 hkn => ?_)
  show kv dd g 0 0 0 [(0, .ref (ad 0)), (1, .int k), (2, .int p), (3, .int w), (4, .int q)] [] ks ad (cE dd E e)
  have hT12 := hT.1
  have hR12 := hR.1
  have hL10 := hL.1
  have hV4 := hV.1
  have hM4 := hM.1
  have hC4 := hC.1
  have hW40 := hW.1
  obtain ⟨f20, f21, hf20, hf21, hff⟩ := hO.2.2.2.2
  refine kv_iload_n X 1 dX10_addResource_0 rfl rfl ?_
  refine kv_callvXS (As := [.int k]) [] X (c_X10_checkKind l dd ks ad (cE dd E e) k) hl0 (kCS_of X 1 gX10_addResource_X10_checkKind rfl rfl rfl (by decide +kernel) hRR ⟨(Nat.le_of_ble_eq_true rfl), (Nat.le_of_ble_eq_true rfl)⟩) hRX ⟨(Nat.le_of_ble_eq_true rfl), (Nat.le_of_ble_eq_true rfl)⟩ (fun _ _ h => ⟨e, h.2.1, (Or.inl (⟨h.1, fun q => h.2.2 q.1⟩))⟩) rfl rfl (Nat.le_of_ble_eq_true rfl) hRR ⟨(Nat.le_of_ble_eq_true rfl), (Nat.le_of_ble_eq_true rfl)⟩ dX10_addResource_1 (fun z hp => ?_)
  have h1 := hp
  refine kv_iload_n X 2 dX10_addResource_4 rfl rfl ?_
  refine kv_iconst (v := 0) X dX10_addResource_5 (by decide) ?_
  refine kv_sipush (v := 9999) X dX10_addResource_6 (by decide) ?_
  refine kv_callvXS (As := [.int p, .int 0, .int 9999]) [] X (c_X10_checkRange l dd ks ad (cE dd E e) p 0 9999) hl0 (kCS_of X 3 gX10_addResource_X10_checkRange rfl rfl rfl (by decide +kernel) hRR ⟨(Nat.le_of_ble_eq_true rfl), (Nat.le_of_ble_eq_true rfl)⟩) hRX ⟨(Nat.le_of_ble_eq_true rfl), (Nat.le_of_ble_eq_true rfl)⟩ (fun _ _ h => ⟨e, h.2.1, (Or.inl (⟨h.1, fun q => h.2.2 q.2.1⟩))⟩) rfl rfl (Nat.le_of_ble_eq_true rfl) hRR ⟨(Nat.le_of_ble_eq_true rfl), (Nat.le_of_ble_eq_true rfl)⟩ dX10_addResource_9 (fun z hp => ?_)
  have h9 := hp
  refine kv_iload_n X 3 dX10_addResource_12 rfl rfl ?_
  refine kv_iconst (v := 0) X dX10_addResource_13 (by decide) ?_
  refine kv_bipush (v := 50) X dX10_addResource_14 (by decide) ?_
  refine kv_callvXS (As := [.int w, .int 0, .int 50]) [] X (c_X10_checkRange l dd ks ad (cE dd E e) w 0 50) hl0 (kCS_of X 3 gX10_addResource_X10_checkRange rfl rfl rfl (by decide +kernel) hRR ⟨(Nat.le_of_ble_eq_true rfl), (Nat.le_of_ble_eq_true rfl)⟩) hRX ⟨(Nat.le_of_ble_eq_true rfl), (Nat.le_of_ble_eq_true rfl)⟩ (fun _ _ h => ⟨e, h.2.1, (Or.inl (⟨h.1, fun q => h.2.2 q.2.2.1⟩))⟩) rfl rfl (Nat.le_of_ble_eq_true rfl) hRR ⟨(Nat.le_of_ble_eq_true rfl), (Nat.le_of_ble_eq_true rfl)⟩ dX10_addResource_16 (fun z hp => ?_)
  have h16 := hp
  refine kv_iload X 4 dX10_addResource_19 rfl ?_
  refine kv_iconst (v := 1) X dX10_addResource_21 (by decide) ?_
  refine kv_bipush (v := 99) X dX10_addResource_22 (by decide) ?_
  refine kv_callvXS (As := [.int q, .int 1, .int 99]) [] X (c_X10_checkRange l dd ks ad (cE dd E e) q 1 99) hl0 (kCS_of X 3 gX10_addResource_X10_checkRange rfl rfl rfl (by decide +kernel) hRR ⟨(Nat.le_of_ble_eq_true rfl), (Nat.le_of_ble_eq_true rfl)⟩) hRX ⟨(Nat.le_of_ble_eq_true rfl), (Nat.le_of_ble_eq_true rfl)⟩ (fun _ _ h => ⟨e, h.2.1, (Or.inl (⟨h.1, fun q => h.2.2 q.2.2.2⟩))⟩) rfl rfl (Nat.le_of_ble_eq_true rfl) hRR ⟨(Nat.le_of_ble_eq_true rfl), (Nat.le_of_ble_eq_true rfl)⟩ dX10_addResource_24 (fun z hp => ?_)
  have h24 := hp
  refine kv_aload_n X 0 dX10_addResource_27 rfl rfl ?_
  refine kv_getfield X f_X10_addResource_10 (κ := 0) (fs := [.ref (ad 1), .ref (ad 2), .int on]) (v := .ref (ad 1)) hO.1.1 ((cE_ne (by omega)).trans hO.1.2) rfl dX10_addResource_28 ?_
  refine kv_getfield X f_X10_addResource_37 (κ := 1) (fs := [.ref (ad 3), .ref (ad 4), .ref (ad 5), .ref (ad 6), .ref (ad 7), .ref (ad 8), .ref (ad 9)]) (v := .ref (ad 3)) hO.2.1.1 ((cE_ne (by omega)).trans hO.2.1.2) rfl dX10_addResource_31 ?_
  obtain ⟨_, _, o34⟩ := kLs_obj (dd := dd) (ks := ks) (ad := ad) (E := (cE dd E e)) (kLs_cE hR.2.1 (by omega) (by omega) (fun i hi => by omega))
  refine kv_calliV (ci := 2) (κ := 3) (r1 := (TJx4a65c, 3)) (As := []) [] X (c_Jx4a65c_size_8abf5 l dd ks ad (cE dd E e) (3) (10) (nR) (fun r => 64 + r) 10 (kLs_cE hR.2.1 (by omega) (by omega) (fun i hi => by omega))) hl0 (kCV_of X 0 gX10_addResource_Jx4a65c_size_8abf5 rfl rfl rfl (by decide +kernel) hRR ⟨(Nat.le_of_ble_eq_true rfl), (Nat.le_of_ble_eq_true rfl)⟩) hR.2.1.1 o34 rfl rfl rfl (Nat.le_of_ble_eq_true rfl) hRR ⟨(Nat.le_of_ble_eq_true rfl), (Nat.le_of_ble_eq_true rfl)⟩ dX10_addResource_34 (fun r z hp => ?_)
  obtain rfl := hp
  refine kv_bipush (v := 12) X dX10_addResource_37 (by decide) ?_
  refine kv_callvXS (As := [.int (nI nR), .int 12]) [] X (c_X10_checkRoom l dd ks ad (cE dd E e) nR 12 (by omega) (by omega)) hl0 (kCS_of X 2 gX10_addResource_X10_checkRoom rfl rfl rfl (by decide +kernel) hRR ⟨(Nat.le_of_ble_eq_true rfl), (Nat.le_of_ble_eq_true rfl)⟩) hRX ⟨(Nat.le_of_ble_eq_true rfl), (Nat.le_of_ble_eq_true rfl)⟩ (fun _ _ h => ⟨e, h.2.1, (Or.inr (⟨h.1, ⟨⟨h1, h9, h16, h24⟩, by have := h.2.2; omega⟩⟩))⟩) rfl rfl (Nat.le_of_ble_eq_true rfl) hRR ⟨(Nat.le_of_ble_eq_true rfl), (Nat.le_of_ble_eq_true rfl)⟩ dX10_addResource_39 (fun z hp => ?_)
  have h39 := hp
  refine kv_aload_n X 0 dX10_addResource_42 rfl rfl ?_
  refine kv_getfield X f_X10_addResource_10 (κ := 0) (fs := [.ref (ad 1), .ref (ad 2), .int on]) (v := .ref (ad 1)) hO.1.1 ((cE_ne (by omega)).trans hO.1.2) rfl dX10_addResource_43 ?_
  refine kv_getfield X f_X10_addResource_37 (κ := 1) (fs := [.ref (ad 3), .ref (ad 4), .ref (ad 5), .ref (ad 6), .ref (ad 7), .ref (ad 8), .ref (ad 9)]) (v := .ref (ad 3)) hO.2.1.1 ((cE_ne (by omega)).trans hO.2.1.2) rfl dX10_addResource_46 ?_
  refine kv_newR X (64 + nR) (⟨RX7, TX7, tyX7, fun _ h => (List.mem_cons_of_mem _ (List.mem_append_left _ (List.mem_append_left _ (List.mem_append_left _ (List.mem_append_right _ h))))), tyX7_ok, (List.mem_cons_of_mem _ (List.mem_append_left _ (List.mem_append_left _ (List.mem_append_left _ (List.mem_append_left _ (List.mem_append_left _ (List.mem_append_left _ (List.mem_append_left _ (List.mem_of_getElem? (i := 2) rfl))))))))), (List.mem_cons_of_mem _ (List.mem_append_left _ (List.mem_append_left _ (List.mem_append_left _ (List.mem_append_left _ (List.mem_append_left _ (List.mem_append_left _ (List.mem_append_left _ (List.mem_of_getElem? (i := 3) rfl))))))))), (List.mem_cons_of_mem _ (List.mem_append_left _ (List.mem_append_left _ (List.mem_append_left _ (List.mem_append_left _ (List.mem_append_left _ (List.mem_append_left _ (List.mem_append_left _ (List.mem_of_getElem? (i := 4) rfl))))))))), rfl, by decide⟩ : kN wsX10_addResource RX10 51 10 [.int 0, .int 0, .int 0, .int 0] 4) hRR ⟨(Nat.le_of_ble_eq_true rfl), (Nat.le_of_ble_eq_true rfl)⟩ dX10_addResource_49 (fun ks49 ad49 E49 hs49 => ?_)
  refine kv_LS [(0, .ref (ad49 0)), (1, .int k), (2, .int p), (3, .int w), (4, .int q)] [.ref (ad49 (64 + nR)), .ref (ad49 3)] (by rw [hs49.2.1 (0) (by omega)]) (by rw [hs49.2.1 (3) (by omega)]) ?_
  refine kv_dup X dX10_addResource_52 rfl ?_
  refine kv_iload_n X 1 dX10_addResource_53 rfl rfl ?_
  refine kv_iload_n X 2 dX10_addResource_54 rfl rfl ?_
  refine kv_iload_n X 3 dX10_addResource_55 rfl rfl ?_
  refine kv_iload X 4 dX10_addResource_56 rfl ?_
  refine kv_callvI (κ := 64 + nR) (As := [.int k, .int p, .int w, .int q]) [.ref (ad49 (64 + nR)), .ref (ad49 3)] X (c_X7_init l dd ks49 ad49 E49 (64 + nR) k p w q ((hs49.1 _).mpr (Or.inr rfl)) hs49.2.2.2) hl0 (kCI_of X 4 gX10_addResource_X7_init (List.mem_cons_of_mem _ (List.mem_append_left _ (List.mem_append_left _ (List.mem_append_left _ (List.mem_append_left _ (List.mem_append_left _ (List.mem_append_left _ (List.mem_append_left _ (List.mem_of_getElem? (i := 4) rfl))))))))) (List.mem_cons_of_mem _ (List.mem_append_left _ (List.mem_append_left _ (List.mem_append_left _ (List.mem_append_left _ (List.mem_append_left _ (List.mem_append_left _ (List.mem_append_right _ (List.mem_append_left _ (List.mem_of_getElem? (i := 1) rfl)))))))))) (List.mem_cons_of_mem _ (List.mem_append_left _ (List.mem_append_left _ (List.mem_append_left _ (List.mem_append_left _ (List.mem_append_left _ (List.mem_append_left _ (List.mem_append_right _ (List.mem_append_left _ (List.mem_of_getElem? (i := 2) rfl)))))))))) rfl rfl rfl rfl (by decide +kernel) hRR ⟨(Nat.le_of_ble_eq_true rfl), (Nat.le_of_ble_eq_true rfl)⟩) rfl rfl (Nat.le_of_ble_eq_true rfl) hRR ⟨(Nat.le_of_ble_eq_true rfl), (Nat.le_of_ble_eq_true rfl)⟩ dX10_addResource_58 (fun z hp => ?_)
  have st58 : cSt dd (fun j => j = 64 + nR) (fun j => j = 64 + nR) ks ad E e ks49 ad49 (va_up E49 (64 + nR) (.inr (10, [.int k, .int p, .int w, .int q]))) := ⟨fun j hj => ⟨fun q => (hs49.1 j).mpr (Or.inl q), hs49.2.1 j hj⟩, fun j hj => (va_up_ne _ _ hj).trans (hs49.2.2.1 j hj)⟩
  refine kv_E (E2 := cE dd (va_up E49 (64 + nR) (.inr (10, [.int k, .int p, .int w, .int q]))) e) (cSt_E' st58 (fun j hj (q : j = 64 + nR) => by omega)) ?_
  have hO := cO_st st58 hO (fun j hj (q : j = 64 + nR) => by unfold vO at hj; omega) ⟨(show ¬ (0 = 64 + nR) by omega), (show ¬ (1 = 64 + nR) by omega), (show ¬ (2 = 64 + nR) by omega), (show ¬ (20 = 64 + nR) by omega), (show ¬ (21 = 64 + nR) by omega)⟩
  have hR := cR_st st58 hR (fun j hj => by unfold vR at hj; exact ⟨fun (q : j = 64 + nR) => by omega, fun (q : j = 64 + nR) => by omega⟩)
  have hC := cC_st st58 hC (fun j hj => by unfold vC at hj; exact ⟨fun (q : j = 64 + nR) => by omega, fun (q : j = 64 + nR) => by omega⟩)
  have hT := cT_st st58 hT (fun j hj => by unfold vT at hj; rcases hj with y | y | y | y | y | ⟨i, k, y1, y2, y3, y4⟩ <;> exact ⟨fun (q : j = 64 + nR) => by omega, fun (q : j = 64 + nR) => by omega⟩)
  have hL := cL_st st58 hL (fun j hj => by unfold vL at hj; exact ⟨fun (q : j = 64 + nR) => by omega, fun (q : j = 64 + nR) => by omega⟩)
  have hW := cW_st st58 hW (fun j hj => by unfold vW at hj; exact ⟨fun (q : j = 64 + nR) => by omega, fun (q : j = 64 + nR) => by omega⟩)
  have hV := cV_st st58 hV (fun j hj => by unfold vV at hj; exact ⟨fun (q : j = 64 + nR) => by omega, fun (q : j = 64 + nR) => by omega⟩)
  have hM := cM_st st58 hM (fun j hj => by unfold vM at hj; exact ⟨fun (q : j = 64 + nR) => by omega, fun (q : j = 64 + nR) => by omega⟩)
  obtain ⟨_, _, o61⟩ := kLs_obj (dd := dd) (ks := ks49) (ad := ad49) (E := (cE dd (va_up E49 (64 + nR) (.inr (10, [.int k, .int p, .int w, .int q]))) e)) (kLs_cE hR.2.1 (by omega) (by omega) (fun i hi => by omega))
  refine kv_calliV (ci := 2) (κ := 3) (r1 := (TJx4a65c, 3)) (As := [.ref (ad49 (64 + nR))]) [] X (c_Jx4a65c_add_9ea2d l dd ks49 ad49 (cE dd (va_up E49 (64 + nR) (.inr (10, [.int k, .int p, .int w, .int q]))) e) (3) (10) (nR) (fun r => 64 + r) 10 _ (kLs_cE hR.2.1 (by omega) (by omega) (fun i hi => by omega)) (by omega) ((hs49.1 _).mpr (Or.inr rfl)) (by omega) (by omega) ((cE_ne (by omega)).trans (va_up_self _ _ _))) hl0 (kCV_of X 1 gX10_addResource_Jx4a65c_add_9ea2d rfl rfl rfl (by decide +kernel) hRR ⟨(Nat.le_of_ble_eq_true rfl), (Nat.le_of_ble_eq_true rfl)⟩) hR.2.1.1 o61 rfl rfl rfl (Nat.le_of_ble_eq_true rfl) hRR ⟨(Nat.le_of_ble_eq_true rfl), (Nat.le_of_ble_eq_true rfl)⟩ dX10_addResource_61 (fun r za hp => ?_)
  obtain ⟨rfl, mc, hw⟩ := hp
  refine kv_LS [(0, .ref (za.2.1 0)), (1, .int k), (2, .int p), (3, .int w), (4, .int q)] [.int 1] (by rw [hw.2.1 (0) (by omega)]) rfl ?_
  have sw : cSt dd (fun j => j = 10) (fun j => j = 3 ∨ j = 10) ks49 ad49 (va_up E49 (64 + nR) (.inr (10, [.int k, .int p, .int w, .int q]))) e za.1 za.2.1 za.2.2 := ⟨fun j hj => ⟨fun q => (hw.1 j).mpr (Or.inl q), hw.2.1 j hj⟩, fun j hj => hw.2.2.1 j (fun q => hj (Or.inr q)) (fun q => hj (Or.inl q))⟩
  refine kv_E (E2 := cE dd za.2.2 e) (cSt_E' sw (fun j hj (q : j = 3 ∨ j = 10) => by omega)) ?_
  have hR1 := cR_st (cSt_id dd ks49 ad49 (va_up E49 (64 + nR) (.inr (10, [.int k, .int p, .int w, .int q]))) e) hR (fun _ _ => ⟨id, id⟩)
  have hR2 := cR_add (M2 := (M.1, va_up (va_up (va_up (va_up M.2.1 2 (upd (M.2.1 2) nR k)) 3 (upd (M.2.1 3) nR p)) 4 (upd (M.2.1 4) nR w)) 5 (upd (M.2.1 5) nR q), M.2.2)) hR1 h39 ((hs49.1 _).mpr (Or.inr rfl)) ((cE_ne (by omega)).trans ((va_up_self _ _ _).trans (by show _ = Sum.inr (10, [Value.int (upd (M.2.1 2) nR k nR), .int (upd (M.2.1 3) nR p nR), .int (upd (M.2.1 4) nR w nR), .int (upd (M.2.1 5) nR q nR)]); rw [upd_at, upd_at, upd_at, upd_at]))) (fun i hi => by show _ = [Value.int (upd (M.2.1 2) nR k i), .int (upd (M.2.1 3) nR p i), .int (upd (M.2.1 4) nR w i), .int (upd (M.2.1 5) nR q i)]; rw [upd_ne (by omega), upd_ne (by omega), upd_ne (by omega), upd_ne (by omega)]) hw
  have hO := cO_st sw hO (fun j hj (q : j = 10) => by unfold vO at hj; omega) ⟨(show ¬ (0 = 3 ∨ 0 = 10) by omega), (show ¬ (1 = 3 ∨ 1 = 10) by omega), (show ¬ (2 = 3 ∨ 2 = 10) by omega), (show ¬ (20 = 3 ∨ 20 = 10) by omega), (show ¬ (21 = 3 ∨ 21 = 10) by omega)⟩
  have hR := hR2
  have hC := cC_st sw hC (fun j hj => by unfold vC at hj; exact ⟨fun (q : j = 10) => by omega, fun (q : j = 3 ∨ j = 10) => by omega⟩)
  have hT := cT_st sw hT (fun j hj => by unfold vT at hj; rcases hj with y | y | y | y | y | ⟨i, k, y1, y2, y3, y4⟩ <;> exact ⟨fun (q : j = 10) => by omega, fun (q : j = 3 ∨ j = 10) => by omega⟩)
  have hL := cL_st sw hL (fun j hj => by unfold vL at hj; exact ⟨fun (q : j = 10) => by omega, fun (q : j = 3 ∨ j = 10) => by omega⟩)
  have hW := cW_st sw hW (fun j hj => by unfold vW at hj; exact ⟨fun (q : j = 10) => by omega, fun (q : j = 3 ∨ j = 10) => by omega⟩)
  have hV := cV_st sw hV (fun j hj => by unfold vV at hj; exact ⟨fun (q : j = 10) => by omega, fun (q : j = 3 ∨ j = 10) => by omega⟩)
  have hM := cM_st sw hM (fun j hj => by unfold vM at hj; exact ⟨fun (q : j = 10) => by omega, fun (q : j = 3 ∨ j = 10) => by omega⟩)
  refine kv_pop X dX10_addResource_64 rfl ?_
  refine kv_aload_n X 0 dX10_addResource_65 rfl rfl ?_
  refine kv_getfield X f_X10_addResource_10 (κ := 0) (fs := [.ref (za.2.1 1), .ref (za.2.1 2), .int on]) (v := .ref (za.2.1 1)) hO.1.1 ((cE_ne (by omega)).trans hO.1.2) rfl dX10_addResource_66 ?_
  refine kv_getfield X f_X10_addResource_37 (κ := 1) (fs := [.ref (za.2.1 3), .ref (za.2.1 4), .ref (za.2.1 5), .ref (za.2.1 6), .ref (za.2.1 7), .ref (za.2.1 8), .ref (za.2.1 9)]) (v := .ref (za.2.1 3)) hO.2.1.1 ((cE_ne (by omega)).trans hO.2.1.2) rfl dX10_addResource_69 ?_
  obtain ⟨_, _, o72⟩ := kLs_obj (dd := dd) (ks := za.1) (ad := za.2.1) (E := (cE dd za.2.2 e)) (kLs_cE hR.2.1 (by omega) (by omega) (fun i hi => by omega))
  refine kv_calliV (ci := 2) (κ := 3) (r1 := (TJx4a65c, 3)) (As := []) [] X (c_Jx4a65c_size_8abf5 l dd za.1 za.2.1 (cE dd za.2.2 e) (3) (10) ((nR + 1)) (fun r => 64 + r) 10 (kLs_cE hR.2.1 (by omega) (by omega) (fun i hi => by omega))) hl0 (kCV_of X 0 gX10_addResource_Jx4a65c_size_8abf5 rfl rfl rfl (by decide +kernel) hRR ⟨(Nat.le_of_ble_eq_true rfl), (Nat.le_of_ble_eq_true rfl)⟩) hR.2.1.1 o72 rfl rfl rfl (Nat.le_of_ble_eq_true rfl) hRR ⟨(Nat.le_of_ble_eq_true rfl), (Nat.le_of_ble_eq_true rfl)⟩ dX10_addResource_72 (fun r z hp => ?_)
  obtain rfl := hp
  refine kv_iconst (v := 1) X dX10_addResource_75 (by decide) ?_
  refine kv_isub X dX10_addResource_76 ?_
  refine kv_topi (nI nR) (nI_pred nR) ?_
  exact kv_ireturn X hr (Nat.le_of_ble_eq_true rfl) (Nat.le_of_ble_eq_true rfl) ⟨(za.1, za.2.1, (cE dd za.2.2 e)), ⟨⟨h1, h9, h16, h24⟩, h39, ⟨((hw.2.1 0 (by omega)).trans ((hs49.2.1 0 (by omega)).trans rfl)), _, _, rfl, hO, hR, hC, hT, hL, hW, hV, hM⟩, rfl⟩, rfl⟩ dX10_addResource_77
theorem f_X10_addLine_10 : kF wsX10_addLine RX10 10 13 0 := ⟨_, RX10, TX10, 3, fun _ h => (List.mem_cons_of_mem _ (List.mem_append_left _ (List.mem_append_left _ (List.mem_append_left _ (List.mem_append_left _ (List.mem_append_left _ (List.mem_append_right _ h))))))), (List.mem_cons_of_mem _ (List.mem_append_left _ (List.mem_append_left _ (List.mem_append_left _ (List.mem_append_left _ (List.mem_append_left _ (List.mem_append_left _ (List.mem_append_left _ (List.mem_of_getElem? (i := 0) rfl))))))))), rfl, by decide, rfl⟩
theorem f_X10_addLine_153 : kF wsX10_addLine RX10 153 9 3 := ⟨_, RX6, TX6, 7, fun _ h => (List.mem_cons_of_mem _ (List.mem_append_left _ (List.mem_append_left _ (List.mem_append_left _ (List.mem_append_left _ (List.mem_append_right _ h)))))), (List.mem_cons_of_mem _ (List.mem_append_left _ (List.mem_append_left _ (List.mem_append_left _ (List.mem_append_left _ (List.mem_append_left _ (List.mem_append_left _ (List.mem_append_left _ (List.mem_of_getElem? (i := 1) rfl))))))))), rfl, by decide, rfl⟩
set_option maxRecDepth 100000 in
set_option maxHeartbeats 4000000 in
theorem c_X10_addLine (l : Launch) (dd : kDD) (ks : List Nat) (ad : Nat → Nat) (E : Nat → va_E) (e : eS) (M : mS) (nR nC nt nL nW nV nM : Nat) (cn nm mn me li rl : Nat → Nat) (on : Int32) (hO : cO dd ks ad E on) (hR : cR dd ks ad E M nR) (hC : cC dd ks ad E M nC mn me) (hT : cT dd ks ad E M nt cn nm) (hL : cL dd ks ad E M nL nW li) (hW : cW dd ks ad E M nW rl) (hV : cV dd ks ad E M nV) (hM : cM dd ks ad E M nM) (hB : cB M nR nC nt nL nW nV cn nm mn me li rl) (mI mR : Int32 → Nat → Nat) (hmI : ∀ o j, j < nt → mnt o (M.2.1 22) j nV 0 = nI (mI o j) ∧ mI o j < nt) (hmR : ∀ o j, j < nR → mnt o (M.2.1 23) j nV 0 = nI (mR o j) ∧ mR o j < nR) (hpk : ∀ r, r < nR → 1 ≤ M.2.1 5 r) (v : Int32) : kCiX l yX10_addLine wsX10_addLine ({ frames := 7, cells := 8, slots := 140, locals := 171 } : Room) 8 140 dd [.ref (ad 0), .int v] (ks, ad, (cE dd E e)) (kQi (S := kT) (fun r z => ∃ j, (j < nt ∧ v = nI j) ∧ nL < 10 ∧ (z.2.1 0 = ad 0 ∧ cAll dd (M.1, va_up M.2.1 17 (upd (M.2.1 17) nL (nI j)), M.2.2) nR nC nt (nL + 1) nW nV nM cn nm mn me (va_up li nL j) rl on z) ∧ r = nI nL) (fun z => z.1) (fun z => z.2.1) (fun z => z.2.2)) (fun X9 u9 => ∃ e9, u9 = (ks, ad, cE dd E e9) ∧ ((X9 = "java/lang/IndexOutOfBoundsException" ∧ ¬ (∃ j, j < nt ∧ v = nI j)) ∨ (X9 = "java/lang/IllegalStateException" ∧ ((∃ j, j < nt ∧ v = nI j) ∧ nL = 10)))) := by
  refine kMetiX (ws' := _) (cc := cX10_addLine) (maxL := 2) (rt := .int) (by decide) rfl (Nat.le_of_ble_eq_true rfl) (fun g X hr hRX hnL hRR hl0 hkn => ?_)
  show kv dd g 0 0 0 [(0, .ref (ad 0)), (1, .int v)] [] ks ad (cE dd E e)
  have hT12 := hT.1
  have hR12 := hR.1
  have hL10 := hL.1
  have hV4 := hV.1
  have hM4 := hM.1
  have hC4 := hC.1
  have hW40 := hW.1
  obtain ⟨f20, f21, hf20, hf21, hff⟩ := hO.2.2.2.2
  refine kv_aload_n X 0 dX10_addLine_0 rfl rfl ?_
  refine kv_iload_n X 1 dX10_addLine_1 rfl rfl ?_
  refine kv_callvXV (ci := 13) (κ := 0) (r1 := (TX10, 3)) (As := [.int v]) [] X (c_X10_checkItem l dd ks ad E e M nR nC nt nL nW nV nM cn nm mn me li rl on hO hR hC hT hL hW hV hM hB v) hl0 (kCV_of X 1 gX10_addLine_X10_checkItem rfl rfl rfl (by decide +kernel) hRR ⟨(Nat.le_of_ble_eq_true rfl), (Nat.le_of_ble_eq_true rfl)⟩) hO.1.1 ((cE_ne (by omega)).trans hO.1.2) rfl hRX ⟨(Nat.le_of_ble_eq_true rfl), (Nat.le_of_ble_eq_true rfl)⟩ (fun _ _ h => ⟨e, h.2.1, (Or.inl (⟨h.1, h.2.2⟩))⟩) rfl rfl (Nat.le_of_ble_eq_true rfl) hRR ⟨(Nat.le_of_ble_eq_true rfl), (Nat.le_of_ble_eq_true rfl)⟩ dX10_addLine_2 (fun z hp => ?_)
  obtain ⟨rfl, j2, h2, rfl⟩ := hp
  refine kv_aload_n X 0 dX10_addLine_5 rfl rfl ?_
  refine kv_getfield X f_X10_addLine_10 (κ := 0) (fs := [.ref (ad 1), .ref (ad 2), .int on]) (v := .ref (ad 1)) hO.1.1 ((cE_ne (by omega)).trans hO.1.2) rfl dX10_addLine_6 ?_
  refine kv_getfield X f_X10_addLine_153 (κ := 1) (fs := [.ref (ad 3), .ref (ad 4), .ref (ad 5), .ref (ad 6), .ref (ad 7), .ref (ad 8), .ref (ad 9)]) (v := .ref (ad 6)) hO.2.1.1 ((cE_ne (by omega)).trans hO.2.1.2) rfl dX10_addLine_9 ?_
  obtain ⟨_, _, o12⟩ := kLs_obj (dd := dd) (ks := ks) (ad := ad) (E := (cE dd E e)) (kLs_cE hL.2.1 (by omega) (by omega) (fun i hi => by omega))
  refine kv_calliV (ci := 2) (κ := 6) (r1 := (TJx4a65c, 3)) (As := []) [] X (c_Jx4a65c_size_8abf5 l dd ks ad (cE dd E e) (6) (13) (nL) (fun l => 208 + l) 7 (kLs_cE hL.2.1 (by omega) (by omega) (fun i hi => by omega))) hl0 (kCV_of X 0 gX10_addLine_Jx4a65c_size_8abf5 rfl rfl rfl (by decide +kernel) hRR ⟨(Nat.le_of_ble_eq_true rfl), (Nat.le_of_ble_eq_true rfl)⟩) hL.2.1.1 o12 rfl rfl rfl (Nat.le_of_ble_eq_true rfl) hRR ⟨(Nat.le_of_ble_eq_true rfl), (Nat.le_of_ble_eq_true rfl)⟩ dX10_addLine_12 (fun r z hp => ?_)
  obtain rfl := hp
  refine kv_bipush (v := 10) X dX10_addLine_15 (by decide) ?_
  refine kv_callvXS (As := [.int (nI nL), .int 10]) [] X (c_X10_checkRoom l dd ks ad (cE dd E e) nL 10 (by omega) (by omega)) hl0 (kCS_of X 2 gX10_addLine_X10_checkRoom rfl rfl rfl (by decide +kernel) hRR ⟨(Nat.le_of_ble_eq_true rfl), (Nat.le_of_ble_eq_true rfl)⟩) hRX ⟨(Nat.le_of_ble_eq_true rfl), (Nat.le_of_ble_eq_true rfl)⟩ (fun _ _ h => ⟨e, h.2.1, (Or.inr (⟨h.1, ⟨⟨j2, h2, rfl⟩, by have := h.2.2; omega⟩⟩))⟩) rfl rfl (Nat.le_of_ble_eq_true rfl) hRR ⟨(Nat.le_of_ble_eq_true rfl), (Nat.le_of_ble_eq_true rfl)⟩ dX10_addLine_17 (fun z hp => ?_)
  have h17 := hp
  refine kv_aload_n X 0 dX10_addLine_20 rfl rfl ?_
  refine kv_getfield X f_X10_addLine_10 (κ := 0) (fs := [.ref (ad 1), .ref (ad 2), .int on]) (v := .ref (ad 1)) hO.1.1 ((cE_ne (by omega)).trans hO.1.2) rfl dX10_addLine_21 ?_
  refine kv_getfield X f_X10_addLine_153 (κ := 1) (fs := [.ref (ad 3), .ref (ad 4), .ref (ad 5), .ref (ad 6), .ref (ad 7), .ref (ad 8), .ref (ad 9)]) (v := .ref (ad 6)) hO.2.1.1 ((cE_ne (by omega)).trans hO.2.1.2) rfl dX10_addLine_24 ?_
  refine kv_newR X (208 + nL) (⟨RX4, TX4, tyX4, fun _ h => (List.mem_cons_of_mem _ (List.mem_append_left _ (List.mem_append_left _ (List.mem_append_left _ (List.mem_append_right _ h))))), tyX4_ok, (List.mem_cons_of_mem _ (List.mem_append_left _ (List.mem_append_left _ (List.mem_append_left _ (List.mem_append_left _ (List.mem_append_left _ (List.mem_append_left _ (List.mem_append_left _ (List.mem_of_getElem? (i := 2) rfl))))))))), (List.mem_cons_of_mem _ (List.mem_append_left _ (List.mem_append_left _ (List.mem_append_left _ (List.mem_append_left _ (List.mem_append_left _ (List.mem_append_left _ (List.mem_append_left _ (List.mem_of_getElem? (i := 3) rfl))))))))), (List.mem_cons_of_mem _ (List.mem_append_left _ (List.mem_append_left _ (List.mem_append_left _ (List.mem_append_left _ (List.mem_append_left _ (List.mem_append_left _ (List.mem_append_left _ (List.mem_of_getElem? (i := 4) rfl))))))))), rfl, by decide⟩ : kN wsX10_addLine RX10 156 7 [.int 0, .int 0] 2) hRR ⟨(Nat.le_of_ble_eq_true rfl), (Nat.le_of_ble_eq_true rfl)⟩ dX10_addLine_27 (fun ks27 ad27 E27 hs27 => ?_)
  refine kv_LS [(0, .ref (ad27 0)), (1, .int (nI j2))] [.ref (ad27 (208 + nL)), .ref (ad27 6)] (by rw [hs27.2.1 (0) (by omega)]) (by rw [hs27.2.1 (6) (by omega)]) ?_
  refine kv_dup X dX10_addLine_30 rfl ?_
  refine kv_iload_n X 1 dX10_addLine_31 rfl rfl ?_
  refine kv_callvI (κ := 208 + nL) (As := [.int (nI j2)]) [.ref (ad27 (208 + nL)), .ref (ad27 6)] X (c_X4_init l dd ks27 ad27 E27 (208 + nL) (nI j2) ((hs27.1 _).mpr (Or.inr rfl)) hs27.2.2.2) hl0 (kCI_of X 1 gX10_addLine_X4_init (List.mem_cons_of_mem _ (List.mem_append_left _ (List.mem_append_left _ (List.mem_append_left _ (List.mem_append_left _ (List.mem_append_left _ (List.mem_append_left _ (List.mem_append_left _ (List.mem_of_getElem? (i := 4) rfl))))))))) (List.mem_cons_of_mem _ (List.mem_append_left _ (List.mem_append_left _ (List.mem_append_left _ (List.mem_append_left _ (List.mem_append_left _ (List.mem_append_left _ (List.mem_append_right _ (List.mem_append_left _ (List.mem_of_getElem? (i := 3) rfl)))))))))) (List.mem_cons_of_mem _ (List.mem_append_left _ (List.mem_append_left _ (List.mem_append_left _ (List.mem_append_left _ (List.mem_append_left _ (List.mem_append_left _ (List.mem_append_right _ (List.mem_append_left _ (List.mem_of_getElem? (i := 4) rfl)))))))))) rfl rfl rfl rfl (by decide +kernel) hRR ⟨(Nat.le_of_ble_eq_true rfl), (Nat.le_of_ble_eq_true rfl)⟩) rfl rfl (Nat.le_of_ble_eq_true rfl) hRR ⟨(Nat.le_of_ble_eq_true rfl), (Nat.le_of_ble_eq_true rfl)⟩ dX10_addLine_32 (fun z hp => ?_)
  have st32 : cSt dd (fun j => j = 208 + nL) (fun j => j = 208 + nL) ks ad E e ks27 ad27 (va_up E27 (208 + nL) (.inr (7, [.int (nI j2), .int 0]))) := ⟨fun j hj => ⟨fun q => (hs27.1 j).mpr (Or.inl q), hs27.2.1 j hj⟩, fun j hj => (va_up_ne _ _ hj).trans (hs27.2.2.1 j hj)⟩
  refine kv_E (E2 := cE dd (va_up E27 (208 + nL) (.inr (7, [.int (nI j2), .int 0]))) e) (cSt_E' st32 (fun j hj (q : j = 208 + nL) => by omega)) ?_
  have hO := cO_st st32 hO (fun j hj (q : j = 208 + nL) => by unfold vO at hj; omega) ⟨(show ¬ (0 = 208 + nL) by omega), (show ¬ (1 = 208 + nL) by omega), (show ¬ (2 = 208 + nL) by omega), (show ¬ (20 = 208 + nL) by omega), (show ¬ (21 = 208 + nL) by omega)⟩
  have hR := cR_st st32 hR (fun j hj => by unfold vR at hj; exact ⟨fun (q : j = 208 + nL) => by omega, fun (q : j = 208 + nL) => by omega⟩)
  have hC := cC_st st32 hC (fun j hj => by unfold vC at hj; exact ⟨fun (q : j = 208 + nL) => by omega, fun (q : j = 208 + nL) => by omega⟩)
  have hT := cT_st st32 hT (fun j hj => by unfold vT at hj; rcases hj with y | y | y | y | y | ⟨i, k, y1, y2, y3, y4⟩ <;> exact ⟨fun (q : j = 208 + nL) => by omega, fun (q : j = 208 + nL) => by omega⟩)
  have hL := cL_st st32 hL (fun j hj => by unfold vL at hj; exact ⟨fun (q : j = 208 + nL) => by omega, fun (q : j = 208 + nL) => by omega⟩)
  have hW := cW_st st32 hW (fun j hj => by unfold vW at hj; exact ⟨fun (q : j = 208 + nL) => by omega, fun (q : j = 208 + nL) => by omega⟩)
  have hV := cV_st st32 hV (fun j hj => by unfold vV at hj; exact ⟨fun (q : j = 208 + nL) => by omega, fun (q : j = 208 + nL) => by omega⟩)
  have hM := cM_st st32 hM (fun j hj => by unfold vM at hj; exact ⟨fun (q : j = 208 + nL) => by omega, fun (q : j = 208 + nL) => by omega⟩)
  obtain ⟨_, _, o35⟩ := kLs_obj (dd := dd) (ks := ks27) (ad := ad27) (E := (cE dd (va_up E27 (208 + nL) (.inr (7, [.int (nI j2), .int 0]))) e)) (kLs_cE hL.2.1 (by omega) (by omega) (fun i hi => by omega))
  refine kv_calliV (ci := 2) (κ := 6) (r1 := (TJx4a65c, 3)) (As := [.ref (ad27 (208 + nL))]) [] X (c_Jx4a65c_add_9ea2d l dd ks27 ad27 (cE dd (va_up E27 (208 + nL) (.inr (7, [.int (nI j2), .int 0]))) e) (6) (13) (nL) (fun l => 208 + l) 7 _ (kLs_cE hL.2.1 (by omega) (by omega) (fun i hi => by omega)) (by omega) ((hs27.1 _).mpr (Or.inr rfl)) (by omega) (by omega) ((cE_ne (by omega)).trans (va_up_self _ _ _))) hl0 (kCV_of X 1 gX10_addLine_Jx4a65c_add_9ea2d rfl rfl rfl (by decide +kernel) hRR ⟨(Nat.le_of_ble_eq_true rfl), (Nat.le_of_ble_eq_true rfl)⟩) hL.2.1.1 o35 rfl rfl rfl (Nat.le_of_ble_eq_true rfl) hRR ⟨(Nat.le_of_ble_eq_true rfl), (Nat.le_of_ble_eq_true rfl)⟩ dX10_addLine_35 (fun r za hp => ?_)
  obtain ⟨rfl, mc, hw⟩ := hp
  refine kv_LS [(0, .ref (za.2.1 0)), (1, .int (nI j2))] [.int 1] (by rw [hw.2.1 (0) (by omega)]) rfl ?_
  have sw : cSt dd (fun j => j = 13) (fun j => j = 6 ∨ j = 13) ks27 ad27 (va_up E27 (208 + nL) (.inr (7, [.int (nI j2), .int 0]))) e za.1 za.2.1 za.2.2 := ⟨fun j hj => ⟨fun q => (hw.1 j).mpr (Or.inl q), hw.2.1 j hj⟩, fun j hj => hw.2.2.1 j (fun q => hj (Or.inr q)) (fun q => hj (Or.inl q))⟩
  refine kv_E (E2 := cE dd za.2.2 e) (cSt_E' sw (fun j hj (q : j = 6 ∨ j = 13) => by omega)) ?_
  have hL1 := cL_st (cSt_id dd ks27 ad27 (va_up E27 (208 + nL) (.inr (7, [.int (nI j2), .int 0]))) e) hL (fun _ _ => ⟨id, id⟩)
  have hL2 := cL_add (M2 := (M.1, va_up M.2.1 17 (upd (M.2.1 17) nL (nI j2)), M.2.2)) (li2 := va_up li nL j2) hL1 h17 ((hs27.1 _).mpr (Or.inr rfl)) ((cE_ne (by omega)).trans ((va_up_self _ _ _).trans (by show _ = Sum.inr (7, [Value.int (nI (va_up li nL j2 nL)), .int (mq (M.2.1 19) (M.2.1 20) (nI nL) nW)]); rw [va_up_self, (mq_0 nW (fun k hk q => by have b := hB.2.2.2.1 k hk; rw [b.2] at q; have c := (nI_eq (by omega) (by omega)).mp q; omega))]))) (fun i hi => by show _ = [Value.int (nI (va_up li nL j2 i)), .int (mq (M.2.1 19) (M.2.1 20) (nI i) nW)]; rw [va_up_ne _ _ (by omega)]) hw
  have hO := cO_st sw hO (fun j hj (q : j = 13) => by unfold vO at hj; omega) ⟨(show ¬ (0 = 6 ∨ 0 = 13) by omega), (show ¬ (1 = 6 ∨ 1 = 13) by omega), (show ¬ (2 = 6 ∨ 2 = 13) by omega), (show ¬ (20 = 6 ∨ 20 = 13) by omega), (show ¬ (21 = 6 ∨ 21 = 13) by omega)⟩
  have hR := cR_st sw hR (fun j hj => by unfold vR at hj; exact ⟨fun (q : j = 13) => by omega, fun (q : j = 6 ∨ j = 13) => by omega⟩)
  have hC := cC_st sw hC (fun j hj => by unfold vC at hj; exact ⟨fun (q : j = 13) => by omega, fun (q : j = 6 ∨ j = 13) => by omega⟩)
  have hT := cT_st sw hT (fun j hj => by unfold vT at hj; rcases hj with y | y | y | y | y | ⟨i, k, y1, y2, y3, y4⟩ <;> exact ⟨fun (q : j = 13) => by omega, fun (q : j = 6 ∨ j = 13) => by omega⟩)
  have hL := hL2
  have hW := cW_st sw hW (fun j hj => by unfold vW at hj; exact ⟨fun (q : j = 13) => by omega, fun (q : j = 6 ∨ j = 13) => by omega⟩)
  have hV := cV_st sw hV (fun j hj => by unfold vV at hj; exact ⟨fun (q : j = 13) => by omega, fun (q : j = 6 ∨ j = 13) => by omega⟩)
  have hM := cM_st sw hM (fun j hj => by unfold vM at hj; exact ⟨fun (q : j = 13) => by omega, fun (q : j = 6 ∨ j = 13) => by omega⟩)
  refine kv_pop X dX10_addLine_38 rfl ?_
  refine kv_aload_n X 0 dX10_addLine_39 rfl rfl ?_
  refine kv_getfield X f_X10_addLine_10 (κ := 0) (fs := [.ref (za.2.1 1), .ref (za.2.1 2), .int on]) (v := .ref (za.2.1 1)) hO.1.1 ((cE_ne (by omega)).trans hO.1.2) rfl dX10_addLine_40 ?_
  refine kv_getfield X f_X10_addLine_153 (κ := 1) (fs := [.ref (za.2.1 3), .ref (za.2.1 4), .ref (za.2.1 5), .ref (za.2.1 6), .ref (za.2.1 7), .ref (za.2.1 8), .ref (za.2.1 9)]) (v := .ref (za.2.1 6)) hO.2.1.1 ((cE_ne (by omega)).trans hO.2.1.2) rfl dX10_addLine_43 ?_
  obtain ⟨_, _, o46⟩ := kLs_obj (dd := dd) (ks := za.1) (ad := za.2.1) (E := (cE dd za.2.2 e)) (kLs_cE hL.2.1 (by omega) (by omega) (fun i hi => by omega))
  refine kv_calliV (ci := 2) (κ := 6) (r1 := (TJx4a65c, 3)) (As := []) [] X (c_Jx4a65c_size_8abf5 l dd za.1 za.2.1 (cE dd za.2.2 e) (6) (13) ((nL + 1)) (fun l => 208 + l) 7 (kLs_cE hL.2.1 (by omega) (by omega) (fun i hi => by omega))) hl0 (kCV_of X 0 gX10_addLine_Jx4a65c_size_8abf5 rfl rfl rfl (by decide +kernel) hRR ⟨(Nat.le_of_ble_eq_true rfl), (Nat.le_of_ble_eq_true rfl)⟩) hL.2.1.1 o46 rfl rfl rfl (Nat.le_of_ble_eq_true rfl) hRR ⟨(Nat.le_of_ble_eq_true rfl), (Nat.le_of_ble_eq_true rfl)⟩ dX10_addLine_46 (fun r z hp => ?_)
  obtain rfl := hp
  refine kv_iconst (v := 1) X dX10_addLine_49 (by decide) ?_
  refine kv_isub X dX10_addLine_50 ?_
  refine kv_topi (nI nL) (nI_pred nL) ?_
  exact kv_ireturn X hr (Nat.le_of_ble_eq_true rfl) (Nat.le_of_ble_eq_true rfl) ⟨(za.1, za.2.1, (cE dd za.2.2 e)), ⟨j2, ⟨h2, rfl⟩, h17, ⟨((hw.2.1 0 (by omega)).trans ((hs27.2.1 0 (by omega)).trans rfl)), _, _, rfl, hO, hR, hC, hT, hL, hW, hV, hM⟩, rfl⟩, rfl⟩ dX10_addLine_51
theorem f_X10_addMarkup_10 : kF wsX10_addMarkup RX10 10 13 0 := ⟨_, RX10, TX10, 3, fun _ h => (List.mem_cons_of_mem _ (List.mem_append_left _ (List.mem_append_left _ (List.mem_append_left _ (List.mem_append_left _ (List.mem_append_left _ (List.mem_append_right _ h))))))), (List.mem_cons_of_mem _ (List.mem_append_left _ (List.mem_append_left _ (List.mem_append_left _ (List.mem_append_left _ (List.mem_append_left _ (List.mem_append_left _ (List.mem_append_left _ (List.mem_of_getElem? (i := 2) rfl))))))))), rfl, by decide, rfl⟩
theorem f_X10_addMarkup_244 : kF wsX10_addMarkup RX10 244 9 6 := ⟨_, RX6, TX6, 7, fun _ h => (List.mem_cons_of_mem _ (List.mem_append_left _ (List.mem_append_left _ (List.mem_append_left _ (List.mem_append_left _ (List.mem_append_right _ h)))))), (List.mem_cons_of_mem _ (List.mem_append_left _ (List.mem_append_left _ (List.mem_append_left _ (List.mem_append_left _ (List.mem_append_left _ (List.mem_append_left _ (List.mem_append_left _ (List.mem_of_getElem? (i := 3) rfl))))))))), rfl, by decide, rfl⟩
set_option maxRecDepth 100000 in
set_option maxHeartbeats 4000000 in
theorem c_X10_addMarkup (l : Launch) (dd : kDD) (ks : List Nat) (ad : Nat → Nat) (E : Nat → va_E) (e : eS) (M : mS) (nR nC nt nL nW nV nM : Nat) (cn nm mn me li rl : Nat → Nat) (on : Int32) (hO : cO dd ks ad E on) (hR : cR dd ks ad E M nR) (hC : cC dd ks ad E M nC mn me) (hT : cT dd ks ad E M nt cn nm) (hL : cL dd ks ad E M nL nW li) (hW : cW dd ks ad E M nW rl) (hV : cV dd ks ad E M nV) (hM : cM dd ks ad E M nM) (hB : cB M nR nC nt nL nW nV cn nm mn me li rl) (mI mR : Int32 → Nat → Nat) (hmI : ∀ o j, j < nt → mnt o (M.2.1 22) j nV 0 = nI (mI o j) ∧ mI o j < nt) (hmR : ∀ o j, j < nR → mnt o (M.2.1 23) j nV 0 = nI (mR o j) ∧ mR o j < nR) (hpk : ∀ r, r < nR → 1 ≤ M.2.1 5 r) (p bs : Int32) : kCiX l yX10_addMarkup wsX10_addMarkup ({ frames := 7, cells := 8, slots := 140, locals := 171 } : Room) 8 140 dd [.ref (ad 0), .int p, .int bs] (ks, ad, (cE dd E e)) (kQi (S := kT) (fun r z => nM < 4 ∧ (0 ≤ p ∧ p ≤ 50) ∧ bs &&& (((1 : Int32) <<< (nI (4 + nM) &&& 31)) - 1 ^^^ -1) = 0 ∧ (z.2.1 0 = ad 0 ∧ cAll dd (M.1, va_up (va_up M.2.1 26 (upd (M.2.1 26) nM p)) 27 (upd (M.2.1 27) nM bs), M.2.2) nR nC nt nL nW nV (nM + 1) cn nm mn me li rl on z) ∧ r = nI nM) (fun z => z.1) (fun z => z.2.1) (fun z => z.2.2)) (fun X9 u9 => ∃ e9, u9 = (ks, ad, cE dd E e9) ∧ ((X9 = "java/lang/IllegalStateException" ∧ nM = 4) ∨ (X9 = "java/lang/IllegalArgumentException" ∧ (nM < 4 ∧ ¬ ((0 ≤ p ∧ p ≤ 50) ∧ bs &&& (((1 : Int32) <<< (nI (4 + nM) &&& 31)) - 1 ^^^ -1) = 0))))) := by
  refine kMetiX (ws' := _) (cc := cX10_addMarkup) (maxL := 5) (rt := .int) (by decide) rfl (Nat.le_of_ble_eq_true rfl) (fun g X hr hRX hnL hRR hl0 hkn => ?_)
  show kv dd g 0 0 0 [(0, .ref (ad 0)), (1, .int p), (2, .int bs)] [] ks ad (cE dd E e)
  have hT12 := hT.1
  have hR12 := hR.1
  have hL10 := hL.1
  have hV4 := hV.1
  have hM4 := hM.1
  have hC4 := hC.1
  have hW40 := hW.1
  obtain ⟨f20, f21, hf20, hf21, hff⟩ := hO.2.2.2.2
  refine kv_aload_n X 0 dX10_addMarkup_0 rfl rfl ?_
  refine kv_getfield X f_X10_addMarkup_10 (κ := 0) (fs := [.ref (ad 1), .ref (ad 2), .int on]) (v := .ref (ad 1)) hO.1.1 ((cE_ne (by omega)).trans hO.1.2) rfl dX10_addMarkup_1 ?_
  refine kv_getfield X f_X10_addMarkup_244 (κ := 1) (fs := [.ref (ad 3), .ref (ad 4), .ref (ad 5), .ref (ad 6), .ref (ad 7), .ref (ad 8), .ref (ad 9)]) (v := .ref (ad 9)) hO.2.1.1 ((cE_ne (by omega)).trans hO.2.1.2) rfl dX10_addMarkup_4 ?_
  obtain ⟨_, _, o7⟩ := kLs_obj (dd := dd) (ks := ks) (ad := ad) (E := (cE dd E e)) (kLs_cE hM.2.1 (by omega) (by omega) (fun i hi => by omega))
  refine kv_calliV (ci := 2) (κ := 9) (r1 := (TJx4a65c, 3)) (As := []) [] X (c_Jx4a65c_size_8abf5 l dd ks ad (cE dd E e) (9) (16) (nM) (fun m => 288 + m) 8 (kLs_cE hM.2.1 (by omega) (by omega) (fun i hi => by omega))) hl0 (kCV_of X 0 gX10_addMarkup_Jx4a65c_size_8abf5 rfl rfl rfl (by decide +kernel) hRR ⟨(Nat.le_of_ble_eq_true rfl), (Nat.le_of_ble_eq_true rfl)⟩) hM.2.1.1 o7 rfl rfl rfl (Nat.le_of_ble_eq_true rfl) hRR ⟨(Nat.le_of_ble_eq_true rfl), (Nat.le_of_ble_eq_true rfl)⟩ dX10_addMarkup_7 (fun r z hp => ?_)
  obtain rfl := hp
  refine kv_istore_n (lv2 := [(3, .int (nI nM)), (0, .ref (ad 0)), (1, .int p), (2, .int bs)]) X dX10_addMarkup_10 rfl (by rw [hnL]; decide) rfl ?_
  refine kv_iload_n X 0 dX10_addMarkup_11 rfl rfl ?_
  refine kv_iconst (v := 4) X dX10_addMarkup_12 (by decide) ?_
  refine kv_callvXS (As := [.int (nI nM), .int 4]) [] X (c_X10_checkRoom l dd ks ad (cE dd E e) nM 4 (by omega) (by omega)) hl0 (kCS_of X 2 gX10_addMarkup_X10_checkRoom rfl rfl rfl (by decide +kernel) hRR ⟨(Nat.le_of_ble_eq_true rfl), (Nat.le_of_ble_eq_true rfl)⟩) hRX ⟨(Nat.le_of_ble_eq_true rfl), (Nat.le_of_ble_eq_true rfl)⟩ (fun _ _ h => ⟨e, h.2.1, (Or.inl (⟨h.1, by have := h.2.2; omega⟩))⟩) rfl rfl (Nat.le_of_ble_eq_true rfl) hRR ⟨(Nat.le_of_ble_eq_true rfl), (Nat.le_of_ble_eq_true rfl)⟩ dX10_addMarkup_13 (fun z hp => ?_)
  have h13 := hp
  refine kv_iload_n X 2 dX10_addMarkup_16 rfl rfl ?_
  refine kv_iconst (v := 0) X dX10_addMarkup_17 (by decide) ?_
  refine kv_bipush (v := 50) X dX10_addMarkup_18 (by decide) ?_
  refine kv_callvXS (As := [.int p, .int 0, .int 50]) [] X (c_X10_checkRange l dd ks ad (cE dd E e) p 0 50) hl0 (kCS_of X 3 gX10_addMarkup_X10_checkRange rfl rfl rfl (by decide +kernel) hRR ⟨(Nat.le_of_ble_eq_true rfl), (Nat.le_of_ble_eq_true rfl)⟩) hRX ⟨(Nat.le_of_ble_eq_true rfl), (Nat.le_of_ble_eq_true rfl)⟩ (fun _ _ h => ⟨e, h.2.1, (Or.inr (⟨h.1, ⟨h13, fun q => h.2.2 q.1⟩⟩))⟩) rfl rfl (Nat.le_of_ble_eq_true rfl) hRR ⟨(Nat.le_of_ble_eq_true rfl), (Nat.le_of_ble_eq_true rfl)⟩ dX10_addMarkup_20 (fun z hp => ?_)
  have h20 := hp
  refine kv_iconst (v := 1) X dX10_addMarkup_23 (by decide) ?_
  refine kv_iconst (v := 4) X dX10_addMarkup_24 (by decide) ?_
  refine kv_iload_n X 0 dX10_addMarkup_25 rfl rfl ?_
  refine kv_iadd X dX10_addMarkup_26 ?_
  refine kv_topi (nI (4 + nM)) (nI_add 4 nM) ?_
  refine kv_ishl X dX10_addMarkup_27 ?_
  refine kv_iconst (v := 1) X dX10_addMarkup_28 (by decide) ?_
  refine kv_isub X dX10_addMarkup_29 ?_
  refine kv_istore (lv2 := [(4, .int ((1 <<< ((nI (4 + nM)) &&& 31)) - 1)), (3, .int (nI nM)), (0, .ref (ad 0)), (1, .int p), (2, .int bs)]) X dX10_addMarkup_30 (by rw [hnL]; decide) rfl ?_
  refine kv_iload_n X 4 dX10_addMarkup_32 rfl rfl ?_
  refine kv_iload X 0 dX10_addMarkup_33 rfl ?_
  refine kv_iconst (v := (-1)) X dX10_addMarkup_35 (by decide) ?_
  refine kv_ixor X dX10_addMarkup_36 ?_
  refine kv_iand X dX10_addMarkup_37 ?_
  refine kv_if_eq (tgt := 51) X dX10_addMarkup_38 (by decide) (fun hc38 => ?_) (fun hc38 => ?_)
  ·
    refine kv_aload_n X 2 dX10_addMarkup_51 rfl rfl ?_
    refine kv_getfield X f_X10_addMarkup_10 (κ := 0) (fs := [.ref (ad 1), .ref (ad 2), .int on]) (v := .ref (ad 1)) hO.1.1 ((cE_ne (by omega)).trans hO.1.2) rfl dX10_addMarkup_52 ?_
    refine kv_getfield X f_X10_addMarkup_244 (κ := 1) (fs := [.ref (ad 3), .ref (ad 4), .ref (ad 5), .ref (ad 6), .ref (ad 7), .ref (ad 8), .ref (ad 9)]) (v := .ref (ad 9)) hO.2.1.1 ((cE_ne (by omega)).trans hO.2.1.2) rfl dX10_addMarkup_55 ?_
    refine kv_newR X (288 + nM) (⟨RX5, TX5, tyX5, fun _ h => (List.mem_cons_of_mem _ (List.mem_append_left _ (List.mem_append_left _ (List.mem_append_left _ (List.mem_append_right _ h))))), tyX5_ok, (List.mem_cons_of_mem _ (List.mem_append_left _ (List.mem_append_left _ (List.mem_append_left _ (List.mem_append_left _ (List.mem_append_left _ (List.mem_append_left _ (List.mem_append_left _ (List.mem_of_getElem? (i := 4) rfl))))))))), (List.mem_cons_of_mem _ (List.mem_append_left _ (List.mem_append_left _ (List.mem_append_left _ (List.mem_append_left _ (List.mem_append_left _ (List.mem_append_left _ (List.mem_append_left _ (List.mem_of_getElem? (i := 5) rfl))))))))), (List.mem_cons_of_mem _ (List.mem_append_left _ (List.mem_append_left _ (List.mem_append_left _ (List.mem_append_left _ (List.mem_append_left _ (List.mem_append_left _ (List.mem_append_left _ (List.mem_of_getElem? (i := 6) rfl))))))))), rfl, by decide⟩ : kN wsX10_addMarkup RX10 249 8 [.int 0, .int 0] 2) hRR ⟨(Nat.le_of_ble_eq_true rfl), (Nat.le_of_ble_eq_true rfl)⟩ dX10_addMarkup_58 (fun ks58 ad58 E58 hs58 => ?_)
    refine kv_LS [(4, .int ((1 <<< ((nI (4 + nM)) &&& 31)) - 1)), (3, .int (nI nM)), (0, .ref (ad58 0)), (1, .int p), (2, .int bs)] [.ref (ad58 (288 + nM)), .ref (ad58 9)] (by rw [hs58.2.1 (0) (by omega)]) (by rw [hs58.2.1 (9) (by omega)]) ?_
    refine kv_dup X dX10_addMarkup_61 rfl ?_
    refine kv_iload_n X 3 dX10_addMarkup_62 rfl rfl ?_
    refine kv_iload_n X 4 dX10_addMarkup_63 rfl rfl ?_
    refine kv_callvI (κ := 288 + nM) (As := [.int p, .int bs]) [.ref (ad58 (288 + nM)), .ref (ad58 9)] X (c_X5_init l dd ks58 ad58 E58 (288 + nM) p bs ((hs58.1 _).mpr (Or.inr rfl)) hs58.2.2.2) hl0 (kCI_of X 2 gX10_addMarkup_X5_init (List.mem_cons_of_mem _ (List.mem_append_left _ (List.mem_append_left _ (List.mem_append_left _ (List.mem_append_left _ (List.mem_append_left _ (List.mem_append_left _ (List.mem_append_left _ (List.mem_of_getElem? (i := 6) rfl))))))))) (List.mem_cons_of_mem _ (List.mem_append_left _ (List.mem_append_left _ (List.mem_append_left _ (List.mem_append_left _ (List.mem_append_left _ (List.mem_append_left _ (List.mem_append_left _ (List.mem_of_getElem? (i := 22) rfl))))))))) (List.mem_cons_of_mem _ (List.mem_append_left _ (List.mem_append_left _ (List.mem_append_left _ (List.mem_append_left _ (List.mem_append_left _ (List.mem_append_left _ (List.mem_append_left _ (List.mem_of_getElem? (i := 23) rfl))))))))) rfl rfl rfl rfl (by decide +kernel) hRR ⟨(Nat.le_of_ble_eq_true rfl), (Nat.le_of_ble_eq_true rfl)⟩) rfl rfl (Nat.le_of_ble_eq_true rfl) hRR ⟨(Nat.le_of_ble_eq_true rfl), (Nat.le_of_ble_eq_true rfl)⟩ dX10_addMarkup_64 (fun z hp => ?_)
    have st64 : cSt dd (fun j => j = 288 + nM) (fun j => j = 288 + nM) ks ad E e ks58 ad58 (va_up E58 (288 + nM) (.inr (8, [.int p, .int bs]))) := ⟨fun j hj => ⟨fun q => (hs58.1 j).mpr (Or.inl q), hs58.2.1 j hj⟩, fun j hj => (va_up_ne _ _ hj).trans (hs58.2.2.1 j hj)⟩
    refine kv_E (E2 := cE dd (va_up E58 (288 + nM) (.inr (8, [.int p, .int bs]))) e) (cSt_E' st64 (fun j hj (q : j = 288 + nM) => by omega)) ?_
    have hO := cO_st st64 hO (fun j hj (q : j = 288 + nM) => by unfold vO at hj; omega) ⟨(show ¬ (0 = 288 + nM) by omega), (show ¬ (1 = 288 + nM) by omega), (show ¬ (2 = 288 + nM) by omega), (show ¬ (20 = 288 + nM) by omega), (show ¬ (21 = 288 + nM) by omega)⟩
    have hR := cR_st st64 hR (fun j hj => by unfold vR at hj; exact ⟨fun (q : j = 288 + nM) => by omega, fun (q : j = 288 + nM) => by omega⟩)
    have hC := cC_st st64 hC (fun j hj => by unfold vC at hj; exact ⟨fun (q : j = 288 + nM) => by omega, fun (q : j = 288 + nM) => by omega⟩)
    have hT := cT_st st64 hT (fun j hj => by unfold vT at hj; rcases hj with y | y | y | y | y | ⟨i, k, y1, y2, y3, y4⟩ <;> exact ⟨fun (q : j = 288 + nM) => by omega, fun (q : j = 288 + nM) => by omega⟩)
    have hL := cL_st st64 hL (fun j hj => by unfold vL at hj; exact ⟨fun (q : j = 288 + nM) => by omega, fun (q : j = 288 + nM) => by omega⟩)
    have hW := cW_st st64 hW (fun j hj => by unfold vW at hj; exact ⟨fun (q : j = 288 + nM) => by omega, fun (q : j = 288 + nM) => by omega⟩)
    have hV := cV_st st64 hV (fun j hj => by unfold vV at hj; exact ⟨fun (q : j = 288 + nM) => by omega, fun (q : j = 288 + nM) => by omega⟩)
    have hM := cM_st st64 hM (fun j hj => by unfold vM at hj; exact ⟨fun (q : j = 288 + nM) => by omega, fun (q : j = 288 + nM) => by omega⟩)
    obtain ⟨_, _, o67⟩ := kLs_obj (dd := dd) (ks := ks58) (ad := ad58) (E := (cE dd (va_up E58 (288 + nM) (.inr (8, [.int p, .int bs]))) e)) (kLs_cE hM.2.1 (by omega) (by omega) (fun i hi => by omega))
    refine kv_calliV (ci := 2) (κ := 9) (r1 := (TJx4a65c, 3)) (As := [.ref (ad58 (288 + nM))]) [] X (c_Jx4a65c_add_9ea2d l dd ks58 ad58 (cE dd (va_up E58 (288 + nM) (.inr (8, [.int p, .int bs]))) e) (9) (16) (nM) (fun m => 288 + m) 8 _ (kLs_cE hM.2.1 (by omega) (by omega) (fun i hi => by omega)) (by omega) ((hs58.1 _).mpr (Or.inr rfl)) (by omega) (by omega) ((cE_ne (by omega)).trans (va_up_self _ _ _))) hl0 (kCV_of X 1 gX10_addMarkup_Jx4a65c_add_9ea2d rfl rfl rfl (by decide +kernel) hRR ⟨(Nat.le_of_ble_eq_true rfl), (Nat.le_of_ble_eq_true rfl)⟩) hM.2.1.1 o67 rfl rfl rfl (Nat.le_of_ble_eq_true rfl) hRR ⟨(Nat.le_of_ble_eq_true rfl), (Nat.le_of_ble_eq_true rfl)⟩ dX10_addMarkup_67 (fun r za hp => ?_)
    obtain ⟨rfl, mc, hw⟩ := hp
    refine kv_LS [(4, .int ((1 <<< ((nI (4 + nM)) &&& 31)) - 1)), (3, .int (nI nM)), (0, .ref (za.2.1 0)), (1, .int p), (2, .int bs)] [.int 1] (by rw [hw.2.1 (0) (by omega)]) rfl ?_
    have sw : cSt dd (fun j => j = 16) (fun j => j = 9 ∨ j = 16) ks58 ad58 (va_up E58 (288 + nM) (.inr (8, [.int p, .int bs]))) e za.1 za.2.1 za.2.2 := ⟨fun j hj => ⟨fun q => (hw.1 j).mpr (Or.inl q), hw.2.1 j hj⟩, fun j hj => hw.2.2.1 j (fun q => hj (Or.inr q)) (fun q => hj (Or.inl q))⟩
    refine kv_E (E2 := cE dd za.2.2 e) (cSt_E' sw (fun j hj (q : j = 9 ∨ j = 16) => by omega)) ?_
    have hM1 := cM_st (cSt_id dd ks58 ad58 (va_up E58 (288 + nM) (.inr (8, [.int p, .int bs]))) e) hM (fun _ _ => ⟨id, id⟩)
    have hM2 := cM_add (M2 := (M.1, va_up (va_up M.2.1 26 (upd (M.2.1 26) nM p)) 27 (upd (M.2.1 27) nM bs), M.2.2)) hM1 h13 ((hs58.1 _).mpr (Or.inr rfl)) ((cE_ne (by omega)).trans ((va_up_self _ _ _).trans (by show _ = Sum.inr (8, [Value.int (upd (M.2.1 26) nM p nM), .int (upd (M.2.1 27) nM bs nM)]); rw [upd_at, upd_at]))) (fun i hi => by show _ = [Value.int (upd (M.2.1 26) nM p i), .int (upd (M.2.1 27) nM bs i)]; rw [upd_ne (by omega), upd_ne (by omega)]) hw
    have hO := cO_st sw hO (fun j hj (q : j = 16) => by unfold vO at hj; omega) ⟨(show ¬ (0 = 9 ∨ 0 = 16) by omega), (show ¬ (1 = 9 ∨ 1 = 16) by omega), (show ¬ (2 = 9 ∨ 2 = 16) by omega), (show ¬ (20 = 9 ∨ 20 = 16) by omega), (show ¬ (21 = 9 ∨ 21 = 16) by omega)⟩
    have hR := cR_st sw hR (fun j hj => by unfold vR at hj; exact ⟨fun (q : j = 16) => by omega, fun (q : j = 9 ∨ j = 16) => by omega⟩)
    have hC := cC_st sw hC (fun j hj => by unfold vC at hj; exact ⟨fun (q : j = 16) => by omega, fun (q : j = 9 ∨ j = 16) => by omega⟩)
    have hT := cT_st sw hT (fun j hj => by unfold vT at hj; rcases hj with y | y | y | y | y | ⟨i, k, y1, y2, y3, y4⟩ <;> exact ⟨fun (q : j = 16) => by omega, fun (q : j = 9 ∨ j = 16) => by omega⟩)
    have hL := cL_st sw hL (fun j hj => by unfold vL at hj; exact ⟨fun (q : j = 16) => by omega, fun (q : j = 9 ∨ j = 16) => by omega⟩)
    have hW := cW_st sw hW (fun j hj => by unfold vW at hj; exact ⟨fun (q : j = 16) => by omega, fun (q : j = 9 ∨ j = 16) => by omega⟩)
    have hV := cV_st sw hV (fun j hj => by unfold vV at hj; exact ⟨fun (q : j = 16) => by omega, fun (q : j = 9 ∨ j = 16) => by omega⟩)
    have hM := hM2
    refine kv_pop X dX10_addMarkup_70 rfl ?_
    refine kv_iload_n X 1 dX10_addMarkup_71 rfl rfl ?_
    exact kv_ireturn X hr (Nat.le_of_ble_eq_true rfl) (Nat.le_of_ble_eq_true rfl) ⟨(za.1, za.2.1, (cE dd za.2.2 e)), ⟨h13, h20, hc38, ⟨((hw.2.1 0 (by omega)).trans ((hs58.2.1 0 (by omega)).trans rfl)), _, _, rfl, hO, hR, hC, hT, hL, hW, hV, hM⟩, rfl⟩, rfl⟩ dX10_addMarkup_72
  ·
    exact kv_throw (cls := "java/lang/IllegalArgumentException") (text := "a bit is for nothing") (names := ["java/lang/RuntimeException", "java/lang/Exception"]) (ik := 208) (is := 247) (ic := 212) X hRX tf_IAE (by decide) (List.mem_cons_of_mem _ (List.mem_append_left _ (List.mem_append_left _ (List.mem_append_left _ (List.mem_append_left _ (List.mem_append_left _ (List.mem_append_left _ (List.mem_append_left _ (List.mem_of_getElem? (i := 0) rfl))))))))) (List.mem_cons_of_mem _ (List.mem_append_left _ (List.mem_append_left _ (List.mem_append_left _ (List.mem_append_left _ (List.mem_append_left _ (List.mem_append_left _ (List.mem_append_left _ (List.mem_of_getElem? (i := 1) rfl))))))))) (by decide +kernel) (fun _ h => (List.mem_cons_of_mem _ (List.mem_append_left _ (List.mem_append_right _ h)))) tb_IAE tg_IAE dX10_addMarkup_41 dX10_addMarkup_44 dX10_addMarkup_45 dX10_addMarkup_47 dX10_addMarkup_50 hRR (Nat.le_of_ble_eq_true rfl) ⟨(Nat.le_of_ble_eq_true rfl), (Nat.le_of_ble_eq_true rfl), (Nat.le_of_ble_eq_true rfl), (Nat.le_of_ble_eq_true rfl)⟩ (Nat.le_of_ble_eq_true rfl) (Nat.le_of_ble_eq_true rfl) ⟨e, rfl, (Or.inr (⟨rfl, ⟨h13, fun q => hc38 q.2⟩⟩))⟩

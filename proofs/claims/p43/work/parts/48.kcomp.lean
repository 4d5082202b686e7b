/-! the class: crews, variants, items, components -/
theorem kEl_3 : kEl 3 := ⟨_, rfl, by decide +kernel⟩
theorem cT_addc {dd : kDD} {ks : List Nat} {ad : Nat → Nat} {E : Nat → va_E} {M M2 : mS} {nt j x : Nat} {cn nm : Nat → Nat} {s q mc : Int32} {z : kT} (hX : cT dd ks ad E M nt cn nm) (hj : j < nt) (hc : cn j < 4) (hk : 144 + (4 * j + cn j) ∈ ks) (hE : E (144 + (4 * j + cn j)) = .inr (3, [.int s, .int (nI x), .int q]))
    (h11 : M2.2.1 11 = M.2.1 11) (h13 : M2.2.1 13 = upd (M.2.1 13) (4 * j + cn j) s) (h15 : M2.2.1 15 = upd (M.2.1 15) (4 * j + cn j) q)
    (hw : kGw ks ad E dd (112 + j) (128 + j) (cn j + 1) (cn j + 1) (cn j + 1) mc (fun k => some (ad (144 + (4 * j + k)))) z) : cT dd z.1 z.2.1 z.2.2 M2 nt (va_up cn j (cn j + 1)) (va_up nm (4 * j + cn j) x) := by
  obtain ⟨h1, h2, h3⟩ := hX
  have k1 : ∀ j, j ∈ ks → j ∈ z.1 := fun j q => (hw.1 j).mpr (Or.inl q)
  refine ⟨h1, kLs_frame h2 ⟨k1 _ h2.1, hw.2.2.1 _ (by omega) (by omega)⟩ (fun q => ⟨k1 _ q, hw.2.1 _ (by omega), hw.2.2.1 _ (by omega) (by omega)⟩) (fun i hi q => ⟨k1 _ q, hw.2.1 _ (by omega), fun fs hfs => ⟨fs, (hw.2.2.1 _ (by omega) (by omega)).trans hfs⟩⟩), fun i hi => ?_⟩
  obtain ⟨a1, a2, a3, a4, a5⟩ := h3 i hi
  rw [hw.2.2.1 (96 + i) (by omega) (by omega), hw.2.1 (112 + i) (by omega), h11, h13, h15]
  by_cases c : i = j
  · subst c
    rw [va_up_self]
    refine ⟨k1 _ a1, a2, by omega, kLs_add a4 (by omega) hk (by omega) (by omega) hE hw, fun k hk9 => ?_⟩
    rcases Nat.lt_succ_iff_lt_or_eq.mp hk9 with q | q
    · rw [upd_ne (by omega), upd_ne (by omega), va_up_ne _ _ (by omega : 4 * i + k ≠ 4 * i + cn i), hw.2.2.1 _ (by omega) (by omega)]
      exact ⟨k1 _ (a5 k q).1, (a5 k q).2⟩
    · subst q
      rw [upd_at, upd_at, va_up_self, hw.2.2.1 _ (by omega) (by omega)]
      exact ⟨k1 _ hk, hE⟩
  · rw [va_up_ne _ _ c]
    refine ⟨k1 _ a1, a2, a3, kLs_frame a4 ⟨k1 _ a4.1, hw.2.2.1 _ (by omega) (by omega)⟩ (fun q => ⟨k1 _ q, hw.2.1 _ (by omega), hw.2.2.1 _ (by omega) (by omega)⟩) (fun k hk q => ⟨k1 _ q, hw.2.1 _ (by omega), fun fs hfs => ⟨fs, (hw.2.2.1 _ (by omega) (by omega)).trans hfs⟩⟩), fun k hk9 => ?_⟩
    rw [upd_ne (by omega), upd_ne (by omega), va_up_ne _ _ (by omega : 4 * i + k ≠ 4 * j + cn j), hw.2.2.1 _ (by omega) (by omega)]
    exact ⟨k1 _ (a5 k hk9).1, (a5 k hk9).2⟩

theorem f_X10_addCrew_10 : kF wsX10_addCrew RX10 10 13 0 := ⟨_, RX10, TX10, 3, fun _ h => (List.mem_cons_of_mem _ (List.mem_append_left _ (List.mem_append_left _ (List.mem_append_left _ (List.mem_append_left _ (List.mem_append_right _ h)))))), (List.mem_cons_of_mem _ (List.mem_append_left _ (List.mem_append_left _ (List.mem_append_left _ (List.mem_append_left _ (List.mem_append_left _ (List.mem_append_left _ (List.mem_of_getElem? (i := 0) rfl)))))))), rfl, by decide, rfl⟩
theorem f_X10_addCrew_70 : kF wsX10_addCrew RX10 70 9 1 := ⟨_, RX6, TX6, 7, fun _ h => (List.mem_cons_of_mem _ (List.mem_append_left _ (List.mem_append_left _ (List.mem_append_left _ (List.mem_append_right _ h))))), (List.mem_cons_of_mem _ (List.mem_append_left _ (List.mem_append_left _ (List.mem_append_left _ (List.mem_append_left _ (List.mem_append_left _ (List.mem_append_left _ (List.mem_of_getElem? (i := 1) rfl)))))))), rfl, by decide, rfl⟩
set_option maxRecDepth 100000 in
set_option maxHeartbeats 4000000 in
theorem c_X10_addCrew (l : Launch) (dd : kDD) (ks : List Nat) (ad : Nat → Nat) (E : Nat → va_E) (e : eS) (M : mS) (nR nC nt nL nW nV nM : Nat) (cn nm mn me li rl : Nat → Nat) (on : Int32) (hO : cO dd ks ad E on) (hR : cR dd ks ad E M nR) (hC : cC dd ks ad E M nC mn me) (hT : cT dd ks ad E M nt cn nm) (hL : cL dd ks ad E M nL nW li) (hW : cW dd ks ad E M nW rl) (hV : cV dd ks ad E M nV) (hM : cM dd ks ad E M nM) (hB : cB M nR nC nt nL nW nV cn nm mn me li rl) (mI mR : Int32 → Nat → Nat) (hmI : ∀ o j, j < nt → mnt o (M.2.1 22) j nV 0 = nI (mI o j) ∧ mI o j < nt) (hmR : ∀ o j, j < nR → mnt o (M.2.1 23) j nV 0 = nI (mR o j) ∧ mR o j < nR) (hpk : ∀ r, r < nR → 1 ≤ M.2.1 5 r) (hm0 : nC < 4 → mn nC = 0) : kCiX l yX10_addCrew wsX10_addCrew ({ frames := 7, cells := 8, slots := 150, locals := 171 } : Room) 8 150 dd [.ref (ad 0)] (ks, ad, (cE dd E e)) (kQi (S := kT) (fun r z => nC < 4 ∧ (z.2.1 0 = ad 0 ∧ cAll dd M nR (nC + 1) nt nL nW nV nM cn nm mn me li rl on z) ∧ r = nI nC) (fun z => z.1) (fun z => z.2.1) (fun z => z.2.2)) (fun X9 u9 => ∃ e9, u9 = (ks, ad, cE dd E e9) ∧ ((X9 = "java/lang/IllegalStateException" ∧ nC = 4))) := by
  refine kMetiX (ws' := _) (cc := cX10_addCrew) (maxL := 1) (rt := .int) (by decide) rfl (Nat.le_of_ble_eq_true rfl) (fun g X hr hRX hnL hRR hl0 hkn => ?_)
  show kv dd g 0 0 0 [(0, .ref (ad 0))] [] ks ad (cE dd E e)
  have hT12 := hT.1
  have hR12 := hR.1
  have hL10 := hL.1
  have hV4 := hV.1
  have hM4 := hM.1
  have hC4 := hC.1
  have hW40 := hW.1
  obtain ⟨f20, f21, hf20, hf21, hff⟩ := hO.2.2.2.2
  refine kv_aload_n X 0 dX10_addCrew_0 rfl rfl ?_
  refine kv_getfield X f_X10_addCrew_10 (κ := 0) (fs := [.ref (ad 1), .ref (ad 2), .int on]) (v := .ref (ad 1)) hO.1.1 ((cE_ne (by omega)).trans hO.1.2) rfl dX10_addCrew_1 ?_
  refine kv_getfield X f_X10_addCrew_70 (κ := 1) (fs := [.ref (ad 3), .ref (ad 4), .ref (ad 5), .ref (ad 6), .ref (ad 7), .ref (ad 8), .ref (ad 9)]) (v := .ref (ad 4)) hO.2.1.1 ((cE_ne (by omega)).trans hO.2.1.2) rfl dX10_addCrew_4 ?_
  obtain ⟨_, _, o7⟩ := kLs_obj (dd := dd) (ks := ks) (ad := ad) (E := (cE dd E e)) (kLs_cE hC.2.1 (by omega) (by omega) (fun i hi => by omega))
  refine kv_calliV (ci := 2) (κ := 4) (r1 := (TJx4a65c, 3)) (As := []) [] X (c_Jx4a65c_size_8abf5 l dd ks ad (cE dd E e) (4) (11) (nC) (fun c => 80 + c) 4 (kLs_cE hC.2.1 (by omega) (by omega) (fun i hi => by omega))) hl0 (kCV_of X 0 gX10_addCrew_Jx4a65c_size_8abf5 rfl rfl rfl (by decide +kernel) hRR ⟨(Nat.le_of_ble_eq_true rfl), (Nat.le_of_ble_eq_true rfl)⟩) hC.2.1.1 o7 rfl rfl rfl (Nat.le_of_ble_eq_true rfl) hRR ⟨(Nat.le_of_ble_eq_true rfl), (Nat.le_of_ble_eq_true rfl)⟩ dX10_addCrew_7 (fun r z hp => ?_)
  obtain rfl := hp
  refine kv_iconst (v := 4) X dX10_addCrew_10 (by decide) ?_
  refine kv_callvXS (As := [.int (nI nC), .int 4]) [] X (c_X10_checkRoom l dd ks ad (cE dd E e) nC 4 (by omega) (by omega)) hl0 (kCS_of X 2 gX10_addCrew_X10_checkRoom rfl rfl rfl (by decide +kernel) hRR ⟨(Nat.le_of_ble_eq_true rfl), (Nat.le_of_ble_eq_true rfl)⟩) hRX ⟨(Nat.le_of_ble_eq_true rfl), (Nat.le_of_ble_eq_true rfl)⟩ (fun _ _ h => ⟨e, h.2.1, ⟨h.1, by have := h.2.2; omega⟩⟩) rfl rfl (Nat.le_of_ble_eq_true rfl) hRR ⟨(Nat.le_of_ble_eq_true rfl), (Nat.le_of_ble_eq_true rfl)⟩ dX10_addCrew_11 (fun z hp => ?_)
  have h11 := hp
  refine kv_aload_n X 0 dX10_addCrew_14 rfl rfl ?_
  refine kv_getfield X f_X10_addCrew_10 (κ := 0) (fs := [.ref (ad 1), .ref (ad 2), .int on]) (v := .ref (ad 1)) hO.1.1 ((cE_ne (by omega)).trans hO.1.2) rfl dX10_addCrew_15 ?_
  refine kv_getfield X f_X10_addCrew_70 (κ := 1) (fs := [.ref (ad 3), .ref (ad 4), .ref (ad 5), .ref (ad 6), .ref (ad 7), .ref (ad 8), .ref (ad 9)]) (v := .ref (ad 4)) hO.2.1.1 ((cE_ne (by omega)).trans hO.2.1.2) rfl dX10_addCrew_18 ?_
  refine kv_newR X (80 + nC) (⟨RX1, TX1, tyX1, fun _ h => (List.mem_cons_of_mem _ (List.mem_append_left _ (List.mem_append_left _ (List.mem_append_right _ h)))), tyX1_ok, (List.mem_cons_of_mem _ (List.mem_append_left _ (List.mem_append_left _ (List.mem_append_left _ (List.mem_append_left _ (List.mem_append_left _ (List.mem_append_left _ (List.mem_of_getElem? (i := 2) rfl)))))))), (List.mem_cons_of_mem _ (List.mem_append_left _ (List.mem_append_left _ (List.mem_append_left _ (List.mem_append_left _ (List.mem_append_left _ (List.mem_append_left _ (List.mem_of_getElem? (i := 3) rfl)))))))), (List.mem_cons_of_mem _ (List.mem_append_left _ (List.mem_append_left _ (List.mem_append_left _ (List.mem_append_left _ (List.mem_append_left _ (List.mem_append_left _ (List.mem_of_getElem? (i := 4) rfl)))))))), rfl, by decide⟩ : kN wsX10_addCrew RX10 73 4 [.null, .null, .int 0] 3) hRR ⟨(Nat.le_of_ble_eq_true rfl), (Nat.le_of_ble_eq_true rfl)⟩ dX10_addCrew_21 (fun ks21 ad21 E21 hs21 => ?_)
  refine kv_LS [(0, .ref (ad21 0))] [.ref (ad21 (80 + nC)), .ref (ad21 4)] (by rw [hs21.2.1 (0) (by omega)]) (by rw [hs21.2.1 (4) (by omega)]) ?_
  refine kv_dup X dX10_addCrew_24 rfl ?_
  refine kv_callvIN (κ := 80 + nC) (As := []) [.ref (ad21 (80 + nC)), .ref (ad21 4)] X (c_X1_init l dd ks21 ad21 E21 (80 + nC) (84 + nC) (88 + nC)  (by omega) (by omega) (by omega) ((hs21.1 _).mpr (Or.inr rfl)) hs21.2.2.2) hl0 (kCIN_of (host := "Takeoff") X 0 gX10_addCrew_X1_init_n75 (List.mem_cons_of_mem _ (List.mem_append_left _ (List.mem_append_left _ (List.mem_append_left _ (List.mem_append_left _ (List.mem_append_left _ (List.mem_append_left _ (List.mem_of_getElem? (i := 4) rfl)))))))) (by decide) (List.mem_cons_of_mem _ (List.mem_append_left _ (List.mem_append_left _ (List.mem_append_left _ (List.mem_append_left _ (List.mem_append_left _ (List.mem_append_left _ (List.mem_of_getElem? (i := 17) rfl)))))))) rfl rfl rfl rfl (by decide +kernel) hRR ⟨(Nat.le_of_ble_eq_true rfl), (Nat.le_of_ble_eq_true rfl)⟩) rfl rfl (Nat.le_of_ble_eq_true rfl) hRR ⟨(Nat.le_of_ble_eq_true rfl), (Nat.le_of_ble_eq_true rfl)⟩ dX10_addCrew_25 (fun y9 hp => ?_)
  obtain ⟨w1, w2, w3, w4, w5, w6, w7, w8⟩ := hp
  refine kv_LS [(0, .ref (y9.2.1 0))] [.ref (y9.2.1 (80 + nC)), .ref (y9.2.1 4)] (by rw [(w1 (0) (by omega)).2]) (by rw [(w1 (4) (by omega)).2, (w1 (80 + nC) (by omega)).2]) ?_
  have st25 : cSt dd (fun j => j = 80 + nC ∨ j = 84 + nC ∨ j = 88 + nC) (fun j => j = 80 + nC ∨ j = 84 + nC ∨ j = 88 + nC) ks ad E e y9.1 y9.2.1 y9.2.2 := by
    refine ⟨fun j hj => ?_, fun j hj => ?_⟩
    · have q1 : ¬ (j = 80 + nC ∨ j = 84 + nC ∨ j = 88 + nC) := hj
      exact ⟨fun q => (w1 j (by omega)).1 ((hs21.1 j).mpr (Or.inl q)), (w1 j (by omega)).2.trans (hs21.2.1 j (by omega))⟩
    · have q1 : ¬ (j = 80 + nC ∨ j = 84 + nC ∨ j = 88 + nC) := hj
      exact (w2 j (by omega)).trans (hs21.2.2.1 j (by omega))
  refine kv_E (E2 := cE dd y9.2.2 e) (cSt_E' st25 (fun j hj (q : j = 80 + nC ∨ j = 84 + nC ∨ j = 88 + nC) => by omega)) ?_
  have hO := cO_st st25 hO (fun j hj (q : j = 80 + nC ∨ j = 84 + nC ∨ j = 88 + nC) => by unfold vO at hj; omega) ⟨(show ¬ (0 = 80 + nC ∨ 0 = 84 + nC ∨ 0 = 88 + nC) by omega), (show ¬ (1 = 80 + nC ∨ 1 = 84 + nC ∨ 1 = 88 + nC) by omega), (show ¬ (2 = 80 + nC ∨ 2 = 84 + nC ∨ 2 = 88 + nC) by omega), (show ¬ (20 = 80 + nC ∨ 20 = 84 + nC ∨ 20 = 88 + nC) by omega), (show ¬ (21 = 80 + nC ∨ 21 = 84 + nC ∨ 21 = 88 + nC) by omega)⟩
  have hR := cR_st st25 hR (fun j hj => by unfold vR at hj; exact ⟨fun (q : j = 80 + nC ∨ j = 84 + nC ∨ j = 88 + nC) => by omega, fun (q : j = 80 + nC ∨ j = 84 + nC ∨ j = 88 + nC) => by omega⟩)
  have hC := cC_st st25 hC (fun j hj => by unfold vC at hj; exact ⟨fun (q : j = 80 + nC ∨ j = 84 + nC ∨ j = 88 + nC) => by omega, fun (q : j = 80 + nC ∨ j = 84 + nC ∨ j = 88 + nC) => by omega⟩)
  have hT := cT_st st25 hT (fun j hj => by unfold vT at hj; rcases hj with y | y | y | y | y | ⟨i, k, y1, y2, y3, y4⟩ <;> exact ⟨fun (q : j = 80 + nC ∨ j = 84 + nC ∨ j = 88 + nC) => by omega, fun (q : j = 80 + nC ∨ j = 84 + nC ∨ j = 88 + nC) => by omega⟩)
  have hL := cL_st st25 hL (fun j hj => by unfold vL at hj; exact ⟨fun (q : j = 80 + nC ∨ j = 84 + nC ∨ j = 88 + nC) => by omega, fun (q : j = 80 + nC ∨ j = 84 + nC ∨ j = 88 + nC) => by omega⟩)
  have hW := cW_st st25 hW (fun j hj => by unfold vW at hj; exact ⟨fun (q : j = 80 + nC ∨ j = 84 + nC ∨ j = 88 + nC) => by omega, fun (q : j = 80 + nC ∨ j = 84 + nC ∨ j = 88 + nC) => by omega⟩)
  have hV := cV_st st25 hV (fun j hj => by unfold vV at hj; exact ⟨fun (q : j = 80 + nC ∨ j = 84 + nC ∨ j = 88 + nC) => by omega, fun (q : j = 80 + nC ∨ j = 84 + nC ∨ j = 88 + nC) => by omega⟩)
  have hM := cM_st st25 hM (fun j hj => by unfold vM at hj; exact ⟨fun (q : j = 80 + nC ∨ j = 84 + nC ∨ j = 88 + nC) => by omega, fun (q : j = 80 + nC ∨ j = 84 + nC ∨ j = 88 + nC) => by omega⟩)
  obtain ⟨_, _, o28⟩ := kLs_obj (dd := dd) (ks := y9.1) (ad := y9.2.1) (E := (cE dd y9.2.2 e)) (kLs_cE hC.2.1 (by omega) (by omega) (fun i hi => by omega))
  refine kv_calliV (ci := 2) (κ := 4) (r1 := (TJx4a65c, 3)) (As := [.ref (y9.2.1 (80 + nC))]) [] X (c_Jx4a65c_add_9ea2d l dd y9.1 y9.2.1 (cE dd y9.2.2 e) (4) (11) (nC) (fun c => 80 + c) 4 _ (kLs_cE hC.2.1 (by omega) (by omega) (fun i hi => by omega)) (by omega) w3 (by omega) (by omega) ((cE_ne (by omega)).trans w6)) hl0 (kCV_of X 1 gX10_addCrew_Jx4a65c_add_9ea2d rfl rfl rfl (by decide +kernel) hRR ⟨(Nat.le_of_ble_eq_true rfl), (Nat.le_of_ble_eq_true rfl)⟩) hC.2.1.1 o28 rfl rfl rfl (Nat.le_of_ble_eq_true rfl) hRR ⟨(Nat.le_of_ble_eq_true rfl), (Nat.le_of_ble_eq_true rfl)⟩ dX10_addCrew_28 (fun r za hp => ?_)
  obtain ⟨rfl, mc, hw⟩ := hp
  refine kv_LS [(0, .ref (za.2.1 0))] [.int 1] (by rw [hw.2.1 (0) (by omega)]) rfl ?_
  have sw : cSt dd (fun j => j = 11) (fun j => j = 4 ∨ j = 11) y9.1 y9.2.1 y9.2.2 e za.1 za.2.1 za.2.2 := ⟨fun j hj => ⟨fun q => (hw.1 j).mpr (Or.inl q), hw.2.1 j hj⟩, fun j hj => hw.2.2.1 j (fun q => hj (Or.inr q)) (fun q => hj (Or.inl q))⟩
  refine kv_E (E2 := cE dd za.2.2 e) (cSt_E' sw (fun j hj (q : j = 4 ∨ j = 11) => by omega)) ?_
  have hC1 := cC_st (cSt_id dd y9.1 y9.2.1 y9.2.2 e) hC (fun _ _ => ⟨id, id⟩)
  have hC2 := cC_add hC1 h11 ⟨w3, w4, w5⟩ ((cE_ne (by omega)).trans w6) (hm0 h11) ⟨_, (cE_ne (by omega)).trans w7⟩ ⟨_, (cE_ne (by omega)).trans w8⟩ hw
  have hO := cO_st sw hO (fun j hj (q : j = 11) => by unfold vO at hj; omega) ⟨(show ¬ (0 = 4 ∨ 0 = 11) by omega), (show ¬ (1 = 4 ∨ 1 = 11) by omega), (show ¬ (2 = 4 ∨ 2 = 11) by omega), (show ¬ (20 = 4 ∨ 20 = 11) by omega), (show ¬ (21 = 4 ∨ 21 = 11) by omega)⟩
  have hR := cR_st sw hR (fun j hj => by unfold vR at hj; exact ⟨fun (q : j = 11) => by omega, fun (q : j = 4 ∨ j = 11) => by omega⟩)
  have hC := hC2
  have hT := cT_st sw hT (fun j hj => by unfold vT at hj; rcases hj with y | y | y | y | y | ⟨i, k, y1, y2, y3, y4⟩ <;> exact ⟨fun (q : j = 11) => by omega, fun (q : j = 4 ∨ j = 11) => by omega⟩)
  have hL := cL_st sw hL (fun j hj => by unfold vL at hj; exact ⟨fun (q : j = 11) => by omega, fun (q : j = 4 ∨ j = 11) => by omega⟩)
  have hW := cW_st sw hW (fun j hj => by unfold vW at hj; exact ⟨fun (q : j = 11) => by omega, fun (q : j = 4 ∨ j = 11) => by omega⟩)
  have hV := cV_st sw hV (fun j hj => by unfold vV at hj; exact ⟨fun (q : j = 11) => by omega, fun (q : j = 4 ∨ j = 11) => by omega⟩)
  have hM := cM_st sw hM (fun j hj => by unfold vM at hj; exact ⟨fun (q : j = 11) => by omega, fun (q : j = 4 ∨ j = 11) => by omega⟩)
  refine kv_pop X dX10_addCrew_31 rfl ?_
  refine kv_aload_n X 0 dX10_addCrew_32 rfl rfl ?_
  refine kv_getfield X f_X10_addCrew_10 (κ := 0) (fs := [.ref (za.2.1 1), .ref (za.2.1 2), .int on]) (v := .ref (za.2.1 1)) hO.1.1 ((cE_ne (by omega)).trans hO.1.2) rfl dX10_addCrew_33 ?_
  refine kv_getfield X f_X10_addCrew_70 (κ := 1) (fs := [.ref (za.2.1 3), .ref (za.2.1 4), .ref (za.2.1 5), .ref (za.2.1 6), .ref (za.2.1 7), .ref (za.2.1 8), .ref (za.2.1 9)]) (v := .ref (za.2.1 4)) hO.2.1.1 ((cE_ne (by omega)).trans hO.2.1.2) rfl dX10_addCrew_36 ?_
  obtain ⟨_, _, o39⟩ := kLs_obj (dd := dd) (ks := za.1) (ad := za.2.1) (E := (cE dd za.2.2 e)) (kLs_cE hC.2.1 (by omega) (by omega) (fun i hi => by omega))
  refine kv_calliV (ci := 2) (κ := 4) (r1 := (TJx4a65c, 3)) (As := []) [] X (c_Jx4a65c_size_8abf5 l dd za.1 za.2.1 (cE dd za.2.2 e) (4) (11) ((nC + 1)) (fun c => 80 + c) 4 (kLs_cE hC.2.1 (by omega) (by omega) (fun i hi => by omega))) hl0 (kCV_of X 0 gX10_addCrew_Jx4a65c_size_8abf5 rfl rfl rfl (by decide +kernel) hRR ⟨(Nat.le_of_ble_eq_true rfl), (Nat.le_of_ble_eq_true rfl)⟩) hC.2.1.1 o39 rfl rfl rfl (Nat.le_of_ble_eq_true rfl) hRR ⟨(Nat.le_of_ble_eq_true rfl), (Nat.le_of_ble_eq_true rfl)⟩ dX10_addCrew_39 (fun r z hp => ?_)
  obtain rfl := hp
  refine kv_iconst (v := 1) X dX10_addCrew_42 (by decide) ?_
  refine kv_isub X dX10_addCrew_43 ?_
  refine kv_topi (nI nC) (nI_pred nC) ?_
  exact kv_ireturn X hr (Nat.le_of_ble_eq_true rfl) (Nat.le_of_ble_eq_true rfl) ⟨(za.1, za.2.1, (cE dd za.2.2 e)), ⟨h11, ⟨((hw.2.1 0 (by omega)).trans ((w1 0 (by omega)).2.trans ((hs21.2.1 0 (by omega)).trans rfl))), _, _, rfl, hO, hR, hC, hT, hL, hW, hV, hM⟩, rfl⟩, rfl⟩ dX10_addCrew_44
theorem f_X10_addVariant_10 : kF wsX10_addVariant RX10 10 13 0 := ⟨_, RX10, TX10, 3, fun _ h => (List.mem_cons_of_mem _ (List.mem_append_left _ (List.mem_append_left _ (List.mem_append_left _ (List.mem_append_left _ (List.mem_append_right _ h)))))), (List.mem_cons_of_mem _ (List.mem_append_left _ (List.mem_append_left _ (List.mem_append_left _ (List.mem_append_left _ (List.mem_append_left _ (List.mem_append_left _ (List.mem_of_getElem? (i := 0) rfl)))))))), rfl, by decide, rfl⟩
theorem f_X10_addVariant_199 : kF wsX10_addVariant RX10 199 9 5 := ⟨_, RX6, TX6, 7, fun _ h => (List.mem_cons_of_mem _ (List.mem_append_left _ (List.mem_append_left _ (List.mem_append_left _ (List.mem_append_right _ h))))), (List.mem_cons_of_mem _ (List.mem_append_left _ (List.mem_append_left _ (List.mem_append_left _ (List.mem_append_left _ (List.mem_append_left _ (List.mem_append_left _ (List.mem_of_getElem? (i := 1) rfl)))))))), rfl, by decide, rfl⟩
set_option maxRecDepth 100000 in
set_option maxHeartbeats 4000000 in
theorem c_X10_addVariant (l : Launch) (dd : kDD) (ks : List Nat) (ad : Nat → Nat) (E : Nat → va_E) (e : eS) (M : mS) (nR nC nt nL nW nV nM : Nat) (cn nm mn me li rl : Nat → Nat) (on : Int32) (hO : cO dd ks ad E on) (hR : cR dd ks ad E M nR) (hC : cC dd ks ad E M nC mn me) (hT : cT dd ks ad E M nt cn nm) (hL : cL dd ks ad E M nL nW li) (hW : cW dd ks ad E M nW rl) (hV : cV dd ks ad E M nV) (hM : cM dd ks ad E M nM) (hB : cB M nR nC nt nL nW nV cn nm mn me li rl) (mI mR : Int32 → Nat → Nat) (hmI : ∀ o j, j < nt → mnt o (M.2.1 22) j nV 0 = nI (mI o j) ∧ mI o j < nt) (hmR : ∀ o j, j < nR → mnt o (M.2.1 23) j nV 0 = nI (mR o j) ∧ mR o j < nR) (hpk : ∀ r, r < nR → 1 ≤ M.2.1 5 r)  : kCiX l yX10_addVariant wsX10_addVariant ({ frames := 7, cells := 8, slots := 150, locals := 171 } : Room) 8 150 dd [.ref (ad 0)] (ks, ad, (cE dd E e)) (kQi (S := kT) (fun r z => nV < 4 ∧ (z.2.1 0 = ad 0 ∧ cAll dd (M.1, va_up (va_up M.2.1 22 (mfill (M.2.1 22) (12 * nV) 12)) 23 (mfill (M.2.1 23) (12 * nV) 12), M.2.2) nR nC nt nL nW (nV + 1) nM cn nm mn me li rl on z) ∧ r = nI nV) (fun z => z.1) (fun z => z.2.1) (fun z => z.2.2)) (fun X9 u9 => ∃ e9, u9 = (ks, ad, cE dd E e9) ∧ ((X9 = "java/lang/IllegalStateException" ∧ nV = 4))) := by
  refine kMetiX (ws' := _) (cc := cX10_addVariant) (maxL := 1) (rt := .int) (by decide) rfl (Nat.le_of_ble_eq_true rfl) (fun g X hr hRX hnL hRR hl0 hkn => ?_)
  show kv dd g 0 0 0 [(0, .ref (ad 0))] [] ks ad (cE dd E e)
  have hT12 := hT.1
  have hR12 := hR.1
  have hL10 := hL.1
  have hV4 := hV.1
  have hM4 := hM.1
  have hC4 := hC.1
  have hW40 := hW.1
  obtain ⟨f20, f21, hf20, hf21, hff⟩ := hO.2.2.2.2
  refine kv_aload_n X 0 dX10_addVariant_0 rfl rfl ?_
  refine kv_getfield X f_X10_addVariant_10 (κ := 0) (fs := [.ref (ad 1), .ref (ad 2), .int on]) (v := .ref (ad 1)) hO.1.1 ((cE_ne (by omega)).trans hO.1.2) rfl dX10_addVariant_1 ?_
  refine kv_getfield X f_X10_addVariant_199 (κ := 1) (fs := [.ref (ad 3), .ref (ad 4), .ref (ad 5), .ref (ad 6), .ref (ad 7), .ref (ad 8), .ref (ad 9)]) (v := .ref (ad 8)) hO.2.1.1 ((cE_ne (by omega)).trans hO.2.1.2) rfl dX10_addVariant_4 ?_
  obtain ⟨_, _, o7⟩ := kLs_obj (dd := dd) (ks := ks) (ad := ad) (E := (cE dd E e)) (kLs_cE hV.2.1 (by omega) (by omega) (fun i hi => by omega))
  refine kv_calliV (ci := 2) (κ := 8) (r1 := (TJx4a65c, 3)) (As := []) [] X (c_Jx4a65c_size_8abf5 l dd ks ad (cE dd E e) (8) (15) (nV) (fun v => 272 + v) 12 (kLs_cE hV.2.1 (by omega) (by omega) (fun i hi => by omega))) hl0 (kCV_of X 0 gX10_addVariant_Jx4a65c_size_8abf5 rfl rfl rfl (by decide +kernel) hRR ⟨(Nat.le_of_ble_eq_true rfl), (Nat.le_of_ble_eq_true rfl)⟩) hV.2.1.1 o7 rfl rfl rfl (Nat.le_of_ble_eq_true rfl) hRR ⟨(Nat.le_of_ble_eq_true rfl), (Nat.le_of_ble_eq_true rfl)⟩ dX10_addVariant_7 (fun r z hp => ?_)
  obtain rfl := hp
  refine kv_iconst (v := 4) X dX10_addVariant_10 (by decide) ?_
  refine kv_callvXS (As := [.int (nI nV), .int 4]) [] X (c_X10_checkRoom l dd ks ad (cE dd E e) nV 4 (by omega) (by omega)) hl0 (kCS_of X 2 gX10_addVariant_X10_checkRoom rfl rfl rfl (by decide +kernel) hRR ⟨(Nat.le_of_ble_eq_true rfl), (Nat.le_of_ble_eq_true rfl)⟩) hRX ⟨(Nat.le_of_ble_eq_true rfl), (Nat.le_of_ble_eq_true rfl)⟩ (fun _ _ h => ⟨e, h.2.1, ⟨h.1, by have := h.2.2; omega⟩⟩) rfl rfl (Nat.le_of_ble_eq_true rfl) hRR ⟨(Nat.le_of_ble_eq_true rfl), (Nat.le_of_ble_eq_true rfl)⟩ dX10_addVariant_11 (fun z hp => ?_)
  have h11 := hp
  refine kv_aload_n X 0 dX10_addVariant_14 rfl rfl ?_
  refine kv_getfield X f_X10_addVariant_10 (κ := 0) (fs := [.ref (ad 1), .ref (ad 2), .int on]) (v := .ref (ad 1)) hO.1.1 ((cE_ne (by omega)).trans hO.1.2) rfl dX10_addVariant_15 ?_
  refine kv_getfield X f_X10_addVariant_199 (κ := 1) (fs := [.ref (ad 3), .ref (ad 4), .ref (ad 5), .ref (ad 6), .ref (ad 7), .ref (ad 8), .ref (ad 9)]) (v := .ref (ad 8)) hO.2.1.1 ((cE_ne (by omega)).trans hO.2.1.2) rfl dX10_addVariant_18 ?_
  refine kv_newR X (272 + nV) (⟨RX9, TX9, tyX9, fun _ h => (List.mem_cons_of_mem _ (List.mem_append_left _ (List.mem_append_left _ (List.mem_append_right _ h)))), tyX9_ok, (List.mem_cons_of_mem _ (List.mem_append_left _ (List.mem_append_left _ (List.mem_append_left _ (List.mem_append_left _ (List.mem_append_left _ (List.mem_append_left _ (List.mem_of_getElem? (i := 2) rfl)))))))), (List.mem_cons_of_mem _ (List.mem_append_left _ (List.mem_append_left _ (List.mem_append_left _ (List.mem_append_left _ (List.mem_append_left _ (List.mem_append_left _ (List.mem_of_getElem? (i := 3) rfl)))))))), (List.mem_cons_of_mem _ (List.mem_append_left _ (List.mem_append_left _ (List.mem_append_left _ (List.mem_append_left _ (List.mem_append_left _ (List.mem_append_left _ (List.mem_of_getElem? (i := 4) rfl)))))))), rfl, by decide⟩ : kN wsX10_addVariant RX10 202 12 [.null, .null] 2) hRR ⟨(Nat.le_of_ble_eq_true rfl), (Nat.le_of_ble_eq_true rfl)⟩ dX10_addVariant_21 (fun ks21 ad21 E21 hs21 => ?_)
  refine kv_LS [(0, .ref (ad21 0))] [.ref (ad21 (272 + nV)), .ref (ad21 8)] (by rw [hs21.2.1 (0) (by omega)]) (by rw [hs21.2.1 (8) (by omega)]) ?_
  refine kv_dup X dX10_addVariant_24 rfl ?_
  refine kv_callvI (κ := 272 + nV) (As := []) [.ref (ad21 (272 + nV)), .ref (ad21 8)] X (c_X9_init l dd ks21 ad21 E21 (272 + nV) (276 + nV) (280 + nV)  (by omega) (by omega) (by omega) ((hs21.1 _).mpr (Or.inr rfl)) hs21.2.2.2) hl0 (kCI_of X 0 gX10_addVariant_X9_init (List.mem_cons_of_mem _ (List.mem_append_left _ (List.mem_append_left _ (List.mem_append_left _ (List.mem_append_left _ (List.mem_append_left _ (List.mem_append_left _ (List.mem_of_getElem? (i := 4) rfl)))))))) (List.mem_cons_of_mem _ (List.mem_append_left _ (List.mem_append_left _ (List.mem_append_left _ (List.mem_append_left _ (List.mem_append_left _ (List.mem_append_left _ (List.mem_of_getElem? (i := 17) rfl)))))))) (List.mem_cons_of_mem _ (List.mem_append_left _ (List.mem_append_left _ (List.mem_append_left _ (List.mem_append_left _ (List.mem_append_left _ (List.mem_append_left _ (List.mem_of_getElem? (i := 18) rfl)))))))) rfl rfl rfl rfl (by decide +kernel) hRR ⟨(Nat.le_of_ble_eq_true rfl), (Nat.le_of_ble_eq_true rfl)⟩) rfl rfl (Nat.le_of_ble_eq_true rfl) hRR ⟨(Nat.le_of_ble_eq_true rfl), (Nat.le_of_ble_eq_true rfl)⟩ dX10_addVariant_25 (fun y9 hp => ?_)
  obtain ⟨w1, w2, w3, w4, w5, w6, w7, w8⟩ := hp
  refine kv_LS [(0, .ref (y9.2.1 0))] [.ref (y9.2.1 (272 + nV)), .ref (y9.2.1 8)] (by rw [(w1 (0) (by omega)).2]) (by rw [(w1 (272 + nV) (by omega)).2, (w1 (8) (by omega)).2]) ?_
  have st25 : cSt dd (fun j => j = 272 + nV ∨ j = 276 + nV ∨ j = 280 + nV) (fun j => j = 272 + nV ∨ j = 276 + nV ∨ j = 280 + nV) ks ad E e y9.1 y9.2.1 y9.2.2 := by
    refine ⟨fun j hj => ?_, fun j hj => ?_⟩
    · have q1 : ¬ (j = 272 + nV ∨ j = 276 + nV ∨ j = 280 + nV) := hj
      exact ⟨fun q => (w1 j (by omega)).1 ((hs21.1 j).mpr (Or.inl q)), (w1 j (by omega)).2.trans (hs21.2.1 j (by omega))⟩
    · have q1 : ¬ (j = 272 + nV ∨ j = 276 + nV ∨ j = 280 + nV) := hj
      exact (w2 j (by omega)).trans (hs21.2.2.1 j (by omega))
  refine kv_E (E2 := cE dd y9.2.2 e) (cSt_E' st25 (fun j hj (q : j = 272 + nV ∨ j = 276 + nV ∨ j = 280 + nV) => by omega)) ?_
  have hO := cO_st st25 hO (fun j hj (q : j = 272 + nV ∨ j = 276 + nV ∨ j = 280 + nV) => by unfold vO at hj; omega) ⟨(show ¬ (0 = 272 + nV ∨ 0 = 276 + nV ∨ 0 = 280 + nV) by omega), (show ¬ (1 = 272 + nV ∨ 1 = 276 + nV ∨ 1 = 280 + nV) by omega), (show ¬ (2 = 272 + nV ∨ 2 = 276 + nV ∨ 2 = 280 + nV) by omega), (show ¬ (20 = 272 + nV ∨ 20 = 276 + nV ∨ 20 = 280 + nV) by omega), (show ¬ (21 = 272 + nV ∨ 21 = 276 + nV ∨ 21 = 280 + nV) by omega)⟩
  have hR := cR_st st25 hR (fun j hj => by unfold vR at hj; exact ⟨fun (q : j = 272 + nV ∨ j = 276 + nV ∨ j = 280 + nV) => by omega, fun (q : j = 272 + nV ∨ j = 276 + nV ∨ j = 280 + nV) => by omega⟩)
  have hC := cC_st st25 hC (fun j hj => by unfold vC at hj; exact ⟨fun (q : j = 272 + nV ∨ j = 276 + nV ∨ j = 280 + nV) => by omega, fun (q : j = 272 + nV ∨ j = 276 + nV ∨ j = 280 + nV) => by omega⟩)
  have hT := cT_st st25 hT (fun j hj => by unfold vT at hj; rcases hj with y | y | y | y | y | ⟨i, k, y1, y2, y3, y4⟩ <;> exact ⟨fun (q : j = 272 + nV ∨ j = 276 + nV ∨ j = 280 + nV) => by omega, fun (q : j = 272 + nV ∨ j = 276 + nV ∨ j = 280 + nV) => by omega⟩)
  have hL := cL_st st25 hL (fun j hj => by unfold vL at hj; exact ⟨fun (q : j = 272 + nV ∨ j = 276 + nV ∨ j = 280 + nV) => by omega, fun (q : j = 272 + nV ∨ j = 276 + nV ∨ j = 280 + nV) => by omega⟩)
  have hW := cW_st st25 hW (fun j hj => by unfold vW at hj; exact ⟨fun (q : j = 272 + nV ∨ j = 276 + nV ∨ j = 280 + nV) => by omega, fun (q : j = 272 + nV ∨ j = 276 + nV ∨ j = 280 + nV) => by omega⟩)
  have hV := cV_st st25 hV (fun j hj => by unfold vV at hj; exact ⟨fun (q : j = 272 + nV ∨ j = 276 + nV ∨ j = 280 + nV) => by omega, fun (q : j = 272 + nV ∨ j = 276 + nV ∨ j = 280 + nV) => by omega⟩)
  have hM := cM_st st25 hM (fun j hj => by unfold vM at hj; exact ⟨fun (q : j = 272 + nV ∨ j = 276 + nV ∨ j = 280 + nV) => by omega, fun (q : j = 272 + nV ∨ j = 276 + nV ∨ j = 280 + nV) => by omega⟩)
  obtain ⟨_, _, o28⟩ := kLs_obj (dd := dd) (ks := y9.1) (ad := y9.2.1) (E := (cE dd y9.2.2 e)) (kLs_cE hV.2.1 (by omega) (by omega) (fun i hi => by omega))
  refine kv_calliV (ci := 2) (κ := 8) (r1 := (TJx4a65c, 3)) (As := [.ref (y9.2.1 (272 + nV))]) [] X (c_Jx4a65c_add_9ea2d l dd y9.1 y9.2.1 (cE dd y9.2.2 e) (8) (15) (nV) (fun v => 272 + v) 12 _ (kLs_cE hV.2.1 (by omega) (by omega) (fun i hi => by omega)) (by omega) w3 (by omega) (by omega) ((cE_ne (by omega)).trans w6)) hl0 (kCV_of X 1 gX10_addVariant_Jx4a65c_add_9ea2d rfl rfl rfl (by decide +kernel) hRR ⟨(Nat.le_of_ble_eq_true rfl), (Nat.le_of_ble_eq_true rfl)⟩) hV.2.1.1 o28 rfl rfl rfl (Nat.le_of_ble_eq_true rfl) hRR ⟨(Nat.le_of_ble_eq_true rfl), (Nat.le_of_ble_eq_true rfl)⟩ dX10_addVariant_28 (fun r za hp => ?_)
  obtain ⟨rfl, mc, hw⟩ := hp
  refine kv_LS [(0, .ref (za.2.1 0))] [.int 1] (by rw [hw.2.1 (0) (by omega)]) rfl ?_
  have sw : cSt dd (fun j => j = 15) (fun j => j = 8 ∨ j = 15) y9.1 y9.2.1 y9.2.2 e za.1 za.2.1 za.2.2 := ⟨fun j hj => ⟨fun q => (hw.1 j).mpr (Or.inl q), hw.2.1 j hj⟩, fun j hj => hw.2.2.1 j (fun q => hj (Or.inr q)) (fun q => hj (Or.inl q))⟩
  refine kv_E (E2 := cE dd za.2.2 e) (cSt_E' sw (fun j hj (q : j = 8 ∨ j = 15) => by omega)) ?_
  have hV1 := cV_st (cSt_id dd y9.1 y9.2.1 y9.2.2 e) hV (fun _ _ => ⟨id, id⟩)
  have hV2 := cV_add (M2 := (M.1, va_up (va_up M.2.1 22 (mfill (M.2.1 22) (12 * nV) 12)) 23 (mfill (M.2.1 23) (12 * nV) 12), M.2.2)) hV1 h11 ⟨w3, w4, w5⟩ ((cE_ne (by omega)).trans w6) (fun q hq => ⟨(if_neg (by omega)).symm, (if_neg (by omega)).symm⟩) ⟨_, _, (cE_ne (by omega)).trans w7, (cE_ne (by omega)).trans w8, fun k hk => ⟨(mset_in hk).trans (if_pos ⟨by omega, by omega⟩).symm, (mset_in hk).trans (if_pos ⟨by omega, by omega⟩).symm⟩⟩ hw
  have hO := cO_st sw hO (fun j hj (q : j = 15) => by unfold vO at hj; omega) ⟨(show ¬ (0 = 8 ∨ 0 = 15) by omega), (show ¬ (1 = 8 ∨ 1 = 15) by omega), (show ¬ (2 = 8 ∨ 2 = 15) by omega), (show ¬ (20 = 8 ∨ 20 = 15) by omega), (show ¬ (21 = 8 ∨ 21 = 15) by omega)⟩
  have hR := cR_st sw hR (fun j hj => by unfold vR at hj; exact ⟨fun (q : j = 15) => by omega, fun (q : j = 8 ∨ j = 15) => by omega⟩)
  have hC := cC_st sw hC (fun j hj => by unfold vC at hj; exact ⟨fun (q : j = 15) => by omega, fun (q : j = 8 ∨ j = 15) => by omega⟩)
  have hT := cT_st sw hT (fun j hj => by unfold vT at hj; rcases hj with y | y | y | y | y | ⟨i, k, y1, y2, y3, y4⟩ <;> exact ⟨fun (q : j = 15) => by omega, fun (q : j = 8 ∨ j = 15) => by omega⟩)
  have hL := cL_st sw hL (fun j hj => by unfold vL at hj; exact ⟨fun (q : j = 15) => by omega, fun (q : j = 8 ∨ j = 15) => by omega⟩)
  have hW := cW_st sw hW (fun j hj => by unfold vW at hj; exact ⟨fun (q : j = 15) => by omega, fun (q : j = 8 ∨ j = 15) => by omega⟩)
  have hV := hV2
  have hM := cM_st sw hM (fun j hj => by unfold vM at hj; exact ⟨fun (q : j = 15) => by omega, fun (q : j = 8 ∨ j = 15) => by omega⟩)
  refine kv_pop X dX10_addVariant_31 rfl ?_
  refine kv_aload_n X 0 dX10_addVariant_32 rfl rfl ?_
  refine kv_getfield X f_X10_addVariant_10 (κ := 0) (fs := [.ref (za.2.1 1), .ref (za.2.1 2), .int on]) (v := .ref (za.2.1 1)) hO.1.1 ((cE_ne (by omega)).trans hO.1.2) rfl dX10_addVariant_33 ?_
  refine kv_getfield X f_X10_addVariant_199 (κ := 1) (fs := [.ref (za.2.1 3), .ref (za.2.1 4), .ref (za.2.1 5), .ref (za.2.1 6), .ref (za.2.1 7), .ref (za.2.1 8), .ref (za.2.1 9)]) (v := .ref (za.2.1 8)) hO.2.1.1 ((cE_ne (by omega)).trans hO.2.1.2) rfl dX10_addVariant_36 ?_
  obtain ⟨_, _, o39⟩ := kLs_obj (dd := dd) (ks := za.1) (ad := za.2.1) (E := (cE dd za.2.2 e)) (kLs_cE hV.2.1 (by omega) (by omega) (fun i hi => by omega))
  refine kv_calliV (ci := 2) (κ := 8) (r1 := (TJx4a65c, 3)) (As := []) [] X (c_Jx4a65c_size_8abf5 l dd za.1 za.2.1 (cE dd za.2.2 e) (8) (15) ((nV + 1)) (fun v => 272 + v) 12 (kLs_cE hV.2.1 (by omega) (by omega) (fun i hi => by omega))) hl0 (kCV_of X 0 gX10_addVariant_Jx4a65c_size_8abf5 rfl rfl rfl (by decide +kernel) hRR ⟨(Nat.le_of_ble_eq_true rfl), (Nat.le_of_ble_eq_true rfl)⟩) hV.2.1.1 o39 rfl rfl rfl (Nat.le_of_ble_eq_true rfl) hRR ⟨(Nat.le_of_ble_eq_true rfl), (Nat.le_of_ble_eq_true rfl)⟩ dX10_addVariant_39 (fun r z hp => ?_)
  obtain rfl := hp
  refine kv_iconst (v := 1) X dX10_addVariant_42 (by decide) ?_
  refine kv_isub X dX10_addVariant_43 ?_
  refine kv_topi (nI nV) (nI_pred nV) ?_
  exact kv_ireturn X hr (Nat.le_of_ble_eq_true rfl) (Nat.le_of_ble_eq_true rfl) ⟨(za.1, za.2.1, (cE dd za.2.2 e)), ⟨h11, ⟨((hw.2.1 0 (by omega)).trans ((w1 0 (by omega)).2.trans ((hs21.2.1 0 (by omega)).trans rfl))), _, _, rfl, hO, hR, hC, hT, hL, hW, hV, hM⟩, rfl⟩, rfl⟩ dX10_addVariant_44
theorem f_X10_addItem_10 : kF wsX10_addItem RX10 10 13 0 := ⟨_, RX10, TX10, 3, fun _ h => (List.mem_cons_of_mem _ (List.mem_append_left _ (List.mem_append_left _ (List.mem_append_left _ (List.mem_append_left _ (List.mem_append_left _ (List.mem_append_right _ h))))))), (List.mem_cons_of_mem _ (List.mem_append_left _ (List.mem_append_left _ (List.mem_append_left _ (List.mem_append_left _ (List.mem_append_left _ (List.mem_append_left _ (List.mem_append_left _ (List.mem_of_getElem? (i := 0) rfl))))))))), rfl, by decide, rfl⟩
theorem f_X10_addItem_103 : kF wsX10_addItem RX10 103 9 2 := ⟨_, RX6, TX6, 7, fun _ h => (List.mem_cons_of_mem _ (List.mem_append_left _ (List.mem_append_left _ (List.mem_append_left _ (List.mem_append_left _ (List.mem_append_right _ h)))))), (List.mem_cons_of_mem _ (List.mem_append_left _ (List.mem_append_left _ (List.mem_append_left _ (List.mem_append_left _ (List.mem_append_left _ (List.mem_append_left _ (List.mem_append_left _ (List.mem_of_getElem? (i := 1) rfl))))))))), rfl, by decide, rfl⟩
set_option maxRecDepth 100000 in
set_option maxHeartbeats 4000000 in
theorem c_X10_addItem (l : Launch) (dd : kDD) (ks : List Nat) (ad : Nat → Nat) (E : Nat → va_E) (e : eS) (M : mS) (nR nC nt nL nW nV nM : Nat) (cn nm mn me li rl : Nat → Nat) (on : Int32) (hO : cO dd ks ad E on) (hR : cR dd ks ad E M nR) (hC : cC dd ks ad E M nC mn me) (hT : cT dd ks ad E M nt cn nm) (hL : cL dd ks ad E M nL nW li) (hW : cW dd ks ad E M nW rl) (hV : cV dd ks ad E M nV) (hM : cM dd ks ad E M nM) (hB : cB M nR nC nt nL nW nV cn nm mn me li rl) (mI mR : Int32 → Nat → Nat) (hmI : ∀ o j, j < nt → mnt o (M.2.1 22) j nV 0 = nI (mI o j) ∧ mI o j < nt) (hmR : ∀ o j, j < nR → mnt o (M.2.1 23) j nV 0 = nI (mR o j) ∧ mR o j < nR) (hpk : ∀ r, r < nR → 1 ≤ M.2.1 5 r) (t : Int32) : kCiX l yX10_addItem wsX10_addItem ({ frames := 7, cells := 8, slots := 150, locals := 171 } : Room) 8 150 dd [.ref (ad 0), .int t] (ks, ad, (cE dd E e)) (kQi (S := kT) (fun r z => (0 ≤ t ∧ t ≤ 5) ∧ nt < 12 ∧ (z.2.1 0 = ad 0 ∧ cAll dd (M.1, va_up (va_up M.2.1 11 (upd (M.2.1 11) nt t)) 12 (upd (M.2.1 12) nt 0), M.2.2) nR nC (nt + 1) nL nW nV nM (va_up cn nt 0) nm mn me li rl on z) ∧ r = nI nt) (fun z => z.1) (fun z => z.2.1) (fun z => z.2.2)) (fun X9 u9 => ∃ e9, u9 = (ks, ad, cE dd E e9) ∧ ((X9 = "java/lang/IllegalArgumentException" ∧ ¬ (0 ≤ t ∧ t ≤ 5)) ∨ (X9 = "java/lang/IllegalStateException" ∧ ((0 ≤ t ∧ t ≤ 5) ∧ nt = 12)))) := by
  refine kMetiX (ws' := _) (cc := cX10_addItem) (maxL := 2) (rt := .int) (by decide) rfl (Nat.le_of_ble_eq_true rfl) (fun g X hr hRX hnL hRR hl0 hkn => ?_)
  show kv dd g 0 0 0 [(0, .ref (ad 0)), (1, .int t)] [] ks ad (cE dd E e)
  have hT12 := hT.1
  have hR12 := hR.1
  have hL10 := hL.1
  have hV4 := hV.1
  have hM4 := hM.1
  have hC4 := hC.1
  have hW40 := hW.1
  obtain ⟨f20, f21, hf20, hf21, hff⟩ := hO.2.2.2.2
  refine kv_iload_n X 1 dX10_addItem_0 rfl rfl ?_
  refine kv_iconst (v := 0) X dX10_addItem_1 (by decide) ?_
  refine kv_iconst (v := 5) X dX10_addItem_2 (by decide) ?_
  refine kv_callvXS (As := [.int t, .int 0, .int 5]) [] X (c_X10_checkRange l dd ks ad (cE dd E e) t 0 5) hl0 (kCS_of X 3 gX10_addItem_X10_checkRange rfl rfl rfl (by decide +kernel) hRR ⟨(Nat.le_of_ble_eq_true rfl), (Nat.le_of_ble_eq_true rfl)⟩) hRX ⟨(Nat.le_of_ble_eq_true rfl), (Nat.le_of_ble_eq_true rfl)⟩ (fun _ _ h => ⟨e, h.2.1, (Or.inl (⟨h.1, h.2.2⟩))⟩) rfl rfl (Nat.le_of_ble_eq_true rfl) hRR ⟨(Nat.le_of_ble_eq_true rfl), (Nat.le_of_ble_eq_true rfl)⟩ dX10_addItem_3 (fun z hp => ?_)
  have h3 := hp
  refine kv_aload_n X 0 dX10_addItem_6 rfl rfl ?_
  refine kv_getfield X f_X10_addItem_10 (κ := 0) (fs := [.ref (ad 1), .ref (ad 2), .int on]) (v := .ref (ad 1)) hO.1.1 ((cE_ne (by omega)).trans hO.1.2) rfl dX10_addItem_7 ?_
  refine kv_getfield X f_X10_addItem_103 (κ := 1) (fs := [.ref (ad 3), .ref (ad 4), .ref (ad 5), .ref (ad 6), .ref (ad 7), .ref (ad 8), .ref (ad 9)]) (v := .ref (ad 5)) hO.2.1.1 ((cE_ne (by omega)).trans hO.2.1.2) rfl dX10_addItem_10 ?_
  obtain ⟨_, _, o13⟩ := kLs_obj (dd := dd) (ks := ks) (ad := ad) (E := (cE dd E e)) (kLs_cE hT.2.1 (by omega) (by omega) (fun i hi => by omega))
  refine kv_calliV (ci := 2) (κ := 5) (r1 := (TJx4a65c, 3)) (As := []) [] X (c_Jx4a65c_size_8abf5 l dd ks ad (cE dd E e) (5) (12) (nt) (fun i => 96 + i) 6 (kLs_cE hT.2.1 (by omega) (by omega) (fun i hi => by omega))) hl0 (kCV_of X 0 gX10_addItem_Jx4a65c_size_8abf5 rfl rfl rfl (by decide +kernel) hRR ⟨(Nat.le_of_ble_eq_true rfl), (Nat.le_of_ble_eq_true rfl)⟩) hT.2.1.1 o13 rfl rfl rfl (Nat.le_of_ble_eq_true rfl) hRR ⟨(Nat.le_of_ble_eq_true rfl), (Nat.le_of_ble_eq_true rfl)⟩ dX10_addItem_13 (fun r z hp => ?_)
  obtain rfl := hp
  refine kv_bipush (v := 12) X dX10_addItem_16 (by decide) ?_
  refine kv_callvXS (As := [.int (nI nt), .int 12]) [] X (c_X10_checkRoom l dd ks ad (cE dd E e) nt 12 (by omega) (by omega)) hl0 (kCS_of X 2 gX10_addItem_X10_checkRoom rfl rfl rfl (by decide +kernel) hRR ⟨(Nat.le_of_ble_eq_true rfl), (Nat.le_of_ble_eq_true rfl)⟩) hRX ⟨(Nat.le_of_ble_eq_true rfl), (Nat.le_of_ble_eq_true rfl)⟩ (fun _ _ h => ⟨e, h.2.1, (Or.inr (⟨h.1, ⟨h3, by have := h.2.2; omega⟩⟩))⟩) rfl rfl (Nat.le_of_ble_eq_true rfl) hRR ⟨(Nat.le_of_ble_eq_true rfl), (Nat.le_of_ble_eq_true rfl)⟩ dX10_addItem_18 (fun z hp => ?_)
  have h18 := hp
  refine kv_aload_n X 0 dX10_addItem_21 rfl rfl ?_
  refine kv_getfield X f_X10_addItem_10 (κ := 0) (fs := [.ref (ad 1), .ref (ad 2), .int on]) (v := .ref (ad 1)) hO.1.1 ((cE_ne (by omega)).trans hO.1.2) rfl dX10_addItem_22 ?_
  refine kv_getfield X f_X10_addItem_103 (κ := 1) (fs := [.ref (ad 3), .ref (ad 4), .ref (ad 5), .ref (ad 6), .ref (ad 7), .ref (ad 8), .ref (ad 9)]) (v := .ref (ad 5)) hO.2.1.1 ((cE_ne (by omega)).trans hO.2.1.2) rfl dX10_addItem_25 ?_
  refine kv_newR X (96 + nt) (⟨RX3, TX3, tyX3, fun _ h => (List.mem_cons_of_mem _ (List.mem_append_left _ (List.mem_append_left _ (List.mem_append_left _ (List.mem_append_right _ h))))), tyX3_ok, (List.mem_cons_of_mem _ (List.mem_append_left _ (List.mem_append_left _ (List.mem_append_left _ (List.mem_append_left _ (List.mem_append_left _ (List.mem_append_left _ (List.mem_append_left _ (List.mem_of_getElem? (i := 2) rfl))))))))), (List.mem_cons_of_mem _ (List.mem_append_left _ (List.mem_append_left _ (List.mem_append_left _ (List.mem_append_left _ (List.mem_append_left _ (List.mem_append_left _ (List.mem_append_left _ (List.mem_of_getElem? (i := 3) rfl))))))))), (List.mem_cons_of_mem _ (List.mem_append_left _ (List.mem_append_left _ (List.mem_append_left _ (List.mem_append_left _ (List.mem_append_left _ (List.mem_append_left _ (List.mem_append_left _ (List.mem_of_getElem? (i := 4) rfl))))))))), rfl, by decide⟩ : kN wsX10_addItem RX10 106 6 [.int 0, .null] 2) hRR ⟨(Nat.le_of_ble_eq_true rfl), (Nat.le_of_ble_eq_true rfl)⟩ dX10_addItem_28 (fun ks28 ad28 E28 hs28 => ?_)
  refine kv_LS [(0, .ref (ad28 0)), (1, .int t)] [.ref (ad28 (96 + nt)), .ref (ad28 5)] (by rw [hs28.2.1 (0) (by omega)]) (by rw [hs28.2.1 (5) (by omega)]) ?_
  refine kv_dup X dX10_addItem_31 rfl ?_
  refine kv_iload_n X 1 dX10_addItem_32 rfl rfl ?_
  refine kv_callvI (κ := 96 + nt) (As := [.int t]) [.ref (ad28 (96 + nt)), .ref (ad28 5)] X (c_X3_init l dd ks28 ad28 E28 (96 + nt) (112 + nt) t (by omega) ((hs28.1 _).mpr (Or.inr rfl)) hs28.2.2.2) hl0 (kCI_of X 1 gX10_addItem_X3_init (List.mem_cons_of_mem _ (List.mem_append_left _ (List.mem_append_left _ (List.mem_append_left _ (List.mem_append_left _ (List.mem_append_left _ (List.mem_append_left _ (List.mem_append_left _ (List.mem_of_getElem? (i := 4) rfl))))))))) (List.mem_cons_of_mem _ (List.mem_append_left _ (List.mem_append_left _ (List.mem_append_left _ (List.mem_append_left _ (List.mem_append_left _ (List.mem_append_left _ (List.mem_append_left _ (List.mem_of_getElem? (i := 22) rfl))))))))) (List.mem_cons_of_mem _ (List.mem_append_left _ (List.mem_append_left _ (List.mem_append_left _ (List.mem_append_left _ (List.mem_append_left _ (List.mem_append_left _ (List.mem_append_left _ (List.mem_of_getElem? (i := 23) rfl))))))))) rfl rfl rfl rfl (by decide +kernel) hRR ⟨(Nat.le_of_ble_eq_true rfl), (Nat.le_of_ble_eq_true rfl)⟩) rfl rfl (Nat.le_of_ble_eq_true rfl) hRR ⟨(Nat.le_of_ble_eq_true rfl), (Nat.le_of_ble_eq_true rfl)⟩ dX10_addItem_33 (fun y9 hp => ?_)
  obtain ⟨w1, w2, w3, w4, w5, w6⟩ := hp
  refine kv_LS [(0, .ref (y9.2.1 0)), (1, .int t)] [.ref (y9.2.1 (96 + nt)), .ref (y9.2.1 5)] (by rw [(w1 (0) (by omega)).2]) (by rw [(w1 (5) (by omega)).2, (w1 (96 + nt) (by omega)).2]) ?_
  have st33 : cSt dd (fun j => j = 96 + nt ∨ j = 112 + nt) (fun j => j = 96 + nt ∨ j = 112 + nt) ks ad E e y9.1 y9.2.1 y9.2.2 := by
    refine ⟨fun j hj => ?_, fun j hj => ?_⟩
    · have q1 : ¬ (j = 96 + nt ∨ j = 112 + nt) := hj
      exact ⟨fun q => (w1 j (by omega)).1 ((hs28.1 j).mpr (Or.inl q)), (w1 j (by omega)).2.trans (hs28.2.1 j (by omega))⟩
    · have q1 : ¬ (j = 96 + nt ∨ j = 112 + nt) := hj
      exact (w2 j (by omega)).trans (hs28.2.2.1 j (by omega))
  refine kv_E (E2 := cE dd y9.2.2 e) (cSt_E' st33 (fun j hj (q : j = 96 + nt ∨ j = 112 + nt) => by omega)) ?_
  have hO := cO_st st33 hO (fun j hj (q : j = 96 + nt ∨ j = 112 + nt) => by unfold vO at hj; omega) ⟨(show ¬ (0 = 96 + nt ∨ 0 = 112 + nt) by omega), (show ¬ (1 = 96 + nt ∨ 1 = 112 + nt) by omega), (show ¬ (2 = 96 + nt ∨ 2 = 112 + nt) by omega), (show ¬ (20 = 96 + nt ∨ 20 = 112 + nt) by omega), (show ¬ (21 = 96 + nt ∨ 21 = 112 + nt) by omega)⟩
  have hR := cR_st st33 hR (fun j hj => by unfold vR at hj; exact ⟨fun (q : j = 96 + nt ∨ j = 112 + nt) => by omega, fun (q : j = 96 + nt ∨ j = 112 + nt) => by omega⟩)
  have hC := cC_st st33 hC (fun j hj => by unfold vC at hj; exact ⟨fun (q : j = 96 + nt ∨ j = 112 + nt) => by omega, fun (q : j = 96 + nt ∨ j = 112 + nt) => by omega⟩)
  have hT := cT_st st33 hT (fun j hj => by unfold vT at hj; rcases hj with y | y | y | y | y | ⟨i, k, y1, y2, y3, y4⟩ <;> exact ⟨fun (q : j = 96 + nt ∨ j = 112 + nt) => by omega, fun (q : j = 96 + nt ∨ j = 112 + nt) => by omega⟩)
  have hL := cL_st st33 hL (fun j hj => by unfold vL at hj; exact ⟨fun (q : j = 96 + nt ∨ j = 112 + nt) => by omega, fun (q : j = 96 + nt ∨ j = 112 + nt) => by omega⟩)
  have hW := cW_st st33 hW (fun j hj => by unfold vW at hj; exact ⟨fun (q : j = 96 + nt ∨ j = 112 + nt) => by omega, fun (q : j = 96 + nt ∨ j = 112 + nt) => by omega⟩)
  have hV := cV_st st33 hV (fun j hj => by unfold vV at hj; exact ⟨fun (q : j = 96 + nt ∨ j = 112 + nt) => by omega, fun (q : j = 96 + nt ∨ j = 112 + nt) => by omega⟩)
  have hM := cM_st st33 hM (fun j hj => by unfold vM at hj; exact ⟨fun (q : j = 96 + nt ∨ j = 112 + nt) => by omega, fun (q : j = 96 + nt ∨ j = 112 + nt) => by omega⟩)
  obtain ⟨_, _, o36⟩ := kLs_obj (dd := dd) (ks := y9.1) (ad := y9.2.1) (E := (cE dd y9.2.2 e)) (kLs_cE hT.2.1 (by omega) (by omega) (fun i hi => by omega))
  refine kv_calliV (ci := 2) (κ := 5) (r1 := (TJx4a65c, 3)) (As := [.ref (y9.2.1 (96 + nt))]) [] X (c_Jx4a65c_add_9ea2d l dd y9.1 y9.2.1 (cE dd y9.2.2 e) (5) (12) (nt) (fun i => 96 + i) 6 _ (kLs_cE hT.2.1 (by omega) (by omega) (fun i hi => by omega)) (by omega) w3 (by omega) (by omega) ((cE_ne (by omega)).trans w5)) hl0 (kCV_of X 1 gX10_addItem_Jx4a65c_add_9ea2d rfl rfl rfl (by decide +kernel) hRR ⟨(Nat.le_of_ble_eq_true rfl), (Nat.le_of_ble_eq_true rfl)⟩) hT.2.1.1 o36 rfl rfl rfl (Nat.le_of_ble_eq_true rfl) hRR ⟨(Nat.le_of_ble_eq_true rfl), (Nat.le_of_ble_eq_true rfl)⟩ dX10_addItem_36 (fun r za hp => ?_)
  obtain ⟨rfl, mc, hw⟩ := hp
  refine kv_LS [(0, .ref (za.2.1 0)), (1, .int t)] [.int 1] (by rw [hw.2.1 (0) (by omega)]) rfl ?_
  have sw : cSt dd (fun j => j = 12) (fun j => j = 5 ∨ j = 12) y9.1 y9.2.1 y9.2.2 e za.1 za.2.1 za.2.2 := ⟨fun j hj => ⟨fun q => (hw.1 j).mpr (Or.inl q), hw.2.1 j hj⟩, fun j hj => hw.2.2.1 j (fun q => hj (Or.inr q)) (fun q => hj (Or.inl q))⟩
  refine kv_E (E2 := cE dd za.2.2 e) (cSt_E' sw (fun j hj (q : j = 5 ∨ j = 12) => by omega)) ?_
  have hT1 := cT_st (cSt_id dd y9.1 y9.2.1 y9.2.2 e) hT (fun _ _ => ⟨id, id⟩)
  have hT2 := cT_add (M2 := (M.1, va_up (va_up M.2.1 11 (upd (M.2.1 11) nt t)) 12 (upd (M.2.1 12) nt 0), M.2.2)) (cn2 := va_up cn nt 0) hT1 h18 ⟨w3, w4⟩ ((cE_ne (by omega)).trans (w5.trans (by show _ = Sum.inr (6, [Value.int (upd (M.2.1 11) nt t nt), .ref (y9.2.1 (112 + nt))]); rw [upd_at]))) ⟨0, (cE_ne (by omega)).trans w6⟩ kEl_3 (fun i hi => ⟨(upd_ne (by omega)).symm, va_up_ne _ _ (by omega)⟩) (va_up_self _ _ _) ⟨rfl, rfl⟩ hw
  have hO := cO_st sw hO (fun j hj (q : j = 12) => by unfold vO at hj; omega) ⟨(show ¬ (0 = 5 ∨ 0 = 12) by omega), (show ¬ (1 = 5 ∨ 1 = 12) by omega), (show ¬ (2 = 5 ∨ 2 = 12) by omega), (show ¬ (20 = 5 ∨ 20 = 12) by omega), (show ¬ (21 = 5 ∨ 21 = 12) by omega)⟩
  have hR := cR_st sw hR (fun j hj => by unfold vR at hj; exact ⟨fun (q : j = 12) => by omega, fun (q : j = 5 ∨ j = 12) => by omega⟩)
  have hC := cC_st sw hC (fun j hj => by unfold vC at hj; exact ⟨fun (q : j = 12) => by omega, fun (q : j = 5 ∨ j = 12) => by omega⟩)
  have hT := hT2
  have hL := cL_st sw hL (fun j hj => by unfold vL at hj; exact ⟨fun (q : j = 12) => by omega, fun (q : j = 5 ∨ j = 12) => by omega⟩)
  have hW := cW_st sw hW (fun j hj => by unfold vW at hj; exact ⟨fun (q : j = 12) => by omega, fun (q : j = 5 ∨ j = 12) => by omega⟩)
  have hV := cV_st sw hV (fun j hj => by unfold vV at hj; exact ⟨fun (q : j = 12) => by omega, fun (q : j = 5 ∨ j = 12) => by omega⟩)
  have hM := cM_st sw hM (fun j hj => by unfold vM at hj; exact ⟨fun (q : j = 12) => by omega, fun (q : j = 5 ∨ j = 12) => by omega⟩)
  refine kv_pop X dX10_addItem_39 rfl ?_
  refine kv_aload_n X 0 dX10_addItem_40 rfl rfl ?_
  refine kv_getfield X f_X10_addItem_10 (κ := 0) (fs := [.ref (za.2.1 1), .ref (za.2.1 2), .int on]) (v := .ref (za.2.1 1)) hO.1.1 ((cE_ne (by omega)).trans hO.1.2) rfl dX10_addItem_41 ?_
  refine kv_getfield X f_X10_addItem_103 (κ := 1) (fs := [.ref (za.2.1 3), .ref (za.2.1 4), .ref (za.2.1 5), .ref (za.2.1 6), .ref (za.2.1 7), .ref (za.2.1 8), .ref (za.2.1 9)]) (v := .ref (za.2.1 5)) hO.2.1.1 ((cE_ne (by omega)).trans hO.2.1.2) rfl dX10_addItem_44 ?_
  obtain ⟨_, _, o47⟩ := kLs_obj (dd := dd) (ks := za.1) (ad := za.2.1) (E := (cE dd za.2.2 e)) (kLs_cE hT.2.1 (by omega) (by omega) (fun i hi => by omega))
  refine kv_calliV (ci := 2) (κ := 5) (r1 := (TJx4a65c, 3)) (As := []) [] X (c_Jx4a65c_size_8abf5 l dd za.1 za.2.1 (cE dd za.2.2 e) (5) (12) ((nt + 1)) (fun i => 96 + i) 6 (kLs_cE hT.2.1 (by omega) (by omega) (fun i hi => by omega))) hl0 (kCV_of X 0 gX10_addItem_Jx4a65c_size_8abf5 rfl rfl rfl (by decide +kernel) hRR ⟨(Nat.le_of_ble_eq_true rfl), (Nat.le_of_ble_eq_true rfl)⟩) hT.2.1.1 o47 rfl rfl rfl (Nat.le_of_ble_eq_true rfl) hRR ⟨(Nat.le_of_ble_eq_true rfl), (Nat.le_of_ble_eq_true rfl)⟩ dX10_addItem_47 (fun r z hp => ?_)
  obtain rfl := hp
  refine kv_iconst (v := 1) X dX10_addItem_50 (by decide) ?_
  refine kv_isub X dX10_addItem_51 ?_
  refine kv_topi (nI nt) (nI_pred nt) ?_
  exact kv_ireturn X hr (Nat.le_of_ble_eq_true rfl) (Nat.le_of_ble_eq_true rfl) ⟨(za.1, za.2.1, (cE dd za.2.2 e)), ⟨h3, h18, ⟨((hw.2.1 0 (by omega)).trans ((w1 0 (by omega)).2.trans ((hs28.2.1 0 (by omega)).trans rfl))), _, _, rfl, hO, hR, hC, hT, hL, hW, hV, hM⟩, rfl⟩, rfl⟩ dX10_addItem_52
theorem f_X10_addComponent_10 : kF wsX10_addComponent RX10 10 13 0 := ⟨_, RX10, TX10, 3, fun _ h => (List.mem_cons_of_mem _ (List.mem_append_left _ (List.mem_append_left _ (List.mem_append_left _ (List.mem_append_left _ (List.mem_append_right _ h)))))), (List.mem_cons_of_mem _ (List.mem_append_left _ (List.mem_append_left _ (List.mem_append_left _ (List.mem_append_left _ (List.mem_append_left _ (List.mem_append_left _ (List.mem_of_getElem? (i := 0) rfl)))))))), rfl, by decide, rfl⟩
theorem f_X10_addComponent_103 : kF wsX10_addComponent RX10 103 9 2 := ⟨_, RX6, TX6, 7, fun _ h => (List.mem_cons_of_mem _ (List.mem_append_left _ (List.mem_append_left _ (List.mem_append_left _ (List.mem_append_right _ h))))), (List.mem_cons_of_mem _ (List.mem_append_left _ (List.mem_append_left _ (List.mem_append_left _ (List.mem_append_left _ (List.mem_append_left _ (List.mem_append_left _ (List.mem_of_getElem? (i := 1) rfl)))))))), rfl, by decide, rfl⟩
theorem f_X10_addComponent_133 : kF wsX10_addComponent RX10 133 6 1 := ⟨_, RX3, TX3, 2, fun _ h => (List.mem_cons_of_mem _ (List.mem_append_left _ (List.mem_append_left _ (List.mem_append_right _ h)))), (List.mem_cons_of_mem _ (List.mem_append_left _ (List.mem_append_left _ (List.mem_append_left _ (List.mem_append_left _ (List.mem_append_left _ (List.mem_append_left _ (List.mem_of_getElem? (i := 3) rfl)))))))), rfl, by decide, rfl⟩
set_option maxRecDepth 100000 in
set_option maxHeartbeats 4000000 in
theorem c_X10_addComponent (l : Launch) (dd : kDD) (ks : List Nat) (ad : Nat → Nat) (E : Nat → va_E) (e : eS) (M : mS) (nR nC nt nL nW nV nM : Nat) (cn nm mn me li rl : Nat → Nat) (on : Int32) (hO : cO dd ks ad E on) (hR : cR dd ks ad E M nR) (hC : cC dd ks ad E M nC mn me) (hT : cT dd ks ad E M nt cn nm) (hL : cL dd ks ad E M nL nW li) (hW : cW dd ks ad E M nW rl) (hV : cV dd ks ad E M nV) (hM : cM dd ks ad E M nM) (hB : cB M nR nC nt nL nW nV cn nm mn me li rl) (mI mR : Int32 → Nat → Nat) (hmI : ∀ o j, j < nt → mnt o (M.2.1 22) j nV 0 = nI (mI o j) ∧ mI o j < nt) (hmR : ∀ o j, j < nR → mnt o (M.2.1 23) j nV 0 = nI (mR o j) ∧ mR o j < nR) (hpk : ∀ r, r < nR → 1 ≤ M.2.1 5 r) (i0 κ x : Nat) (s q : Int32) (hj : i0 < nt) (hκ2 : (cn i0 < 4 ∧ κ = 144 + (4 * i0 + cn i0)) ∨ (cn i0 = 4 ∧ κ = 400)) (hκ : κ ∈ ks) (hEκ : E κ = .inr (3, [.int s, .int (nI x), .int q])) : kCiX l yX10_addComponent wsX10_addComponent ({ frames := 7, cells := 2, slots := 100, locals := 171 } : Room) 2 100 dd [.ref (ad 0), .int (nI i0), .ref (ad κ)] (ks, ad, (cE dd E e)) (kQi (S := kT) (fun r z => cn i0 < 4 ∧ (z.2.1 0 = ad 0 ∧ cAll dd (M.1, va_up (va_up (va_up (va_up M.2.1 13 (upd (M.2.1 13) (4 * i0 + cn i0) s)) 14 (upd (M.2.1 14) (4 * i0 + cn i0) (nI x))) 15 (upd (M.2.1 15) (4 * i0 + cn i0) q)) 12 (upd (M.2.1 12) i0 (nI (cn i0 + 1))), M.2.2) nR nC nt nL nW nV nM (va_up cn i0 (cn i0 + 1)) (va_up nm (4 * i0 + cn i0) x) mn me li rl on z) ∧ r = nI (cn i0 + 1)) (fun z => z.1) (fun z => z.2.1) (fun z => z.2.2)) (fun X9 u9 => ∃ e9, u9 = (ks, ad, cE dd E e9) ∧ ((X9 = "java/lang/IllegalStateException" ∧ cn i0 = 4))) := by
  refine kMetiX (ws' := _) (cc := cX10_addComponent) (maxL := 4) (rt := .int) (by decide) rfl (Nat.le_of_ble_eq_true rfl) (fun g X hr hRX hnL hRR hl0 hkn => ?_)
  show kv dd g 0 0 0 [(0, .ref (ad 0)), (1, .int (nI i0)), (2, .ref (ad κ))] [] ks ad (cE dd E e)
  have hT12 := hT.1
  have hR12 := hR.1
  have hL10 := hL.1
  have hV4 := hV.1
  have hM4 := hM.1
  have hC4 := hC.1
  have hW40 := hW.1
  have hcn4 := (hT.2.2 i0 hj).2.2.1
  refine kv_aload_n X 0 dX10_addComponent_0 rfl rfl ?_
  refine kv_getfield X f_X10_addComponent_10 (κ := 0) (fs := [.ref (ad 1), .ref (ad 2), .int on]) (v := .ref (ad 1)) hO.1.1 ((cE_ne (by omega)).trans hO.1.2) rfl dX10_addComponent_1 ?_
  refine kv_getfield X f_X10_addComponent_103 (κ := 1) (fs := [.ref (ad 3), .ref (ad 4), .ref (ad 5), .ref (ad 6), .ref (ad 7), .ref (ad 8), .ref (ad 9)]) (v := .ref (ad 5)) hO.2.1.1 ((cE_ne (by omega)).trans hO.2.1.2) rfl dX10_addComponent_4 ?_
  refine kv_iload_n X 1 dX10_addComponent_7 rfl rfl ?_
  obtain ⟨_, _, o8⟩ := kLs_obj (dd := dd) (ks := ks) (ad := ad) (E := (cE dd E e)) (kLs_cE hT.2.1 (by omega) (by omega) (fun i hi => by omega))
  refine kv_callqV (ci := 2) (κ := 5) (r1 := (TJx4a65c, 3)) (As := [.int (nI i0)]) [] X (c_Jx4a65c_get_915e3 l dd ks ad (cE dd E e) (5) (12) (nt) (fun i => 96 + i) 6 (kLs_cE hT.2.1 (by omega) (by omega) (fun i hi => by omega)) i0 (by omega)) hl0 (kCV_of X 1 gX10_addComponent_Jx4a65c_get_915e3 rfl rfl rfl (by decide +kernel) hRR ⟨(Nat.le_of_ble_eq_true rfl), (Nat.le_of_ble_eq_true rfl)⟩) hT.2.1.1 o8 rfl rfl rfl (Nat.le_of_ble_eq_true rfl) hRR ⟨(Nat.le_of_ble_eq_true rfl), (Nat.le_of_ble_eq_true rfl)⟩ dX10_addComponent_8 (fun r z hp => ?_)
  obtain rfl := hp
  refine kv_topg (.ref (ad (96 + i0))) rfl ?_
  refine kv_cast X (κ := 96 + i0) (ci := 6) (fs := [.int (M.2.1 11 i0), .ref (ad (112 + i0))]) (r := (RX3, TX3, 2)) (List.mem_cons_of_mem _ (List.mem_append_left _ (List.mem_append_left _ (List.mem_append_left _ (List.mem_append_left _ (List.mem_append_left _ (List.mem_append_left _ (List.mem_of_getElem? (i := 2) rfl)))))))) (hT.2.2 i0 (by omega)).1 ((cE_ne (by omega)).trans (hT.2.2 i0 (by omega)).2.1) rfl dX10_addComponent_11 ?_
  refine kv_getfield X f_X10_addComponent_133 (κ := 96 + i0) (fs := [.int (M.2.1 11 i0), .ref (ad (112 + i0))]) (v := .ref (ad (112 + i0))) (hT.2.2 i0 (by omega)).1 ((cE_ne (by omega)).trans (hT.2.2 i0 (by omega)).2.1) rfl dX10_addComponent_14 ?_
  refine kv_astore_n (lv2 := [(3, .ref (ad (112 + i0))), (0, .ref (ad 0)), (1, .int (nI i0)), (2, .ref (ad κ))]) X dX10_addComponent_17 rfl (by rw [hnL]; decide) rfl ?_
  refine kv_aload_n X 0 dX10_addComponent_18 rfl rfl ?_
  obtain ⟨_, _, o19⟩ := kLs_obj (dd := dd) (ks := ks) (ad := ad) (E := (cE dd E e)) (kLs_cE (hT.2.2 i0 (by omega)).2.2.2.1 (by omega) (by omega) (fun i hi => by omega))
  refine kv_calliV (ci := 2) (κ := 112 + i0) (r1 := (TJx4a65c, 3)) (As := []) [] X (c_Jx4a65c_size_8abf5 l dd ks ad (cE dd E e) (112 + i0) (128 + i0) (cn i0) (fun k => 144 + (4 * i0 + k)) 3 (kLs_cE (hT.2.2 i0 (by omega)).2.2.2.1 (by omega) (by omega) (fun i hi => by omega))) hl0 (kCV_of X 0 gX10_addComponent_Jx4a65c_size_8abf5 rfl rfl rfl (by decide +kernel) hRR ⟨(Nat.le_of_ble_eq_true rfl), (Nat.le_of_ble_eq_true rfl)⟩) (hT.2.2 i0 (by omega)).2.2.2.1.1 o19 rfl rfl rfl (Nat.le_of_ble_eq_true rfl) hRR ⟨(Nat.le_of_ble_eq_true rfl), (Nat.le_of_ble_eq_true rfl)⟩ dX10_addComponent_19 (fun r z hp => ?_)
  obtain rfl := hp
  refine kv_iconst (v := 4) X dX10_addComponent_22 (by decide) ?_
  refine kv_callvXS (As := [.int (nI (cn i0)), .int 4]) [] X (c_X10_checkRoom l dd ks ad (cE dd E e) (cn i0) 4 (by omega) (by omega)) hl0 (kCS_of X 2 gX10_addComponent_X10_checkRoom rfl rfl rfl (by decide +kernel) hRR ⟨(Nat.le_of_ble_eq_true rfl), (Nat.le_of_ble_eq_true rfl)⟩) hRX ⟨(Nat.le_of_ble_eq_true rfl), (Nat.le_of_ble_eq_true rfl)⟩ (fun _ _ h => ⟨e, h.2.1, ⟨h.1, by have := h.2.2; omega⟩⟩) rfl rfl (Nat.le_of_ble_eq_true rfl) hRR ⟨(Nat.le_of_ble_eq_true rfl), (Nat.le_of_ble_eq_true rfl)⟩ dX10_addComponent_23 (fun z hp => ?_)
  have h23 := hp
  obtain rfl : κ = 144 + (4 * i0 + cn i0) := by omega
  refine kv_aload_n X 0 dX10_addComponent_26 rfl rfl ?_
  refine kv_aload_n X 3 dX10_addComponent_27 rfl rfl ?_
  obtain ⟨_, _, o28⟩ := kLs_obj (dd := dd) (ks := ks) (ad := ad) (E := (cE dd E e)) (kLs_cE (hT.2.2 i0 (by omega)).2.2.2.1 (by omega) (by omega) (fun i hi => by omega))
  refine kv_calliV (ci := 2) (κ := 112 + i0) (r1 := (TJx4a65c, 3)) (As := [.ref (ad (144 + (4 * i0 + cn i0)))]) [] X (c_Jx4a65c_add_9ea2d l dd ks ad (cE dd E e) (112 + i0) (128 + i0) (cn i0) (fun k => 144 + (4 * i0 + k)) 3 _ (kLs_cE (hT.2.2 i0 (by omega)).2.2.2.1 (by omega) (by omega) (fun i hi => by omega)) (by omega) hκ (by omega) (by omega) ((cE_ne (by omega)).trans hEκ)) hl0 (kCV_of X 1 gX10_addComponent_Jx4a65c_add_9ea2d rfl rfl rfl (by decide +kernel) hRR ⟨(Nat.le_of_ble_eq_true rfl), (Nat.le_of_ble_eq_true rfl)⟩) (hT.2.2 i0 (by omega)).2.2.2.1.1 o28 rfl rfl rfl (Nat.le_of_ble_eq_true rfl) hRR ⟨(Nat.le_of_ble_eq_true rfl), (Nat.le_of_ble_eq_true rfl)⟩ dX10_addComponent_28 (fun r za hp => ?_)
  obtain ⟨rfl, mc, hw⟩ := hp
  refine kv_LS [(3, .ref (za.2.1 (112 + i0))), (0, .ref (za.2.1 0)), (1, .int (nI i0)), (2, .ref (za.2.1 (144 + (4 * i0 + cn i0))))] [.int 1] (by rw [hw.2.1 (0) (by omega), hw.2.1 (112 + i0) (by omega), hw.2.1 (144 + (4 * i0 + cn i0)) (by omega)]) rfl ?_
  have sw : cSt dd (fun j => j = 128 + i0) (fun j => j = 112 + i0 ∨ j = 128 + i0) ks ad E e za.1 za.2.1 za.2.2 := ⟨fun j hj => ⟨fun q => (hw.1 j).mpr (Or.inl q), hw.2.1 j hj⟩, fun j hj => hw.2.2.1 j (fun q => hj (Or.inr q)) (fun q => hj (Or.inl q))⟩
  refine kv_E (E2 := cE dd za.2.2 e) (cSt_E' sw (fun j hj (q : j = 112 + i0 ∨ j = 128 + i0) => by omega)) ?_
  have hT1 := cT_st (cSt_id dd ks ad E e) hT (fun _ _ => ⟨id, id⟩)
  have hT2 := cT_addc (M2 := (M.1, va_up (va_up (va_up (va_up M.2.1 13 (upd (M.2.1 13) (4 * i0 + cn i0) s)) 14 (upd (M.2.1 14) (4 * i0 + cn i0) (nI x))) 15 (upd (M.2.1 15) (4 * i0 + cn i0) q)) 12 (upd (M.2.1 12) i0 (nI (cn i0 + 1))), M.2.2)) hT1 hj h23 hκ ((cE_ne (by omega)).trans hEκ) rfl rfl rfl hw
  have hO := cO_st sw hO (fun j hj (q : j = 128 + i0) => by unfold vO at hj; omega) ⟨(show ¬ (0 = 112 + i0 ∨ 0 = 128 + i0) by omega), (show ¬ (1 = 112 + i0 ∨ 1 = 128 + i0) by omega), (show ¬ (2 = 112 + i0 ∨ 2 = 128 + i0) by omega), (show ¬ (20 = 112 + i0 ∨ 20 = 128 + i0) by omega), (show ¬ (21 = 112 + i0 ∨ 21 = 128 + i0) by omega)⟩
  have hR := cR_st sw hR (fun j hj => by unfold vR at hj; exact ⟨fun (q : j = 128 + i0) => by omega, fun (q : j = 112 + i0 ∨ j = 128 + i0) => by omega⟩)
  have hC := cC_st sw hC (fun j hj => by unfold vC at hj; exact ⟨fun (q : j = 128 + i0) => by omega, fun (q : j = 112 + i0 ∨ j = 128 + i0) => by omega⟩)
  have hT := hT2
  have hL := cL_st sw hL (fun j hj => by unfold vL at hj; exact ⟨fun (q : j = 128 + i0) => by omega, fun (q : j = 112 + i0 ∨ j = 128 + i0) => by omega⟩)
  have hW := cW_st sw hW (fun j hj => by unfold vW at hj; exact ⟨fun (q : j = 128 + i0) => by omega, fun (q : j = 112 + i0 ∨ j = 128 + i0) => by omega⟩)
  have hV := cV_st sw hV (fun j hj => by unfold vV at hj; exact ⟨fun (q : j = 128 + i0) => by omega, fun (q : j = 112 + i0 ∨ j = 128 + i0) => by omega⟩)
  have hM := cM_st sw hM (fun j hj => by unfold vM at hj; exact ⟨fun (q : j = 128 + i0) => by omega, fun (q : j = 112 + i0 ∨ j = 128 + i0) => by omega⟩)
  refine kv_pop X dX10_addComponent_31 rfl ?_
  refine kv_aload_n X 0 dX10_addComponent_32 rfl rfl ?_
  obtain ⟨_, _, o33⟩ := kLs_obj (dd := dd) (ks := za.1) (ad := za.2.1) (E := (cE dd za.2.2 e)) (kLs_cE (hT.2.2 i0 (by omega)).2.2.2.1 (by omega) (by omega) (fun i hi => by omega))
  refine kv_calliV (ci := 2) (κ := 112 + i0) (r1 := (TJx4a65c, 3)) (As := []) [] X (c_Jx4a65c_size_8abf5 l dd za.1 za.2.1 (cE dd za.2.2 e) (112 + i0) (128 + i0) ((va_up cn i0 (cn i0 + 1) i0)) (fun k => 144 + (4 * i0 + k)) 3 (kLs_cE (hT.2.2 i0 (by omega)).2.2.2.1 (by omega) (by omega) (fun i hi => by omega))) hl0 (kCV_of X 0 gX10_addComponent_Jx4a65c_size_8abf5 rfl rfl rfl (by decide +kernel) hRR ⟨(Nat.le_of_ble_eq_true rfl), (Nat.le_of_ble_eq_true rfl)⟩) (hT.2.2 i0 (by omega)).2.2.2.1.1 o33 rfl rfl rfl (Nat.le_of_ble_eq_true rfl) hRR ⟨(Nat.le_of_ble_eq_true rfl), (Nat.le_of_ble_eq_true rfl)⟩ dX10_addComponent_33 (fun r z hp => ?_)
  obtain rfl := hp
  refine kv_topi (nI (cn i0 + 1)) (by rw [va_up_self]) ?_
  exact kv_ireturn X hr (Nat.le_of_ble_eq_true rfl) (Nat.le_of_ble_eq_true rfl) ⟨(za.1, za.2.1, (cE dd za.2.2 e)), ⟨h23, ⟨((hw.2.1 0 (by omega)).trans rfl), _, _, rfl, hO, hR, hC, hT, hL, hW, hV, hM⟩, rfl⟩, rfl⟩ dX10_addComponent_36

set_option maxRecDepth 100000 in
set_option maxHeartbeats 4000000 in
theorem c_X10_addUse (l : Launch) (dd : kDD) (ks : List Nat) (ad : Nat → Nat) (E : Nat → va_E) (e : eS) (M : mS) (nR nC nt nL nW nV nM : Nat) (cn nm mn me li rl : Nat → Nat) (on : Int32) (hO : cO dd ks ad E on) (hR : cR dd ks ad E M nR) (hC : cC dd ks ad E M nC mn me) (hT : cT dd ks ad E M nt cn nm) (hL : cL dd ks ad E M nL nW li) (hW : cW dd ks ad E M nW rl) (hV : cV dd ks ad E M nV) (hM : cM dd ks ad E M nM) (hB : cB M nR nC nt nL nW nV cn nm mn me li rl) (mI mR : Int32 → Nat → Nat) (hmI : ∀ o j, j < nt → mnt o (M.2.1 22) j nV 0 = nI (mI o j) ∧ mI o j < nt) (hmR : ∀ o j, j < nR → mnt o (M.2.1 23) j nV 0 = nI (mR o j) ∧ mR o j < nR) (hpk : ∀ r, r < nR → 1 ≤ M.2.1 5 r) (v x q : Int32) : kCiX l yX10_addUse wsX10_addUse ({ frames := 8, cells := 8, slots := 150, locals := 194 } : Room) 8 150 dd [.ref (ad 0), .int v, .int x, .int q] (ks, ad, (cE dd E e)) (kQi (S := kT) (fun r z => ∃ j, ∃ j2, (j < nt ∧ j2 < nR ∧ v = nI j ∧ x = nI j2 ∧ (1 ≤ q ∧ q ≤ 99)) ∧ cn j < 4 ∧ (z.2.1 0 = ad 0 ∧ cAll dd (M.1, va_up (va_up (va_up (va_up M.2.1 13 (upd (M.2.1 13) (4 * j + cn j) 1)) 14 (upd (M.2.1 14) (4 * j + cn j) (nI j2))) 15 (upd (M.2.1 15) (4 * j + cn j) q)) 12 (upd (M.2.1 12) j (nI (cn j + 1))), M.2.2) nR nC nt nL nW nV nM (va_up cn j (cn j + 1)) (va_up nm (4 * j + cn j) j2) mn me li rl on z) ∧ r = nI (cn j + 1)) (fun z => z.1) (fun z => z.2.1) (fun z => z.2.2)) (fun X9 u9 => (u9.2.1 0 = ad 0 ∧ cAll dd M nR nC nt nL nW nV nM cn nm mn me li rl on u9) ∧ ((X9 = "java/lang/IndexOutOfBoundsException" ∧ ¬ ((∃ j, j < nt ∧ v = nI j) ∧ (∃ j, j < nR ∧ x = nI j))) ∨ (X9 = "java/lang/IllegalArgumentException" ∧ (((∃ j, j < nt ∧ v = nI j) ∧ (∃ j, j < nR ∧ x = nI j)) ∧ ¬ (1 ≤ q ∧ q ≤ 99))) ∨ (X9 = "java/lang/IllegalStateException" ∧ (((∃ j, j < nt ∧ v = nI j) ∧ (∃ j, j < nR ∧ x = nI j)) ∧ (1 ≤ q ∧ q ≤ 99) ∧ ∃ j, v = nI j ∧ j < nt ∧ cn j = 4)))) := by
  refine kMetiX (ws' := _) (cc := cX10_addUse) (maxL := 4) (rt := .int) (by decide) rfl (Nat.le_of_ble_eq_true rfl) (fun g X hr hRX hnL hRR hl0 hkn => ?_)
  show kv dd g 0 0 0 [(0, .ref (ad 0)), (1, .int v), (2, .int x), (3, .int q)] [] ks ad (cE dd E e)
  have hT12 := hT.1
  have hR12 := hR.1
  have hL10 := hL.1
  have hV4 := hV.1
  have hM4 := hM.1
  have hC4 := hC.1
  have hW40 := hW.1
  obtain ⟨f20, f21, hf20, hf21, hff⟩ := hO.2.2.2.2
  refine kv_aload_n X 0 dX10_addUse_0 rfl rfl ?_
  refine kv_iload_n X 1 dX10_addUse_1 rfl rfl ?_
  refine kv_callvXV (ci := 13) (κ := 0) (r1 := (TX10, 3)) (As := [.int v]) [] X (c_X10_checkItem l dd ks ad E e M nR nC nt nL nW nV nM cn nm mn me li rl on hO hR hC hT hL hW hV hM hB v) hl0 (kCV_of X 1 gX10_addUse_X10_checkItem rfl rfl rfl (by decide +kernel) hRR ⟨(Nat.le_of_ble_eq_true rfl), (Nat.le_of_ble_eq_true rfl)⟩) hO.1.1 ((cE_ne (by omega)).trans hO.1.2) rfl hRX ⟨(Nat.le_of_ble_eq_true rfl), (Nat.le_of_ble_eq_true rfl)⟩ (fun _ _ h => ⟨⟨by rw [h.2.1], by rw [h.2.1]; exact ⟨E, e, rfl, hO, hR, hC, hT, hL, hW, hV, hM⟩⟩, (Or.inl (⟨h.1, fun q => h.2.2 q.1⟩))⟩) rfl rfl (Nat.le_of_ble_eq_true rfl) hRR ⟨(Nat.le_of_ble_eq_true rfl), (Nat.le_of_ble_eq_true rfl)⟩ dX10_addUse_2 (fun z hp => ?_)
  obtain ⟨rfl, j2, h2, rfl⟩ := hp
  refine kv_aload_n X 0 dX10_addUse_5 rfl rfl ?_
  refine kv_iload_n X 2 dX10_addUse_6 rfl rfl ?_
  refine kv_callvXV (ci := 13) (κ := 0) (r1 := (TX10, 3)) (As := [.int x]) [] X (c_X10_checkResource l dd ks ad E e M nR nC nt nL nW nV nM cn nm mn me li rl on hO hR hC hT hL hW hV hM hB x) hl0 (kCV_of X 1 gX10_addUse_X10_checkResource rfl rfl rfl (by decide +kernel) hRR ⟨(Nat.le_of_ble_eq_true rfl), (Nat.le_of_ble_eq_true rfl)⟩) hO.1.1 ((cE_ne (by omega)).trans hO.1.2) rfl hRX ⟨(Nat.le_of_ble_eq_true rfl), (Nat.le_of_ble_eq_true rfl)⟩ (fun _ _ h => ⟨⟨by rw [h.2.1], by rw [h.2.1]; exact ⟨E, e, rfl, hO, hR, hC, hT, hL, hW, hV, hM⟩⟩, (Or.inl (⟨h.1, fun q => h.2.2 q.2⟩))⟩) rfl rfl (Nat.le_of_ble_eq_true rfl) hRR ⟨(Nat.le_of_ble_eq_true rfl), (Nat.le_of_ble_eq_true rfl)⟩ dX10_addUse_7 (fun z hp => ?_)
  obtain ⟨rfl, j7, h7, rfl⟩ := hp
  refine kv_iload_n X 3 dX10_addUse_10 rfl rfl ?_
  refine kv_iconst (v := 1) X dX10_addUse_11 (by decide) ?_
  refine kv_bipush (v := 99) X dX10_addUse_12 (by decide) ?_
  refine kv_callvXS (As := [.int q, .int 1, .int 99]) [] X (c_X10_checkRange l dd ks ad (cE dd E e) q 1 99) hl0 (kCS_of X 3 gX10_addUse_X10_checkRange rfl rfl rfl (by decide +kernel) hRR ⟨(Nat.le_of_ble_eq_true rfl), (Nat.le_of_ble_eq_true rfl)⟩) hRX ⟨(Nat.le_of_ble_eq_true rfl), (Nat.le_of_ble_eq_true rfl)⟩ (fun _ _ h => ⟨⟨by rw [h.2.1], by rw [h.2.1]; exact ⟨E, e, rfl, hO, hR, hC, hT, hL, hW, hV, hM⟩⟩, (Or.inr (Or.inl (⟨h.1, ⟨⟨⟨j2, h2, rfl⟩, ⟨j7, h7, rfl⟩⟩, h.2.2⟩⟩)))⟩) rfl rfl (Nat.le_of_ble_eq_true rfl) hRR ⟨(Nat.le_of_ble_eq_true rfl), (Nat.le_of_ble_eq_true rfl)⟩ dX10_addUse_14 (fun z hp => ?_)
  have h14 := hp
  refine kv_aload_n X 0 dX10_addUse_17 rfl rfl ?_
  refine kv_iload_n X 1 dX10_addUse_18 rfl rfl ?_
  have hcn4 := (hT.2.2 j2 h2).2.2.1
  obtain ⟨κ, hκ2⟩ : ∃ κ, (cn j2 < 4 ∧ κ = 144 + (4 * j2 + cn j2)) ∨ (cn j2 = 4 ∧ κ = 400) := (Decidable.em (cn j2 < 4)).elim (fun c => ⟨_, Or.inl ⟨c, rfl⟩⟩) (fun c => ⟨400, Or.inr ⟨by omega, rfl⟩⟩)
  refine kv_newR X (κ) (⟨RX0, TX0, tyX0, fun _ h => (List.mem_cons_of_mem _ (List.mem_append_left _ (List.mem_append_left _ (List.mem_append_left _ (List.mem_append_left _ (List.mem_append_left _ (List.mem_append_left _ (List.mem_append_left _ (List.mem_append_right _ h))))))))), tyX0_ok, (List.mem_cons_of_mem _ (List.mem_append_left _ (List.mem_append_left _ (List.mem_append_left _ (List.mem_append_left _ (List.mem_append_left _ (List.mem_append_left _ (List.mem_append_left _ (List.mem_append_left _ (List.mem_append_left _ (List.mem_of_getElem? (i := 0) rfl))))))))))), (List.mem_cons_of_mem _ (List.mem_append_left _ (List.mem_append_left _ (List.mem_append_left _ (List.mem_append_left _ (List.mem_append_left _ (List.mem_append_left _ (List.mem_append_left _ (List.mem_append_left _ (List.mem_append_left _ (List.mem_of_getElem? (i := 1) rfl))))))))))), (List.mem_cons_of_mem _ (List.mem_append_left _ (List.mem_append_left _ (List.mem_append_left _ (List.mem_append_left _ (List.mem_append_left _ (List.mem_append_left _ (List.mem_append_left _ (List.mem_append_left _ (List.mem_append_left _ (List.mem_of_getElem? (i := 2) rfl))))))))))), rfl, by decide⟩ : kN wsX10_addUse RX10 113 3 [.int 0, .int 0, .int 0] 3) hRR ⟨(Nat.le_of_ble_eq_true rfl), (Nat.le_of_ble_eq_true rfl)⟩ dX10_addUse_19 (fun ks19 ad19 E19 hs19 => ?_)
  refine kv_LS [(0, .ref (ad19 0)), (1, .int (nI j2)), (2, .int (nI j7)), (3, .int q)] [.ref (ad19 κ), .int (nI j2), .ref (ad19 0)] (by rw [hs19.2.1 (0) (by omega)]) (by rw [hs19.2.1 (0) (by omega)]) ?_
  refine kv_dup X dX10_addUse_22 rfl ?_
  refine kv_iconst (v := 1) X dX10_addUse_23 (by decide) ?_
  refine kv_iload_n X 2 dX10_addUse_24 rfl rfl ?_
  refine kv_iload_n X 3 dX10_addUse_25 rfl rfl ?_
  refine kv_callvI (κ := κ) (As := [.int 1, .int (nI j7), .int q]) [.ref (ad19 κ), .int (nI j2), .ref (ad19 0)] X (c_X0_init l dd ks19 ad19 E19 κ 1 (nI j7) q ((hs19.1 _).mpr (Or.inr rfl)) hs19.2.2.2) hl0 (kCI_of X 3 gX10_addUse_X0_init (List.mem_cons_of_mem _ (List.mem_append_left _ (List.mem_append_left _ (List.mem_append_left _ (List.mem_append_left _ (List.mem_append_left _ (List.mem_append_left _ (List.mem_append_left _ (List.mem_append_left _ (List.mem_append_left _ (List.mem_of_getElem? (i := 2) rfl))))))))))) (List.mem_cons_of_mem _ (List.mem_append_left _ (List.mem_append_left _ (List.mem_append_left _ (List.mem_append_left _ (List.mem_append_left _ (List.mem_append_left _ (List.mem_append_left _ (List.mem_append_left _ (List.mem_append_right _ (List.mem_append_left _ (List.mem_of_getElem? (i := 7) rfl)))))))))))) (List.mem_cons_of_mem _ (List.mem_append_left _ (List.mem_append_left _ (List.mem_append_left _ (List.mem_append_left _ (List.mem_append_left _ (List.mem_append_left _ (List.mem_append_left _ (List.mem_append_left _ (List.mem_append_right _ (List.mem_append_left _ (List.mem_of_getElem? (i := 8) rfl)))))))))))) rfl rfl rfl rfl (by decide +kernel) hRR ⟨(Nat.le_of_ble_eq_true rfl), (Nat.le_of_ble_eq_true rfl)⟩) rfl rfl (Nat.le_of_ble_eq_true rfl) hRR ⟨(Nat.le_of_ble_eq_true rfl), (Nat.le_of_ble_eq_true rfl)⟩ dX10_addUse_26 (fun z hp => ?_)
  have st26 : cSt dd (fun j => j = κ) (fun j => j = κ) ks ad E e ks19 ad19 (va_up E19 (κ) (.inr (3, [.int 1, .int (nI j7), .int q]))) := ⟨fun j hj => ⟨fun q => (hs19.1 j).mpr (Or.inl q), hs19.2.1 j hj⟩, fun j hj => (va_up_ne _ _ hj).trans (hs19.2.2.1 j hj)⟩
  refine kv_E (E2 := cE dd (va_up E19 (κ) (.inr (3, [.int 1, .int (nI j7), .int q]))) e) (cSt_E' st26 (fun j hj (q : j = κ) => by omega)) ?_
  have hO := cO_st st26 hO (fun j hj (q : j = κ) => by unfold vO at hj; omega) ⟨(show ¬ (0 = κ) by omega), (show ¬ (1 = κ) by omega), (show ¬ (2 = κ) by omega), (show ¬ (20 = κ) by omega), (show ¬ (21 = κ) by omega)⟩
  have hR := cR_st st26 hR (fun j hj => by unfold vR at hj; exact ⟨fun (q : j = κ) => by omega, fun (q : j = κ) => by omega⟩)
  have hC := cC_st st26 hC (fun j hj => by unfold vC at hj; exact ⟨fun (q : j = κ) => by omega, fun (q : j = κ) => by omega⟩)
  have hL := cL_st st26 hL (fun j hj => by unfold vL at hj; exact ⟨fun (q : j = κ) => by omega, fun (q : j = κ) => by omega⟩)
  have hW := cW_st st26 hW (fun j hj => by unfold vW at hj; exact ⟨fun (q : j = κ) => by omega, fun (q : j = κ) => by omega⟩)
  have hV := cV_st st26 hV (fun j hj => by unfold vV at hj; exact ⟨fun (q : j = κ) => by omega, fun (q : j = κ) => by omega⟩)
  have hM := cM_st st26 hM (fun j hj => by unfold vM at hj; exact ⟨fun (q : j = κ) => by omega, fun (q : j = κ) => by omega⟩)
  have hT := cT_st st26 hT (fun j hj => by unfold vT at hj; rcases hj with y | y | y | y | y | ⟨i, k, y1, y2, y3, y4⟩ <;> first | exact ⟨fun (q : j = κ) => by omega, fun (q : j = κ) => by omega⟩ | exact ⟨fun (q : j = κ) => by by_cases c : i = j2; (subst c; omega); omega, fun (q : j = κ) => by by_cases c : i = j2; (subst c; omega); omega⟩)
  refine kv_calliXV (ci := 13) (κ := 0) (r1 := (TX10, 3)) (As := [.int (nI j2), .ref (ad19 κ)]) [] X (c_X10_addComponent l dd ks19 ad19 (va_up E19 (κ) (.inr (3, [.int 1, .int (nI j7), .int q]))) e M nR nC nt nL nW nV nM cn nm mn me li rl on hO hR hC hT hL hW hV hM hB mI mR hmI hmR hpk j2 κ j7 1 q h2 hκ2 ((hs19.1 _).mpr (Or.inr rfl)) (va_up_self _ _ _)) hl0 (kCV_of X 2 gX10_addUse_X10_addComponent rfl rfl rfl (by decide +kernel) hRR ⟨(Nat.le_of_ble_eq_true rfl), (Nat.le_of_ble_eq_true rfl)⟩) hO.1.1 ((cE_ne (by omega)).trans hO.1.2) rfl hRX ⟨(Nat.le_of_ble_eq_true rfl), (Nat.le_of_ble_eq_true rfl)⟩ (fun _ _ h => by obtain ⟨e9, hu, hh⟩ := h; exact ⟨⟨by rw [hu]; exact (hs19.2.1 0 (by omega)), by rw [hu]; exact ⟨_, e9, rfl, hO, hR, hC, hT, hL, hW, hV, hM⟩⟩, (Or.inr (Or.inr (⟨hh.1, ⟨⟨j2, h2, rfl⟩, ⟨j7, h7, rfl⟩⟩, h14, j2, rfl, h2, hh.2⟩)))⟩) rfl rfl (Nat.le_of_ble_eq_true rfl) hRR ⟨(Nat.le_of_ble_eq_true rfl), (Nat.le_of_ble_eq_true rfl)⟩ dX10_addUse_29 (fun r z hp => ?_)
  obtain ⟨hc4, ⟨hz0, hall⟩, rfl⟩ := hp
  exact kv_ireturn X hr (Nat.le_of_ble_eq_true rfl) (Nat.le_of_ble_eq_true rfl) ⟨z, ⟨j2, j7, ⟨h2, h7, rfl, rfl, h14⟩, hc4, ⟨hz0.trans (hs19.2.1 0 (by omega)), hall⟩, rfl⟩, rfl⟩ dX10_addUse_32

set_option maxRecDepth 100000 in
set_option maxHeartbeats 4000000 in
theorem c_X10_addWork (l : Launch) (dd : kDD) (ks : List Nat) (ad : Nat → Nat) (E : Nat → va_E) (e : eS) (M : mS) (nR nC nt nL nW nV nM : Nat) (cn nm mn me li rl : Nat → Nat) (on : Int32) (hO : cO dd ks ad E on) (hR : cR dd ks ad E M nR) (hC : cC dd ks ad E M nC mn me) (hT : cT dd ks ad E M nt cn nm) (hL : cL dd ks ad E M nL nW li) (hW : cW dd ks ad E M nW rl) (hV : cV dd ks ad E M nV) (hM : cM dd ks ad E M nM) (hB : cB M nR nC nt nL nW nV cn nm mn me li rl) (mI mR : Int32 → Nat → Nat) (hmI : ∀ o j, j < nt → mnt o (M.2.1 22) j nV 0 = nI (mI o j) ∧ mI o j < nt) (hmR : ∀ o j, j < nR → mnt o (M.2.1 23) j nV 0 = nI (mR o j) ∧ mR o j < nR) (hpk : ∀ r, r < nR → 1 ≤ M.2.1 5 r) (v x q : Int32) : kCiX l yX10_addWork wsX10_addWork ({ frames := 8, cells := 8, slots := 150, locals := 194 } : Room) 8 150 dd [.ref (ad 0), .int v, .int x, .int q] (ks, ad, (cE dd E e)) (kQi (S := kT) (fun r z => ∃ j, ∃ j2, (j < nt ∧ j2 < nC ∧ v = nI j ∧ x = nI j2 ∧ (1 ≤ q ∧ q ≤ 99)) ∧ cn j < 4 ∧ (z.2.1 0 = ad 0 ∧ cAll dd (M.1, va_up (va_up (va_up (va_up M.2.1 13 (upd (M.2.1 13) (4 * j + cn j) 2)) 14 (upd (M.2.1 14) (4 * j + cn j) (nI j2))) 15 (upd (M.2.1 15) (4 * j + cn j) q)) 12 (upd (M.2.1 12) j (nI (cn j + 1))), M.2.2) nR nC nt nL nW nV nM (va_up cn j (cn j + 1)) (va_up nm (4 * j + cn j) j2) mn me li rl on z) ∧ r = nI (cn j + 1)) (fun z => z.1) (fun z => z.2.1) (fun z => z.2.2)) (fun X9 u9 => (u9.2.1 0 = ad 0 ∧ cAll dd M nR nC nt nL nW nV nM cn nm mn me li rl on u9) ∧ ((X9 = "java/lang/IndexOutOfBoundsException" ∧ ¬ ((∃ j, j < nt ∧ v = nI j) ∧ (∃ j, j < nC ∧ x = nI j))) ∨ (X9 = "java/lang/IllegalArgumentException" ∧ (((∃ j, j < nt ∧ v = nI j) ∧ (∃ j, j < nC ∧ x = nI j)) ∧ ¬ (1 ≤ q ∧ q ≤ 99))) ∨ (X9 = "java/lang/IllegalStateException" ∧ (((∃ j, j < nt ∧ v = nI j) ∧ (∃ j, j < nC ∧ x = nI j)) ∧ (1 ≤ q ∧ q ≤ 99) ∧ ∃ j, v = nI j ∧ j < nt ∧ cn j = 4)))) := by
  refine kMetiX (ws' := _) (cc := cX10_addWork) (maxL := 4) (rt := .int) (by decide) rfl (Nat.le_of_ble_eq_true rfl) (fun g X hr hRX hnL hRR hl0 hkn => ?_)
  show kv dd g 0 0 0 [(0, .ref (ad 0)), (1, .int v), (2, .int x), (3, .int q)] [] ks ad (cE dd E e)
  have hT12 := hT.1
  have hR12 := hR.1
  have hL10 := hL.1
  have hV4 := hV.1
  have hM4 := hM.1
  have hC4 := hC.1
  have hW40 := hW.1
  obtain ⟨f20, f21, hf20, hf21, hff⟩ := hO.2.2.2.2
  refine kv_aload_n X 0 dX10_addWork_0 rfl rfl ?_
  refine kv_iload_n X 1 dX10_addWork_1 rfl rfl ?_
  refine kv_callvXV (ci := 13) (κ := 0) (r1 := (TX10, 3)) (As := [.int v]) [] X (c_X10_checkItem l dd ks ad E e M nR nC nt nL nW nV nM cn nm mn me li rl on hO hR hC hT hL hW hV hM hB v) hl0 (kCV_of X 1 gX10_addWork_X10_checkItem rfl rfl rfl (by decide +kernel) hRR ⟨(Nat.le_of_ble_eq_true rfl), (Nat.le_of_ble_eq_true rfl)⟩) hO.1.1 ((cE_ne (by omega)).trans hO.1.2) rfl hRX ⟨(Nat.le_of_ble_eq_true rfl), (Nat.le_of_ble_eq_true rfl)⟩ (fun _ _ h => ⟨⟨by rw [h.2.1], by rw [h.2.1]; exact ⟨E, e, rfl, hO, hR, hC, hT, hL, hW, hV, hM⟩⟩, (Or.inl (⟨h.1, fun q => h.2.2 q.1⟩))⟩) rfl rfl (Nat.le_of_ble_eq_true rfl) hRR ⟨(Nat.le_of_ble_eq_true rfl), (Nat.le_of_ble_eq_true rfl)⟩ dX10_addWork_2 (fun z hp => ?_)
  obtain ⟨rfl, j2, h2, rfl⟩ := hp
  refine kv_aload_n X 0 dX10_addWork_5 rfl rfl ?_
  refine kv_iload_n X 2 dX10_addWork_6 rfl rfl ?_
  refine kv_callvXV (ci := 13) (κ := 0) (r1 := (TX10, 3)) (As := [.int x]) [] X (c_X10_checkCrew l dd ks ad E e M nR nC nt nL nW nV nM cn nm mn me li rl on hO hR hC hT hL hW hV hM hB x) hl0 (kCV_of X 1 gX10_addWork_X10_checkCrew rfl rfl rfl (by decide +kernel) hRR ⟨(Nat.le_of_ble_eq_true rfl), (Nat.le_of_ble_eq_true rfl)⟩) hO.1.1 ((cE_ne (by omega)).trans hO.1.2) rfl hRX ⟨(Nat.le_of_ble_eq_true rfl), (Nat.le_of_ble_eq_true rfl)⟩ (fun _ _ h => ⟨⟨by rw [h.2.1], by rw [h.2.1]; exact ⟨E, e, rfl, hO, hR, hC, hT, hL, hW, hV, hM⟩⟩, (Or.inl (⟨h.1, fun q => h.2.2 q.2⟩))⟩) rfl rfl (Nat.le_of_ble_eq_true rfl) hRR ⟨(Nat.le_of_ble_eq_true rfl), (Nat.le_of_ble_eq_true rfl)⟩ dX10_addWork_7 (fun z hp => ?_)
  obtain ⟨rfl, j7, h7, rfl⟩ := hp
  refine kv_iload_n X 3 dX10_addWork_10 rfl rfl ?_
  refine kv_iconst (v := 1) X dX10_addWork_11 (by decide) ?_
  refine kv_bipush (v := 99) X dX10_addWork_12 (by decide) ?_
  refine kv_callvXS (As := [.int q, .int 1, .int 99]) [] X (c_X10_checkRange l dd ks ad (cE dd E e) q 1 99) hl0 (kCS_of X 3 gX10_addWork_X10_checkRange rfl rfl rfl (by decide +kernel) hRR ⟨(Nat.le_of_ble_eq_true rfl), (Nat.le_of_ble_eq_true rfl)⟩) hRX ⟨(Nat.le_of_ble_eq_true rfl), (Nat.le_of_ble_eq_true rfl)⟩ (fun _ _ h => ⟨⟨by rw [h.2.1], by rw [h.2.1]; exact ⟨E, e, rfl, hO, hR, hC, hT, hL, hW, hV, hM⟩⟩, (Or.inr (Or.inl (⟨h.1, ⟨⟨⟨j2, h2, rfl⟩, ⟨j7, h7, rfl⟩⟩, h.2.2⟩⟩)))⟩) rfl rfl (Nat.le_of_ble_eq_true rfl) hRR ⟨(Nat.le_of_ble_eq_true rfl), (Nat.le_of_ble_eq_true rfl)⟩ dX10_addWork_14 (fun z hp => ?_)
  have h14 := hp
  refine kv_aload_n X 0 dX10_addWork_17 rfl rfl ?_
  refine kv_iload_n X 1 dX10_addWork_18 rfl rfl ?_
  have hcn4 := (hT.2.2 j2 h2).2.2.1
  obtain ⟨κ, hκ2⟩ : ∃ κ, (cn j2 < 4 ∧ κ = 144 + (4 * j2 + cn j2)) ∨ (cn j2 = 4 ∧ κ = 400) := (Decidable.em (cn j2 < 4)).elim (fun c => ⟨_, Or.inl ⟨c, rfl⟩⟩) (fun c => ⟨400, Or.inr ⟨by omega, rfl⟩⟩)
  refine kv_newR X (κ) (⟨RX0, TX0, tyX0, fun _ h => (List.mem_cons_of_mem _ (List.mem_append_left _ (List.mem_append_left _ (List.mem_append_left _ (List.mem_append_left _ (List.mem_append_left _ (List.mem_append_left _ (List.mem_append_left _ (List.mem_append_right _ h))))))))), tyX0_ok, (List.mem_cons_of_mem _ (List.mem_append_left _ (List.mem_append_left _ (List.mem_append_left _ (List.mem_append_left _ (List.mem_append_left _ (List.mem_append_left _ (List.mem_append_left _ (List.mem_append_left _ (List.mem_append_left _ (List.mem_of_getElem? (i := 0) rfl))))))))))), (List.mem_cons_of_mem _ (List.mem_append_left _ (List.mem_append_left _ (List.mem_append_left _ (List.mem_append_left _ (List.mem_append_left _ (List.mem_append_left _ (List.mem_append_left _ (List.mem_append_left _ (List.mem_append_left _ (List.mem_of_getElem? (i := 1) rfl))))))))))), (List.mem_cons_of_mem _ (List.mem_append_left _ (List.mem_append_left _ (List.mem_append_left _ (List.mem_append_left _ (List.mem_append_left _ (List.mem_append_left _ (List.mem_append_left _ (List.mem_append_left _ (List.mem_append_left _ (List.mem_of_getElem? (i := 2) rfl))))))))))), rfl, by decide⟩ : kN wsX10_addWork RX10 113 3 [.int 0, .int 0, .int 0] 3) hRR ⟨(Nat.le_of_ble_eq_true rfl), (Nat.le_of_ble_eq_true rfl)⟩ dX10_addWork_19 (fun ks19 ad19 E19 hs19 => ?_)
  refine kv_LS [(0, .ref (ad19 0)), (1, .int (nI j2)), (2, .int (nI j7)), (3, .int q)] [.ref (ad19 κ), .int (nI j2), .ref (ad19 0)] (by rw [hs19.2.1 (0) (by omega)]) (by rw [hs19.2.1 (0) (by omega)]) ?_
  refine kv_dup X dX10_addWork_22 rfl ?_
  refine kv_iconst (v := 2) X dX10_addWork_23 (by decide) ?_
  refine kv_iload_n X 2 dX10_addWork_24 rfl rfl ?_
  refine kv_iload_n X 3 dX10_addWork_25 rfl rfl ?_
  refine kv_callvI (κ := κ) (As := [.int 2, .int (nI j7), .int q]) [.ref (ad19 κ), .int (nI j2), .ref (ad19 0)] X (c_X0_init l dd ks19 ad19 E19 κ 2 (nI j7) q ((hs19.1 _).mpr (Or.inr rfl)) hs19.2.2.2) hl0 (kCI_of X 3 gX10_addWork_X0_init (List.mem_cons_of_mem _ (List.mem_append_left _ (List.mem_append_left _ (List.mem_append_left _ (List.mem_append_left _ (List.mem_append_left _ (List.mem_append_left _ (List.mem_append_left _ (List.mem_append_left _ (List.mem_append_left _ (List.mem_of_getElem? (i := 2) rfl))))))))))) (List.mem_cons_of_mem _ (List.mem_append_left _ (List.mem_append_left _ (List.mem_append_left _ (List.mem_append_left _ (List.mem_append_left _ (List.mem_append_left _ (List.mem_append_left _ (List.mem_append_left _ (List.mem_append_right _ (List.mem_append_left _ (List.mem_of_getElem? (i := 7) rfl)))))))))))) (List.mem_cons_of_mem _ (List.mem_append_left _ (List.mem_append_left _ (List.mem_append_left _ (List.mem_append_left _ (List.mem_append_left _ (List.mem_append_left _ (List.mem_append_left _ (List.mem_append_left _ (List.mem_append_right _ (List.mem_append_left _ (List.mem_of_getElem? (i := 8) rfl)))))))))))) rfl rfl rfl rfl (by decide +kernel) hRR ⟨(Nat.le_of_ble_eq_true rfl), (Nat.le_of_ble_eq_true rfl)⟩) rfl rfl (Nat.le_of_ble_eq_true rfl) hRR ⟨(Nat.le_of_ble_eq_true rfl), (Nat.le_of_ble_eq_true rfl)⟩ dX10_addWork_26 (fun z hp => ?_)
  have st26 : cSt dd (fun j => j = κ) (fun j => j = κ) ks ad E e ks19 ad19 (va_up E19 (κ) (.inr (3, [.int 2, .int (nI j7), .int q]))) := ⟨fun j hj => ⟨fun q => (hs19.1 j).mpr (Or.inl q), hs19.2.1 j hj⟩, fun j hj => (va_up_ne _ _ hj).trans (hs19.2.2.1 j hj)⟩
  refine kv_E (E2 := cE dd (va_up E19 (κ) (.inr (3, [.int 2, .int (nI j7), .int q]))) e) (cSt_E' st26 (fun j hj (q : j = κ) => by omega)) ?_
  have hO := cO_st st26 hO (fun j hj (q : j = κ) => by unfold vO at hj; omega) ⟨(show ¬ (0 = κ) by omega), (show ¬ (1 = κ) by omega), (show ¬ (2 = κ) by omega), (show ¬ (20 = κ) by omega), (show ¬ (21 = κ) by omega)⟩
  have hR := cR_st st26 hR (fun j hj => by unfold vR at hj; exact ⟨fun (q : j = κ) => by omega, fun (q : j = κ) => by omega⟩)
  have hC := cC_st st26 hC (fun j hj => by unfold vC at hj; exact ⟨fun (q : j = κ) => by omega, fun (q : j = κ) => by omega⟩)
  have hL := cL_st st26 hL (fun j hj => by unfold vL at hj; exact ⟨fun (q : j = κ) => by omega, fun (q : j = κ) => by omega⟩)
  have hW := cW_st st26 hW (fun j hj => by unfold vW at hj; exact ⟨fun (q : j = κ) => by omega, fun (q : j = κ) => by omega⟩)
  have hV := cV_st st26 hV (fun j hj => by unfold vV at hj; exact ⟨fun (q : j = κ) => by omega, fun (q : j = κ) => by omega⟩)
  have hM := cM_st st26 hM (fun j hj => by unfold vM at hj; exact ⟨fun (q : j = κ) => by omega, fun (q : j = κ) => by omega⟩)
  have hT := cT_st st26 hT (fun j hj => by unfold vT at hj; rcases hj with y | y | y | y | y | ⟨i, k, y1, y2, y3, y4⟩ <;> first | exact ⟨fun (q : j = κ) => by omega, fun (q : j = κ) => by omega⟩ | exact ⟨fun (q : j = κ) => by by_cases c : i = j2; (subst c; omega); omega, fun (q : j = κ) => by by_cases c : i = j2; (subst c; omega); omega⟩)
  refine kv_calliXV (ci := 13) (κ := 0) (r1 := (TX10, 3)) (As := [.int (nI j2), .ref (ad19 κ)]) [] X (c_X10_addComponent l dd ks19 ad19 (va_up E19 (κ) (.inr (3, [.int 2, .int (nI j7), .int q]))) e M nR nC nt nL nW nV nM cn nm mn me li rl on hO hR hC hT hL hW hV hM hB mI mR hmI hmR hpk j2 κ j7 2 q h2 hκ2 ((hs19.1 _).mpr (Or.inr rfl)) (va_up_self _ _ _)) hl0 (kCV_of X 2 gX10_addWork_X10_addComponent rfl rfl rfl (by decide +kernel) hRR ⟨(Nat.le_of_ble_eq_true rfl), (Nat.le_of_ble_eq_true rfl)⟩) hO.1.1 ((cE_ne (by omega)).trans hO.1.2) rfl hRX ⟨(Nat.le_of_ble_eq_true rfl), (Nat.le_of_ble_eq_true rfl)⟩ (fun _ _ h => by obtain ⟨e9, hu, hh⟩ := h; exact ⟨⟨by rw [hu]; exact (hs19.2.1 0 (by omega)), by rw [hu]; exact ⟨_, e9, rfl, hO, hR, hC, hT, hL, hW, hV, hM⟩⟩, (Or.inr (Or.inr (⟨hh.1, ⟨⟨j2, h2, rfl⟩, ⟨j7, h7, rfl⟩⟩, h14, j2, rfl, h2, hh.2⟩)))⟩) rfl rfl (Nat.le_of_ble_eq_true rfl) hRR ⟨(Nat.le_of_ble_eq_true rfl), (Nat.le_of_ble_eq_true rfl)⟩ dX10_addWork_29 (fun r z hp => ?_)
  obtain ⟨hc4, ⟨hz0, hall⟩, rfl⟩ := hp
  exact kv_ireturn X hr (Nat.le_of_ble_eq_true rfl) (Nat.le_of_ble_eq_true rfl) ⟨z, ⟨j2, j7, ⟨h2, h7, rfl, rfl, h14⟩, hc4, ⟨hz0.trans (hs19.2.1 0 (by omega)), hall⟩, rfl⟩, rfl⟩ dX10_addWork_32

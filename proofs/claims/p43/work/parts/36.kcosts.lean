/-! the estimate: costs -/
/-- what a row of units costs -/
def cou (f : Nat → Int64) (pr : Nat → Int32) (n : Nat) : Int64 := msumJ (fun r => f r * (pr r).toInt64) 0 n
theorem msb_congr {bs : Int32} {f g : Nat → Int64} : ∀ n, (∀ b, b < n → f b = g b) → msb bs f n = msb bs g n := by
  intro n
  induction n with
  | zero => intro _; rfl
  | succ n ih => intro h; rw [msb, msb, ih (fun b hb => h b (by omega)), h n (by omega)]
theorem msb_t {bs : Int32} {f : Nat → Int64} {n : Nat} (h : bs >>> (nI n &&& 31) &&& 1 = 1) : msb bs f (n + 1) = msb bs f n + f n := by rw [msb, if_pos h]
theorem msb_f {bs : Int32} {f : Nat → Int64} {n : Nat} (h : ¬ bs >>> (nI n &&& 31) &&& 1 = 1) : msb bs f (n + 1) = msb bs f n := by rw [msb, if_neg h, Int64.add_zero]
theorem mmk_up {f : Nat → Int64} {bs pc : Nat → Int32} {kd : Nat → Int64} {ex : Int64} {n : Nat} {x : Int64} (h : x = msb (bs n) (fun b => if b < 3 then kd b else if b = 3 then ex else mmk bs pc kd ex n (b - 4)) (4 + n) * (pc n).toInt64 / 100) : va_up (mset f (mmk bs pc kd ex n) n) n x = mset f (mmk bs pc kd ex (n + 1)) (n + 1) := mmk_set h
/-- what the items of a trade cost, n items -/
def ctr (tr : Nat → Int32) (f : Nat → Int64) (t : Int32) : Nat → Int64
  | 0 => 0
  | n + 1 => ctr tr f t n + (if tr n = t then f n else 0)

theorem f_X2_costOfUnits_39 : kF wsX2_costOfUnits RX2 39 5 0 := ⟨_, RX2, TX2, 9, fun _ h => (List.mem_cons_of_mem _ (List.mem_append_left _ (List.mem_append_left _ (List.mem_append_left _ (List.mem_append_left _ (List.mem_append_right _ h)))))), (List.mem_cons_of_mem _ (List.mem_append_left _ (List.mem_append_left _ (List.mem_append_left _ (List.mem_append_left _ (List.mem_append_left _ (List.mem_append_left _ (List.mem_of_getElem? (i := 0) rfl)))))))), rfl, by decide, rfl⟩
theorem f_X2_costOfUnits_59 : kF wsX2_costOfUnits RX2 59 9 0 := ⟨_, RX6, TX6, 7, fun _ h => (List.mem_cons_of_mem _ (List.mem_append_left _ (List.mem_append_left _ (List.mem_append_left _ (List.mem_append_right _ h))))), (List.mem_cons_of_mem _ (List.mem_append_left _ (List.mem_append_left _ (List.mem_append_left _ (List.mem_append_left _ (List.mem_append_left _ (List.mem_append_left _ (List.mem_of_getElem? (i := 1) rfl)))))))), rfl, by decide, rfl⟩
theorem f_X2_costOfUnits_202 : kF wsX2_costOfUnits RX2 202 10 1 := ⟨_, RX7, TX7, 4, fun _ h => (List.mem_cons_of_mem _ (List.mem_append_left _ (List.mem_append_left _ (List.mem_append_right _ h)))), (List.mem_cons_of_mem _ (List.mem_append_left _ (List.mem_append_left _ (List.mem_append_left _ (List.mem_append_left _ (List.mem_append_left _ (List.mem_append_left _ (List.mem_of_getElem? (i := 3) rfl)))))))), rfl, by decide, rfl⟩
set_option maxRecDepth 100000 in
set_option maxHeartbeats 4000000 in
theorem c_X2_costOfUnits (l : Launch) (dd : kDD) (ks : List Nat) (ad : Nat → Nat) (E : Nat → va_E) (e : eS) (M : mS) (nR nC nt nL nW nV nM : Nat) (cn nm mn me li rl : Nat → Nat) (on : Int32) (hO : cO dd ks ad E on) (hR : cR dd ks ad E M nR) (hC : cC dd ks ad E M nC mn me) (hT : cT dd ks ad E M nt cn nm) (hL : cL dd ks ad E M nL nW li) (hW : cW dd ks ad E M nW rl) (hV : cV dd ks ad E M nV) (hM : cM dd ks ad E M nM) (hB : cB M nR nC nt nL nW nV cn nm mn me li rl) (κ : Nat) (hκ : 22 ≤ κ ∧ κ ≤ 48 ∧ κ ≠ 24) : kCl l yX2_costOfUnits wsX2_costOfUnits ({ frames := 3, cells := 0, slots := 0, locals := 64 } : Room) 0 0 dd [.ref (ad 2), .ref (ad κ)] (ks, ad, (cE dd E e)) (kQl (S := eS) (fun r z => e = z ∧ r = cou (e.2 κ) (M.2.1 3) nR) (fun _ => ks) (fun _ => ad) (fun z => cE dd E z)) := by
  refine kMetl (ws' := _) (cc := cX2_costOfUnits) (maxL := 5) (rt := .long) (by decide) rfl (Nat.le_of_ble_eq_true rfl) (fun g X hr hnL hRR hl0 hkn => ?_)
  show kv dd g 0 0 0 [(0, .ref (ad 2)), (1, .ref (ad κ))] [] ks ad (cE dd E e)
  have hR12 := hR.1
  refine kv_lconst (v := 0) X dX2_costOfUnits_0 (by decide) ?_
  refine kv_lstore_n (lv2 := [(2, .long 0), (0, .ref (ad 2)), (1, .ref (ad κ))]) X dX2_costOfUnits_1 rfl (by rw [hnL]; decide) rfl ?_
  refine kv_iconst (v := 0) X dX2_costOfUnits_2 (by decide) ?_
  refine kv_istore (lv2 := [(4, .int 0), (2, .long 0), (0, .ref (ad 2)), (1, .ref (ad κ))]) X dX2_costOfUnits_3 (by rw [hnL]; decide) rfl ?_
  have L5 : ∀ (n9 i : Nat), i + n9 = nR → ∀ (_ : Unit) , kv dd g 0 0 5 [(4, .int (nI i)), (2, .long (cou (e.2 κ) (M.2.1 3) i)), (0, .ref (ad 2)), (1, .ref (ad κ))] [] ks ad (cE dd E e) := by
    intro n9
    induction n9 with
    | zero =>
      intro i hin5 _ 
      refine kv_iload X 0 dX2_costOfUnits_5 rfl ?_
      refine kv_aload_n X 2 dX2_costOfUnits_7 rfl rfl ?_
      refine kv_getfield X f_X2_costOfUnits_39 (κ := 2) (fs := [.ref (ad 1), .ref (ad 17), .ref (ad 18), .ref (ad 19), .ref (ad 20), .ref (ad 21), .ref (ad 22), .ref (ad 23), .ref (ad 24)]) (v := .ref (ad 1)) hO.2.2.1.1 ((cE_ne (by omega)).trans hO.2.2.1.2) rfl dX2_costOfUnits_8 ?_
      refine kv_getfield X f_X2_costOfUnits_59 (κ := 1) (fs := [.ref (ad 3), .ref (ad 4), .ref (ad 5), .ref (ad 6), .ref (ad 7), .ref (ad 8), .ref (ad 9)]) (v := .ref (ad 3)) hO.2.1.1 ((cE_ne (by omega)).trans hO.2.1.2) rfl dX2_costOfUnits_11 ?_
      obtain ⟨_, _, o14⟩ := kLs_obj (dd := dd) (ks := ks) (ad := ad) (E := (cE dd E e)) (kLs_cE hR.2.1 (by omega) (by omega) (fun i hi => by omega))
      refine kv_calliV (ci := 2) (κ := 3) (r1 := (TJx4a65c, 3)) (As := []) [.int (nI i)] X (c_Jx4a65c_size_8abf5 l dd ks ad (cE dd E e) (3) (10) (nR) (fun r => 64 + r) 10 (kLs_cE hR.2.1 (by omega) (by omega) (fun i hi => by omega))) hl0 (kCV_of X 0 gX2_costOfUnits_Jx4a65c_size_8abf5 rfl rfl rfl (by decide +kernel) hRR ⟨(Nat.le_of_ble_eq_true rfl), (Nat.le_of_ble_eq_true rfl)⟩) hR.2.1.1 o14 rfl rfl rfl (Nat.le_of_ble_eq_true rfl) hRR ⟨(Nat.le_of_ble_eq_true rfl), (Nat.le_of_ble_eq_true rfl)⟩ dX2_costOfUnits_14 (fun r z hp => ?_)
      obtain rfl := hp
      refine kn_icmp_ge (x := i) (y := nR) (tgt := 53) X (by omega) (by omega) dX2_costOfUnits_17 (by decide) (fun hc17 => ?_) (fun hc17 => absurd hc17 (by omega))
      refine kv_lload_n X 1 dX2_costOfUnits_53 rfl rfl ?_
      exact kv_lreturn X hr (Nat.le_of_ble_eq_true rfl) (Nat.le_of_ble_eq_true rfl) ⟨e, ⟨rfl, by rw [show i = nR by omega]⟩, rfl⟩ dX2_costOfUnits_54
    | succ n9 ih5 =>
      intro i hin5 _ 
      refine kv_iload X 0 dX2_costOfUnits_5 rfl ?_
      refine kv_aload_n X 2 dX2_costOfUnits_7 rfl rfl ?_
      refine kv_getfield X f_X2_costOfUnits_39 (κ := 2) (fs := [.ref (ad 1), .ref (ad 17), .ref (ad 18), .ref (ad 19), .ref (ad 20), .ref (ad 21), .ref (ad 22), .ref (ad 23), .ref (ad 24)]) (v := .ref (ad 1)) hO.2.2.1.1 ((cE_ne (by omega)).trans hO.2.2.1.2) rfl dX2_costOfUnits_8 ?_
      refine kv_getfield X f_X2_costOfUnits_59 (κ := 1) (fs := [.ref (ad 3), .ref (ad 4), .ref (ad 5), .ref (ad 6), .ref (ad 7), .ref (ad 8), .ref (ad 9)]) (v := .ref (ad 3)) hO.2.1.1 ((cE_ne (by omega)).trans hO.2.1.2) rfl dX2_costOfUnits_11 ?_
      obtain ⟨_, _, o14⟩ := kLs_obj (dd := dd) (ks := ks) (ad := ad) (E := (cE dd E e)) (kLs_cE hR.2.1 (by omega) (by omega) (fun i hi => by omega))
      refine kv_calliV (ci := 2) (κ := 3) (r1 := (TJx4a65c, 3)) (As := []) [.int (nI i)] X (c_Jx4a65c_size_8abf5 l dd ks ad (cE dd E e) (3) (10) (nR) (fun r => 64 + r) 10 (kLs_cE hR.2.1 (by omega) (by omega) (fun i hi => by omega))) hl0 (kCV_of X 0 gX2_costOfUnits_Jx4a65c_size_8abf5 rfl rfl rfl (by decide +kernel) hRR ⟨(Nat.le_of_ble_eq_true rfl), (Nat.le_of_ble_eq_true rfl)⟩) hR.2.1.1 o14 rfl rfl rfl (Nat.le_of_ble_eq_true rfl) hRR ⟨(Nat.le_of_ble_eq_true rfl), (Nat.le_of_ble_eq_true rfl)⟩ dX2_costOfUnits_14 (fun r z hp => ?_)
      obtain rfl := hp
      refine kn_icmp_ge (x := i) (y := nR) (tgt := 53) X (by omega) (by omega) dX2_costOfUnits_17 (by decide) (fun hc17 => absurd hc17 (by omega)) (fun hc17 => ?_)
      refine kv_lload_n X 1 dX2_costOfUnits_20 rfl rfl ?_
      refine kv_aload_n X 3 dX2_costOfUnits_21 rfl rfl ?_
      refine kv_iload X 0 dX2_costOfUnits_22 rfl ?_
      refine ke_lald X (κ) (j := i) (hO.2.2.2.1 _ (by omega) (by omega)) (by omega) (by unfold eLen; split <;> omega) dX2_costOfUnits_24 ?_
      refine kv_aload_n X 2 dX2_costOfUnits_25 rfl rfl ?_
      refine kv_getfield X f_X2_costOfUnits_39 (κ := 2) (fs := [.ref (ad 1), .ref (ad 17), .ref (ad 18), .ref (ad 19), .ref (ad 20), .ref (ad 21), .ref (ad 22), .ref (ad 23), .ref (ad 24)]) (v := .ref (ad 1)) hO.2.2.1.1 ((cE_ne (by omega)).trans hO.2.2.1.2) rfl dX2_costOfUnits_26 ?_
      refine kv_getfield X f_X2_costOfUnits_59 (κ := 1) (fs := [.ref (ad 3), .ref (ad 4), .ref (ad 5), .ref (ad 6), .ref (ad 7), .ref (ad 8), .ref (ad 9)]) (v := .ref (ad 3)) hO.2.1.1 ((cE_ne (by omega)).trans hO.2.1.2) rfl dX2_costOfUnits_29 ?_
      refine kv_iload X 0 dX2_costOfUnits_32 rfl ?_
      obtain ⟨_, _, o34⟩ := kLs_obj (dd := dd) (ks := ks) (ad := ad) (E := (cE dd E e)) (kLs_cE hR.2.1 (by omega) (by omega) (fun i hi => by omega))
      refine kv_callqV (ci := 2) (κ := 3) (r1 := (TJx4a65c, 3)) (As := [.int (nI i)]) [.long ((e.2 κ) i), .long (cou (e.2 κ) (M.2.1 3) i)] X (c_Jx4a65c_get_915e3 l dd ks ad (cE dd E e) (3) (10) (nR) (fun r => 64 + r) 10 (kLs_cE hR.2.1 (by omega) (by omega) (fun i hi => by omega)) i (by omega)) hl0 (kCV_of X 1 gX2_costOfUnits_Jx4a65c_get_915e3 rfl rfl rfl (by decide +kernel) hRR ⟨(Nat.le_of_ble_eq_true rfl), (Nat.le_of_ble_eq_true rfl)⟩) hR.2.1.1 o34 rfl rfl rfl (Nat.le_of_ble_eq_true rfl) hRR ⟨(Nat.le_of_ble_eq_true rfl), (Nat.le_of_ble_eq_true rfl)⟩ dX2_costOfUnits_34 (fun r z hp => ?_)
      obtain rfl := hp
      refine kv_topg (.ref (ad (64 + i))) rfl ?_
      refine kv_cast X (κ := 64 + i) (ci := 10) (fs := [.int (M.2.1 2 i), .int (M.2.1 3 i), .int (M.2.1 4 i), .int (M.2.1 5 i)]) (r := (RX7, TX7, 4)) (List.mem_cons_of_mem _ (List.mem_append_left _ (List.mem_append_left _ (List.mem_append_left _ (List.mem_append_left _ (List.mem_append_left _ (List.mem_append_left _ (List.mem_of_getElem? (i := 2) rfl)))))))) (hR.2.2 i (by omega)).1 ((cE_ne (by omega)).trans (hR.2.2 i (by omega)).2) rfl dX2_costOfUnits_37 ?_
      refine kv_getfield X f_X2_costOfUnits_202 (κ := 64 + i) (fs := [.int (M.2.1 2 i), .int (M.2.1 3 i), .int (M.2.1 4 i), .int (M.2.1 5 i)]) (v := .int (M.2.1 3 i)) (hR.2.2 i (by omega)).1 ((cE_ne (by omega)).trans (hR.2.2 i (by omega)).2) rfl dX2_costOfUnits_40 ?_
      refine kv_i2l X dX2_costOfUnits_43 rfl ?_
      refine kv_lmul X dX2_costOfUnits_44 ?_
      refine kv_ladd X dX2_costOfUnits_45 ?_
      refine kv_topl (cou (e.2 κ) (M.2.1 3) (i + 1)) rfl ?_
      refine kv_lstore_n (lv2 := [(2, .long (cou (e.2 κ) (M.2.1 3) (i + 1))), (4, .int (nI i)), (0, .ref (ad 2)), (1, .ref (ad κ))]) X dX2_costOfUnits_46 rfl (by rw [hnL]; decide) rfl ?_
      refine kv_iinc (j := 1) (v := (nI (i + 1))) (lv2 := [(4, .int (nI (i + 1))), (2, .long (cou (e.2 κ) (M.2.1 3) (i + 1))), (0, .ref (ad 2)), (1, .ref (ad κ))]) X dX2_costOfUnits_47 rfl (nI_add i 1) (by rw [hnL]; decide) rfl ?_
      refine kv_goto (tgt := 5) X dX2_costOfUnits_50 (by decide) ?_
      exact kv_lv [0, 1, 2, 3] rfl (ih5 (i + 1) (by omega) ())
  exact kv_lv [0, 1, 2, 3] rfl (L5 nR 0 (by omega) ())
theorem f_X2_resourceCost_33 : kF wsX2_resourceCost RX2 33 5 7 := ⟨_, RX2, TX2, 9, fun _ h => (List.mem_cons_of_mem _ (List.mem_append_left _ (List.mem_append_left _ (List.mem_append_left _ (List.mem_append_left _ (List.mem_append_right _ h)))))), (List.mem_cons_of_mem _ (List.mem_append_left _ (List.mem_append_left _ (List.mem_append_left _ (List.mem_append_left _ (List.mem_append_left _ (List.mem_of_getElem? (i := 0) rfl))))))), rfl, by decide, rfl⟩
theorem f_X2_resourceCost_39 : kF wsX2_resourceCost RX2 39 5 0 := ⟨_, RX2, TX2, 9, fun _ h => (List.mem_cons_of_mem _ (List.mem_append_left _ (List.mem_append_left _ (List.mem_append_left _ (List.mem_append_left _ (List.mem_append_right _ h)))))), (List.mem_cons_of_mem _ (List.mem_append_left _ (List.mem_append_left _ (List.mem_append_left _ (List.mem_append_left _ (List.mem_append_left _ (List.mem_of_getElem? (i := 1) rfl))))))), rfl, by decide, rfl⟩
theorem f_X2_resourceCost_59 : kF wsX2_resourceCost RX2 59 9 0 := ⟨_, RX6, TX6, 7, fun _ h => (List.mem_cons_of_mem _ (List.mem_append_left _ (List.mem_append_left _ (List.mem_append_left _ (List.mem_append_right _ h))))), (List.mem_cons_of_mem _ (List.mem_append_left _ (List.mem_append_left _ (List.mem_append_left _ (List.mem_append_left _ (List.mem_append_left _ (List.mem_of_getElem? (i := 2) rfl))))))), rfl, by decide, rfl⟩
theorem f_X2_resourceCost_202 : kF wsX2_resourceCost RX2 202 10 1 := ⟨_, RX7, TX7, 4, fun _ h => (List.mem_cons_of_mem _ (List.mem_append_left _ (List.mem_append_left _ (List.mem_append_right _ h)))), (List.mem_cons_of_mem _ (List.mem_append_left _ (List.mem_append_left _ (List.mem_append_left _ (List.mem_append_left _ (List.mem_append_left _ (List.mem_of_getElem? (i := 4) rfl))))))), rfl, by decide, rfl⟩
set_option maxRecDepth 100000 in
set_option maxHeartbeats 4000000 in
theorem c_X2_resourceCost (l : Launch) (dd : kDD) (ks : List Nat) (ad : Nat → Nat) (E : Nat → va_E) (e : eS) (M : mS) (nR nC nt nL nW nV nM : Nat) (cn nm mn me li rl : Nat → Nat) (on : Int32) (hO : cO dd ks ad E on) (hR : cR dd ks ad E M nR) (hC : cC dd ks ad E M nC mn me) (hT : cT dd ks ad E M nt cn nm) (hL : cL dd ks ad E M nL nW li) (hW : cW dd ks ad E M nW rl) (hV : cV dd ks ad E M nV) (hM : cM dd ks ad E M nM) (hB : cB M nR nC nt nL nW nV cn nm mn me li rl) (r0 : Nat) (hr0 : r0 < nR) : kCl l yX2_resourceCost wsX2_resourceCost ({ frames := 3, cells := 0, slots := 0, locals := 64 } : Room) 0 0 dd [.ref (ad 2), .int (nI r0)] (ks, ad, (cE dd E e)) (kQl (S := eS) (fun r z => e = z ∧ r = e.2 23 r0 * (M.2.1 3 r0).toInt64) (fun _ => ks) (fun _ => ad) (fun z => cE dd E z)) := by
  refine kMetl (ws' := _) (cc := cX2_resourceCost) (maxL := 2) (rt := .long) (by decide) rfl (Nat.le_of_ble_eq_true rfl) (fun g X hr hnL hRR hl0 hkn => ?_)
  show kv dd g 0 0 0 [(0, .ref (ad 2)), (1, .int (nI r0))] [] ks ad (cE dd E e)
  have hR12 := hR.1
  refine kv_aload_n X 0 dX2_resourceCost_0 rfl rfl ?_
  refine kv_getfield X f_X2_resourceCost_33 (κ := 2) (fs := [.ref (ad 1), .ref (ad 17), .ref (ad 18), .ref (ad 19), .ref (ad 20), .ref (ad 21), .ref (ad 22), .ref (ad 23), .ref (ad 24)]) (v := .ref (ad 23)) hO.2.2.1.1 ((cE_ne (by omega)).trans hO.2.2.1.2) rfl dX2_resourceCost_1 ?_
  refine kv_iload_n X 1 dX2_resourceCost_4 rfl rfl ?_
  refine ke_lald X (23) (j := r0) (hO.2.2.2.1 _ (by omega) (by omega)) (by omega) (by unfold eLen; split <;> omega) dX2_resourceCost_5 ?_
  refine kv_aload_n X 0 dX2_resourceCost_6 rfl rfl ?_
  refine kv_getfield X f_X2_resourceCost_39 (κ := 2) (fs := [.ref (ad 1), .ref (ad 17), .ref (ad 18), .ref (ad 19), .ref (ad 20), .ref (ad 21), .ref (ad 22), .ref (ad 23), .ref (ad 24)]) (v := .ref (ad 1)) hO.2.2.1.1 ((cE_ne (by omega)).trans hO.2.2.1.2) rfl dX2_resourceCost_7 ?_
  refine kv_getfield X f_X2_resourceCost_59 (κ := 1) (fs := [.ref (ad 3), .ref (ad 4), .ref (ad 5), .ref (ad 6), .ref (ad 7), .ref (ad 8), .ref (ad 9)]) (v := .ref (ad 3)) hO.2.1.1 ((cE_ne (by omega)).trans hO.2.1.2) rfl dX2_resourceCost_10 ?_
  refine kv_iload_n X 1 dX2_resourceCost_13 rfl rfl ?_
  obtain ⟨_, _, o14⟩ := kLs_obj (dd := dd) (ks := ks) (ad := ad) (E := (cE dd E e)) (kLs_cE hR.2.1 (by omega) (by omega) (fun i hi => by omega))
  refine kv_callqV (ci := 2) (κ := 3) (r1 := (TJx4a65c, 3)) (As := [.int (nI r0)]) [.long ((e.2 23) r0)] X (c_Jx4a65c_get_915e3 l dd ks ad (cE dd E e) (3) (10) (nR) (fun r => 64 + r) 10 (kLs_cE hR.2.1 (by omega) (by omega) (fun i hi => by omega)) r0 (by omega)) hl0 (kCV_of X 1 gX2_resourceCost_Jx4a65c_get_915e3 rfl rfl rfl (by decide +kernel) hRR ⟨(Nat.le_of_ble_eq_true rfl), (Nat.le_of_ble_eq_true rfl)⟩) hR.2.1.1 o14 rfl rfl rfl (Nat.le_of_ble_eq_true rfl) hRR ⟨(Nat.le_of_ble_eq_true rfl), (Nat.le_of_ble_eq_true rfl)⟩ dX2_resourceCost_14 (fun r z hp => ?_)
  obtain rfl := hp
  refine kv_topg (.ref (ad (64 + r0))) rfl ?_
  refine kv_cast X (κ := 64 + r0) (ci := 10) (fs := [.int (M.2.1 2 r0), .int (M.2.1 3 r0), .int (M.2.1 4 r0), .int (M.2.1 5 r0)]) (r := (RX7, TX7, 4)) (List.mem_cons_of_mem _ (List.mem_append_left _ (List.mem_append_left _ (List.mem_append_left _ (List.mem_append_left _ (List.mem_append_left _ (List.mem_of_getElem? (i := 3) rfl))))))) (hR.2.2 r0 (by omega)).1 ((cE_ne (by omega)).trans (hR.2.2 r0 (by omega)).2) rfl dX2_resourceCost_17 ?_
  refine kv_getfield X f_X2_resourceCost_202 (κ := 64 + r0) (fs := [.int (M.2.1 2 r0), .int (M.2.1 3 r0), .int (M.2.1 4 r0), .int (M.2.1 5 r0)]) (v := .int (M.2.1 3 r0)) (hR.2.2 r0 (by omega)).1 ((cE_ne (by omega)).trans (hR.2.2 r0 (by omega)).2) rfl dX2_resourceCost_20 ?_
  refine kv_i2l X dX2_resourceCost_23 rfl ?_
  refine kv_lmul X dX2_resourceCost_24 ?_
  exact kv_lreturn X hr (Nat.le_of_ble_eq_true rfl) (Nat.le_of_ble_eq_true rfl) ⟨e, ⟨rfl, rfl⟩, rfl⟩ dX2_resourceCost_25
theorem f_X2_packsBought_39 : kF wsX2_packsBought RX2 39 5 0 := ⟨_, RX2, TX2, 9, fun _ h => (List.mem_cons_of_mem _ (List.mem_append_left _ (List.mem_append_left _ (List.mem_append_left _ (List.mem_append_left _ (List.mem_append_left _ (List.mem_append_right _ h))))))), (List.mem_cons_of_mem _ (List.mem_append_left _ (List.mem_append_left _ (List.mem_append_left _ (List.mem_append_left _ (List.mem_append_left _ (List.mem_append_left _ (List.mem_append_left _ (List.mem_of_getElem? (i := 0) rfl))))))))), rfl, by decide, rfl⟩
theorem f_X2_packsBought_59 : kF wsX2_packsBought RX2 59 9 0 := ⟨_, RX6, TX6, 7, fun _ h => (List.mem_cons_of_mem _ (List.mem_append_left _ (List.mem_append_left _ (List.mem_append_left _ (List.mem_append_left _ (List.mem_append_right _ h)))))), (List.mem_cons_of_mem _ (List.mem_append_left _ (List.mem_append_left _ (List.mem_append_left _ (List.mem_append_left _ (List.mem_append_left _ (List.mem_append_left _ (List.mem_append_left _ (List.mem_of_getElem? (i := 1) rfl))))))))), rfl, by decide, rfl⟩
theorem f_X2_packsBought_205 : kF wsX2_packsBought RX2 205 10 3 := ⟨_, RX7, TX7, 4, fun _ h => (List.mem_cons_of_mem _ (List.mem_append_left _ (List.mem_append_left _ (List.mem_append_left _ (List.mem_append_right _ h))))), (List.mem_cons_of_mem _ (List.mem_append_left _ (List.mem_append_left _ (List.mem_append_left _ (List.mem_append_left _ (List.mem_append_left _ (List.mem_append_left _ (List.mem_append_left _ (List.mem_of_getElem? (i := 3) rfl))))))))), rfl, by decide, rfl⟩
theorem f_X2_packsBought_33 : kF wsX2_packsBought RX2 33 5 7 := ⟨_, RX2, TX2, 9, fun _ h => (List.mem_cons_of_mem _ (List.mem_append_left _ (List.mem_append_left _ (List.mem_append_left _ (List.mem_append_left _ (List.mem_append_left _ (List.mem_append_right _ h))))))), (List.mem_cons_of_mem _ (List.mem_append_left _ (List.mem_append_left _ (List.mem_append_left _ (List.mem_append_left _ (List.mem_append_left _ (List.mem_append_left _ (List.mem_append_left _ (List.mem_of_getElem? (i := 4) rfl))))))))), rfl, by decide, rfl⟩
theorem f_X2_packsBought_208 : kF wsX2_packsBought RX2 208 10 2 := ⟨_, RX7, TX7, 4, fun _ h => (List.mem_cons_of_mem _ (List.mem_append_left _ (List.mem_append_left _ (List.mem_append_left _ (List.mem_append_right _ h))))), (List.mem_cons_of_mem _ (List.mem_append_left _ (List.mem_append_left _ (List.mem_append_left _ (List.mem_append_left _ (List.mem_append_left _ (List.mem_append_left _ (List.mem_append_left _ (List.mem_of_getElem? (i := 5) rfl))))))))), rfl, by decide, rfl⟩
set_option maxRecDepth 100000 in
set_option maxHeartbeats 4000000 in
theorem c_X2_packsBought (l : Launch) (dd : kDD) (ks : List Nat) (ad : Nat → Nat) (E : Nat → va_E) (e : eS) (M : mS) (nR nC nt nL nW nV nM : Nat) (cn nm mn me li rl : Nat → Nat) (on : Int32) (hO : cO dd ks ad E on) (hR : cR dd ks ad E M nR) (hC : cC dd ks ad E M nC mn me) (hT : cT dd ks ad E M nt cn nm) (hL : cL dd ks ad E M nL nW li) (hW : cW dd ks ad E M nW rl) (hV : cV dd ks ad E M nV) (hM : cM dd ks ad E M nM) (hB : cB M nR nC nt nL nW nV cn nm mn me li rl) (r0 : Nat) (hr0 : r0 < nR) (hpk : ∀ r, r < nR → 1 ≤ M.2.1 5 r) : kCl l yX2_packsBought wsX2_packsBought ({ frames := 3, cells := 0, slots := 0, locals := 64 } : Room) 0 0 dd [.ref (ad 2), .int (nI r0)] (ks, ad, (cE dd E e)) (kQl (S := eS) (fun r z => e = z ∧ r = mpk (e.2 23 r0) (M.2.1 4 r0) (M.2.1 5 r0)) (fun _ => ks) (fun _ => ad) (fun z => cE dd E z)) := by
  refine kMetl (ws' := _) (cc := cX2_packsBought) (maxL := 5) (rt := .long) (by decide) rfl (Nat.le_of_ble_eq_true rfl) (fun g X hr hnL hRR hl0 hkn => ?_)
  show kv dd g 0 0 0 [(0, .ref (ad 2)), (1, .int (nI r0))] [] ks ad (cE dd E e)
  have hR12 := hR.1
  refine kv_aload_n X 0 dX2_packsBought_0 rfl rfl ?_
  refine kv_getfield X f_X2_packsBought_39 (κ := 2) (fs := [.ref (ad 1), .ref (ad 17), .ref (ad 18), .ref (ad 19), .ref (ad 20), .ref (ad 21), .ref (ad 22), .ref (ad 23), .ref (ad 24)]) (v := .ref (ad 1)) hO.2.2.1.1 ((cE_ne (by omega)).trans hO.2.2.1.2) rfl dX2_packsBought_1 ?_
  refine kv_getfield X f_X2_packsBought_59 (κ := 1) (fs := [.ref (ad 3), .ref (ad 4), .ref (ad 5), .ref (ad 6), .ref (ad 7), .ref (ad 8), .ref (ad 9)]) (v := .ref (ad 3)) hO.2.1.1 ((cE_ne (by omega)).trans hO.2.1.2) rfl dX2_packsBought_4 ?_
  refine kv_iload_n X 1 dX2_packsBought_7 rfl rfl ?_
  obtain ⟨_, _, o8⟩ := kLs_obj (dd := dd) (ks := ks) (ad := ad) (E := (cE dd E e)) (kLs_cE hR.2.1 (by omega) (by omega) (fun i hi => by omega))
  refine kv_callqV (ci := 2) (κ := 3) (r1 := (TJx4a65c, 3)) (As := [.int (nI r0)]) [] X (c_Jx4a65c_get_915e3 l dd ks ad (cE dd E e) (3) (10) (nR) (fun r => 64 + r) 10 (kLs_cE hR.2.1 (by omega) (by omega) (fun i hi => by omega)) r0 (by omega)) hl0 (kCV_of X 1 gX2_packsBought_Jx4a65c_get_915e3 rfl rfl rfl (by decide +kernel) hRR ⟨(Nat.le_of_ble_eq_true rfl), (Nat.le_of_ble_eq_true rfl)⟩) hR.2.1.1 o8 rfl rfl rfl (Nat.le_of_ble_eq_true rfl) hRR ⟨(Nat.le_of_ble_eq_true rfl), (Nat.le_of_ble_eq_true rfl)⟩ dX2_packsBought_8 (fun r z hp => ?_)
  obtain rfl := hp
  refine kv_topg (.ref (ad (64 + r0))) rfl ?_
  refine kv_cast X (κ := 64 + r0) (ci := 10) (fs := [.int (M.2.1 2 r0), .int (M.2.1 3 r0), .int (M.2.1 4 r0), .int (M.2.1 5 r0)]) (r := (RX7, TX7, 4)) (List.mem_cons_of_mem _ (List.mem_append_left _ (List.mem_append_left _ (List.mem_append_left _ (List.mem_append_left _ (List.mem_append_left _ (List.mem_append_left _ (List.mem_append_left _ (List.mem_of_getElem? (i := 2) rfl))))))))) (hR.2.2 r0 (by omega)).1 ((cE_ne (by omega)).trans (hR.2.2 r0 (by omega)).2) rfl dX2_packsBought_11 ?_
  refine kv_astore_n (lv2 := [(2, .ref (ad (64 + r0))), (0, .ref (ad 2)), (1, .int (nI r0))]) X dX2_packsBought_14 rfl (by rw [hnL]; decide) rfl ?_
  refine kv_aload_n X 0 dX2_packsBought_15 rfl rfl ?_
  refine kv_getfield X f_X2_packsBought_205 (κ := 64 + r0) (fs := [.int (M.2.1 2 r0), .int (M.2.1 3 r0), .int (M.2.1 4 r0), .int (M.2.1 5 r0)]) (v := .int (M.2.1 5 r0)) (hR.2.2 r0 (by omega)).1 ((cE_ne (by omega)).trans (hR.2.2 r0 (by omega)).2) rfl dX2_packsBought_16 ?_
  refine kv_iconst (v := 1) X dX2_packsBought_19 (by decide) ?_
  refine kv_icmp_ge (tgt := 25) X dX2_packsBought_20 (by decide) (fun hc20 => ?_) (fun hc20 => False.elim (hc20 (hpk r0 hr0)))
  refine kv_aload_n X 1 dX2_packsBought_25 rfl rfl ?_
  refine kv_getfield X f_X2_packsBought_33 (κ := 2) (fs := [.ref (ad 1), .ref (ad 17), .ref (ad 18), .ref (ad 19), .ref (ad 20), .ref (ad 21), .ref (ad 22), .ref (ad 23), .ref (ad 24)]) (v := .ref (ad 23)) hO.2.2.1.1 ((cE_ne (by omega)).trans hO.2.2.1.2) rfl dX2_packsBought_26 ?_
  refine kv_iload_n X 2 dX2_packsBought_29 rfl rfl ?_
  refine ke_lald X (23) (j := r0) (hO.2.2.2.1 _ (by omega) (by omega)) (by omega) (by unfold eLen; split <;> omega) dX2_packsBought_30 ?_
  refine kv_aload_n X 0 dX2_packsBought_31 rfl rfl ?_
  refine kv_getfield X f_X2_packsBought_208 (κ := 64 + r0) (fs := [.int (M.2.1 2 r0), .int (M.2.1 3 r0), .int (M.2.1 4 r0), .int (M.2.1 5 r0)]) (v := .int (M.2.1 4 r0)) (hR.2.2 r0 (by omega)).1 ((cE_ne (by omega)).trans (hR.2.2 r0 (by omega)).2) rfl dX2_packsBought_32 ?_
  refine kv_i2l X dX2_packsBought_35 rfl ?_
  refine kv_lmul X dX2_packsBought_36 ?_
  refine kv_ldc2 (v := 99) X dX2_packsBought_37 (List.mem_cons_of_mem _ (List.mem_append_left _ (List.mem_append_left _ (List.mem_append_left _ (List.mem_append_left _ (List.mem_append_left _ (List.mem_append_left _ (List.mem_append_left _ (List.mem_of_getElem? (i := 6) rfl))))))))) ?_
  refine kv_ladd X dX2_packsBought_40 ?_
  refine kv_ldc2 (v := 100) X dX2_packsBought_41 (List.mem_cons_of_mem _ (List.mem_append_left _ (List.mem_append_left _ (List.mem_append_left _ (List.mem_append_left _ (List.mem_append_left _ (List.mem_append_left _ (List.mem_append_left _ (List.mem_of_getElem? (i := 7) rfl))))))))) ?_
  refine kv_ldiv X dX2_packsBought_44 (by decide) ?_
  refine kv_lstore_n (lv2 := [(3, .long (((((e.2 23) r0) * ((M.2.1 4 r0).toInt64)) + 99) / 100)), (2, .ref (ad (64 + r0))), (0, .ref (ad 2)), (1, .int (nI r0))]) X dX2_packsBought_45 rfl (by rw [hnL]; decide) rfl ?_
  refine kv_aload_n X 2 dX2_packsBought_46 rfl rfl ?_
  refine kv_getfield X f_X2_packsBought_33 (κ := 2) (fs := [.ref (ad 1), .ref (ad 17), .ref (ad 18), .ref (ad 19), .ref (ad 20), .ref (ad 21), .ref (ad 22), .ref (ad 23), .ref (ad 24)]) (v := .ref (ad 23)) hO.2.2.1.1 ((cE_ne (by omega)).trans hO.2.2.1.2) rfl dX2_packsBought_47 ?_
  refine kv_iload_n X 3 dX2_packsBought_50 rfl rfl ?_
  refine ke_lald X (23) (j := r0) (hO.2.2.2.1 _ (by omega) (by omega)) (by omega) (by unfold eLen; split <;> omega) dX2_packsBought_51 ?_
  refine kv_lload_n X 0 dX2_packsBought_52 rfl rfl ?_
  refine kv_ladd X dX2_packsBought_53 ?_
  refine kv_aload_n X 1 dX2_packsBought_54 rfl rfl ?_
  refine kv_getfield X f_X2_packsBought_205 (κ := 64 + r0) (fs := [.int (M.2.1 2 r0), .int (M.2.1 3 r0), .int (M.2.1 4 r0), .int (M.2.1 5 r0)]) (v := .int (M.2.1 5 r0)) (hR.2.2 r0 (by omega)).1 ((cE_ne (by omega)).trans (hR.2.2 r0 (by omega)).2) rfl dX2_packsBought_55 ?_
  refine kv_i2l X dX2_packsBought_58 rfl ?_
  refine kv_ladd X dX2_packsBought_59 ?_
  refine kv_lconst (v := 1) X dX2_packsBought_60 (by decide) ?_
  refine kv_lsub X dX2_packsBought_61 ?_
  refine kv_aload_n X 1 dX2_packsBought_62 rfl rfl ?_
  refine kv_getfield X f_X2_packsBought_205 (κ := 64 + r0) (fs := [.int (M.2.1 2 r0), .int (M.2.1 3 r0), .int (M.2.1 4 r0), .int (M.2.1 5 r0)]) (v := .int (M.2.1 5 r0)) (hR.2.2 r0 (by omega)).1 ((cE_ne (by omega)).trans (hR.2.2 r0 (by omega)).2) rfl dX2_packsBought_63 ?_
  refine kv_i2l X dX2_packsBought_66 rfl ?_
  refine kv_ldiv X dX2_packsBought_67 (i64_ne (i32_n0 (hpk r0 hr0))) ?_
  exact kv_lreturn X hr (Nat.le_of_ble_eq_true rfl) (Nat.le_of_ble_eq_true rfl) ⟨e, ⟨rfl, rfl⟩, rfl⟩ dX2_packsBought_68
theorem f_X2_kindCost_39 : kF wsX2_kindCost RX2 39 5 0 := ⟨_, RX2, TX2, 9, fun _ h => (List.mem_cons_of_mem _ (List.mem_append_left _ (List.mem_append_left _ (List.mem_append_left _ (List.mem_append_left _ (List.mem_append_right _ h)))))), (List.mem_cons_of_mem _ (List.mem_append_left _ (List.mem_append_left _ (List.mem_append_left _ (List.mem_append_left _ (List.mem_append_left _ (List.mem_append_left _ (List.mem_of_getElem? (i := 0) rfl)))))))), rfl, by decide, rfl⟩
theorem f_X2_kindCost_59 : kF wsX2_kindCost RX2 59 9 0 := ⟨_, RX6, TX6, 7, fun _ h => (List.mem_cons_of_mem _ (List.mem_append_left _ (List.mem_append_left _ (List.mem_append_left _ (List.mem_append_right _ h))))), (List.mem_cons_of_mem _ (List.mem_append_left _ (List.mem_append_left _ (List.mem_append_left _ (List.mem_append_left _ (List.mem_append_left _ (List.mem_append_left _ (List.mem_of_getElem? (i := 1) rfl)))))))), rfl, by decide, rfl⟩
theorem f_X2_kindCost_220 : kF wsX2_kindCost RX2 220 10 0 := ⟨_, RX7, TX7, 4, fun _ h => (List.mem_cons_of_mem _ (List.mem_append_left _ (List.mem_append_left _ (List.mem_append_right _ h)))), (List.mem_cons_of_mem _ (List.mem_append_left _ (List.mem_append_left _ (List.mem_append_left _ (List.mem_append_left _ (List.mem_append_left _ (List.mem_append_left _ (List.mem_of_getElem? (i := 3) rfl)))))))), rfl, by decide, rfl⟩
theorem f_X2_kindCost_33 : kF wsX2_kindCost RX2 33 5 7 := ⟨_, RX2, TX2, 9, fun _ h => (List.mem_cons_of_mem _ (List.mem_append_left _ (List.mem_append_left _ (List.mem_append_left _ (List.mem_append_left _ (List.mem_append_right _ h)))))), (List.mem_cons_of_mem _ (List.mem_append_left _ (List.mem_append_left _ (List.mem_append_left _ (List.mem_append_left _ (List.mem_append_left _ (List.mem_append_left _ (List.mem_of_getElem? (i := 4) rfl)))))))), rfl, by decide, rfl⟩
theorem f_X2_kindCost_202 : kF wsX2_kindCost RX2 202 10 1 := ⟨_, RX7, TX7, 4, fun _ h => (List.mem_cons_of_mem _ (List.mem_append_left _ (List.mem_append_left _ (List.mem_append_right _ h)))), (List.mem_cons_of_mem _ (List.mem_append_left _ (List.mem_append_left _ (List.mem_append_left _ (List.mem_append_left _ (List.mem_append_left _ (List.mem_append_left _ (List.mem_of_getElem? (i := 5) rfl)))))))), rfl, by decide, rfl⟩
set_option maxRecDepth 100000 in
set_option maxHeartbeats 4000000 in
theorem c_X2_kindCost (l : Launch) (dd : kDD) (ks : List Nat) (ad : Nat → Nat) (E : Nat → va_E) (e : eS) (M : mS) (nR nC nt nL nW nV nM : Nat) (cn nm mn me li rl : Nat → Nat) (on : Int32) (hO : cO dd ks ad E on) (hR : cR dd ks ad E M nR) (hC : cC dd ks ad E M nC mn me) (hT : cT dd ks ad E M nt cn nm) (hL : cL dd ks ad E M nL nW li) (hW : cW dd ks ad E M nW rl) (hV : cV dd ks ad E M nV) (hM : cM dd ks ad E M nM) (hB : cB M nR nC nt nL nW nV cn nm mn me li rl) (its : Int32) : kCl l yX2_kindCost wsX2_kindCost ({ frames := 3, cells := 0, slots := 0, locals := 64 } : Room) 0 0 dd [.ref (ad 2), .int its] (ks, ad, (cE dd E e)) (kQl (S := eS) (fun r z => e = z ∧ r = mkd (M.2.1 2) (e.2 23) (M.2.1 3) its nR) (fun _ => ks) (fun _ => ad) (fun z => cE dd E z)) := by
  refine kMetl (ws' := _) (cc := cX2_kindCost) (maxL := 6) (rt := .long) (by decide) rfl (Nat.le_of_ble_eq_true rfl) (fun g X hr hnL hRR hl0 hkn => ?_)
  show kv dd g 0 0 0 [(0, .ref (ad 2)), (1, .int its)] [] ks ad (cE dd E e)
  have hR12 := hR.1
  refine kv_lconst (v := 0) X dX2_kindCost_0 (by decide) ?_
  refine kv_lstore_n (lv2 := [(2, .long 0), (0, .ref (ad 2)), (1, .int its)]) X dX2_kindCost_1 rfl (by rw [hnL]; decide) rfl ?_
  refine kv_iconst (v := 0) X dX2_kindCost_2 (by decide) ?_
  refine kv_istore (lv2 := [(4, .int 0), (2, .long 0), (0, .ref (ad 2)), (1, .int its)]) X dX2_kindCost_3 (by rw [hnL]; decide) rfl ?_
  have L5 : ∀ (n9 i : Nat), i + n9 = nR → ∀ (_ : Unit) , kv dd g 0 0 5 [(4, .int (nI i)), (2, .long (mkd (M.2.1 2) (e.2 23) (M.2.1 3) its i)), (0, .ref (ad 2)), (1, .int its)] [] ks ad (cE dd E e) := by
    intro n9
    induction n9 with
    | zero =>
      intro i hin5 _ 
      refine kv_iload X 0 dX2_kindCost_5 rfl ?_
      refine kv_aload_n X 2 dX2_kindCost_7 rfl rfl ?_
      refine kv_getfield X f_X2_kindCost_39 (κ := 2) (fs := [.ref (ad 1), .ref (ad 17), .ref (ad 18), .ref (ad 19), .ref (ad 20), .ref (ad 21), .ref (ad 22), .ref (ad 23), .ref (ad 24)]) (v := .ref (ad 1)) hO.2.2.1.1 ((cE_ne (by omega)).trans hO.2.2.1.2) rfl dX2_kindCost_8 ?_
      refine kv_getfield X f_X2_kindCost_59 (κ := 1) (fs := [.ref (ad 3), .ref (ad 4), .ref (ad 5), .ref (ad 6), .ref (ad 7), .ref (ad 8), .ref (ad 9)]) (v := .ref (ad 3)) hO.2.1.1 ((cE_ne (by omega)).trans hO.2.1.2) rfl dX2_kindCost_11 ?_
      obtain ⟨_, _, o14⟩ := kLs_obj (dd := dd) (ks := ks) (ad := ad) (E := (cE dd E e)) (kLs_cE hR.2.1 (by omega) (by omega) (fun i hi => by omega))
      refine kv_calliV (ci := 2) (κ := 3) (r1 := (TJx4a65c, 3)) (As := []) [.int (nI i)] X (c_Jx4a65c_size_8abf5 l dd ks ad (cE dd E e) (3) (10) (nR) (fun r => 64 + r) 10 (kLs_cE hR.2.1 (by omega) (by omega) (fun i hi => by omega))) hl0 (kCV_of X 0 gX2_kindCost_Jx4a65c_size_8abf5 rfl rfl rfl (by decide +kernel) hRR ⟨(Nat.le_of_ble_eq_true rfl), (Nat.le_of_ble_eq_true rfl)⟩) hR.2.1.1 o14 rfl rfl rfl (Nat.le_of_ble_eq_true rfl) hRR ⟨(Nat.le_of_ble_eq_true rfl), (Nat.le_of_ble_eq_true rfl)⟩ dX2_kindCost_14 (fun r z hp => ?_)
      obtain rfl := hp
      refine kn_icmp_ge (x := i) (y := nR) (tgt := 69) X (by omega) (by omega) dX2_kindCost_17 (by decide) (fun hc17 => ?_) (fun hc17 => absurd hc17 (by omega))
      refine kv_lload_n X 1 dX2_kindCost_69 rfl rfl ?_
      exact kv_lreturn X hr (Nat.le_of_ble_eq_true rfl) (Nat.le_of_ble_eq_true rfl) ⟨e, ⟨rfl, by rw [show i = nR by omega]⟩, rfl⟩ dX2_kindCost_70
    | succ n9 ih5 =>
      intro i hin5 _ 
      refine kv_iload X 0 dX2_kindCost_5 rfl ?_
      refine kv_aload_n X 2 dX2_kindCost_7 rfl rfl ?_
      refine kv_getfield X f_X2_kindCost_39 (κ := 2) (fs := [.ref (ad 1), .ref (ad 17), .ref (ad 18), .ref (ad 19), .ref (ad 20), .ref (ad 21), .ref (ad 22), .ref (ad 23), .ref (ad 24)]) (v := .ref (ad 1)) hO.2.2.1.1 ((cE_ne (by omega)).trans hO.2.2.1.2) rfl dX2_kindCost_8 ?_
      refine kv_getfield X f_X2_kindCost_59 (κ := 1) (fs := [.ref (ad 3), .ref (ad 4), .ref (ad 5), .ref (ad 6), .ref (ad 7), .ref (ad 8), .ref (ad 9)]) (v := .ref (ad 3)) hO.2.1.1 ((cE_ne (by omega)).trans hO.2.1.2) rfl dX2_kindCost_11 ?_
      obtain ⟨_, _, o14⟩ := kLs_obj (dd := dd) (ks := ks) (ad := ad) (E := (cE dd E e)) (kLs_cE hR.2.1 (by omega) (by omega) (fun i hi => by omega))
      refine kv_calliV (ci := 2) (κ := 3) (r1 := (TJx4a65c, 3)) (As := []) [.int (nI i)] X (c_Jx4a65c_size_8abf5 l dd ks ad (cE dd E e) (3) (10) (nR) (fun r => 64 + r) 10 (kLs_cE hR.2.1 (by omega) (by omega) (fun i hi => by omega))) hl0 (kCV_of X 0 gX2_kindCost_Jx4a65c_size_8abf5 rfl rfl rfl (by decide +kernel) hRR ⟨(Nat.le_of_ble_eq_true rfl), (Nat.le_of_ble_eq_true rfl)⟩) hR.2.1.1 o14 rfl rfl rfl (Nat.le_of_ble_eq_true rfl) hRR ⟨(Nat.le_of_ble_eq_true rfl), (Nat.le_of_ble_eq_true rfl)⟩ dX2_kindCost_14 (fun r z hp => ?_)
      obtain rfl := hp
      refine kn_icmp_ge (x := i) (y := nR) (tgt := 69) X (by omega) (by omega) dX2_kindCost_17 (by decide) (fun hc17 => absurd hc17 (by omega)) (fun hc17 => ?_)
      refine kv_aload_n X 2 dX2_kindCost_20 rfl rfl ?_
      refine kv_getfield X f_X2_kindCost_39 (κ := 2) (fs := [.ref (ad 1), .ref (ad 17), .ref (ad 18), .ref (ad 19), .ref (ad 20), .ref (ad 21), .ref (ad 22), .ref (ad 23), .ref (ad 24)]) (v := .ref (ad 1)) hO.2.2.1.1 ((cE_ne (by omega)).trans hO.2.2.1.2) rfl dX2_kindCost_21 ?_
      refine kv_getfield X f_X2_kindCost_59 (κ := 1) (fs := [.ref (ad 3), .ref (ad 4), .ref (ad 5), .ref (ad 6), .ref (ad 7), .ref (ad 8), .ref (ad 9)]) (v := .ref (ad 3)) hO.2.1.1 ((cE_ne (by omega)).trans hO.2.1.2) rfl dX2_kindCost_24 ?_
      refine kv_iload X 0 dX2_kindCost_27 rfl ?_
      obtain ⟨_, _, o29⟩ := kLs_obj (dd := dd) (ks := ks) (ad := ad) (E := (cE dd E e)) (kLs_cE hR.2.1 (by omega) (by omega) (fun i hi => by omega))
      refine kv_callqV (ci := 2) (κ := 3) (r1 := (TJx4a65c, 3)) (As := [.int (nI i)]) [] X (c_Jx4a65c_get_915e3 l dd ks ad (cE dd E e) (3) (10) (nR) (fun r => 64 + r) 10 (kLs_cE hR.2.1 (by omega) (by omega) (fun i hi => by omega)) i (by omega)) hl0 (kCV_of X 1 gX2_kindCost_Jx4a65c_get_915e3 rfl rfl rfl (by decide +kernel) hRR ⟨(Nat.le_of_ble_eq_true rfl), (Nat.le_of_ble_eq_true rfl)⟩) hR.2.1.1 o29 rfl rfl rfl (Nat.le_of_ble_eq_true rfl) hRR ⟨(Nat.le_of_ble_eq_true rfl), (Nat.le_of_ble_eq_true rfl)⟩ dX2_kindCost_29 (fun r z hp => ?_)
      obtain rfl := hp
      refine kv_topg (.ref (ad (64 + i))) rfl ?_
      refine kv_cast X (κ := 64 + i) (ci := 10) (fs := [.int (M.2.1 2 i), .int (M.2.1 3 i), .int (M.2.1 4 i), .int (M.2.1 5 i)]) (r := (RX7, TX7, 4)) (List.mem_cons_of_mem _ (List.mem_append_left _ (List.mem_append_left _ (List.mem_append_left _ (List.mem_append_left _ (List.mem_append_left _ (List.mem_append_left _ (List.mem_of_getElem? (i := 2) rfl)))))))) (hR.2.2 i (by omega)).1 ((cE_ne (by omega)).trans (hR.2.2 i (by omega)).2) rfl dX2_kindCost_32 ?_
      refine kv_astore (lv2 := [(5, .ref (ad (64 + i))), (4, .int (nI i)), (2, .long (mkd (M.2.1 2) (e.2 23) (M.2.1 3) its i)), (0, .ref (ad 2)), (1, .int its)]) X dX2_kindCost_35 (by rw [hnL]; decide) rfl ?_
      refine kv_aload X 0 dX2_kindCost_37 rfl ?_
      refine kv_getfield X f_X2_kindCost_220 (κ := 64 + i) (fs := [.int (M.2.1 2 i), .int (M.2.1 3 i), .int (M.2.1 4 i), .int (M.2.1 5 i)]) (v := .int (M.2.1 2 i)) (hR.2.2 i (by omega)).1 ((cE_ne (by omega)).trans (hR.2.2 i (by omega)).2) rfl dX2_kindCost_39 ?_
      refine kv_iload_n X 4 dX2_kindCost_42 rfl rfl ?_
      refine kv_icmp_ne (tgt := 63) X dX2_kindCost_43 (by decide) (fun hc43 => ?_) (fun hc43 => ?_)
      ·
        refine kv_L [(5, .ref (ad (64 + i))), (4, .int (nI i)), (2, .long (mkd (M.2.1 2) (e.2 23) (M.2.1 3) its (i + 1))), (0, .ref (ad 2)), (1, .int its)] (by rw [mkd, if_neg hc43, Int64.add_zero]) ?_
        refine kv_iinc (j := 1) (v := (nI (i + 1))) (lv2 := [(4, .int (nI (i + 1))), (5, .ref (ad (64 + i))), (2, .long (mkd (M.2.1 2) (e.2 23) (M.2.1 3) its (i + 1))), (0, .ref (ad 2)), (1, .int its)]) X dX2_kindCost_63 rfl (nI_add i 1) (by rw [hnL]; decide) rfl ?_
        refine kv_goto (tgt := 5) X dX2_kindCost_66 (by decide) ?_
        exact kv_lv [0, 2, 3, 4] rfl (ih5 (i + 1) (by omega) ())
      ·
        refine kv_lload_n X 2 dX2_kindCost_46 rfl rfl ?_
        refine kv_aload_n X 3 dX2_kindCost_47 rfl rfl ?_
        refine kv_getfield X f_X2_kindCost_33 (κ := 2) (fs := [.ref (ad 1), .ref (ad 17), .ref (ad 18), .ref (ad 19), .ref (ad 20), .ref (ad 21), .ref (ad 22), .ref (ad 23), .ref (ad 24)]) (v := .ref (ad 23)) hO.2.2.1.1 ((cE_ne (by omega)).trans hO.2.2.1.2) rfl dX2_kindCost_48 ?_
        refine kv_iload X 1 dX2_kindCost_51 rfl ?_
        refine ke_lald X (23) (j := i) (hO.2.2.2.1 _ (by omega) (by omega)) (by omega) (by unfold eLen; split <;> omega) dX2_kindCost_53 ?_
        refine kv_aload X 0 dX2_kindCost_54 rfl ?_
        refine kv_getfield X f_X2_kindCost_202 (κ := 64 + i) (fs := [.int (M.2.1 2 i), .int (M.2.1 3 i), .int (M.2.1 4 i), .int (M.2.1 5 i)]) (v := .int (M.2.1 3 i)) (hR.2.2 i (by omega)).1 ((cE_ne (by omega)).trans (hR.2.2 i (by omega)).2) rfl dX2_kindCost_56 ?_
        refine kv_i2l X dX2_kindCost_59 rfl ?_
        refine kv_lmul X dX2_kindCost_60 ?_
        refine kv_ladd X dX2_kindCost_61 ?_
        refine kv_topl (mkd (M.2.1 2) (e.2 23) (M.2.1 3) its (i + 1)) (by rw [mkd, if_pos hc43]) ?_
        refine kv_lstore_n (lv2 := [(2, .long (mkd (M.2.1 2) (e.2 23) (M.2.1 3) its (i + 1))), (5, .ref (ad (64 + i))), (4, .int (nI i)), (0, .ref (ad 2)), (1, .int its)]) X dX2_kindCost_62 rfl (by rw [hnL]; decide) rfl ?_
        refine kv_iinc (j := 2) (v := (nI (i + 1))) (lv2 := [(4, .int (nI (i + 1))), (2, .long (mkd (M.2.1 2) (e.2 23) (M.2.1 3) its (i + 1))), (5, .ref (ad (64 + i))), (0, .ref (ad 2)), (1, .int its)]) X dX2_kindCost_63 rfl (nI_add i 1) (by rw [hnL]; decide) rfl ?_
        refine kv_goto (tgt := 5) X dX2_kindCost_66 (by decide) ?_
        exact kv_lv [0, 1, 3, 4] rfl (ih5 (i + 1) (by omega) ())
  exact kv_lv [0, 1, 2, 3] rfl (L5 nR 0 (by omega) ())
theorem f_X2_netCost_33 : kF wsX2_netCost RX2 33 5 7 := ⟨_, RX2, TX2, 9, fun _ h => (List.mem_cons_of_mem _ (List.mem_append_left _ (List.mem_append_left _ (List.mem_append_left _ (List.mem_append_left _ (List.mem_append_right _ h)))))), (List.mem_cons_of_mem _ (List.mem_append_left _ (List.mem_append_left _ (List.mem_append_left _ (List.mem_append_left _ (List.mem_append_left _ (List.mem_append_left _ (List.mem_of_getElem? (i := 0) rfl)))))))), rfl, by decide, rfl⟩
set_option maxRecDepth 100000 in
set_option maxHeartbeats 4000000 in
theorem c_X2_netCost (l : Launch) (dd : kDD) (ks : List Nat) (ad : Nat → Nat) (E : Nat → va_E) (e : eS) (M : mS) (nR nC nt nL nW nV nM : Nat) (cn nm mn me li rl : Nat → Nat) (on : Int32) (hO : cO dd ks ad E on) (hR : cR dd ks ad E M nR) (hC : cC dd ks ad E M nC mn me) (hT : cT dd ks ad E M nt cn nm) (hL : cL dd ks ad E M nL nW li) (hW : cW dd ks ad E M nW rl) (hV : cV dd ks ad E M nV) (hM : cM dd ks ad E M nM) (hB : cB M nR nC nt nL nW nV cn nm mn me li rl)  : kCl l yX2_netCost wsX2_netCost ({ frames := 4, cells := 0, slots := 0, locals := 88 } : Room) 0 0 dd [.ref (ad 2)] (ks, ad, (cE dd E e)) (kQl (S := eS) (fun r z => e = z ∧ r = cou (e.2 23) (M.2.1 3) nR) (fun _ => ks) (fun _ => ad) (fun z => cE dd E z)) := by
  refine kMetl (ws' := _) (cc := cX2_netCost) (maxL := 1) (rt := .long) (by decide) rfl (Nat.le_of_ble_eq_true rfl) (fun g X hr hnL hRR hl0 hkn => ?_)
  show kv dd g 0 0 0 [(0, .ref (ad 2))] [] ks ad (cE dd E e)
  refine kv_aload_n X 0 dX2_netCost_0 rfl rfl ?_
  refine kv_aload_n X 0 dX2_netCost_1 rfl rfl ?_
  refine kv_getfield X f_X2_netCost_33 (κ := 2) (fs := [.ref (ad 1), .ref (ad 17), .ref (ad 18), .ref (ad 19), .ref (ad 20), .ref (ad 21), .ref (ad 22), .ref (ad 23), .ref (ad 24)]) (v := .ref (ad 23)) hO.2.2.1.1 ((cE_ne (by omega)).trans hO.2.2.1.2) rfl dX2_netCost_2 ?_
  refine kv_calllV (ci := 5) (κ := 2) (r1 := (TX2, 9)) (As := [.ref (ad 23)]) [] X (c_X2_costOfUnits l dd ks ad E e M nR nC nt nL nW nV nM cn nm mn me li rl on hO hR hC hT hL hW hV hM hB (23) (by omega)) hl0 (kCV_of X 1 gX2_netCost_X2_costOfUnits rfl rfl rfl (by decide +kernel) hRR ⟨(Nat.le_of_ble_eq_true rfl), (Nat.le_of_ble_eq_true rfl)⟩) hO.2.2.1.1 ((cE_ne (by omega)).trans hO.2.2.1.2) rfl rfl rfl (Nat.le_of_ble_eq_true rfl) hRR ⟨(Nat.le_of_ble_eq_true rfl), (Nat.le_of_ble_eq_true rfl)⟩ dX2_netCost_5 (fun r z hp => ?_)
  obtain ⟨rfl, rfl⟩ := hp
  exact kv_lreturn X hr (Nat.le_of_ble_eq_true rfl) (Nat.le_of_ble_eq_true rfl) ⟨e, ⟨rfl, rfl⟩, rfl⟩ dX2_netCost_8
theorem f_X2_extraCost_39 : kF wsX2_extraCost RX2 39 5 0 := ⟨_, RX2, TX2, 9, fun _ h => (List.mem_cons_of_mem _ (List.mem_append_left _ (List.mem_append_left _ (List.mem_append_left _ (List.mem_append_left _ (List.mem_append_left _ (List.mem_append_right _ h))))))), (List.mem_cons_of_mem _ (List.mem_append_left _ (List.mem_append_left _ (List.mem_append_left _ (List.mem_append_left _ (List.mem_append_left _ (List.mem_append_left _ (List.mem_append_left _ (List.mem_of_getElem? (i := 0) rfl))))))))), rfl, by decide, rfl⟩
theorem f_X2_extraCost_59 : kF wsX2_extraCost RX2 59 9 0 := ⟨_, RX6, TX6, 7, fun _ h => (List.mem_cons_of_mem _ (List.mem_append_left _ (List.mem_append_left _ (List.mem_append_left _ (List.mem_append_left _ (List.mem_append_right _ h)))))), (List.mem_cons_of_mem _ (List.mem_append_left _ (List.mem_append_left _ (List.mem_append_left _ (List.mem_append_left _ (List.mem_append_left _ (List.mem_append_left _ (List.mem_append_left _ (List.mem_of_getElem? (i := 1) rfl))))))))), rfl, by decide, rfl⟩
theorem f_X2_extraCost_205 : kF wsX2_extraCost RX2 205 10 3 := ⟨_, RX7, TX7, 4, fun _ h => (List.mem_cons_of_mem _ (List.mem_append_left _ (List.mem_append_left _ (List.mem_append_left _ (List.mem_append_right _ h))))), (List.mem_cons_of_mem _ (List.mem_append_left _ (List.mem_append_left _ (List.mem_append_left _ (List.mem_append_left _ (List.mem_append_left _ (List.mem_append_left _ (List.mem_append_left _ (List.mem_of_getElem? (i := 3) rfl))))))))), rfl, by decide, rfl⟩
theorem f_X2_extraCost_33 : kF wsX2_extraCost RX2 33 5 7 := ⟨_, RX2, TX2, 9, fun _ h => (List.mem_cons_of_mem _ (List.mem_append_left _ (List.mem_append_left _ (List.mem_append_left _ (List.mem_append_left _ (List.mem_append_left _ (List.mem_append_right _ h))))))), (List.mem_cons_of_mem _ (List.mem_append_left _ (List.mem_append_left _ (List.mem_append_left _ (List.mem_append_left _ (List.mem_append_left _ (List.mem_append_left _ (List.mem_append_left _ (List.mem_of_getElem? (i := 4) rfl))))))))), rfl, by decide, rfl⟩
theorem f_X2_extraCost_202 : kF wsX2_extraCost RX2 202 10 1 := ⟨_, RX7, TX7, 4, fun _ h => (List.mem_cons_of_mem _ (List.mem_append_left _ (List.mem_append_left _ (List.mem_append_left _ (List.mem_append_right _ h))))), (List.mem_cons_of_mem _ (List.mem_append_left _ (List.mem_append_left _ (List.mem_append_left _ (List.mem_append_left _ (List.mem_append_left _ (List.mem_append_left _ (List.mem_append_left _ (List.mem_of_getElem? (i := 5) rfl))))))))), rfl, by decide, rfl⟩
set_option maxRecDepth 100000 in
set_option maxHeartbeats 4000000 in
theorem c_X2_extraCost (l : Launch) (dd : kDD) (ks : List Nat) (ad : Nat → Nat) (E : Nat → va_E) (e : eS) (M : mS) (nR nC nt nL nW nV nM : Nat) (cn nm mn me li rl : Nat → Nat) (on : Int32) (hO : cO dd ks ad E on) (hR : cR dd ks ad E M nR) (hC : cC dd ks ad E M nC mn me) (hT : cT dd ks ad E M nt cn nm) (hL : cL dd ks ad E M nL nW li) (hW : cW dd ks ad E M nW rl) (hV : cV dd ks ad E M nV) (hM : cM dd ks ad E M nM) (hB : cB M nR nC nt nL nW nV cn nm mn me li rl) (hpk : ∀ r, r < nR → 1 ≤ M.2.1 5 r) : kCl l yX2_extraCost wsX2_extraCost ({ frames := 4, cells := 0, slots := 0, locals := 88 } : Room) 0 0 dd [.ref (ad 2)] (ks, ad, (cE dd E e)) (kQl (S := eS) (fun r z => e = z ∧ r = mex (e.2 23) (M.2.1 4) (M.2.1 5) (M.2.1 3) nR) (fun _ => ks) (fun _ => ad) (fun z => cE dd E z)) := by
  refine kMetl (ws' := _) (cc := cX2_extraCost) (maxL := 7) (rt := .long) (by decide) rfl (Nat.le_of_ble_eq_true rfl) (fun g X hr hnL hRR hl0 hkn => ?_)
  show kv dd g 0 0 0 [(0, .ref (ad 2))] [] ks ad (cE dd E e)
  have hR12 := hR.1
  refine kv_lconst (v := 0) X dX2_extraCost_0 (by decide) ?_
  refine kv_lstore_n (lv2 := [(1, .long 0), (0, .ref (ad 2))]) X dX2_extraCost_1 rfl (by rw [hnL]; decide) rfl ?_
  refine kv_iconst (v := 0) X dX2_extraCost_2 (by decide) ?_
  refine kv_istore_n (lv2 := [(3, .int 0), (1, .long 0), (0, .ref (ad 2))]) X dX2_extraCost_3 rfl (by rw [hnL]; decide) rfl ?_
  have L4 : ∀ (n9 i : Nat), i + n9 = nR → ∀ (_ : Unit) , kv dd g 0 0 4 [(3, .int (nI i)), (1, .long (mex (e.2 23) (M.2.1 4) (M.2.1 5) (M.2.1 3) i)), (0, .ref (ad 2))] [] ks ad (cE dd E e) := by
    intro n9
    induction n9 with
    | zero =>
      intro i hin4 _ 
      refine kv_iload_n X 0 dX2_extraCost_4 rfl rfl ?_
      refine kv_aload_n X 2 dX2_extraCost_5 rfl rfl ?_
      refine kv_getfield X f_X2_extraCost_39 (κ := 2) (fs := [.ref (ad 1), .ref (ad 17), .ref (ad 18), .ref (ad 19), .ref (ad 20), .ref (ad 21), .ref (ad 22), .ref (ad 23), .ref (ad 24)]) (v := .ref (ad 1)) hO.2.2.1.1 ((cE_ne (by omega)).trans hO.2.2.1.2) rfl dX2_extraCost_6 ?_
      refine kv_getfield X f_X2_extraCost_59 (κ := 1) (fs := [.ref (ad 3), .ref (ad 4), .ref (ad 5), .ref (ad 6), .ref (ad 7), .ref (ad 8), .ref (ad 9)]) (v := .ref (ad 3)) hO.2.1.1 ((cE_ne (by omega)).trans hO.2.1.2) rfl dX2_extraCost_9 ?_
      obtain ⟨_, _, o12⟩ := kLs_obj (dd := dd) (ks := ks) (ad := ad) (E := (cE dd E e)) (kLs_cE hR.2.1 (by omega) (by omega) (fun i hi => by omega))
      refine kv_calliV (ci := 2) (κ := 3) (r1 := (TJx4a65c, 3)) (As := []) [.int (nI i)] X (c_Jx4a65c_size_8abf5 l dd ks ad (cE dd E e) (3) (10) (nR) (fun r => 64 + r) 10 (kLs_cE hR.2.1 (by omega) (by omega) (fun i hi => by omega))) hl0 (kCV_of X 0 gX2_extraCost_Jx4a65c_size_8abf5 rfl rfl rfl (by decide +kernel) hRR ⟨(Nat.le_of_ble_eq_true rfl), (Nat.le_of_ble_eq_true rfl)⟩) hR.2.1.1 o12 rfl rfl rfl (Nat.le_of_ble_eq_true rfl) hRR ⟨(Nat.le_of_ble_eq_true rfl), (Nat.le_of_ble_eq_true rfl)⟩ dX2_extraCost_12 (fun r z hp => ?_)
      obtain rfl := hp
      refine kn_icmp_ge (x := i) (y := nR) (tgt := 73) X (by omega) (by omega) dX2_extraCost_15 (by decide) (fun hc15 => ?_) (fun hc15 => absurd hc15 (by omega))
      refine kv_lload_n X 1 dX2_extraCost_73 rfl rfl ?_
      exact kv_lreturn X hr (Nat.le_of_ble_eq_true rfl) (Nat.le_of_ble_eq_true rfl) ⟨e, ⟨rfl, by rw [show i = nR by omega]⟩, rfl⟩ dX2_extraCost_74
    | succ n9 ih4 =>
      intro i hin4 _ 
      refine kv_iload_n X 0 dX2_extraCost_4 rfl rfl ?_
      refine kv_aload_n X 2 dX2_extraCost_5 rfl rfl ?_
      refine kv_getfield X f_X2_extraCost_39 (κ := 2) (fs := [.ref (ad 1), .ref (ad 17), .ref (ad 18), .ref (ad 19), .ref (ad 20), .ref (ad 21), .ref (ad 22), .ref (ad 23), .ref (ad 24)]) (v := .ref (ad 1)) hO.2.2.1.1 ((cE_ne (by omega)).trans hO.2.2.1.2) rfl dX2_extraCost_6 ?_
      refine kv_getfield X f_X2_extraCost_59 (κ := 1) (fs := [.ref (ad 3), .ref (ad 4), .ref (ad 5), .ref (ad 6), .ref (ad 7), .ref (ad 8), .ref (ad 9)]) (v := .ref (ad 3)) hO.2.1.1 ((cE_ne (by omega)).trans hO.2.1.2) rfl dX2_extraCost_9 ?_
      obtain ⟨_, _, o12⟩ := kLs_obj (dd := dd) (ks := ks) (ad := ad) (E := (cE dd E e)) (kLs_cE hR.2.1 (by omega) (by omega) (fun i hi => by omega))
      refine kv_calliV (ci := 2) (κ := 3) (r1 := (TJx4a65c, 3)) (As := []) [.int (nI i)] X (c_Jx4a65c_size_8abf5 l dd ks ad (cE dd E e) (3) (10) (nR) (fun r => 64 + r) 10 (kLs_cE hR.2.1 (by omega) (by omega) (fun i hi => by omega))) hl0 (kCV_of X 0 gX2_extraCost_Jx4a65c_size_8abf5 rfl rfl rfl (by decide +kernel) hRR ⟨(Nat.le_of_ble_eq_true rfl), (Nat.le_of_ble_eq_true rfl)⟩) hR.2.1.1 o12 rfl rfl rfl (Nat.le_of_ble_eq_true rfl) hRR ⟨(Nat.le_of_ble_eq_true rfl), (Nat.le_of_ble_eq_true rfl)⟩ dX2_extraCost_12 (fun r z hp => ?_)
      obtain rfl := hp
      refine kn_icmp_ge (x := i) (y := nR) (tgt := 73) X (by omega) (by omega) dX2_extraCost_15 (by decide) (fun hc15 => absurd hc15 (by omega)) (fun hc15 => ?_)
      refine kv_aload_n X 2 dX2_extraCost_18 rfl rfl ?_
      refine kv_getfield X f_X2_extraCost_39 (κ := 2) (fs := [.ref (ad 1), .ref (ad 17), .ref (ad 18), .ref (ad 19), .ref (ad 20), .ref (ad 21), .ref (ad 22), .ref (ad 23), .ref (ad 24)]) (v := .ref (ad 1)) hO.2.2.1.1 ((cE_ne (by omega)).trans hO.2.2.1.2) rfl dX2_extraCost_19 ?_
      refine kv_getfield X f_X2_extraCost_59 (κ := 1) (fs := [.ref (ad 3), .ref (ad 4), .ref (ad 5), .ref (ad 6), .ref (ad 7), .ref (ad 8), .ref (ad 9)]) (v := .ref (ad 3)) hO.2.1.1 ((cE_ne (by omega)).trans hO.2.1.2) rfl dX2_extraCost_22 ?_
      refine kv_iload_n X 0 dX2_extraCost_25 rfl rfl ?_
      obtain ⟨_, _, o26⟩ := kLs_obj (dd := dd) (ks := ks) (ad := ad) (E := (cE dd E e)) (kLs_cE hR.2.1 (by omega) (by omega) (fun i hi => by omega))
      refine kv_callqV (ci := 2) (κ := 3) (r1 := (TJx4a65c, 3)) (As := [.int (nI i)]) [] X (c_Jx4a65c_get_915e3 l dd ks ad (cE dd E e) (3) (10) (nR) (fun r => 64 + r) 10 (kLs_cE hR.2.1 (by omega) (by omega) (fun i hi => by omega)) i (by omega)) hl0 (kCV_of X 1 gX2_extraCost_Jx4a65c_get_915e3 rfl rfl rfl (by decide +kernel) hRR ⟨(Nat.le_of_ble_eq_true rfl), (Nat.le_of_ble_eq_true rfl)⟩) hR.2.1.1 o26 rfl rfl rfl (Nat.le_of_ble_eq_true rfl) hRR ⟨(Nat.le_of_ble_eq_true rfl), (Nat.le_of_ble_eq_true rfl)⟩ dX2_extraCost_26 (fun r z hp => ?_)
      obtain rfl := hp
      refine kv_topg (.ref (ad (64 + i))) rfl ?_
      refine kv_cast X (κ := 64 + i) (ci := 10) (fs := [.int (M.2.1 2 i), .int (M.2.1 3 i), .int (M.2.1 4 i), .int (M.2.1 5 i)]) (r := (RX7, TX7, 4)) (List.mem_cons_of_mem _ (List.mem_append_left _ (List.mem_append_left _ (List.mem_append_left _ (List.mem_append_left _ (List.mem_append_left _ (List.mem_append_left _ (List.mem_append_left _ (List.mem_of_getElem? (i := 2) rfl))))))))) (hR.2.2 i (by omega)).1 ((cE_ne (by omega)).trans (hR.2.2 i (by omega)).2) rfl dX2_extraCost_29 ?_
      refine kv_astore (lv2 := [(4, .ref (ad (64 + i))), (3, .int (nI i)), (1, .long (mex (e.2 23) (M.2.1 4) (M.2.1 5) (M.2.1 3) i)), (0, .ref (ad 2))]) X dX2_extraCost_32 (by rw [hnL]; decide) rfl ?_
      refine kv_aload_n X 3 dX2_extraCost_34 rfl rfl ?_
      refine kv_iload_n X 1 dX2_extraCost_35 rfl rfl ?_
      refine kv_calllV (ci := 5) (κ := 2) (r1 := (TX2, 9)) (As := [.int (nI i)]) [] X (c_X2_packsBought l dd ks ad E e M nR nC nt nL nW nV nM cn nm mn me li rl on hO hR hC hT hL hW hV hM hB i (by omega) hpk) hl0 (kCV_of X 1 gX2_extraCost_X2_packsBought rfl rfl rfl (by decide +kernel) hRR ⟨(Nat.le_of_ble_eq_true rfl), (Nat.le_of_ble_eq_true rfl)⟩) hO.2.2.1.1 ((cE_ne (by omega)).trans hO.2.2.1.2) rfl rfl rfl (Nat.le_of_ble_eq_true rfl) hRR ⟨(Nat.le_of_ble_eq_true rfl), (Nat.le_of_ble_eq_true rfl)⟩ dX2_extraCost_36 (fun r z hp => ?_)
      obtain ⟨rfl, rfl⟩ := hp
      refine kv_aload X 0 dX2_extraCost_39 rfl ?_
      refine kv_getfield X f_X2_extraCost_205 (κ := 64 + i) (fs := [.int (M.2.1 2 i), .int (M.2.1 3 i), .int (M.2.1 4 i), .int (M.2.1 5 i)]) (v := .int (M.2.1 5 i)) (hR.2.2 i (by omega)).1 ((cE_ne (by omega)).trans (hR.2.2 i (by omega)).2) rfl dX2_extraCost_41 ?_
      refine kv_i2l X dX2_extraCost_44 rfl ?_
      refine kv_lmul X dX2_extraCost_45 ?_
      refine kv_lstore (lv2 := [(5, .long ((mpk (e.2 23 i) (M.2.1 4 i) (M.2.1 5 i)) * ((M.2.1 5 i).toInt64))), (4, .ref (ad (64 + i))), (3, .int (nI i)), (1, .long (mex (e.2 23) (M.2.1 4) (M.2.1 5) (M.2.1 3) i)), (0, .ref (ad 2))]) X dX2_extraCost_46 (by rw [hnL]; decide) rfl ?_
      refine kv_lload_n X 3 dX2_extraCost_48 rfl rfl ?_
      refine kv_lload X 0 dX2_extraCost_49 rfl ?_
      refine kv_aload_n X 4 dX2_extraCost_51 rfl rfl ?_
      refine kv_getfield X f_X2_extraCost_33 (κ := 2) (fs := [.ref (ad 1), .ref (ad 17), .ref (ad 18), .ref (ad 19), .ref (ad 20), .ref (ad 21), .ref (ad 22), .ref (ad 23), .ref (ad 24)]) (v := .ref (ad 23)) hO.2.2.1.1 ((cE_ne (by omega)).trans hO.2.2.1.2) rfl dX2_extraCost_52 ?_
      refine kv_iload_n X 2 dX2_extraCost_55 rfl rfl ?_
      refine ke_lald X (23) (j := i) (hO.2.2.2.1 _ (by omega) (by omega)) (by omega) (by unfold eLen; split <;> omega) dX2_extraCost_56 ?_
      refine kv_lsub X dX2_extraCost_57 ?_
      refine kv_aload X 1 dX2_extraCost_58 rfl ?_
      refine kv_getfield X f_X2_extraCost_202 (κ := 64 + i) (fs := [.int (M.2.1 2 i), .int (M.2.1 3 i), .int (M.2.1 4 i), .int (M.2.1 5 i)]) (v := .int (M.2.1 3 i)) (hR.2.2 i (by omega)).1 ((cE_ne (by omega)).trans (hR.2.2 i (by omega)).2) rfl dX2_extraCost_60 ?_
      refine kv_i2l X dX2_extraCost_63 rfl ?_
      refine kv_lmul X dX2_extraCost_64 ?_
      refine kv_ladd X dX2_extraCost_65 ?_
      refine kv_topl (mex (e.2 23) (M.2.1 4) (M.2.1 5) (M.2.1 3) (i + 1)) rfl ?_
      refine kv_lstore_n (lv2 := [(1, .long (mex (e.2 23) (M.2.1 4) (M.2.1 5) (M.2.1 3) (i + 1))), (5, .long ((mpk (e.2 23 i) (M.2.1 4 i) (M.2.1 5 i)) * ((M.2.1 5 i).toInt64))), (4, .ref (ad (64 + i))), (3, .int (nI i)), (0, .ref (ad 2))]) X dX2_extraCost_66 rfl (by rw [hnL]; decide) rfl ?_
      refine kv_iinc (j := 3) (v := (nI (i + 1))) (lv2 := [(3, .int (nI (i + 1))), (1, .long (mex (e.2 23) (M.2.1 4) (M.2.1 5) (M.2.1 3) (i + 1))), (5, .long ((mpk (e.2 23 i) (M.2.1 4 i) (M.2.1 5 i)) * ((M.2.1 5 i).toInt64))), (4, .ref (ad (64 + i))), (0, .ref (ad 2))]) X dX2_extraCost_67 rfl (nI_add i 1) (by rw [hnL]; decide) rfl ?_
      refine kv_goto (tgt := 4) X dX2_extraCost_70 (by decide) ?_
      exact kv_lv [0, 1, 4] rfl (ih4 (i + 1) (by omega) ())
  exact kv_lv [0, 1, 2] rfl (L4 nR 0 (by omega) ())
theorem f_X2_totalCost_39 : kF wsX2_totalCost RX2 39 5 0 := ⟨_, RX2, TX2, 9, fun _ h => (List.mem_cons_of_mem _ (List.mem_append_left _ (List.mem_append_left _ (List.mem_append_left _ (List.mem_append_left _ (List.mem_append_left _ (List.mem_append_right _ h))))))), (List.mem_cons_of_mem _ (List.mem_append_left _ (List.mem_append_left _ (List.mem_append_left _ (List.mem_append_left _ (List.mem_append_left _ (List.mem_append_left _ (List.mem_append_left _ (List.mem_of_getElem? (i := 0) rfl))))))))), rfl, by decide, rfl⟩
theorem f_X2_totalCost_175 : kF wsX2_totalCost RX2 175 9 6 := ⟨_, RX6, TX6, 7, fun _ h => (List.mem_cons_of_mem _ (List.mem_append_left _ (List.mem_append_left _ (List.mem_append_left _ (List.mem_append_left _ (List.mem_append_right _ h)))))), (List.mem_cons_of_mem _ (List.mem_append_left _ (List.mem_append_left _ (List.mem_append_left _ (List.mem_append_left _ (List.mem_append_left _ (List.mem_append_left _ (List.mem_append_left _ (List.mem_of_getElem? (i := 1) rfl))))))))), rfl, by decide, rfl⟩
theorem f_X2_totalCost_36 : kF wsX2_totalCost RX2 36 5 8 := ⟨_, RX2, TX2, 9, fun _ h => (List.mem_cons_of_mem _ (List.mem_append_left _ (List.mem_append_left _ (List.mem_append_left _ (List.mem_append_left _ (List.mem_append_left _ (List.mem_append_right _ h))))))), (List.mem_cons_of_mem _ (List.mem_append_left _ (List.mem_append_left _ (List.mem_append_left _ (List.mem_append_left _ (List.mem_append_left _ (List.mem_append_left _ (List.mem_append_left _ (List.mem_of_getElem? (i := 2) rfl))))))))), rfl, by decide, rfl⟩
set_option maxRecDepth 100000 in
set_option maxHeartbeats 4000000 in
theorem c_X2_totalCost (l : Launch) (dd : kDD) (ks : List Nat) (ad : Nat → Nat) (E : Nat → va_E) (e : eS) (M : mS) (nR nC nt nL nW nV nM : Nat) (cn nm mn me li rl : Nat → Nat) (on : Int32) (hO : cO dd ks ad E on) (hR : cR dd ks ad E M nR) (hC : cC dd ks ad E M nC mn me) (hT : cT dd ks ad E M nt cn nm) (hL : cL dd ks ad E M nL nW li) (hW : cW dd ks ad E M nW rl) (hV : cV dd ks ad E M nV) (hM : cM dd ks ad E M nM) (hB : cB M nR nC nt nL nW nV cn nm mn me li rl) (hpk : ∀ r, r < nR → 1 ≤ M.2.1 5 r) : kCl l yX2_totalCost wsX2_totalCost ({ frames := 5, cells := 0, slots := 0, locals := 114 } : Room) 0 0 dd [.ref (ad 2)] (ks, ad, (cE dd E e)) (kQl (S := eS) (fun r z => e = z ∧ r = msumJ (e.2 24) (cou (e.2 23) (M.2.1 3) nR + mex (e.2 23) (M.2.1 4) (M.2.1 5) (M.2.1 3) nR) nM) (fun _ => ks) (fun _ => ad) (fun z => cE dd E z)) := by
  refine kMetl (ws' := _) (cc := cX2_totalCost) (maxL := 4) (rt := .long) (by decide) rfl (Nat.le_of_ble_eq_true rfl) (fun g X hr hnL hRR hl0 hkn => ?_)
  show kv dd g 0 0 0 [(0, .ref (ad 2))] [] ks ad (cE dd E e)
  have hM4 := hM.1
  refine kv_aload_n X 0 dX2_totalCost_0 rfl rfl ?_
  refine kv_calllV (ci := 5) (κ := 2) (r1 := (TX2, 9)) (As := []) [] X (c_X2_netCost l dd ks ad E e M nR nC nt nL nW nV nM cn nm mn me li rl on hO hR hC hT hL hW hV hM hB ) hl0 (kCV_of X 0 gX2_totalCost_X2_netCost rfl rfl rfl (by decide +kernel) hRR ⟨(Nat.le_of_ble_eq_true rfl), (Nat.le_of_ble_eq_true rfl)⟩) hO.2.2.1.1 ((cE_ne (by omega)).trans hO.2.2.1.2) rfl rfl rfl (Nat.le_of_ble_eq_true rfl) hRR ⟨(Nat.le_of_ble_eq_true rfl), (Nat.le_of_ble_eq_true rfl)⟩ dX2_totalCost_1 (fun r z hp => ?_)
  obtain ⟨rfl, rfl⟩ := hp
  refine kv_aload_n X 0 dX2_totalCost_4 rfl rfl ?_
  refine kv_calllV (ci := 5) (κ := 2) (r1 := (TX2, 9)) (As := []) [.long (cou (e.2 23) (M.2.1 3) nR)] X (c_X2_extraCost l dd ks ad E e M nR nC nt nL nW nV nM cn nm mn me li rl on hO hR hC hT hL hW hV hM hB hpk) hl0 (kCV_of X 0 gX2_totalCost_X2_extraCost rfl rfl rfl (by decide +kernel) hRR ⟨(Nat.le_of_ble_eq_true rfl), (Nat.le_of_ble_eq_true rfl)⟩) hO.2.2.1.1 ((cE_ne (by omega)).trans hO.2.2.1.2) rfl rfl rfl (Nat.le_of_ble_eq_true rfl) hRR ⟨(Nat.le_of_ble_eq_true rfl), (Nat.le_of_ble_eq_true rfl)⟩ dX2_totalCost_5 (fun r z hp => ?_)
  obtain ⟨rfl, rfl⟩ := hp
  refine kv_ladd X dX2_totalCost_8 ?_
  refine kv_lstore_n (lv2 := [(1, .long ((cou (e.2 23) (M.2.1 3) nR) + (mex (e.2 23) (M.2.1 4) (M.2.1 5) (M.2.1 3) nR))), (0, .ref (ad 2))]) X dX2_totalCost_9 rfl (by rw [hnL]; decide) rfl ?_
  refine kv_iconst (v := 0) X dX2_totalCost_10 (by decide) ?_
  refine kv_istore_n (lv2 := [(3, .int 0), (1, .long ((cou (e.2 23) (M.2.1 3) nR) + (mex (e.2 23) (M.2.1 4) (M.2.1 5) (M.2.1 3) nR))), (0, .ref (ad 2))]) X dX2_totalCost_11 rfl (by rw [hnL]; decide) rfl ?_
  have L12 : ∀ (n9 i : Nat), i + n9 = nM → ∀ (_ : Unit) , kv dd g 0 0 12 [(3, .int (nI i)), (1, .long (msumJ (e.2 24) (cou (e.2 23) (M.2.1 3) nR + mex (e.2 23) (M.2.1 4) (M.2.1 5) (M.2.1 3) nR) i)), (0, .ref (ad 2))] [] ks ad (cE dd E e) := by
    intro n9
    induction n9 with
    | zero =>
      intro i hin12 _ 
      refine kv_iload_n X 0 dX2_totalCost_12 rfl rfl ?_
      refine kv_aload_n X 2 dX2_totalCost_13 rfl rfl ?_
      refine kv_getfield X f_X2_totalCost_39 (κ := 2) (fs := [.ref (ad 1), .ref (ad 17), .ref (ad 18), .ref (ad 19), .ref (ad 20), .ref (ad 21), .ref (ad 22), .ref (ad 23), .ref (ad 24)]) (v := .ref (ad 1)) hO.2.2.1.1 ((cE_ne (by omega)).trans hO.2.2.1.2) rfl dX2_totalCost_14 ?_
      refine kv_getfield X f_X2_totalCost_175 (κ := 1) (fs := [.ref (ad 3), .ref (ad 4), .ref (ad 5), .ref (ad 6), .ref (ad 7), .ref (ad 8), .ref (ad 9)]) (v := .ref (ad 9)) hO.2.1.1 ((cE_ne (by omega)).trans hO.2.1.2) rfl dX2_totalCost_17 ?_
      obtain ⟨_, _, o20⟩ := kLs_obj (dd := dd) (ks := ks) (ad := ad) (E := (cE dd E e)) (kLs_cE hM.2.1 (by omega) (by omega) (fun i hi => by omega))
      refine kv_calliV (ci := 2) (κ := 9) (r1 := (TJx4a65c, 3)) (As := []) [.int (nI i)] X (c_Jx4a65c_size_8abf5 l dd ks ad (cE dd E e) (9) (16) (nM) (fun m => 288 + m) 8 (kLs_cE hM.2.1 (by omega) (by omega) (fun i hi => by omega))) hl0 (kCV_of X 0 gX2_totalCost_Jx4a65c_size_8abf5 rfl rfl rfl (by decide +kernel) hRR ⟨(Nat.le_of_ble_eq_true rfl), (Nat.le_of_ble_eq_true rfl)⟩) hM.2.1.1 o20 rfl rfl rfl (Nat.le_of_ble_eq_true rfl) hRR ⟨(Nat.le_of_ble_eq_true rfl), (Nat.le_of_ble_eq_true rfl)⟩ dX2_totalCost_20 (fun r z hp => ?_)
      obtain rfl := hp
      refine kn_icmp_ge (x := i) (y := nM) (tgt := 41) X (by omega) (by omega) dX2_totalCost_23 (by decide) (fun hc23 => ?_) (fun hc23 => absurd hc23 (by omega))
      refine kv_lload_n X 1 dX2_totalCost_41 rfl rfl ?_
      exact kv_lreturn X hr (Nat.le_of_ble_eq_true rfl) (Nat.le_of_ble_eq_true rfl) ⟨e, ⟨rfl, by rw [show i = nM by omega]⟩, rfl⟩ dX2_totalCost_42
    | succ n9 ih12 =>
      intro i hin12 _ 
      refine kv_iload_n X 0 dX2_totalCost_12 rfl rfl ?_
      refine kv_aload_n X 2 dX2_totalCost_13 rfl rfl ?_
      refine kv_getfield X f_X2_totalCost_39 (κ := 2) (fs := [.ref (ad 1), .ref (ad 17), .ref (ad 18), .ref (ad 19), .ref (ad 20), .ref (ad 21), .ref (ad 22), .ref (ad 23), .ref (ad 24)]) (v := .ref (ad 1)) hO.2.2.1.1 ((cE_ne (by omega)).trans hO.2.2.1.2) rfl dX2_totalCost_14 ?_
      refine kv_getfield X f_X2_totalCost_175 (κ := 1) (fs := [.ref (ad 3), .ref (ad 4), .ref (ad 5), .ref (ad 6), .ref (ad 7), .ref (ad 8), .ref (ad 9)]) (v := .ref (ad 9)) hO.2.1.1 ((cE_ne (by omega)).trans hO.2.1.2) rfl dX2_totalCost_17 ?_
      obtain ⟨_, _, o20⟩ := kLs_obj (dd := dd) (ks := ks) (ad := ad) (E := (cE dd E e)) (kLs_cE hM.2.1 (by omega) (by omega) (fun i hi => by omega))
      refine kv_calliV (ci := 2) (κ := 9) (r1 := (TJx4a65c, 3)) (As := []) [.int (nI i)] X (c_Jx4a65c_size_8abf5 l dd ks ad (cE dd E e) (9) (16) (nM) (fun m => 288 + m) 8 (kLs_cE hM.2.1 (by omega) (by omega) (fun i hi => by omega))) hl0 (kCV_of X 0 gX2_totalCost_Jx4a65c_size_8abf5 rfl rfl rfl (by decide +kernel) hRR ⟨(Nat.le_of_ble_eq_true rfl), (Nat.le_of_ble_eq_true rfl)⟩) hM.2.1.1 o20 rfl rfl rfl (Nat.le_of_ble_eq_true rfl) hRR ⟨(Nat.le_of_ble_eq_true rfl), (Nat.le_of_ble_eq_true rfl)⟩ dX2_totalCost_20 (fun r z hp => ?_)
      obtain rfl := hp
      refine kn_icmp_ge (x := i) (y := nM) (tgt := 41) X (by omega) (by omega) dX2_totalCost_23 (by decide) (fun hc23 => absurd hc23 (by omega)) (fun hc23 => ?_)
      refine kv_lload_n X 1 dX2_totalCost_26 rfl rfl ?_
      refine kv_aload_n X 2 dX2_totalCost_27 rfl rfl ?_
      refine kv_getfield X f_X2_totalCost_36 (κ := 2) (fs := [.ref (ad 1), .ref (ad 17), .ref (ad 18), .ref (ad 19), .ref (ad 20), .ref (ad 21), .ref (ad 22), .ref (ad 23), .ref (ad 24)]) (v := .ref (ad 24)) hO.2.2.1.1 ((cE_ne (by omega)).trans hO.2.2.1.2) rfl dX2_totalCost_28 ?_
      refine kv_iload_n X 0 dX2_totalCost_31 rfl rfl ?_
      refine ke_lald X (24) (j := i) (hO.2.2.2.1 _ (by omega) (by omega)) (by omega) (by unfold eLen; split <;> omega) dX2_totalCost_32 ?_
      refine kv_ladd X dX2_totalCost_33 ?_
      refine kv_topl (msumJ (e.2 24) (cou (e.2 23) (M.2.1 3) nR + mex (e.2 23) (M.2.1 4) (M.2.1 5) (M.2.1 3) nR) (i + 1)) rfl ?_
      refine kv_lstore_n (lv2 := [(1, .long (msumJ (e.2 24) (cou (e.2 23) (M.2.1 3) nR + mex (e.2 23) (M.2.1 4) (M.2.1 5) (M.2.1 3) nR) (i + 1))), (3, .int (nI i)), (0, .ref (ad 2))]) X dX2_totalCost_34 rfl (by rw [hnL]; decide) rfl ?_
      refine kv_iinc (j := 1) (v := (nI (i + 1))) (lv2 := [(3, .int (nI (i + 1))), (1, .long (msumJ (e.2 24) (cou (e.2 23) (M.2.1 3) nR + mex (e.2 23) (M.2.1 4) (M.2.1 5) (M.2.1 3) nR) (i + 1))), (0, .ref (ad 2))]) X dX2_totalCost_35 rfl (nI_add i 1) (by rw [hnL]; decide) rfl ?_
      refine kv_goto (tgt := 12) X dX2_totalCost_38 (by decide) ?_
      exact kv_lv [0, 1, 2] rfl (ih12 (i + 1) (by omega) ())
  exact kv_lv [0, 1, 2] rfl (L12 nM 0 (by omega) ())
theorem f_X2_sumOfBases_36 : kF wsX2_sumOfBases RX2 36 5 8 := ⟨_, RX2, TX2, 9, fun _ h => (List.mem_cons_of_mem _ (List.mem_append_left _ (List.mem_append_left _ (List.mem_append_left _ (List.mem_append_left _ (List.mem_append_left _ (List.mem_append_right _ h))))))), (List.mem_cons_of_mem _ (List.mem_append_left _ (List.mem_append_left _ (List.mem_append_left _ (List.mem_append_left _ (List.mem_append_left _ (List.mem_append_left _ (List.mem_append_left _ (List.mem_of_getElem? (i := 0) rfl))))))))), rfl, by decide, rfl⟩
set_option maxRecDepth 100000 in
set_option maxHeartbeats 4000000 in
theorem c_X2_sumOfBases (l : Launch) (dd : kDD) (ks : List Nat) (ad : Nat → Nat) (E : Nat → va_E) (e : eS) (M : mS) (nR nC nt nL nW nV nM : Nat) (cn nm mn me li rl : Nat → Nat) (on : Int32) (hO : cO dd ks ad E on) (hR : cR dd ks ad E M nR) (hC : cC dd ks ad E M nC mn me) (hT : cT dd ks ad E M nt cn nm) (hL : cL dd ks ad E M nL nW li) (hW : cW dd ks ad E M nW rl) (hV : cV dd ks ad E M nV) (hM : cM dd ks ad E M nM) (hB : cB M nR nC nt nL nW nV cn nm mn me li rl) (bs : Int32) (j : Nat) (hj : j ≤ 4) (hpk : ∀ r, r < nR → 1 ≤ M.2.1 5 r) : kCl l yX2_sumOfBases wsX2_sumOfBases ({ frames := 5, cells := 0, slots := 0, locals := 114 } : Room) 0 0 dd [.ref (ad 2), .int bs, .int (nI j)] (ks, ad, (cE dd E e)) (kQl (S := eS) (fun r z => e = z ∧ r = msb bs (fun b => if b < 3 then mkd (M.2.1 2) (e.2 23) (M.2.1 3) (nI b) nR else if b = 3 then mex (e.2 23) (M.2.1 4) (M.2.1 5) (M.2.1 3) nR else e.2 24 (b - 4)) (4 + j)) (fun _ => ks) (fun _ => ad) (fun z => cE dd E z)) := by
  refine kMetl (ws' := _) (cc := cX2_sumOfBases) (maxL := 6) (rt := .long) (by decide) rfl (Nat.le_of_ble_eq_true rfl) (fun g X hr hnL hRR hl0 hkn => ?_)
  show kv dd g 0 0 0 [(0, .ref (ad 2)), (1, .int bs), (2, .int (nI j))] [] ks ad (cE dd E e)
  refine kv_lconst (v := 0) X dX2_sumOfBases_0 (by decide) ?_
  refine kv_lstore_n (lv2 := [(3, .long 0), (0, .ref (ad 2)), (1, .int bs), (2, .int (nI j))]) X dX2_sumOfBases_1 rfl (by rw [hnL]; decide) rfl ?_
  refine kv_iconst (v := 0) X dX2_sumOfBases_2 (by decide) ?_
  refine kv_istore (lv2 := [(5, .int 0), (3, .long 0), (0, .ref (ad 2)), (1, .int bs), (2, .int (nI j))]) X dX2_sumOfBases_3 (by rw [hnL]; decide) rfl ?_
  have L5 : ∀ (n9 i : Nat), i + n9 = 3 → ∀ (_ : Unit) , kv dd g 0 0 5 [(5, .int (nI i)), (3, .long (msb bs (fun b => if b < 3 then mkd (M.2.1 2) (e.2 23) (M.2.1 3) (nI b) nR else if b = 3 then mex (e.2 23) (M.2.1 4) (M.2.1 5) (M.2.1 3) nR else e.2 24 (b - 4)) i)), (0, .ref (ad 2)), (1, .int bs), (2, .int (nI j))] [] ks ad (cE dd E e) := by
    intro n9
    induction n9 with
    | zero =>
      intro i hin5 _ 
      refine kv_iload X 0 dX2_sumOfBases_5 rfl ?_
      refine kv_iconst (v := 2) X dX2_sumOfBases_7 (by decide) ?_
      refine kn_icmp_gt (x := i) (y := 2) (tgt := 35) X (by omega) (by omega) dX2_sumOfBases_8 (by decide) (fun hc8 => ?_) (fun hc8 => absurd hc8 (by omega))
      refine kv_L [(5, .int (nI i)), (3, .long (msb bs (fun b => if b < 3 then mkd (M.2.1 2) (e.2 23) (M.2.1 3) (nI b) nR else if b = 3 then mex (e.2 23) (M.2.1 4) (M.2.1 5) (M.2.1 3) nR else e.2 24 (b - 4)) 3)), (0, .ref (ad 2)), (1, .int bs), (2, .int (nI j))] (by have h9 : (msb bs (fun b => if b < 3 then mkd (M.2.1 2) (e.2 23) (M.2.1 3) (nI b) nR else if b = 3 then mex (e.2 23) (M.2.1 4) (M.2.1 5) (M.2.1 3) nR else e.2 24 (b - 4)) 3) = (msb bs (fun b => if b < 3 then mkd (M.2.1 2) (e.2 23) (M.2.1 3) (nI b) nR else if b = 3 then mex (e.2 23) (M.2.1 4) (M.2.1 5) (M.2.1 3) nR else e.2 24 (b - 4)) i) := (by rw [show i = 3 by omega]); rw [h9]) ?_
      refine kv_iload_n X 3 dX2_sumOfBases_35 rfl rfl ?_
      refine kv_iconst (v := 3) X dX2_sumOfBases_36 (by decide) ?_
      refine kv_calliSN (As := [.int bs, .int 3]) [] X (c_X10_hasBit l dd ks ad (cE dd E e) bs 3) hl0 (kCSN_of (host := "Takeoff") X 2 gX2_sumOfBases_X10_hasBit_n81 (List.mem_cons_of_mem _ (List.mem_append_left _ (List.mem_append_left _ (List.mem_append_left _ (List.mem_append_left _ (List.mem_append_left _ (List.mem_append_left _ (List.mem_append_left _ (List.mem_of_getElem? (i := 2) rfl))))))))) (by decide) (List.mem_cons_of_mem _ (List.mem_append_left _ (List.mem_append_left _ (List.mem_append_left _ (List.mem_append_left _ (List.mem_append_left _ (List.mem_append_left _ (List.mem_append_left _ (List.mem_of_getElem? (i := 1) rfl))))))))) rfl rfl rfl (by decide +kernel) hRR ⟨(Nat.le_of_ble_eq_true rfl), (Nat.le_of_ble_eq_true rfl)⟩) rfl rfl (Nat.le_of_ble_eq_true rfl) hRR ⟨(Nat.le_of_ble_eq_true rfl), (Nat.le_of_ble_eq_true rfl)⟩ dX2_sumOfBases_37 (fun r z hp => ?_)
      obtain ⟨hb37, rfl⟩ | ⟨hb37, rfl⟩ := hp
      ·
        refine kv_if_eq (tgt := 50) X dX2_sumOfBases_40 (by decide) (fun hc => absurd hc (by decide)) (fun hc40 => ?_)
        refine kv_lload_n X 1 dX2_sumOfBases_43 rfl rfl ?_
        refine kv_aload_n X 2 dX2_sumOfBases_44 rfl rfl ?_
        refine kv_calllV (ci := 5) (κ := 2) (r1 := (TX2, 9)) (As := []) [.long (msb bs (fun b => if b < 3 then mkd (M.2.1 2) (e.2 23) (M.2.1 3) (nI b) nR else if b = 3 then mex (e.2 23) (M.2.1 4) (M.2.1 5) (M.2.1 3) nR else e.2 24 (b - 4)) 3)] X (c_X2_extraCost l dd ks ad E e M nR nC nt nL nW nV nM cn nm mn me li rl on hO hR hC hT hL hW hV hM hB hpk) hl0 (kCV_of X 0 gX2_sumOfBases_X2_extraCost rfl rfl rfl (by decide +kernel) hRR ⟨(Nat.le_of_ble_eq_true rfl), (Nat.le_of_ble_eq_true rfl)⟩) hO.2.2.1.1 ((cE_ne (by omega)).trans hO.2.2.1.2) rfl rfl rfl (Nat.le_of_ble_eq_true rfl) hRR ⟨(Nat.le_of_ble_eq_true rfl), (Nat.le_of_ble_eq_true rfl)⟩ dX2_sumOfBases_45 (fun r z hp => ?_)
        obtain ⟨rfl, rfl⟩ := hp
        refine kv_ladd X dX2_sumOfBases_48 ?_
        refine kv_topl (msb bs (fun b => if b < 3 then mkd (M.2.1 2) (e.2 23) (M.2.1 3) (nI b) nR else if b = 3 then mex (e.2 23) (M.2.1 4) (M.2.1 5) (M.2.1 3) nR else e.2 24 (b - 4)) 4) (msb_t (n := 3) hb37).symm ?_
        refine kv_lstore_n (lv2 := [(3, .long (msb bs (fun b => if b < 3 then mkd (M.2.1 2) (e.2 23) (M.2.1 3) (nI b) nR else if b = 3 then mex (e.2 23) (M.2.1 4) (M.2.1 5) (M.2.1 3) nR else e.2 24 (b - 4)) 4)), (5, .int (nI i)), (0, .ref (ad 2)), (1, .int bs), (2, .int (nI j))]) X dX2_sumOfBases_49 rfl (by rw [hnL]; decide) rfl ?_
        refine kv_iconst (v := 0) X dX2_sumOfBases_50 (by decide) ?_
        refine kv_istore (lv2 := [(5, .int 0), (3, .long (msb bs (fun b => if b < 3 then mkd (M.2.1 2) (e.2 23) (M.2.1 3) (nI b) nR else if b = 3 then mex (e.2 23) (M.2.1 4) (M.2.1 5) (M.2.1 3) nR else e.2 24 (b - 4)) 4)), (0, .ref (ad 2)), (1, .int bs), (2, .int (nI j))]) X dX2_sumOfBases_51 (by rw [hnL]; decide) rfl ?_
        refine kv_L [(5, .int 0), (3, .long (msb bs (fun b => if b < 3 then mkd (M.2.1 2) (e.2 23) (M.2.1 3) (nI b) nR else if b = 3 then mex (e.2 23) (M.2.1 4) (M.2.1 5) (M.2.1 3) nR else e.2 24 (b - 4)) (4 + 0))), (0, .ref (ad 2)), (1, .int bs), (2, .int (nI j))] (by have h9 : (msb bs (fun b => if b < 3 then mkd (M.2.1 2) (e.2 23) (M.2.1 3) (nI b) nR else if b = 3 then mex (e.2 23) (M.2.1 4) (M.2.1 5) (M.2.1 3) nR else e.2 24 (b - 4)) (4 + 0)) = (msb bs (fun b => if b < 3 then mkd (M.2.1 2) (e.2 23) (M.2.1 3) (nI b) nR else if b = 3 then mex (e.2 23) (M.2.1 4) (M.2.1 5) (M.2.1 3) nR else e.2 24 (b - 4)) 4) := (rfl); rw [h9]) ?_
        have L53 : ∀ (n8 k : Nat), k + n8 = j → ∀ (_ : Unit) , kv dd g 0 0 53 [(5, .int (nI k)), (3, .long (msb bs (fun b => if b < 3 then mkd (M.2.1 2) (e.2 23) (M.2.1 3) (nI b) nR else if b = 3 then mex (e.2 23) (M.2.1 4) (M.2.1 5) (M.2.1 3) nR else e.2 24 (b - 4)) (4 + k))), (0, .ref (ad 2)), (1, .int bs), (2, .int (nI j))] [] ks ad (cE dd E e) := by
          intro n8
          induction n8 with
          | zero =>
            intro k hin53 _ 
            refine kv_iload X 0 dX2_sumOfBases_53 rfl ?_
            refine kv_iload_n X 4 dX2_sumOfBases_55 rfl rfl ?_
            refine kn_icmp_ge (x := k) (y := j) (tgt := 86) X (by omega) (by omega) dX2_sumOfBases_56 (by decide) (fun hc56 => ?_) (fun hc56 => absurd hc56 (by omega))
            refine kv_lload_n X 1 dX2_sumOfBases_86 rfl rfl ?_
            exact kv_lreturn X hr (Nat.le_of_ble_eq_true rfl) (Nat.le_of_ble_eq_true rfl) ⟨e, ⟨rfl, by rw [show k = j by omega]⟩, rfl⟩ dX2_sumOfBases_87
          | succ n8 ih53 =>
            intro k hin53 _ 
            refine kv_iload X 0 dX2_sumOfBases_53 rfl ?_
            refine kv_iload_n X 4 dX2_sumOfBases_55 rfl rfl ?_
            refine kn_icmp_ge (x := k) (y := j) (tgt := 86) X (by omega) (by omega) dX2_sumOfBases_56 (by decide) (fun hc56 => absurd hc56 (by omega)) (fun hc56 => ?_)
            refine kv_iload_n X 3 dX2_sumOfBases_59 rfl rfl ?_
            refine kv_iconst (v := 4) X dX2_sumOfBases_60 (by decide) ?_
            refine kv_iload X 0 dX2_sumOfBases_61 rfl ?_
            refine kv_iadd X dX2_sumOfBases_63 ?_
            refine kv_topi (nI (4 + k)) (nI_add 4 k) ?_
            refine kv_calliSN (As := [.int bs, .int (nI (4 + k))]) [] X (c_X10_hasBit l dd ks ad (cE dd E e) bs (nI (4 + k))) hl0 (kCSN_of (host := "Takeoff") X 2 gX2_sumOfBases_X10_hasBit_n81 (List.mem_cons_of_mem _ (List.mem_append_left _ (List.mem_append_left _ (List.mem_append_left _ (List.mem_append_left _ (List.mem_append_left _ (List.mem_append_left _ (List.mem_append_left _ (List.mem_of_getElem? (i := 2) rfl))))))))) (by decide) (List.mem_cons_of_mem _ (List.mem_append_left _ (List.mem_append_left _ (List.mem_append_left _ (List.mem_append_left _ (List.mem_append_left _ (List.mem_append_left _ (List.mem_append_left _ (List.mem_of_getElem? (i := 1) rfl))))))))) rfl rfl rfl (by decide +kernel) hRR ⟨(Nat.le_of_ble_eq_true rfl), (Nat.le_of_ble_eq_true rfl)⟩) rfl rfl (Nat.le_of_ble_eq_true rfl) hRR ⟨(Nat.le_of_ble_eq_true rfl), (Nat.le_of_ble_eq_true rfl)⟩ dX2_sumOfBases_64 (fun r z hp => ?_)
            obtain ⟨hb64, rfl⟩ | ⟨hb64, rfl⟩ := hp
            ·
              refine kv_if_eq (tgt := 80) X dX2_sumOfBases_67 (by decide) (fun hc => absurd hc (by decide)) (fun hc67 => ?_)
              refine kv_lload_n X 1 dX2_sumOfBases_70 rfl rfl ?_
              refine kv_aload_n X 2 dX2_sumOfBases_71 rfl rfl ?_
              refine kv_getfield X f_X2_sumOfBases_36 (κ := 2) (fs := [.ref (ad 1), .ref (ad 17), .ref (ad 18), .ref (ad 19), .ref (ad 20), .ref (ad 21), .ref (ad 22), .ref (ad 23), .ref (ad 24)]) (v := .ref (ad 24)) hO.2.2.1.1 ((cE_ne (by omega)).trans hO.2.2.1.2) rfl dX2_sumOfBases_72 ?_
              refine kv_iload X 0 dX2_sumOfBases_75 rfl ?_
              refine ke_lald X (24) (j := k) (hO.2.2.2.1 _ (by omega) (by omega)) (by omega) (by show k < eLen 24; unfold eLen; rw [if_pos rfl]; omega) dX2_sumOfBases_77 ?_
              refine kv_ladd X dX2_sumOfBases_78 ?_
              refine kv_topl (msb bs (fun b => if b < 3 then mkd (M.2.1 2) (e.2 23) (M.2.1 3) (nI b) nR else if b = 3 then mex (e.2 23) (M.2.1 4) (M.2.1 5) (M.2.1 3) nR else e.2 24 (b - 4)) (4 + (k + 1))) (by rw [show 4 + (k + 1) = (4 + k) + 1 from rfl, msb_t hb64, if_neg (show ¬ (4 + k < 3) by omega), if_neg (show ¬ (4 + k = 3) by omega), show 4 + k - 4 = k by omega]) ?_
              refine kv_lstore_n (lv2 := [(3, .long (msb bs (fun b => if b < 3 then mkd (M.2.1 2) (e.2 23) (M.2.1 3) (nI b) nR else if b = 3 then mex (e.2 23) (M.2.1 4) (M.2.1 5) (M.2.1 3) nR else e.2 24 (b - 4)) (4 + (k + 1)))), (5, .int (nI k)), (0, .ref (ad 2)), (1, .int bs), (2, .int (nI j))]) X dX2_sumOfBases_79 rfl (by rw [hnL]; decide) rfl ?_
              refine kv_iinc (j := 1) (v := (nI (k + 1))) (lv2 := [(5, .int (nI (k + 1))), (3, .long (msb bs (fun b => if b < 3 then mkd (M.2.1 2) (e.2 23) (M.2.1 3) (nI b) nR else if b = 3 then mex (e.2 23) (M.2.1 4) (M.2.1 5) (M.2.1 3) nR else e.2 24 (b - 4)) (4 + (k + 1)))), (0, .ref (ad 2)), (1, .int bs), (2, .int (nI j))]) X dX2_sumOfBases_80 rfl (nI_add k 1) (by rw [hnL]; decide) rfl ?_
              refine kv_goto (tgt := 53) X dX2_sumOfBases_83 (by decide) ?_
              exact kv_lv [0, 1, 2, 3, 4] rfl (ih53 (k + 1) (by omega) ())
            ·
              refine kv_if_eq (tgt := 80) X dX2_sumOfBases_67 (by decide) (fun hc67 => ?_) (fun hc => absurd hc (by decide))
              refine kv_L [(5, .int (nI k)), (3, .long (msb bs (fun b => if b < 3 then mkd (M.2.1 2) (e.2 23) (M.2.1 3) (nI b) nR else if b = 3 then mex (e.2 23) (M.2.1 4) (M.2.1 5) (M.2.1 3) nR else e.2 24 (b - 4)) (4 + (k + 1)))), (0, .ref (ad 2)), (1, .int bs), (2, .int (nI j))] (by have h9 : (msb bs (fun b => if b < 3 then mkd (M.2.1 2) (e.2 23) (M.2.1 3) (nI b) nR else if b = 3 then mex (e.2 23) (M.2.1 4) (M.2.1 5) (M.2.1 3) nR else e.2 24 (b - 4)) (4 + (k + 1))) = (msb bs (fun b => if b < 3 then mkd (M.2.1 2) (e.2 23) (M.2.1 3) (nI b) nR else if b = 3 then mex (e.2 23) (M.2.1 4) (M.2.1 5) (M.2.1 3) nR else e.2 24 (b - 4)) (4 + k)) := (by rw [show 4 + (k + 1) = (4 + k) + 1 from rfl, msb_f hb64]); rw [h9]) ?_
              refine kv_iinc (j := 0) (v := (nI (k + 1))) (lv2 := [(5, .int (nI (k + 1))), (3, .long (msb bs (fun b => if b < 3 then mkd (M.2.1 2) (e.2 23) (M.2.1 3) (nI b) nR else if b = 3 then mex (e.2 23) (M.2.1 4) (M.2.1 5) (M.2.1 3) nR else e.2 24 (b - 4)) (4 + (k + 1)))), (0, .ref (ad 2)), (1, .int bs), (2, .int (nI j))]) X dX2_sumOfBases_80 rfl (nI_add k 1) (by rw [hnL]; decide) rfl ?_
              refine kv_goto (tgt := 53) X dX2_sumOfBases_83 (by decide) ?_
              exact kv_lv [0, 1, 2, 3, 4] rfl (ih53 (k + 1) (by omega) ())
        exact kv_lv [0, 1, 2, 3, 4] rfl (L53 j 0 (by omega) ())
      ·
        refine kv_if_eq (tgt := 50) X dX2_sumOfBases_40 (by decide) (fun hc40 => ?_) (fun hc => absurd hc (by decide))
        refine kv_L [(5, .int (nI i)), (3, .long (msb bs (fun b => if b < 3 then mkd (M.2.1 2) (e.2 23) (M.2.1 3) (nI b) nR else if b = 3 then mex (e.2 23) (M.2.1 4) (M.2.1 5) (M.2.1 3) nR else e.2 24 (b - 4)) 4)), (0, .ref (ad 2)), (1, .int bs), (2, .int (nI j))] (by have h9 : (msb bs (fun b => if b < 3 then mkd (M.2.1 2) (e.2 23) (M.2.1 3) (nI b) nR else if b = 3 then mex (e.2 23) (M.2.1 4) (M.2.1 5) (M.2.1 3) nR else e.2 24 (b - 4)) 4) = (msb bs (fun b => if b < 3 then mkd (M.2.1 2) (e.2 23) (M.2.1 3) (nI b) nR else if b = 3 then mex (e.2 23) (M.2.1 4) (M.2.1 5) (M.2.1 3) nR else e.2 24 (b - 4)) 3) := (msb_f (n := 3) hb37); rw [h9]) ?_
        refine kv_iconst (v := 0) X dX2_sumOfBases_50 (by decide) ?_
        refine kv_istore (lv2 := [(5, .int 0), (3, .long (msb bs (fun b => if b < 3 then mkd (M.2.1 2) (e.2 23) (M.2.1 3) (nI b) nR else if b = 3 then mex (e.2 23) (M.2.1 4) (M.2.1 5) (M.2.1 3) nR else e.2 24 (b - 4)) 4)), (0, .ref (ad 2)), (1, .int bs), (2, .int (nI j))]) X dX2_sumOfBases_51 (by rw [hnL]; decide) rfl ?_
        refine kv_L [(5, .int 0), (3, .long (msb bs (fun b => if b < 3 then mkd (M.2.1 2) (e.2 23) (M.2.1 3) (nI b) nR else if b = 3 then mex (e.2 23) (M.2.1 4) (M.2.1 5) (M.2.1 3) nR else e.2 24 (b - 4)) (4 + 0))), (0, .ref (ad 2)), (1, .int bs), (2, .int (nI j))] (by have h9 : (msb bs (fun b => if b < 3 then mkd (M.2.1 2) (e.2 23) (M.2.1 3) (nI b) nR else if b = 3 then mex (e.2 23) (M.2.1 4) (M.2.1 5) (M.2.1 3) nR else e.2 24 (b - 4)) (4 + 0)) = (msb bs (fun b => if b < 3 then mkd (M.2.1 2) (e.2 23) (M.2.1 3) (nI b) nR else if b = 3 then mex (e.2 23) (M.2.1 4) (M.2.1 5) (M.2.1 3) nR else e.2 24 (b - 4)) 4) := (rfl); rw [h9]) ?_
        have L53 : ∀ (n8 k : Nat), k + n8 = j → ∀ (_ : Unit) , kv dd g 0 0 53 [(5, .int (nI k)), (3, .long (msb bs (fun b => if b < 3 then mkd (M.2.1 2) (e.2 23) (M.2.1 3) (nI b) nR else if b = 3 then mex (e.2 23) (M.2.1 4) (M.2.1 5) (M.2.1 3) nR else e.2 24 (b - 4)) (4 + k))), (0, .ref (ad 2)), (1, .int bs), (2, .int (nI j))] [] ks ad (cE dd E e) := by
          intro n8
          induction n8 with
          | zero =>
            intro k hin53 _ 
            refine kv_iload X 0 dX2_sumOfBases_53 rfl ?_
            refine kv_iload_n X 4 dX2_sumOfBases_55 rfl rfl ?_
            refine kn_icmp_ge (x := k) (y := j) (tgt := 86) X (by omega) (by omega) dX2_sumOfBases_56 (by decide) (fun hc56 => ?_) (fun hc56 => absurd hc56 (by omega))
            refine kv_lload_n X 1 dX2_sumOfBases_86 rfl rfl ?_
            exact kv_lreturn X hr (Nat.le_of_ble_eq_true rfl) (Nat.le_of_ble_eq_true rfl) ⟨e, ⟨rfl, by rw [show k = j by omega]⟩, rfl⟩ dX2_sumOfBases_87
          | succ n8 ih53 =>
            intro k hin53 _ 
            refine kv_iload X 0 dX2_sumOfBases_53 rfl ?_
            refine kv_iload_n X 4 dX2_sumOfBases_55 rfl rfl ?_
            refine kn_icmp_ge (x := k) (y := j) (tgt := 86) X (by omega) (by omega) dX2_sumOfBases_56 (by decide) (fun hc56 => absurd hc56 (by omega)) (fun hc56 => ?_)
            refine kv_iload_n X 3 dX2_sumOfBases_59 rfl rfl ?_
            refine kv_iconst (v := 4) X dX2_sumOfBases_60 (by decide) ?_
            refine kv_iload X 0 dX2_sumOfBases_61 rfl ?_
            refine kv_iadd X dX2_sumOfBases_63 ?_
            refine kv_topi (nI (4 + k)) (nI_add 4 k) ?_
            refine kv_calliSN (As := [.int bs, .int (nI (4 + k))]) [] X (c_X10_hasBit l dd ks ad (cE dd E e) bs (nI (4 + k))) hl0 (kCSN_of (host := "Takeoff") X 2 gX2_sumOfBases_X10_hasBit_n81 (List.mem_cons_of_mem _ (List.mem_append_left _ (List.mem_append_left _ (List.mem_append_left _ (List.mem_append_left _ (List.mem_append_left _ (List.mem_append_left _ (List.mem_append_left _ (List.mem_of_getElem? (i := 2) rfl))))))))) (by decide) (List.mem_cons_of_mem _ (List.mem_append_left _ (List.mem_append_left _ (List.mem_append_left _ (List.mem_append_left _ (List.mem_append_left _ (List.mem_append_left _ (List.mem_append_left _ (List.mem_of_getElem? (i := 1) rfl))))))))) rfl rfl rfl (by decide +kernel) hRR ⟨(Nat.le_of_ble_eq_true rfl), (Nat.le_of_ble_eq_true rfl)⟩) rfl rfl (Nat.le_of_ble_eq_true rfl) hRR ⟨(Nat.le_of_ble_eq_true rfl), (Nat.le_of_ble_eq_true rfl)⟩ dX2_sumOfBases_64 (fun r z hp => ?_)
            obtain ⟨hb64, rfl⟩ | ⟨hb64, rfl⟩ := hp
            ·
              refine kv_if_eq (tgt := 80) X dX2_sumOfBases_67 (by decide) (fun hc => absurd hc (by decide)) (fun hc67 => ?_)
              refine kv_lload_n X 1 dX2_sumOfBases_70 rfl rfl ?_
              refine kv_aload_n X 2 dX2_sumOfBases_71 rfl rfl ?_
              refine kv_getfield X f_X2_sumOfBases_36 (κ := 2) (fs := [.ref (ad 1), .ref (ad 17), .ref (ad 18), .ref (ad 19), .ref (ad 20), .ref (ad 21), .ref (ad 22), .ref (ad 23), .ref (ad 24)]) (v := .ref (ad 24)) hO.2.2.1.1 ((cE_ne (by omega)).trans hO.2.2.1.2) rfl dX2_sumOfBases_72 ?_
              refine kv_iload X 0 dX2_sumOfBases_75 rfl ?_
              refine ke_lald X (24) (j := k) (hO.2.2.2.1 _ (by omega) (by omega)) (by omega) (by show k < eLen 24; unfold eLen; rw [if_pos rfl]; omega) dX2_sumOfBases_77 ?_
              refine kv_ladd X dX2_sumOfBases_78 ?_
              refine kv_topl (msb bs (fun b => if b < 3 then mkd (M.2.1 2) (e.2 23) (M.2.1 3) (nI b) nR else if b = 3 then mex (e.2 23) (M.2.1 4) (M.2.1 5) (M.2.1 3) nR else e.2 24 (b - 4)) (4 + (k + 1))) (by rw [show 4 + (k + 1) = (4 + k) + 1 from rfl, msb_t hb64, if_neg (show ¬ (4 + k < 3) by omega), if_neg (show ¬ (4 + k = 3) by omega), show 4 + k - 4 = k by omega]) ?_
              refine kv_lstore_n (lv2 := [(3, .long (msb bs (fun b => if b < 3 then mkd (M.2.1 2) (e.2 23) (M.2.1 3) (nI b) nR else if b = 3 then mex (e.2 23) (M.2.1 4) (M.2.1 5) (M.2.1 3) nR else e.2 24 (b - 4)) (4 + (k + 1)))), (5, .int (nI k)), (0, .ref (ad 2)), (1, .int bs), (2, .int (nI j))]) X dX2_sumOfBases_79 rfl (by rw [hnL]; decide) rfl ?_
              refine kv_iinc (j := 1) (v := (nI (k + 1))) (lv2 := [(5, .int (nI (k + 1))), (3, .long (msb bs (fun b => if b < 3 then mkd (M.2.1 2) (e.2 23) (M.2.1 3) (nI b) nR else if b = 3 then mex (e.2 23) (M.2.1 4) (M.2.1 5) (M.2.1 3) nR else e.2 24 (b - 4)) (4 + (k + 1)))), (0, .ref (ad 2)), (1, .int bs), (2, .int (nI j))]) X dX2_sumOfBases_80 rfl (nI_add k 1) (by rw [hnL]; decide) rfl ?_
              refine kv_goto (tgt := 53) X dX2_sumOfBases_83 (by decide) ?_
              exact kv_lv [0, 1, 2, 3, 4] rfl (ih53 (k + 1) (by omega) ())
            ·
              refine kv_if_eq (tgt := 80) X dX2_sumOfBases_67 (by decide) (fun hc67 => ?_) (fun hc => absurd hc (by decide))
              refine kv_L [(5, .int (nI k)), (3, .long (msb bs (fun b => if b < 3 then mkd (M.2.1 2) (e.2 23) (M.2.1 3) (nI b) nR else if b = 3 then mex (e.2 23) (M.2.1 4) (M.2.1 5) (M.2.1 3) nR else e.2 24 (b - 4)) (4 + (k + 1)))), (0, .ref (ad 2)), (1, .int bs), (2, .int (nI j))] (by have h9 : (msb bs (fun b => if b < 3 then mkd (M.2.1 2) (e.2 23) (M.2.1 3) (nI b) nR else if b = 3 then mex (e.2 23) (M.2.1 4) (M.2.1 5) (M.2.1 3) nR else e.2 24 (b - 4)) (4 + (k + 1))) = (msb bs (fun b => if b < 3 then mkd (M.2.1 2) (e.2 23) (M.2.1 3) (nI b) nR else if b = 3 then mex (e.2 23) (M.2.1 4) (M.2.1 5) (M.2.1 3) nR else e.2 24 (b - 4)) (4 + k)) := (by rw [show 4 + (k + 1) = (4 + k) + 1 from rfl, msb_f hb64]); rw [h9]) ?_
              refine kv_iinc (j := 0) (v := (nI (k + 1))) (lv2 := [(5, .int (nI (k + 1))), (3, .long (msb bs (fun b => if b < 3 then mkd (M.2.1 2) (e.2 23) (M.2.1 3) (nI b) nR else if b = 3 then mex (e.2 23) (M.2.1 4) (M.2.1 5) (M.2.1 3) nR else e.2 24 (b - 4)) (4 + (k + 1)))), (0, .ref (ad 2)), (1, .int bs), (2, .int (nI j))]) X dX2_sumOfBases_80 rfl (nI_add k 1) (by rw [hnL]; decide) rfl ?_
              refine kv_goto (tgt := 53) X dX2_sumOfBases_83 (by decide) ?_
              exact kv_lv [0, 1, 2, 3, 4] rfl (ih53 (k + 1) (by omega) ())
        exact kv_lv [0, 1, 2, 3, 4] rfl (L53 j 0 (by omega) ())
    | succ n9 ih5 =>
      intro i hin5 _ 
      refine kv_iload X 0 dX2_sumOfBases_5 rfl ?_
      refine kv_iconst (v := 2) X dX2_sumOfBases_7 (by decide) ?_
      refine kn_icmp_gt (x := i) (y := 2) (tgt := 35) X (by omega) (by omega) dX2_sumOfBases_8 (by decide) (fun hc8 => absurd hc8 (by omega)) (fun hc8 => ?_)
      refine kv_iload_n X 3 dX2_sumOfBases_11 rfl rfl ?_
      refine kv_iload X 0 dX2_sumOfBases_12 rfl ?_
      refine kv_calliSN (As := [.int bs, .int (nI i)]) [] X (c_X10_hasBit l dd ks ad (cE dd E e) bs (nI i)) hl0 (kCSN_of (host := "Takeoff") X 2 gX2_sumOfBases_X10_hasBit_n81 (List.mem_cons_of_mem _ (List.mem_append_left _ (List.mem_append_left _ (List.mem_append_left _ (List.mem_append_left _ (List.mem_append_left _ (List.mem_append_left _ (List.mem_append_left _ (List.mem_of_getElem? (i := 2) rfl))))))))) (by decide) (List.mem_cons_of_mem _ (List.mem_append_left _ (List.mem_append_left _ (List.mem_append_left _ (List.mem_append_left _ (List.mem_append_left _ (List.mem_append_left _ (List.mem_append_left _ (List.mem_of_getElem? (i := 1) rfl))))))))) rfl rfl rfl (by decide +kernel) hRR ⟨(Nat.le_of_ble_eq_true rfl), (Nat.le_of_ble_eq_true rfl)⟩) rfl rfl (Nat.le_of_ble_eq_true rfl) hRR ⟨(Nat.le_of_ble_eq_true rfl), (Nat.le_of_ble_eq_true rfl)⟩ dX2_sumOfBases_14 (fun r z hp => ?_)
      obtain ⟨hb14, rfl⟩ | ⟨hb14, rfl⟩ := hp
      ·
        refine kv_if_eq (tgt := 29) X dX2_sumOfBases_17 (by decide) (fun hc => absurd hc (by decide)) (fun hc17 => ?_)
        refine kv_lload_n X 1 dX2_sumOfBases_20 rfl rfl ?_
        refine kv_aload_n X 2 dX2_sumOfBases_21 rfl rfl ?_
        refine kv_iload X 0 dX2_sumOfBases_22 rfl ?_
        refine kv_calllV (ci := 5) (κ := 2) (r1 := (TX2, 9)) (As := [.int (nI i)]) [.long (msb bs (fun b => if b < 3 then mkd (M.2.1 2) (e.2 23) (M.2.1 3) (nI b) nR else if b = 3 then mex (e.2 23) (M.2.1 4) (M.2.1 5) (M.2.1 3) nR else e.2 24 (b - 4)) i)] X (c_X2_kindCost l dd ks ad E e M nR nC nt nL nW nV nM cn nm mn me li rl on hO hR hC hT hL hW hV hM hB (nI i)) hl0 (kCV_of X 1 gX2_sumOfBases_X2_kindCost rfl rfl rfl (by decide +kernel) hRR ⟨(Nat.le_of_ble_eq_true rfl), (Nat.le_of_ble_eq_true rfl)⟩) hO.2.2.1.1 ((cE_ne (by omega)).trans hO.2.2.1.2) rfl rfl rfl (Nat.le_of_ble_eq_true rfl) hRR ⟨(Nat.le_of_ble_eq_true rfl), (Nat.le_of_ble_eq_true rfl)⟩ dX2_sumOfBases_24 (fun r z hp => ?_)
        obtain ⟨rfl, rfl⟩ := hp
        refine kv_ladd X dX2_sumOfBases_27 ?_
        refine kv_topl (msb bs (fun b => if b < 3 then mkd (M.2.1 2) (e.2 23) (M.2.1 3) (nI b) nR else if b = 3 then mex (e.2 23) (M.2.1 4) (M.2.1 5) (M.2.1 3) nR else e.2 24 (b - 4)) (i + 1)) (by show _ = msb bs _ (i + 1); rw [msb, if_pos hb14, if_pos (show i < 3 by omega)]) ?_
        refine kv_lstore_n (lv2 := [(3, .long (msb bs (fun b => if b < 3 then mkd (M.2.1 2) (e.2 23) (M.2.1 3) (nI b) nR else if b = 3 then mex (e.2 23) (M.2.1 4) (M.2.1 5) (M.2.1 3) nR else e.2 24 (b - 4)) (i + 1))), (5, .int (nI i)), (0, .ref (ad 2)), (1, .int bs), (2, .int (nI j))]) X dX2_sumOfBases_28 rfl (by rw [hnL]; decide) rfl ?_
        refine kv_iinc (j := 1) (v := (nI (i + 1))) (lv2 := [(5, .int (nI (i + 1))), (3, .long (msb bs (fun b => if b < 3 then mkd (M.2.1 2) (e.2 23) (M.2.1 3) (nI b) nR else if b = 3 then mex (e.2 23) (M.2.1 4) (M.2.1 5) (M.2.1 3) nR else e.2 24 (b - 4)) (i + 1))), (0, .ref (ad 2)), (1, .int bs), (2, .int (nI j))]) X dX2_sumOfBases_29 rfl (nI_add i 1) (by rw [hnL]; decide) rfl ?_
        refine kv_goto (tgt := 5) X dX2_sumOfBases_32 (by decide) ?_
        exact kv_lv [0, 1, 2, 3, 4] rfl (ih5 (i + 1) (by omega) ())
      ·
        refine kv_if_eq (tgt := 29) X dX2_sumOfBases_17 (by decide) (fun hc17 => ?_) (fun hc => absurd hc (by decide))
        refine kv_L [(5, .int (nI i)), (3, .long (msb bs (fun b => if b < 3 then mkd (M.2.1 2) (e.2 23) (M.2.1 3) (nI b) nR else if b = 3 then mex (e.2 23) (M.2.1 4) (M.2.1 5) (M.2.1 3) nR else e.2 24 (b - 4)) (i + 1))), (0, .ref (ad 2)), (1, .int bs), (2, .int (nI j))] (by have h9 : (msb bs (fun b => if b < 3 then mkd (M.2.1 2) (e.2 23) (M.2.1 3) (nI b) nR else if b = 3 then mex (e.2 23) (M.2.1 4) (M.2.1 5) (M.2.1 3) nR else e.2 24 (b - 4)) (i + 1)) = (msb bs (fun b => if b < 3 then mkd (M.2.1 2) (e.2 23) (M.2.1 3) (nI b) nR else if b = 3 then mex (e.2 23) (M.2.1 4) (M.2.1 5) (M.2.1 3) nR else e.2 24 (b - 4)) i) := (by rw [msb, if_neg hb14, Int64.add_zero]); rw [h9]) ?_
        refine kv_iinc (j := 0) (v := (nI (i + 1))) (lv2 := [(5, .int (nI (i + 1))), (3, .long (msb bs (fun b => if b < 3 then mkd (M.2.1 2) (e.2 23) (M.2.1 3) (nI b) nR else if b = 3 then mex (e.2 23) (M.2.1 4) (M.2.1 5) (M.2.1 3) nR else e.2 24 (b - 4)) (i + 1))), (0, .ref (ad 2)), (1, .int bs), (2, .int (nI j))]) X dX2_sumOfBases_29 rfl (nI_add i 1) (by rw [hnL]; decide) rfl ?_
        refine kv_goto (tgt := 5) X dX2_sumOfBases_32 (by decide) ?_
        exact kv_lv [0, 1, 2, 3, 4] rfl (ih5 (i + 1) (by omega) ())
  exact kv_lv [0, 1, 2, 3, 4] rfl (L5 3 0 (by omega) ())
theorem f_X2_findSurcharges_39 : kF wsX2_findSurcharges RX2 39 5 0 := ⟨_, RX2, TX2, 9, fun _ h => (List.mem_cons_of_mem _ (List.mem_append_left _ (List.mem_append_left _ (List.mem_append_left _ (List.mem_append_left _ (List.mem_append_left _ (List.mem_append_left _ (List.mem_append_right _ h)))))))), (List.mem_cons_of_mem _ (List.mem_append_left _ (List.mem_append_left _ (List.mem_append_left _ (List.mem_append_left _ (List.mem_append_left _ (List.mem_append_left _ (List.mem_append_left _ (List.mem_append_left _ (List.mem_of_getElem? (i := 0) rfl)))))))))), rfl, by decide, rfl⟩
theorem f_X2_findSurcharges_175 : kF wsX2_findSurcharges RX2 175 9 6 := ⟨_, RX6, TX6, 7, fun _ h => (List.mem_cons_of_mem _ (List.mem_append_left _ (List.mem_append_left _ (List.mem_append_left _ (List.mem_append_left _ (List.mem_append_left _ (List.mem_append_right _ h))))))), (List.mem_cons_of_mem _ (List.mem_append_left _ (List.mem_append_left _ (List.mem_append_left _ (List.mem_append_left _ (List.mem_append_left _ (List.mem_append_left _ (List.mem_append_left _ (List.mem_append_left _ (List.mem_of_getElem? (i := 1) rfl)))))))))), rfl, by decide, rfl⟩
theorem f_X2_findSurcharges_36 : kF wsX2_findSurcharges RX2 36 5 8 := ⟨_, RX2, TX2, 9, fun _ h => (List.mem_cons_of_mem _ (List.mem_append_left _ (List.mem_append_left _ (List.mem_append_left _ (List.mem_append_left _ (List.mem_append_left _ (List.mem_append_left _ (List.mem_append_right _ h)))))))), (List.mem_cons_of_mem _ (List.mem_append_left _ (List.mem_append_left _ (List.mem_append_left _ (List.mem_append_left _ (List.mem_append_left _ (List.mem_append_left _ (List.mem_append_left _ (List.mem_append_left _ (List.mem_of_getElem? (i := 3) rfl)))))))))), rfl, by decide, rfl⟩
theorem f_X2_findSurcharges_180 : kF wsX2_findSurcharges RX2 180 8 1 := ⟨_, RX5, TX5, 2, fun _ h => (List.mem_cons_of_mem _ (List.mem_append_left _ (List.mem_append_left _ (List.mem_append_left _ (List.mem_append_left _ (List.mem_append_right _ h)))))), (List.mem_cons_of_mem _ (List.mem_append_left _ (List.mem_append_left _ (List.mem_append_left _ (List.mem_append_left _ (List.mem_append_left _ (List.mem_append_left _ (List.mem_append_left _ (List.mem_append_left _ (List.mem_of_getElem? (i := 4) rfl)))))))))), rfl, by decide, rfl⟩
theorem f_X2_findSurcharges_187 : kF wsX2_findSurcharges RX2 187 8 0 := ⟨_, RX5, TX5, 2, fun _ h => (List.mem_cons_of_mem _ (List.mem_append_left _ (List.mem_append_left _ (List.mem_append_left _ (List.mem_append_left _ (List.mem_append_right _ h)))))), (List.mem_cons_of_mem _ (List.mem_append_left _ (List.mem_append_left _ (List.mem_append_left _ (List.mem_append_left _ (List.mem_append_left _ (List.mem_append_left _ (List.mem_append_left _ (List.mem_append_left _ (List.mem_of_getElem? (i := 5) rfl)))))))))), rfl, by decide, rfl⟩
set_option maxRecDepth 100000 in
set_option maxHeartbeats 4000000 in
theorem c_X2_findSurcharges (l : Launch) (dd : kDD) (ks : List Nat) (ad : Nat → Nat) (E : Nat → va_E) (e : eS) (M : mS) (nR nC nt nL nW nV nM : Nat) (cn nm mn me li rl : Nat → Nat) (on : Int32) (hO : cO dd ks ad E on) (hR : cR dd ks ad E M nR) (hC : cC dd ks ad E M nC mn me) (hT : cT dd ks ad E M nt cn nm) (hL : cL dd ks ad E M nL nW li) (hW : cW dd ks ad E M nW rl) (hV : cV dd ks ad E M nV) (hM : cM dd ks ad E M nM) (hB : cB M nR nC nt nL nW nV cn nm mn me li rl) (hpk : ∀ r, r < nR → 1 ≤ M.2.1 5 r) : kCv l yX2_findSurcharges wsX2_findSurcharges ({ frames := 6, cells := 0, slots := 0, locals := 139 } : Room) 0 0 dd [.ref (ad 2)] (ks, ad, (cE dd E e)) (kQv (S := eS) (fun z => (e.1, va_up e.2 24 (mset (e.2 24) (mmk (M.2.1 27) (M.2.1 26) (fun b => mkd (M.2.1 2) (e.2 23) (M.2.1 3) (nI b) nR) (mex (e.2 23) (M.2.1 4) (M.2.1 5) (M.2.1 3) nR) nM) nM)) = z) (fun _ => ks) (fun _ => ad) (fun z => cE dd E z)) := by
  refine kMetv (ws' := _) (cc := cX2_findSurcharges) (maxL := 3) (by decide) rfl (Nat.le_of_ble_eq_true rfl) (fun g X hr hnL hRR hl0 hkn => ?_)
  show kv dd g 0 0 0 [(0, .ref (ad 2))] [] ks ad (cE dd E e)
  have hM4 := hM.1
  refine kv_iconst (v := 0) X dX2_findSurcharges_0 (by decide) ?_
  refine kv_istore_n (lv2 := [(1, .int 0), (0, .ref (ad 2))]) X dX2_findSurcharges_1 rfl (by rw [hnL]; decide) rfl ?_
  refine kv_e (e.1, (va_up e.2 24 (mset (e.2 24) (mmk (M.2.1 27) (M.2.1 26) (fun b => mkd (M.2.1 2) (e.2 23) (M.2.1 3) (nI b) nR) (mex (e.2 23) (M.2.1 4) (M.2.1 5) (M.2.1 3) nR) 0) 0))) (by show e = (e.1, (va_up e.2 24 (mset (e.2 24) (mmk (M.2.1 27) (M.2.1 26) (fun b => mkd (M.2.1 2) (e.2 23) (M.2.1 3) (nI b) nR) (mex (e.2 23) (M.2.1 4) (M.2.1 5) (M.2.1 3) nR) 0) 0))); rw [mset_0]; exact congrArg (fun y => (e.1, y)) (va_up_id _ _).symm) ?_
  have L2 : ∀ (n9 i : Nat), i + n9 = nM → ∀ (_ : Unit) , kv dd g 0 0 2 [(1, .int (nI i)), (0, .ref (ad 2))] [] ks ad (cE dd E (e.1, (va_up e.2 24 (mset (e.2 24) (mmk (M.2.1 27) (M.2.1 26) (fun b => mkd (M.2.1 2) (e.2 23) (M.2.1 3) (nI b) nR) (mex (e.2 23) (M.2.1 4) (M.2.1 5) (M.2.1 3) nR) i) i)))) := by
    intro n9
    induction n9 with
    | zero =>
      intro i hin2 _ 
      refine kv_iload_n X 0 dX2_findSurcharges_2 rfl rfl ?_
      refine kv_aload_n X 1 dX2_findSurcharges_3 rfl rfl ?_
      refine kv_getfield X f_X2_findSurcharges_39 (κ := 2) (fs := [.ref (ad 1), .ref (ad 17), .ref (ad 18), .ref (ad 19), .ref (ad 20), .ref (ad 21), .ref (ad 22), .ref (ad 23), .ref (ad 24)]) (v := .ref (ad 1)) hO.2.2.1.1 ((cE_ne (by omega)).trans hO.2.2.1.2) rfl dX2_findSurcharges_4 ?_
      refine kv_getfield X f_X2_findSurcharges_175 (κ := 1) (fs := [.ref (ad 3), .ref (ad 4), .ref (ad 5), .ref (ad 6), .ref (ad 7), .ref (ad 8), .ref (ad 9)]) (v := .ref (ad 9)) hO.2.1.1 ((cE_ne (by omega)).trans hO.2.1.2) rfl dX2_findSurcharges_7 ?_
      obtain ⟨_, _, o10⟩ := kLs_obj (dd := dd) (ks := ks) (ad := ad) (E := (cE dd E (e.1, (va_up e.2 24 (mset (e.2 24) (mmk (M.2.1 27) (M.2.1 26) (fun b => mkd (M.2.1 2) (e.2 23) (M.2.1 3) (nI b) nR) (mex (e.2 23) (M.2.1 4) (M.2.1 5) (M.2.1 3) nR) i) i))))) (kLs_cE hM.2.1 (by omega) (by omega) (fun i hi => by omega))
      refine kv_calliV (ci := 2) (κ := 9) (r1 := (TJx4a65c, 3)) (As := []) [.int (nI i)] X (c_Jx4a65c_size_8abf5 l dd ks ad (cE dd E (e.1, (va_up e.2 24 (mset (e.2 24) (mmk (M.2.1 27) (M.2.1 26) (fun b => mkd (M.2.1 2) (e.2 23) (M.2.1 3) (nI b) nR) (mex (e.2 23) (M.2.1 4) (M.2.1 5) (M.2.1 3) nR) i) i)))) (9) (16) (nM) (fun m => 288 + m) 8 (kLs_cE hM.2.1 (by omega) (by omega) (fun i hi => by omega))) hl0 (kCV_of X 0 gX2_findSurcharges_Jx4a65c_size_8abf5 rfl rfl rfl (by decide +kernel) hRR ⟨(Nat.le_of_ble_eq_true rfl), (Nat.le_of_ble_eq_true rfl)⟩) hM.2.1.1 o10 rfl rfl rfl (Nat.le_of_ble_eq_true rfl) hRR ⟨(Nat.le_of_ble_eq_true rfl), (Nat.le_of_ble_eq_true rfl)⟩ dX2_findSurcharges_10 (fun r z hp => ?_)
      obtain rfl := hp
      refine kn_icmp_ge (x := i) (y := nM) (tgt := 62) X (by omega) (by omega) dX2_findSurcharges_13 (by decide) (fun hc13 => ?_) (fun hc13 => absurd hc13 (by omega))
      exact kv_return X hr (Nat.le_of_ble_eq_true rfl) (Nat.le_of_ble_eq_true rfl) ⟨(e.1, va_up e.2 24 (mset (e.2 24) (mmk (M.2.1 27) (M.2.1 26) (fun b => mkd (M.2.1 2) (e.2 23) (M.2.1 3) (nI b) nR) (mex (e.2 23) (M.2.1 4) (M.2.1 5) (M.2.1 3) nR) i) i)), by rw [show i = nM by omega], rfl⟩ dX2_findSurcharges_62
    | succ n9 ih2 =>
      intro i hin2 _ 
      refine kv_iload_n X 0 dX2_findSurcharges_2 rfl rfl ?_
      refine kv_aload_n X 1 dX2_findSurcharges_3 rfl rfl ?_
      refine kv_getfield X f_X2_findSurcharges_39 (κ := 2) (fs := [.ref (ad 1), .ref (ad 17), .ref (ad 18), .ref (ad 19), .ref (ad 20), .ref (ad 21), .ref (ad 22), .ref (ad 23), .ref (ad 24)]) (v := .ref (ad 1)) hO.2.2.1.1 ((cE_ne (by omega)).trans hO.2.2.1.2) rfl dX2_findSurcharges_4 ?_
      refine kv_getfield X f_X2_findSurcharges_175 (κ := 1) (fs := [.ref (ad 3), .ref (ad 4), .ref (ad 5), .ref (ad 6), .ref (ad 7), .ref (ad 8), .ref (ad 9)]) (v := .ref (ad 9)) hO.2.1.1 ((cE_ne (by omega)).trans hO.2.1.2) rfl dX2_findSurcharges_7 ?_
      obtain ⟨_, _, o10⟩ := kLs_obj (dd := dd) (ks := ks) (ad := ad) (E := (cE dd E (e.1, (va_up e.2 24 (mset (e.2 24) (mmk (M.2.1 27) (M.2.1 26) (fun b => mkd (M.2.1 2) (e.2 23) (M.2.1 3) (nI b) nR) (mex (e.2 23) (M.2.1 4) (M.2.1 5) (M.2.1 3) nR) i) i))))) (kLs_cE hM.2.1 (by omega) (by omega) (fun i hi => by omega))
      refine kv_calliV (ci := 2) (κ := 9) (r1 := (TJx4a65c, 3)) (As := []) [.int (nI i)] X (c_Jx4a65c_size_8abf5 l dd ks ad (cE dd E (e.1, (va_up e.2 24 (mset (e.2 24) (mmk (M.2.1 27) (M.2.1 26) (fun b => mkd (M.2.1 2) (e.2 23) (M.2.1 3) (nI b) nR) (mex (e.2 23) (M.2.1 4) (M.2.1 5) (M.2.1 3) nR) i) i)))) (9) (16) (nM) (fun m => 288 + m) 8 (kLs_cE hM.2.1 (by omega) (by omega) (fun i hi => by omega))) hl0 (kCV_of X 0 gX2_findSurcharges_Jx4a65c_size_8abf5 rfl rfl rfl (by decide +kernel) hRR ⟨(Nat.le_of_ble_eq_true rfl), (Nat.le_of_ble_eq_true rfl)⟩) hM.2.1.1 o10 rfl rfl rfl (Nat.le_of_ble_eq_true rfl) hRR ⟨(Nat.le_of_ble_eq_true rfl), (Nat.le_of_ble_eq_true rfl)⟩ dX2_findSurcharges_10 (fun r z hp => ?_)
      obtain rfl := hp
      refine kn_icmp_ge (x := i) (y := nM) (tgt := 62) X (by omega) (by omega) dX2_findSurcharges_13 (by decide) (fun hc13 => absurd hc13 (by omega)) (fun hc13 => ?_)
      refine kv_aload_n X 1 dX2_findSurcharges_16 rfl rfl ?_
      refine kv_getfield X f_X2_findSurcharges_39 (κ := 2) (fs := [.ref (ad 1), .ref (ad 17), .ref (ad 18), .ref (ad 19), .ref (ad 20), .ref (ad 21), .ref (ad 22), .ref (ad 23), .ref (ad 24)]) (v := .ref (ad 1)) hO.2.2.1.1 ((cE_ne (by omega)).trans hO.2.2.1.2) rfl dX2_findSurcharges_17 ?_
      refine kv_getfield X f_X2_findSurcharges_175 (κ := 1) (fs := [.ref (ad 3), .ref (ad 4), .ref (ad 5), .ref (ad 6), .ref (ad 7), .ref (ad 8), .ref (ad 9)]) (v := .ref (ad 9)) hO.2.1.1 ((cE_ne (by omega)).trans hO.2.1.2) rfl dX2_findSurcharges_20 ?_
      refine kv_iload_n X 0 dX2_findSurcharges_23 rfl rfl ?_
      obtain ⟨_, _, o24⟩ := kLs_obj (dd := dd) (ks := ks) (ad := ad) (E := (cE dd E (e.1, (va_up e.2 24 (mset (e.2 24) (mmk (M.2.1 27) (M.2.1 26) (fun b => mkd (M.2.1 2) (e.2 23) (M.2.1 3) (nI b) nR) (mex (e.2 23) (M.2.1 4) (M.2.1 5) (M.2.1 3) nR) i) i))))) (kLs_cE hM.2.1 (by omega) (by omega) (fun i hi => by omega))
      refine kv_callqV (ci := 2) (κ := 9) (r1 := (TJx4a65c, 3)) (As := [.int (nI i)]) [] X (c_Jx4a65c_get_915e3 l dd ks ad (cE dd E (e.1, (va_up e.2 24 (mset (e.2 24) (mmk (M.2.1 27) (M.2.1 26) (fun b => mkd (M.2.1 2) (e.2 23) (M.2.1 3) (nI b) nR) (mex (e.2 23) (M.2.1 4) (M.2.1 5) (M.2.1 3) nR) i) i)))) (9) (16) (nM) (fun m => 288 + m) 8 (kLs_cE hM.2.1 (by omega) (by omega) (fun i hi => by omega)) i (by omega)) hl0 (kCV_of X 1 gX2_findSurcharges_Jx4a65c_get_915e3 rfl rfl rfl (by decide +kernel) hRR ⟨(Nat.le_of_ble_eq_true rfl), (Nat.le_of_ble_eq_true rfl)⟩) hM.2.1.1 o24 rfl rfl rfl (Nat.le_of_ble_eq_true rfl) hRR ⟨(Nat.le_of_ble_eq_true rfl), (Nat.le_of_ble_eq_true rfl)⟩ dX2_findSurcharges_24 (fun r z hp => ?_)
      obtain rfl := hp
      refine kv_topg (.ref (ad (288 + i))) rfl ?_
      refine kv_cast X (κ := 288 + i) (ci := 8) (fs := [.int (M.2.1 26 i), .int (M.2.1 27 i)]) (r := (RX5, TX5, 2)) (List.mem_cons_of_mem _ (List.mem_append_left _ (List.mem_append_left _ (List.mem_append_left _ (List.mem_append_left _ (List.mem_append_left _ (List.mem_append_left _ (List.mem_append_left _ (List.mem_append_left _ (List.mem_of_getElem? (i := 2) rfl)))))))))) (hM.2.2 i (by omega)).1 ((cE_ne (by omega)).trans (hM.2.2 i (by omega)).2) rfl dX2_findSurcharges_27 ?_
      refine kv_astore_n (lv2 := [(2, .ref (ad (288 + i))), (1, .int (nI i)), (0, .ref (ad 2))]) X dX2_findSurcharges_30 rfl (by rw [hnL]; decide) rfl ?_
      refine kv_aload_n X 2 dX2_findSurcharges_31 rfl rfl ?_
      refine kv_getfield X f_X2_findSurcharges_36 (κ := 2) (fs := [.ref (ad 1), .ref (ad 17), .ref (ad 18), .ref (ad 19), .ref (ad 20), .ref (ad 21), .ref (ad 22), .ref (ad 23), .ref (ad 24)]) (v := .ref (ad 24)) hO.2.2.1.1 ((cE_ne (by omega)).trans hO.2.2.1.2) rfl dX2_findSurcharges_32 ?_
      refine kv_iload_n X 1 dX2_findSurcharges_35 rfl rfl ?_
      refine kv_aload_n X 2 dX2_findSurcharges_36 rfl rfl ?_
      refine kv_aload_n X 0 dX2_findSurcharges_37 rfl rfl ?_
      refine kv_getfield X f_X2_findSurcharges_180 (κ := 288 + i) (fs := [.int (M.2.1 26 i), .int (M.2.1 27 i)]) (v := .int (M.2.1 27 i)) (hM.2.2 i (by omega)).1 ((cE_ne (by omega)).trans (hM.2.2 i (by omega)).2) rfl dX2_findSurcharges_38 ?_
      refine kv_iload_n X 1 dX2_findSurcharges_41 rfl rfl ?_
      refine kv_calllV (ci := 5) (κ := 2) (r1 := (TX2, 9)) (As := [.int (M.2.1 27 i), .int (nI i)]) [.int (nI i), .ref (ad 24)] X (c_X2_sumOfBases l dd ks ad E (e.1, (va_up e.2 24 (mset (e.2 24) (mmk (M.2.1 27) (M.2.1 26) (fun b => mkd (M.2.1 2) (e.2 23) (M.2.1 3) (nI b) nR) (mex (e.2 23) (M.2.1 4) (M.2.1 5) (M.2.1 3) nR) i) i))) M nR nC nt nL nW nV nM cn nm mn me li rl on hO hR hC hT hL hW hV hM hB (M.2.1 27 i) i (by omega) hpk) hl0 (kCV_of X 2 gX2_findSurcharges_X2_sumOfBases rfl rfl rfl (by decide +kernel) hRR ⟨(Nat.le_of_ble_eq_true rfl), (Nat.le_of_ble_eq_true rfl)⟩) hO.2.2.1.1 ((cE_ne (by omega)).trans hO.2.2.1.2) rfl rfl rfl (Nat.le_of_ble_eq_true rfl) hRR ⟨(Nat.le_of_ble_eq_true rfl), (Nat.le_of_ble_eq_true rfl)⟩ dX2_findSurcharges_42 (fun r z hp => ?_)
      obtain ⟨rfl, rfl⟩ := hp
      refine kv_topl (msb (M.2.1 27 i) (fun b => if b < 3 then mkd (M.2.1 2) (e.2 23) (M.2.1 3) (nI b) nR else if b = 3 then mex (e.2 23) (M.2.1 4) (M.2.1 5) (M.2.1 3) nR else mmk (M.2.1 27) (M.2.1 26) (fun b => mkd (M.2.1 2) (e.2 23) (M.2.1 3) (nI b) nR) (mex (e.2 23) (M.2.1 4) (M.2.1 5) (M.2.1 3) nR) i (b - 4)) (4 + i)) (msb_congr _ (fun b hb => (Decidable.em (b < 3)).elim (fun c => (if_pos c).trans (if_pos c).symm) (fun c => (if_neg c).trans ((Decidable.em (b = 3)).elim (fun c2 => (if_pos c2).trans ((if_neg c).trans (if_pos c2)).symm) (fun c2 => (if_neg c2).trans ((mset_in (by omega)).trans ((if_neg c).trans (if_neg c2)).symm)))))) ?_
      refine kv_aload_n X 0 dX2_findSurcharges_45 rfl rfl ?_
      refine kv_getfield X f_X2_findSurcharges_187 (κ := 288 + i) (fs := [.int (M.2.1 26 i), .int (M.2.1 27 i)]) (v := .int (M.2.1 26 i)) (hM.2.2 i (by omega)).1 ((cE_ne (by omega)).trans (hM.2.2 i (by omega)).2) rfl dX2_findSurcharges_46 ?_
      refine kv_i2l X dX2_findSurcharges_49 rfl ?_
      refine kv_lmul X dX2_findSurcharges_50 ?_
      refine kv_ldc2 (v := 100) X dX2_findSurcharges_51 (List.mem_cons_of_mem _ (List.mem_append_left _ (List.mem_append_left _ (List.mem_append_left _ (List.mem_append_left _ (List.mem_append_left _ (List.mem_append_left _ (List.mem_append_left _ (List.mem_append_left _ (List.mem_of_getElem? (i := 6) rfl)))))))))) ?_
      refine kv_ldiv X dX2_findSurcharges_54 (by decide) ?_
      refine ke_last X (24) (j := i) (x := (((msb (M.2.1 27 i) (fun b => if b < 3 then mkd (M.2.1 2) (e.2 23) (M.2.1 3) (nI b) nR else if b = 3 then mex (e.2 23) (M.2.1 4) (M.2.1 5) (M.2.1 3) nR else mmk (M.2.1 27) (M.2.1 26) (fun b => mkd (M.2.1 2) (e.2 23) (M.2.1 3) (nI b) nR) (mex (e.2 23) (M.2.1 4) (M.2.1 5) (M.2.1 3) nR) i (b - 4)) (4 + i)) * ((M.2.1 26 i).toInt64)) / 100)) (hO.2.2.2.1 _ (by omega) (by omega)) (by omega) (by show i < eLen 24; unfold eLen; rw [if_pos rfl]; omega) dX2_findSurcharges_55 ?_
      refine kv_e (e.1, (va_up e.2 24 (mset (e.2 24) (mmk (M.2.1 27) (M.2.1 26) (fun b => mkd (M.2.1 2) (e.2 23) (M.2.1 3) (nI b) nR) (mex (e.2 23) (M.2.1 4) (M.2.1 5) (M.2.1 3) nR) (i + 1)) (i + 1)))) (by show (e.1, (va_up (va_up e.2 24 (mset (e.2 24) (mmk (M.2.1 27) (M.2.1 26) (fun b => mkd (M.2.1 2) (e.2 23) (M.2.1 3) (nI b) nR) (mex (e.2 23) (M.2.1 4) (M.2.1 5) (M.2.1 3) nR) i) i)) 24 (va_up (mset (e.2 24) (mmk (M.2.1 27) (M.2.1 26) (fun b => mkd (M.2.1 2) (e.2 23) (M.2.1 3) (nI b) nR) (mex (e.2 23) (M.2.1 4) (M.2.1 5) (M.2.1 3) nR) i) i) i (((msb (M.2.1 27 i) (fun b => if b < 3 then mkd (M.2.1 2) (e.2 23) (M.2.1 3) (nI b) nR else if b = 3 then mex (e.2 23) (M.2.1 4) (M.2.1 5) (M.2.1 3) nR else mmk (M.2.1 27) (M.2.1 26) (fun b => mkd (M.2.1 2) (e.2 23) (M.2.1 3) (nI b) nR) (mex (e.2 23) (M.2.1 4) (M.2.1 5) (M.2.1 3) nR) i (b - 4)) (4 + i)) * ((M.2.1 26 i).toInt64)) / 100)))) = (e.1, (va_up e.2 24 (mset (e.2 24) (mmk (M.2.1 27) (M.2.1 26) (fun b => mkd (M.2.1 2) (e.2 23) (M.2.1 3) (nI b) nR) (mex (e.2 23) (M.2.1 4) (M.2.1 5) (M.2.1 3) nR) (i + 1)) (i + 1)))); rw [va_up_up]; exact congrArg (fun y => (e.1, va_up e.2 24 y)) (mmk_up rfl)) ?_
      refine kv_iinc (j := 1) (v := (nI (i + 1))) (lv2 := [(1, .int (nI (i + 1))), (2, .ref (ad (288 + i))), (0, .ref (ad 2))]) X dX2_findSurcharges_56 rfl (nI_add i 1) (by rw [hnL]; decide) rfl ?_
      refine kv_goto (tgt := 2) X dX2_findSurcharges_59 (by decide) ?_
      exact kv_lv [0, 2] rfl (ih2 (i + 1) (by omega) ())
  exact kv_lv [0, 1] rfl (L2 nM 0 (by omega) ())
theorem f_X2_lineCost_39 : kF wsX2_lineCost RX2 39 5 0 := ⟨_, RX2, TX2, 9, fun _ h => (List.mem_cons_of_mem _ (List.mem_append_left _ (List.mem_append_left _ (List.mem_append_left _ (List.mem_append_left _ (List.mem_append_left _ (List.mem_append_right _ h))))))), (List.mem_cons_of_mem _ (List.mem_append_left _ (List.mem_append_left _ (List.mem_append_left _ (List.mem_append_left _ (List.mem_append_left _ (List.mem_append_left _ (List.mem_append_left _ (List.mem_of_getElem? (i := 0) rfl))))))))), rfl, by decide, rfl⟩
theorem f_X2_lineCost_163 : kF wsX2_lineCost RX2 163 9 3 := ⟨_, RX6, TX6, 7, fun _ h => (List.mem_cons_of_mem _ (List.mem_append_left _ (List.mem_append_left _ (List.mem_append_left _ (List.mem_append_left _ (List.mem_append_right _ h)))))), (List.mem_cons_of_mem _ (List.mem_append_left _ (List.mem_append_left _ (List.mem_append_left _ (List.mem_append_left _ (List.mem_append_left _ (List.mem_append_left _ (List.mem_append_left _ (List.mem_of_getElem? (i := 1) rfl))))))))), rfl, by decide, rfl⟩
theorem f_X2_lineCost_171 : kF wsX2_lineCost RX2 171 7 1 := ⟨_, RX4, TX4, 2, fun _ h => (List.mem_cons_of_mem _ (List.mem_append_left _ (List.mem_append_left _ (List.mem_append_left _ (List.mem_append_right _ h))))), (List.mem_cons_of_mem _ (List.mem_append_left _ (List.mem_append_left _ (List.mem_append_left _ (List.mem_append_left _ (List.mem_append_left _ (List.mem_append_left _ (List.mem_append_left _ (List.mem_of_getElem? (i := 3) rfl))))))))), rfl, by decide, rfl⟩
theorem f_X2_lineCost_26 : kF wsX2_lineCost RX2 26 5 5 := ⟨_, RX2, TX2, 9, fun _ h => (List.mem_cons_of_mem _ (List.mem_append_left _ (List.mem_append_left _ (List.mem_append_left _ (List.mem_append_left _ (List.mem_append_left _ (List.mem_append_right _ h))))))), (List.mem_cons_of_mem _ (List.mem_append_left _ (List.mem_append_left _ (List.mem_append_left _ (List.mem_append_left _ (List.mem_append_left _ (List.mem_append_left _ (List.mem_append_left _ (List.mem_of_getElem? (i := 4) rfl))))))))), rfl, by decide, rfl⟩
theorem f_X2_lineCost_9 : kF wsX2_lineCost RX2 9 5 1 := ⟨_, RX2, TX2, 9, fun _ h => (List.mem_cons_of_mem _ (List.mem_append_left _ (List.mem_append_left _ (List.mem_append_left _ (List.mem_append_left _ (List.mem_append_left _ (List.mem_append_right _ h))))))), (List.mem_cons_of_mem _ (List.mem_append_left _ (List.mem_append_left _ (List.mem_append_left _ (List.mem_append_left _ (List.mem_append_left _ (List.mem_append_left _ (List.mem_append_left _ (List.mem_of_getElem? (i := 5) rfl))))))))), rfl, by decide, rfl⟩
theorem f_X2_lineCost_168 : kF wsX2_lineCost RX2 168 7 0 := ⟨_, RX4, TX4, 2, fun _ h => (List.mem_cons_of_mem _ (List.mem_append_left _ (List.mem_append_left _ (List.mem_append_left _ (List.mem_append_right _ h))))), (List.mem_cons_of_mem _ (List.mem_append_left _ (List.mem_append_left _ (List.mem_append_left _ (List.mem_append_left _ (List.mem_append_left _ (List.mem_append_left _ (List.mem_append_left _ (List.mem_of_getElem? (i := 6) rfl))))))))), rfl, by decide, rfl⟩
set_option maxRecDepth 100000 in
set_option maxHeartbeats 4000000 in
theorem c_X2_lineCost (l : Launch) (dd : kDD) (ks : List Nat) (ad : Nat → Nat) (E : Nat → va_E) (e : eS) (M : mS) (nR nC nt nL nW nV nM : Nat) (cn nm mn me li rl : Nat → Nat) (on : Int32) (hO : cO dd ks ad E on) (hR : cR dd ks ad E M nR) (hC : cC dd ks ad E M nC mn me) (hT : cT dd ks ad E M nt cn nm) (hL : cL dd ks ad E M nL nW li) (hW : cW dd ks ad E M nW rl) (hV : cV dd ks ad E M nV) (hM : cM dd ks ad E M nM) (hB : cB M nR nC nt nL nW nV cn nm mn me li rl) (l0 : Nat) (hll : l0 < nL) (mi : Nat → Nat) (hmi : ∀ j, j < nt → e.1 17 j = nI (mi j) ∧ mi j < nt) : kCl l yX2_lineCost wsX2_lineCost ({ frames := 4, cells := 0, slots := 0, locals := 88 } : Room) 0 0 dd [.ref (ad 2), .int (nI l0)] (ks, ad, (cE dd E e)) (kQl (S := eS) (fun r z => e = z ∧ r = (mq (M.2.1 19) (M.2.1 20) (nI l0) nW).toInt64 * cou (e.2 (37 + mi (li l0))) (M.2.1 3) nR) (fun _ => ks) (fun _ => ad) (fun z => cE dd E z)) := by
  refine kMetl (ws' := _) (cc := cX2_lineCost) (maxL := 3) (rt := .long) (by decide) rfl (Nat.le_of_ble_eq_true rfl) (fun g X hr hnL hRR hl0 hkn => ?_)
  show kv dd g 0 0 0 [(0, .ref (ad 2)), (1, .int (nI l0))] [] ks ad (cE dd E e)
  obtain ⟨f20, f21, hf20, hf21, hff⟩ := hO.2.2.2.2
  have hT12 := hT.1
  have hL10 := hL.1
  refine kv_aload_n X 0 dX2_lineCost_0 rfl rfl ?_
  refine kv_getfield X f_X2_lineCost_39 (κ := 2) (fs := [.ref (ad 1), .ref (ad 17), .ref (ad 18), .ref (ad 19), .ref (ad 20), .ref (ad 21), .ref (ad 22), .ref (ad 23), .ref (ad 24)]) (v := .ref (ad 1)) hO.2.2.1.1 ((cE_ne (by omega)).trans hO.2.2.1.2) rfl dX2_lineCost_1 ?_
  refine kv_getfield X f_X2_lineCost_163 (κ := 1) (fs := [.ref (ad 3), .ref (ad 4), .ref (ad 5), .ref (ad 6), .ref (ad 7), .ref (ad 8), .ref (ad 9)]) (v := .ref (ad 6)) hO.2.1.1 ((cE_ne (by omega)).trans hO.2.1.2) rfl dX2_lineCost_4 ?_
  refine kv_iload_n X 1 dX2_lineCost_7 rfl rfl ?_
  obtain ⟨_, _, o8⟩ := kLs_obj (dd := dd) (ks := ks) (ad := ad) (E := (cE dd E e)) (kLs_cE hL.2.1 (by omega) (by omega) (fun i hi => by omega))
  refine kv_callqV (ci := 2) (κ := 6) (r1 := (TJx4a65c, 3)) (As := [.int (nI l0)]) [] X (c_Jx4a65c_get_915e3 l dd ks ad (cE dd E e) (6) (13) (nL) (fun l => 208 + l) 7 (kLs_cE hL.2.1 (by omega) (by omega) (fun i hi => by omega)) l0 (by omega)) hl0 (kCV_of X 1 gX2_lineCost_Jx4a65c_get_915e3 rfl rfl rfl (by decide +kernel) hRR ⟨(Nat.le_of_ble_eq_true rfl), (Nat.le_of_ble_eq_true rfl)⟩) hL.2.1.1 o8 rfl rfl rfl (Nat.le_of_ble_eq_true rfl) hRR ⟨(Nat.le_of_ble_eq_true rfl), (Nat.le_of_ble_eq_true rfl)⟩ dX2_lineCost_8 (fun r z hp => ?_)
  obtain rfl := hp
  refine kv_topg (.ref (ad (208 + l0))) rfl ?_
  refine kv_cast X (κ := 208 + l0) (ci := 7) (fs := [.int (nI (li l0)), .int (mq (M.2.1 19) (M.2.1 20) (nI l0) nW)]) (r := (RX4, TX4, 2)) (List.mem_cons_of_mem _ (List.mem_append_left _ (List.mem_append_left _ (List.mem_append_left _ (List.mem_append_left _ (List.mem_append_left _ (List.mem_append_left _ (List.mem_append_left _ (List.mem_of_getElem? (i := 2) rfl))))))))) (hL.2.2 l0 (by omega)).1 ((cE_ne (by omega)).trans (hL.2.2 l0 (by omega)).2) rfl dX2_lineCost_11 ?_
  refine kv_astore_n (lv2 := [(2, .ref (ad (208 + l0))), (0, .ref (ad 2)), (1, .int (nI l0))]) X dX2_lineCost_14 rfl (by rw [hnL]; decide) rfl ?_
  refine kv_aload_n X 0 dX2_lineCost_15 rfl rfl ?_
  refine kv_getfield X f_X2_lineCost_171 (κ := 208 + l0) (fs := [.int (nI (li l0)), .int (mq (M.2.1 19) (M.2.1 20) (nI l0) nW)]) (v := .int (mq (M.2.1 19) (M.2.1 20) (nI l0) nW)) (hL.2.2 l0 (by omega)).1 ((cE_ne (by omega)).trans (hL.2.2 l0 (by omega)).2) rfl dX2_lineCost_16 ?_
  refine kv_i2l X dX2_lineCost_19 rfl ?_
  refine kv_aload_n X 1 dX2_lineCost_20 rfl rfl ?_
  refine kv_aload_n X 1 dX2_lineCost_21 rfl rfl ?_
  refine kv_getfield X f_X2_lineCost_26 (κ := 2) (fs := [.ref (ad 1), .ref (ad 17), .ref (ad 18), .ref (ad 19), .ref (ad 20), .ref (ad 21), .ref (ad 22), .ref (ad 23), .ref (ad 24)]) (v := .ref (ad 21)) hO.2.2.1.1 ((cE_ne (by omega)).trans hO.2.2.1.2) rfl dX2_lineCost_22 ?_
  refine kv_aload_n X 1 dX2_lineCost_25 rfl rfl ?_
  refine kv_getfield X f_X2_lineCost_9 (κ := 2) (fs := [.ref (ad 1), .ref (ad 17), .ref (ad 18), .ref (ad 19), .ref (ad 20), .ref (ad 21), .ref (ad 22), .ref (ad 23), .ref (ad 24)]) (v := .ref (ad 17)) hO.2.2.1.1 ((cE_ne (by omega)).trans hO.2.2.1.2) rfl dX2_lineCost_26 ?_
  refine kv_aload_n X 0 dX2_lineCost_29 rfl rfl ?_
  refine kv_getfield X f_X2_lineCost_168 (κ := 208 + l0) (fs := [.int (nI (li l0)), .int (mq (M.2.1 19) (M.2.1 20) (nI l0) nW)]) (v := .int (nI (li l0))) (hL.2.2 l0 (by omega)).1 ((cE_ne (by omega)).trans (hL.2.2 l0 (by omega)).2) rfl dX2_lineCost_30 ?_
  have hlt := hB.2.2.1 l0 hll
  have hmt := (hmi (li l0) hlt).2
  refine ke_iald X (17) (j := li l0) (hO.2.2.2.1 _ (by omega) (by omega)) (by omega) (by omega) dX2_lineCost_33 ?_
  refine kv_topi (nI (mi (li l0))) (hmi (li l0) hlt).1 ?_
  refine kv_aaloadJ X (κ := 21) (n := 12) (j := mi (li l0)) (f := f21) (hO.2.2.2.1 _ (by omega) (by omega)) ((cE_ne (by omega)).trans hf21) (by omega) (by omega) dX2_lineCost_34 ?_
  refine kv_topg (.ref (ad (37 + (mi (li l0))))) (by rw [(hff (mi (li l0)) (by omega)).2]; rfl) ?_
  refine kv_calllV (ci := 5) (κ := 2) (r1 := (TX2, 9)) (As := [.ref (ad (37 + (mi (li l0))))]) [.long ((mq (M.2.1 19) (M.2.1 20) (nI l0) nW).toInt64)] X (c_X2_costOfUnits l dd ks ad E e M nR nC nt nL nW nV nM cn nm mn me li rl on hO hR hC hT hL hW hV hM hB (37 + (mi (li l0))) (by omega)) hl0 (kCV_of X 1 gX2_lineCost_X2_costOfUnits rfl rfl rfl (by decide +kernel) hRR ⟨(Nat.le_of_ble_eq_true rfl), (Nat.le_of_ble_eq_true rfl)⟩) hO.2.2.1.1 ((cE_ne (by omega)).trans hO.2.2.1.2) rfl rfl rfl (Nat.le_of_ble_eq_true rfl) hRR ⟨(Nat.le_of_ble_eq_true rfl), (Nat.le_of_ble_eq_true rfl)⟩ dX2_lineCost_35 (fun r z hp => ?_)
  obtain ⟨rfl, rfl⟩ := hp
  refine kv_lmul X dX2_lineCost_38 ?_
  exact kv_lreturn X hr (Nat.le_of_ble_eq_true rfl) (Nat.le_of_ble_eq_true rfl) ⟨e, ⟨rfl, rfl⟩, rfl⟩ dX2_lineCost_39
theorem f_X2_tradeCost_39 : kF wsX2_tradeCost RX2 39 5 0 := ⟨_, RX2, TX2, 9, fun _ h => (List.mem_cons_of_mem _ (List.mem_append_left _ (List.mem_append_left _ (List.mem_append_left _ (List.mem_append_left _ (List.mem_append_left _ (List.mem_append_right _ h))))))), (List.mem_cons_of_mem _ (List.mem_append_left _ (List.mem_append_left _ (List.mem_append_left _ (List.mem_append_left _ (List.mem_append_left _ (List.mem_append_left _ (List.mem_append_left _ (List.mem_of_getElem? (i := 0) rfl))))))))), rfl, by decide, rfl⟩
theorem f_X2_tradeCost_43 : kF wsX2_tradeCost RX2 43 9 2 := ⟨_, RX6, TX6, 7, fun _ h => (List.mem_cons_of_mem _ (List.mem_append_left _ (List.mem_append_left _ (List.mem_append_left _ (List.mem_append_left _ (List.mem_append_right _ h)))))), (List.mem_cons_of_mem _ (List.mem_append_left _ (List.mem_append_left _ (List.mem_append_left _ (List.mem_append_left _ (List.mem_append_left _ (List.mem_append_left _ (List.mem_append_left _ (List.mem_of_getElem? (i := 1) rfl))))))))), rfl, by decide, rfl⟩
theorem f_X2_tradeCost_217 : kF wsX2_tradeCost RX2 217 6 0 := ⟨_, RX3, TX3, 2, fun _ h => (List.mem_cons_of_mem _ (List.mem_append_left _ (List.mem_append_left _ (List.mem_append_left _ (List.mem_append_right _ h))))), (List.mem_cons_of_mem _ (List.mem_append_left _ (List.mem_append_left _ (List.mem_append_left _ (List.mem_append_left _ (List.mem_append_left _ (List.mem_append_left _ (List.mem_append_left _ (List.mem_of_getElem? (i := 3) rfl))))))))), rfl, by decide, rfl⟩
theorem f_X2_tradeCost_29 : kF wsX2_tradeCost RX2 29 5 6 := ⟨_, RX2, TX2, 9, fun _ h => (List.mem_cons_of_mem _ (List.mem_append_left _ (List.mem_append_left _ (List.mem_append_left _ (List.mem_append_left _ (List.mem_append_left _ (List.mem_append_right _ h))))))), (List.mem_cons_of_mem _ (List.mem_append_left _ (List.mem_append_left _ (List.mem_append_left _ (List.mem_append_left _ (List.mem_append_left _ (List.mem_append_left _ (List.mem_append_left _ (List.mem_of_getElem? (i := 4) rfl))))))))), rfl, by decide, rfl⟩
theorem f_X2_tradeCost_23 : kF wsX2_tradeCost RX2 23 5 4 := ⟨_, RX2, TX2, 9, fun _ h => (List.mem_cons_of_mem _ (List.mem_append_left _ (List.mem_append_left _ (List.mem_append_left _ (List.mem_append_left _ (List.mem_append_left _ (List.mem_append_right _ h))))))), (List.mem_cons_of_mem _ (List.mem_append_left _ (List.mem_append_left _ (List.mem_append_left _ (List.mem_append_left _ (List.mem_append_left _ (List.mem_append_left _ (List.mem_append_left _ (List.mem_of_getElem? (i := 5) rfl))))))))), rfl, by decide, rfl⟩
set_option maxRecDepth 100000 in
set_option maxHeartbeats 4000000 in
theorem c_X2_tradeCost (l : Launch) (dd : kDD) (ks : List Nat) (ad : Nat → Nat) (E : Nat → va_E) (e : eS) (M : mS) (nR nC nt nL nW nV nM : Nat) (cn nm mn me li rl : Nat → Nat) (on : Int32) (hO : cO dd ks ad E on) (hR : cR dd ks ad E M nR) (hC : cC dd ks ad E M nC mn me) (hT : cT dd ks ad E M nt cn nm) (hL : cL dd ks ad E M nL nW li) (hW : cW dd ks ad E M nW rl) (hV : cV dd ks ad E M nV) (hM : cM dd ks ad E M nM) (hB : cB M nR nC nt nL nW nV cn nm mn me li rl) (t0 : Int32) : kCl l yX2_tradeCost wsX2_tradeCost ({ frames := 4, cells := 0, slots := 0, locals := 88 } : Room) 0 0 dd [.ref (ad 2), .int t0] (ks, ad, (cE dd E e)) (kQl (S := eS) (fun r z => e = z ∧ r = ctr (M.2.1 11) (fun i => e.2 22 i * cou (e.2 (25 + i)) (M.2.1 3) nR) t0 nt) (fun _ => ks) (fun _ => ad) (fun z => cE dd E z)) := by
  refine kMetl (ws' := _) (cc := cX2_tradeCost) (maxL := 5) (rt := .long) (by decide) rfl (Nat.le_of_ble_eq_true rfl) (fun g X hr hnL hRR hl0 hkn => ?_)
  show kv dd g 0 0 0 [(0, .ref (ad 2)), (1, .int t0)] [] ks ad (cE dd E e)
  obtain ⟨f20, f21, hf20, hf21, hff⟩ := hO.2.2.2.2
  have hT12 := hT.1
  refine kv_lconst (v := 0) X dX2_tradeCost_0 (by decide) ?_
  refine kv_lstore_n (lv2 := [(2, .long 0), (0, .ref (ad 2)), (1, .int t0)]) X dX2_tradeCost_1 rfl (by rw [hnL]; decide) rfl ?_
  refine kv_iconst (v := 0) X dX2_tradeCost_2 (by decide) ?_
  refine kv_istore (lv2 := [(4, .int 0), (2, .long 0), (0, .ref (ad 2)), (1, .int t0)]) X dX2_tradeCost_3 (by rw [hnL]; decide) rfl ?_
  have L5 : ∀ (n9 i : Nat), i + n9 = nt → ∀ (_ : Unit) , kv dd g 0 0 5 [(4, .int (nI i)), (2, .long (ctr (M.2.1 11) (fun i => e.2 22 i * cou (e.2 (25 + i)) (M.2.1 3) nR) t0 i)), (0, .ref (ad 2)), (1, .int t0)] [] ks ad (cE dd E e) := by
    intro n9
    induction n9 with
    | zero =>
      intro i hin5 _ 
      refine kv_iload X 0 dX2_tradeCost_5 rfl ?_
      refine kv_aload_n X 2 dX2_tradeCost_7 rfl rfl ?_
      refine kv_getfield X f_X2_tradeCost_39 (κ := 2) (fs := [.ref (ad 1), .ref (ad 17), .ref (ad 18), .ref (ad 19), .ref (ad 20), .ref (ad 21), .ref (ad 22), .ref (ad 23), .ref (ad 24)]) (v := .ref (ad 1)) hO.2.2.1.1 ((cE_ne (by omega)).trans hO.2.2.1.2) rfl dX2_tradeCost_8 ?_
      refine kv_getfield X f_X2_tradeCost_43 (κ := 1) (fs := [.ref (ad 3), .ref (ad 4), .ref (ad 5), .ref (ad 6), .ref (ad 7), .ref (ad 8), .ref (ad 9)]) (v := .ref (ad 5)) hO.2.1.1 ((cE_ne (by omega)).trans hO.2.1.2) rfl dX2_tradeCost_11 ?_
      obtain ⟨_, _, o14⟩ := kLs_obj (dd := dd) (ks := ks) (ad := ad) (E := (cE dd E e)) (kLs_cE hT.2.1 (by omega) (by omega) (fun i hi => by omega))
      refine kv_calliV (ci := 2) (κ := 5) (r1 := (TJx4a65c, 3)) (As := []) [.int (nI i)] X (c_Jx4a65c_size_8abf5 l dd ks ad (cE dd E e) (5) (12) (nt) (fun i => 96 + i) 6 (kLs_cE hT.2.1 (by omega) (by omega) (fun i hi => by omega))) hl0 (kCV_of X 0 gX2_tradeCost_Jx4a65c_size_8abf5 rfl rfl rfl (by decide +kernel) hRR ⟨(Nat.le_of_ble_eq_true rfl), (Nat.le_of_ble_eq_true rfl)⟩) hT.2.1.1 o14 rfl rfl rfl (Nat.le_of_ble_eq_true rfl) hRR ⟨(Nat.le_of_ble_eq_true rfl), (Nat.le_of_ble_eq_true rfl)⟩ dX2_tradeCost_14 (fun r z hp => ?_)
      obtain rfl := hp
      refine kn_icmp_ge (x := i) (y := nt) (tgt := 70) X (by omega) (by omega) dX2_tradeCost_17 (by decide) (fun hc17 => ?_) (fun hc17 => absurd hc17 (by omega))
      refine kv_lload_n X 1 dX2_tradeCost_70 rfl rfl ?_
      exact kv_lreturn X hr (Nat.le_of_ble_eq_true rfl) (Nat.le_of_ble_eq_true rfl) ⟨e, ⟨rfl, by rw [show i = nt by omega]⟩, rfl⟩ dX2_tradeCost_71
    | succ n9 ih5 =>
      intro i hin5 _ 
      refine kv_iload X 0 dX2_tradeCost_5 rfl ?_
      refine kv_aload_n X 2 dX2_tradeCost_7 rfl rfl ?_
      refine kv_getfield X f_X2_tradeCost_39 (κ := 2) (fs := [.ref (ad 1), .ref (ad 17), .ref (ad 18), .ref (ad 19), .ref (ad 20), .ref (ad 21), .ref (ad 22), .ref (ad 23), .ref (ad 24)]) (v := .ref (ad 1)) hO.2.2.1.1 ((cE_ne (by omega)).trans hO.2.2.1.2) rfl dX2_tradeCost_8 ?_
      refine kv_getfield X f_X2_tradeCost_43 (κ := 1) (fs := [.ref (ad 3), .ref (ad 4), .ref (ad 5), .ref (ad 6), .ref (ad 7), .ref (ad 8), .ref (ad 9)]) (v := .ref (ad 5)) hO.2.1.1 ((cE_ne (by omega)).trans hO.2.1.2) rfl dX2_tradeCost_11 ?_
      obtain ⟨_, _, o14⟩ := kLs_obj (dd := dd) (ks := ks) (ad := ad) (E := (cE dd E e)) (kLs_cE hT.2.1 (by omega) (by omega) (fun i hi => by omega))
      refine kv_calliV (ci := 2) (κ := 5) (r1 := (TJx4a65c, 3)) (As := []) [.int (nI i)] X (c_Jx4a65c_size_8abf5 l dd ks ad (cE dd E e) (5) (12) (nt) (fun i => 96 + i) 6 (kLs_cE hT.2.1 (by omega) (by omega) (fun i hi => by omega))) hl0 (kCV_of X 0 gX2_tradeCost_Jx4a65c_size_8abf5 rfl rfl rfl (by decide +kernel) hRR ⟨(Nat.le_of_ble_eq_true rfl), (Nat.le_of_ble_eq_true rfl)⟩) hT.2.1.1 o14 rfl rfl rfl (Nat.le_of_ble_eq_true rfl) hRR ⟨(Nat.le_of_ble_eq_true rfl), (Nat.le_of_ble_eq_true rfl)⟩ dX2_tradeCost_14 (fun r z hp => ?_)
      obtain rfl := hp
      refine kn_icmp_ge (x := i) (y := nt) (tgt := 70) X (by omega) (by omega) dX2_tradeCost_17 (by decide) (fun hc17 => absurd hc17 (by omega)) (fun hc17 => ?_)
      refine kv_aload_n X 2 dX2_tradeCost_20 rfl rfl ?_
      refine kv_getfield X f_X2_tradeCost_39 (κ := 2) (fs := [.ref (ad 1), .ref (ad 17), .ref (ad 18), .ref (ad 19), .ref (ad 20), .ref (ad 21), .ref (ad 22), .ref (ad 23), .ref (ad 24)]) (v := .ref (ad 1)) hO.2.2.1.1 ((cE_ne (by omega)).trans hO.2.2.1.2) rfl dX2_tradeCost_21 ?_
      refine kv_getfield X f_X2_tradeCost_43 (κ := 1) (fs := [.ref (ad 3), .ref (ad 4), .ref (ad 5), .ref (ad 6), .ref (ad 7), .ref (ad 8), .ref (ad 9)]) (v := .ref (ad 5)) hO.2.1.1 ((cE_ne (by omega)).trans hO.2.1.2) rfl dX2_tradeCost_24 ?_
      refine kv_iload X 0 dX2_tradeCost_27 rfl ?_
      obtain ⟨_, _, o29⟩ := kLs_obj (dd := dd) (ks := ks) (ad := ad) (E := (cE dd E e)) (kLs_cE hT.2.1 (by omega) (by omega) (fun i hi => by omega))
      refine kv_callqV (ci := 2) (κ := 5) (r1 := (TJx4a65c, 3)) (As := [.int (nI i)]) [] X (c_Jx4a65c_get_915e3 l dd ks ad (cE dd E e) (5) (12) (nt) (fun i => 96 + i) 6 (kLs_cE hT.2.1 (by omega) (by omega) (fun i hi => by omega)) i (by omega)) hl0 (kCV_of X 1 gX2_tradeCost_Jx4a65c_get_915e3 rfl rfl rfl (by decide +kernel) hRR ⟨(Nat.le_of_ble_eq_true rfl), (Nat.le_of_ble_eq_true rfl)⟩) hT.2.1.1 o29 rfl rfl rfl (Nat.le_of_ble_eq_true rfl) hRR ⟨(Nat.le_of_ble_eq_true rfl), (Nat.le_of_ble_eq_true rfl)⟩ dX2_tradeCost_29 (fun r z hp => ?_)
      obtain rfl := hp
      refine kv_topg (.ref (ad (96 + i))) rfl ?_
      refine kv_cast X (κ := 96 + i) (ci := 6) (fs := [.int (M.2.1 11 i), .ref (ad (112 + i))]) (r := (RX3, TX3, 2)) (List.mem_cons_of_mem _ (List.mem_append_left _ (List.mem_append_left _ (List.mem_append_left _ (List.mem_append_left _ (List.mem_append_left _ (List.mem_append_left _ (List.mem_append_left _ (List.mem_of_getElem? (i := 2) rfl))))))))) (hT.2.2 i (by omega)).1 ((cE_ne (by omega)).trans (hT.2.2 i (by omega)).2.1) rfl dX2_tradeCost_32 ?_
      refine kv_getfield X f_X2_tradeCost_217 (κ := 96 + i) (fs := [.int (M.2.1 11 i), .ref (ad (112 + i))]) (v := .int (M.2.1 11 i)) (hT.2.2 i (by omega)).1 ((cE_ne (by omega)).trans (hT.2.2 i (by omega)).2.1) rfl dX2_tradeCost_35 ?_
      refine kv_iload_n X 3 dX2_tradeCost_38 rfl rfl ?_
      refine kv_icmp_ne (tgt := 64) X dX2_tradeCost_39 (by decide) (fun hc39 => ?_) (fun hc39 => ?_)
      ·
        refine kv_L [(4, .int (nI i)), (2, .long (ctr (M.2.1 11) (fun i => e.2 22 i * cou (e.2 (25 + i)) (M.2.1 3) nR) t0 (i + 1))), (0, .ref (ad 2)), (1, .int t0)] (by rw [ctr, if_neg hc39, Int64.add_zero]) ?_
        refine kv_iinc (j := 0) (v := (nI (i + 1))) (lv2 := [(4, .int (nI (i + 1))), (2, .long (ctr (M.2.1 11) (fun i => e.2 22 i * cou (e.2 (25 + i)) (M.2.1 3) nR) t0 (i + 1))), (0, .ref (ad 2)), (1, .int t0)]) X dX2_tradeCost_64 rfl (nI_add i 1) (by rw [hnL]; decide) rfl ?_
        refine kv_goto (tgt := 5) X dX2_tradeCost_67 (by decide) ?_
        exact kv_lv [0, 1, 2, 3] rfl (ih5 (i + 1) (by omega) ())
      ·
        refine kv_lload_n X 1 dX2_tradeCost_42 rfl rfl ?_
        refine kv_aload_n X 2 dX2_tradeCost_43 rfl rfl ?_
        refine kv_getfield X f_X2_tradeCost_29 (κ := 2) (fs := [.ref (ad 1), .ref (ad 17), .ref (ad 18), .ref (ad 19), .ref (ad 20), .ref (ad 21), .ref (ad 22), .ref (ad 23), .ref (ad 24)]) (v := .ref (ad 22)) hO.2.2.1.1 ((cE_ne (by omega)).trans hO.2.2.1.2) rfl dX2_tradeCost_44 ?_
        refine kv_iload X 0 dX2_tradeCost_47 rfl ?_
        refine ke_lald X (22) (j := i) (hO.2.2.2.1 _ (by omega) (by omega)) (by omega) (by unfold eLen; split <;> omega) dX2_tradeCost_49 ?_
        refine kv_aload_n X 2 dX2_tradeCost_50 rfl rfl ?_
        refine kv_aload_n X 2 dX2_tradeCost_51 rfl rfl ?_
        refine kv_getfield X f_X2_tradeCost_23 (κ := 2) (fs := [.ref (ad 1), .ref (ad 17), .ref (ad 18), .ref (ad 19), .ref (ad 20), .ref (ad 21), .ref (ad 22), .ref (ad 23), .ref (ad 24)]) (v := .ref (ad 20)) hO.2.2.1.1 ((cE_ne (by omega)).trans hO.2.2.1.2) rfl dX2_tradeCost_52 ?_
        refine kv_iload X 0 dX2_tradeCost_55 rfl ?_
        refine kv_aaloadJ X (κ := 20) (n := 12) (j := i) (f := f20) (hO.2.2.2.1 _ (by omega) (by omega)) ((cE_ne (by omega)).trans hf20) (by omega) (by omega) dX2_tradeCost_57 ?_
        refine kv_topg (.ref (ad (25 + i))) (by rw [(hff i (by omega)).1]; rfl) ?_
        refine kv_calllV (ci := 5) (κ := 2) (r1 := (TX2, 9)) (As := [.ref (ad (25 + i))]) [.long ((e.2 22) i), .long (ctr (M.2.1 11) (fun i => e.2 22 i * cou (e.2 (25 + i)) (M.2.1 3) nR) t0 i)] X (c_X2_costOfUnits l dd ks ad E e M nR nC nt nL nW nV nM cn nm mn me li rl on hO hR hC hT hL hW hV hM hB (25 + i) (by omega)) hl0 (kCV_of X 1 gX2_tradeCost_X2_costOfUnits rfl rfl rfl (by decide +kernel) hRR ⟨(Nat.le_of_ble_eq_true rfl), (Nat.le_of_ble_eq_true rfl)⟩) hO.2.2.1.1 ((cE_ne (by omega)).trans hO.2.2.1.2) rfl rfl rfl (Nat.le_of_ble_eq_true rfl) hRR ⟨(Nat.le_of_ble_eq_true rfl), (Nat.le_of_ble_eq_true rfl)⟩ dX2_tradeCost_58 (fun r z hp => ?_)
        obtain ⟨rfl, rfl⟩ := hp
        refine kv_lmul X dX2_tradeCost_61 ?_
        refine kv_ladd X dX2_tradeCost_62 ?_
        refine kv_topl (ctr (M.2.1 11) (fun i => e.2 22 i * cou (e.2 (25 + i)) (M.2.1 3) nR) t0 (i + 1)) (by rw [ctr, if_pos hc39]) ?_
        refine kv_lstore_n (lv2 := [(2, .long (ctr (M.2.1 11) (fun i => e.2 22 i * cou (e.2 (25 + i)) (M.2.1 3) nR) t0 (i + 1))), (4, .int (nI i)), (0, .ref (ad 2)), (1, .int t0)]) X dX2_tradeCost_63 rfl (by rw [hnL]; decide) rfl ?_
        refine kv_iinc (j := 1) (v := (nI (i + 1))) (lv2 := [(4, .int (nI (i + 1))), (2, .long (ctr (M.2.1 11) (fun i => e.2 22 i * cou (e.2 (25 + i)) (M.2.1 3) nR) t0 (i + 1))), (0, .ref (ad 2)), (1, .int t0)]) X dX2_tradeCost_64 rfl (nI_add i 1) (by rw [hnL]; decide) rfl ?_
        refine kv_goto (tgt := 5) X dX2_tradeCost_67 (by decide) ?_
        exact kv_lv [0, 1, 2, 3] rfl (ih5 (i + 1) (by omega) ())
  exact kv_lv [0, 1, 2, 3] rfl (L5 nt 0 (by omega) ())

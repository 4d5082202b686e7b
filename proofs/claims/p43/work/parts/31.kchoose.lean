/-! the estimate: what is meant, how deep it is -/
def cmx (so f : Nat → Int32) (b : Nat) : Nat → Int32
  | 0 => 0
  | n + 1 => if so (b + n) = 0 then (if cmx so f b n < f (b + n) then f (b + n) else cmx so f b n) else cmx so f b n
/-- one pass over n items, in place -/
def cps (so : Nat → Int32) (cn nx : Nat → Nat) (D : Nat → Int32) : Nat → Nat → Int32
  | 0 => D
  | i + 1 => va_up (cps so cn nx D i) i (1 + cmx so (fun k => cps so cn nx D i (nx k)) (4 * i) (cn i))
def cpt (so : Nat → Int32) (cn nx : Nat → Nat) (nt : Nat) (D : Nat → Int32) : Nat → Nat → Int32
  | 0 => D
  | t + 1 => cps so cn nx (cpt so cn nx nt D t) nt


set_option maxRecDepth 100000 in
set_option maxHeartbeats 4000000 in
theorem c_X10_hasBit (l : Launch) (dd : kDD) (ks : List Nat) (ad : Nat → Nat) (E : Nat → va_E) (x y : Int32) : kCi l yX10_hasBit wsX10_hasBit ({ frames := 0, cells := 0, slots := 0, locals := 0 } : Room) 0 0 dd [.int x, .int y] (ks, ad, E) (kQi (S := Unit) (fun r z => (x >>> (y &&& 31) &&& 1 = 1 ∧ r = 1) ∨ (¬ x >>> (y &&& 31) &&& 1 = 1 ∧ r = 0)) (fun _ => ks) (fun _ => ad) (fun _ => E)) := by
  refine kMeti (ws' := _) (cc := cX10_hasBit) (maxL := 2) (rt := .boolean) (by decide) rfl (Nat.le_of_ble_eq_true rfl) (fun g X hr hnL hRR hl0 hkn => ?_)
  show kv dd g 0 0 0 [(0, .int x), (1, .int y)] [] ks ad E
  refine kv_iload_n X 0 dX10_hasBit_0 rfl rfl ?_
  refine kv_iload_n X 1 dX10_hasBit_1 rfl rfl ?_
  refine kv_ishr X dX10_hasBit_2 ?_
  refine kv_iconst (v := 1) X dX10_hasBit_3 (by decide) ?_
  refine kv_iand X dX10_hasBit_4 ?_
  refine kv_iconst (v := 1) X dX10_hasBit_5 (by decide) ?_
  refine kv_icmp_ne (tgt := 13) X dX10_hasBit_6 (by decide) (fun hc6 => ?_) (fun hc6 => ?_)
  ·
    refine kv_iconst (v := 0) X dX10_hasBit_13 (by decide) ?_
    exact kv_zreturn X hr rfl (Nat.le_of_ble_eq_true rfl) (Nat.le_of_ble_eq_true rfl) ⟨(), Or.inr ⟨hc6, rfl⟩, rfl⟩ dX10_hasBit_14
  ·
    refine kv_iconst (v := 1) X dX10_hasBit_9 (by decide) ?_
    refine kv_goto (tgt := 14) X dX10_hasBit_10 (by decide) ?_
    exact kv_zreturn X hr rfl (Nat.le_of_ble_eq_true rfl) (Nat.le_of_ble_eq_true rfl) ⟨(), Or.inl ⟨hc6, rfl⟩, rfl⟩ dX10_hasBit_14
theorem f_X2_meantItem_39 : kF wsX2_meantItem RX2 39 5 0 := ⟨_, RX2, TX2, 9, fun _ h => (List.mem_cons_of_mem _ (List.mem_append_left _ (List.mem_append_left _ (List.mem_append_left _ (List.mem_append_left _ (List.mem_append_right _ h)))))), (List.mem_cons_of_mem _ (List.mem_append_left _ (List.mem_append_left _ (List.mem_append_left _ (List.mem_append_left _ (List.mem_append_left _ (List.mem_append_left _ (List.mem_of_getElem? (i := 0) rfl)))))))), rfl, by decide, rfl⟩
theorem f_X2_meantItem_69 : kF wsX2_meantItem RX2 69 9 5 := ⟨_, RX6, TX6, 7, fun _ h => (List.mem_cons_of_mem _ (List.mem_append_left _ (List.mem_append_left _ (List.mem_append_left _ (List.mem_append_right _ h))))), (List.mem_cons_of_mem _ (List.mem_append_left _ (List.mem_append_left _ (List.mem_append_left _ (List.mem_append_left _ (List.mem_append_left _ (List.mem_append_left _ (List.mem_of_getElem? (i := 1) rfl)))))))), rfl, by decide, rfl⟩
theorem f_X2_meantItem_78 : kF wsX2_meantItem RX2 78 12 0 := ⟨_, RX9, TX9, 2, fun _ h => (List.mem_cons_of_mem _ (List.mem_append_left _ (List.mem_append_left _ (List.mem_append_right _ h)))), (List.mem_cons_of_mem _ (List.mem_append_left _ (List.mem_append_left _ (List.mem_append_left _ (List.mem_append_left _ (List.mem_append_left _ (List.mem_append_left _ (List.mem_of_getElem? (i := 3) rfl)))))))), rfl, by decide, rfl⟩
set_option maxRecDepth 100000 in
set_option maxHeartbeats 4000000 in
theorem c_X2_meantItem (l : Launch) (dd : kDD) (ks : List Nat) (ad : Nat → Nat) (E : Nat → va_E) (e : eS) (M : mS) (nR nC nt nL nW nV nM : Nat) (cn nm mn me li rl : Nat → Nat) (on : Int32) (hO : cO dd ks ad E on) (hR : cR dd ks ad E M nR) (hC : cC dd ks ad E M nC mn me) (hT : cT dd ks ad E M nt cn nm) (hL : cL dd ks ad E M nL nW li) (hW : cW dd ks ad E M nW rl) (hV : cV dd ks ad E M nV) (hM : cM dd ks ad E M nM) (hB : cB M nR nC nt nL nW nV cn nm mn me li rl) (o : Int32) (j : Nat) (hj : j < 12) : kCi l yX2_meantItem wsX2_meantItem ({ frames := 3, cells := 0, slots := 0, locals := 64 } : Room) 0 0 dd [.ref (ad 2), .int o, .int (nI j)] (ks, ad, (cE dd E e)) (kQi (S := eS) (fun r z => e = z ∧ r = mnt o (M.2.1 22) j nV 0) (fun _ => ks) (fun _ => ad) (fun z => cE dd E z)) := by
  refine kMeti (ws' := _) (cc := cX2_meantItem) (maxL := 5) (rt := .int) (by decide) rfl (Nat.le_of_ble_eq_true rfl) (fun g X hr hnL hRR hl0 hkn => ?_)
  show kv dd g 0 0 0 [(0, .ref (ad 2)), (1, .int o), (2, .int (nI j))] [] ks ad (cE dd E e)
  have hV4 := hV.1
  refine kv_iconst (v := 0) X dX2_meantItem_0 (by decide) ?_
  refine kv_istore_n (lv2 := [(3, .int 0), (0, .ref (ad 2)), (1, .int o), (2, .int (nI j))]) X dX2_meantItem_1 rfl (by rw [hnL]; decide) rfl ?_
  have L2 : ∀ (n9 i : Nat), i + n9 = nV → ∀ (_ : Unit) (hv : mnt o (M.2.1 22) j nV 0 = mnt o (M.2.1 22) j n9 i), kv dd g 0 0 2 [(3, .int (nI i)), (0, .ref (ad 2)), (1, .int o), (2, .int (nI j))] [] ks ad (cE dd E e) := by
    intro n9
    induction n9 with
    | zero =>
      intro i hin2 _ hv
      refine kv_iload_n X 0 dX2_meantItem_2 rfl rfl ?_
      refine kv_aload_n X 1 dX2_meantItem_3 rfl rfl ?_
      refine kv_getfield X f_X2_meantItem_39 (κ := 2) (fs := [.ref (ad 1), .ref (ad 17), .ref (ad 18), .ref (ad 19), .ref (ad 20), .ref (ad 21), .ref (ad 22), .ref (ad 23), .ref (ad 24)]) (v := .ref (ad 1)) hO.2.2.1.1 ((cE_ne (by omega)).trans hO.2.2.1.2) rfl dX2_meantItem_4 ?_
      refine kv_getfield X f_X2_meantItem_69 (κ := 1) (fs := [.ref (ad 3), .ref (ad 4), .ref (ad 5), .ref (ad 6), .ref (ad 7), .ref (ad 8), .ref (ad 9)]) (v := .ref (ad 8)) hO.2.1.1 ((cE_ne (by omega)).trans hO.2.1.2) rfl dX2_meantItem_7 ?_
      obtain ⟨_, _, o10⟩ := kLs_obj (dd := dd) (ks := ks) (ad := ad) (E := (cE dd E e)) (kLs_cE hV.2.1 (by omega) (by omega) (fun i hi => by omega))
      refine kv_calliV (ci := 2) (κ := 8) (r1 := (TJx4a65c, 3)) (As := []) [.int (nI i)] X (c_Jx4a65c_size_8abf5 l dd ks ad (cE dd E e) (8) (15) (nV) (fun v => 272 + v) 12 (kLs_cE hV.2.1 (by omega) (by omega) (fun i hi => by omega))) hl0 (kCV_of X 0 gX2_meantItem_Jx4a65c_size_8abf5 rfl rfl rfl (by decide +kernel) hRR ⟨(Nat.le_of_ble_eq_true rfl), (Nat.le_of_ble_eq_true rfl)⟩) hV.2.1.1 o10 rfl rfl rfl (Nat.le_of_ble_eq_true rfl) hRR ⟨(Nat.le_of_ble_eq_true rfl), (Nat.le_of_ble_eq_true rfl)⟩ dX2_meantItem_10 (fun r z hp => ?_)
      obtain rfl := hp
      refine kn_icmp_ge (x := i) (y := nV) (tgt := 60) X (by omega) (by omega) dX2_meantItem_13 (by decide) (fun hc13 => ?_) (fun hc13 => absurd hc13 (by omega))
      refine kv_iload_n X 3 dX2_meantItem_60 rfl rfl ?_
      exact kv_ireturn X hr (Nat.le_of_ble_eq_true rfl) (Nat.le_of_ble_eq_true rfl) ⟨e, ⟨rfl, by rw [hv]; rfl⟩, rfl⟩ dX2_meantItem_61
    | succ n9 ih2 =>
      intro i hin2 _ hv
      refine kv_iload_n X 0 dX2_meantItem_2 rfl rfl ?_
      refine kv_aload_n X 1 dX2_meantItem_3 rfl rfl ?_
      refine kv_getfield X f_X2_meantItem_39 (κ := 2) (fs := [.ref (ad 1), .ref (ad 17), .ref (ad 18), .ref (ad 19), .ref (ad 20), .ref (ad 21), .ref (ad 22), .ref (ad 23), .ref (ad 24)]) (v := .ref (ad 1)) hO.2.2.1.1 ((cE_ne (by omega)).trans hO.2.2.1.2) rfl dX2_meantItem_4 ?_
      refine kv_getfield X f_X2_meantItem_69 (κ := 1) (fs := [.ref (ad 3), .ref (ad 4), .ref (ad 5), .ref (ad 6), .ref (ad 7), .ref (ad 8), .ref (ad 9)]) (v := .ref (ad 8)) hO.2.1.1 ((cE_ne (by omega)).trans hO.2.1.2) rfl dX2_meantItem_7 ?_
      obtain ⟨_, _, o10⟩ := kLs_obj (dd := dd) (ks := ks) (ad := ad) (E := (cE dd E e)) (kLs_cE hV.2.1 (by omega) (by omega) (fun i hi => by omega))
      refine kv_calliV (ci := 2) (κ := 8) (r1 := (TJx4a65c, 3)) (As := []) [.int (nI i)] X (c_Jx4a65c_size_8abf5 l dd ks ad (cE dd E e) (8) (15) (nV) (fun v => 272 + v) 12 (kLs_cE hV.2.1 (by omega) (by omega) (fun i hi => by omega))) hl0 (kCV_of X 0 gX2_meantItem_Jx4a65c_size_8abf5 rfl rfl rfl (by decide +kernel) hRR ⟨(Nat.le_of_ble_eq_true rfl), (Nat.le_of_ble_eq_true rfl)⟩) hV.2.1.1 o10 rfl rfl rfl (Nat.le_of_ble_eq_true rfl) hRR ⟨(Nat.le_of_ble_eq_true rfl), (Nat.le_of_ble_eq_true rfl)⟩ dX2_meantItem_10 (fun r z hp => ?_)
      obtain rfl := hp
      refine kn_icmp_ge (x := i) (y := nV) (tgt := 60) X (by omega) (by omega) dX2_meantItem_13 (by decide) (fun hc13 => absurd hc13 (by omega)) (fun hc13 => ?_)
      refine kv_aload_n X 1 dX2_meantItem_16 rfl rfl ?_
      refine kv_getfield X f_X2_meantItem_39 (κ := 2) (fs := [.ref (ad 1), .ref (ad 17), .ref (ad 18), .ref (ad 19), .ref (ad 20), .ref (ad 21), .ref (ad 22), .ref (ad 23), .ref (ad 24)]) (v := .ref (ad 1)) hO.2.2.1.1 ((cE_ne (by omega)).trans hO.2.2.1.2) rfl dX2_meantItem_17 ?_
      refine kv_getfield X f_X2_meantItem_69 (κ := 1) (fs := [.ref (ad 3), .ref (ad 4), .ref (ad 5), .ref (ad 6), .ref (ad 7), .ref (ad 8), .ref (ad 9)]) (v := .ref (ad 8)) hO.2.1.1 ((cE_ne (by omega)).trans hO.2.1.2) rfl dX2_meantItem_20 ?_
      refine kv_iload_n X 0 dX2_meantItem_23 rfl rfl ?_
      obtain ⟨_, _, o24⟩ := kLs_obj (dd := dd) (ks := ks) (ad := ad) (E := (cE dd E e)) (kLs_cE hV.2.1 (by omega) (by omega) (fun i hi => by omega))
      refine kv_callqV (ci := 2) (κ := 8) (r1 := (TJx4a65c, 3)) (As := [.int (nI i)]) [] X (c_Jx4a65c_get_915e3 l dd ks ad (cE dd E e) (8) (15) (nV) (fun v => 272 + v) 12 (kLs_cE hV.2.1 (by omega) (by omega) (fun i hi => by omega)) i (by omega)) hl0 (kCV_of X 1 gX2_meantItem_Jx4a65c_get_915e3 rfl rfl rfl (by decide +kernel) hRR ⟨(Nat.le_of_ble_eq_true rfl), (Nat.le_of_ble_eq_true rfl)⟩) hV.2.1.1 o24 rfl rfl rfl (Nat.le_of_ble_eq_true rfl) hRR ⟨(Nat.le_of_ble_eq_true rfl), (Nat.le_of_ble_eq_true rfl)⟩ dX2_meantItem_24 (fun r z hp => ?_)
      obtain rfl := hp
      refine kv_topg (.ref (ad (272 + i))) rfl ?_
      refine kv_cast X (κ := 272 + i) (ci := 12) (fs := [.ref (ad (276 + i)), .ref (ad (280 + i))]) (r := (RX9, TX9, 2)) (List.mem_cons_of_mem _ (List.mem_append_left _ (List.mem_append_left _ (List.mem_append_left _ (List.mem_append_left _ (List.mem_append_left _ (List.mem_append_left _ (List.mem_of_getElem? (i := 2) rfl)))))))) (hV.2.2 i (by omega)).1 ((cE_ne (by omega)).trans (hV.2.2 i (by omega)).2.1) rfl dX2_meantItem_27 ?_
      obtain ⟨g1, g2, hg1, hg2, hgg⟩ := (hV.2.2 i (by omega)).2.2.2.2
      refine kv_getfield X f_X2_meantItem_78 (κ := 272 + i) (fs := [.ref (ad (276 + i)), .ref (ad (280 + i))]) (v := .ref (ad (276 + i))) (hV.2.2 i (by omega)).1 ((cE_ne (by omega)).trans (hV.2.2 i (by omega)).2.1) rfl dX2_meantItem_30 ?_
      refine kv_iload_n X 3 dX2_meantItem_33 rfl rfl ?_
      refine kv_iaload X (κ := 276 + i) (n := 12) (j := j) (f := g1) (hV.2.2 i (by omega)).2.2.1 ((cE_ne (by omega)).trans hg1) (by omega) (by omega) dX2_meantItem_34 ?_
      refine kv_topi ((M.2.1 22) (12 * i + j)) (hgg j hj).1 ?_
      refine kv_istore (lv2 := [(4, .int ((M.2.1 22) (12 * i + j))), (3, .int (nI i)), (0, .ref (ad 2)), (1, .int o), (2, .int (nI j))]) X dX2_meantItem_35 (by rw [hnL]; decide) rfl ?_
      refine kv_iload_n X 3 dX2_meantItem_37 rfl rfl ?_
      refine kv_iload_n X 1 dX2_meantItem_38 rfl rfl ?_
      refine kv_calliSN (As := [.int o, .int (nI i)]) [] X (c_X10_hasBit l dd ks ad (cE dd E e) o (nI i)) hl0 (kCSN_of (host := "Takeoff") X 2 gX2_meantItem_X10_hasBit_n81 (List.mem_cons_of_mem _ (List.mem_append_left _ (List.mem_append_left _ (List.mem_append_left _ (List.mem_append_left _ (List.mem_append_left _ (List.mem_append_right _ (List.mem_of_getElem? (i := 4) rfl)))))))) (by decide) (List.mem_cons_of_mem _ (List.mem_append_left _ (List.mem_append_left _ (List.mem_append_left _ (List.mem_append_left _ (List.mem_append_left _ (List.mem_append_right _ (List.mem_of_getElem? (i := 3) rfl)))))))) rfl rfl rfl (by decide +kernel) hRR ⟨(Nat.le_of_ble_eq_true rfl), (Nat.le_of_ble_eq_true rfl)⟩) rfl rfl (Nat.le_of_ble_eq_true rfl) hRR ⟨(Nat.le_of_ble_eq_true rfl), (Nat.le_of_ble_eq_true rfl)⟩ dX2_meantItem_39 (fun r z hp => ?_)
      obtain ⟨hb39, rfl⟩ | ⟨hb39, rfl⟩ := hp
      ·
        refine kv_if_eq (tgt := 54) X dX2_meantItem_42 (by decide) (fun hc => absurd hc (by decide)) (fun hc42 => ?_)
        refine kv_iload X 0 dX2_meantItem_45 rfl ?_
        refine kv_iconst (v := (-1)) X dX2_meantItem_47 (by decide) ?_
        refine kv_icmp_eq (tgt := 54) X dX2_meantItem_48 (by decide) (fun hc48 => ?_) (fun hc48 => ?_)
        ·
          refine kv_iinc (j := 1) (v := (nI (i + 1))) (lv2 := [(3, .int (nI (i + 1))), (4, .int ((M.2.1 22) (12 * i + j))), (0, .ref (ad 2)), (1, .int o), (2, .int (nI j))]) X dX2_meantItem_54 rfl (nI_add i 1) (by rw [hnL]; decide) rfl ?_
          refine kv_goto (tgt := 2) X dX2_meantItem_57 (by decide) ?_
          exact kv_lv [0, 2, 3, 4] rfl (ih2 (i + 1) (by omega) () (hv.trans (by rw [mnt, if_neg (by first | exact fun y => hb39 y.1 | exact fun y => y.2 hc48)])))
        ·
          refine kv_iload X 0 dX2_meantItem_51 rfl ?_
          exact kv_ireturn X hr (Nat.le_of_ble_eq_true rfl) (Nat.le_of_ble_eq_true rfl) ⟨e, ⟨rfl, by rw [hv, mnt, if_pos ⟨hb39, hc48⟩]⟩, rfl⟩ dX2_meantItem_53
      ·
        refine kv_if_eq (tgt := 54) X dX2_meantItem_42 (by decide) (fun hc42 => ?_) (fun hc => absurd hc (by decide))
        refine kv_iinc (j := 1) (v := (nI (i + 1))) (lv2 := [(3, .int (nI (i + 1))), (4, .int ((M.2.1 22) (12 * i + j))), (0, .ref (ad 2)), (1, .int o), (2, .int (nI j))]) X dX2_meantItem_54 rfl (nI_add i 1) (by rw [hnL]; decide) rfl ?_
        refine kv_goto (tgt := 2) X dX2_meantItem_57 (by decide) ?_
        exact kv_lv [0, 2, 3, 4] rfl (ih2 (i + 1) (by omega) () (hv.trans (by rw [mnt, if_neg (by first | exact fun y => hb39 y.1 | exact fun y => y.2 hc48)])))
  exact kv_lv [0, 1, 2, 3] rfl (L2 nV 0 (by omega) () rfl)
theorem f_X2_meantResource_39 : kF wsX2_meantResource RX2 39 5 0 := ⟨_, RX2, TX2, 9, fun _ h => (List.mem_cons_of_mem _ (List.mem_append_left _ (List.mem_append_left _ (List.mem_append_left _ (List.mem_append_left _ (List.mem_append_right _ h)))))), (List.mem_cons_of_mem _ (List.mem_append_left _ (List.mem_append_left _ (List.mem_append_left _ (List.mem_append_left _ (List.mem_append_left _ (List.mem_append_left _ (List.mem_of_getElem? (i := 0) rfl)))))))), rfl, by decide, rfl⟩
theorem f_X2_meantResource_69 : kF wsX2_meantResource RX2 69 9 5 := ⟨_, RX6, TX6, 7, fun _ h => (List.mem_cons_of_mem _ (List.mem_append_left _ (List.mem_append_left _ (List.mem_append_left _ (List.mem_append_right _ h))))), (List.mem_cons_of_mem _ (List.mem_append_left _ (List.mem_append_left _ (List.mem_append_left _ (List.mem_append_left _ (List.mem_append_left _ (List.mem_append_left _ (List.mem_of_getElem? (i := 1) rfl)))))))), rfl, by decide, rfl⟩
theorem f_X2_meantResource_85 : kF wsX2_meantResource RX2 85 12 1 := ⟨_, RX9, TX9, 2, fun _ h => (List.mem_cons_of_mem _ (List.mem_append_left _ (List.mem_append_left _ (List.mem_append_right _ h)))), (List.mem_cons_of_mem _ (List.mem_append_left _ (List.mem_append_left _ (List.mem_append_left _ (List.mem_append_left _ (List.mem_append_left _ (List.mem_append_left _ (List.mem_of_getElem? (i := 3) rfl)))))))), rfl, by decide, rfl⟩
set_option maxRecDepth 100000 in
set_option maxHeartbeats 4000000 in
theorem c_X2_meantResource (l : Launch) (dd : kDD) (ks : List Nat) (ad : Nat → Nat) (E : Nat → va_E) (e : eS) (M : mS) (nR nC nt nL nW nV nM : Nat) (cn nm mn me li rl : Nat → Nat) (on : Int32) (hO : cO dd ks ad E on) (hR : cR dd ks ad E M nR) (hC : cC dd ks ad E M nC mn me) (hT : cT dd ks ad E M nt cn nm) (hL : cL dd ks ad E M nL nW li) (hW : cW dd ks ad E M nW rl) (hV : cV dd ks ad E M nV) (hM : cM dd ks ad E M nM) (hB : cB M nR nC nt nL nW nV cn nm mn me li rl) (o : Int32) (j : Nat) (hj : j < 12) : kCi l yX2_meantResource wsX2_meantResource ({ frames := 3, cells := 0, slots := 0, locals := 64 } : Room) 0 0 dd [.ref (ad 2), .int o, .int (nI j)] (ks, ad, (cE dd E e)) (kQi (S := eS) (fun r z => e = z ∧ r = mnt o (M.2.1 23) j nV 0) (fun _ => ks) (fun _ => ad) (fun z => cE dd E z)) := by
  refine kMeti (ws' := _) (cc := cX2_meantResource) (maxL := 5) (rt := .int) (by decide) rfl (Nat.le_of_ble_eq_true rfl) (fun g X hr hnL hRR hl0 hkn => ?_)
  show kv dd g 0 0 0 [(0, .ref (ad 2)), (1, .int o), (2, .int (nI j))] [] ks ad (cE dd E e)
  have hV4 := hV.1
  refine kv_iconst (v := 0) X dX2_meantResource_0 (by decide) ?_
  refine kv_istore_n (lv2 := [(3, .int 0), (0, .ref (ad 2)), (1, .int o), (2, .int (nI j))]) X dX2_meantResource_1 rfl (by rw [hnL]; decide) rfl ?_
  have L2 : ∀ (n9 i : Nat), i + n9 = nV → ∀ (_ : Unit) (hv : mnt o (M.2.1 23) j nV 0 = mnt o (M.2.1 23) j n9 i), kv dd g 0 0 2 [(3, .int (nI i)), (0, .ref (ad 2)), (1, .int o), (2, .int (nI j))] [] ks ad (cE dd E e) := by
    intro n9
    induction n9 with
    | zero =>
      intro i hin2 _ hv
      refine kv_iload_n X 0 dX2_meantResource_2 rfl rfl ?_
      refine kv_aload_n X 1 dX2_meantResource_3 rfl rfl ?_
      refine kv_getfield X f_X2_meantResource_39 (κ := 2) (fs := [.ref (ad 1), .ref (ad 17), .ref (ad 18), .ref (ad 19), .ref (ad 20), .ref (ad 21), .ref (ad 22), .ref (ad 23), .ref (ad 24)]) (v := .ref (ad 1)) hO.2.2.1.1 ((cE_ne (by omega)).trans hO.2.2.1.2) rfl dX2_meantResource_4 ?_
      refine kv_getfield X f_X2_meantResource_69 (κ := 1) (fs := [.ref (ad 3), .ref (ad 4), .ref (ad 5), .ref (ad 6), .ref (ad 7), .ref (ad 8), .ref (ad 9)]) (v := .ref (ad 8)) hO.2.1.1 ((cE_ne (by omega)).trans hO.2.1.2) rfl dX2_meantResource_7 ?_
      obtain ⟨_, _, o10⟩ := kLs_obj (dd := dd) (ks := ks) (ad := ad) (E := (cE dd E e)) (kLs_cE hV.2.1 (by omega) (by omega) (fun i hi => by omega))
      refine kv_calliV (ci := 2) (κ := 8) (r1 := (TJx4a65c, 3)) (As := []) [.int (nI i)] X (c_Jx4a65c_size_8abf5 l dd ks ad (cE dd E e) (8) (15) (nV) (fun v => 272 + v) 12 (kLs_cE hV.2.1 (by omega) (by omega) (fun i hi => by omega))) hl0 (kCV_of X 0 gX2_meantResource_Jx4a65c_size_8abf5 rfl rfl rfl (by decide +kernel) hRR ⟨(Nat.le_of_ble_eq_true rfl), (Nat.le_of_ble_eq_true rfl)⟩) hV.2.1.1 o10 rfl rfl rfl (Nat.le_of_ble_eq_true rfl) hRR ⟨(Nat.le_of_ble_eq_true rfl), (Nat.le_of_ble_eq_true rfl)⟩ dX2_meantResource_10 (fun r z hp => ?_)
      obtain rfl := hp
      refine kn_icmp_ge (x := i) (y := nV) (tgt := 60) X (by omega) (by omega) dX2_meantResource_13 (by decide) (fun hc13 => ?_) (fun hc13 => absurd hc13 (by omega))
      refine kv_iload_n X 3 dX2_meantResource_60 rfl rfl ?_
      exact kv_ireturn X hr (Nat.le_of_ble_eq_true rfl) (Nat.le_of_ble_eq_true rfl) ⟨e, ⟨rfl, by rw [hv]; rfl⟩, rfl⟩ dX2_meantResource_61
    | succ n9 ih2 =>
      intro i hin2 _ hv
      refine kv_iload_n X 0 dX2_meantResource_2 rfl rfl ?_
      refine kv_aload_n X 1 dX2_meantResource_3 rfl rfl ?_
      refine kv_getfield X f_X2_meantResource_39 (κ := 2) (fs := [.ref (ad 1), .ref (ad 17), .ref (ad 18), .ref (ad 19), .ref (ad 20), .ref (ad 21), .ref (ad 22), .ref (ad 23), .ref (ad 24)]) (v := .ref (ad 1)) hO.2.2.1.1 ((cE_ne (by omega)).trans hO.2.2.1.2) rfl dX2_meantResource_4 ?_
      refine kv_getfield X f_X2_meantResource_69 (κ := 1) (fs := [.ref (ad 3), .ref (ad 4), .ref (ad 5), .ref (ad 6), .ref (ad 7), .ref (ad 8), .ref (ad 9)]) (v := .ref (ad 8)) hO.2.1.1 ((cE_ne (by omega)).trans hO.2.1.2) rfl dX2_meantResource_7 ?_
      obtain ⟨_, _, o10⟩ := kLs_obj (dd := dd) (ks := ks) (ad := ad) (E := (cE dd E e)) (kLs_cE hV.2.1 (by omega) (by omega) (fun i hi => by omega))
      refine kv_calliV (ci := 2) (κ := 8) (r1 := (TJx4a65c, 3)) (As := []) [.int (nI i)] X (c_Jx4a65c_size_8abf5 l dd ks ad (cE dd E e) (8) (15) (nV) (fun v => 272 + v) 12 (kLs_cE hV.2.1 (by omega) (by omega) (fun i hi => by omega))) hl0 (kCV_of X 0 gX2_meantResource_Jx4a65c_size_8abf5 rfl rfl rfl (by decide +kernel) hRR ⟨(Nat.le_of_ble_eq_true rfl), (Nat.le_of_ble_eq_true rfl)⟩) hV.2.1.1 o10 rfl rfl rfl (Nat.le_of_ble_eq_true rfl) hRR ⟨(Nat.le_of_ble_eq_true rfl), (Nat.le_of_ble_eq_true rfl)⟩ dX2_meantResource_10 (fun r z hp => ?_)
      obtain rfl := hp
      refine kn_icmp_ge (x := i) (y := nV) (tgt := 60) X (by omega) (by omega) dX2_meantResource_13 (by decide) (fun hc13 => absurd hc13 (by omega)) (fun hc13 => ?_)
      refine kv_aload_n X 1 dX2_meantResource_16 rfl rfl ?_
      refine kv_getfield X f_X2_meantResource_39 (κ := 2) (fs := [.ref (ad 1), .ref (ad 17), .ref (ad 18), .ref (ad 19), .ref (ad 20), .ref (ad 21), .ref (ad 22), .ref (ad 23), .ref (ad 24)]) (v := .ref (ad 1)) hO.2.2.1.1 ((cE_ne (by omega)).trans hO.2.2.1.2) rfl dX2_meantResource_17 ?_
      refine kv_getfield X f_X2_meantResource_69 (κ := 1) (fs := [.ref (ad 3), .ref (ad 4), .ref (ad 5), .ref (ad 6), .ref (ad 7), .ref (ad 8), .ref (ad 9)]) (v := .ref (ad 8)) hO.2.1.1 ((cE_ne (by omega)).trans hO.2.1.2) rfl dX2_meantResource_20 ?_
      refine kv_iload_n X 0 dX2_meantResource_23 rfl rfl ?_
      obtain ⟨_, _, o24⟩ := kLs_obj (dd := dd) (ks := ks) (ad := ad) (E := (cE dd E e)) (kLs_cE hV.2.1 (by omega) (by omega) (fun i hi => by omega))
      refine kv_callqV (ci := 2) (κ := 8) (r1 := (TJx4a65c, 3)) (As := [.int (nI i)]) [] X (c_Jx4a65c_get_915e3 l dd ks ad (cE dd E e) (8) (15) (nV) (fun v => 272 + v) 12 (kLs_cE hV.2.1 (by omega) (by omega) (fun i hi => by omega)) i (by omega)) hl0 (kCV_of X 1 gX2_meantResource_Jx4a65c_get_915e3 rfl rfl rfl (by decide +kernel) hRR ⟨(Nat.le_of_ble_eq_true rfl), (Nat.le_of_ble_eq_true rfl)⟩) hV.2.1.1 o24 rfl rfl rfl (Nat.le_of_ble_eq_true rfl) hRR ⟨(Nat.le_of_ble_eq_true rfl), (Nat.le_of_ble_eq_true rfl)⟩ dX2_meantResource_24 (fun r z hp => ?_)
      obtain rfl := hp
      refine kv_topg (.ref (ad (272 + i))) rfl ?_
      refine kv_cast X (κ := 272 + i) (ci := 12) (fs := [.ref (ad (276 + i)), .ref (ad (280 + i))]) (r := (RX9, TX9, 2)) (List.mem_cons_of_mem _ (List.mem_append_left _ (List.mem_append_left _ (List.mem_append_left _ (List.mem_append_left _ (List.mem_append_left _ (List.mem_append_left _ (List.mem_of_getElem? (i := 2) rfl)))))))) (hV.2.2 i (by omega)).1 ((cE_ne (by omega)).trans (hV.2.2 i (by omega)).2.1) rfl dX2_meantResource_27 ?_
      obtain ⟨g1, g2, hg1, hg2, hgg⟩ := (hV.2.2 i (by omega)).2.2.2.2
      refine kv_getfield X f_X2_meantResource_85 (κ := 272 + i) (fs := [.ref (ad (276 + i)), .ref (ad (280 + i))]) (v := .ref (ad (280 + i))) (hV.2.2 i (by omega)).1 ((cE_ne (by omega)).trans (hV.2.2 i (by omega)).2.1) rfl dX2_meantResource_30 ?_
      refine kv_iload_n X 3 dX2_meantResource_33 rfl rfl ?_
      refine kv_iaload X (κ := 280 + i) (n := 12) (j := j) (f := g2) (hV.2.2 i (by omega)).2.2.2.1 ((cE_ne (by omega)).trans hg2) (by omega) (by omega) dX2_meantResource_34 ?_
      refine kv_topi ((M.2.1 23) (12 * i + j)) (hgg j hj).2 ?_
      refine kv_istore (lv2 := [(4, .int ((M.2.1 23) (12 * i + j))), (3, .int (nI i)), (0, .ref (ad 2)), (1, .int o), (2, .int (nI j))]) X dX2_meantResource_35 (by rw [hnL]; decide) rfl ?_
      refine kv_iload_n X 3 dX2_meantResource_37 rfl rfl ?_
      refine kv_iload_n X 1 dX2_meantResource_38 rfl rfl ?_
      refine kv_calliSN (As := [.int o, .int (nI i)]) [] X (c_X10_hasBit l dd ks ad (cE dd E e) o (nI i)) hl0 (kCSN_of (host := "Takeoff") X 2 gX2_meantResource_X10_hasBit_n81 (List.mem_cons_of_mem _ (List.mem_append_left _ (List.mem_append_left _ (List.mem_append_left _ (List.mem_append_left _ (List.mem_append_left _ (List.mem_append_right _ (List.mem_of_getElem? (i := 4) rfl)))))))) (by decide) (List.mem_cons_of_mem _ (List.mem_append_left _ (List.mem_append_left _ (List.mem_append_left _ (List.mem_append_left _ (List.mem_append_left _ (List.mem_append_right _ (List.mem_of_getElem? (i := 3) rfl)))))))) rfl rfl rfl (by decide +kernel) hRR ⟨(Nat.le_of_ble_eq_true rfl), (Nat.le_of_ble_eq_true rfl)⟩) rfl rfl (Nat.le_of_ble_eq_true rfl) hRR ⟨(Nat.le_of_ble_eq_true rfl), (Nat.le_of_ble_eq_true rfl)⟩ dX2_meantResource_39 (fun r z hp => ?_)
      obtain ⟨hb39, rfl⟩ | ⟨hb39, rfl⟩ := hp
      ·
        refine kv_if_eq (tgt := 54) X dX2_meantResource_42 (by decide) (fun hc => absurd hc (by decide)) (fun hc42 => ?_)
        refine kv_iload X 0 dX2_meantResource_45 rfl ?_
        refine kv_iconst (v := (-1)) X dX2_meantResource_47 (by decide) ?_
        refine kv_icmp_eq (tgt := 54) X dX2_meantResource_48 (by decide) (fun hc48 => ?_) (fun hc48 => ?_)
        ·
          refine kv_iinc (j := 1) (v := (nI (i + 1))) (lv2 := [(3, .int (nI (i + 1))), (4, .int ((M.2.1 23) (12 * i + j))), (0, .ref (ad 2)), (1, .int o), (2, .int (nI j))]) X dX2_meantResource_54 rfl (nI_add i 1) (by rw [hnL]; decide) rfl ?_
          refine kv_goto (tgt := 2) X dX2_meantResource_57 (by decide) ?_
          exact kv_lv [0, 2, 3, 4] rfl (ih2 (i + 1) (by omega) () (hv.trans (by rw [mnt, if_neg (by first | exact fun y => hb39 y.1 | exact fun y => y.2 hc48)])))
        ·
          refine kv_iload X 0 dX2_meantResource_51 rfl ?_
          exact kv_ireturn X hr (Nat.le_of_ble_eq_true rfl) (Nat.le_of_ble_eq_true rfl) ⟨e, ⟨rfl, by rw [hv, mnt, if_pos ⟨hb39, hc48⟩]⟩, rfl⟩ dX2_meantResource_53
      ·
        refine kv_if_eq (tgt := 54) X dX2_meantResource_42 (by decide) (fun hc42 => ?_) (fun hc => absurd hc (by decide))
        refine kv_iinc (j := 1) (v := (nI (i + 1))) (lv2 := [(3, .int (nI (i + 1))), (4, .int ((M.2.1 23) (12 * i + j))), (0, .ref (ad 2)), (1, .int o), (2, .int (nI j))]) X dX2_meantResource_54 rfl (nI_add i 1) (by rw [hnL]; decide) rfl ?_
        refine kv_goto (tgt := 2) X dX2_meantResource_57 (by decide) ?_
        exact kv_lv [0, 2, 3, 4] rfl (ih2 (i + 1) (by omega) () (hv.trans (by rw [mnt, if_neg (by first | exact fun y => hb39 y.1 | exact fun y => y.2 hc48)])))
  exact kv_lv [0, 1, 2, 3] rfl (L2 nV 0 (by omega) () rfl)
theorem f_X2_deepestPart_39 : kF wsX2_deepestPart RX2 39 5 0 := ⟨_, RX2, TX2, 9, fun _ h => (List.mem_cons_of_mem _ (List.mem_append_left _ (List.mem_append_left _ (List.mem_append_left _ (List.mem_append_left _ (List.mem_append_left _ (List.mem_append_right _ h))))))), (List.mem_cons_of_mem _ (List.mem_append_left _ (List.mem_append_left _ (List.mem_append_left _ (List.mem_append_left _ (List.mem_append_left _ (List.mem_append_left _ (List.mem_append_left _ (List.mem_of_getElem? (i := 0) rfl))))))))), rfl, by decide, rfl⟩
theorem f_X2_deepestPart_43 : kF wsX2_deepestPart RX2 43 9 2 := ⟨_, RX6, TX6, 7, fun _ h => (List.mem_cons_of_mem _ (List.mem_append_left _ (List.mem_append_left _ (List.mem_append_left _ (List.mem_append_left _ (List.mem_append_right _ h)))))), (List.mem_cons_of_mem _ (List.mem_append_left _ (List.mem_append_left _ (List.mem_append_left _ (List.mem_append_left _ (List.mem_append_left _ (List.mem_append_left _ (List.mem_append_left _ (List.mem_of_getElem? (i := 1) rfl))))))))), rfl, by decide, rfl⟩
theorem f_X2_deepestPart_100 : kF wsX2_deepestPart RX2 100 6 1 := ⟨_, RX3, TX3, 2, fun _ h => (List.mem_cons_of_mem _ (List.mem_append_left _ (List.mem_append_left _ (List.mem_append_left _ (List.mem_append_right _ h))))), (List.mem_cons_of_mem _ (List.mem_append_left _ (List.mem_append_left _ (List.mem_append_left _ (List.mem_append_left _ (List.mem_append_left _ (List.mem_append_left _ (List.mem_append_left _ (List.mem_of_getElem? (i := 3) rfl))))))))), rfl, by decide, rfl⟩
theorem f_X2_deepestPart_105 : kF wsX2_deepestPart RX2 105 3 0 := ⟨_, RX0, TX0, 3, fun _ h => (List.mem_cons_of_mem _ (List.mem_append_left _ (List.mem_append_left _ (List.mem_append_right _ h)))), (List.mem_cons_of_mem _ (List.mem_append_left _ (List.mem_append_left _ (List.mem_append_left _ (List.mem_append_left _ (List.mem_append_left _ (List.mem_append_left _ (List.mem_append_left _ (List.mem_of_getElem? (i := 5) rfl))))))))), rfl, by decide, rfl⟩
theorem f_X2_deepestPart_18 : kF wsX2_deepestPart RX2 18 5 3 := ⟨_, RX2, TX2, 9, fun _ h => (List.mem_cons_of_mem _ (List.mem_append_left _ (List.mem_append_left _ (List.mem_append_left _ (List.mem_append_left _ (List.mem_append_left _ (List.mem_append_right _ h))))))), (List.mem_cons_of_mem _ (List.mem_append_left _ (List.mem_append_left _ (List.mem_append_left _ (List.mem_append_left _ (List.mem_append_left _ (List.mem_append_left _ (List.mem_append_left _ (List.mem_of_getElem? (i := 6) rfl))))))))), rfl, by decide, rfl⟩
theorem f_X2_deepestPart_9 : kF wsX2_deepestPart RX2 9 5 1 := ⟨_, RX2, TX2, 9, fun _ h => (List.mem_cons_of_mem _ (List.mem_append_left _ (List.mem_append_left _ (List.mem_append_left _ (List.mem_append_left _ (List.mem_append_left _ (List.mem_append_right _ h))))))), (List.mem_cons_of_mem _ (List.mem_append_left _ (List.mem_append_left _ (List.mem_append_left _ (List.mem_append_left _ (List.mem_append_left _ (List.mem_append_left _ (List.mem_append_left _ (List.mem_of_getElem? (i := 7) rfl))))))))), rfl, by decide, rfl⟩
theorem f_X2_deepestPart_109 : kF wsX2_deepestPart RX2 109 3 1 := ⟨_, RX0, TX0, 3, fun _ h => (List.mem_cons_of_mem _ (List.mem_append_left _ (List.mem_append_left _ (List.mem_append_right _ h)))), (List.mem_cons_of_mem _ (List.mem_append_left _ (List.mem_append_left _ (List.mem_append_left _ (List.mem_append_left _ (List.mem_append_left _ (List.mem_append_left _ (List.mem_append_left _ (List.mem_of_getElem? (i := 8) rfl))))))))), rfl, by decide, rfl⟩
set_option maxRecDepth 100000 in
set_option maxHeartbeats 4000000 in
theorem c_X2_deepestPart (l : Launch) (dd : kDD) (ks : List Nat) (ad : Nat → Nat) (E : Nat → va_E) (e : eS) (M : mS) (nR nC nt nL nW nV nM : Nat) (cn nm mn me li rl : Nat → Nat) (on : Int32) (hO : cO dd ks ad E on) (hR : cR dd ks ad E M nR) (hC : cC dd ks ad E M nC mn me) (hT : cT dd ks ad E M nt cn nm) (hL : cL dd ks ad E M nL nW li) (hW : cW dd ks ad E M nW rl) (hV : cV dd ks ad E M nV) (hM : cM dd ks ad E M nM) (hB : cB M nR nC nt nL nW nV cn nm mn me li rl) (i : Nat) (hi : i < nt) (mi : Nat → Nat) (hmi : ∀ j, j < nt → e.1 17 j = nI (mi j) ∧ mi j < nt) : kCi l yX2_deepestPart wsX2_deepestPart ({ frames := 3, cells := 0, slots := 0, locals := 64 } : Room) 0 0 dd [.ref (ad 2), .int (nI i)] (ks, ad, (cE dd E e)) (kQi (S := eS) (fun r z => e = z ∧ r = cmx (M.2.1 13) (fun k => e.1 19 (mi (nm k))) (4 * i) (cn i)) (fun _ => ks) (fun _ => ad) (fun z => cE dd E z)) := by
  refine kMeti (ws' := _) (cc := cX2_deepestPart) (maxL := 6) (rt := .int) (by decide) rfl (Nat.le_of_ble_eq_true rfl) (fun g X hr hnL hRR hl0 hkn => ?_)
  show kv dd g 0 0 0 [(0, .ref (ad 2)), (1, .int (nI i))] [] ks ad (cE dd E e)
  have hcn4 := (hT.2.2 i hi).2.2.1
  have hT12 := hT.1
  refine kv_aload_n X 0 dX2_deepestPart_0 rfl rfl ?_
  refine kv_getfield X f_X2_deepestPart_39 (κ := 2) (fs := [.ref (ad 1), .ref (ad 17), .ref (ad 18), .ref (ad 19), .ref (ad 20), .ref (ad 21), .ref (ad 22), .ref (ad 23), .ref (ad 24)]) (v := .ref (ad 1)) hO.2.2.1.1 ((cE_ne (by omega)).trans hO.2.2.1.2) rfl dX2_deepestPart_1 ?_
  refine kv_getfield X f_X2_deepestPart_43 (κ := 1) (fs := [.ref (ad 3), .ref (ad 4), .ref (ad 5), .ref (ad 6), .ref (ad 7), .ref (ad 8), .ref (ad 9)]) (v := .ref (ad 5)) hO.2.1.1 ((cE_ne (by omega)).trans hO.2.1.2) rfl dX2_deepestPart_4 ?_
  refine kv_iload_n X 1 dX2_deepestPart_7 rfl rfl ?_
  obtain ⟨_, _, o8⟩ := kLs_obj (dd := dd) (ks := ks) (ad := ad) (E := (cE dd E e)) (kLs_cE hT.2.1 (by omega) (by omega) (fun i hi => by omega))
  refine kv_callqV (ci := 2) (κ := 5) (r1 := (TJx4a65c, 3)) (As := [.int (nI i)]) [] X (c_Jx4a65c_get_915e3 l dd ks ad (cE dd E e) (5) (12) (nt) (fun i => 96 + i) 6 (kLs_cE hT.2.1 (by omega) (by omega) (fun i hi => by omega)) i (by omega)) hl0 (kCV_of X 1 gX2_deepestPart_Jx4a65c_get_915e3 rfl rfl rfl (by decide +kernel) hRR ⟨(Nat.le_of_ble_eq_true rfl), (Nat.le_of_ble_eq_true rfl)⟩) hT.2.1.1 o8 rfl rfl rfl (Nat.le_of_ble_eq_true rfl) hRR ⟨(Nat.le_of_ble_eq_true rfl), (Nat.le_of_ble_eq_true rfl)⟩ dX2_deepestPart_8 (fun r z hp => ?_)
  obtain rfl := hp
  refine kv_topg (.ref (ad (96 + i))) rfl ?_
  refine kv_cast X (κ := 96 + i) (ci := 6) (fs := [.int (M.2.1 11 i), .ref (ad (112 + i))]) (r := (RX3, TX3, 2)) (List.mem_cons_of_mem _ (List.mem_append_left _ (List.mem_append_left _ (List.mem_append_left _ (List.mem_append_left _ (List.mem_append_left _ (List.mem_append_left _ (List.mem_append_left _ (List.mem_of_getElem? (i := 2) rfl))))))))) (hT.2.2 i (by omega)).1 ((cE_ne (by omega)).trans (hT.2.2 i (by omega)).2.1) rfl dX2_deepestPart_11 ?_
  refine kv_getfield X f_X2_deepestPart_100 (κ := 96 + i) (fs := [.int (M.2.1 11 i), .ref (ad (112 + i))]) (v := .ref (ad (112 + i))) (hT.2.2 i (by omega)).1 ((cE_ne (by omega)).trans (hT.2.2 i (by omega)).2.1) rfl dX2_deepestPart_14 ?_
  refine kv_astore_n (lv2 := [(2, .ref (ad (112 + i))), (0, .ref (ad 2)), (1, .int (nI i))]) X dX2_deepestPart_17 rfl (by rw [hnL]; decide) rfl ?_
  refine kv_iconst (v := 0) X dX2_deepestPart_18 (by decide) ?_
  refine kv_istore_n (lv2 := [(3, .int 0), (2, .ref (ad (112 + i))), (0, .ref (ad 2)), (1, .int (nI i))]) X dX2_deepestPart_19 rfl (by rw [hnL]; decide) rfl ?_
  refine kv_iconst (v := 0) X dX2_deepestPart_20 (by decide) ?_
  refine kv_istore (lv2 := [(4, .int 0), (3, .int 0), (2, .ref (ad (112 + i))), (0, .ref (ad 2)), (1, .int (nI i))]) X dX2_deepestPart_21 (by rw [hnL]; decide) rfl ?_
  have L23 : ∀ (n9 k : Nat), k + n9 = cn i → ∀ (_ : Unit) , kv dd g 0 0 23 [(4, .int (nI k)), (3, .int (cmx (M.2.1 13) (fun k => e.1 19 (mi (nm k))) (4 * i) k)), (2, .ref (ad (112 + i))), (0, .ref (ad 2)), (1, .int (nI i))] [] ks ad (cE dd E e) := by
    intro n9
    induction n9 with
    | zero =>
      intro k hin23 _ 
      refine kv_iload X 0 dX2_deepestPart_23 rfl ?_
      refine kv_aload_n X 2 dX2_deepestPart_25 rfl rfl ?_
      obtain ⟨_, _, o26⟩ := kLs_obj (dd := dd) (ks := ks) (ad := ad) (E := (cE dd E e)) (kLs_cE (hT.2.2 i (by omega)).2.2.2.1 (by omega) (by omega) (fun i hi => by omega))
      refine kv_calliV (ci := 2) (κ := 112 + i) (r1 := (TJx4a65c, 3)) (As := []) [.int (nI k)] X (c_Jx4a65c_size_8abf5 l dd ks ad (cE dd E e) (112 + i) (128 + i) (cn i) (fun k => 144 + (4 * i + k)) 3 (kLs_cE (hT.2.2 i (by omega)).2.2.2.1 (by omega) (by omega) (fun i hi => by omega))) hl0 (kCV_of X 0 gX2_deepestPart_Jx4a65c_size_8abf5 rfl rfl rfl (by decide +kernel) hRR ⟨(Nat.le_of_ble_eq_true rfl), (Nat.le_of_ble_eq_true rfl)⟩) (hT.2.2 i (by omega)).2.2.2.1.1 o26 rfl rfl rfl (Nat.le_of_ble_eq_true rfl) hRR ⟨(Nat.le_of_ble_eq_true rfl), (Nat.le_of_ble_eq_true rfl)⟩ dX2_deepestPart_26 (fun r z hp => ?_)
      obtain rfl := hp
      refine kn_icmp_ge (x := k) (y := cn i) (tgt := 77) X (by omega) (by omega) dX2_deepestPart_29 (by decide) (fun hc29 => ?_) (fun hc29 => absurd hc29 (by omega))
      refine kv_iload_n X 1 dX2_deepestPart_77 rfl rfl ?_
      exact kv_ireturn X hr (Nat.le_of_ble_eq_true rfl) (Nat.le_of_ble_eq_true rfl) ⟨e, ⟨rfl, by rw [show k = cn i by omega]⟩, rfl⟩ dX2_deepestPart_78
    | succ n9 ih23 =>
      intro k hin23 _ 
      refine kv_iload X 0 dX2_deepestPart_23 rfl ?_
      refine kv_aload_n X 2 dX2_deepestPart_25 rfl rfl ?_
      obtain ⟨_, _, o26⟩ := kLs_obj (dd := dd) (ks := ks) (ad := ad) (E := (cE dd E e)) (kLs_cE (hT.2.2 i (by omega)).2.2.2.1 (by omega) (by omega) (fun i hi => by omega))
      refine kv_calliV (ci := 2) (κ := 112 + i) (r1 := (TJx4a65c, 3)) (As := []) [.int (nI k)] X (c_Jx4a65c_size_8abf5 l dd ks ad (cE dd E e) (112 + i) (128 + i) (cn i) (fun k => 144 + (4 * i + k)) 3 (kLs_cE (hT.2.2 i (by omega)).2.2.2.1 (by omega) (by omega) (fun i hi => by omega))) hl0 (kCV_of X 0 gX2_deepestPart_Jx4a65c_size_8abf5 rfl rfl rfl (by decide +kernel) hRR ⟨(Nat.le_of_ble_eq_true rfl), (Nat.le_of_ble_eq_true rfl)⟩) (hT.2.2 i (by omega)).2.2.2.1.1 o26 rfl rfl rfl (Nat.le_of_ble_eq_true rfl) hRR ⟨(Nat.le_of_ble_eq_true rfl), (Nat.le_of_ble_eq_true rfl)⟩ dX2_deepestPart_26 (fun r z hp => ?_)
      obtain rfl := hp
      refine kn_icmp_ge (x := k) (y := cn i) (tgt := 77) X (by omega) (by omega) dX2_deepestPart_29 (by decide) (fun hc29 => absurd hc29 (by omega)) (fun hc29 => ?_)
      refine kv_aload_n X 2 dX2_deepestPart_32 rfl rfl ?_
      refine kv_iload X 0 dX2_deepestPart_33 rfl ?_
      obtain ⟨_, _, o35⟩ := kLs_obj (dd := dd) (ks := ks) (ad := ad) (E := (cE dd E e)) (kLs_cE (hT.2.2 i (by omega)).2.2.2.1 (by omega) (by omega) (fun i hi => by omega))
      refine kv_callqV (ci := 2) (κ := 112 + i) (r1 := (TJx4a65c, 3)) (As := [.int (nI k)]) [] X (c_Jx4a65c_get_915e3 l dd ks ad (cE dd E e) (112 + i) (128 + i) (cn i) (fun k => 144 + (4 * i + k)) 3 (kLs_cE (hT.2.2 i (by omega)).2.2.2.1 (by omega) (by omega) (fun i hi => by omega)) k (by omega)) hl0 (kCV_of X 1 gX2_deepestPart_Jx4a65c_get_915e3 rfl rfl rfl (by decide +kernel) hRR ⟨(Nat.le_of_ble_eq_true rfl), (Nat.le_of_ble_eq_true rfl)⟩) (hT.2.2 i (by omega)).2.2.2.1.1 o35 rfl rfl rfl (Nat.le_of_ble_eq_true rfl) hRR ⟨(Nat.le_of_ble_eq_true rfl), (Nat.le_of_ble_eq_true rfl)⟩ dX2_deepestPart_35 (fun r z hp => ?_)
      obtain rfl := hp
      refine kv_topg (.ref (ad (144 + (4 * i + k)))) rfl ?_
      refine kv_cast X (κ := 144 + (4 * i + k)) (ci := 3) (fs := [.int (M.2.1 13 (4 * i + k)), .int (nI (nm (4 * i + k))), .int (M.2.1 15 (4 * i + k))]) (r := (RX0, TX0, 3)) (List.mem_cons_of_mem _ (List.mem_append_left _ (List.mem_append_left _ (List.mem_append_left _ (List.mem_append_left _ (List.mem_append_left _ (List.mem_append_left _ (List.mem_append_left _ (List.mem_of_getElem? (i := 4) rfl))))))))) ((hT.2.2 i (by omega)).2.2.2.2 k (by omega)).1 ((cE_ne (by omega)).trans ((hT.2.2 i (by omega)).2.2.2.2 k (by omega)).2) rfl dX2_deepestPart_38 ?_
      refine kv_astore (lv2 := [(5, .ref (ad (144 + (4 * i + k)))), (4, .int (nI k)), (3, .int (cmx (M.2.1 13) (fun k => e.1 19 (mi (nm k))) (4 * i) k)), (2, .ref (ad (112 + i))), (0, .ref (ad 2)), (1, .int (nI i))]) X dX2_deepestPart_41 (by rw [hnL]; decide) rfl ?_
      refine kv_aload X 0 dX2_deepestPart_43 rfl ?_
      refine kv_getfield X f_X2_deepestPart_105 (κ := 144 + (4 * i + k)) (fs := [.int (M.2.1 13 (4 * i + k)), .int (nI (nm (4 * i + k))), .int (M.2.1 15 (4 * i + k))]) (v := .int (M.2.1 13 (4 * i + k))) ((hT.2.2 i (by omega)).2.2.2.2 k (by omega)).1 ((cE_ne (by omega)).trans ((hT.2.2 i (by omega)).2.2.2.2 k (by omega)).2) rfl dX2_deepestPart_45 ?_
      refine kv_if_ne (tgt := 71) X dX2_deepestPart_48 (by decide) (fun hc48 => ?_) (fun hc48 => ?_)
      ·
        refine kv_L [(5, .ref (ad (144 + (4 * i + k)))), (4, .int (nI k)), (3, .int (cmx (M.2.1 13) (fun k => e.1 19 (mi (nm k))) (4 * i) (k + 1))), (2, .ref (ad (112 + i))), (0, .ref (ad 2)), (1, .int (nI i))] (by rw [cmx, if_neg hc48]) ?_
        refine kv_iinc (j := 1) (v := (nI (k + 1))) (lv2 := [(4, .int (nI (k + 1))), (5, .ref (ad (144 + (4 * i + k)))), (3, .int (cmx (M.2.1 13) (fun k => e.1 19 (mi (nm k))) (4 * i) (k + 1))), (2, .ref (ad (112 + i))), (0, .ref (ad 2)), (1, .int (nI i))]) X dX2_deepestPart_71 rfl (nI_add k 1) (by rw [hnL]; decide) rfl ?_
        refine kv_goto (tgt := 23) X dX2_deepestPart_74 (by decide) ?_
        exact kv_lv [0, 2, 3, 4, 5] rfl (ih23 (k + 1) (by omega) ())
      ·
        refine kv_iload_n X 2 dX2_deepestPart_51 rfl rfl ?_
        refine kv_aload_n X 4 dX2_deepestPart_52 rfl rfl ?_
        refine kv_getfield X f_X2_deepestPart_18 (κ := 2) (fs := [.ref (ad 1), .ref (ad 17), .ref (ad 18), .ref (ad 19), .ref (ad 20), .ref (ad 21), .ref (ad 22), .ref (ad 23), .ref (ad 24)]) (v := .ref (ad 19)) hO.2.2.1.1 ((cE_ne (by omega)).trans hO.2.2.1.2) rfl dX2_deepestPart_53 ?_
        refine kv_aload_n X 4 dX2_deepestPart_56 rfl rfl ?_
        refine kv_getfield X f_X2_deepestPart_9 (κ := 2) (fs := [.ref (ad 1), .ref (ad 17), .ref (ad 18), .ref (ad 19), .ref (ad 20), .ref (ad 21), .ref (ad 22), .ref (ad 23), .ref (ad 24)]) (v := .ref (ad 17)) hO.2.2.1.1 ((cE_ne (by omega)).trans hO.2.2.1.2) rfl dX2_deepestPart_57 ?_
        refine kv_aload X 0 dX2_deepestPart_60 rfl ?_
        refine kv_getfield X f_X2_deepestPart_109 (κ := 144 + (4 * i + k)) (fs := [.int (M.2.1 13 (4 * i + k)), .int (nI (nm (4 * i + k))), .int (M.2.1 15 (4 * i + k))]) (v := .int (nI (nm (4 * i + k)))) ((hT.2.2 i (by omega)).2.2.2.2 k (by omega)).1 ((cE_ne (by omega)).trans ((hT.2.2 i (by omega)).2.2.2.2 k (by omega)).2) rfl dX2_deepestPart_62 ?_
        have hnk : nm (4 * i + k) < nt := (by rcases hB.1 i (by omega) k (by omega) with q | q | q; exact q.2; exact absurd (hc48.symm.trans q.1) (by decide); exact absurd (hc48.symm.trans q.1) (by decide))
        refine ke_iald X (17) (j := nm (4 * i + k)) (hO.2.2.2.1 _ (by omega) (by omega)) (by omega) (by have := hT.1; omega) dX2_deepestPart_65 ?_
        refine kv_topi (nI (mi (nm (4 * i + k)))) (hmi (nm (4 * i + k)) hnk).1 ?_
        refine ke_iald X (19) (j := mi (nm (4 * i + k))) (hO.2.2.2.1 _ (by omega) (by omega)) (by omega) (by have := hT.1; have := (hmi (nm (4 * i + k)) hnk).2; omega) dX2_deepestPart_66 ?_
        refine kv_mmax X (List.mem_cons_of_mem _ (List.mem_append_left _ (List.mem_append_left _ (List.mem_append_left _ (List.mem_append_left _ (List.mem_append_left _ (List.mem_append_left _ (List.mem_append_left _ (List.mem_of_getElem? (i := 9) rfl))))))))) (List.mem_cons_of_mem _ (List.mem_append_left _ (List.mem_append_left _ (List.mem_append_left _ (List.mem_append_left _ (List.mem_append_left _ (List.mem_append_left _ (List.mem_append_left _ (List.mem_of_getElem? (i := 10) rfl))))))))) (List.mem_cons_of_mem _ (List.mem_append_left _ (List.mem_append_left _ (List.mem_append_left _ (List.mem_append_left _ (List.mem_append_left _ (List.mem_append_left _ (List.mem_append_left _ (List.mem_of_getElem? (i := 11) rfl))))))))) (List.mem_cons_of_mem _ (List.mem_append_left _ (List.mem_append_left _ (List.mem_append_left _ (List.mem_append_left _ (List.mem_append_left _ (List.mem_append_left _ (List.mem_append_left _ (List.mem_of_getElem? (i := 12) rfl))))))))) hRR (Nat.le_of_ble_eq_true rfl) ⟨(Nat.le_of_ble_eq_true rfl), (Nat.le_of_ble_eq_true rfl), (Nat.le_of_ble_eq_true rfl), (Nat.le_of_ble_eq_true rfl)⟩ dX2_deepestPart_67 ?_
        refine kv_topi (cmx (M.2.1 13) (fun k => e.1 19 (mi (nm k))) (4 * i) (k + 1)) (by rw [cmx, if_pos hc48]) ?_
        refine kv_istore_n (lv2 := [(3, .int (cmx (M.2.1 13) (fun k => e.1 19 (mi (nm k))) (4 * i) (k + 1))), (5, .ref (ad (144 + (4 * i + k)))), (4, .int (nI k)), (2, .ref (ad (112 + i))), (0, .ref (ad 2)), (1, .int (nI i))]) X dX2_deepestPart_70 rfl (by rw [hnL]; decide) rfl ?_
        refine kv_iinc (j := 2) (v := (nI (k + 1))) (lv2 := [(4, .int (nI (k + 1))), (3, .int (cmx (M.2.1 13) (fun k => e.1 19 (mi (nm k))) (4 * i) (k + 1))), (5, .ref (ad (144 + (4 * i + k)))), (2, .ref (ad (112 + i))), (0, .ref (ad 2)), (1, .int (nI i))]) X dX2_deepestPart_71 rfl (nI_add k 1) (by rw [hnL]; decide) rfl ?_
        refine kv_goto (tgt := 23) X dX2_deepestPart_74 (by decide) ?_
        exact kv_lv [0, 1, 3, 4, 5] rfl (ih23 (k + 1) (by omega) ())
  exact kv_lv [0, 1, 2, 3, 4] rfl (L23 (cn i) 0 (by omega) ())

/-! the estimate: ranks, trees, the whole work -/
def ucr (mr me : Nat → Nat) (nu : Nat → Int32) (b : Nat) (r0 : Nat) : Nat → Int64
  | 0 => 0
  | n + 1 => ucr mr me nu b r0 n + (if mr (me (b + n)) = r0 then (nu (b + n)).toInt64 else 0)
/-- one component's units in a tree; T: those of items -/
def uco (so mu nu : Nat → Int32) (nm mn mr me nx : Nat → Nat) (r0 : Nat) (T : Nat → Int64) (K : Nat) : Int64 := if so K = 0 then (mu K).toInt64 * T (nx K) else if so K = 2 then (mu K).toInt64 * ucr mr me nu (3 * nm K) r0 (mn (nm K)) else if mr (nm K) = r0 then (mu K).toInt64 else 0
/-- units in an item's tree, t levels of it -/
def utr (so mu nu : Nat → Int32) (cn nm mn mr me nx : Nat → Nat) (r0 : Nat) : Nat → Nat → Int64
  | 0, _ => 0
  | t + 1, i => msumJ (fun k => uco so mu nu nm mn mr me nx r0 (utr so mu nu cn nm mn mr me nx r0 t) (4 * i + k)) 0 (cn i)
theorem cad_congr {so mu nu : Nat → Int32} {nm mn mr me : Nat → Nat} {K : Nat} {f g : Nat → Int64} (h : ∀ r, r < 12 → f r = g r) : ∀ r, r < 12 → cad so mu nu nm mn mr me K f r = cad so mu nu nm mn mr me K g r := by
  have u : ∀ (f g : Nat → Int64) (j : Nat) (x : Int64), (∀ r, r < 12 → f r = g r) → ∀ r, r < 12 → cu1 f j x r = cu1 g j x r := by
    intro f g j x h r hr
    unfold cu1 va_up
    by_cases c : r = j
    · rw [if_pos c, if_pos c, ← c, h r hr]
    · rw [if_neg c, if_neg c, h r hr]
  intro r hr
  unfold cad
  by_cases c1 : so K = 1
  · rw [if_pos c1, if_pos c1]; exact u _ _ _ _ h r hr
  · rw [if_neg c1, if_neg c1]
    by_cases c2 : so K = 2
    · rw [if_pos c2, if_pos c2]
      have : ∀ n, ∀ r, r < 12 → ccr (mu K) nu mr me (3 * nm K) f n r = ccr (mu K) nu mr me (3 * nm K) g n r := by
        intro n
        induction n with
        | zero => exact h
        | succ n ih => exact u _ _ _ _ ih
      exact this _ r hr
    · rw [if_neg c2, if_neg c2]; exact h r hr
theorem cow_congr {so mu nu : Nat → Int32} {nm mn mr me : Nat → Nat} {b : Nat} {f g : Nat → Int64} (h : ∀ r, r < 12 → f r = g r) : ∀ n r, r < 12 → cow so mu nu nm mn mr me b f n r = cow so mu nu nm mn mr me b g n r := by
  intro n
  induction n with
  | zero => exact h
  | succ n ih => exact cad_congr ih
/-- what the estimate's rows hold behind the whole work -/
def cWk (M : mS) (nR nt nL nW nM : Nat) (cn nm mn me li mi mr : Nat → Nat) (e z : eS) : Prop :=
  z.1 = e.1 ∧ (∀ i, i < nt → ∀ r, r < 12 → z.2 (25 + i) r = cow (M.2.1 13) (M.2.1 15) (M.2.1 9) nm mn mr me (4 * i) (fun _ => 0) (cn i) r) ∧
  (∀ i, i < nt → ∀ r, r < 12 → z.2 (37 + i) r = mN (M.2.1 13) (M.2.1 15) cn (fun k => mi (nm k)) (fun j => cow (M.2.1 13) (M.2.1 15) (M.2.1 9) nm mn mr me (4 * j) (fun _ => 0) (cn j) r) 2 i) ∧
  (∀ w : Nat → Int64, msumJ (fun j => z.2 22 j * w j) 0 nt = msumJ (fun l => (mq (M.2.1 19) (M.2.1 20) (nI l) nW).toInt64 * mN (M.2.1 13) (M.2.1 15) cn (fun k => mi (nm k)) w 2 (mi (li l))) 0 nL) ∧
  (∀ r, r < 12 → z.2 23 r = msumJ (fun l => (mq (M.2.1 19) (M.2.1 20) (nI l) nW).toInt64 * mN (M.2.1 13) (M.2.1 15) cn (fun k => mi (nm k)) (fun j => cow (M.2.1 13) (M.2.1 15) (M.2.1 9) nm mn mr me (4 * j) (fun _ => 0) (cn j) r) 2 (mi (li l))) 0 nL) ∧
  (∀ k, k < nM → z.2 24 k = mmk (M.2.1 27) (M.2.1 26) (fun b => mkd (M.2.1 2) (z.2 23) (M.2.1 3) (nI b) nR) (mex (z.2 23) (M.2.1 4) (M.2.1 5) (M.2.1 3) nR) nM k)
theorem mN_congr {so mu : Nat → Int32} {cn nx dep : Nat → Nat} {nt : Nat} {d1 d2 : Nat → Int64} (h : kDp so cn nx dep nt) (hd : ∀ j, j < nt → d1 j = d2 j) : ∀ t i, i < nt → mN so mu cn nx d1 t i = mN so mu cn nx d2 t i := by
  intro t
  induction t with
  | zero => exact hd
  | succ t ih =>
    intro i hi
    show mstep so mu nx _ (d1 i) (4 * i) (cn i) = mstep so mu nx _ (d2 i) (4 * i) (cn i)
    rw [hd i hi]
    exact mstep_congr (cn i) (fun k hk hs => ih _ ((h i hi).2 k hk hs).1)
theorem work_end {M : mS} {nR nt nL nW nM : Nat} {cn nm mn me li mi mr dep : Nat → Nat} {e z1 z2 : eS} (h12 : nt ≤ 12) (hdp : kDp (M.2.1 13) cn (fun k => mi (nm k)) dep nt) (hml : ∀ l, l < nL → mi (li l) < nt)
    (h1 : z1.1 = e.1 ∧ (∀ k, k < 37 ∨ 49 ≤ k → z1.2 k = crow e.2 25 (fun i => cow (M.2.1 13) (M.2.1 15) (M.2.1 9) nm mn mr me (4 * i) (mset (e.2 (25 + i)) (fun _ => 0) 12) (cn i)) nt k) ∧ ∀ j, j < nt → ∀ r, r < 12 → z1.2 (37 + j) r = mN (M.2.1 13) (M.2.1 15) cn (fun k => mi (nm k)) (fun j => crow e.2 25 (fun i => cow (M.2.1 13) (M.2.1 15) (M.2.1 9) nm mn mr me (4 * i) (mset (e.2 (25 + i)) (fun _ => 0) 12) (cn i)) nt (25 + j) r) 2 j)
    (h2 : z2.1 = z1.1 ∧ (∀ k, k ≠ 22 → z2.2 k = z1.2 k) ∧ ∀ w : Nat → Int64, msumJ (fun j => z2.2 22 j * w j) 0 nt = msumJ (fun l => (mq (M.2.1 19) (M.2.1 20) (nI l) nW).toInt64 * mN (M.2.1 13) (M.2.1 15) cn (fun k => mi (nm k)) w 2 (mi (li l))) 0 nL) {f : Nat → Int64} :
    cWk M nR nt nL nW nM cn nm mn me li mi mr e (z2.1, va_up (va_up z2.2 23 (cam mi li (fun l => mq (M.2.1 19) (M.2.1 20) (nI l) nW) z2.2 (mset (z2.2 23) (fun _ => 0) 12) nL)) 24 (mset f (mmk (M.2.1 27) (M.2.1 26) (fun b => mkd (M.2.1 2) (cam mi li (fun l => mq (M.2.1 19) (M.2.1 20) (nI l) nW) z2.2 (mset (z2.2 23) (fun _ => 0) 12) nL) (M.2.1 3) (nI b) nR) (mex (cam mi li (fun l => mq (M.2.1 19) (M.2.1 20) (nI l) nW) z2.2 (mset (z2.2 23) (fun _ => 0) 12) nL) (M.2.1 4) (M.2.1 5) (M.2.1 3) nR) nM) nM)) := by
  obtain ⟨a1, a2, a3⟩ := h1
  obtain ⟨b1, b2, b3⟩ := h2
  have ow : ∀ i, i < nt → ∀ r, r < 12 → crow e.2 25 (fun i => cow (M.2.1 13) (M.2.1 15) (M.2.1 9) nm mn mr me (4 * i) (mset (e.2 (25 + i)) (fun _ => 0) 12) (cn i)) nt (25 + i) r = cow (M.2.1 13) (M.2.1 15) (M.2.1 9) nm mn mr me (4 * i) (fun _ => 0) (cn i) r := by
    intro i hi r hr
    rw [crow_in hi]
    exact cow_congr (fun r hr => mset_in hr) _ r hr
  have nd : ∀ i, i < nt → ∀ r, r < 12 → z2.2 (37 + i) r = mN (M.2.1 13) (M.2.1 15) cn (fun k => mi (nm k)) (fun j => cow (M.2.1 13) (M.2.1 15) (M.2.1 9) nm mn mr me (4 * j) (fun _ => 0) (cn j) r) 2 i := by
    intro i hi r hr
    rw [b2 _ (by omega), a3 i hi r hr]
    exact mN_congr hdp (fun j hj => ow j hj r hr) 2 i hi
  have am : ∀ r, r < 12 → cam mi li (fun l => mq (M.2.1 19) (M.2.1 20) (nI l) nW) z2.2 (mset (z2.2 23) (fun _ => 0) 12) nL r = msumJ (fun l => (mq (M.2.1 19) (M.2.1 20) (nI l) nW).toInt64 * mN (M.2.1 13) (M.2.1 15) cn (fun k => mi (nm k)) (fun j => cow (M.2.1 13) (M.2.1 15) (M.2.1 9) nm mn mr me (4 * j) (fun _ => 0) (cn j) r) 2 (mi (li l))) 0 nL := by
    intro r hr
    rw [cam_at hr (mset_in hr)]
    exact msumJ_congr nL (fun l hl => by rw [nd _ (hml l hl) r hr])
  refine ⟨b1.trans a1, fun i hi r hr => ?_, fun i hi r hr => ?_, fun w => ?_, fun r hr => ?_, fun k hk => ?_⟩
  · show va_up (va_up z2.2 23 _) 24 _ (25 + i) r = _
    rw [va_up_ne _ _ (by omega), va_up_ne _ _ (by omega), b2 _ (by omega), a2 _ (by omega)]
    exact ow i hi r hr
  · show va_up (va_up z2.2 23 _) 24 _ (37 + i) r = _
    rw [va_up_ne _ _ (by omega), va_up_ne _ _ (by omega)]
    exact nd i hi r hr
  · exact b3 w
  · exact am r hr
  · exact mset_in hk

theorem f_X2_rankOf_39 : kF wsX2_rankOf RX2 39 5 0 := ⟨_, RX2, TX2, 9, fun _ h => (List.mem_cons_of_mem _ (List.mem_append_left _ (List.mem_append_left _ (List.mem_append_left _ (List.mem_append_left _ (List.mem_append_right _ h)))))), (List.mem_cons_of_mem _ (List.mem_append_left _ (List.mem_append_left _ (List.mem_append_left _ (List.mem_append_left _ (List.mem_append_left _ (List.mem_append_left _ (List.mem_of_getElem? (i := 0) rfl)))))))), rfl, by decide, rfl⟩
theorem f_X2_rankOf_59 : kF wsX2_rankOf RX2 59 9 0 := ⟨_, RX6, TX6, 7, fun _ h => (List.mem_cons_of_mem _ (List.mem_append_left _ (List.mem_append_left _ (List.mem_append_left _ (List.mem_append_right _ h))))), (List.mem_cons_of_mem _ (List.mem_append_left _ (List.mem_append_left _ (List.mem_append_left _ (List.mem_append_left _ (List.mem_append_left _ (List.mem_append_left _ (List.mem_of_getElem? (i := 1) rfl)))))))), rfl, by decide, rfl⟩
set_option maxRecDepth 100000 in
set_option maxHeartbeats 4000000 in
theorem c_X2_rankOf (l : Launch) (dd : kDD) (ks : List Nat) (ad : Nat → Nat) (E : Nat → va_E) (e : eS) (M : mS) (nR nC nt nL nW nV nM : Nat) (cn nm mn me li rl : Nat → Nat) (on : Int32) (hO : cO dd ks ad E on) (hR : cR dd ks ad E M nR) (hC : cC dd ks ad E M nC mn me) (hT : cT dd ks ad E M nt cn nm) (hL : cL dd ks ad E M nL nW li) (hW : cW dd ks ad E M nW rl) (hV : cV dd ks ad E M nV) (hM : cM dd ks ad E M nM) (hB : cB M nR nC nt nL nW nV cn nm mn me li rl) (r0 : Nat) (hr0 : r0 < nR) : kCi l yX2_rankOf wsX2_rankOf ({ frames := 4, cells := 0, slots := 0, locals := 85 } : Room) 0 0 dd [.ref (ad 2), .int (nI r0)] (ks, ad, (cE dd E e)) (kQi (S := eS) (fun r z => e = z ∧ r = mah (fun j => e.2 23 j * (M.2.1 3 j).toInt64) r0 nR) (fun _ => ks) (fun _ => ad) (fun z => cE dd E z)) := by
  refine kMeti (ws' := _) (cc := cX2_rankOf) (maxL := 8) (rt := .int) (by decide) rfl (Nat.le_of_ble_eq_true rfl) (fun g X hr hnL hRR hl0 hkn => ?_)
  show kv dd g 0 0 0 [(0, .ref (ad 2)), (1, .int (nI r0))] [] ks ad (cE dd E e)
  have hR12 := hR.1
  refine kv_aload_n X 0 dX2_rankOf_0 rfl rfl ?_
  refine kv_iload_n X 1 dX2_rankOf_1 rfl rfl ?_
  refine kv_calllV (ci := 5) (κ := 2) (r1 := (TX2, 9)) (As := [.int (nI r0)]) [] X (c_X2_resourceCost l dd ks ad E e M nR nC nt nL nW nV nM cn nm mn me li rl on hO hR hC hT hL hW hV hM hB r0 (by omega)) hl0 (kCV_of X 1 gX2_rankOf_X2_resourceCost rfl rfl rfl (by decide +kernel) hRR ⟨(Nat.le_of_ble_eq_true rfl), (Nat.le_of_ble_eq_true rfl)⟩) hO.2.2.1.1 ((cE_ne (by omega)).trans hO.2.2.1.2) rfl rfl rfl (Nat.le_of_ble_eq_true rfl) hRR ⟨(Nat.le_of_ble_eq_true rfl), (Nat.le_of_ble_eq_true rfl)⟩ dX2_rankOf_2 (fun r z hp => ?_)
  obtain ⟨rfl, rfl⟩ := hp
  refine kv_topl ((fun j => e.2 23 j * (M.2.1 3 j).toInt64) r0) rfl ?_
  refine kv_lstore_n (lv2 := [(2, .long ((fun j => e.2 23 j * (M.2.1 3 j).toInt64) r0)), (0, .ref (ad 2)), (1, .int (nI r0))]) X dX2_rankOf_5 rfl (by rw [hnL]; decide) rfl ?_
  refine kv_iconst (v := 0) X dX2_rankOf_6 (by decide) ?_
  refine kv_istore (lv2 := [(4, .int 0), (2, .long ((fun j => e.2 23 j * (M.2.1 3 j).toInt64) r0)), (0, .ref (ad 2)), (1, .int (nI r0))]) X dX2_rankOf_7 (by rw [hnL]; decide) rfl ?_
  refine kv_iconst (v := 0) X dX2_rankOf_9 (by decide) ?_
  refine kv_istore (lv2 := [(5, .int 0), (4, .int 0), (2, .long ((fun j => e.2 23 j * (M.2.1 3 j).toInt64) r0)), (0, .ref (ad 2)), (1, .int (nI r0))]) X dX2_rankOf_10 (by rw [hnL]; decide) rfl ?_
  have L12 : ∀ (n9 k2 : Nat), k2 + n9 = nR → ∀ (_ : Unit) , kv dd g 0 0 12 [(5, .int (nI k2)), (4, .int (mah (fun j => e.2 23 j * (M.2.1 3 j).toInt64) r0 k2)), (2, .long ((fun j => e.2 23 j * (M.2.1 3 j).toInt64) r0)), (0, .ref (ad 2)), (1, .int (nI r0))] [] ks ad (cE dd E e) := by
    intro n9
    induction n9 with
    | zero =>
      intro k2 hin12 _ 
      refine kv_iload X 0 dX2_rankOf_12 rfl ?_
      refine kv_aload_n X 3 dX2_rankOf_14 rfl rfl ?_
      refine kv_getfield X f_X2_rankOf_39 (κ := 2) (fs := [.ref (ad 1), .ref (ad 17), .ref (ad 18), .ref (ad 19), .ref (ad 20), .ref (ad 21), .ref (ad 22), .ref (ad 23), .ref (ad 24)]) (v := .ref (ad 1)) hO.2.2.1.1 ((cE_ne (by omega)).trans hO.2.2.1.2) rfl dX2_rankOf_15 ?_
      refine kv_getfield X f_X2_rankOf_59 (κ := 1) (fs := [.ref (ad 3), .ref (ad 4), .ref (ad 5), .ref (ad 6), .ref (ad 7), .ref (ad 8), .ref (ad 9)]) (v := .ref (ad 3)) hO.2.1.1 ((cE_ne (by omega)).trans hO.2.1.2) rfl dX2_rankOf_18 ?_
      obtain ⟨_, _, o21⟩ := kLs_obj (dd := dd) (ks := ks) (ad := ad) (E := (cE dd E e)) (kLs_cE hR.2.1 (by omega) (by omega) (fun i hi => by omega))
      refine kv_calliV (ci := 2) (κ := 3) (r1 := (TJx4a65c, 3)) (As := []) [.int (nI k2)] X (c_Jx4a65c_size_8abf5 l dd ks ad (cE dd E e) (3) (10) (nR) (fun r => 64 + r) 10 (kLs_cE hR.2.1 (by omega) (by omega) (fun i hi => by omega))) hl0 (kCV_of X 0 gX2_rankOf_Jx4a65c_size_8abf5 rfl rfl rfl (by decide +kernel) hRR ⟨(Nat.le_of_ble_eq_true rfl), (Nat.le_of_ble_eq_true rfl)⟩) hR.2.1.1 o21 rfl rfl rfl (Nat.le_of_ble_eq_true rfl) hRR ⟨(Nat.le_of_ble_eq_true rfl), (Nat.le_of_ble_eq_true rfl)⟩ dX2_rankOf_21 (fun r z hp => ?_)
      obtain rfl := hp
      refine kn_icmp_ge (x := k2) (y := nR) (tgt := 64) X (by omega) (by omega) dX2_rankOf_24 (by decide) (fun hc24 => ?_) (fun hc24 => absurd hc24 (by omega))
      refine kv_iload X 1 dX2_rankOf_64 rfl ?_
      exact kv_ireturn X hr (Nat.le_of_ble_eq_true rfl) (Nat.le_of_ble_eq_true rfl) ⟨e, ⟨rfl, by rw [show nR = k2 by omega]⟩, rfl⟩ dX2_rankOf_66
    | succ n9 ih12 =>
      intro k2 hin12 _ 
      refine kv_iload X 0 dX2_rankOf_12 rfl ?_
      refine kv_aload_n X 3 dX2_rankOf_14 rfl rfl ?_
      refine kv_getfield X f_X2_rankOf_39 (κ := 2) (fs := [.ref (ad 1), .ref (ad 17), .ref (ad 18), .ref (ad 19), .ref (ad 20), .ref (ad 21), .ref (ad 22), .ref (ad 23), .ref (ad 24)]) (v := .ref (ad 1)) hO.2.2.1.1 ((cE_ne (by omega)).trans hO.2.2.1.2) rfl dX2_rankOf_15 ?_
      refine kv_getfield X f_X2_rankOf_59 (κ := 1) (fs := [.ref (ad 3), .ref (ad 4), .ref (ad 5), .ref (ad 6), .ref (ad 7), .ref (ad 8), .ref (ad 9)]) (v := .ref (ad 3)) hO.2.1.1 ((cE_ne (by omega)).trans hO.2.1.2) rfl dX2_rankOf_18 ?_
      obtain ⟨_, _, o21⟩ := kLs_obj (dd := dd) (ks := ks) (ad := ad) (E := (cE dd E e)) (kLs_cE hR.2.1 (by omega) (by omega) (fun i hi => by omega))
      refine kv_calliV (ci := 2) (κ := 3) (r1 := (TJx4a65c, 3)) (As := []) [.int (nI k2)] X (c_Jx4a65c_size_8abf5 l dd ks ad (cE dd E e) (3) (10) (nR) (fun r => 64 + r) 10 (kLs_cE hR.2.1 (by omega) (by omega) (fun i hi => by omega))) hl0 (kCV_of X 0 gX2_rankOf_Jx4a65c_size_8abf5 rfl rfl rfl (by decide +kernel) hRR ⟨(Nat.le_of_ble_eq_true rfl), (Nat.le_of_ble_eq_true rfl)⟩) hR.2.1.1 o21 rfl rfl rfl (Nat.le_of_ble_eq_true rfl) hRR ⟨(Nat.le_of_ble_eq_true rfl), (Nat.le_of_ble_eq_true rfl)⟩ dX2_rankOf_21 (fun r z hp => ?_)
      obtain rfl := hp
      refine kn_icmp_ge (x := k2) (y := nR) (tgt := 64) X (by omega) (by omega) dX2_rankOf_24 (by decide) (fun hc24 => absurd hc24 (by omega)) (fun hc24 => ?_)
      refine kv_aload_n X 3 dX2_rankOf_27 rfl rfl ?_
      refine kv_iload X 0 dX2_rankOf_28 rfl ?_
      refine kv_calllV (ci := 5) (κ := 2) (r1 := (TX2, 9)) (As := [.int (nI k2)]) [] X (c_X2_resourceCost l dd ks ad E e M nR nC nt nL nW nV nM cn nm mn me li rl on hO hR hC hT hL hW hV hM hB k2 (by omega)) hl0 (kCV_of X 1 gX2_rankOf_X2_resourceCost rfl rfl rfl (by decide +kernel) hRR ⟨(Nat.le_of_ble_eq_true rfl), (Nat.le_of_ble_eq_true rfl)⟩) hO.2.2.1.1 ((cE_ne (by omega)).trans hO.2.2.1.2) rfl rfl rfl (Nat.le_of_ble_eq_true rfl) hRR ⟨(Nat.le_of_ble_eq_true rfl), (Nat.le_of_ble_eq_true rfl)⟩ dX2_rankOf_30 (fun r z hp => ?_)
      obtain ⟨rfl, rfl⟩ := hp
      refine kv_lstore (lv2 := [(6, .long ((fun j => e.2 23 j * (M.2.1 3 j).toInt64) k2)), (5, .int (nI k2)), (4, .int (mah (fun j => e.2 23 j * (M.2.1 3 j).toInt64) r0 k2)), (2, .long ((fun j => e.2 23 j * (M.2.1 3 j).toInt64) r0)), (0, .ref (ad 2)), (1, .int (nI r0))]) X dX2_rankOf_33 (by rw [hnL]; decide) rfl ?_
      refine kv_lload X 0 dX2_rankOf_35 rfl ?_
      refine kv_lload_n X 3 dX2_rankOf_37 rfl rfl ?_
      refine kv_lcmp X dX2_rankOf_38 ?_
      refine kv_if_gt (tgt := 55) X dX2_rankOf_39 (by decide) (fun hc39 => ?_) (fun hc39 => ?_)
      ·
        refine kv_iinc (j := 2) (v := ((mah (fun j => e.2 23 j * (M.2.1 3 j).toInt64) r0 k2) + 1)) (lv2 := [(4, .int ((mah (fun j => e.2 23 j * (M.2.1 3 j).toInt64) r0 k2) + 1)), (6, .long ((fun j => e.2 23 j * (M.2.1 3 j).toInt64) k2)), (5, .int (nI k2)), (2, .long ((fun j => e.2 23 j * (M.2.1 3 j).toInt64) r0)), (0, .ref (ad 2)), (1, .int (nI r0))]) X dX2_rankOf_55 rfl rfl (by rw [hnL]; decide) rfl ?_
        refine kv_L [(4, .int (mah (fun j => e.2 23 j * (M.2.1 3 j).toInt64) r0 (k2 + 1))), (6, .long ((fun j => e.2 23 j * (M.2.1 3 j).toInt64) k2)), (5, .int (nI k2)), (2, .long ((fun j => e.2 23 j * (M.2.1 3 j).toInt64) r0)), (0, .ref (ad 2)), (1, .int (nI r0))] (by have h9 : (mah (fun j => e.2 23 j * (M.2.1 3 j).toInt64) r0 (k2 + 1)) = ((mah (fun j => e.2 23 j * (M.2.1 3 j).toInt64) r0 k2) + 1) := (by first | (rw [mah, if_pos (Or.inl ((lg_cmp_gt _ _).mp hc39))]; done) | (rw [mah, if_pos (Or.inr ⟨(lg_cmp_eq _ _).mp hc46, hc52⟩)]; done)); rw [h9]) ?_
        refine kv_iinc (j := 2) (v := (nI (k2 + 1))) (lv2 := [(5, .int (nI (k2 + 1))), (4, .int (mah (fun j => e.2 23 j * (M.2.1 3 j).toInt64) r0 (k2 + 1))), (6, .long ((fun j => e.2 23 j * (M.2.1 3 j).toInt64) k2)), (2, .long ((fun j => e.2 23 j * (M.2.1 3 j).toInt64) r0)), (0, .ref (ad 2)), (1, .int (nI r0))]) X dX2_rankOf_58 rfl (nI_add k2 1) (by rw [hnL]; decide) rfl ?_
        refine kv_goto (tgt := 12) X dX2_rankOf_61 (by decide) ?_
        exact kv_lv [0, 1, 3, 4, 5] rfl (ih12 (k2 + 1) (by omega) ())
      ·
        refine kv_lload X 0 dX2_rankOf_42 rfl ?_
        refine kv_lload_n X 3 dX2_rankOf_44 rfl rfl ?_
        refine kv_lcmp X dX2_rankOf_45 ?_
        refine kv_if_ne (tgt := 58) X dX2_rankOf_46 (by decide) (fun hc46 => ?_) (fun hc46 => ?_)
        ·
          refine kv_L [(6, .long ((fun j => e.2 23 j * (M.2.1 3 j).toInt64) k2)), (5, .int (nI k2)), (4, .int (mah (fun j => e.2 23 j * (M.2.1 3 j).toInt64) r0 (k2 + 1))), (2, .long ((fun j => e.2 23 j * (M.2.1 3 j).toInt64) r0)), (0, .ref (ad 2)), (1, .int (nI r0))] (by have h9 : (mah (fun j => e.2 23 j * (M.2.1 3 j).toInt64) r0 (k2 + 1)) = (mah (fun j => e.2 23 j * (M.2.1 3 j).toInt64) r0 k2) := (by rw [mah, if_neg (fun q => by rcases q with q | q; exact hc39 ((lg_cmp_gt _ _).mpr q); first | exact hc46 ((lg_cmp_eq _ _).mpr q.1) | exact absurd q.2 (Nat.not_lt.mpr hc52)), Int32.add_zero]); rw [h9]) ?_
          refine kv_iinc (j := 1) (v := (nI (k2 + 1))) (lv2 := [(5, .int (nI (k2 + 1))), (6, .long ((fun j => e.2 23 j * (M.2.1 3 j).toInt64) k2)), (4, .int (mah (fun j => e.2 23 j * (M.2.1 3 j).toInt64) r0 (k2 + 1))), (2, .long ((fun j => e.2 23 j * (M.2.1 3 j).toInt64) r0)), (0, .ref (ad 2)), (1, .int (nI r0))]) X dX2_rankOf_58 rfl (nI_add k2 1) (by rw [hnL]; decide) rfl ?_
          refine kv_goto (tgt := 12) X dX2_rankOf_61 (by decide) ?_
          exact kv_lv [0, 2, 3, 4, 5] rfl (ih12 (k2 + 1) (by omega) ())
        ·
          refine kv_iload X 1 dX2_rankOf_49 rfl ?_
          refine kv_iload_n X 5 dX2_rankOf_51 rfl rfl ?_
          refine kn_icmp_ge (x := k2) (y := r0) (tgt := 58) X (by omega) (by omega) dX2_rankOf_52 (by decide) (fun hc52 => ?_) (fun hc52 => ?_)
          ·
            refine kv_L [(6, .long ((fun j => e.2 23 j * (M.2.1 3 j).toInt64) k2)), (5, .int (nI k2)), (4, .int (mah (fun j => e.2 23 j * (M.2.1 3 j).toInt64) r0 (k2 + 1))), (2, .long ((fun j => e.2 23 j * (M.2.1 3 j).toInt64) r0)), (0, .ref (ad 2)), (1, .int (nI r0))] (by have h9 : (mah (fun j => e.2 23 j * (M.2.1 3 j).toInt64) r0 (k2 + 1)) = (mah (fun j => e.2 23 j * (M.2.1 3 j).toInt64) r0 k2) := (by rw [mah, if_neg (fun q => by rcases q with q | q; exact hc39 ((lg_cmp_gt _ _).mpr q); first | exact hc46 ((lg_cmp_eq _ _).mpr q.1) | exact absurd q.2 (Nat.not_lt.mpr hc52)), Int32.add_zero]); rw [h9]) ?_
            refine kv_iinc (j := 1) (v := (nI (k2 + 1))) (lv2 := [(5, .int (nI (k2 + 1))), (6, .long ((fun j => e.2 23 j * (M.2.1 3 j).toInt64) k2)), (4, .int (mah (fun j => e.2 23 j * (M.2.1 3 j).toInt64) r0 (k2 + 1))), (2, .long ((fun j => e.2 23 j * (M.2.1 3 j).toInt64) r0)), (0, .ref (ad 2)), (1, .int (nI r0))]) X dX2_rankOf_58 rfl (nI_add k2 1) (by rw [hnL]; decide) rfl ?_
            refine kv_goto (tgt := 12) X dX2_rankOf_61 (by decide) ?_
            exact kv_lv [0, 2, 3, 4, 5] rfl (ih12 (k2 + 1) (by omega) ())
          ·
            refine kv_iinc (j := 2) (v := ((mah (fun j => e.2 23 j * (M.2.1 3 j).toInt64) r0 k2) + 1)) (lv2 := [(4, .int ((mah (fun j => e.2 23 j * (M.2.1 3 j).toInt64) r0 k2) + 1)), (6, .long ((fun j => e.2 23 j * (M.2.1 3 j).toInt64) k2)), (5, .int (nI k2)), (2, .long ((fun j => e.2 23 j * (M.2.1 3 j).toInt64) r0)), (0, .ref (ad 2)), (1, .int (nI r0))]) X dX2_rankOf_55 rfl rfl (by rw [hnL]; decide) rfl ?_
            refine kv_L [(4, .int (mah (fun j => e.2 23 j * (M.2.1 3 j).toInt64) r0 (k2 + 1))), (6, .long ((fun j => e.2 23 j * (M.2.1 3 j).toInt64) k2)), (5, .int (nI k2)), (2, .long ((fun j => e.2 23 j * (M.2.1 3 j).toInt64) r0)), (0, .ref (ad 2)), (1, .int (nI r0))] (by have h9 : (mah (fun j => e.2 23 j * (M.2.1 3 j).toInt64) r0 (k2 + 1)) = ((mah (fun j => e.2 23 j * (M.2.1 3 j).toInt64) r0 k2) + 1) := (by first | (rw [mah, if_pos (Or.inl ((lg_cmp_gt _ _).mp hc39))]; done) | (rw [mah, if_pos (Or.inr ⟨(lg_cmp_eq _ _).mp hc46, hc52⟩)]; done)); rw [h9]) ?_
            refine kv_iinc (j := 2) (v := (nI (k2 + 1))) (lv2 := [(5, .int (nI (k2 + 1))), (4, .int (mah (fun j => e.2 23 j * (M.2.1 3 j).toInt64) r0 (k2 + 1))), (6, .long ((fun j => e.2 23 j * (M.2.1 3 j).toInt64) k2)), (2, .long ((fun j => e.2 23 j * (M.2.1 3 j).toInt64) r0)), (0, .ref (ad 2)), (1, .int (nI r0))]) X dX2_rankOf_58 rfl (nI_add k2 1) (by rw [hnL]; decide) rfl ?_
            refine kv_goto (tgt := 12) X dX2_rankOf_61 (by decide) ?_
            exact kv_lv [0, 1, 3, 4, 5] rfl (ih12 (k2 + 1) (by omega) ())
  exact kv_lv [0, 1, 2, 3, 4] rfl (L12 nR 0 (by omega) ())
theorem f_X2_costOfAllLines_39 : kF wsX2_costOfAllLines RX2 39 5 0 := ⟨_, RX2, TX2, 9, fun _ h => (List.mem_cons_of_mem _ (List.mem_append_left _ (List.mem_append_left _ (List.mem_append_left _ (List.mem_append_left _ (List.mem_append_left _ (List.mem_append_right _ h))))))), (List.mem_cons_of_mem _ (List.mem_append_left _ (List.mem_append_left _ (List.mem_append_left _ (List.mem_append_left _ (List.mem_append_left _ (List.mem_append_left _ (List.mem_append_left _ (List.mem_of_getElem? (i := 0) rfl))))))))), rfl, by decide, rfl⟩
theorem f_X2_costOfAllLines_163 : kF wsX2_costOfAllLines RX2 163 9 3 := ⟨_, RX6, TX6, 7, fun _ h => (List.mem_cons_of_mem _ (List.mem_append_left _ (List.mem_append_left _ (List.mem_append_left _ (List.mem_append_left _ (List.mem_append_right _ h)))))), (List.mem_cons_of_mem _ (List.mem_append_left _ (List.mem_append_left _ (List.mem_append_left _ (List.mem_append_left _ (List.mem_append_left _ (List.mem_append_left _ (List.mem_append_left _ (List.mem_of_getElem? (i := 1) rfl))))))))), rfl, by decide, rfl⟩
set_option maxRecDepth 100000 in
set_option maxHeartbeats 4000000 in
theorem c_X2_costOfAllLines (l : Launch) (dd : kDD) (ks : List Nat) (ad : Nat → Nat) (E : Nat → va_E) (e : eS) (M : mS) (nR nC nt nL nW nV nM : Nat) (cn nm mn me li rl : Nat → Nat) (on : Int32) (hO : cO dd ks ad E on) (hR : cR dd ks ad E M nR) (hC : cC dd ks ad E M nC mn me) (hT : cT dd ks ad E M nt cn nm) (hL : cL dd ks ad E M nL nW li) (hW : cW dd ks ad E M nW rl) (hV : cV dd ks ad E M nV) (hM : cM dd ks ad E M nM) (hB : cB M nR nC nt nL nW nV cn nm mn me li rl) (mi : Nat → Nat) (hmi : ∀ j, j < nt → e.1 17 j = nI (mi j) ∧ mi j < nt) : kCl l yX2_costOfAllLines wsX2_costOfAllLines ({ frames := 5, cells := 0, slots := 0, locals := 110 } : Room) 0 0 dd [.ref (ad 2)] (ks, ad, (cE dd E e)) (kQl (S := eS) (fun r z => e = z ∧ r = msumJ (fun l0 => (mq (M.2.1 19) (M.2.1 20) (nI l0) nW).toInt64 * cou (e.2 (37 + mi (li l0))) (M.2.1 3) nR) 0 nL) (fun _ => ks) (fun _ => ad) (fun z => cE dd E z)) := by
  refine kMetl (ws' := _) (cc := cX2_costOfAllLines) (maxL := 4) (rt := .long) (by decide) rfl (Nat.le_of_ble_eq_true rfl) (fun g X hr hnL hRR hl0 hkn => ?_)
  show kv dd g 0 0 0 [(0, .ref (ad 2))] [] ks ad (cE dd E e)
  have hL10 := hL.1
  refine kv_lconst (v := 0) X dX2_costOfAllLines_0 (by decide) ?_
  refine kv_lstore_n (lv2 := [(1, .long 0), (0, .ref (ad 2))]) X dX2_costOfAllLines_1 rfl (by rw [hnL]; decide) rfl ?_
  refine kv_iconst (v := 0) X dX2_costOfAllLines_2 (by decide) ?_
  refine kv_istore_n (lv2 := [(3, .int 0), (1, .long 0), (0, .ref (ad 2))]) X dX2_costOfAllLines_3 rfl (by rw [hnL]; decide) rfl ?_
  have L4 : ∀ (n9 i : Nat), i + n9 = nL → ∀ (_ : Unit) , kv dd g 0 0 4 [(3, .int (nI i)), (1, .long (msumJ (fun l0 => (mq (M.2.1 19) (M.2.1 20) (nI l0) nW).toInt64 * cou (e.2 (37 + mi (li l0))) (M.2.1 3) nR) 0 i)), (0, .ref (ad 2))] [] ks ad (cE dd E e) := by
    intro n9
    induction n9 with
    | zero =>
      intro i hin4 _ 
      refine kv_iload_n X 0 dX2_costOfAllLines_4 rfl rfl ?_
      refine kv_aload_n X 2 dX2_costOfAllLines_5 rfl rfl ?_
      refine kv_getfield X f_X2_costOfAllLines_39 (κ := 2) (fs := [.ref (ad 1), .ref (ad 17), .ref (ad 18), .ref (ad 19), .ref (ad 20), .ref (ad 21), .ref (ad 22), .ref (ad 23), .ref (ad 24)]) (v := .ref (ad 1)) hO.2.2.1.1 ((cE_ne (by omega)).trans hO.2.2.1.2) rfl dX2_costOfAllLines_6 ?_
      refine kv_getfield X f_X2_costOfAllLines_163 (κ := 1) (fs := [.ref (ad 3), .ref (ad 4), .ref (ad 5), .ref (ad 6), .ref (ad 7), .ref (ad 8), .ref (ad 9)]) (v := .ref (ad 6)) hO.2.1.1 ((cE_ne (by omega)).trans hO.2.1.2) rfl dX2_costOfAllLines_9 ?_
      obtain ⟨_, _, o12⟩ := kLs_obj (dd := dd) (ks := ks) (ad := ad) (E := (cE dd E e)) (kLs_cE hL.2.1 (by omega) (by omega) (fun i hi => by omega))
      refine kv_calliV (ci := 2) (κ := 6) (r1 := (TJx4a65c, 3)) (As := []) [.int (nI i)] X (c_Jx4a65c_size_8abf5 l dd ks ad (cE dd E e) (6) (13) (nL) (fun l => 208 + l) 7 (kLs_cE hL.2.1 (by omega) (by omega) (fun i hi => by omega))) hl0 (kCV_of X 0 gX2_costOfAllLines_Jx4a65c_size_8abf5 rfl rfl rfl (by decide +kernel) hRR ⟨(Nat.le_of_ble_eq_true rfl), (Nat.le_of_ble_eq_true rfl)⟩) hL.2.1.1 o12 rfl rfl rfl (Nat.le_of_ble_eq_true rfl) hRR ⟨(Nat.le_of_ble_eq_true rfl), (Nat.le_of_ble_eq_true rfl)⟩ dX2_costOfAllLines_12 (fun r z hp => ?_)
      obtain rfl := hp
      refine kn_icmp_ge (x := i) (y := nL) (tgt := 32) X (by omega) (by omega) dX2_costOfAllLines_15 (by decide) (fun hc15 => ?_) (fun hc15 => absurd hc15 (by omega))
      refine kv_lload_n X 1 dX2_costOfAllLines_32 rfl rfl ?_
      exact kv_lreturn X hr (Nat.le_of_ble_eq_true rfl) (Nat.le_of_ble_eq_true rfl) ⟨e, ⟨rfl, by rw [show i = nL by omega]⟩, rfl⟩ dX2_costOfAllLines_33
    | succ n9 ih4 =>
      intro i hin4 _ 
      refine kv_iload_n X 0 dX2_costOfAllLines_4 rfl rfl ?_
      refine kv_aload_n X 2 dX2_costOfAllLines_5 rfl rfl ?_
      refine kv_getfield X f_X2_costOfAllLines_39 (κ := 2) (fs := [.ref (ad 1), .ref (ad 17), .ref (ad 18), .ref (ad 19), .ref (ad 20), .ref (ad 21), .ref (ad 22), .ref (ad 23), .ref (ad 24)]) (v := .ref (ad 1)) hO.2.2.1.1 ((cE_ne (by omega)).trans hO.2.2.1.2) rfl dX2_costOfAllLines_6 ?_
      refine kv_getfield X f_X2_costOfAllLines_163 (κ := 1) (fs := [.ref (ad 3), .ref (ad 4), .ref (ad 5), .ref (ad 6), .ref (ad 7), .ref (ad 8), .ref (ad 9)]) (v := .ref (ad 6)) hO.2.1.1 ((cE_ne (by omega)).trans hO.2.1.2) rfl dX2_costOfAllLines_9 ?_
      obtain ⟨_, _, o12⟩ := kLs_obj (dd := dd) (ks := ks) (ad := ad) (E := (cE dd E e)) (kLs_cE hL.2.1 (by omega) (by omega) (fun i hi => by omega))
      refine kv_calliV (ci := 2) (κ := 6) (r1 := (TJx4a65c, 3)) (As := []) [.int (nI i)] X (c_Jx4a65c_size_8abf5 l dd ks ad (cE dd E e) (6) (13) (nL) (fun l => 208 + l) 7 (kLs_cE hL.2.1 (by omega) (by omega) (fun i hi => by omega))) hl0 (kCV_of X 0 gX2_costOfAllLines_Jx4a65c_size_8abf5 rfl rfl rfl (by decide +kernel) hRR ⟨(Nat.le_of_ble_eq_true rfl), (Nat.le_of_ble_eq_true rfl)⟩) hL.2.1.1 o12 rfl rfl rfl (Nat.le_of_ble_eq_true rfl) hRR ⟨(Nat.le_of_ble_eq_true rfl), (Nat.le_of_ble_eq_true rfl)⟩ dX2_costOfAllLines_12 (fun r z hp => ?_)
      obtain rfl := hp
      refine kn_icmp_ge (x := i) (y := nL) (tgt := 32) X (by omega) (by omega) dX2_costOfAllLines_15 (by decide) (fun hc15 => absurd hc15 (by omega)) (fun hc15 => ?_)
      refine kv_lload_n X 1 dX2_costOfAllLines_18 rfl rfl ?_
      refine kv_aload_n X 2 dX2_costOfAllLines_19 rfl rfl ?_
      refine kv_iload_n X 0 dX2_costOfAllLines_20 rfl rfl ?_
      refine kv_calllV (ci := 5) (κ := 2) (r1 := (TX2, 9)) (As := [.int (nI i)]) [.long (msumJ (fun l0 => (mq (M.2.1 19) (M.2.1 20) (nI l0) nW).toInt64 * cou (e.2 (37 + mi (li l0))) (M.2.1 3) nR) 0 i)] X (c_X2_lineCost l dd ks ad E e M nR nC nt nL nW nV nM cn nm mn me li rl on hO hR hC hT hL hW hV hM hB i (by omega) mi hmi) hl0 (kCV_of X 1 gX2_costOfAllLines_X2_lineCost rfl rfl rfl (by decide +kernel) hRR ⟨(Nat.le_of_ble_eq_true rfl), (Nat.le_of_ble_eq_true rfl)⟩) hO.2.2.1.1 ((cE_ne (by omega)).trans hO.2.2.1.2) rfl rfl rfl (Nat.le_of_ble_eq_true rfl) hRR ⟨(Nat.le_of_ble_eq_true rfl), (Nat.le_of_ble_eq_true rfl)⟩ dX2_costOfAllLines_21 (fun r z hp => ?_)
      obtain ⟨rfl, rfl⟩ := hp
      refine kv_ladd X dX2_costOfAllLines_24 ?_
      refine kv_topl (msumJ (fun l0 => (mq (M.2.1 19) (M.2.1 20) (nI l0) nW).toInt64 * cou (e.2 (37 + mi (li l0))) (M.2.1 3) nR) 0 (i + 1)) rfl ?_
      refine kv_lstore_n (lv2 := [(1, .long (msumJ (fun l0 => (mq (M.2.1 19) (M.2.1 20) (nI l0) nW).toInt64 * cou (e.2 (37 + mi (li l0))) (M.2.1 3) nR) 0 (i + 1))), (3, .int (nI i)), (0, .ref (ad 2))]) X dX2_costOfAllLines_25 rfl (by rw [hnL]; decide) rfl ?_
      refine kv_iinc (j := 1) (v := (nI (i + 1))) (lv2 := [(3, .int (nI (i + 1))), (1, .long (msumJ (fun l0 => (mq (M.2.1 19) (M.2.1 20) (nI l0) nW).toInt64 * cou (e.2 (37 + mi (li l0))) (M.2.1 3) nR) 0 (i + 1))), (0, .ref (ad 2))]) X dX2_costOfAllLines_26 rfl (nI_add i 1) (by rw [hnL]; decide) rfl ?_
      refine kv_goto (tgt := 4) X dX2_costOfAllLines_29 (by decide) ?_
      exact kv_lv [0, 1, 2] rfl (ih4 (i + 1) (by omega) ())
  exact kv_lv [0, 1, 2] rfl (L4 nL 0 (by omega) ())

set_option maxRecDepth 100000 in
set_option maxHeartbeats 4000000 in
theorem c_X2_costOfAllKinds (l : Launch) (dd : kDD) (ks : List Nat) (ad : Nat → Nat) (E : Nat → va_E) (e : eS) (M : mS) (nR nC nt nL nW nV nM : Nat) (cn nm mn me li rl : Nat → Nat) (on : Int32) (hO : cO dd ks ad E on) (hR : cR dd ks ad E M nR) (hC : cC dd ks ad E M nC mn me) (hT : cT dd ks ad E M nt cn nm) (hL : cL dd ks ad E M nL nW li) (hW : cW dd ks ad E M nW rl) (hV : cV dd ks ad E M nV) (hM : cM dd ks ad E M nM) (hB : cB M nR nC nt nL nW nV cn nm mn me li rl)  : kCl l yX2_costOfAllKinds wsX2_costOfAllKinds ({ frames := 4, cells := 0, slots := 0, locals := 89 } : Room) 0 0 dd [.ref (ad 2)] (ks, ad, (cE dd E e)) (kQl (S := eS) (fun r z => e = z ∧ r = msumJ (fun k => mkd (M.2.1 2) (e.2 23) (M.2.1 3) (nI k) nR) 0 3) (fun _ => ks) (fun _ => ad) (fun z => cE dd E z)) := by
  refine kMetl (ws' := _) (cc := cX2_costOfAllKinds) (maxL := 4) (rt := .long) (by decide) rfl (Nat.le_of_ble_eq_true rfl) (fun g X hr hnL hRR hl0 hkn => ?_)
  show kv dd g 0 0 0 [(0, .ref (ad 2))] [] ks ad (cE dd E e)
  refine kv_lconst (v := 0) X dX2_costOfAllKinds_0 (by decide) ?_
  refine kv_lstore_n (lv2 := [(1, .long 0), (0, .ref (ad 2))]) X dX2_costOfAllKinds_1 rfl (by rw [hnL]; decide) rfl ?_
  refine kv_iconst (v := 0) X dX2_costOfAllKinds_2 (by decide) ?_
  refine kv_istore_n (lv2 := [(3, .int 0), (1, .long 0), (0, .ref (ad 2))]) X dX2_costOfAllKinds_3 rfl (by rw [hnL]; decide) rfl ?_
  have L4 : ∀ (n9 i : Nat), i + n9 = 3 → ∀ (_ : Unit) , kv dd g 0 0 4 [(3, .int (nI i)), (1, .long (msumJ (fun k => mkd (M.2.1 2) (e.2 23) (M.2.1 3) (nI k) nR) 0 i)), (0, .ref (ad 2))] [] ks ad (cE dd E e) := by
    intro n9
    induction n9 with
    | zero =>
      intro i hin4 _ 
      refine kv_iload_n X 0 dX2_costOfAllKinds_4 rfl rfl ?_
      refine kv_iconst (v := 2) X dX2_costOfAllKinds_5 (by decide) ?_
      refine kn_icmp_gt (x := i) (y := 2) (tgt := 23) X (by omega) (by omega) dX2_costOfAllKinds_6 (by decide) (fun hc6 => ?_) (fun hc6 => absurd hc6 (by omega))
      refine kv_lload_n X 1 dX2_costOfAllKinds_23 rfl rfl ?_
      exact kv_lreturn X hr (Nat.le_of_ble_eq_true rfl) (Nat.le_of_ble_eq_true rfl) ⟨e, ⟨rfl, by rw [show i = 3 by omega]⟩, rfl⟩ dX2_costOfAllKinds_24
    | succ n9 ih4 =>
      intro i hin4 _ 
      refine kv_iload_n X 0 dX2_costOfAllKinds_4 rfl rfl ?_
      refine kv_iconst (v := 2) X dX2_costOfAllKinds_5 (by decide) ?_
      refine kn_icmp_gt (x := i) (y := 2) (tgt := 23) X (by omega) (by omega) dX2_costOfAllKinds_6 (by decide) (fun hc6 => absurd hc6 (by omega)) (fun hc6 => ?_)
      refine kv_lload_n X 1 dX2_costOfAllKinds_9 rfl rfl ?_
      refine kv_aload_n X 2 dX2_costOfAllKinds_10 rfl rfl ?_
      refine kv_iload_n X 0 dX2_costOfAllKinds_11 rfl rfl ?_
      refine kv_calllV (ci := 5) (κ := 2) (r1 := (TX2, 9)) (As := [.int (nI i)]) [.long (msumJ (fun k => mkd (M.2.1 2) (e.2 23) (M.2.1 3) (nI k) nR) 0 i)] X (c_X2_kindCost l dd ks ad E e M nR nC nt nL nW nV nM cn nm mn me li rl on hO hR hC hT hL hW hV hM hB (nI i)) hl0 (kCV_of X 1 gX2_costOfAllKinds_X2_kindCost rfl rfl rfl (by decide +kernel) hRR ⟨(Nat.le_of_ble_eq_true rfl), (Nat.le_of_ble_eq_true rfl)⟩) hO.2.2.1.1 ((cE_ne (by omega)).trans hO.2.2.1.2) rfl rfl rfl (Nat.le_of_ble_eq_true rfl) hRR ⟨(Nat.le_of_ble_eq_true rfl), (Nat.le_of_ble_eq_true rfl)⟩ dX2_costOfAllKinds_12 (fun r z hp => ?_)
      obtain ⟨rfl, rfl⟩ := hp
      refine kv_ladd X dX2_costOfAllKinds_15 ?_
      refine kv_topl (msumJ (fun k => mkd (M.2.1 2) (e.2 23) (M.2.1 3) (nI k) nR) 0 (i + 1)) rfl ?_
      refine kv_lstore_n (lv2 := [(1, .long (msumJ (fun k => mkd (M.2.1 2) (e.2 23) (M.2.1 3) (nI k) nR) 0 (i + 1))), (3, .int (nI i)), (0, .ref (ad 2))]) X dX2_costOfAllKinds_16 rfl (by rw [hnL]; decide) rfl ?_
      refine kv_iinc (j := 1) (v := (nI (i + 1))) (lv2 := [(3, .int (nI (i + 1))), (1, .long (msumJ (fun k => mkd (M.2.1 2) (e.2 23) (M.2.1 3) (nI k) nR) 0 (i + 1))), (0, .ref (ad 2))]) X dX2_costOfAllKinds_17 rfl (nI_add i 1) (by rw [hnL]; decide) rfl ?_
      refine kv_goto (tgt := 4) X dX2_costOfAllKinds_20 (by decide) ?_
      exact kv_lv [0, 1, 2] rfl (ih4 (i + 1) (by omega) ())
  exact kv_lv [0, 1, 2] rfl (L4 3 0 (by omega) ())

set_option maxRecDepth 100000 in
set_option maxHeartbeats 4000000 in
theorem c_X2_costOfAllTrades (l : Launch) (dd : kDD) (ks : List Nat) (ad : Nat → Nat) (E : Nat → va_E) (e : eS) (M : mS) (nR nC nt nL nW nV nM : Nat) (cn nm mn me li rl : Nat → Nat) (on : Int32) (hO : cO dd ks ad E on) (hR : cR dd ks ad E M nR) (hC : cC dd ks ad E M nC mn me) (hT : cT dd ks ad E M nt cn nm) (hL : cL dd ks ad E M nL nW li) (hW : cW dd ks ad E M nW rl) (hV : cV dd ks ad E M nV) (hM : cM dd ks ad E M nM) (hB : cB M nR nC nt nL nW nV cn nm mn me li rl)  : kCl l yX2_costOfAllTrades wsX2_costOfAllTrades ({ frames := 5, cells := 0, slots := 0, locals := 112 } : Room) 0 0 dd [.ref (ad 2)] (ks, ad, (cE dd E e)) (kQl (S := eS) (fun r z => e = z ∧ r = msumJ (fun k => ctr (M.2.1 11) (fun i => e.2 22 i * cou (e.2 (25 + i)) (M.2.1 3) nR) (nI k) nt) 0 6) (fun _ => ks) (fun _ => ad) (fun z => cE dd E z)) := by
  refine kMetl (ws' := _) (cc := cX2_costOfAllTrades) (maxL := 4) (rt := .long) (by decide) rfl (Nat.le_of_ble_eq_true rfl) (fun g X hr hnL hRR hl0 hkn => ?_)
  show kv dd g 0 0 0 [(0, .ref (ad 2))] [] ks ad (cE dd E e)
  refine kv_lconst (v := 0) X dX2_costOfAllTrades_0 (by decide) ?_
  refine kv_lstore_n (lv2 := [(1, .long 0), (0, .ref (ad 2))]) X dX2_costOfAllTrades_1 rfl (by rw [hnL]; decide) rfl ?_
  refine kv_iconst (v := 0) X dX2_costOfAllTrades_2 (by decide) ?_
  refine kv_istore_n (lv2 := [(3, .int 0), (1, .long 0), (0, .ref (ad 2))]) X dX2_costOfAllTrades_3 rfl (by rw [hnL]; decide) rfl ?_
  have L4 : ∀ (n9 i : Nat), i + n9 = 6 → ∀ (_ : Unit) , kv dd g 0 0 4 [(3, .int (nI i)), (1, .long (msumJ (fun k => ctr (M.2.1 11) (fun i => e.2 22 i * cou (e.2 (25 + i)) (M.2.1 3) nR) (nI k) nt) 0 i)), (0, .ref (ad 2))] [] ks ad (cE dd E e) := by
    intro n9
    induction n9 with
    | zero =>
      intro i hin4 _ 
      refine kv_iload_n X 0 dX2_costOfAllTrades_4 rfl rfl ?_
      refine kv_bipush (v := 6) X dX2_costOfAllTrades_5 (by decide) ?_
      refine kn_icmp_ge (x := i) (y := 6) (tgt := 24) X (by omega) (by omega) dX2_costOfAllTrades_7 (by decide) (fun hc7 => ?_) (fun hc7 => absurd hc7 (by omega))
      refine kv_lload_n X 1 dX2_costOfAllTrades_24 rfl rfl ?_
      exact kv_lreturn X hr (Nat.le_of_ble_eq_true rfl) (Nat.le_of_ble_eq_true rfl) ⟨e, ⟨rfl, by rw [show i = 6 by omega]⟩, rfl⟩ dX2_costOfAllTrades_25
    | succ n9 ih4 =>
      intro i hin4 _ 
      refine kv_iload_n X 0 dX2_costOfAllTrades_4 rfl rfl ?_
      refine kv_bipush (v := 6) X dX2_costOfAllTrades_5 (by decide) ?_
      refine kn_icmp_ge (x := i) (y := 6) (tgt := 24) X (by omega) (by omega) dX2_costOfAllTrades_7 (by decide) (fun hc7 => absurd hc7 (by omega)) (fun hc7 => ?_)
      refine kv_lload_n X 1 dX2_costOfAllTrades_10 rfl rfl ?_
      refine kv_aload_n X 2 dX2_costOfAllTrades_11 rfl rfl ?_
      refine kv_iload_n X 0 dX2_costOfAllTrades_12 rfl rfl ?_
      refine kv_calllV (ci := 5) (κ := 2) (r1 := (TX2, 9)) (As := [.int (nI i)]) [.long (msumJ (fun k => ctr (M.2.1 11) (fun i => e.2 22 i * cou (e.2 (25 + i)) (M.2.1 3) nR) (nI k) nt) 0 i)] X (c_X2_tradeCost l dd ks ad E e M nR nC nt nL nW nV nM cn nm mn me li rl on hO hR hC hT hL hW hV hM hB (nI i)) hl0 (kCV_of X 1 gX2_costOfAllTrades_X2_tradeCost rfl rfl rfl (by decide +kernel) hRR ⟨(Nat.le_of_ble_eq_true rfl), (Nat.le_of_ble_eq_true rfl)⟩) hO.2.2.1.1 ((cE_ne (by omega)).trans hO.2.2.1.2) rfl rfl rfl (Nat.le_of_ble_eq_true rfl) hRR ⟨(Nat.le_of_ble_eq_true rfl), (Nat.le_of_ble_eq_true rfl)⟩ dX2_costOfAllTrades_13 (fun r z hp => ?_)
      obtain ⟨rfl, rfl⟩ := hp
      refine kv_ladd X dX2_costOfAllTrades_16 ?_
      refine kv_topl (msumJ (fun k => ctr (M.2.1 11) (fun i => e.2 22 i * cou (e.2 (25 + i)) (M.2.1 3) nR) (nI k) nt) 0 (i + 1)) rfl ?_
      refine kv_lstore_n (lv2 := [(1, .long (msumJ (fun k => ctr (M.2.1 11) (fun i => e.2 22 i * cou (e.2 (25 + i)) (M.2.1 3) nR) (nI k) nt) 0 (i + 1))), (3, .int (nI i)), (0, .ref (ad 2))]) X dX2_costOfAllTrades_17 rfl (by rw [hnL]; decide) rfl ?_
      refine kv_iinc (j := 1) (v := (nI (i + 1))) (lv2 := [(3, .int (nI (i + 1))), (1, .long (msumJ (fun k => ctr (M.2.1 11) (fun i => e.2 22 i * cou (e.2 (25 + i)) (M.2.1 3) nR) (nI k) nt) 0 (i + 1))), (0, .ref (ad 2))]) X dX2_costOfAllTrades_18 rfl (nI_add i 1) (by rw [hnL]; decide) rfl ?_
      refine kv_goto (tgt := 4) X dX2_costOfAllTrades_21 (by decide) ?_
      exact kv_lv [0, 1, 2] rfl (ih4 (i + 1) (by omega) ())
  exact kv_lv [0, 1, 2] rfl (L4 6 0 (by omega) ())
theorem f_X2_unitsInCrew_39 : kF wsX2_unitsInCrew RX2 39 5 0 := ⟨_, RX2, TX2, 9, fun _ h => (List.mem_cons_of_mem _ (List.mem_append_left _ (List.mem_append_left _ (List.mem_append_left _ (List.mem_append_left _ (List.mem_append_right _ h)))))), (List.mem_cons_of_mem _ (List.mem_append_left _ (List.mem_append_left _ (List.mem_append_left _ (List.mem_append_left _ (List.mem_append_left _ (List.mem_append_left _ (List.mem_of_getElem? (i := 0) rfl)))))))), rfl, by decide, rfl⟩
theorem f_X2_unitsInCrew_142 : kF wsX2_unitsInCrew RX2 142 9 1 := ⟨_, RX6, TX6, 7, fun _ h => (List.mem_cons_of_mem _ (List.mem_append_left _ (List.mem_append_left _ (List.mem_append_left _ (List.mem_append_right _ h))))), (List.mem_cons_of_mem _ (List.mem_append_left _ (List.mem_append_left _ (List.mem_append_left _ (List.mem_append_left _ (List.mem_append_left _ (List.mem_append_left _ (List.mem_of_getElem? (i := 1) rfl)))))))), rfl, by decide, rfl⟩
theorem f_X2_unitsInCrew_147 : kF wsX2_unitsInCrew RX2 147 4 2 := ⟨_, RX1, TX1, 3, fun _ h => (List.mem_cons_of_mem _ (List.mem_append_left _ (List.mem_append_left _ (List.mem_append_right _ h)))), (List.mem_cons_of_mem _ (List.mem_append_left _ (List.mem_append_left _ (List.mem_append_left _ (List.mem_append_left _ (List.mem_append_left _ (List.mem_append_left _ (List.mem_of_getElem? (i := 3) rfl)))))))), rfl, by decide, rfl⟩
theorem f_X2_unitsInCrew_15 : kF wsX2_unitsInCrew RX2 15 5 2 := ⟨_, RX2, TX2, 9, fun _ h => (List.mem_cons_of_mem _ (List.mem_append_left _ (List.mem_append_left _ (List.mem_append_left _ (List.mem_append_left _ (List.mem_append_right _ h)))))), (List.mem_cons_of_mem _ (List.mem_append_left _ (List.mem_append_left _ (List.mem_append_left _ (List.mem_append_left _ (List.mem_append_left _ (List.mem_append_left _ (List.mem_of_getElem? (i := 4) rfl)))))))), rfl, by decide, rfl⟩
theorem f_X2_unitsInCrew_149 : kF wsX2_unitsInCrew RX2 149 4 0 := ⟨_, RX1, TX1, 3, fun _ h => (List.mem_cons_of_mem _ (List.mem_append_left _ (List.mem_append_left _ (List.mem_append_right _ h)))), (List.mem_cons_of_mem _ (List.mem_append_left _ (List.mem_append_left _ (List.mem_append_left _ (List.mem_append_left _ (List.mem_append_left _ (List.mem_append_left _ (List.mem_of_getElem? (i := 5) rfl)))))))), rfl, by decide, rfl⟩
theorem f_X2_unitsInCrew_152 : kF wsX2_unitsInCrew RX2 152 4 1 := ⟨_, RX1, TX1, 3, fun _ h => (List.mem_cons_of_mem _ (List.mem_append_left _ (List.mem_append_left _ (List.mem_append_right _ h)))), (List.mem_cons_of_mem _ (List.mem_append_left _ (List.mem_append_left _ (List.mem_append_left _ (List.mem_append_left _ (List.mem_append_left _ (List.mem_append_left _ (List.mem_of_getElem? (i := 6) rfl)))))))), rfl, by decide, rfl⟩
set_option maxRecDepth 100000 in
set_option maxHeartbeats 4000000 in
theorem c_X2_unitsInCrew (l : Launch) (dd : kDD) (ks : List Nat) (ad : Nat → Nat) (E : Nat → va_E) (e : eS) (M : mS) (nR nC nt nL nW nV nM : Nat) (cn nm mn me li rl : Nat → Nat) (on : Int32) (hO : cO dd ks ad E on) (hR : cR dd ks ad E M nR) (hC : cC dd ks ad E M nC mn me) (hT : cT dd ks ad E M nt cn nm) (hL : cL dd ks ad E M nL nW li) (hW : cW dd ks ad E M nW rl) (hV : cV dd ks ad E M nV) (hM : cM dd ks ad E M nM) (hB : cB M nR nC nt nL nW nV cn nm mn me li rl) (c r0 : Nat) (hc : c < nC) (hr0 : r0 < nR) (mr : Nat → Nat) (hmr : ∀ j, j < nR → e.1 18 j = nI (mr j) ∧ mr j < nR) : kCl l yX2_unitsInCrew wsX2_unitsInCrew ({ frames := 3, cells := 0, slots := 0, locals := 64 } : Room) 0 0 dd [.ref (ad 2), .int (nI c), .int (nI r0)] (ks, ad, (cE dd E e)) (kQl (S := eS) (fun r z => e = z ∧ r = ucr mr me (M.2.1 9) (3 * c) r0 (mn c)) (fun _ => ks) (fun _ => ad) (fun z => cE dd E z)) := by
  refine kMetl (ws' := _) (cc := cX2_unitsInCrew) (maxL := 7) (rt := .long) (by decide) rfl (Nat.le_of_ble_eq_true rfl) (fun g X hr hnL hRR hl0 hkn => ?_)
  show kv dd g 0 0 0 [(0, .ref (ad 2)), (1, .int (nI c)), (2, .int (nI r0))] [] ks ad (cE dd E e)
  have hC4 := hC.1
  have hR12 := hR.1
  refine kv_aload_n X 0 dX2_unitsInCrew_0 rfl rfl ?_
  refine kv_getfield X f_X2_unitsInCrew_39 (κ := 2) (fs := [.ref (ad 1), .ref (ad 17), .ref (ad 18), .ref (ad 19), .ref (ad 20), .ref (ad 21), .ref (ad 22), .ref (ad 23), .ref (ad 24)]) (v := .ref (ad 1)) hO.2.2.1.1 ((cE_ne (by omega)).trans hO.2.2.1.2) rfl dX2_unitsInCrew_1 ?_
  refine kv_getfield X f_X2_unitsInCrew_142 (κ := 1) (fs := [.ref (ad 3), .ref (ad 4), .ref (ad 5), .ref (ad 6), .ref (ad 7), .ref (ad 8), .ref (ad 9)]) (v := .ref (ad 4)) hO.2.1.1 ((cE_ne (by omega)).trans hO.2.1.2) rfl dX2_unitsInCrew_4 ?_
  refine kv_iload_n X 1 dX2_unitsInCrew_7 rfl rfl ?_
  obtain ⟨_, _, o8⟩ := kLs_obj (dd := dd) (ks := ks) (ad := ad) (E := (cE dd E e)) (kLs_cE hC.2.1 (by omega) (by omega) (fun i hi => by omega))
  refine kv_callqV (ci := 2) (κ := 4) (r1 := (TJx4a65c, 3)) (As := [.int (nI c)]) [] X (c_Jx4a65c_get_915e3 l dd ks ad (cE dd E e) (4) (11) (nC) (fun c => 80 + c) 4 (kLs_cE hC.2.1 (by omega) (by omega) (fun i hi => by omega)) c (by omega)) hl0 (kCV_of X 1 gX2_unitsInCrew_Jx4a65c_get_915e3 rfl rfl rfl (by decide +kernel) hRR ⟨(Nat.le_of_ble_eq_true rfl), (Nat.le_of_ble_eq_true rfl)⟩) hC.2.1.1 o8 rfl rfl rfl (Nat.le_of_ble_eq_true rfl) hRR ⟨(Nat.le_of_ble_eq_true rfl), (Nat.le_of_ble_eq_true rfl)⟩ dX2_unitsInCrew_8 (fun r z hp => ?_)
  obtain rfl := hp
  refine kv_topg (.ref (ad (80 + c))) rfl ?_
  refine kv_cast X (κ := 80 + c) (ci := 4) (fs := [.ref (ad (84 + c)), .ref (ad (88 + c)), .int (nI (mn c))]) (r := (RX1, TX1, 3)) (List.mem_cons_of_mem _ (List.mem_append_left _ (List.mem_append_left _ (List.mem_append_left _ (List.mem_append_left _ (List.mem_append_left _ (List.mem_append_left _ (List.mem_of_getElem? (i := 2) rfl)))))))) (hC.2.2 c (by omega)).1 ((cE_ne (by omega)).trans (hC.2.2 c (by omega)).2.1) rfl dX2_unitsInCrew_11 ?_
  refine kv_astore_n (lv2 := [(3, .ref (ad (80 + c))), (0, .ref (ad 2)), (1, .int (nI c)), (2, .int (nI r0))]) X dX2_unitsInCrew_14 rfl (by rw [hnL]; decide) rfl ?_
  obtain ⟨g1, g2, hg1, hg2, hgg⟩ := (hC.2.2 c hc).2.2.2.2.2
  have hm3 := (hC.2.2 c hc).2.2.1
  refine kv_lconst (v := 0) X dX2_unitsInCrew_15 (by decide) ?_
  refine kv_lstore (lv2 := [(4, .long 0), (3, .ref (ad (80 + c))), (0, .ref (ad 2)), (1, .int (nI c)), (2, .int (nI r0))]) X dX2_unitsInCrew_16 (by rw [hnL]; decide) rfl ?_
  refine kv_iconst (v := 0) X dX2_unitsInCrew_18 (by decide) ?_
  refine kv_istore (lv2 := [(6, .int 0), (4, .long 0), (3, .ref (ad (80 + c))), (0, .ref (ad 2)), (1, .int (nI c)), (2, .int (nI r0))]) X dX2_unitsInCrew_19 (by rw [hnL]; decide) rfl ?_
  have L21 : ∀ (n9 q : Nat), q + n9 = mn c → ∀ (_ : Unit) , kv dd g 0 0 21 [(6, .int (nI q)), (4, .long (ucr mr me (M.2.1 9) (3 * c) r0 q)), (3, .ref (ad (80 + c))), (0, .ref (ad 2)), (1, .int (nI c)), (2, .int (nI r0))] [] ks ad (cE dd E e) := by
    intro n9
    induction n9 with
    | zero =>
      intro q hin21 _ 
      refine kv_iload X 0 dX2_unitsInCrew_21 rfl ?_
      refine kv_aload_n X 2 dX2_unitsInCrew_23 rfl rfl ?_
      refine kv_getfield X f_X2_unitsInCrew_147 (κ := 80 + c) (fs := [.ref (ad (84 + c)), .ref (ad (88 + c)), .int (nI (mn c))]) (v := .int (nI (mn c))) (hC.2.2 c (by omega)).1 ((cE_ne (by omega)).trans (hC.2.2 c (by omega)).2.1) rfl dX2_unitsInCrew_24 ?_
      refine kn_icmp_ge (x := q) (y := mn c) (tgt := 65) X (by omega) (by omega) dX2_unitsInCrew_27 (by decide) (fun hc27 => ?_) (fun hc27 => absurd hc27 (by omega))
      refine kv_lload X 1 dX2_unitsInCrew_65 rfl ?_
      exact kv_lreturn X hr (Nat.le_of_ble_eq_true rfl) (Nat.le_of_ble_eq_true rfl) ⟨e, ⟨rfl, by rw [show q = mn c by omega]⟩, rfl⟩ dX2_unitsInCrew_67
    | succ n9 ih21 =>
      intro q hin21 _ 
      refine kv_iload X 0 dX2_unitsInCrew_21 rfl ?_
      refine kv_aload_n X 2 dX2_unitsInCrew_23 rfl rfl ?_
      refine kv_getfield X f_X2_unitsInCrew_147 (κ := 80 + c) (fs := [.ref (ad (84 + c)), .ref (ad (88 + c)), .int (nI (mn c))]) (v := .int (nI (mn c))) (hC.2.2 c (by omega)).1 ((cE_ne (by omega)).trans (hC.2.2 c (by omega)).2.1) rfl dX2_unitsInCrew_24 ?_
      refine kn_icmp_ge (x := q) (y := mn c) (tgt := 65) X (by omega) (by omega) dX2_unitsInCrew_27 (by decide) (fun hc27 => absurd hc27 (by omega)) (fun hc27 => ?_)
      refine kv_aload_n X 3 dX2_unitsInCrew_30 rfl rfl ?_
      refine kv_getfield X f_X2_unitsInCrew_15 (κ := 2) (fs := [.ref (ad 1), .ref (ad 17), .ref (ad 18), .ref (ad 19), .ref (ad 20), .ref (ad 21), .ref (ad 22), .ref (ad 23), .ref (ad 24)]) (v := .ref (ad 18)) hO.2.2.1.1 ((cE_ne (by omega)).trans hO.2.2.1.2) rfl dX2_unitsInCrew_31 ?_
      refine kv_aload_n X 2 dX2_unitsInCrew_34 rfl rfl ?_
      refine kv_getfield X f_X2_unitsInCrew_149 (κ := 80 + c) (fs := [.ref (ad (84 + c)), .ref (ad (88 + c)), .int (nI (mn c))]) (v := .ref (ad (84 + c))) (hC.2.2 c (by omega)).1 ((cE_ne (by omega)).trans (hC.2.2 c (by omega)).2.1) rfl dX2_unitsInCrew_35 ?_
      refine kv_iload X 0 dX2_unitsInCrew_38 rfl ?_
      refine kv_iaload X (κ := 84 + c) (n := 3) (j := q) (f := g1) (hC.2.2 c hc).2.2.2.1 ((cE_ne (by omega)).trans hg1) (by omega) (by omega) dX2_unitsInCrew_40 ?_
      have hme := hB.2.1 c hc q (by omega)
      have hmm := (hmr (me (3 * c + q)) hme).2
      refine kv_topi (nI (me (3 * c + q))) (hgg q (by omega)).1 ?_
      refine ke_iald X (18) (j := me (3 * c + q)) (hO.2.2.2.1 _ (by omega) (by omega)) (by omega) (by omega) dX2_unitsInCrew_41 ?_
      refine kv_topi (nI (mr (me (3 * c + q)))) (hmr (me (3 * c + q)) hme).1 ?_
      refine kv_iload_n X 5 dX2_unitsInCrew_42 rfl rfl ?_
      refine kn_icmp_ne (x := mr (me (3 * c + q))) (y := r0) (tgt := 59) X (by omega) (by omega) dX2_unitsInCrew_43 (by decide) (fun hc43 => ?_) (fun hc43 => ?_)
      ·
        refine kv_L [(6, .int (nI q)), (4, .long (ucr mr me (M.2.1 9) (3 * c) r0 (q + 1))), (3, .ref (ad (80 + c))), (0, .ref (ad 2)), (1, .int (nI c)), (2, .int (nI r0))] (by rw [ucr, if_neg hc43, Int64.add_zero]) ?_
        refine kv_iinc (j := 0) (v := (nI (q + 1))) (lv2 := [(6, .int (nI (q + 1))), (4, .long (ucr mr me (M.2.1 9) (3 * c) r0 (q + 1))), (3, .ref (ad (80 + c))), (0, .ref (ad 2)), (1, .int (nI c)), (2, .int (nI r0))]) X dX2_unitsInCrew_59 rfl (nI_add q 1) (by rw [hnL]; decide) rfl ?_
        refine kv_goto (tgt := 21) X dX2_unitsInCrew_62 (by decide) ?_
        exact kv_lv [0, 1, 2, 3, 4, 5] rfl (ih21 (q + 1) (by omega) ())
      ·
        refine kv_lload X 1 dX2_unitsInCrew_46 rfl ?_
        refine kv_aload_n X 2 dX2_unitsInCrew_48 rfl rfl ?_
        refine kv_getfield X f_X2_unitsInCrew_152 (κ := 80 + c) (fs := [.ref (ad (84 + c)), .ref (ad (88 + c)), .int (nI (mn c))]) (v := .ref (ad (88 + c))) (hC.2.2 c (by omega)).1 ((cE_ne (by omega)).trans (hC.2.2 c (by omega)).2.1) rfl dX2_unitsInCrew_49 ?_
        refine kv_iload X 0 dX2_unitsInCrew_52 rfl ?_
        refine kv_iaload X (κ := 88 + c) (n := 3) (j := q) (f := g2) (hC.2.2 c hc).2.2.2.2.1 ((cE_ne (by omega)).trans hg2) (by omega) (by omega) dX2_unitsInCrew_54 ?_
        refine kv_topi (M.2.1 9 (3 * c + q)) (hgg q (by omega)).2 ?_
        refine kv_i2l X dX2_unitsInCrew_55 rfl ?_
        refine kv_ladd X dX2_unitsInCrew_56 ?_
        refine kv_topl (ucr mr me (M.2.1 9) (3 * c) r0 (q + 1)) (by rw [ucr, if_pos hc43]) ?_
        refine kv_lstore (lv2 := [(4, .long (ucr mr me (M.2.1 9) (3 * c) r0 (q + 1))), (6, .int (nI q)), (3, .ref (ad (80 + c))), (0, .ref (ad 2)), (1, .int (nI c)), (2, .int (nI r0))]) X dX2_unitsInCrew_57 (by rw [hnL]; decide) rfl ?_
        refine kv_iinc (j := 1) (v := (nI (q + 1))) (lv2 := [(6, .int (nI (q + 1))), (4, .long (ucr mr me (M.2.1 9) (3 * c) r0 (q + 1))), (3, .ref (ad (80 + c))), (0, .ref (ad 2)), (1, .int (nI c)), (2, .int (nI r0))]) X dX2_unitsInCrew_59 rfl (nI_add q 1) (by rw [hnL]; decide) rfl ?_
        refine kv_goto (tgt := 21) X dX2_unitsInCrew_62 (by decide) ?_
        exact kv_lv [0, 1, 2, 3, 4, 5] rfl (ih21 (q + 1) (by omega) ())
  exact kv_lv [0, 1, 2, 3, 4, 5] rfl (L21 (mn c) 0 (by omega) ())

set_option maxRecDepth 100000 in
set_option maxHeartbeats 4000000 in
theorem c_X2_unitsInTree4 (l : Launch) (dd : kDD) (ks : List Nat) (ad : Nat → Nat) (E : Nat → va_E) (e : eS) (M : mS) (nR nC nt nL nW nV nM : Nat) (cn nm mn me li rl : Nat → Nat) (on : Int32) (hO : cO dd ks ad E on) (hR : cR dd ks ad E M nR) (hC : cC dd ks ad E M nC mn me) (hT : cT dd ks ad E M nt cn nm) (hL : cL dd ks ad E M nL nW li) (hW : cW dd ks ad E M nW rl) (hV : cV dd ks ad E M nV) (hM : cM dd ks ad E M nM) (hB : cB M nR nC nt nL nW nV cn nm mn me li rl) (i r0 : Nat) (hi : i < nt) (hr0 : r0 < nR) (mi : Nat → Nat) (hmi : ∀ j, j < nt → e.1 17 j = nI (mi j) ∧ mi j < nt) (mr : Nat → Nat) (hmr : ∀ j, j < nR → e.1 18 j = nI (mr j) ∧ mr j < nR) : kCl l yX2_unitsInTree wsX2_unitsInTree ({ frames := 0, cells := 0, slots := 0, locals := 0 } : Room) 0 0 dd [.ref (ad 2), .int (nI i), .int (nI r0), .int (nI 4)] (ks, ad, (cE dd E e)) (kQl (S := eS) (fun r z => e = z ∧ r = utr (M.2.1 13) (M.2.1 15) (M.2.1 9) cn nm mn mr me (fun k => mi (nm k)) r0 0 i) (fun _ => ks) (fun _ => ad) (fun z => cE dd E z)) := by
  refine kMetl (ws' := _) (cc := cX2_unitsInTree) (maxL := 8) (rt := .long) (by decide) rfl (Nat.le_of_ble_eq_true rfl) (fun g X hr hnL hRR hl0 hkn => ?_)
  show kv dd g 0 0 0 [(0, .ref (ad 2)), (1, .int (nI i)), (2, .int (nI r0)), (3, .int (nI 4))] [] ks ad (cE dd E e)
  refine kv_iload_n X 3 dX2_unitsInTree_0 rfl rfl ?_
  refine kv_iconst (v := 3) X dX2_unitsInTree_1 (by decide) ?_
  refine kn_icmp_le (x := 4) (y := 3) (tgt := 7) X (by omega) (by omega) dX2_unitsInTree_2 (by decide) (fun hc2 => absurd hc2 (by omega)) (fun hc2 => ?_)
  refine kv_lconst (v := 0) X dX2_unitsInTree_5 (by decide) ?_
  exact kv_lreturn X hr (Nat.le_of_ble_eq_true rfl) (Nat.le_of_ble_eq_true rfl) ⟨e, ⟨rfl, rfl⟩, rfl⟩ dX2_unitsInTree_6
theorem f_X2_unitsInComponent_105 : kF wsX2_unitsInComponent RX2 105 3 0 := ⟨_, RX0, TX0, 3, fun _ h => (List.mem_cons_of_mem _ (List.mem_append_left _ (List.mem_append_left _ (List.mem_append_left _ (List.mem_append_left _ (List.mem_append_left _ (List.mem_append_left _ (List.mem_append_right _ h)))))))), (List.mem_cons_of_mem _ (List.mem_append_left _ (List.mem_append_left _ (List.mem_append_left _ (List.mem_append_left _ (List.mem_append_left _ (List.mem_append_left _ (List.mem_append_left _ (List.mem_append_left _ (List.mem_of_getElem? (i := 0) rfl)))))))))), rfl, by decide, rfl⟩
theorem f_X2_unitsInComponent_15 : kF wsX2_unitsInComponent RX2 15 5 2 := ⟨_, RX2, TX2, 9, fun _ h => (List.mem_cons_of_mem _ (List.mem_append_left _ (List.mem_append_left _ (List.mem_append_left _ (List.mem_append_left _ (List.mem_append_left _ (List.mem_append_right _ h))))))), (List.mem_cons_of_mem _ (List.mem_append_left _ (List.mem_append_left _ (List.mem_append_left _ (List.mem_append_left _ (List.mem_append_left _ (List.mem_append_left _ (List.mem_append_left _ (List.mem_append_left _ (List.mem_of_getElem? (i := 4) rfl)))))))))), rfl, by decide, rfl⟩
theorem f_X2_unitsInComponent_109 : kF wsX2_unitsInComponent RX2 109 3 1 := ⟨_, RX0, TX0, 3, fun _ h => (List.mem_cons_of_mem _ (List.mem_append_left _ (List.mem_append_left _ (List.mem_append_left _ (List.mem_append_left _ (List.mem_append_left _ (List.mem_append_left _ (List.mem_append_right _ h)))))))), (List.mem_cons_of_mem _ (List.mem_append_left _ (List.mem_append_left _ (List.mem_append_left _ (List.mem_append_left _ (List.mem_append_left _ (List.mem_append_left _ (List.mem_append_left _ (List.mem_append_left _ (List.mem_of_getElem? (i := 2) rfl)))))))))), rfl, by decide, rfl⟩
theorem f_X2_unitsInComponent_139 : kF wsX2_unitsInComponent RX2 139 3 2 := ⟨_, RX0, TX0, 3, fun _ h => (List.mem_cons_of_mem _ (List.mem_append_left _ (List.mem_append_left _ (List.mem_append_left _ (List.mem_append_left _ (List.mem_append_left _ (List.mem_append_left _ (List.mem_append_right _ h)))))))), (List.mem_cons_of_mem _ (List.mem_append_left _ (List.mem_append_left _ (List.mem_append_left _ (List.mem_append_left _ (List.mem_append_left _ (List.mem_append_left _ (List.mem_append_left _ (List.mem_append_left _ (List.mem_of_getElem? (i := 3) rfl)))))))))), rfl, by decide, rfl⟩
theorem f_X2_unitsInComponent_9 : kF wsX2_unitsInComponent RX2 9 5 1 := ⟨_, RX2, TX2, 9, fun _ h => (List.mem_cons_of_mem _ (List.mem_append_left _ (List.mem_append_left _ (List.mem_append_left _ (List.mem_append_left _ (List.mem_append_left _ (List.mem_append_right _ h))))))), (List.mem_cons_of_mem _ (List.mem_append_left _ (List.mem_append_left _ (List.mem_append_left _ (List.mem_append_left _ (List.mem_append_left _ (List.mem_append_left _ (List.mem_append_left _ (List.mem_append_left _ (List.mem_of_getElem? (i := 1) rfl)))))))))), rfl, by decide, rfl⟩
set_option maxRecDepth 100000 in
set_option maxHeartbeats 4000000 in
theorem c_X2_unitsInComponent3 (l : Launch) (dd : kDD) (ks : List Nat) (ad : Nat → Nat) (E : Nat → va_E) (e : eS) (M : mS) (nR nC nt nL nW nV nM : Nat) (cn nm mn me li rl : Nat → Nat) (on : Int32) (hO : cO dd ks ad E on) (hR : cR dd ks ad E M nR) (hC : cC dd ks ad E M nC mn me) (hT : cT dd ks ad E M nt cn nm) (hL : cL dd ks ad E M nL nW li) (hW : cW dd ks ad E M nW rl) (hV : cV dd ks ad E M nV) (hM : cM dd ks ad E M nM) (hB : cB M nR nC nt nL nW nV cn nm mn me li rl) (i k r0 : Nat) (hi : i < nt) (hk : k < cn i) (hr0 : r0 < nR) (mi : Nat → Nat) (hmi : ∀ j, j < nt → e.1 17 j = nI (mi j) ∧ mi j < nt) (mr : Nat → Nat) (hmr : ∀ j, j < nR → e.1 18 j = nI (mr j) ∧ mr j < nR) : kCl l yX2_unitsInComponent wsX2_unitsInComponent ({ frames := 4, cells := 0, slots := 0, locals := 90 } : Room) 0 0 dd [.ref (ad 2), .ref (ad (144 + (4 * i + k))), .int (nI r0), .int (nI 3)] (ks, ad, (cE dd E e)) (kQl (S := eS) (fun r z => e = z ∧ r = uco (M.2.1 13) (M.2.1 15) (M.2.1 9) nm mn mr me (fun k => mi (nm k)) r0 (utr (M.2.1 13) (M.2.1 15) (M.2.1 9) cn nm mn mr me (fun k => mi (nm k)) r0 0) (4 * i + k)) (fun _ => ks) (fun _ => ad) (fun z => cE dd E z)) := by
  refine kMetl (ws' := _) (cc := cX2_unitsInComponent) (maxL := 5) (rt := .long) (by decide) rfl (Nat.le_of_ble_eq_true rfl) (fun g X hr hnL hRR hl0 hkn => ?_)
  show kv dd g 0 0 0 [(0, .ref (ad 2)), (1, .ref (ad (144 + (4 * i + k)))), (2, .int (nI r0)), (3, .int (nI 3))] [] ks ad (cE dd E e)
  have hT12 := hT.1
  have hR12 := hR.1
  have hcn4 := (hT.2.2 i hi).2.2.1
  refine kv_aload_n X 1 dX2_unitsInComponent_0 rfl rfl ?_
  refine kv_getfield X f_X2_unitsInComponent_105 (κ := 144 + (4 * i + k)) (fs := [.int (M.2.1 13 (4 * i + k)), .int (nI (nm (4 * i + k))), .int (M.2.1 15 (4 * i + k))]) (v := .int (M.2.1 13 (4 * i + k))) ((hT.2.2 i (by omega)).2.2.2.2 k (by omega)).1 ((cE_ne (by omega)).trans ((hT.2.2 i (by omega)).2.2.2.2 k (by omega)).2) rfl dX2_unitsInComponent_1 ?_
  refine kv_if_ne (tgt := 35) X dX2_unitsInComponent_4 (by decide) (fun hc4 => ?_) (fun hc4 => ?_)
  ·
    refine kv_aload_n X 1 dX2_unitsInComponent_35 rfl rfl ?_
    refine kv_getfield X f_X2_unitsInComponent_105 (κ := 144 + (4 * i + k)) (fs := [.int (M.2.1 13 (4 * i + k)), .int (nI (nm (4 * i + k))), .int (M.2.1 15 (4 * i + k))]) (v := .int (M.2.1 13 (4 * i + k))) ((hT.2.2 i (by omega)).2.2.2.2 k (by omega)).1 ((cE_ne (by omega)).trans ((hT.2.2 i (by omega)).2.2.2.2 k (by omega)).2) rfl dX2_unitsInComponent_36 ?_
    refine kv_iconst (v := 2) X dX2_unitsInComponent_39 (by decide) ?_
    refine kv_icmp_ne (tgt := 59) X dX2_unitsInComponent_40 (by decide) (fun hc40 => ?_) (fun hc40 => ?_)
    ·
      refine kv_aload_n X 0 dX2_unitsInComponent_59 rfl rfl ?_
      refine kv_getfield X f_X2_unitsInComponent_15 (κ := 2) (fs := [.ref (ad 1), .ref (ad 17), .ref (ad 18), .ref (ad 19), .ref (ad 20), .ref (ad 21), .ref (ad 22), .ref (ad 23), .ref (ad 24)]) (v := .ref (ad 18)) hO.2.2.1.1 ((cE_ne (by omega)).trans hO.2.2.1.2) rfl dX2_unitsInComponent_60 ?_
      refine kv_aload_n X 1 dX2_unitsInComponent_63 rfl rfl ?_
      refine kv_getfield X f_X2_unitsInComponent_109 (κ := 144 + (4 * i + k)) (fs := [.int (M.2.1 13 (4 * i + k)), .int (nI (nm (4 * i + k))), .int (M.2.1 15 (4 * i + k))]) (v := .int (nI (nm (4 * i + k)))) ((hT.2.2 i (by omega)).2.2.2.2 k (by omega)).1 ((cE_ne (by omega)).trans ((hT.2.2 i (by omega)).2.2.2.2 k (by omega)).2) rfl dX2_unitsInComponent_64 ?_
      have hnR : nm (4 * i + k) < nR := by rcases hB.1 i (by omega) k (by omega) with q | q | q; exact absurd q.1 hc4; exact q.2; exact absurd q.1 hc40
      have hmm := (hmr (nm (4 * i + k)) hnR).2
      refine ke_iald X (18) (j := nm (4 * i + k)) (hO.2.2.2.1 _ (by omega) (by omega)) (by omega) (by omega) dX2_unitsInComponent_67 ?_
      refine kv_topi (nI (mr (nm (4 * i + k)))) (hmr (nm (4 * i + k)) hnR).1 ?_
      refine kv_iload_n X 2 dX2_unitsInComponent_68 rfl rfl ?_
      refine kn_icmp_ne (x := mr (nm (4 * i + k))) (y := r0) (tgt := 80) X (by omega) (by omega) dX2_unitsInComponent_69 (by decide) (fun hc69 => ?_) (fun hc69 => ?_)
      ·
        refine kv_lconst (v := 0) X dX2_unitsInComponent_80 (by decide) ?_
        exact kv_lreturn X hr (Nat.le_of_ble_eq_true rfl) (Nat.le_of_ble_eq_true rfl) ⟨e, ⟨rfl, by rw [uco, if_neg hc4, if_neg hc40]; first | rw [if_pos hc69] | rw [if_neg hc69]⟩, rfl⟩ dX2_unitsInComponent_81
      ·
        refine kv_aload_n X 1 dX2_unitsInComponent_72 rfl rfl ?_
        refine kv_getfield X f_X2_unitsInComponent_139 (κ := 144 + (4 * i + k)) (fs := [.int (M.2.1 13 (4 * i + k)), .int (nI (nm (4 * i + k))), .int (M.2.1 15 (4 * i + k))]) (v := .int (M.2.1 15 (4 * i + k))) ((hT.2.2 i (by omega)).2.2.2.2 k (by omega)).1 ((cE_ne (by omega)).trans ((hT.2.2 i (by omega)).2.2.2.2 k (by omega)).2) rfl dX2_unitsInComponent_73 ?_
        refine kv_i2l X dX2_unitsInComponent_76 rfl ?_
        refine kv_goto (tgt := 81) X dX2_unitsInComponent_77 (by decide) ?_
        exact kv_lreturn X hr (Nat.le_of_ble_eq_true rfl) (Nat.le_of_ble_eq_true rfl) ⟨e, ⟨rfl, by rw [uco, if_neg hc4, if_neg hc40]; first | rw [if_pos hc69] | rw [if_neg hc69]⟩, rfl⟩ dX2_unitsInComponent_81
    ·
      refine kv_aload_n X 1 dX2_unitsInComponent_43 rfl rfl ?_
      refine kv_getfield X f_X2_unitsInComponent_139 (κ := 144 + (4 * i + k)) (fs := [.int (M.2.1 13 (4 * i + k)), .int (nI (nm (4 * i + k))), .int (M.2.1 15 (4 * i + k))]) (v := .int (M.2.1 15 (4 * i + k))) ((hT.2.2 i (by omega)).2.2.2.2 k (by omega)).1 ((cE_ne (by omega)).trans ((hT.2.2 i (by omega)).2.2.2.2 k (by omega)).2) rfl dX2_unitsInComponent_44 ?_
      refine kv_i2l X dX2_unitsInComponent_47 rfl ?_
      refine kv_aload_n X 0 dX2_unitsInComponent_48 rfl rfl ?_
      refine kv_aload_n X 1 dX2_unitsInComponent_49 rfl rfl ?_
      refine kv_getfield X f_X2_unitsInComponent_109 (κ := 144 + (4 * i + k)) (fs := [.int (M.2.1 13 (4 * i + k)), .int (nI (nm (4 * i + k))), .int (M.2.1 15 (4 * i + k))]) (v := .int (nI (nm (4 * i + k)))) ((hT.2.2 i (by omega)).2.2.2.2 k (by omega)).1 ((cE_ne (by omega)).trans ((hT.2.2 i (by omega)).2.2.2.2 k (by omega)).2) rfl dX2_unitsInComponent_50 ?_
      have hnC : nm (4 * i + k) < nC := by rcases hB.1 i (by omega) k (by omega) with q | q | q; exact absurd (hc40.symm.trans q.1) (by decide); exact absurd (hc40.symm.trans q.1) (by decide); exact q.2
      refine kv_iload_n X 2 dX2_unitsInComponent_53 rfl rfl ?_
      refine kv_calllV (ci := 5) (κ := 2) (r1 := (TX2, 9)) (As := [.int (nI (nm (4 * i + k))), .int (nI r0)]) [.long ((M.2.1 15 (4 * i + k)).toInt64)] X (c_X2_unitsInCrew l dd ks ad E e M nR nC nt nL nW nV nM cn nm mn me li rl on hO hR hC hT hL hW hV hM hB (nm (4 * i + k)) r0 hnC hr0 mr hmr) hl0 (kCV_of X 2 gX2_unitsInComponent_X2_unitsInCrew rfl rfl rfl (by decide +kernel) hRR ⟨(Nat.le_of_ble_eq_true rfl), (Nat.le_of_ble_eq_true rfl)⟩) hO.2.2.1.1 ((cE_ne (by omega)).trans hO.2.2.1.2) rfl rfl rfl (Nat.le_of_ble_eq_true rfl) hRR ⟨(Nat.le_of_ble_eq_true rfl), (Nat.le_of_ble_eq_true rfl)⟩ dX2_unitsInComponent_54 (fun r z hp => ?_)
      obtain ⟨rfl, rfl⟩ := hp
      refine kv_lmul X dX2_unitsInComponent_57 ?_
      exact kv_lreturn X hr (Nat.le_of_ble_eq_true rfl) (Nat.le_of_ble_eq_true rfl) ⟨e, ⟨rfl, by rw [uco, if_neg hc4, if_pos hc40]⟩, rfl⟩ dX2_unitsInComponent_58
  ·
    refine kv_aload_n X 0 dX2_unitsInComponent_7 rfl rfl ?_
    refine kv_getfield X f_X2_unitsInComponent_9 (κ := 2) (fs := [.ref (ad 1), .ref (ad 17), .ref (ad 18), .ref (ad 19), .ref (ad 20), .ref (ad 21), .ref (ad 22), .ref (ad 23), .ref (ad 24)]) (v := .ref (ad 17)) hO.2.2.1.1 ((cE_ne (by omega)).trans hO.2.2.1.2) rfl dX2_unitsInComponent_8 ?_
    have hnt : nm (4 * i + k) < nt := by rcases hB.1 i (by omega) k (by omega) with q | q | q; exact q.2; exact absurd (hc4.symm.trans q.1) (by decide); exact absurd (hc4.symm.trans q.1) (by decide)
    have hmt := (hmi (nm (4 * i + k)) hnt).2
    refine kv_aload_n X 1 dX2_unitsInComponent_11 rfl rfl ?_
    refine kv_getfield X f_X2_unitsInComponent_109 (κ := 144 + (4 * i + k)) (fs := [.int (M.2.1 13 (4 * i + k)), .int (nI (nm (4 * i + k))), .int (M.2.1 15 (4 * i + k))]) (v := .int (nI (nm (4 * i + k)))) ((hT.2.2 i (by omega)).2.2.2.2 k (by omega)).1 ((cE_ne (by omega)).trans ((hT.2.2 i (by omega)).2.2.2.2 k (by omega)).2) rfl dX2_unitsInComponent_12 ?_
    refine ke_iald X (17) (j := nm (4 * i + k)) (hO.2.2.2.1 _ (by omega) (by omega)) (by omega) (by omega) dX2_unitsInComponent_15 ?_
    refine kv_topi (nI (mi (nm (4 * i + k)))) (hmi (nm (4 * i + k)) hnt).1 ?_
    refine kv_istore (lv2 := [(4, .int (nI (mi (nm (4 * i + k))))), (0, .ref (ad 2)), (1, .ref (ad (144 + (4 * i + k)))), (2, .int (nI r0)), (3, .int (nI 3))]) X dX2_unitsInComponent_16 (by rw [hnL]; decide) rfl ?_
    refine kv_aload_n X 2 dX2_unitsInComponent_18 rfl rfl ?_
    refine kv_getfield X f_X2_unitsInComponent_139 (κ := 144 + (4 * i + k)) (fs := [.int (M.2.1 13 (4 * i + k)), .int (nI (nm (4 * i + k))), .int (M.2.1 15 (4 * i + k))]) (v := .int (M.2.1 15 (4 * i + k))) ((hT.2.2 i (by omega)).2.2.2.2 k (by omega)).1 ((cE_ne (by omega)).trans ((hT.2.2 i (by omega)).2.2.2.2 k (by omega)).2) rfl dX2_unitsInComponent_19 ?_
    refine kv_i2l X dX2_unitsInComponent_22 rfl ?_
    refine kv_aload_n X 1 dX2_unitsInComponent_23 rfl rfl ?_
    refine kv_iload X 0 dX2_unitsInComponent_24 rfl ?_
    refine kv_iload_n X 3 dX2_unitsInComponent_26 rfl rfl ?_
    refine kv_iload_n X 4 dX2_unitsInComponent_27 rfl rfl ?_
    refine kv_iconst (v := 1) X dX2_unitsInComponent_28 (by decide) ?_
    refine kv_iadd X dX2_unitsInComponent_29 ?_
    refine kv_topi (nI (3 + 1)) (nI_add 3 1) ?_
    refine kv_topi (nI 4) rfl ?_
    refine kv_calllV (ci := 5) (κ := 2) (r1 := (TX2, 9)) (As := [.int (nI (mi (nm (4 * i + k)))), .int (nI r0), .int (nI 4)]) [.long ((M.2.1 15 (4 * i + k)).toInt64)] X (c_X2_unitsInTree4 l dd ks ad E e M nR nC nt nL nW nV nM cn nm mn me li rl on hO hR hC hT hL hW hV hM hB (mi (nm (4 * i + k))) r0 (by omega) hr0 mi hmi mr hmr) hl0 (kCV_of X 3 gX2_unitsInComponent_X2_unitsInTree rfl rfl rfl (by decide +kernel) hRR ⟨(Nat.le_of_ble_eq_true rfl), (Nat.le_of_ble_eq_true rfl)⟩) hO.2.2.1.1 ((cE_ne (by omega)).trans hO.2.2.1.2) rfl rfl rfl (Nat.le_of_ble_eq_true rfl) hRR ⟨(Nat.le_of_ble_eq_true rfl), (Nat.le_of_ble_eq_true rfl)⟩ dX2_unitsInComponent_30 (fun r z hp => ?_)
    obtain ⟨rfl, rfl⟩ := hp
    refine kv_lmul X dX2_unitsInComponent_33 ?_
    exact kv_lreturn X hr (Nat.le_of_ble_eq_true rfl) (Nat.le_of_ble_eq_true rfl) ⟨e, ⟨rfl, by rw [uco, if_pos hc4]⟩, rfl⟩ dX2_unitsInComponent_34
theorem f_X2_unitsInTree_39 : kF wsX2_unitsInTree RX2 39 5 0 := ⟨_, RX2, TX2, 9, fun _ h => (List.mem_cons_of_mem _ (List.mem_append_left _ (List.mem_append_left _ (List.mem_append_left _ (List.mem_append_left _ (List.mem_append_left _ (List.mem_append_right _ h))))))), (List.mem_cons_of_mem _ (List.mem_append_left _ (List.mem_append_left _ (List.mem_append_left _ (List.mem_append_left _ (List.mem_append_left _ (List.mem_append_left _ (List.mem_append_left _ (List.mem_append_left _ (List.mem_of_getElem? (i := 0) rfl)))))))))), rfl, by decide, rfl⟩
theorem f_X2_unitsInTree_43 : kF wsX2_unitsInTree RX2 43 9 2 := ⟨_, RX6, TX6, 7, fun _ h => (List.mem_cons_of_mem _ (List.mem_append_left _ (List.mem_append_left _ (List.mem_append_left _ (List.mem_append_left _ (List.mem_append_right _ h)))))), (List.mem_cons_of_mem _ (List.mem_append_left _ (List.mem_append_left _ (List.mem_append_left _ (List.mem_append_left _ (List.mem_append_left _ (List.mem_append_left _ (List.mem_append_left _ (List.mem_append_left _ (List.mem_of_getElem? (i := 1) rfl)))))))))), rfl, by decide, rfl⟩
theorem f_X2_unitsInTree_100 : kF wsX2_unitsInTree RX2 100 6 1 := ⟨_, RX3, TX3, 2, fun _ h => (List.mem_cons_of_mem _ (List.mem_append_left _ (List.mem_append_right _ h))), (List.mem_cons_of_mem _ (List.mem_append_left _ (List.mem_append_left _ (List.mem_append_left _ (List.mem_append_left _ (List.mem_append_left _ (List.mem_append_left _ (List.mem_append_left _ (List.mem_append_left _ (List.mem_of_getElem? (i := 3) rfl)))))))))), rfl, by decide, rfl⟩
set_option maxRecDepth 100000 in
set_option maxHeartbeats 4000000 in
theorem c_X2_unitsInTree3 (l : Launch) (dd : kDD) (ks : List Nat) (ad : Nat → Nat) (E : Nat → va_E) (e : eS) (M : mS) (nR nC nt nL nW nV nM : Nat) (cn nm mn me li rl : Nat → Nat) (on : Int32) (hO : cO dd ks ad E on) (hR : cR dd ks ad E M nR) (hC : cC dd ks ad E M nC mn me) (hT : cT dd ks ad E M nt cn nm) (hL : cL dd ks ad E M nL nW li) (hW : cW dd ks ad E M nW rl) (hV : cV dd ks ad E M nV) (hM : cM dd ks ad E M nM) (hB : cB M nR nC nt nL nW nV cn nm mn me li rl) (i r0 : Nat) (hi : i < nt) (hr0 : r0 < nR) (mi : Nat → Nat) (hmi : ∀ j, j < nt → e.1 17 j = nI (mi j) ∧ mi j < nt) (mr : Nat → Nat) (hmr : ∀ j, j < nR → e.1 18 j = nI (mr j) ∧ mr j < nR) : kCl l yX2_unitsInTree wsX2_unitsInTree ({ frames := 5, cells := 0, slots := 0, locals := 114 } : Room) 0 0 dd [.ref (ad 2), .int (nI i), .int (nI r0), .int (nI 3)] (ks, ad, (cE dd E e)) (kQl (S := eS) (fun r z => e = z ∧ r = utr (M.2.1 13) (M.2.1 15) (M.2.1 9) cn nm mn mr me (fun k => mi (nm k)) r0 1 i) (fun _ => ks) (fun _ => ad) (fun z => cE dd E z)) := by
  refine kMetl (ws' := _) (cc := cX2_unitsInTree) (maxL := 8) (rt := .long) (by decide) rfl (Nat.le_of_ble_eq_true rfl) (fun g X hr hnL hRR hl0 hkn => ?_)
  show kv dd g 0 0 0 [(0, .ref (ad 2)), (1, .int (nI i)), (2, .int (nI r0)), (3, .int (nI 3))] [] ks ad (cE dd E e)
  have hT12 := hT.1
  have hcn4 := (hT.2.2 i hi).2.2.1
  refine kv_iload_n X 3 dX2_unitsInTree_0 rfl rfl ?_
  refine kv_iconst (v := 3) X dX2_unitsInTree_1 (by decide) ?_
  refine kn_icmp_le (x := 3) (y := 3) (tgt := 7) X (by omega) (by omega) dX2_unitsInTree_2 (by decide) (fun hc2 => ?_) (fun hc2 => absurd hc2 (by omega))
  refine kv_aload_n X 0 dX2_unitsInTree_7 rfl rfl ?_
  refine kv_getfield X f_X2_unitsInTree_39 (κ := 2) (fs := [.ref (ad 1), .ref (ad 17), .ref (ad 18), .ref (ad 19), .ref (ad 20), .ref (ad 21), .ref (ad 22), .ref (ad 23), .ref (ad 24)]) (v := .ref (ad 1)) hO.2.2.1.1 ((cE_ne (by omega)).trans hO.2.2.1.2) rfl dX2_unitsInTree_8 ?_
  refine kv_getfield X f_X2_unitsInTree_43 (κ := 1) (fs := [.ref (ad 3), .ref (ad 4), .ref (ad 5), .ref (ad 6), .ref (ad 7), .ref (ad 8), .ref (ad 9)]) (v := .ref (ad 5)) hO.2.1.1 ((cE_ne (by omega)).trans hO.2.1.2) rfl dX2_unitsInTree_11 ?_
  refine kv_iload_n X 1 dX2_unitsInTree_14 rfl rfl ?_
  obtain ⟨_, _, o15⟩ := kLs_obj (dd := dd) (ks := ks) (ad := ad) (E := (cE dd E e)) (kLs_cE hT.2.1 (by omega) (by omega) (fun i hi => by omega))
  refine kv_callqV (ci := 2) (κ := 5) (r1 := (TJx4a65c, 3)) (As := [.int (nI i)]) [] X (c_Jx4a65c_get_915e3 l dd ks ad (cE dd E e) (5) (12) (nt) (fun i => 96 + i) 6 (kLs_cE hT.2.1 (by omega) (by omega) (fun i hi => by omega)) i (by omega)) hl0 (kCV_of X 1 gX2_unitsInTree_Jx4a65c_get_915e3 rfl rfl rfl (by decide +kernel) hRR ⟨(Nat.le_of_ble_eq_true rfl), (Nat.le_of_ble_eq_true rfl)⟩) hT.2.1.1 o15 rfl rfl rfl (Nat.le_of_ble_eq_true rfl) hRR ⟨(Nat.le_of_ble_eq_true rfl), (Nat.le_of_ble_eq_true rfl)⟩ dX2_unitsInTree_15 (fun r z hp => ?_)
  obtain rfl := hp
  refine kv_topg (.ref (ad (96 + i))) rfl ?_
  refine kv_cast X (κ := 96 + i) (ci := 6) (fs := [.int (M.2.1 11 i), .ref (ad (112 + i))]) (r := (RX3, TX3, 2)) (List.mem_cons_of_mem _ (List.mem_append_left _ (List.mem_append_left _ (List.mem_append_left _ (List.mem_append_left _ (List.mem_append_left _ (List.mem_append_left _ (List.mem_append_left _ (List.mem_append_left _ (List.mem_of_getElem? (i := 2) rfl)))))))))) (hT.2.2 i (by omega)).1 ((cE_ne (by omega)).trans (hT.2.2 i (by omega)).2.1) rfl dX2_unitsInTree_18 ?_
  refine kv_getfield X f_X2_unitsInTree_100 (κ := 96 + i) (fs := [.int (M.2.1 11 i), .ref (ad (112 + i))]) (v := .ref (ad (112 + i))) (hT.2.2 i (by omega)).1 ((cE_ne (by omega)).trans (hT.2.2 i (by omega)).2.1) rfl dX2_unitsInTree_21 ?_
  refine kv_astore (lv2 := [(4, .ref (ad (112 + i))), (0, .ref (ad 2)), (1, .int (nI i)), (2, .int (nI r0)), (3, .int (nI 3))]) X dX2_unitsInTree_24 (by rw [hnL]; decide) rfl ?_
  refine kv_lconst (v := 0) X dX2_unitsInTree_26 (by decide) ?_
  refine kv_lstore (lv2 := [(5, .long 0), (4, .ref (ad (112 + i))), (0, .ref (ad 2)), (1, .int (nI i)), (2, .int (nI r0)), (3, .int (nI 3))]) X dX2_unitsInTree_27 (by rw [hnL]; decide) rfl ?_
  refine kv_iconst (v := 0) X dX2_unitsInTree_29 (by decide) ?_
  refine kv_istore (lv2 := [(7, .int 0), (5, .long 0), (4, .ref (ad (112 + i))), (0, .ref (ad 2)), (1, .int (nI i)), (2, .int (nI r0)), (3, .int (nI 3))]) X dX2_unitsInTree_30 (by rw [hnL]; decide) rfl ?_
  have L32 : ∀ (n9 k : Nat), k + n9 = cn i → ∀ (_ : Unit) , kv dd g 0 0 32 [(7, .int (nI k)), (5, .long (msumJ (fun k => uco (M.2.1 13) (M.2.1 15) (M.2.1 9) nm mn mr me (fun k => mi (nm k)) r0 (utr (M.2.1 13) (M.2.1 15) (M.2.1 9) cn nm mn mr me (fun k => mi (nm k)) r0 0) (4 * i + k)) 0 k)), (4, .ref (ad (112 + i))), (0, .ref (ad 2)), (1, .int (nI i)), (2, .int (nI r0)), (3, .int (nI 3))] [] ks ad (cE dd E e) := by
    intro n9
    induction n9 with
    | zero =>
      intro k hin32 _ 
      refine kv_iload X 0 dX2_unitsInTree_32 rfl ?_
      refine kv_aload X 2 dX2_unitsInTree_34 rfl ?_
      obtain ⟨_, _, o36⟩ := kLs_obj (dd := dd) (ks := ks) (ad := ad) (E := (cE dd E e)) (kLs_cE (hT.2.2 i (by omega)).2.2.2.1 (by omega) (by omega) (fun i hi => by omega))
      refine kv_calliV (ci := 2) (κ := 112 + i) (r1 := (TJx4a65c, 3)) (As := []) [.int (nI k)] X (c_Jx4a65c_size_8abf5 l dd ks ad (cE dd E e) (112 + i) (128 + i) (cn i) (fun k => 144 + (4 * i + k)) 3 (kLs_cE (hT.2.2 i (by omega)).2.2.2.1 (by omega) (by omega) (fun i hi => by omega))) hl0 (kCV_of X 0 gX2_unitsInTree_Jx4a65c_size_8abf5 rfl rfl rfl (by decide +kernel) hRR ⟨(Nat.le_of_ble_eq_true rfl), (Nat.le_of_ble_eq_true rfl)⟩) (hT.2.2 i (by omega)).2.2.2.1.1 o36 rfl rfl rfl (Nat.le_of_ble_eq_true rfl) hRR ⟨(Nat.le_of_ble_eq_true rfl), (Nat.le_of_ble_eq_true rfl)⟩ dX2_unitsInTree_36 (fun r z hp => ?_)
      obtain rfl := hp
      refine kn_icmp_ge (x := k) (y := cn i) (tgt := 69) X (by omega) (by omega) dX2_unitsInTree_39 (by decide) (fun hc39 => ?_) (fun hc39 => absurd hc39 (by omega))
      refine kv_lload X 1 dX2_unitsInTree_69 rfl ?_
      exact kv_lreturn X hr (Nat.le_of_ble_eq_true rfl) (Nat.le_of_ble_eq_true rfl) ⟨e, ⟨rfl, by rw [show k = cn i by omega]; rfl⟩, rfl⟩ dX2_unitsInTree_71
    | succ n9 ih32 =>
      intro k hin32 _ 
      refine kv_iload X 0 dX2_unitsInTree_32 rfl ?_
      refine kv_aload X 2 dX2_unitsInTree_34 rfl ?_
      obtain ⟨_, _, o36⟩ := kLs_obj (dd := dd) (ks := ks) (ad := ad) (E := (cE dd E e)) (kLs_cE (hT.2.2 i (by omega)).2.2.2.1 (by omega) (by omega) (fun i hi => by omega))
      refine kv_calliV (ci := 2) (κ := 112 + i) (r1 := (TJx4a65c, 3)) (As := []) [.int (nI k)] X (c_Jx4a65c_size_8abf5 l dd ks ad (cE dd E e) (112 + i) (128 + i) (cn i) (fun k => 144 + (4 * i + k)) 3 (kLs_cE (hT.2.2 i (by omega)).2.2.2.1 (by omega) (by omega) (fun i hi => by omega))) hl0 (kCV_of X 0 gX2_unitsInTree_Jx4a65c_size_8abf5 rfl rfl rfl (by decide +kernel) hRR ⟨(Nat.le_of_ble_eq_true rfl), (Nat.le_of_ble_eq_true rfl)⟩) (hT.2.2 i (by omega)).2.2.2.1.1 o36 rfl rfl rfl (Nat.le_of_ble_eq_true rfl) hRR ⟨(Nat.le_of_ble_eq_true rfl), (Nat.le_of_ble_eq_true rfl)⟩ dX2_unitsInTree_36 (fun r z hp => ?_)
      obtain rfl := hp
      refine kn_icmp_ge (x := k) (y := cn i) (tgt := 69) X (by omega) (by omega) dX2_unitsInTree_39 (by decide) (fun hc39 => absurd hc39 (by omega)) (fun hc39 => ?_)
      refine kv_lload X 1 dX2_unitsInTree_42 rfl ?_
      refine kv_aload_n X 3 dX2_unitsInTree_44 rfl rfl ?_
      refine kv_aload X 2 dX2_unitsInTree_45 rfl ?_
      refine kv_iload X 0 dX2_unitsInTree_47 rfl ?_
      obtain ⟨_, _, o49⟩ := kLs_obj (dd := dd) (ks := ks) (ad := ad) (E := (cE dd E e)) (kLs_cE (hT.2.2 i (by omega)).2.2.2.1 (by omega) (by omega) (fun i hi => by omega))
      refine kv_callqV (ci := 2) (κ := 112 + i) (r1 := (TJx4a65c, 3)) (As := [.int (nI k)]) [.ref (ad 2), .long (msumJ (fun k => uco (M.2.1 13) (M.2.1 15) (M.2.1 9) nm mn mr me (fun k => mi (nm k)) r0 (utr (M.2.1 13) (M.2.1 15) (M.2.1 9) cn nm mn mr me (fun k => mi (nm k)) r0 0) (4 * i + k)) 0 k)] X (c_Jx4a65c_get_915e3 l dd ks ad (cE dd E e) (112 + i) (128 + i) (cn i) (fun k => 144 + (4 * i + k)) 3 (kLs_cE (hT.2.2 i (by omega)).2.2.2.1 (by omega) (by omega) (fun i hi => by omega)) k (by omega)) hl0 (kCV_of X 1 gX2_unitsInTree_Jx4a65c_get_915e3 rfl rfl rfl (by decide +kernel) hRR ⟨(Nat.le_of_ble_eq_true rfl), (Nat.le_of_ble_eq_true rfl)⟩) (hT.2.2 i (by omega)).2.2.2.1.1 o49 rfl rfl rfl (Nat.le_of_ble_eq_true rfl) hRR ⟨(Nat.le_of_ble_eq_true rfl), (Nat.le_of_ble_eq_true rfl)⟩ dX2_unitsInTree_49 (fun r z hp => ?_)
      obtain rfl := hp
      refine kv_topg (.ref (ad (144 + (4 * i + k)))) rfl ?_
      refine kv_cast X (κ := 144 + (4 * i + k)) (ci := 3) (fs := [.int (M.2.1 13 (4 * i + k)), .int (nI (nm (4 * i + k))), .int (M.2.1 15 (4 * i + k))]) (r := (RX0, TX0, 3)) (List.mem_cons_of_mem _ (List.mem_append_left _ (List.mem_append_left _ (List.mem_append_left _ (List.mem_append_left _ (List.mem_append_left _ (List.mem_append_left _ (List.mem_append_left _ (List.mem_append_left _ (List.mem_of_getElem? (i := 4) rfl)))))))))) ((hT.2.2 i (by omega)).2.2.2.2 k (by omega)).1 ((cE_ne (by omega)).trans ((hT.2.2 i (by omega)).2.2.2.2 k (by omega)).2) rfl dX2_unitsInTree_52 ?_
      refine kv_iload_n X 5 dX2_unitsInTree_55 rfl rfl ?_
      refine kv_iload_n X 6 dX2_unitsInTree_56 rfl rfl ?_
      refine kv_calllV (ci := 5) (κ := 2) (r1 := (TX2, 9)) (As := [.ref (ad (144 + (4 * i + k))), .int (nI r0), .int (nI 3)]) [.long (msumJ (fun k => uco (M.2.1 13) (M.2.1 15) (M.2.1 9) nm mn mr me (fun k => mi (nm k)) r0 (utr (M.2.1 13) (M.2.1 15) (M.2.1 9) cn nm mn mr me (fun k => mi (nm k)) r0 0) (4 * i + k)) 0 k)] X (c_X2_unitsInComponent3 l dd ks ad E e M nR nC nt nL nW nV nM cn nm mn me li rl on hO hR hC hT hL hW hV hM hB i k r0 (by omega) (by omega) hr0 mi hmi mr hmr) hl0 (kCV_of X 3 gX2_unitsInTree_X2_unitsInComponent rfl rfl rfl (by decide +kernel) hRR ⟨(Nat.le_of_ble_eq_true rfl), (Nat.le_of_ble_eq_true rfl)⟩) hO.2.2.1.1 ((cE_ne (by omega)).trans hO.2.2.1.2) rfl rfl rfl (Nat.le_of_ble_eq_true rfl) hRR ⟨(Nat.le_of_ble_eq_true rfl), (Nat.le_of_ble_eq_true rfl)⟩ dX2_unitsInTree_57 (fun r z hp => ?_)
      obtain ⟨rfl, rfl⟩ := hp
      refine kv_ladd X dX2_unitsInTree_60 ?_
      refine kv_topl (msumJ (fun k => uco (M.2.1 13) (M.2.1 15) (M.2.1 9) nm mn mr me (fun k => mi (nm k)) r0 (utr (M.2.1 13) (M.2.1 15) (M.2.1 9) cn nm mn mr me (fun k => mi (nm k)) r0 0) (4 * i + k)) 0 (k + 1)) rfl ?_
      refine kv_lstore (lv2 := [(5, .long (msumJ (fun k => uco (M.2.1 13) (M.2.1 15) (M.2.1 9) nm mn mr me (fun k => mi (nm k)) r0 (utr (M.2.1 13) (M.2.1 15) (M.2.1 9) cn nm mn mr me (fun k => mi (nm k)) r0 0) (4 * i + k)) 0 (k + 1))), (7, .int (nI k)), (4, .ref (ad (112 + i))), (0, .ref (ad 2)), (1, .int (nI i)), (2, .int (nI r0)), (3, .int (nI 3))]) X dX2_unitsInTree_61 (by rw [hnL]; decide) rfl ?_
      refine kv_iinc (j := 1) (v := (nI (k + 1))) (lv2 := [(7, .int (nI (k + 1))), (5, .long (msumJ (fun k => uco (M.2.1 13) (M.2.1 15) (M.2.1 9) nm mn mr me (fun k => mi (nm k)) r0 (utr (M.2.1 13) (M.2.1 15) (M.2.1 9) cn nm mn mr me (fun k => mi (nm k)) r0 0) (4 * i + k)) 0 (k + 1))), (4, .ref (ad (112 + i))), (0, .ref (ad 2)), (1, .int (nI i)), (2, .int (nI r0)), (3, .int (nI 3))]) X dX2_unitsInTree_63 rfl (nI_add k 1) (by rw [hnL]; decide) rfl ?_
      refine kv_goto (tgt := 32) X dX2_unitsInTree_66 (by decide) ?_
      exact kv_lv [0, 1, 2, 3, 4, 5, 6] rfl (ih32 (k + 1) (by omega) ())
  exact kv_lv [0, 1, 2, 3, 4, 5, 6] rfl (L32 (cn i) 0 (by omega) ())
set_option maxRecDepth 100000 in
set_option maxHeartbeats 4000000 in
theorem c_X2_unitsInComponent2 (l : Launch) (dd : kDD) (ks : List Nat) (ad : Nat → Nat) (E : Nat → va_E) (e : eS) (M : mS) (nR nC nt nL nW nV nM : Nat) (cn nm mn me li rl : Nat → Nat) (on : Int32) (hO : cO dd ks ad E on) (hR : cR dd ks ad E M nR) (hC : cC dd ks ad E M nC mn me) (hT : cT dd ks ad E M nt cn nm) (hL : cL dd ks ad E M nL nW li) (hW : cW dd ks ad E M nW rl) (hV : cV dd ks ad E M nV) (hM : cM dd ks ad E M nM) (hB : cB M nR nC nt nL nW nV cn nm mn me li rl) (i k r0 : Nat) (hi : i < nt) (hk : k < cn i) (hr0 : r0 < nR) (mi : Nat → Nat) (hmi : ∀ j, j < nt → e.1 17 j = nI (mi j) ∧ mi j < nt) (mr : Nat → Nat) (hmr : ∀ j, j < nR → e.1 18 j = nI (mr j) ∧ mr j < nR) : kCl l yX2_unitsInComponent wsX2_unitsInComponent ({ frames := 6, cells := 0, slots := 0, locals := 141 } : Room) 0 0 dd [.ref (ad 2), .ref (ad (144 + (4 * i + k))), .int (nI r0), .int (nI 2)] (ks, ad, (cE dd E e)) (kQl (S := eS) (fun r z => e = z ∧ r = uco (M.2.1 13) (M.2.1 15) (M.2.1 9) nm mn mr me (fun k => mi (nm k)) r0 (utr (M.2.1 13) (M.2.1 15) (M.2.1 9) cn nm mn mr me (fun k => mi (nm k)) r0 1) (4 * i + k)) (fun _ => ks) (fun _ => ad) (fun z => cE dd E z)) := by
  refine kMetl (ws' := _) (cc := cX2_unitsInComponent) (maxL := 5) (rt := .long) (by decide) rfl (Nat.le_of_ble_eq_true rfl) (fun g X hr hnL hRR hl0 hkn => ?_)
  show kv dd g 0 0 0 [(0, .ref (ad 2)), (1, .ref (ad (144 + (4 * i + k)))), (2, .int (nI r0)), (3, .int (nI 2))] [] ks ad (cE dd E e)
  have hT12 := hT.1
  have hR12 := hR.1
  have hcn4 := (hT.2.2 i hi).2.2.1
  refine kv_aload_n X 1 dX2_unitsInComponent_0 rfl rfl ?_
  refine kv_getfield X f_X2_unitsInComponent_105 (κ := 144 + (4 * i + k)) (fs := [.int (M.2.1 13 (4 * i + k)), .int (nI (nm (4 * i + k))), .int (M.2.1 15 (4 * i + k))]) (v := .int (M.2.1 13 (4 * i + k))) ((hT.2.2 i (by omega)).2.2.2.2 k (by omega)).1 ((cE_ne (by omega)).trans ((hT.2.2 i (by omega)).2.2.2.2 k (by omega)).2) rfl dX2_unitsInComponent_1 ?_
  refine kv_if_ne (tgt := 35) X dX2_unitsInComponent_4 (by decide) (fun hc4 => ?_) (fun hc4 => ?_)
  ·
    refine kv_aload_n X 1 dX2_unitsInComponent_35 rfl rfl ?_
    refine kv_getfield X f_X2_unitsInComponent_105 (κ := 144 + (4 * i + k)) (fs := [.int (M.2.1 13 (4 * i + k)), .int (nI (nm (4 * i + k))), .int (M.2.1 15 (4 * i + k))]) (v := .int (M.2.1 13 (4 * i + k))) ((hT.2.2 i (by omega)).2.2.2.2 k (by omega)).1 ((cE_ne (by omega)).trans ((hT.2.2 i (by omega)).2.2.2.2 k (by omega)).2) rfl dX2_unitsInComponent_36 ?_
    refine kv_iconst (v := 2) X dX2_unitsInComponent_39 (by decide) ?_
    refine kv_icmp_ne (tgt := 59) X dX2_unitsInComponent_40 (by decide) (fun hc40 => ?_) (fun hc40 => ?_)
    ·
      refine kv_aload_n X 0 dX2_unitsInComponent_59 rfl rfl ?_
      refine kv_getfield X f_X2_unitsInComponent_15 (κ := 2) (fs := [.ref (ad 1), .ref (ad 17), .ref (ad 18), .ref (ad 19), .ref (ad 20), .ref (ad 21), .ref (ad 22), .ref (ad 23), .ref (ad 24)]) (v := .ref (ad 18)) hO.2.2.1.1 ((cE_ne (by omega)).trans hO.2.2.1.2) rfl dX2_unitsInComponent_60 ?_
      refine kv_aload_n X 1 dX2_unitsInComponent_63 rfl rfl ?_
      refine kv_getfield X f_X2_unitsInComponent_109 (κ := 144 + (4 * i + k)) (fs := [.int (M.2.1 13 (4 * i + k)), .int (nI (nm (4 * i + k))), .int (M.2.1 15 (4 * i + k))]) (v := .int (nI (nm (4 * i + k)))) ((hT.2.2 i (by omega)).2.2.2.2 k (by omega)).1 ((cE_ne (by omega)).trans ((hT.2.2 i (by omega)).2.2.2.2 k (by omega)).2) rfl dX2_unitsInComponent_64 ?_
      have hnR : nm (4 * i + k) < nR := by rcases hB.1 i (by omega) k (by omega) with q | q | q; exact absurd q.1 hc4; exact q.2; exact absurd q.1 hc40
      have hmm := (hmr (nm (4 * i + k)) hnR).2
      refine ke_iald X (18) (j := nm (4 * i + k)) (hO.2.2.2.1 _ (by omega) (by omega)) (by omega) (by omega) dX2_unitsInComponent_67 ?_
      refine kv_topi (nI (mr (nm (4 * i + k)))) (hmr (nm (4 * i + k)) hnR).1 ?_
      refine kv_iload_n X 2 dX2_unitsInComponent_68 rfl rfl ?_
      refine kn_icmp_ne (x := mr (nm (4 * i + k))) (y := r0) (tgt := 80) X (by omega) (by omega) dX2_unitsInComponent_69 (by decide) (fun hc69 => ?_) (fun hc69 => ?_)
      ·
        refine kv_lconst (v := 0) X dX2_unitsInComponent_80 (by decide) ?_
        exact kv_lreturn X hr (Nat.le_of_ble_eq_true rfl) (Nat.le_of_ble_eq_true rfl) ⟨e, ⟨rfl, by rw [uco, if_neg hc4, if_neg hc40]; first | rw [if_pos hc69] | rw [if_neg hc69]⟩, rfl⟩ dX2_unitsInComponent_81
      ·
        refine kv_aload_n X 1 dX2_unitsInComponent_72 rfl rfl ?_
        refine kv_getfield X f_X2_unitsInComponent_139 (κ := 144 + (4 * i + k)) (fs := [.int (M.2.1 13 (4 * i + k)), .int (nI (nm (4 * i + k))), .int (M.2.1 15 (4 * i + k))]) (v := .int (M.2.1 15 (4 * i + k))) ((hT.2.2 i (by omega)).2.2.2.2 k (by omega)).1 ((cE_ne (by omega)).trans ((hT.2.2 i (by omega)).2.2.2.2 k (by omega)).2) rfl dX2_unitsInComponent_73 ?_
        refine kv_i2l X dX2_unitsInComponent_76 rfl ?_
        refine kv_goto (tgt := 81) X dX2_unitsInComponent_77 (by decide) ?_
        exact kv_lreturn X hr (Nat.le_of_ble_eq_true rfl) (Nat.le_of_ble_eq_true rfl) ⟨e, ⟨rfl, by rw [uco, if_neg hc4, if_neg hc40]; first | rw [if_pos hc69] | rw [if_neg hc69]⟩, rfl⟩ dX2_unitsInComponent_81
    ·
      refine kv_aload_n X 1 dX2_unitsInComponent_43 rfl rfl ?_
      refine kv_getfield X f_X2_unitsInComponent_139 (κ := 144 + (4 * i + k)) (fs := [.int (M.2.1 13 (4 * i + k)), .int (nI (nm (4 * i + k))), .int (M.2.1 15 (4 * i + k))]) (v := .int (M.2.1 15 (4 * i + k))) ((hT.2.2 i (by omega)).2.2.2.2 k (by omega)).1 ((cE_ne (by omega)).trans ((hT.2.2 i (by omega)).2.2.2.2 k (by omega)).2) rfl dX2_unitsInComponent_44 ?_
      refine kv_i2l X dX2_unitsInComponent_47 rfl ?_
      refine kv_aload_n X 0 dX2_unitsInComponent_48 rfl rfl ?_
      refine kv_aload_n X 1 dX2_unitsInComponent_49 rfl rfl ?_
      refine kv_getfield X f_X2_unitsInComponent_109 (κ := 144 + (4 * i + k)) (fs := [.int (M.2.1 13 (4 * i + k)), .int (nI (nm (4 * i + k))), .int (M.2.1 15 (4 * i + k))]) (v := .int (nI (nm (4 * i + k)))) ((hT.2.2 i (by omega)).2.2.2.2 k (by omega)).1 ((cE_ne (by omega)).trans ((hT.2.2 i (by omega)).2.2.2.2 k (by omega)).2) rfl dX2_unitsInComponent_50 ?_
      have hnC : nm (4 * i + k) < nC := by rcases hB.1 i (by omega) k (by omega) with q | q | q; exact absurd (hc40.symm.trans q.1) (by decide); exact absurd (hc40.symm.trans q.1) (by decide); exact q.2
      refine kv_iload_n X 2 dX2_unitsInComponent_53 rfl rfl ?_
      refine kv_calllV (ci := 5) (κ := 2) (r1 := (TX2, 9)) (As := [.int (nI (nm (4 * i + k))), .int (nI r0)]) [.long ((M.2.1 15 (4 * i + k)).toInt64)] X (c_X2_unitsInCrew l dd ks ad E e M nR nC nt nL nW nV nM cn nm mn me li rl on hO hR hC hT hL hW hV hM hB (nm (4 * i + k)) r0 hnC hr0 mr hmr) hl0 (kCV_of X 2 gX2_unitsInComponent_X2_unitsInCrew rfl rfl rfl (by decide +kernel) hRR ⟨(Nat.le_of_ble_eq_true rfl), (Nat.le_of_ble_eq_true rfl)⟩) hO.2.2.1.1 ((cE_ne (by omega)).trans hO.2.2.1.2) rfl rfl rfl (Nat.le_of_ble_eq_true rfl) hRR ⟨(Nat.le_of_ble_eq_true rfl), (Nat.le_of_ble_eq_true rfl)⟩ dX2_unitsInComponent_54 (fun r z hp => ?_)
      obtain ⟨rfl, rfl⟩ := hp
      refine kv_lmul X dX2_unitsInComponent_57 ?_
      exact kv_lreturn X hr (Nat.le_of_ble_eq_true rfl) (Nat.le_of_ble_eq_true rfl) ⟨e, ⟨rfl, by rw [uco, if_neg hc4, if_pos hc40]⟩, rfl⟩ dX2_unitsInComponent_58
  ·
    refine kv_aload_n X 0 dX2_unitsInComponent_7 rfl rfl ?_
    refine kv_getfield X f_X2_unitsInComponent_9 (κ := 2) (fs := [.ref (ad 1), .ref (ad 17), .ref (ad 18), .ref (ad 19), .ref (ad 20), .ref (ad 21), .ref (ad 22), .ref (ad 23), .ref (ad 24)]) (v := .ref (ad 17)) hO.2.2.1.1 ((cE_ne (by omega)).trans hO.2.2.1.2) rfl dX2_unitsInComponent_8 ?_
    have hnt : nm (4 * i + k) < nt := by rcases hB.1 i (by omega) k (by omega) with q | q | q; exact q.2; exact absurd (hc4.symm.trans q.1) (by decide); exact absurd (hc4.symm.trans q.1) (by decide)
    have hmt := (hmi (nm (4 * i + k)) hnt).2
    refine kv_aload_n X 1 dX2_unitsInComponent_11 rfl rfl ?_
    refine kv_getfield X f_X2_unitsInComponent_109 (κ := 144 + (4 * i + k)) (fs := [.int (M.2.1 13 (4 * i + k)), .int (nI (nm (4 * i + k))), .int (M.2.1 15 (4 * i + k))]) (v := .int (nI (nm (4 * i + k)))) ((hT.2.2 i (by omega)).2.2.2.2 k (by omega)).1 ((cE_ne (by omega)).trans ((hT.2.2 i (by omega)).2.2.2.2 k (by omega)).2) rfl dX2_unitsInComponent_12 ?_
    refine ke_iald X (17) (j := nm (4 * i + k)) (hO.2.2.2.1 _ (by omega) (by omega)) (by omega) (by omega) dX2_unitsInComponent_15 ?_
    refine kv_topi (nI (mi (nm (4 * i + k)))) (hmi (nm (4 * i + k)) hnt).1 ?_
    refine kv_istore (lv2 := [(4, .int (nI (mi (nm (4 * i + k))))), (0, .ref (ad 2)), (1, .ref (ad (144 + (4 * i + k)))), (2, .int (nI r0)), (3, .int (nI 2))]) X dX2_unitsInComponent_16 (by rw [hnL]; decide) rfl ?_
    refine kv_aload_n X 2 dX2_unitsInComponent_18 rfl rfl ?_
    refine kv_getfield X f_X2_unitsInComponent_139 (κ := 144 + (4 * i + k)) (fs := [.int (M.2.1 13 (4 * i + k)), .int (nI (nm (4 * i + k))), .int (M.2.1 15 (4 * i + k))]) (v := .int (M.2.1 15 (4 * i + k))) ((hT.2.2 i (by omega)).2.2.2.2 k (by omega)).1 ((cE_ne (by omega)).trans ((hT.2.2 i (by omega)).2.2.2.2 k (by omega)).2) rfl dX2_unitsInComponent_19 ?_
    refine kv_i2l X dX2_unitsInComponent_22 rfl ?_
    refine kv_aload_n X 1 dX2_unitsInComponent_23 rfl rfl ?_
    refine kv_iload X 0 dX2_unitsInComponent_24 rfl ?_
    refine kv_iload_n X 3 dX2_unitsInComponent_26 rfl rfl ?_
    refine kv_iload_n X 4 dX2_unitsInComponent_27 rfl rfl ?_
    refine kv_iconst (v := 1) X dX2_unitsInComponent_28 (by decide) ?_
    refine kv_iadd X dX2_unitsInComponent_29 ?_
    refine kv_topi (nI (2 + 1)) (nI_add 2 1) ?_
    refine kv_topi (nI 3) rfl ?_
    refine kv_calllV (ci := 5) (κ := 2) (r1 := (TX2, 9)) (As := [.int (nI (mi (nm (4 * i + k)))), .int (nI r0), .int (nI 3)]) [.long ((M.2.1 15 (4 * i + k)).toInt64)] X (c_X2_unitsInTree3 l dd ks ad E e M nR nC nt nL nW nV nM cn nm mn me li rl on hO hR hC hT hL hW hV hM hB (mi (nm (4 * i + k))) r0 (by omega) hr0 mi hmi mr hmr) hl0 (kCV_of X 3 gX2_unitsInComponent_X2_unitsInTree rfl rfl rfl (by decide +kernel) hRR ⟨(Nat.le_of_ble_eq_true rfl), (Nat.le_of_ble_eq_true rfl)⟩) hO.2.2.1.1 ((cE_ne (by omega)).trans hO.2.2.1.2) rfl rfl rfl (Nat.le_of_ble_eq_true rfl) hRR ⟨(Nat.le_of_ble_eq_true rfl), (Nat.le_of_ble_eq_true rfl)⟩ dX2_unitsInComponent_30 (fun r z hp => ?_)
    obtain ⟨rfl, rfl⟩ := hp
    refine kv_lmul X dX2_unitsInComponent_33 ?_
    exact kv_lreturn X hr (Nat.le_of_ble_eq_true rfl) (Nat.le_of_ble_eq_true rfl) ⟨e, ⟨rfl, by rw [uco, if_pos hc4]⟩, rfl⟩ dX2_unitsInComponent_34
set_option maxRecDepth 100000 in
set_option maxHeartbeats 4000000 in
theorem c_X2_unitsInTree2 (l : Launch) (dd : kDD) (ks : List Nat) (ad : Nat → Nat) (E : Nat → va_E) (e : eS) (M : mS) (nR nC nt nL nW nV nM : Nat) (cn nm mn me li rl : Nat → Nat) (on : Int32) (hO : cO dd ks ad E on) (hR : cR dd ks ad E M nR) (hC : cC dd ks ad E M nC mn me) (hT : cT dd ks ad E M nt cn nm) (hL : cL dd ks ad E M nL nW li) (hW : cW dd ks ad E M nW rl) (hV : cV dd ks ad E M nV) (hM : cM dd ks ad E M nM) (hB : cB M nR nC nt nL nW nV cn nm mn me li rl) (i r0 : Nat) (hi : i < nt) (hr0 : r0 < nR) (mi : Nat → Nat) (hmi : ∀ j, j < nt → e.1 17 j = nI (mi j) ∧ mi j < nt) (mr : Nat → Nat) (hmr : ∀ j, j < nR → e.1 18 j = nI (mr j) ∧ mr j < nR) : kCl l yX2_unitsInTree wsX2_unitsInTree ({ frames := 7, cells := 0, slots := 0, locals := 165 } : Room) 0 0 dd [.ref (ad 2), .int (nI i), .int (nI r0), .int (nI 2)] (ks, ad, (cE dd E e)) (kQl (S := eS) (fun r z => e = z ∧ r = utr (M.2.1 13) (M.2.1 15) (M.2.1 9) cn nm mn mr me (fun k => mi (nm k)) r0 2 i) (fun _ => ks) (fun _ => ad) (fun z => cE dd E z)) := by
  refine kMetl (ws' := _) (cc := cX2_unitsInTree) (maxL := 8) (rt := .long) (by decide) rfl (Nat.le_of_ble_eq_true rfl) (fun g X hr hnL hRR hl0 hkn => ?_)
  show kv dd g 0 0 0 [(0, .ref (ad 2)), (1, .int (nI i)), (2, .int (nI r0)), (3, .int (nI 2))] [] ks ad (cE dd E e)
  have hT12 := hT.1
  have hcn4 := (hT.2.2 i hi).2.2.1
  refine kv_iload_n X 3 dX2_unitsInTree_0 rfl rfl ?_
  refine kv_iconst (v := 3) X dX2_unitsInTree_1 (by decide) ?_
  refine kn_icmp_le (x := 2) (y := 3) (tgt := 7) X (by omega) (by omega) dX2_unitsInTree_2 (by decide) (fun hc2 => ?_) (fun hc2 => absurd hc2 (by omega))
  refine kv_aload_n X 0 dX2_unitsInTree_7 rfl rfl ?_
  refine kv_getfield X f_X2_unitsInTree_39 (κ := 2) (fs := [.ref (ad 1), .ref (ad 17), .ref (ad 18), .ref (ad 19), .ref (ad 20), .ref (ad 21), .ref (ad 22), .ref (ad 23), .ref (ad 24)]) (v := .ref (ad 1)) hO.2.2.1.1 ((cE_ne (by omega)).trans hO.2.2.1.2) rfl dX2_unitsInTree_8 ?_
  refine kv_getfield X f_X2_unitsInTree_43 (κ := 1) (fs := [.ref (ad 3), .ref (ad 4), .ref (ad 5), .ref (ad 6), .ref (ad 7), .ref (ad 8), .ref (ad 9)]) (v := .ref (ad 5)) hO.2.1.1 ((cE_ne (by omega)).trans hO.2.1.2) rfl dX2_unitsInTree_11 ?_
  refine kv_iload_n X 1 dX2_unitsInTree_14 rfl rfl ?_
  obtain ⟨_, _, o15⟩ := kLs_obj (dd := dd) (ks := ks) (ad := ad) (E := (cE dd E e)) (kLs_cE hT.2.1 (by omega) (by omega) (fun i hi => by omega))
  refine kv_callqV (ci := 2) (κ := 5) (r1 := (TJx4a65c, 3)) (As := [.int (nI i)]) [] X (c_Jx4a65c_get_915e3 l dd ks ad (cE dd E e) (5) (12) (nt) (fun i => 96 + i) 6 (kLs_cE hT.2.1 (by omega) (by omega) (fun i hi => by omega)) i (by omega)) hl0 (kCV_of X 1 gX2_unitsInTree_Jx4a65c_get_915e3 rfl rfl rfl (by decide +kernel) hRR ⟨(Nat.le_of_ble_eq_true rfl), (Nat.le_of_ble_eq_true rfl)⟩) hT.2.1.1 o15 rfl rfl rfl (Nat.le_of_ble_eq_true rfl) hRR ⟨(Nat.le_of_ble_eq_true rfl), (Nat.le_of_ble_eq_true rfl)⟩ dX2_unitsInTree_15 (fun r z hp => ?_)
  obtain rfl := hp
  refine kv_topg (.ref (ad (96 + i))) rfl ?_
  refine kv_cast X (κ := 96 + i) (ci := 6) (fs := [.int (M.2.1 11 i), .ref (ad (112 + i))]) (r := (RX3, TX3, 2)) (List.mem_cons_of_mem _ (List.mem_append_left _ (List.mem_append_left _ (List.mem_append_left _ (List.mem_append_left _ (List.mem_append_left _ (List.mem_append_left _ (List.mem_append_left _ (List.mem_append_left _ (List.mem_of_getElem? (i := 2) rfl)))))))))) (hT.2.2 i (by omega)).1 ((cE_ne (by omega)).trans (hT.2.2 i (by omega)).2.1) rfl dX2_unitsInTree_18 ?_
  refine kv_getfield X f_X2_unitsInTree_100 (κ := 96 + i) (fs := [.int (M.2.1 11 i), .ref (ad (112 + i))]) (v := .ref (ad (112 + i))) (hT.2.2 i (by omega)).1 ((cE_ne (by omega)).trans (hT.2.2 i (by omega)).2.1) rfl dX2_unitsInTree_21 ?_
  refine kv_astore (lv2 := [(4, .ref (ad (112 + i))), (0, .ref (ad 2)), (1, .int (nI i)), (2, .int (nI r0)), (3, .int (nI 2))]) X dX2_unitsInTree_24 (by rw [hnL]; decide) rfl ?_
  refine kv_lconst (v := 0) X dX2_unitsInTree_26 (by decide) ?_
  refine kv_lstore (lv2 := [(5, .long 0), (4, .ref (ad (112 + i))), (0, .ref (ad 2)), (1, .int (nI i)), (2, .int (nI r0)), (3, .int (nI 2))]) X dX2_unitsInTree_27 (by rw [hnL]; decide) rfl ?_
  refine kv_iconst (v := 0) X dX2_unitsInTree_29 (by decide) ?_
  refine kv_istore (lv2 := [(7, .int 0), (5, .long 0), (4, .ref (ad (112 + i))), (0, .ref (ad 2)), (1, .int (nI i)), (2, .int (nI r0)), (3, .int (nI 2))]) X dX2_unitsInTree_30 (by rw [hnL]; decide) rfl ?_
  have L32 : ∀ (n9 k : Nat), k + n9 = cn i → ∀ (_ : Unit) , kv dd g 0 0 32 [(7, .int (nI k)), (5, .long (msumJ (fun k => uco (M.2.1 13) (M.2.1 15) (M.2.1 9) nm mn mr me (fun k => mi (nm k)) r0 (utr (M.2.1 13) (M.2.1 15) (M.2.1 9) cn nm mn mr me (fun k => mi (nm k)) r0 1) (4 * i + k)) 0 k)), (4, .ref (ad (112 + i))), (0, .ref (ad 2)), (1, .int (nI i)), (2, .int (nI r0)), (3, .int (nI 2))] [] ks ad (cE dd E e) := by
    intro n9
    induction n9 with
    | zero =>
      intro k hin32 _ 
      refine kv_iload X 0 dX2_unitsInTree_32 rfl ?_
      refine kv_aload X 2 dX2_unitsInTree_34 rfl ?_
      obtain ⟨_, _, o36⟩ := kLs_obj (dd := dd) (ks := ks) (ad := ad) (E := (cE dd E e)) (kLs_cE (hT.2.2 i (by omega)).2.2.2.1 (by omega) (by omega) (fun i hi => by omega))
      refine kv_calliV (ci := 2) (κ := 112 + i) (r1 := (TJx4a65c, 3)) (As := []) [.int (nI k)] X (c_Jx4a65c_size_8abf5 l dd ks ad (cE dd E e) (112 + i) (128 + i) (cn i) (fun k => 144 + (4 * i + k)) 3 (kLs_cE (hT.2.2 i (by omega)).2.2.2.1 (by omega) (by omega) (fun i hi => by omega))) hl0 (kCV_of X 0 gX2_unitsInTree_Jx4a65c_size_8abf5 rfl rfl rfl (by decide +kernel) hRR ⟨(Nat.le_of_ble_eq_true rfl), (Nat.le_of_ble_eq_true rfl)⟩) (hT.2.2 i (by omega)).2.2.2.1.1 o36 rfl rfl rfl (Nat.le_of_ble_eq_true rfl) hRR ⟨(Nat.le_of_ble_eq_true rfl), (Nat.le_of_ble_eq_true rfl)⟩ dX2_unitsInTree_36 (fun r z hp => ?_)
      obtain rfl := hp
      refine kn_icmp_ge (x := k) (y := cn i) (tgt := 69) X (by omega) (by omega) dX2_unitsInTree_39 (by decide) (fun hc39 => ?_) (fun hc39 => absurd hc39 (by omega))
      refine kv_lload X 1 dX2_unitsInTree_69 rfl ?_
      exact kv_lreturn X hr (Nat.le_of_ble_eq_true rfl) (Nat.le_of_ble_eq_true rfl) ⟨e, ⟨rfl, by rw [show k = cn i by omega]; rfl⟩, rfl⟩ dX2_unitsInTree_71
    | succ n9 ih32 =>
      intro k hin32 _ 
      refine kv_iload X 0 dX2_unitsInTree_32 rfl ?_
      refine kv_aload X 2 dX2_unitsInTree_34 rfl ?_
      obtain ⟨_, _, o36⟩ := kLs_obj (dd := dd) (ks := ks) (ad := ad) (E := (cE dd E e)) (kLs_cE (hT.2.2 i (by omega)).2.2.2.1 (by omega) (by omega) (fun i hi => by omega))
      refine kv_calliV (ci := 2) (κ := 112 + i) (r1 := (TJx4a65c, 3)) (As := []) [.int (nI k)] X (c_Jx4a65c_size_8abf5 l dd ks ad (cE dd E e) (112 + i) (128 + i) (cn i) (fun k => 144 + (4 * i + k)) 3 (kLs_cE (hT.2.2 i (by omega)).2.2.2.1 (by omega) (by omega) (fun i hi => by omega))) hl0 (kCV_of X 0 gX2_unitsInTree_Jx4a65c_size_8abf5 rfl rfl rfl (by decide +kernel) hRR ⟨(Nat.le_of_ble_eq_true rfl), (Nat.le_of_ble_eq_true rfl)⟩) (hT.2.2 i (by omega)).2.2.2.1.1 o36 rfl rfl rfl (Nat.le_of_ble_eq_true rfl) hRR ⟨(Nat.le_of_ble_eq_true rfl), (Nat.le_of_ble_eq_true rfl)⟩ dX2_unitsInTree_36 (fun r z hp => ?_)
      obtain rfl := hp
      refine kn_icmp_ge (x := k) (y := cn i) (tgt := 69) X (by omega) (by omega) dX2_unitsInTree_39 (by decide) (fun hc39 => absurd hc39 (by omega)) (fun hc39 => ?_)
      refine kv_lload X 1 dX2_unitsInTree_42 rfl ?_
      refine kv_aload_n X 3 dX2_unitsInTree_44 rfl rfl ?_
      refine kv_aload X 2 dX2_unitsInTree_45 rfl ?_
      refine kv_iload X 0 dX2_unitsInTree_47 rfl ?_
      obtain ⟨_, _, o49⟩ := kLs_obj (dd := dd) (ks := ks) (ad := ad) (E := (cE dd E e)) (kLs_cE (hT.2.2 i (by omega)).2.2.2.1 (by omega) (by omega) (fun i hi => by omega))
      refine kv_callqV (ci := 2) (κ := 112 + i) (r1 := (TJx4a65c, 3)) (As := [.int (nI k)]) [.ref (ad 2), .long (msumJ (fun k => uco (M.2.1 13) (M.2.1 15) (M.2.1 9) nm mn mr me (fun k => mi (nm k)) r0 (utr (M.2.1 13) (M.2.1 15) (M.2.1 9) cn nm mn mr me (fun k => mi (nm k)) r0 1) (4 * i + k)) 0 k)] X (c_Jx4a65c_get_915e3 l dd ks ad (cE dd E e) (112 + i) (128 + i) (cn i) (fun k => 144 + (4 * i + k)) 3 (kLs_cE (hT.2.2 i (by omega)).2.2.2.1 (by omega) (by omega) (fun i hi => by omega)) k (by omega)) hl0 (kCV_of X 1 gX2_unitsInTree_Jx4a65c_get_915e3 rfl rfl rfl (by decide +kernel) hRR ⟨(Nat.le_of_ble_eq_true rfl), (Nat.le_of_ble_eq_true rfl)⟩) (hT.2.2 i (by omega)).2.2.2.1.1 o49 rfl rfl rfl (Nat.le_of_ble_eq_true rfl) hRR ⟨(Nat.le_of_ble_eq_true rfl), (Nat.le_of_ble_eq_true rfl)⟩ dX2_unitsInTree_49 (fun r z hp => ?_)
      obtain rfl := hp
      refine kv_topg (.ref (ad (144 + (4 * i + k)))) rfl ?_
      refine kv_cast X (κ := 144 + (4 * i + k)) (ci := 3) (fs := [.int (M.2.1 13 (4 * i + k)), .int (nI (nm (4 * i + k))), .int (M.2.1 15 (4 * i + k))]) (r := (RX0, TX0, 3)) (List.mem_cons_of_mem _ (List.mem_append_left _ (List.mem_append_left _ (List.mem_append_left _ (List.mem_append_left _ (List.mem_append_left _ (List.mem_append_left _ (List.mem_append_left _ (List.mem_append_left _ (List.mem_of_getElem? (i := 4) rfl)))))))))) ((hT.2.2 i (by omega)).2.2.2.2 k (by omega)).1 ((cE_ne (by omega)).trans ((hT.2.2 i (by omega)).2.2.2.2 k (by omega)).2) rfl dX2_unitsInTree_52 ?_
      refine kv_iload_n X 5 dX2_unitsInTree_55 rfl rfl ?_
      refine kv_iload_n X 6 dX2_unitsInTree_56 rfl rfl ?_
      refine kv_calllV (ci := 5) (κ := 2) (r1 := (TX2, 9)) (As := [.ref (ad (144 + (4 * i + k))), .int (nI r0), .int (nI 2)]) [.long (msumJ (fun k => uco (M.2.1 13) (M.2.1 15) (M.2.1 9) nm mn mr me (fun k => mi (nm k)) r0 (utr (M.2.1 13) (M.2.1 15) (M.2.1 9) cn nm mn mr me (fun k => mi (nm k)) r0 1) (4 * i + k)) 0 k)] X (c_X2_unitsInComponent2 l dd ks ad E e M nR nC nt nL nW nV nM cn nm mn me li rl on hO hR hC hT hL hW hV hM hB i k r0 (by omega) (by omega) hr0 mi hmi mr hmr) hl0 (kCV_of X 3 gX2_unitsInTree_X2_unitsInComponent rfl rfl rfl (by decide +kernel) hRR ⟨(Nat.le_of_ble_eq_true rfl), (Nat.le_of_ble_eq_true rfl)⟩) hO.2.2.1.1 ((cE_ne (by omega)).trans hO.2.2.1.2) rfl rfl rfl (Nat.le_of_ble_eq_true rfl) hRR ⟨(Nat.le_of_ble_eq_true rfl), (Nat.le_of_ble_eq_true rfl)⟩ dX2_unitsInTree_57 (fun r z hp => ?_)
      obtain ⟨rfl, rfl⟩ := hp
      refine kv_ladd X dX2_unitsInTree_60 ?_
      refine kv_topl (msumJ (fun k => uco (M.2.1 13) (M.2.1 15) (M.2.1 9) nm mn mr me (fun k => mi (nm k)) r0 (utr (M.2.1 13) (M.2.1 15) (M.2.1 9) cn nm mn mr me (fun k => mi (nm k)) r0 1) (4 * i + k)) 0 (k + 1)) rfl ?_
      refine kv_lstore (lv2 := [(5, .long (msumJ (fun k => uco (M.2.1 13) (M.2.1 15) (M.2.1 9) nm mn mr me (fun k => mi (nm k)) r0 (utr (M.2.1 13) (M.2.1 15) (M.2.1 9) cn nm mn mr me (fun k => mi (nm k)) r0 1) (4 * i + k)) 0 (k + 1))), (7, .int (nI k)), (4, .ref (ad (112 + i))), (0, .ref (ad 2)), (1, .int (nI i)), (2, .int (nI r0)), (3, .int (nI 2))]) X dX2_unitsInTree_61 (by rw [hnL]; decide) rfl ?_
      refine kv_iinc (j := 1) (v := (nI (k + 1))) (lv2 := [(7, .int (nI (k + 1))), (5, .long (msumJ (fun k => uco (M.2.1 13) (M.2.1 15) (M.2.1 9) nm mn mr me (fun k => mi (nm k)) r0 (utr (M.2.1 13) (M.2.1 15) (M.2.1 9) cn nm mn mr me (fun k => mi (nm k)) r0 1) (4 * i + k)) 0 (k + 1))), (4, .ref (ad (112 + i))), (0, .ref (ad 2)), (1, .int (nI i)), (2, .int (nI r0)), (3, .int (nI 2))]) X dX2_unitsInTree_63 rfl (nI_add k 1) (by rw [hnL]; decide) rfl ?_
      refine kv_goto (tgt := 32) X dX2_unitsInTree_66 (by decide) ?_
      exact kv_lv [0, 1, 2, 3, 4, 5, 6] rfl (ih32 (k + 1) (by omega) ())
  exact kv_lv [0, 1, 2, 3, 4, 5, 6] rfl (L32 (cn i) 0 (by omega) ())
set_option maxRecDepth 100000 in
set_option maxHeartbeats 4000000 in
theorem c_X2_unitsInComponent1 (l : Launch) (dd : kDD) (ks : List Nat) (ad : Nat → Nat) (E : Nat → va_E) (e : eS) (M : mS) (nR nC nt nL nW nV nM : Nat) (cn nm mn me li rl : Nat → Nat) (on : Int32) (hO : cO dd ks ad E on) (hR : cR dd ks ad E M nR) (hC : cC dd ks ad E M nC mn me) (hT : cT dd ks ad E M nt cn nm) (hL : cL dd ks ad E M nL nW li) (hW : cW dd ks ad E M nW rl) (hV : cV dd ks ad E M nV) (hM : cM dd ks ad E M nM) (hB : cB M nR nC nt nL nW nV cn nm mn me li rl) (i k r0 : Nat) (hi : i < nt) (hk : k < cn i) (hr0 : r0 < nR) (mi : Nat → Nat) (hmi : ∀ j, j < nt → e.1 17 j = nI (mi j) ∧ mi j < nt) (mr : Nat → Nat) (hmr : ∀ j, j < nR → e.1 18 j = nI (mr j) ∧ mr j < nR) : kCl l yX2_unitsInComponent wsX2_unitsInComponent ({ frames := 8, cells := 0, slots := 0, locals := 192 } : Room) 0 0 dd [.ref (ad 2), .ref (ad (144 + (4 * i + k))), .int (nI r0), .int (nI 1)] (ks, ad, (cE dd E e)) (kQl (S := eS) (fun r z => e = z ∧ r = uco (M.2.1 13) (M.2.1 15) (M.2.1 9) nm mn mr me (fun k => mi (nm k)) r0 (utr (M.2.1 13) (M.2.1 15) (M.2.1 9) cn nm mn mr me (fun k => mi (nm k)) r0 2) (4 * i + k)) (fun _ => ks) (fun _ => ad) (fun z => cE dd E z)) := by
  refine kMetl (ws' := _) (cc := cX2_unitsInComponent) (maxL := 5) (rt := .long) (by decide) rfl (Nat.le_of_ble_eq_true rfl) (fun g X hr hnL hRR hl0 hkn => ?_)
  show kv dd g 0 0 0 [(0, .ref (ad 2)), (1, .ref (ad (144 + (4 * i + k)))), (2, .int (nI r0)), (3, .int (nI 1))] [] ks ad (cE dd E e)
  have hT12 := hT.1
  have hR12 := hR.1
  have hcn4 := (hT.2.2 i hi).2.2.1
  refine kv_aload_n X 1 dX2_unitsInComponent_0 rfl rfl ?_
  refine kv_getfield X f_X2_unitsInComponent_105 (κ := 144 + (4 * i + k)) (fs := [.int (M.2.1 13 (4 * i + k)), .int (nI (nm (4 * i + k))), .int (M.2.1 15 (4 * i + k))]) (v := .int (M.2.1 13 (4 * i + k))) ((hT.2.2 i (by omega)).2.2.2.2 k (by omega)).1 ((cE_ne (by omega)).trans ((hT.2.2 i (by omega)).2.2.2.2 k (by omega)).2) rfl dX2_unitsInComponent_1 ?_
  refine kv_if_ne (tgt := 35) X dX2_unitsInComponent_4 (by decide) (fun hc4 => ?_) (fun hc4 => ?_)
  ·
    refine kv_aload_n X 1 dX2_unitsInComponent_35 rfl rfl ?_
    refine kv_getfield X f_X2_unitsInComponent_105 (κ := 144 + (4 * i + k)) (fs := [.int (M.2.1 13 (4 * i + k)), .int (nI (nm (4 * i + k))), .int (M.2.1 15 (4 * i + k))]) (v := .int (M.2.1 13 (4 * i + k))) ((hT.2.2 i (by omega)).2.2.2.2 k (by omega)).1 ((cE_ne (by omega)).trans ((hT.2.2 i (by omega)).2.2.2.2 k (by omega)).2) rfl dX2_unitsInComponent_36 ?_
    refine kv_iconst (v := 2) X dX2_unitsInComponent_39 (by decide) ?_
    refine kv_icmp_ne (tgt := 59) X dX2_unitsInComponent_40 (by decide) (fun hc40 => ?_) (fun hc40 => ?_)
    ·
      refine kv_aload_n X 0 dX2_unitsInComponent_59 rfl rfl ?_
      refine kv_getfield X f_X2_unitsInComponent_15 (κ := 2) (fs := [.ref (ad 1), .ref (ad 17), .ref (ad 18), .ref (ad 19), .ref (ad 20), .ref (ad 21), .ref (ad 22), .ref (ad 23), .ref (ad 24)]) (v := .ref (ad 18)) hO.2.2.1.1 ((cE_ne (by omega)).trans hO.2.2.1.2) rfl dX2_unitsInComponent_60 ?_
      refine kv_aload_n X 1 dX2_unitsInComponent_63 rfl rfl ?_
      refine kv_getfield X f_X2_unitsInComponent_109 (κ := 144 + (4 * i + k)) (fs := [.int (M.2.1 13 (4 * i + k)), .int (nI (nm (4 * i + k))), .int (M.2.1 15 (4 * i + k))]) (v := .int (nI (nm (4 * i + k)))) ((hT.2.2 i (by omega)).2.2.2.2 k (by omega)).1 ((cE_ne (by omega)).trans ((hT.2.2 i (by omega)).2.2.2.2 k (by omega)).2) rfl dX2_unitsInComponent_64 ?_
      have hnR : nm (4 * i + k) < nR := by rcases hB.1 i (by omega) k (by omega) with q | q | q; exact absurd q.1 hc4; exact q.2; exact absurd q.1 hc40
      have hmm := (hmr (nm (4 * i + k)) hnR).2
      refine ke_iald X (18) (j := nm (4 * i + k)) (hO.2.2.2.1 _ (by omega) (by omega)) (by omega) (by omega) dX2_unitsInComponent_67 ?_
      refine kv_topi (nI (mr (nm (4 * i + k)))) (hmr (nm (4 * i + k)) hnR).1 ?_
      refine kv_iload_n X 2 dX2_unitsInComponent_68 rfl rfl ?_
      refine kn_icmp_ne (x := mr (nm (4 * i + k))) (y := r0) (tgt := 80) X (by omega) (by omega) dX2_unitsInComponent_69 (by decide) (fun hc69 => ?_) (fun hc69 => ?_)
      ·
        refine kv_lconst (v := 0) X dX2_unitsInComponent_80 (by decide) ?_
        exact kv_lreturn X hr (Nat.le_of_ble_eq_true rfl) (Nat.le_of_ble_eq_true rfl) ⟨e, ⟨rfl, by rw [uco, if_neg hc4, if_neg hc40]; first | rw [if_pos hc69] | rw [if_neg hc69]⟩, rfl⟩ dX2_unitsInComponent_81
      ·
        refine kv_aload_n X 1 dX2_unitsInComponent_72 rfl rfl ?_
        refine kv_getfield X f_X2_unitsInComponent_139 (κ := 144 + (4 * i + k)) (fs := [.int (M.2.1 13 (4 * i + k)), .int (nI (nm (4 * i + k))), .int (M.2.1 15 (4 * i + k))]) (v := .int (M.2.1 15 (4 * i + k))) ((hT.2.2 i (by omega)).2.2.2.2 k (by omega)).1 ((cE_ne (by omega)).trans ((hT.2.2 i (by omega)).2.2.2.2 k (by omega)).2) rfl dX2_unitsInComponent_73 ?_
        refine kv_i2l X dX2_unitsInComponent_76 rfl ?_
        refine kv_goto (tgt := 81) X dX2_unitsInComponent_77 (by decide) ?_
        exact kv_lreturn X hr (Nat.le_of_ble_eq_true rfl) (Nat.le_of_ble_eq_true rfl) ⟨e, ⟨rfl, by rw [uco, if_neg hc4, if_neg hc40]; first | rw [if_pos hc69] | rw [if_neg hc69]⟩, rfl⟩ dX2_unitsInComponent_81
    ·
      refine kv_aload_n X 1 dX2_unitsInComponent_43 rfl rfl ?_
      refine kv_getfield X f_X2_unitsInComponent_139 (κ := 144 + (4 * i + k)) (fs := [.int (M.2.1 13 (4 * i + k)), .int (nI (nm (4 * i + k))), .int (M.2.1 15 (4 * i + k))]) (v := .int (M.2.1 15 (4 * i + k))) ((hT.2.2 i (by omega)).2.2.2.2 k (by omega)).1 ((cE_ne (by omega)).trans ((hT.2.2 i (by omega)).2.2.2.2 k (by omega)).2) rfl dX2_unitsInComponent_44 ?_
      refine kv_i2l X dX2_unitsInComponent_47 rfl ?_
      refine kv_aload_n X 0 dX2_unitsInComponent_48 rfl rfl ?_
      refine kv_aload_n X 1 dX2_unitsInComponent_49 rfl rfl ?_
      refine kv_getfield X f_X2_unitsInComponent_109 (κ := 144 + (4 * i + k)) (fs := [.int (M.2.1 13 (4 * i + k)), .int (nI (nm (4 * i + k))), .int (M.2.1 15 (4 * i + k))]) (v := .int (nI (nm (4 * i + k)))) ((hT.2.2 i (by omega)).2.2.2.2 k (by omega)).1 ((cE_ne (by omega)).trans ((hT.2.2 i (by omega)).2.2.2.2 k (by omega)).2) rfl dX2_unitsInComponent_50 ?_
      have hnC : nm (4 * i + k) < nC := by rcases hB.1 i (by omega) k (by omega) with q | q | q; exact absurd (hc40.symm.trans q.1) (by decide); exact absurd (hc40.symm.trans q.1) (by decide); exact q.2
      refine kv_iload_n X 2 dX2_unitsInComponent_53 rfl rfl ?_
      refine kv_calllV (ci := 5) (κ := 2) (r1 := (TX2, 9)) (As := [.int (nI (nm (4 * i + k))), .int (nI r0)]) [.long ((M.2.1 15 (4 * i + k)).toInt64)] X (c_X2_unitsInCrew l dd ks ad E e M nR nC nt nL nW nV nM cn nm mn me li rl on hO hR hC hT hL hW hV hM hB (nm (4 * i + k)) r0 hnC hr0 mr hmr) hl0 (kCV_of X 2 gX2_unitsInComponent_X2_unitsInCrew rfl rfl rfl (by decide +kernel) hRR ⟨(Nat.le_of_ble_eq_true rfl), (Nat.le_of_ble_eq_true rfl)⟩) hO.2.2.1.1 ((cE_ne (by omega)).trans hO.2.2.1.2) rfl rfl rfl (Nat.le_of_ble_eq_true rfl) hRR ⟨(Nat.le_of_ble_eq_true rfl), (Nat.le_of_ble_eq_true rfl)⟩ dX2_unitsInComponent_54 (fun r z hp => ?_)
      obtain ⟨rfl, rfl⟩ := hp
      refine kv_lmul X dX2_unitsInComponent_57 ?_
      exact kv_lreturn X hr (Nat.le_of_ble_eq_true rfl) (Nat.le_of_ble_eq_true rfl) ⟨e, ⟨rfl, by rw [uco, if_neg hc4, if_pos hc40]⟩, rfl⟩ dX2_unitsInComponent_58
  ·
    refine kv_aload_n X 0 dX2_unitsInComponent_7 rfl rfl ?_
    refine kv_getfield X f_X2_unitsInComponent_9 (κ := 2) (fs := [.ref (ad 1), .ref (ad 17), .ref (ad 18), .ref (ad 19), .ref (ad 20), .ref (ad 21), .ref (ad 22), .ref (ad 23), .ref (ad 24)]) (v := .ref (ad 17)) hO.2.2.1.1 ((cE_ne (by omega)).trans hO.2.2.1.2) rfl dX2_unitsInComponent_8 ?_
    have hnt : nm (4 * i + k) < nt := by rcases hB.1 i (by omega) k (by omega) with q | q | q; exact q.2; exact absurd (hc4.symm.trans q.1) (by decide); exact absurd (hc4.symm.trans q.1) (by decide)
    have hmt := (hmi (nm (4 * i + k)) hnt).2
    refine kv_aload_n X 1 dX2_unitsInComponent_11 rfl rfl ?_
    refine kv_getfield X f_X2_unitsInComponent_109 (κ := 144 + (4 * i + k)) (fs := [.int (M.2.1 13 (4 * i + k)), .int (nI (nm (4 * i + k))), .int (M.2.1 15 (4 * i + k))]) (v := .int (nI (nm (4 * i + k)))) ((hT.2.2 i (by omega)).2.2.2.2 k (by omega)).1 ((cE_ne (by omega)).trans ((hT.2.2 i (by omega)).2.2.2.2 k (by omega)).2) rfl dX2_unitsInComponent_12 ?_
    refine ke_iald X (17) (j := nm (4 * i + k)) (hO.2.2.2.1 _ (by omega) (by omega)) (by omega) (by omega) dX2_unitsInComponent_15 ?_
    refine kv_topi (nI (mi (nm (4 * i + k)))) (hmi (nm (4 * i + k)) hnt).1 ?_
    refine kv_istore (lv2 := [(4, .int (nI (mi (nm (4 * i + k))))), (0, .ref (ad 2)), (1, .ref (ad (144 + (4 * i + k)))), (2, .int (nI r0)), (3, .int (nI 1))]) X dX2_unitsInComponent_16 (by rw [hnL]; decide) rfl ?_
    refine kv_aload_n X 2 dX2_unitsInComponent_18 rfl rfl ?_
    refine kv_getfield X f_X2_unitsInComponent_139 (κ := 144 + (4 * i + k)) (fs := [.int (M.2.1 13 (4 * i + k)), .int (nI (nm (4 * i + k))), .int (M.2.1 15 (4 * i + k))]) (v := .int (M.2.1 15 (4 * i + k))) ((hT.2.2 i (by omega)).2.2.2.2 k (by omega)).1 ((cE_ne (by omega)).trans ((hT.2.2 i (by omega)).2.2.2.2 k (by omega)).2) rfl dX2_unitsInComponent_19 ?_
    refine kv_i2l X dX2_unitsInComponent_22 rfl ?_
    refine kv_aload_n X 1 dX2_unitsInComponent_23 rfl rfl ?_
    refine kv_iload X 0 dX2_unitsInComponent_24 rfl ?_
    refine kv_iload_n X 3 dX2_unitsInComponent_26 rfl rfl ?_
    refine kv_iload_n X 4 dX2_unitsInComponent_27 rfl rfl ?_
    refine kv_iconst (v := 1) X dX2_unitsInComponent_28 (by decide) ?_
    refine kv_iadd X dX2_unitsInComponent_29 ?_
    refine kv_topi (nI (1 + 1)) (nI_add 1 1) ?_
    refine kv_topi (nI 2) rfl ?_
    refine kv_calllV (ci := 5) (κ := 2) (r1 := (TX2, 9)) (As := [.int (nI (mi (nm (4 * i + k)))), .int (nI r0), .int (nI 2)]) [.long ((M.2.1 15 (4 * i + k)).toInt64)] X (c_X2_unitsInTree2 l dd ks ad E e M nR nC nt nL nW nV nM cn nm mn me li rl on hO hR hC hT hL hW hV hM hB (mi (nm (4 * i + k))) r0 (by omega) hr0 mi hmi mr hmr) hl0 (kCV_of X 3 gX2_unitsInComponent_X2_unitsInTree rfl rfl rfl (by decide +kernel) hRR ⟨(Nat.le_of_ble_eq_true rfl), (Nat.le_of_ble_eq_true rfl)⟩) hO.2.2.1.1 ((cE_ne (by omega)).trans hO.2.2.1.2) rfl rfl rfl (Nat.le_of_ble_eq_true rfl) hRR ⟨(Nat.le_of_ble_eq_true rfl), (Nat.le_of_ble_eq_true rfl)⟩ dX2_unitsInComponent_30 (fun r z hp => ?_)
    obtain ⟨rfl, rfl⟩ := hp
    refine kv_lmul X dX2_unitsInComponent_33 ?_
    exact kv_lreturn X hr (Nat.le_of_ble_eq_true rfl) (Nat.le_of_ble_eq_true rfl) ⟨e, ⟨rfl, by rw [uco, if_pos hc4]⟩, rfl⟩ dX2_unitsInComponent_34
set_option maxRecDepth 100000 in
set_option maxHeartbeats 4000000 in
theorem c_X2_unitsInTree1 (l : Launch) (dd : kDD) (ks : List Nat) (ad : Nat → Nat) (E : Nat → va_E) (e : eS) (M : mS) (nR nC nt nL nW nV nM : Nat) (cn nm mn me li rl : Nat → Nat) (on : Int32) (hO : cO dd ks ad E on) (hR : cR dd ks ad E M nR) (hC : cC dd ks ad E M nC mn me) (hT : cT dd ks ad E M nt cn nm) (hL : cL dd ks ad E M nL nW li) (hW : cW dd ks ad E M nW rl) (hV : cV dd ks ad E M nV) (hM : cM dd ks ad E M nM) (hB : cB M nR nC nt nL nW nV cn nm mn me li rl) (i r0 : Nat) (hi : i < nt) (hr0 : r0 < nR) (mi : Nat → Nat) (hmi : ∀ j, j < nt → e.1 17 j = nI (mi j) ∧ mi j < nt) (mr : Nat → Nat) (hmr : ∀ j, j < nR → e.1 18 j = nI (mr j) ∧ mr j < nR) : kCl l yX2_unitsInTree wsX2_unitsInTree ({ frames := 9, cells := 0, slots := 0, locals := 216 } : Room) 0 0 dd [.ref (ad 2), .int (nI i), .int (nI r0), .int (nI 1)] (ks, ad, (cE dd E e)) (kQl (S := eS) (fun r z => e = z ∧ r = utr (M.2.1 13) (M.2.1 15) (M.2.1 9) cn nm mn mr me (fun k => mi (nm k)) r0 3 i) (fun _ => ks) (fun _ => ad) (fun z => cE dd E z)) := by
  refine kMetl (ws' := _) (cc := cX2_unitsInTree) (maxL := 8) (rt := .long) (by decide) rfl (Nat.le_of_ble_eq_true rfl) (fun g X hr hnL hRR hl0 hkn => ?_)
  show kv dd g 0 0 0 [(0, .ref (ad 2)), (1, .int (nI i)), (2, .int (nI r0)), (3, .int (nI 1))] [] ks ad (cE dd E e)
  have hT12 := hT.1
  have hcn4 := (hT.2.2 i hi).2.2.1
  refine kv_iload_n X 3 dX2_unitsInTree_0 rfl rfl ?_
  refine kv_iconst (v := 3) X dX2_unitsInTree_1 (by decide) ?_
  refine kn_icmp_le (x := 1) (y := 3) (tgt := 7) X (by omega) (by omega) dX2_unitsInTree_2 (by decide) (fun hc2 => ?_) (fun hc2 => absurd hc2 (by omega))
  refine kv_aload_n X 0 dX2_unitsInTree_7 rfl rfl ?_
  refine kv_getfield X f_X2_unitsInTree_39 (κ := 2) (fs := [.ref (ad 1), .ref (ad 17), .ref (ad 18), .ref (ad 19), .ref (ad 20), .ref (ad 21), .ref (ad 22), .ref (ad 23), .ref (ad 24)]) (v := .ref (ad 1)) hO.2.2.1.1 ((cE_ne (by omega)).trans hO.2.2.1.2) rfl dX2_unitsInTree_8 ?_
  refine kv_getfield X f_X2_unitsInTree_43 (κ := 1) (fs := [.ref (ad 3), .ref (ad 4), .ref (ad 5), .ref (ad 6), .ref (ad 7), .ref (ad 8), .ref (ad 9)]) (v := .ref (ad 5)) hO.2.1.1 ((cE_ne (by omega)).trans hO.2.1.2) rfl dX2_unitsInTree_11 ?_
  refine kv_iload_n X 1 dX2_unitsInTree_14 rfl rfl ?_
  obtain ⟨_, _, o15⟩ := kLs_obj (dd := dd) (ks := ks) (ad := ad) (E := (cE dd E e)) (kLs_cE hT.2.1 (by omega) (by omega) (fun i hi => by omega))
  refine kv_callqV (ci := 2) (κ := 5) (r1 := (TJx4a65c, 3)) (As := [.int (nI i)]) [] X (c_Jx4a65c_get_915e3 l dd ks ad (cE dd E e) (5) (12) (nt) (fun i => 96 + i) 6 (kLs_cE hT.2.1 (by omega) (by omega) (fun i hi => by omega)) i (by omega)) hl0 (kCV_of X 1 gX2_unitsInTree_Jx4a65c_get_915e3 rfl rfl rfl (by decide +kernel) hRR ⟨(Nat.le_of_ble_eq_true rfl), (Nat.le_of_ble_eq_true rfl)⟩) hT.2.1.1 o15 rfl rfl rfl (Nat.le_of_ble_eq_true rfl) hRR ⟨(Nat.le_of_ble_eq_true rfl), (Nat.le_of_ble_eq_true rfl)⟩ dX2_unitsInTree_15 (fun r z hp => ?_)
  obtain rfl := hp
  refine kv_topg (.ref (ad (96 + i))) rfl ?_
  refine kv_cast X (κ := 96 + i) (ci := 6) (fs := [.int (M.2.1 11 i), .ref (ad (112 + i))]) (r := (RX3, TX3, 2)) (List.mem_cons_of_mem _ (List.mem_append_left _ (List.mem_append_left _ (List.mem_append_left _ (List.mem_append_left _ (List.mem_append_left _ (List.mem_append_left _ (List.mem_append_left _ (List.mem_append_left _ (List.mem_of_getElem? (i := 2) rfl)))))))))) (hT.2.2 i (by omega)).1 ((cE_ne (by omega)).trans (hT.2.2 i (by omega)).2.1) rfl dX2_unitsInTree_18 ?_
  refine kv_getfield X f_X2_unitsInTree_100 (κ := 96 + i) (fs := [.int (M.2.1 11 i), .ref (ad (112 + i))]) (v := .ref (ad (112 + i))) (hT.2.2 i (by omega)).1 ((cE_ne (by omega)).trans (hT.2.2 i (by omega)).2.1) rfl dX2_unitsInTree_21 ?_
  refine kv_astore (lv2 := [(4, .ref (ad (112 + i))), (0, .ref (ad 2)), (1, .int (nI i)), (2, .int (nI r0)), (3, .int (nI 1))]) X dX2_unitsInTree_24 (by rw [hnL]; decide) rfl ?_
  refine kv_lconst (v := 0) X dX2_unitsInTree_26 (by decide) ?_
  refine kv_lstore (lv2 := [(5, .long 0), (4, .ref (ad (112 + i))), (0, .ref (ad 2)), (1, .int (nI i)), (2, .int (nI r0)), (3, .int (nI 1))]) X dX2_unitsInTree_27 (by rw [hnL]; decide) rfl ?_
  refine kv_iconst (v := 0) X dX2_unitsInTree_29 (by decide) ?_
  refine kv_istore (lv2 := [(7, .int 0), (5, .long 0), (4, .ref (ad (112 + i))), (0, .ref (ad 2)), (1, .int (nI i)), (2, .int (nI r0)), (3, .int (nI 1))]) X dX2_unitsInTree_30 (by rw [hnL]; decide) rfl ?_
  have L32 : ∀ (n9 k : Nat), k + n9 = cn i → ∀ (_ : Unit) , kv dd g 0 0 32 [(7, .int (nI k)), (5, .long (msumJ (fun k => uco (M.2.1 13) (M.2.1 15) (M.2.1 9) nm mn mr me (fun k => mi (nm k)) r0 (utr (M.2.1 13) (M.2.1 15) (M.2.1 9) cn nm mn mr me (fun k => mi (nm k)) r0 2) (4 * i + k)) 0 k)), (4, .ref (ad (112 + i))), (0, .ref (ad 2)), (1, .int (nI i)), (2, .int (nI r0)), (3, .int (nI 1))] [] ks ad (cE dd E e) := by
    intro n9
    induction n9 with
    | zero =>
      intro k hin32 _ 
      refine kv_iload X 0 dX2_unitsInTree_32 rfl ?_
      refine kv_aload X 2 dX2_unitsInTree_34 rfl ?_
      obtain ⟨_, _, o36⟩ := kLs_obj (dd := dd) (ks := ks) (ad := ad) (E := (cE dd E e)) (kLs_cE (hT.2.2 i (by omega)).2.2.2.1 (by omega) (by omega) (fun i hi => by omega))
      refine kv_calliV (ci := 2) (κ := 112 + i) (r1 := (TJx4a65c, 3)) (As := []) [.int (nI k)] X (c_Jx4a65c_size_8abf5 l dd ks ad (cE dd E e) (112 + i) (128 + i) (cn i) (fun k => 144 + (4 * i + k)) 3 (kLs_cE (hT.2.2 i (by omega)).2.2.2.1 (by omega) (by omega) (fun i hi => by omega))) hl0 (kCV_of X 0 gX2_unitsInTree_Jx4a65c_size_8abf5 rfl rfl rfl (by decide +kernel) hRR ⟨(Nat.le_of_ble_eq_true rfl), (Nat.le_of_ble_eq_true rfl)⟩) (hT.2.2 i (by omega)).2.2.2.1.1 o36 rfl rfl rfl (Nat.le_of_ble_eq_true rfl) hRR ⟨(Nat.le_of_ble_eq_true rfl), (Nat.le_of_ble_eq_true rfl)⟩ dX2_unitsInTree_36 (fun r z hp => ?_)
      obtain rfl := hp
      refine kn_icmp_ge (x := k) (y := cn i) (tgt := 69) X (by omega) (by omega) dX2_unitsInTree_39 (by decide) (fun hc39 => ?_) (fun hc39 => absurd hc39 (by omega))
      refine kv_lload X 1 dX2_unitsInTree_69 rfl ?_
      exact kv_lreturn X hr (Nat.le_of_ble_eq_true rfl) (Nat.le_of_ble_eq_true rfl) ⟨e, ⟨rfl, by rw [show k = cn i by omega]; rfl⟩, rfl⟩ dX2_unitsInTree_71
    | succ n9 ih32 =>
      intro k hin32 _ 
      refine kv_iload X 0 dX2_unitsInTree_32 rfl ?_
      refine kv_aload X 2 dX2_unitsInTree_34 rfl ?_
      obtain ⟨_, _, o36⟩ := kLs_obj (dd := dd) (ks := ks) (ad := ad) (E := (cE dd E e)) (kLs_cE (hT.2.2 i (by omega)).2.2.2.1 (by omega) (by omega) (fun i hi => by omega))
      refine kv_calliV (ci := 2) (κ := 112 + i) (r1 := (TJx4a65c, 3)) (As := []) [.int (nI k)] X (c_Jx4a65c_size_8abf5 l dd ks ad (cE dd E e) (112 + i) (128 + i) (cn i) (fun k => 144 + (4 * i + k)) 3 (kLs_cE (hT.2.2 i (by omega)).2.2.2.1 (by omega) (by omega) (fun i hi => by omega))) hl0 (kCV_of X 0 gX2_unitsInTree_Jx4a65c_size_8abf5 rfl rfl rfl (by decide +kernel) hRR ⟨(Nat.le_of_ble_eq_true rfl), (Nat.le_of_ble_eq_true rfl)⟩) (hT.2.2 i (by omega)).2.2.2.1.1 o36 rfl rfl rfl (Nat.le_of_ble_eq_true rfl) hRR ⟨(Nat.le_of_ble_eq_true rfl), (Nat.le_of_ble_eq_true rfl)⟩ dX2_unitsInTree_36 (fun r z hp => ?_)
      obtain rfl := hp
      refine kn_icmp_ge (x := k) (y := cn i) (tgt := 69) X (by omega) (by omega) dX2_unitsInTree_39 (by decide) (fun hc39 => absurd hc39 (by omega)) (fun hc39 => ?_)
      refine kv_lload X 1 dX2_unitsInTree_42 rfl ?_
      refine kv_aload_n X 3 dX2_unitsInTree_44 rfl rfl ?_
      refine kv_aload X 2 dX2_unitsInTree_45 rfl ?_
      refine kv_iload X 0 dX2_unitsInTree_47 rfl ?_
      obtain ⟨_, _, o49⟩ := kLs_obj (dd := dd) (ks := ks) (ad := ad) (E := (cE dd E e)) (kLs_cE (hT.2.2 i (by omega)).2.2.2.1 (by omega) (by omega) (fun i hi => by omega))
      refine kv_callqV (ci := 2) (κ := 112 + i) (r1 := (TJx4a65c, 3)) (As := [.int (nI k)]) [.ref (ad 2), .long (msumJ (fun k => uco (M.2.1 13) (M.2.1 15) (M.2.1 9) nm mn mr me (fun k => mi (nm k)) r0 (utr (M.2.1 13) (M.2.1 15) (M.2.1 9) cn nm mn mr me (fun k => mi (nm k)) r0 2) (4 * i + k)) 0 k)] X (c_Jx4a65c_get_915e3 l dd ks ad (cE dd E e) (112 + i) (128 + i) (cn i) (fun k => 144 + (4 * i + k)) 3 (kLs_cE (hT.2.2 i (by omega)).2.2.2.1 (by omega) (by omega) (fun i hi => by omega)) k (by omega)) hl0 (kCV_of X 1 gX2_unitsInTree_Jx4a65c_get_915e3 rfl rfl rfl (by decide +kernel) hRR ⟨(Nat.le_of_ble_eq_true rfl), (Nat.le_of_ble_eq_true rfl)⟩) (hT.2.2 i (by omega)).2.2.2.1.1 o49 rfl rfl rfl (Nat.le_of_ble_eq_true rfl) hRR ⟨(Nat.le_of_ble_eq_true rfl), (Nat.le_of_ble_eq_true rfl)⟩ dX2_unitsInTree_49 (fun r z hp => ?_)
      obtain rfl := hp
      refine kv_topg (.ref (ad (144 + (4 * i + k)))) rfl ?_
      refine kv_cast X (κ := 144 + (4 * i + k)) (ci := 3) (fs := [.int (M.2.1 13 (4 * i + k)), .int (nI (nm (4 * i + k))), .int (M.2.1 15 (4 * i + k))]) (r := (RX0, TX0, 3)) (List.mem_cons_of_mem _ (List.mem_append_left _ (List.mem_append_left _ (List.mem_append_left _ (List.mem_append_left _ (List.mem_append_left _ (List.mem_append_left _ (List.mem_append_left _ (List.mem_append_left _ (List.mem_of_getElem? (i := 4) rfl)))))))))) ((hT.2.2 i (by omega)).2.2.2.2 k (by omega)).1 ((cE_ne (by omega)).trans ((hT.2.2 i (by omega)).2.2.2.2 k (by omega)).2) rfl dX2_unitsInTree_52 ?_
      refine kv_iload_n X 5 dX2_unitsInTree_55 rfl rfl ?_
      refine kv_iload_n X 6 dX2_unitsInTree_56 rfl rfl ?_
      refine kv_calllV (ci := 5) (κ := 2) (r1 := (TX2, 9)) (As := [.ref (ad (144 + (4 * i + k))), .int (nI r0), .int (nI 1)]) [.long (msumJ (fun k => uco (M.2.1 13) (M.2.1 15) (M.2.1 9) nm mn mr me (fun k => mi (nm k)) r0 (utr (M.2.1 13) (M.2.1 15) (M.2.1 9) cn nm mn mr me (fun k => mi (nm k)) r0 2) (4 * i + k)) 0 k)] X (c_X2_unitsInComponent1 l dd ks ad E e M nR nC nt nL nW nV nM cn nm mn me li rl on hO hR hC hT hL hW hV hM hB i k r0 (by omega) (by omega) hr0 mi hmi mr hmr) hl0 (kCV_of X 3 gX2_unitsInTree_X2_unitsInComponent rfl rfl rfl (by decide +kernel) hRR ⟨(Nat.le_of_ble_eq_true rfl), (Nat.le_of_ble_eq_true rfl)⟩) hO.2.2.1.1 ((cE_ne (by omega)).trans hO.2.2.1.2) rfl rfl rfl (Nat.le_of_ble_eq_true rfl) hRR ⟨(Nat.le_of_ble_eq_true rfl), (Nat.le_of_ble_eq_true rfl)⟩ dX2_unitsInTree_57 (fun r z hp => ?_)
      obtain ⟨rfl, rfl⟩ := hp
      refine kv_ladd X dX2_unitsInTree_60 ?_
      refine kv_topl (msumJ (fun k => uco (M.2.1 13) (M.2.1 15) (M.2.1 9) nm mn mr me (fun k => mi (nm k)) r0 (utr (M.2.1 13) (M.2.1 15) (M.2.1 9) cn nm mn mr me (fun k => mi (nm k)) r0 2) (4 * i + k)) 0 (k + 1)) rfl ?_
      refine kv_lstore (lv2 := [(5, .long (msumJ (fun k => uco (M.2.1 13) (M.2.1 15) (M.2.1 9) nm mn mr me (fun k => mi (nm k)) r0 (utr (M.2.1 13) (M.2.1 15) (M.2.1 9) cn nm mn mr me (fun k => mi (nm k)) r0 2) (4 * i + k)) 0 (k + 1))), (7, .int (nI k)), (4, .ref (ad (112 + i))), (0, .ref (ad 2)), (1, .int (nI i)), (2, .int (nI r0)), (3, .int (nI 1))]) X dX2_unitsInTree_61 (by rw [hnL]; decide) rfl ?_
      refine kv_iinc (j := 1) (v := (nI (k + 1))) (lv2 := [(7, .int (nI (k + 1))), (5, .long (msumJ (fun k => uco (M.2.1 13) (M.2.1 15) (M.2.1 9) nm mn mr me (fun k => mi (nm k)) r0 (utr (M.2.1 13) (M.2.1 15) (M.2.1 9) cn nm mn mr me (fun k => mi (nm k)) r0 2) (4 * i + k)) 0 (k + 1))), (4, .ref (ad (112 + i))), (0, .ref (ad 2)), (1, .int (nI i)), (2, .int (nI r0)), (3, .int (nI 1))]) X dX2_unitsInTree_63 rfl (nI_add k 1) (by rw [hnL]; decide) rfl ?_
      refine kv_goto (tgt := 32) X dX2_unitsInTree_66 (by decide) ?_
      exact kv_lv [0, 1, 2, 3, 4, 5, 6] rfl (ih32 (k + 1) (by omega) ())
  exact kv_lv [0, 1, 2, 3, 4, 5, 6] rfl (L32 (cn i) 0 (by omega) ())
theorem f_X2_amountInTrees_39 : kF wsX2_amountInTrees RX2 39 5 0 := ⟨_, RX2, TX2, 9, fun _ h => (List.mem_cons_of_mem _ (List.mem_append_left _ (List.mem_append_left _ (List.mem_append_left _ (List.mem_append_left _ (List.mem_append_left _ (List.mem_append_left _ (List.mem_append_left _ (List.mem_append_right _ h))))))))), (List.mem_cons_of_mem _ (List.mem_append_left _ (List.mem_append_left _ (List.mem_append_left _ (List.mem_append_left _ (List.mem_append_left _ (List.mem_append_left _ (List.mem_append_left _ (List.mem_append_left _ (List.mem_append_left _ (List.mem_of_getElem? (i := 0) rfl))))))))))), rfl, by decide, rfl⟩
theorem f_X2_amountInTrees_163 : kF wsX2_amountInTrees RX2 163 9 3 := ⟨_, RX6, TX6, 7, fun _ h => (List.mem_cons_of_mem _ (List.mem_append_left _ (List.mem_append_left _ (List.mem_append_left _ (List.mem_append_left _ (List.mem_append_left _ (List.mem_append_left _ (List.mem_append_right _ h)))))))), (List.mem_cons_of_mem _ (List.mem_append_left _ (List.mem_append_left _ (List.mem_append_left _ (List.mem_append_left _ (List.mem_append_left _ (List.mem_append_left _ (List.mem_append_left _ (List.mem_append_left _ (List.mem_append_left _ (List.mem_of_getElem? (i := 1) rfl))))))))))), rfl, by decide, rfl⟩
theorem f_X2_amountInTrees_171 : kF wsX2_amountInTrees RX2 171 7 1 := ⟨_, RX4, TX4, 2, fun _ h => (List.mem_cons_of_mem _ (List.mem_append_left _ (List.mem_append_left _ (List.mem_append_left _ (List.mem_append_left _ (List.mem_append_left _ (List.mem_append_right _ h))))))), (List.mem_cons_of_mem _ (List.mem_append_left _ (List.mem_append_left _ (List.mem_append_left _ (List.mem_append_left _ (List.mem_append_left _ (List.mem_append_left _ (List.mem_append_left _ (List.mem_append_left _ (List.mem_append_left _ (List.mem_of_getElem? (i := 3) rfl))))))))))), rfl, by decide, rfl⟩
theorem f_X2_amountInTrees_9 : kF wsX2_amountInTrees RX2 9 5 1 := ⟨_, RX2, TX2, 9, fun _ h => (List.mem_cons_of_mem _ (List.mem_append_left _ (List.mem_append_left _ (List.mem_append_left _ (List.mem_append_left _ (List.mem_append_left _ (List.mem_append_left _ (List.mem_append_left _ (List.mem_append_right _ h))))))))), (List.mem_cons_of_mem _ (List.mem_append_left _ (List.mem_append_left _ (List.mem_append_left _ (List.mem_append_left _ (List.mem_append_left _ (List.mem_append_left _ (List.mem_append_left _ (List.mem_append_left _ (List.mem_append_left _ (List.mem_of_getElem? (i := 4) rfl))))))))))), rfl, by decide, rfl⟩
theorem f_X2_amountInTrees_168 : kF wsX2_amountInTrees RX2 168 7 0 := ⟨_, RX4, TX4, 2, fun _ h => (List.mem_cons_of_mem _ (List.mem_append_left _ (List.mem_append_left _ (List.mem_append_left _ (List.mem_append_left _ (List.mem_append_left _ (List.mem_append_right _ h))))))), (List.mem_cons_of_mem _ (List.mem_append_left _ (List.mem_append_left _ (List.mem_append_left _ (List.mem_append_left _ (List.mem_append_left _ (List.mem_append_left _ (List.mem_append_left _ (List.mem_append_left _ (List.mem_append_left _ (List.mem_of_getElem? (i := 5) rfl))))))))))), rfl, by decide, rfl⟩
set_option maxRecDepth 100000 in
set_option maxHeartbeats 4000000 in
theorem c_X2_amountInTrees (l : Launch) (dd : kDD) (ks : List Nat) (ad : Nat → Nat) (E : Nat → va_E) (e : eS) (M : mS) (nR nC nt nL nW nV nM : Nat) (cn nm mn me li rl : Nat → Nat) (on : Int32) (hO : cO dd ks ad E on) (hR : cR dd ks ad E M nR) (hC : cC dd ks ad E M nC mn me) (hT : cT dd ks ad E M nt cn nm) (hL : cL dd ks ad E M nL nW li) (hW : cW dd ks ad E M nW rl) (hV : cV dd ks ad E M nV) (hM : cM dd ks ad E M nM) (hB : cB M nR nC nt nL nW nV cn nm mn me li rl) (r0 : Nat) (hr0 : r0 < nR) (mi : Nat → Nat) (hmi : ∀ j, j < nt → e.1 17 j = nI (mi j) ∧ mi j < nt) (mr : Nat → Nat) (hmr : ∀ j, j < nR → e.1 18 j = nI (mr j) ∧ mr j < nR) : kCl l yX2_amountInTrees wsX2_amountInTrees ({ frames := 10, cells := 0, slots := 0, locals := 243 } : Room) 0 0 dd [.ref (ad 2), .int (nI r0)] (ks, ad, (cE dd E e)) (kQl (S := eS) (fun r z => e = z ∧ r = msumJ (fun l => (mq (M.2.1 19) (M.2.1 20) (nI l) nW).toInt64 * utr (M.2.1 13) (M.2.1 15) (M.2.1 9) cn nm mn mr me (fun k => mi (nm k)) r0 3 (mi (li l))) 0 nL) (fun _ => ks) (fun _ => ad) (fun z => cE dd E z)) := by
  refine kMetl (ws' := _) (cc := cX2_amountInTrees) (maxL := 6) (rt := .long) (by decide) rfl (Nat.le_of_ble_eq_true rfl) (fun g X hr hnL hRR hl0 hkn => ?_)
  show kv dd g 0 0 0 [(0, .ref (ad 2)), (1, .int (nI r0))] [] ks ad (cE dd E e)
  have hT12 := hT.1
  have hL10 := hL.1
  refine kv_lconst (v := 0) X dX2_amountInTrees_0 (by decide) ?_
  refine kv_lstore_n (lv2 := [(2, .long 0), (0, .ref (ad 2)), (1, .int (nI r0))]) X dX2_amountInTrees_1 rfl (by rw [hnL]; decide) rfl ?_
  refine kv_iconst (v := 0) X dX2_amountInTrees_2 (by decide) ?_
  refine kv_istore (lv2 := [(4, .int 0), (2, .long 0), (0, .ref (ad 2)), (1, .int (nI r0))]) X dX2_amountInTrees_3 (by rw [hnL]; decide) rfl ?_
  have L5 : ∀ (n9 l9 : Nat), l9 + n9 = nL → ∀ (_ : Unit) , kv dd g 0 0 5 [(4, .int (nI l9)), (2, .long (msumJ (fun l => (mq (M.2.1 19) (M.2.1 20) (nI l) nW).toInt64 * utr (M.2.1 13) (M.2.1 15) (M.2.1 9) cn nm mn mr me (fun k => mi (nm k)) r0 3 (mi (li l))) 0 l9)), (0, .ref (ad 2)), (1, .int (nI r0))] [] ks ad (cE dd E e) := by
    intro n9
    induction n9 with
    | zero =>
      intro l9 hin5 _ 
      refine kv_iload X 0 dX2_amountInTrees_5 rfl ?_
      refine kv_aload_n X 2 dX2_amountInTrees_7 rfl rfl ?_
      refine kv_getfield X f_X2_amountInTrees_39 (κ := 2) (fs := [.ref (ad 1), .ref (ad 17), .ref (ad 18), .ref (ad 19), .ref (ad 20), .ref (ad 21), .ref (ad 22), .ref (ad 23), .ref (ad 24)]) (v := .ref (ad 1)) hO.2.2.1.1 ((cE_ne (by omega)).trans hO.2.2.1.2) rfl dX2_amountInTrees_8 ?_
      refine kv_getfield X f_X2_amountInTrees_163 (κ := 1) (fs := [.ref (ad 3), .ref (ad 4), .ref (ad 5), .ref (ad 6), .ref (ad 7), .ref (ad 8), .ref (ad 9)]) (v := .ref (ad 6)) hO.2.1.1 ((cE_ne (by omega)).trans hO.2.1.2) rfl dX2_amountInTrees_11 ?_
      obtain ⟨_, _, o14⟩ := kLs_obj (dd := dd) (ks := ks) (ad := ad) (E := (cE dd E e)) (kLs_cE hL.2.1 (by omega) (by omega) (fun i hi => by omega))
      refine kv_calliV (ci := 2) (κ := 6) (r1 := (TJx4a65c, 3)) (As := []) [.int (nI l9)] X (c_Jx4a65c_size_8abf5 l dd ks ad (cE dd E e) (6) (13) (nL) (fun l => 208 + l) 7 (kLs_cE hL.2.1 (by omega) (by omega) (fun i hi => by omega))) hl0 (kCV_of X 0 gX2_amountInTrees_Jx4a65c_size_8abf5 rfl rfl rfl (by decide +kernel) hRR ⟨(Nat.le_of_ble_eq_true rfl), (Nat.le_of_ble_eq_true rfl)⟩) hL.2.1.1 o14 rfl rfl rfl (Nat.le_of_ble_eq_true rfl) hRR ⟨(Nat.le_of_ble_eq_true rfl), (Nat.le_of_ble_eq_true rfl)⟩ dX2_amountInTrees_14 (fun r z hp => ?_)
      obtain rfl := hp
      refine kn_icmp_ge (x := l9) (y := nL) (tgt := 69) X (by omega) (by omega) dX2_amountInTrees_17 (by decide) (fun hc17 => ?_) (fun hc17 => absurd hc17 (by omega))
      refine kv_lload_n X 1 dX2_amountInTrees_69 rfl rfl ?_
      exact kv_lreturn X hr (Nat.le_of_ble_eq_true rfl) (Nat.le_of_ble_eq_true rfl) ⟨e, ⟨rfl, by rw [show l9 = nL by omega]⟩, rfl⟩ dX2_amountInTrees_70
    | succ n9 ih5 =>
      intro l9 hin5 _ 
      refine kv_iload X 0 dX2_amountInTrees_5 rfl ?_
      refine kv_aload_n X 2 dX2_amountInTrees_7 rfl rfl ?_
      refine kv_getfield X f_X2_amountInTrees_39 (κ := 2) (fs := [.ref (ad 1), .ref (ad 17), .ref (ad 18), .ref (ad 19), .ref (ad 20), .ref (ad 21), .ref (ad 22), .ref (ad 23), .ref (ad 24)]) (v := .ref (ad 1)) hO.2.2.1.1 ((cE_ne (by omega)).trans hO.2.2.1.2) rfl dX2_amountInTrees_8 ?_
      refine kv_getfield X f_X2_amountInTrees_163 (κ := 1) (fs := [.ref (ad 3), .ref (ad 4), .ref (ad 5), .ref (ad 6), .ref (ad 7), .ref (ad 8), .ref (ad 9)]) (v := .ref (ad 6)) hO.2.1.1 ((cE_ne (by omega)).trans hO.2.1.2) rfl dX2_amountInTrees_11 ?_
      obtain ⟨_, _, o14⟩ := kLs_obj (dd := dd) (ks := ks) (ad := ad) (E := (cE dd E e)) (kLs_cE hL.2.1 (by omega) (by omega) (fun i hi => by omega))
      refine kv_calliV (ci := 2) (κ := 6) (r1 := (TJx4a65c, 3)) (As := []) [.int (nI l9)] X (c_Jx4a65c_size_8abf5 l dd ks ad (cE dd E e) (6) (13) (nL) (fun l => 208 + l) 7 (kLs_cE hL.2.1 (by omega) (by omega) (fun i hi => by omega))) hl0 (kCV_of X 0 gX2_amountInTrees_Jx4a65c_size_8abf5 rfl rfl rfl (by decide +kernel) hRR ⟨(Nat.le_of_ble_eq_true rfl), (Nat.le_of_ble_eq_true rfl)⟩) hL.2.1.1 o14 rfl rfl rfl (Nat.le_of_ble_eq_true rfl) hRR ⟨(Nat.le_of_ble_eq_true rfl), (Nat.le_of_ble_eq_true rfl)⟩ dX2_amountInTrees_14 (fun r z hp => ?_)
      obtain rfl := hp
      refine kn_icmp_ge (x := l9) (y := nL) (tgt := 69) X (by omega) (by omega) dX2_amountInTrees_17 (by decide) (fun hc17 => absurd hc17 (by omega)) (fun hc17 => ?_)
      refine kv_aload_n X 2 dX2_amountInTrees_20 rfl rfl ?_
      refine kv_getfield X f_X2_amountInTrees_39 (κ := 2) (fs := [.ref (ad 1), .ref (ad 17), .ref (ad 18), .ref (ad 19), .ref (ad 20), .ref (ad 21), .ref (ad 22), .ref (ad 23), .ref (ad 24)]) (v := .ref (ad 1)) hO.2.2.1.1 ((cE_ne (by omega)).trans hO.2.2.1.2) rfl dX2_amountInTrees_21 ?_
      refine kv_getfield X f_X2_amountInTrees_163 (κ := 1) (fs := [.ref (ad 3), .ref (ad 4), .ref (ad 5), .ref (ad 6), .ref (ad 7), .ref (ad 8), .ref (ad 9)]) (v := .ref (ad 6)) hO.2.1.1 ((cE_ne (by omega)).trans hO.2.1.2) rfl dX2_amountInTrees_24 ?_
      refine kv_iload X 0 dX2_amountInTrees_27 rfl ?_
      obtain ⟨_, _, o29⟩ := kLs_obj (dd := dd) (ks := ks) (ad := ad) (E := (cE dd E e)) (kLs_cE hL.2.1 (by omega) (by omega) (fun i hi => by omega))
      refine kv_callqV (ci := 2) (κ := 6) (r1 := (TJx4a65c, 3)) (As := [.int (nI l9)]) [] X (c_Jx4a65c_get_915e3 l dd ks ad (cE dd E e) (6) (13) (nL) (fun l => 208 + l) 7 (kLs_cE hL.2.1 (by omega) (by omega) (fun i hi => by omega)) l9 (by omega)) hl0 (kCV_of X 1 gX2_amountInTrees_Jx4a65c_get_915e3 rfl rfl rfl (by decide +kernel) hRR ⟨(Nat.le_of_ble_eq_true rfl), (Nat.le_of_ble_eq_true rfl)⟩) hL.2.1.1 o29 rfl rfl rfl (Nat.le_of_ble_eq_true rfl) hRR ⟨(Nat.le_of_ble_eq_true rfl), (Nat.le_of_ble_eq_true rfl)⟩ dX2_amountInTrees_29 (fun r z hp => ?_)
      obtain rfl := hp
      refine kv_topg (.ref (ad (208 + l9))) rfl ?_
      refine kv_cast X (κ := 208 + l9) (ci := 7) (fs := [.int (nI (li l9)), .int (mq (M.2.1 19) (M.2.1 20) (nI l9) nW)]) (r := (RX4, TX4, 2)) (List.mem_cons_of_mem _ (List.mem_append_left _ (List.mem_append_left _ (List.mem_append_left _ (List.mem_append_left _ (List.mem_append_left _ (List.mem_append_left _ (List.mem_append_left _ (List.mem_append_left _ (List.mem_append_left _ (List.mem_of_getElem? (i := 2) rfl))))))))))) (hL.2.2 l9 (by omega)).1 ((cE_ne (by omega)).trans (hL.2.2 l9 (by omega)).2) rfl dX2_amountInTrees_32 ?_
      refine kv_astore (lv2 := [(5, .ref (ad (208 + l9))), (4, .int (nI l9)), (2, .long (msumJ (fun l => (mq (M.2.1 19) (M.2.1 20) (nI l) nW).toInt64 * utr (M.2.1 13) (M.2.1 15) (M.2.1 9) cn nm mn mr me (fun k => mi (nm k)) r0 3 (mi (li l))) 0 l9)), (0, .ref (ad 2)), (1, .int (nI r0))]) X dX2_amountInTrees_35 (by rw [hnL]; decide) rfl ?_
      refine kv_lload_n X 2 dX2_amountInTrees_37 rfl rfl ?_
      refine kv_aload X 0 dX2_amountInTrees_38 rfl ?_
      refine kv_getfield X f_X2_amountInTrees_171 (κ := 208 + l9) (fs := [.int (nI (li l9)), .int (mq (M.2.1 19) (M.2.1 20) (nI l9) nW)]) (v := .int (mq (M.2.1 19) (M.2.1 20) (nI l9) nW)) (hL.2.2 l9 (by omega)).1 ((cE_ne (by omega)).trans (hL.2.2 l9 (by omega)).2) rfl dX2_amountInTrees_40 ?_
      refine kv_i2l X dX2_amountInTrees_43 rfl ?_
      refine kv_aload_n X 3 dX2_amountInTrees_44 rfl rfl ?_
      refine kv_aload_n X 3 dX2_amountInTrees_45 rfl rfl ?_
      refine kv_getfield X f_X2_amountInTrees_9 (κ := 2) (fs := [.ref (ad 1), .ref (ad 17), .ref (ad 18), .ref (ad 19), .ref (ad 20), .ref (ad 21), .ref (ad 22), .ref (ad 23), .ref (ad 24)]) (v := .ref (ad 17)) hO.2.2.1.1 ((cE_ne (by omega)).trans hO.2.2.1.2) rfl dX2_amountInTrees_46 ?_
      refine kv_aload X 0 dX2_amountInTrees_49 rfl ?_
      refine kv_getfield X f_X2_amountInTrees_168 (κ := 208 + l9) (fs := [.int (nI (li l9)), .int (mq (M.2.1 19) (M.2.1 20) (nI l9) nW)]) (v := .int (nI (li l9))) (hL.2.2 l9 (by omega)).1 ((cE_ne (by omega)).trans (hL.2.2 l9 (by omega)).2) rfl dX2_amountInTrees_51 ?_
      have hlt := hB.2.2.1 l9 (by omega)
      have hmt := (hmi (li l9) hlt).2
      refine ke_iald X (17) (j := li l9) (hO.2.2.2.1 _ (by omega) (by omega)) (by omega) (by omega) dX2_amountInTrees_54 ?_
      refine kv_topi (nI (mi (li l9))) (hmi (li l9) hlt).1 ?_
      refine kv_iload_n X 4 dX2_amountInTrees_55 rfl rfl ?_
      refine kv_iconst (v := 1) X dX2_amountInTrees_56 (by decide) ?_
      refine kv_calllV (ci := 5) (κ := 2) (r1 := (TX2, 9)) (As := [.int (nI (mi (li l9))), .int (nI r0), .int 1]) [.long ((mq (M.2.1 19) (M.2.1 20) (nI l9) nW).toInt64), .long (msumJ (fun l => (mq (M.2.1 19) (M.2.1 20) (nI l) nW).toInt64 * utr (M.2.1 13) (M.2.1 15) (M.2.1 9) cn nm mn mr me (fun k => mi (nm k)) r0 3 (mi (li l))) 0 l9)] X (c_X2_unitsInTree1 l dd ks ad E e M nR nC nt nL nW nV nM cn nm mn me li rl on hO hR hC hT hL hW hV hM hB (mi (li l9)) r0 (by omega) hr0 mi hmi mr hmr) hl0 (kCV_of X 3 gX2_amountInTrees_X2_unitsInTree rfl rfl rfl (by decide +kernel) hRR ⟨(Nat.le_of_ble_eq_true rfl), (Nat.le_of_ble_eq_true rfl)⟩) hO.2.2.1.1 ((cE_ne (by omega)).trans hO.2.2.1.2) rfl rfl rfl (Nat.le_of_ble_eq_true rfl) hRR ⟨(Nat.le_of_ble_eq_true rfl), (Nat.le_of_ble_eq_true rfl)⟩ dX2_amountInTrees_57 (fun r z hp => ?_)
      obtain ⟨rfl, rfl⟩ := hp
      refine kv_lmul X dX2_amountInTrees_60 ?_
      refine kv_ladd X dX2_amountInTrees_61 ?_
      refine kv_topl (msumJ (fun l => (mq (M.2.1 19) (M.2.1 20) (nI l) nW).toInt64 * utr (M.2.1 13) (M.2.1 15) (M.2.1 9) cn nm mn mr me (fun k => mi (nm k)) r0 3 (mi (li l))) 0 (l9 + 1)) rfl ?_
      refine kv_lstore_n (lv2 := [(2, .long (msumJ (fun l => (mq (M.2.1 19) (M.2.1 20) (nI l) nW).toInt64 * utr (M.2.1 13) (M.2.1 15) (M.2.1 9) cn nm mn mr me (fun k => mi (nm k)) r0 3 (mi (li l))) 0 (l9 + 1))), (5, .ref (ad (208 + l9))), (4, .int (nI l9)), (0, .ref (ad 2)), (1, .int (nI r0))]) X dX2_amountInTrees_62 rfl (by rw [hnL]; decide) rfl ?_
      refine kv_iinc (j := 2) (v := (nI (l9 + 1))) (lv2 := [(4, .int (nI (l9 + 1))), (2, .long (msumJ (fun l => (mq (M.2.1 19) (M.2.1 20) (nI l) nW).toInt64 * utr (M.2.1 13) (M.2.1 15) (M.2.1 9) cn nm mn mr me (fun k => mi (nm k)) r0 3 (mi (li l))) 0 (l9 + 1))), (5, .ref (ad (208 + l9))), (0, .ref (ad 2)), (1, .int (nI r0))]) X dX2_amountInTrees_63 rfl (nI_add l9 1) (by rw [hnL]; decide) rfl ?_
      refine kv_goto (tgt := 5) X dX2_amountInTrees_66 (by decide) ?_
      exact kv_lv [0, 1, 3, 4] rfl (ih5 (l9 + 1) (by omega) ())
  exact kv_lv [0, 1, 2, 3] rfl (L5 nL 0 (by omega) ())
theorem f_X2_amountsAgree_39 : kF wsX2_amountsAgree RX2 39 5 0 := ⟨_, RX2, TX2, 9, fun _ h => (List.mem_cons_of_mem _ (List.mem_append_left _ (List.mem_append_left _ (List.mem_append_left _ (List.mem_append_left _ (List.mem_append_left _ (List.mem_append_left _ (List.mem_append_left _ (List.mem_append_right _ h))))))))), (List.mem_cons_of_mem _ (List.mem_append_left _ (List.mem_append_left _ (List.mem_append_left _ (List.mem_append_left _ (List.mem_append_left _ (List.mem_append_left _ (List.mem_append_left _ (List.mem_append_left _ (List.mem_append_left _ (List.mem_of_getElem? (i := 0) rfl))))))))))), rfl, by decide, rfl⟩
theorem f_X2_amountsAgree_59 : kF wsX2_amountsAgree RX2 59 9 0 := ⟨_, RX6, TX6, 7, fun _ h => (List.mem_cons_of_mem _ (List.mem_append_left _ (List.mem_append_left _ (List.mem_append_left _ (List.mem_append_left _ (List.mem_append_left _ (List.mem_append_left _ (List.mem_append_right _ h)))))))), (List.mem_cons_of_mem _ (List.mem_append_left _ (List.mem_append_left _ (List.mem_append_left _ (List.mem_append_left _ (List.mem_append_left _ (List.mem_append_left _ (List.mem_append_left _ (List.mem_append_left _ (List.mem_append_left _ (List.mem_of_getElem? (i := 1) rfl))))))))))), rfl, by decide, rfl⟩
theorem f_X2_amountsAgree_33 : kF wsX2_amountsAgree RX2 33 5 7 := ⟨_, RX2, TX2, 9, fun _ h => (List.mem_cons_of_mem _ (List.mem_append_left _ (List.mem_append_left _ (List.mem_append_left _ (List.mem_append_left _ (List.mem_append_left _ (List.mem_append_left _ (List.mem_append_left _ (List.mem_append_right _ h))))))))), (List.mem_cons_of_mem _ (List.mem_append_left _ (List.mem_append_left _ (List.mem_append_left _ (List.mem_append_left _ (List.mem_append_left _ (List.mem_append_left _ (List.mem_append_left _ (List.mem_append_left _ (List.mem_append_left _ (List.mem_of_getElem? (i := 2) rfl))))))))))), rfl, by decide, rfl⟩
set_option maxRecDepth 100000 in
set_option maxHeartbeats 4000000 in
theorem c_X2_amountsAgree (l : Launch) (dd : kDD) (ks : List Nat) (ad : Nat → Nat) (E : Nat → va_E) (e : eS) (M : mS) (nR nC nt nL nW nV nM : Nat) (cn nm mn me li rl : Nat → Nat) (on : Int32) (hO : cO dd ks ad E on) (hR : cR dd ks ad E M nR) (hC : cC dd ks ad E M nC mn me) (hT : cT dd ks ad E M nt cn nm) (hL : cL dd ks ad E M nL nW li) (hW : cW dd ks ad E M nW rl) (hV : cV dd ks ad E M nV) (hM : cM dd ks ad E M nM) (hB : cB M nR nC nt nL nW nV cn nm mn me li rl) (mi : Nat → Nat) (hmi : ∀ j, j < nt → e.1 17 j = nI (mi j) ∧ mi j < nt) (mr : Nat → Nat) (hmr : ∀ j, j < nR → e.1 18 j = nI (mr j) ∧ mr j < nR) : kCi l yX2_amountsAgree wsX2_amountsAgree ({ frames := 11, cells := 0, slots := 0, locals := 268 } : Room) 0 0 dd [.ref (ad 2)] (ks, ad, (cE dd E e)) (kQi (S := eS) (fun r z => e = z ∧ ((r = 1 ∧ ∀ j, j < nR → e.2 23 j = msumJ (fun l => (mq (M.2.1 19) (M.2.1 20) (nI l) nW).toInt64 * utr (M.2.1 13) (M.2.1 15) (M.2.1 9) cn nm mn mr me (fun k => mi (nm k)) j 3 (mi (li l))) 0 nL) ∨ (r = 0 ∧ ¬ ∀ j, j < nR → e.2 23 j = msumJ (fun l => (mq (M.2.1 19) (M.2.1 20) (nI l) nW).toInt64 * utr (M.2.1 13) (M.2.1 15) (M.2.1 9) cn nm mn mr me (fun k => mi (nm k)) j 3 (mi (li l))) 0 nL))) (fun _ => ks) (fun _ => ad) (fun z => cE dd E z)) := by
  refine kMeti (ws' := _) (cc := cX2_amountsAgree) (maxL := 2) (rt := .boolean) (by decide) rfl (Nat.le_of_ble_eq_true rfl) (fun g X hr hnL hRR hl0 hkn => ?_)
  show kv dd g 0 0 0 [(0, .ref (ad 2))] [] ks ad (cE dd E e)
  have hR12 := hR.1
  refine kv_iconst (v := 0) X dX2_amountsAgree_0 (by decide) ?_
  refine kv_istore_n (lv2 := [(1, .int 0), (0, .ref (ad 2))]) X dX2_amountsAgree_1 rfl (by rw [hnL]; decide) rfl ?_
  have L2 : ∀ (n9 i : Nat), i + n9 = nR → ∀ (_ : Unit) (hag : ∀ j, j < i → e.2 23 j = msumJ (fun l => (mq (M.2.1 19) (M.2.1 20) (nI l) nW).toInt64 * utr (M.2.1 13) (M.2.1 15) (M.2.1 9) cn nm mn mr me (fun k => mi (nm k)) j 3 (mi (li l))) 0 nL), kv dd g 0 0 2 [(1, .int (nI i)), (0, .ref (ad 2))] [] ks ad (cE dd E e) := by
    intro n9
    induction n9 with
    | zero =>
      intro i hin2 _ hag
      refine kv_iload_n X 0 dX2_amountsAgree_2 rfl rfl ?_
      refine kv_aload_n X 1 dX2_amountsAgree_3 rfl rfl ?_
      refine kv_getfield X f_X2_amountsAgree_39 (κ := 2) (fs := [.ref (ad 1), .ref (ad 17), .ref (ad 18), .ref (ad 19), .ref (ad 20), .ref (ad 21), .ref (ad 22), .ref (ad 23), .ref (ad 24)]) (v := .ref (ad 1)) hO.2.2.1.1 ((cE_ne (by omega)).trans hO.2.2.1.2) rfl dX2_amountsAgree_4 ?_
      refine kv_getfield X f_X2_amountsAgree_59 (κ := 1) (fs := [.ref (ad 3), .ref (ad 4), .ref (ad 5), .ref (ad 6), .ref (ad 7), .ref (ad 8), .ref (ad 9)]) (v := .ref (ad 3)) hO.2.1.1 ((cE_ne (by omega)).trans hO.2.1.2) rfl dX2_amountsAgree_7 ?_
      obtain ⟨_, _, o10⟩ := kLs_obj (dd := dd) (ks := ks) (ad := ad) (E := (cE dd E e)) (kLs_cE hR.2.1 (by omega) (by omega) (fun i hi => by omega))
      refine kv_calliV (ci := 2) (κ := 3) (r1 := (TJx4a65c, 3)) (As := []) [.int (nI i)] X (c_Jx4a65c_size_8abf5 l dd ks ad (cE dd E e) (3) (10) (nR) (fun r => 64 + r) 10 (kLs_cE hR.2.1 (by omega) (by omega) (fun i hi => by omega))) hl0 (kCV_of X 0 gX2_amountsAgree_Jx4a65c_size_8abf5 rfl rfl rfl (by decide +kernel) hRR ⟨(Nat.le_of_ble_eq_true rfl), (Nat.le_of_ble_eq_true rfl)⟩) hR.2.1.1 o10 rfl rfl rfl (Nat.le_of_ble_eq_true rfl) hRR ⟨(Nat.le_of_ble_eq_true rfl), (Nat.le_of_ble_eq_true rfl)⟩ dX2_amountsAgree_10 (fun r z hp => ?_)
      obtain rfl := hp
      refine kn_icmp_ge (x := i) (y := nR) (tgt := 39) X (by omega) (by omega) dX2_amountsAgree_13 (by decide) (fun hc13 => ?_) (fun hc13 => absurd hc13 (by omega))
      refine kv_iconst (v := 1) X dX2_amountsAgree_39 (by decide) ?_
      exact kv_zreturn X hr rfl (Nat.le_of_ble_eq_true rfl) (Nat.le_of_ble_eq_true rfl) ⟨e, ⟨rfl, Or.inl ⟨rfl, fun j hj => hag j (by omega)⟩⟩, rfl⟩ dX2_amountsAgree_40
    | succ n9 ih2 =>
      intro i hin2 _ hag
      refine kv_iload_n X 0 dX2_amountsAgree_2 rfl rfl ?_
      refine kv_aload_n X 1 dX2_amountsAgree_3 rfl rfl ?_
      refine kv_getfield X f_X2_amountsAgree_39 (κ := 2) (fs := [.ref (ad 1), .ref (ad 17), .ref (ad 18), .ref (ad 19), .ref (ad 20), .ref (ad 21), .ref (ad 22), .ref (ad 23), .ref (ad 24)]) (v := .ref (ad 1)) hO.2.2.1.1 ((cE_ne (by omega)).trans hO.2.2.1.2) rfl dX2_amountsAgree_4 ?_
      refine kv_getfield X f_X2_amountsAgree_59 (κ := 1) (fs := [.ref (ad 3), .ref (ad 4), .ref (ad 5), .ref (ad 6), .ref (ad 7), .ref (ad 8), .ref (ad 9)]) (v := .ref (ad 3)) hO.2.1.1 ((cE_ne (by omega)).trans hO.2.1.2) rfl dX2_amountsAgree_7 ?_
      obtain ⟨_, _, o10⟩ := kLs_obj (dd := dd) (ks := ks) (ad := ad) (E := (cE dd E e)) (kLs_cE hR.2.1 (by omega) (by omega) (fun i hi => by omega))
      refine kv_calliV (ci := 2) (κ := 3) (r1 := (TJx4a65c, 3)) (As := []) [.int (nI i)] X (c_Jx4a65c_size_8abf5 l dd ks ad (cE dd E e) (3) (10) (nR) (fun r => 64 + r) 10 (kLs_cE hR.2.1 (by omega) (by omega) (fun i hi => by omega))) hl0 (kCV_of X 0 gX2_amountsAgree_Jx4a65c_size_8abf5 rfl rfl rfl (by decide +kernel) hRR ⟨(Nat.le_of_ble_eq_true rfl), (Nat.le_of_ble_eq_true rfl)⟩) hR.2.1.1 o10 rfl rfl rfl (Nat.le_of_ble_eq_true rfl) hRR ⟨(Nat.le_of_ble_eq_true rfl), (Nat.le_of_ble_eq_true rfl)⟩ dX2_amountsAgree_10 (fun r z hp => ?_)
      obtain rfl := hp
      refine kn_icmp_ge (x := i) (y := nR) (tgt := 39) X (by omega) (by omega) dX2_amountsAgree_13 (by decide) (fun hc13 => absurd hc13 (by omega)) (fun hc13 => ?_)
      refine kv_aload_n X 1 dX2_amountsAgree_16 rfl rfl ?_
      refine kv_getfield X f_X2_amountsAgree_33 (κ := 2) (fs := [.ref (ad 1), .ref (ad 17), .ref (ad 18), .ref (ad 19), .ref (ad 20), .ref (ad 21), .ref (ad 22), .ref (ad 23), .ref (ad 24)]) (v := .ref (ad 23)) hO.2.2.1.1 ((cE_ne (by omega)).trans hO.2.2.1.2) rfl dX2_amountsAgree_17 ?_
      refine kv_iload_n X 0 dX2_amountsAgree_20 rfl rfl ?_
      refine ke_lald X (23) (j := i) (hO.2.2.2.1 _ (by omega) (by omega)) (by omega) (by unfold eLen; split <;> omega) dX2_amountsAgree_21 ?_
      refine kv_aload_n X 1 dX2_amountsAgree_22 rfl rfl ?_
      refine kv_iload_n X 0 dX2_amountsAgree_23 rfl rfl ?_
      refine kv_calllV (ci := 5) (κ := 2) (r1 := (TX2, 9)) (As := [.int (nI i)]) [.long ((e.2 23) i)] X (c_X2_amountInTrees l dd ks ad E e M nR nC nt nL nW nV nM cn nm mn me li rl on hO hR hC hT hL hW hV hM hB i (by omega) mi hmi mr hmr) hl0 (kCV_of X 1 gX2_amountsAgree_X2_amountInTrees rfl rfl rfl (by decide +kernel) hRR ⟨(Nat.le_of_ble_eq_true rfl), (Nat.le_of_ble_eq_true rfl)⟩) hO.2.2.1.1 ((cE_ne (by omega)).trans hO.2.2.1.2) rfl rfl rfl (Nat.le_of_ble_eq_true rfl) hRR ⟨(Nat.le_of_ble_eq_true rfl), (Nat.le_of_ble_eq_true rfl)⟩ dX2_amountsAgree_24 (fun r z hp => ?_)
      obtain ⟨rfl, rfl⟩ := hp
      refine kv_lcmp X dX2_amountsAgree_27 ?_
      refine kv_if_eq (tgt := 33) X dX2_amountsAgree_28 (by decide) (fun hc28 => ?_) (fun hc28 => ?_)
      ·
        refine kv_iinc (j := 0) (v := (nI (i + 1))) (lv2 := [(1, .int (nI (i + 1))), (0, .ref (ad 2))]) X dX2_amountsAgree_33 rfl (nI_add i 1) (by rw [hnL]; decide) rfl ?_
        refine kv_goto (tgt := 2) X dX2_amountsAgree_36 (by decide) ?_
        exact kv_lv [0, 1] rfl (ih2 (i + 1) (by omega) () (fun j hj => (Nat.lt_succ_iff_lt_or_eq.mp hj).elim (hag j) (fun q => by rw [q]; exact (lg_cmp_eq _ _).mp hc28)))
      ·
        refine kv_iconst (v := 0) X dX2_amountsAgree_31 (by decide) ?_
        exact kv_zreturn X hr rfl (Nat.le_of_ble_eq_true rfl) (Nat.le_of_ble_eq_true rfl) ⟨e, ⟨rfl, Or.inr ⟨rfl, fun q => hc28 ((lg_cmp_eq _ _).mpr (q i (by omega)))⟩⟩, rfl⟩ dX2_amountsAgree_32
  exact kv_lv [0, 1] rfl (L2 nR 0 (by omega) () (fun j hj => absurd hj (by omega)))

set_option maxRecDepth 100000 in
set_option maxHeartbeats 4000000 in
theorem c_X2_workOutCosts (l : Launch) (dd : kDD) (ks : List Nat) (ad : Nat → Nat) (E : Nat → va_E) (e : eS) (M : mS) (nR nC nt nL nW nV nM : Nat) (cn nm mn me li rl : Nat → Nat) (on : Int32) (hO : cO dd ks ad E on) (hR : cR dd ks ad E M nR) (hC : cC dd ks ad E M nC mn me) (hT : cT dd ks ad E M nt cn nm) (hL : cL dd ks ad E M nL nW li) (hW : cW dd ks ad E M nW rl) (hV : cV dd ks ad E M nV) (hM : cM dd ks ad E M nM) (hB : cB M nR nC nt nL nW nV cn nm mn me li rl) (mi : Nat → Nat) (hmi : ∀ j, j < nt → e.1 17 j = nI (mi j) ∧ mi j < nt) (mr : Nat → Nat) (hmr : ∀ j, j < nR → e.1 18 j = nI (mr j) ∧ mr j < nR) (dep : Nat → Nat) (hde : ∀ i, i < nt → e.1 19 i = nI (dep i)) (hdp : kDp (M.2.1 13) cn (fun k => mi (nm k)) dep nt) (hpk : ∀ r, r < nR → 1 ≤ M.2.1 5 r) : kCv l yX2_workOutCosts wsX2_workOutCosts ({ frames := 7, cells := 0, slots := 0, locals := 161 } : Room) 0 0 dd [.ref (ad 2)] (ks, ad, (cE dd E e)) (kQv (S := eS) (fun z => cWk M nR nt nL nW nM cn nm mn me li mi mr e z) (fun _ => ks) (fun _ => ad) (fun z => cE dd E z)) := by
  refine kMetv (ws' := _) (cc := cX2_workOutCosts) (maxL := 1) (by decide) rfl (Nat.le_of_ble_eq_true rfl) (fun g X hr hnL hRR hl0 hkn => ?_)
  show kv dd g 0 0 0 [(0, .ref (ad 2))] [] ks ad (cE dd E e)
  refine kv_aload_n X 0 dX2_workOutCosts_0 rfl rfl ?_
  refine kv_callvV (ci := 5) (κ := 2) (r1 := (TX2, 9)) (As := []) [] X (c_X2_findOwnNeeds l dd ks ad E e M nR nC nt nL nW nV nM cn nm mn me li rl on hO hR hC hT hL hW hV hM hB mr hmr) hl0 (kCV_of X 0 gX2_workOutCosts_X2_findOwnNeeds rfl rfl rfl (by decide +kernel) hRR ⟨(Nat.le_of_ble_eq_true rfl), (Nat.le_of_ble_eq_true rfl)⟩) hO.2.2.1.1 ((cE_ne (by omega)).trans hO.2.2.1.2) rfl rfl rfl (Nat.le_of_ble_eq_true rfl) hRR ⟨(Nat.le_of_ble_eq_true rfl), (Nat.le_of_ble_eq_true rfl)⟩ dX2_workOutCosts_1 (fun z hp => ?_)
  obtain rfl := hp
  refine kv_aload_n X 0 dX2_workOutCosts_4 rfl rfl ?_
  refine kv_callvV (ci := 5) (κ := 2) (r1 := (TX2, 9)) (As := []) [] X (c_X2_findNeeds l dd ks ad E (e.1, crow e.2 25 (fun i => cow (M.2.1 13) (M.2.1 15) (M.2.1 9) nm mn mr me (4 * i) (mset (e.2 (25 + i)) (fun _ => 0) 12) (cn i)) nt) M nR nC nt nL nW nV nM cn nm mn me li rl on hO hR hC hT hL hW hV hM hB mi hmi dep hde hdp) hl0 (kCV_of X 0 gX2_workOutCosts_X2_findNeeds rfl rfl rfl (by decide +kernel) hRR ⟨(Nat.le_of_ble_eq_true rfl), (Nat.le_of_ble_eq_true rfl)⟩) hO.2.2.1.1 ((cE_ne (by omega)).trans hO.2.2.1.2) rfl rfl rfl (Nat.le_of_ble_eq_true rfl) hRR ⟨(Nat.le_of_ble_eq_true rfl), (Nat.le_of_ble_eq_true rfl)⟩ dX2_workOutCosts_5 (fun z1 hp => ?_)
  have h1 := hp
  refine kv_aload_n X 0 dX2_workOutCosts_8 rfl rfl ?_
  refine kv_callvV (ci := 5) (κ := 2) (r1 := (TX2, 9)) (As := []) [] X (c_X2_findItemUnits l dd ks ad E z1 M nR nC nt nL nW nV nM cn nm mn me li rl on hO hR hC hT hL hW hV hM hB mi (fun j hj => by rw [h1.1]; exact hmi j hj) dep (fun i hi => by rw [h1.1]; exact hde i hi) hdp) hl0 (kCV_of X 0 gX2_workOutCosts_X2_findItemUnits rfl rfl rfl (by decide +kernel) hRR ⟨(Nat.le_of_ble_eq_true rfl), (Nat.le_of_ble_eq_true rfl)⟩) hO.2.2.1.1 ((cE_ne (by omega)).trans hO.2.2.1.2) rfl rfl rfl (Nat.le_of_ble_eq_true rfl) hRR ⟨(Nat.le_of_ble_eq_true rfl), (Nat.le_of_ble_eq_true rfl)⟩ dX2_workOutCosts_9 (fun z2 hp => ?_)
  have h2 := hp
  refine kv_aload_n X 0 dX2_workOutCosts_12 rfl rfl ?_
  refine kv_callvV (ci := 5) (κ := 2) (r1 := (TX2, 9)) (As := []) [] X (c_X2_findAmounts l dd ks ad E z2 M nR nC nt nL nW nV nM cn nm mn me li rl on hO hR hC hT hL hW hV hM hB mi (fun j hj => by rw [h2.1, h1.1]; exact hmi j hj)) hl0 (kCV_of X 0 gX2_workOutCosts_X2_findAmounts rfl rfl rfl (by decide +kernel) hRR ⟨(Nat.le_of_ble_eq_true rfl), (Nat.le_of_ble_eq_true rfl)⟩) hO.2.2.1.1 ((cE_ne (by omega)).trans hO.2.2.1.2) rfl rfl rfl (Nat.le_of_ble_eq_true rfl) hRR ⟨(Nat.le_of_ble_eq_true rfl), (Nat.le_of_ble_eq_true rfl)⟩ dX2_workOutCosts_13 (fun z hp => ?_)
  obtain rfl := hp
  refine kv_aload_n X 0 dX2_workOutCosts_16 rfl rfl ?_
  refine kv_callvV (ci := 5) (κ := 2) (r1 := (TX2, 9)) (As := []) [] X (c_X2_findSurcharges l dd ks ad E (z2.1, (va_up z2.2 23 (cam mi li (fun l => mq (M.2.1 19) (M.2.1 20) (nI l) nW) z2.2 (mset (z2.2 23) (fun _ => 0) 12) nL))) M nR nC nt nL nW nV nM cn nm mn me li rl on hO hR hC hT hL hW hV hM hB hpk) hl0 (kCV_of X 0 gX2_workOutCosts_X2_findSurcharges rfl rfl rfl (by decide +kernel) hRR ⟨(Nat.le_of_ble_eq_true rfl), (Nat.le_of_ble_eq_true rfl)⟩) hO.2.2.1.1 ((cE_ne (by omega)).trans hO.2.2.1.2) rfl rfl rfl (Nat.le_of_ble_eq_true rfl) hRR ⟨(Nat.le_of_ble_eq_true rfl), (Nat.le_of_ble_eq_true rfl)⟩ dX2_workOutCosts_17 (fun z hp => ?_)
  obtain rfl := hp
  exact kv_return X hr (Nat.le_of_ble_eq_true rfl) (Nat.le_of_ble_eq_true rfl) ⟨_, work_end hT.1 hdp (fun l hl => (hmi _ (hB.2.2.1 l hl)).2) h1 h2, rfl⟩ dX2_workOutCosts_20

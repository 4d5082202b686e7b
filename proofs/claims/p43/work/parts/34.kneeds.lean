/-! the estimate: needs -/
/-- needs of an item: n components added to f1; e2: the rows, needs from row 37 on -/
def cns (so mu : Nat → Int32) (nx : Nat → Nat) (e2 : Nat → Nat → Int64) (b : Nat) (f1 : Nat → Int64) : Nat → Nat → Int64
  | 0 => f1
  | n + 1 => if so (b + n) = 0 then cat (cns so mu nx e2 b f1 n) (e2 (37 + nx (b + n))) (mu (b + n)).toInt64 else cns so mu nx e2 b f1 n
theorem cns_eq {so mu : Nat → Int32} {nx : Nat → Nat} {e2 : Nat → Nat → Int64} {b : Nat} {f1 : Nat → Int64} {r : Nat} (hr : r < 12) : ∀ n, cns so mu nx e2 b f1 n r = mstep so mu nx (fun p => e2 (37 + p) r) (f1 r) b n := by
  intro n
  induction n with
  | zero => rfl
  | succ n ih =>
    rw [cns, mstep]
    by_cases c : so (b + n) = 0
    · rw [if_pos c, if_pos c]
      show mset _ _ 12 r = _
      rw [mset_in hr]
      show cns so mu nx e2 b f1 n r + _ = _
      rw [ih]
      grind
    · rw [if_neg c, if_neg c, ih]
      grind
theorem mstep_congr {so mu : Nat → Int32} {nx : Nat → Nat} {f g : Nat → Int64} {s0 : Int64} {b : Nat} : ∀ n, (∀ k, k < n → so (b + k) = 0 → f (nx (b + k)) = g (nx (b + k))) → mstep so mu nx f s0 b n = mstep so mu nx g s0 b n := by
  intro n
  induction n with
  | zero => intro _; rfl
  | succ n ih =>
    intro h
    rw [mstep, mstep, ih (fun k hk => h k (by omega))]
    by_cases c : so (b + n) = 0
    · rw [if_pos c, if_pos c, h n (by omega) c]
    · rw [if_neg c, if_neg c]
/-- depths by which parts are less deep than what they are parts of -/
def kDp (so : Nat → Int32) (cn nx dep : Nat → Nat) (nt : Nat) : Prop := ∀ i, i < nt → (1 ≤ dep i ∧ dep i ≤ 3) ∧ ∀ k, k < cn i → so (4 * i + k) = 0 → nx (4 * i + k) < nt ∧ dep (nx (4 * i + k)) < dep i
theorem mN_fix {so mu : Nat → Int32} {cn nx dep : Nat → Nat} {nt : Nat} {dir : Nat → Int64} (h : kDp so cn nx dep nt) : ∀ t i, i < nt → dep i ≤ t + 1 → mN so mu cn nx dir (t + 1) i = mN so mu cn nx dir t i := by
  intro t
  induction t with
  | zero =>
    intro i hi hd
    show mstep so mu nx _ (dir i) (4 * i) (cn i) = dir i
    rw [mstep_congr (f := mN so mu cn nx dir 0) (g := fun _ => 0) (cn i) (fun k hk hs => by have := (h i hi).2 k hk hs; have := (h _ this.1).1; omega)]
    have : ∀ n, mstep so mu nx (fun _ => 0) (dir i) (4 * i) n = dir i := by
      intro n
      induction n with
      | zero => rfl
      | succ n ih => rw [mstep, ih]; split <;> grind
    exact this _
  | succ t ih =>
    intro i hi hd
    show mstep so mu nx _ (dir i) (4 * i) (cn i) = mstep so mu nx _ (dir i) (4 * i) (cn i)
    exact mstep_congr (cn i) (fun k hk hs => by have q := (h i hi).2 k hk hs; exact ih _ q.1 (by omega))
theorem mN_rec {so mu : Nat → Int32} {cn nx dep : Nat → Nat} {nt : Nat} {dir : Nat → Int64} (h : kDp so cn nx dep nt) {i : Nat} (hi : i < nt) : mN so mu cn nx dir 2 i = mstep so mu nx (mN so mu cn nx dir 2) (dir i) (4 * i) (cn i) := (mN_fix h 2 i hi (h i hi).1.2).symm
/-- the needs of one item are right when those of its parts are -/
theorem needs_step {so mu : Nat → Int32} {cn nx dep : Nat → Nat} {nt : Nat} (h : kDp so cn nx dep nt) {e2 z2 : Nat → Nat → Int64} {f0 : Nat → Int64} {i : Nat} (hi : i < nt) (ho : ∀ r, r < 12 → z2 (25 + i) r = e2 (25 + i) r) (hp : ∀ j, j < nt → dep j < dep i → ∀ r, r < 12 → z2 (37 + j) r = mN so mu cn nx (fun j => e2 (25 + j) r) 2 j) : ∀ r, r < 12 → cns so mu nx z2 (4 * i) (cat (mset f0 (fun _ => 0) 12) (z2 (25 + i)) 1) (cn i) r = mN so mu cn nx (fun j => e2 (25 + j) r) 2 i := by
  intro r hr
  rw [cns_eq hr, mN_rec h hi]
  have e1 : cat (mset f0 (fun _ => 0) 12) (z2 (25 + i)) 1 r = e2 (25 + i) r := by
    show mset _ _ 12 r = _
    rw [mset_in hr]
    show mset _ _ 12 r + _ = _
    rw [mset_in hr, ho r hr]
    grind
  rw [e1]
  exact mstep_congr (cn i) (fun k hk hs => by have q := (h i hi).2 k hk hs; exact hp _ q.1 q.2 r hr)

theorem f_X2_findNeedsOf_26 : kF wsX2_findNeedsOf RX2 26 5 5 := ⟨_, RX2, TX2, 9, fun _ h => (List.mem_cons_of_mem _ (List.mem_append_left _ (List.mem_append_left _ (List.mem_append_left _ (List.mem_append_left _ (List.mem_append_left _ (List.mem_append_right _ h))))))), (List.mem_cons_of_mem _ (List.mem_append_left _ (List.mem_append_left _ (List.mem_append_left _ (List.mem_append_left _ (List.mem_append_left _ (List.mem_append_left _ (List.mem_append_left _ (List.mem_of_getElem? (i := 0) rfl))))))))), rfl, by decide, rfl⟩
theorem f_X2_findNeedsOf_23 : kF wsX2_findNeedsOf RX2 23 5 4 := ⟨_, RX2, TX2, 9, fun _ h => (List.mem_cons_of_mem _ (List.mem_append_left _ (List.mem_append_left _ (List.mem_append_left _ (List.mem_append_left _ (List.mem_append_left _ (List.mem_append_right _ h))))))), (List.mem_cons_of_mem _ (List.mem_append_left _ (List.mem_append_left _ (List.mem_append_left _ (List.mem_append_left _ (List.mem_append_left _ (List.mem_append_left _ (List.mem_append_left _ (List.mem_of_getElem? (i := 1) rfl))))))))), rfl, by decide, rfl⟩
theorem f_X2_findNeedsOf_39 : kF wsX2_findNeedsOf RX2 39 5 0 := ⟨_, RX2, TX2, 9, fun _ h => (List.mem_cons_of_mem _ (List.mem_append_left _ (List.mem_append_left _ (List.mem_append_left _ (List.mem_append_left _ (List.mem_append_left _ (List.mem_append_right _ h))))))), (List.mem_cons_of_mem _ (List.mem_append_left _ (List.mem_append_left _ (List.mem_append_left _ (List.mem_append_left _ (List.mem_append_left _ (List.mem_append_left _ (List.mem_append_left _ (List.mem_of_getElem? (i := 2) rfl))))))))), rfl, by decide, rfl⟩
theorem f_X2_findNeedsOf_43 : kF wsX2_findNeedsOf RX2 43 9 2 := ⟨_, RX6, TX6, 7, fun _ h => (List.mem_cons_of_mem _ (List.mem_append_left _ (List.mem_append_left _ (List.mem_append_left _ (List.mem_append_left _ (List.mem_append_right _ h)))))), (List.mem_cons_of_mem _ (List.mem_append_left _ (List.mem_append_left _ (List.mem_append_left _ (List.mem_append_left _ (List.mem_append_left _ (List.mem_append_left _ (List.mem_append_left _ (List.mem_of_getElem? (i := 3) rfl))))))))), rfl, by decide, rfl⟩
theorem f_X2_findNeedsOf_100 : kF wsX2_findNeedsOf RX2 100 6 1 := ⟨_, RX3, TX3, 2, fun _ h => (List.mem_cons_of_mem _ (List.mem_append_left _ (List.mem_append_left _ (List.mem_append_left _ (List.mem_append_right _ h))))), (List.mem_cons_of_mem _ (List.mem_append_left _ (List.mem_append_left _ (List.mem_append_left _ (List.mem_append_left _ (List.mem_append_left _ (List.mem_append_left _ (List.mem_append_left _ (List.mem_of_getElem? (i := 5) rfl))))))))), rfl, by decide, rfl⟩
theorem f_X2_findNeedsOf_105 : kF wsX2_findNeedsOf RX2 105 3 0 := ⟨_, RX0, TX0, 3, fun _ h => (List.mem_cons_of_mem _ (List.mem_append_left _ (List.mem_append_left _ (List.mem_append_right _ h)))), (List.mem_cons_of_mem _ (List.mem_append_left _ (List.mem_append_left _ (List.mem_append_left _ (List.mem_append_left _ (List.mem_append_left _ (List.mem_append_left _ (List.mem_append_left _ (List.mem_of_getElem? (i := 7) rfl))))))))), rfl, by decide, rfl⟩
theorem f_X2_findNeedsOf_9 : kF wsX2_findNeedsOf RX2 9 5 1 := ⟨_, RX2, TX2, 9, fun _ h => (List.mem_cons_of_mem _ (List.mem_append_left _ (List.mem_append_left _ (List.mem_append_left _ (List.mem_append_left _ (List.mem_append_left _ (List.mem_append_right _ h))))))), (List.mem_cons_of_mem _ (List.mem_append_left _ (List.mem_append_left _ (List.mem_append_left _ (List.mem_append_left _ (List.mem_append_left _ (List.mem_append_left _ (List.mem_append_left _ (List.mem_of_getElem? (i := 8) rfl))))))))), rfl, by decide, rfl⟩
theorem f_X2_findNeedsOf_109 : kF wsX2_findNeedsOf RX2 109 3 1 := ⟨_, RX0, TX0, 3, fun _ h => (List.mem_cons_of_mem _ (List.mem_append_left _ (List.mem_append_left _ (List.mem_append_right _ h)))), (List.mem_cons_of_mem _ (List.mem_append_left _ (List.mem_append_left _ (List.mem_append_left _ (List.mem_append_left _ (List.mem_append_left _ (List.mem_append_left _ (List.mem_append_left _ (List.mem_of_getElem? (i := 9) rfl))))))))), rfl, by decide, rfl⟩
theorem f_X2_findNeedsOf_139 : kF wsX2_findNeedsOf RX2 139 3 2 := ⟨_, RX0, TX0, 3, fun _ h => (List.mem_cons_of_mem _ (List.mem_append_left _ (List.mem_append_left _ (List.mem_append_right _ h)))), (List.mem_cons_of_mem _ (List.mem_append_left _ (List.mem_append_left _ (List.mem_append_left _ (List.mem_append_left _ (List.mem_append_left _ (List.mem_append_left _ (List.mem_append_left _ (List.mem_of_getElem? (i := 10) rfl))))))))), rfl, by decide, rfl⟩
set_option maxRecDepth 100000 in
set_option maxHeartbeats 4000000 in
theorem c_X2_findNeedsOf (l : Launch) (dd : kDD) (ks : List Nat) (ad : Nat → Nat) (E : Nat → va_E) (e : eS) (M : mS) (nR nC nt nL nW nV nM : Nat) (cn nm mn me li rl : Nat → Nat) (on : Int32) (hO : cO dd ks ad E on) (hR : cR dd ks ad E M nR) (hC : cC dd ks ad E M nC mn me) (hT : cT dd ks ad E M nt cn nm) (hL : cL dd ks ad E M nL nW li) (hW : cW dd ks ad E M nW rl) (hV : cV dd ks ad E M nV) (hM : cM dd ks ad E M nM) (hB : cB M nR nC nt nL nW nV cn nm mn me li rl) (i : Nat) (hi : i < nt) (mi : Nat → Nat) (hmi : ∀ j, j < nt → e.1 17 j = nI (mi j) ∧ mi j < nt) (hni : ∀ k, k < cn i → M.2.1 13 (4 * i + k) = 0 → mi (nm (4 * i + k)) ≠ i) : kCv l yX2_findNeedsOf wsX2_findNeedsOf ({ frames := 3, cells := 0, slots := 0, locals := 64 } : Room) 0 0 dd [.ref (ad 2), .int (nI i)] (ks, ad, (cE dd E e)) (kQv (S := eS) (fun z => (e.1, va_up e.2 (37 + i) (cns (M.2.1 13) (M.2.1 15) (fun k => mi (nm k)) e.2 (4 * i) (cat (mset (e.2 (37 + i)) (fun _ => 0) 12) (e.2 (25 + i)) 1) (cn i))) = z) (fun _ => ks) (fun _ => ad) (fun z => cE dd E z)) := by
  refine kMetv (ws' := _) (cc := cX2_findNeedsOf) (maxL := 5) (by decide) rfl (Nat.le_of_ble_eq_true rfl) (fun g X hr hnL hRR hl0 hkn => ?_)
  show kv dd g 0 0 0 [(0, .ref (ad 2)), (1, .int (nI i))] [] ks ad (cE dd E e)
  obtain ⟨f20, f21, hf20, hf21, hff⟩ := hO.2.2.2.2
  have hT12 := hT.1
  have hcn4 := (hT.2.2 i hi).2.2.1
  refine kv_aload_n X 0 dX2_findNeedsOf_0 rfl rfl ?_
  refine kv_getfield X f_X2_findNeedsOf_26 (κ := 2) (fs := [.ref (ad 1), .ref (ad 17), .ref (ad 18), .ref (ad 19), .ref (ad 20), .ref (ad 21), .ref (ad 22), .ref (ad 23), .ref (ad 24)]) (v := .ref (ad 21)) hO.2.2.1.1 ((cE_ne (by omega)).trans hO.2.2.1.2) rfl dX2_findNeedsOf_1 ?_
  refine kv_iload_n X 1 dX2_findNeedsOf_4 rfl rfl ?_
  refine kv_aaloadJ X (κ := 21) (n := 12) (j := i) (f := f21) (hO.2.2.2.1 _ (by omega) (by omega)) ((cE_ne (by omega)).trans hf21) (by omega) (by omega) dX2_findNeedsOf_5 ?_
  refine kv_topg (.ref (ad (37 + i))) (by rw [(hff i (by omega)).2]; rfl) ?_
  refine kv_lconst (v := 0) X dX2_findNeedsOf_6 (by decide) ?_
  refine kv_callvS (As := [.ref (ad (37 + i)), .long 0]) [] X (c_J7_fill_d0a16 l dd ks ad (cE dd E e) (37 + i) 12 (e.2 (37 + i)) 0 (hO.2.2.2.1 _ (by omega) (by omega)) (cE_J12 (by omega)) (by omega)) hl0 (kCS_of X 2 gX2_findNeedsOf_J7_fill_d0a16 rfl rfl rfl (by decide +kernel) hRR ⟨(Nat.le_of_ble_eq_true rfl), (Nat.le_of_ble_eq_true rfl)⟩) rfl rfl (Nat.le_of_ble_eq_true rfl) hRR ⟨(Nat.le_of_ble_eq_true rfl), (Nat.le_of_ble_eq_true rfl)⟩ dX2_findNeedsOf_7 (fun z hp => ?_)
  refine kv_E (fun j _ => cE_up12 (k := 37 + i) (by omega) _ j) ?_
  refine kv_aload_n X 0 dX2_findNeedsOf_10 rfl rfl ?_
  refine kv_getfield X f_X2_findNeedsOf_26 (κ := 2) (fs := [.ref (ad 1), .ref (ad 17), .ref (ad 18), .ref (ad 19), .ref (ad 20), .ref (ad 21), .ref (ad 22), .ref (ad 23), .ref (ad 24)]) (v := .ref (ad 21)) hO.2.2.1.1 ((cE_ne (by omega)).trans hO.2.2.1.2) rfl dX2_findNeedsOf_11 ?_
  refine kv_iload_n X 1 dX2_findNeedsOf_14 rfl rfl ?_
  refine kv_aaloadJ X (κ := 21) (n := 12) (j := i) (f := f21) (hO.2.2.2.1 _ (by omega) (by omega)) ((cE_ne (by omega)).trans hf21) (by omega) (by omega) dX2_findNeedsOf_15 ?_
  refine kv_topg (.ref (ad (37 + i))) (by rw [(hff i (by omega)).2]; rfl) ?_
  refine kv_aload_n X 0 dX2_findNeedsOf_16 rfl rfl ?_
  refine kv_getfield X f_X2_findNeedsOf_23 (κ := 2) (fs := [.ref (ad 1), .ref (ad 17), .ref (ad 18), .ref (ad 19), .ref (ad 20), .ref (ad 21), .ref (ad 22), .ref (ad 23), .ref (ad 24)]) (v := .ref (ad 20)) hO.2.2.1.1 ((cE_ne (by omega)).trans hO.2.2.1.2) rfl dX2_findNeedsOf_17 ?_
  refine kv_iload_n X 1 dX2_findNeedsOf_20 rfl rfl ?_
  refine kv_aaloadJ X (κ := 20) (n := 12) (j := i) (f := f20) (hO.2.2.2.1 _ (by omega) (by omega)) ((cE_ne (by omega)).trans hf20) (by omega) (by omega) dX2_findNeedsOf_21 ?_
  refine kv_topg (.ref (ad (25 + i))) (by rw [(hff i (by omega)).1]; rfl) ?_
  refine kv_lconst (v := 1) X dX2_findNeedsOf_22 (by decide) ?_
  refine kv_callvS (As := [.ref (ad (37 + i)), .ref (ad (25 + i)), .long 1]) [] X (c_X2_addTimes l dd ks ad (cE dd E (e.1, (va_up e.2 (37 + i) (mset (e.2 (37 + i)) (fun _ => 0) 12)))) (37 + i) (25 + i) ((va_up e.2 (37 + i) (mset (e.2 (37 + i)) (fun _ => 0) 12)) (37 + i)) ((va_up e.2 (37 + i) (mset (e.2 (37 + i)) (fun _ => 0) 12)) (25 + i)) 1 (hO.2.2.2.1 _ (by omega) (by omega)) (cE_J12 (by omega)) (hO.2.2.2.1 _ (by omega) (by omega)) (cE_J12 (by omega)) (by omega)) hl0 (kCS_of X 3 gX2_findNeedsOf_X2_addTimes rfl rfl rfl (by decide +kernel) hRR ⟨(Nat.le_of_ble_eq_true rfl), (Nat.le_of_ble_eq_true rfl)⟩) rfl rfl (Nat.le_of_ble_eq_true rfl) hRR ⟨(Nat.le_of_ble_eq_true rfl), (Nat.le_of_ble_eq_true rfl)⟩ dX2_findNeedsOf_23 (fun z hp => ?_)
  refine kv_E (fun j _ => cE_up12 (k := 37 + i) (by omega) _ j) ?_
  refine kv_e (e.1, (va_up e.2 (37 + i) (cat (mset (e.2 (37 + i)) (fun _ => 0) 12) (e.2 (25 + i)) 1))) (by show (e.1, va_up (va_up e.2 (37 + i) (mset (e.2 (37 + i)) (fun _ => 0) 12)) (37 + i) (cat ((va_up e.2 (37 + i) (mset (e.2 (37 + i)) (fun _ => 0) 12)) (37 + i)) ((va_up e.2 (37 + i) (mset (e.2 (37 + i)) (fun _ => 0) 12)) (25 + i)) 1)) = (e.1, (va_up e.2 (37 + i) (cat (mset (e.2 (37 + i)) (fun _ => 0) 12) (e.2 (25 + i)) 1))); rw [va_up_self, va_up_ne _ _ (by omega), va_up_up]; (try rfl)) ?_
  refine kv_aload_n X 0 dX2_findNeedsOf_26 rfl rfl ?_
  refine kv_getfield X f_X2_findNeedsOf_39 (κ := 2) (fs := [.ref (ad 1), .ref (ad 17), .ref (ad 18), .ref (ad 19), .ref (ad 20), .ref (ad 21), .ref (ad 22), .ref (ad 23), .ref (ad 24)]) (v := .ref (ad 1)) hO.2.2.1.1 ((cE_ne (by omega)).trans hO.2.2.1.2) rfl dX2_findNeedsOf_27 ?_
  refine kv_getfield X f_X2_findNeedsOf_43 (κ := 1) (fs := [.ref (ad 3), .ref (ad 4), .ref (ad 5), .ref (ad 6), .ref (ad 7), .ref (ad 8), .ref (ad 9)]) (v := .ref (ad 5)) hO.2.1.1 ((cE_ne (by omega)).trans hO.2.1.2) rfl dX2_findNeedsOf_30 ?_
  refine kv_iload_n X 1 dX2_findNeedsOf_33 rfl rfl ?_
  obtain ⟨_, _, o34⟩ := kLs_obj (dd := dd) (ks := ks) (ad := ad) (E := (cE dd E (e.1, (va_up e.2 (37 + i) (cat (mset (e.2 (37 + i)) (fun _ => 0) 12) (e.2 (25 + i)) 1))))) (kLs_cE hT.2.1 (by omega) (by omega) (fun i hi => by omega))
  refine kv_callqV (ci := 2) (κ := 5) (r1 := (TJx4a65c, 3)) (As := [.int (nI i)]) [] X (c_Jx4a65c_get_915e3 l dd ks ad (cE dd E (e.1, (va_up e.2 (37 + i) (cat (mset (e.2 (37 + i)) (fun _ => 0) 12) (e.2 (25 + i)) 1)))) (5) (12) (nt) (fun i => 96 + i) 6 (kLs_cE hT.2.1 (by omega) (by omega) (fun i hi => by omega)) i (by omega)) hl0 (kCV_of X 1 gX2_findNeedsOf_Jx4a65c_get_915e3 rfl rfl rfl (by decide +kernel) hRR ⟨(Nat.le_of_ble_eq_true rfl), (Nat.le_of_ble_eq_true rfl)⟩) hT.2.1.1 o34 rfl rfl rfl (Nat.le_of_ble_eq_true rfl) hRR ⟨(Nat.le_of_ble_eq_true rfl), (Nat.le_of_ble_eq_true rfl)⟩ dX2_findNeedsOf_34 (fun r z hp => ?_)
  obtain rfl := hp
  refine kv_topg (.ref (ad (96 + i))) rfl ?_
  refine kv_cast X (κ := 96 + i) (ci := 6) (fs := [.int (M.2.1 11 i), .ref (ad (112 + i))]) (r := (RX3, TX3, 2)) (List.mem_cons_of_mem _ (List.mem_append_left _ (List.mem_append_left _ (List.mem_append_left _ (List.mem_append_left _ (List.mem_append_left _ (List.mem_append_left _ (List.mem_append_left _ (List.mem_of_getElem? (i := 4) rfl))))))))) (hT.2.2 i (by omega)).1 ((cE_ne (by omega)).trans (hT.2.2 i (by omega)).2.1) rfl dX2_findNeedsOf_37 ?_
  refine kv_getfield X f_X2_findNeedsOf_100 (κ := 96 + i) (fs := [.int (M.2.1 11 i), .ref (ad (112 + i))]) (v := .ref (ad (112 + i))) (hT.2.2 i (by omega)).1 ((cE_ne (by omega)).trans (hT.2.2 i (by omega)).2.1) rfl dX2_findNeedsOf_40 ?_
  refine kv_astore_n (lv2 := [(2, .ref (ad (112 + i))), (0, .ref (ad 2)), (1, .int (nI i))]) X dX2_findNeedsOf_43 rfl (by rw [hnL]; decide) rfl ?_
  refine kv_iconst (v := 0) X dX2_findNeedsOf_44 (by decide) ?_
  refine kv_istore_n (lv2 := [(3, .int 0), (2, .ref (ad (112 + i))), (0, .ref (ad 2)), (1, .int (nI i))]) X dX2_findNeedsOf_45 rfl (by rw [hnL]; decide) rfl ?_
  have L46 : ∀ (n9 k : Nat), k + n9 = cn i → ∀ (_ : Unit) , kv dd g 0 0 46 [(3, .int (nI k)), (2, .ref (ad (112 + i))), (0, .ref (ad 2)), (1, .int (nI i))] [] ks ad (cE dd E (e.1, (va_up e.2 (37 + i) (cns (M.2.1 13) (M.2.1 15) (fun k => mi (nm k)) e.2 (4 * i) (cat (mset (e.2 (37 + i)) (fun _ => 0) 12) (e.2 (25 + i)) 1) k)))) := by
    intro n9
    induction n9 with
    | zero =>
      intro k hin46 _ 
      refine kv_iload_n X 0 dX2_findNeedsOf_46 rfl rfl ?_
      refine kv_aload_n X 1 dX2_findNeedsOf_47 rfl rfl ?_
      obtain ⟨_, _, o48⟩ := kLs_obj (dd := dd) (ks := ks) (ad := ad) (E := (cE dd E (e.1, (va_up e.2 (37 + i) (cns (M.2.1 13) (M.2.1 15) (fun k => mi (nm k)) e.2 (4 * i) (cat (mset (e.2 (37 + i)) (fun _ => 0) 12) (e.2 (25 + i)) 1) k))))) (kLs_cE (hT.2.2 i (by omega)).2.2.2.1 (by omega) (by omega) (fun i hi => by omega))
      refine kv_calliV (ci := 2) (κ := 112 + i) (r1 := (TJx4a65c, 3)) (As := []) [.int (nI k)] X (c_Jx4a65c_size_8abf5 l dd ks ad (cE dd E (e.1, (va_up e.2 (37 + i) (cns (M.2.1 13) (M.2.1 15) (fun k => mi (nm k)) e.2 (4 * i) (cat (mset (e.2 (37 + i)) (fun _ => 0) 12) (e.2 (25 + i)) 1) k)))) (112 + i) (128 + i) (cn i) (fun k => 144 + (4 * i + k)) 3 (kLs_cE (hT.2.2 i (by omega)).2.2.2.1 (by omega) (by omega) (fun i hi => by omega))) hl0 (kCV_of X 0 gX2_findNeedsOf_Jx4a65c_size_8abf5 rfl rfl rfl (by decide +kernel) hRR ⟨(Nat.le_of_ble_eq_true rfl), (Nat.le_of_ble_eq_true rfl)⟩) (hT.2.2 i (by omega)).2.2.2.1.1 o48 rfl rfl rfl (Nat.le_of_ble_eq_true rfl) hRR ⟨(Nat.le_of_ble_eq_true rfl), (Nat.le_of_ble_eq_true rfl)⟩ dX2_findNeedsOf_48 (fun r z hp => ?_)
      obtain rfl := hp
      refine kn_icmp_ge (x := k) (y := cn i) (tgt := 108) X (by omega) (by omega) dX2_findNeedsOf_51 (by decide) (fun hc51 => ?_) (fun hc51 => absurd hc51 (by omega))
      exact kv_return X hr (Nat.le_of_ble_eq_true rfl) (Nat.le_of_ble_eq_true rfl) ⟨(e.1, va_up e.2 (37 + i) (cns (M.2.1 13) (M.2.1 15) (fun k => mi (nm k)) e.2 (4 * i) (cat (mset (e.2 (37 + i)) (fun _ => 0) 12) (e.2 (25 + i)) 1) k)), by rw [show k = cn i by omega], rfl⟩ dX2_findNeedsOf_108
    | succ n9 ih46 =>
      intro k hin46 _ 
      refine kv_iload_n X 0 dX2_findNeedsOf_46 rfl rfl ?_
      refine kv_aload_n X 1 dX2_findNeedsOf_47 rfl rfl ?_
      obtain ⟨_, _, o48⟩ := kLs_obj (dd := dd) (ks := ks) (ad := ad) (E := (cE dd E (e.1, (va_up e.2 (37 + i) (cns (M.2.1 13) (M.2.1 15) (fun k => mi (nm k)) e.2 (4 * i) (cat (mset (e.2 (37 + i)) (fun _ => 0) 12) (e.2 (25 + i)) 1) k))))) (kLs_cE (hT.2.2 i (by omega)).2.2.2.1 (by omega) (by omega) (fun i hi => by omega))
      refine kv_calliV (ci := 2) (κ := 112 + i) (r1 := (TJx4a65c, 3)) (As := []) [.int (nI k)] X (c_Jx4a65c_size_8abf5 l dd ks ad (cE dd E (e.1, (va_up e.2 (37 + i) (cns (M.2.1 13) (M.2.1 15) (fun k => mi (nm k)) e.2 (4 * i) (cat (mset (e.2 (37 + i)) (fun _ => 0) 12) (e.2 (25 + i)) 1) k)))) (112 + i) (128 + i) (cn i) (fun k => 144 + (4 * i + k)) 3 (kLs_cE (hT.2.2 i (by omega)).2.2.2.1 (by omega) (by omega) (fun i hi => by omega))) hl0 (kCV_of X 0 gX2_findNeedsOf_Jx4a65c_size_8abf5 rfl rfl rfl (by decide +kernel) hRR ⟨(Nat.le_of_ble_eq_true rfl), (Nat.le_of_ble_eq_true rfl)⟩) (hT.2.2 i (by omega)).2.2.2.1.1 o48 rfl rfl rfl (Nat.le_of_ble_eq_true rfl) hRR ⟨(Nat.le_of_ble_eq_true rfl), (Nat.le_of_ble_eq_true rfl)⟩ dX2_findNeedsOf_48 (fun r z hp => ?_)
      obtain rfl := hp
      refine kn_icmp_ge (x := k) (y := cn i) (tgt := 108) X (by omega) (by omega) dX2_findNeedsOf_51 (by decide) (fun hc51 => absurd hc51 (by omega)) (fun hc51 => ?_)
      refine kv_aload_n X 1 dX2_findNeedsOf_54 rfl rfl ?_
      refine kv_iload_n X 0 dX2_findNeedsOf_55 rfl rfl ?_
      obtain ⟨_, _, o56⟩ := kLs_obj (dd := dd) (ks := ks) (ad := ad) (E := (cE dd E (e.1, (va_up e.2 (37 + i) (cns (M.2.1 13) (M.2.1 15) (fun k => mi (nm k)) e.2 (4 * i) (cat (mset (e.2 (37 + i)) (fun _ => 0) 12) (e.2 (25 + i)) 1) k))))) (kLs_cE (hT.2.2 i (by omega)).2.2.2.1 (by omega) (by omega) (fun i hi => by omega))
      refine kv_callqV (ci := 2) (κ := 112 + i) (r1 := (TJx4a65c, 3)) (As := [.int (nI k)]) [] X (c_Jx4a65c_get_915e3 l dd ks ad (cE dd E (e.1, (va_up e.2 (37 + i) (cns (M.2.1 13) (M.2.1 15) (fun k => mi (nm k)) e.2 (4 * i) (cat (mset (e.2 (37 + i)) (fun _ => 0) 12) (e.2 (25 + i)) 1) k)))) (112 + i) (128 + i) (cn i) (fun k => 144 + (4 * i + k)) 3 (kLs_cE (hT.2.2 i (by omega)).2.2.2.1 (by omega) (by omega) (fun i hi => by omega)) k (by omega)) hl0 (kCV_of X 1 gX2_findNeedsOf_Jx4a65c_get_915e3 rfl rfl rfl (by decide +kernel) hRR ⟨(Nat.le_of_ble_eq_true rfl), (Nat.le_of_ble_eq_true rfl)⟩) (hT.2.2 i (by omega)).2.2.2.1.1 o56 rfl rfl rfl (Nat.le_of_ble_eq_true rfl) hRR ⟨(Nat.le_of_ble_eq_true rfl), (Nat.le_of_ble_eq_true rfl)⟩ dX2_findNeedsOf_56 (fun r z hp => ?_)
      obtain rfl := hp
      refine kv_topg (.ref (ad (144 + (4 * i + k)))) rfl ?_
      refine kv_cast X (κ := 144 + (4 * i + k)) (ci := 3) (fs := [.int (M.2.1 13 (4 * i + k)), .int (nI (nm (4 * i + k))), .int (M.2.1 15 (4 * i + k))]) (r := (RX0, TX0, 3)) (List.mem_cons_of_mem _ (List.mem_append_left _ (List.mem_append_left _ (List.mem_append_left _ (List.mem_append_left _ (List.mem_append_left _ (List.mem_append_left _ (List.mem_append_left _ (List.mem_of_getElem? (i := 6) rfl))))))))) ((hT.2.2 i (by omega)).2.2.2.2 k (by omega)).1 ((cE_ne (by omega)).trans ((hT.2.2 i (by omega)).2.2.2.2 k (by omega)).2) rfl dX2_findNeedsOf_59 ?_
      refine kv_astore (lv2 := [(4, .ref (ad (144 + (4 * i + k)))), (3, .int (nI k)), (2, .ref (ad (112 + i))), (0, .ref (ad 2)), (1, .int (nI i))]) X dX2_findNeedsOf_62 (by rw [hnL]; decide) rfl ?_
      refine kv_aload X 0 dX2_findNeedsOf_64 rfl ?_
      refine kv_getfield X f_X2_findNeedsOf_105 (κ := 144 + (4 * i + k)) (fs := [.int (M.2.1 13 (4 * i + k)), .int (nI (nm (4 * i + k))), .int (M.2.1 15 (4 * i + k))]) (v := .int (M.2.1 13 (4 * i + k))) ((hT.2.2 i (by omega)).2.2.2.2 k (by omega)).1 ((cE_ne (by omega)).trans ((hT.2.2 i (by omega)).2.2.2.2 k (by omega)).2) rfl dX2_findNeedsOf_66 ?_
      refine kv_if_ne (tgt := 102) X dX2_findNeedsOf_69 (by decide) (fun hc69 => ?_) (fun hc69 => ?_)
      ·
        refine kv_e (e.1, (va_up e.2 (37 + i) (cns (M.2.1 13) (M.2.1 15) (fun k => mi (nm k)) e.2 (4 * i) (cat (mset (e.2 (37 + i)) (fun _ => 0) 12) (e.2 (25 + i)) 1) (k + 1)))) (by show (e.1, (va_up e.2 (37 + i) (cns (M.2.1 13) (M.2.1 15) (fun k => mi (nm k)) e.2 (4 * i) (cat (mset (e.2 (37 + i)) (fun _ => 0) 12) (e.2 (25 + i)) 1) k))) = (e.1, (va_up e.2 (37 + i) (cns (M.2.1 13) (M.2.1 15) (fun k => mi (nm k)) e.2 (4 * i) (cat (mset (e.2 (37 + i)) (fun _ => 0) 12) (e.2 (25 + i)) 1) (k + 1)))); rw [cns, if_neg hc69]) ?_
        refine kv_iinc (j := 1) (v := (nI (k + 1))) (lv2 := [(3, .int (nI (k + 1))), (4, .ref (ad (144 + (4 * i + k)))), (2, .ref (ad (112 + i))), (0, .ref (ad 2)), (1, .int (nI i))]) X dX2_findNeedsOf_102 rfl (nI_add k 1) (by rw [hnL]; decide) rfl ?_
        refine kv_goto (tgt := 46) X dX2_findNeedsOf_105 (by decide) ?_
        exact kv_lv [0, 2, 3, 4] rfl (ih46 (k + 1) (by omega) ())
      ·
        have hnt : nm (4 * i + k) < nt := by rcases hB.1 i (by omega) k (by omega) with q | q | q; exact q.2; exact absurd (hc69.symm.trans q.1) (by decide); exact absurd (hc69.symm.trans q.1) (by decide)
        have hmt := (hmi (nm (4 * i + k)) hnt).2
        have hnx := hni k (by omega) hc69
        refine kv_aload_n X 3 dX2_findNeedsOf_72 rfl rfl ?_
        refine kv_getfield X f_X2_findNeedsOf_26 (κ := 2) (fs := [.ref (ad 1), .ref (ad 17), .ref (ad 18), .ref (ad 19), .ref (ad 20), .ref (ad 21), .ref (ad 22), .ref (ad 23), .ref (ad 24)]) (v := .ref (ad 21)) hO.2.2.1.1 ((cE_ne (by omega)).trans hO.2.2.1.2) rfl dX2_findNeedsOf_73 ?_
        refine kv_iload_n X 4 dX2_findNeedsOf_76 rfl rfl ?_
        refine kv_aaloadJ X (κ := 21) (n := 12) (j := i) (f := f21) (hO.2.2.2.1 _ (by omega) (by omega)) ((cE_ne (by omega)).trans hf21) (by omega) (by omega) dX2_findNeedsOf_77 ?_
        refine kv_topg (.ref (ad (37 + i))) (by rw [(hff i (by omega)).2]; rfl) ?_
        refine kv_aload_n X 3 dX2_findNeedsOf_78 rfl rfl ?_
        refine kv_getfield X f_X2_findNeedsOf_26 (κ := 2) (fs := [.ref (ad 1), .ref (ad 17), .ref (ad 18), .ref (ad 19), .ref (ad 20), .ref (ad 21), .ref (ad 22), .ref (ad 23), .ref (ad 24)]) (v := .ref (ad 21)) hO.2.2.1.1 ((cE_ne (by omega)).trans hO.2.2.1.2) rfl dX2_findNeedsOf_79 ?_
        refine kv_aload_n X 3 dX2_findNeedsOf_82 rfl rfl ?_
        refine kv_getfield X f_X2_findNeedsOf_9 (κ := 2) (fs := [.ref (ad 1), .ref (ad 17), .ref (ad 18), .ref (ad 19), .ref (ad 20), .ref (ad 21), .ref (ad 22), .ref (ad 23), .ref (ad 24)]) (v := .ref (ad 17)) hO.2.2.1.1 ((cE_ne (by omega)).trans hO.2.2.1.2) rfl dX2_findNeedsOf_83 ?_
        refine kv_aload X 0 dX2_findNeedsOf_86 rfl ?_
        refine kv_getfield X f_X2_findNeedsOf_109 (κ := 144 + (4 * i + k)) (fs := [.int (M.2.1 13 (4 * i + k)), .int (nI (nm (4 * i + k))), .int (M.2.1 15 (4 * i + k))]) (v := .int (nI (nm (4 * i + k)))) ((hT.2.2 i (by omega)).2.2.2.2 k (by omega)).1 ((cE_ne (by omega)).trans ((hT.2.2 i (by omega)).2.2.2.2 k (by omega)).2) rfl dX2_findNeedsOf_88 ?_
        refine ke_iald X (17) (j := nm (4 * i + k)) (hO.2.2.2.1 _ (by omega) (by omega)) (by omega) (by omega) dX2_findNeedsOf_91 ?_
        refine kv_topi ((e.1 17) (nm (4 * i + k))) rfl ?_
        refine kv_topi (nI (mi (nm (4 * i + k)))) (hmi (nm (4 * i + k)) hnt).1 ?_
        refine kv_aaloadJ X (κ := 21) (n := 12) (j := mi (nm (4 * i + k))) (f := f21) (hO.2.2.2.1 _ (by omega) (by omega)) ((cE_ne (by omega)).trans hf21) (by omega) (by omega) dX2_findNeedsOf_92 ?_
        refine kv_topg (.ref (ad (37 + (mi (nm (4 * i + k)))))) (by rw [(hff (mi (nm (4 * i + k))) (by omega)).2]; rfl) ?_
        refine kv_aload X 0 dX2_findNeedsOf_93 rfl ?_
        refine kv_getfield X f_X2_findNeedsOf_139 (κ := 144 + (4 * i + k)) (fs := [.int (M.2.1 13 (4 * i + k)), .int (nI (nm (4 * i + k))), .int (M.2.1 15 (4 * i + k))]) (v := .int (M.2.1 15 (4 * i + k))) ((hT.2.2 i (by omega)).2.2.2.2 k (by omega)).1 ((cE_ne (by omega)).trans ((hT.2.2 i (by omega)).2.2.2.2 k (by omega)).2) rfl dX2_findNeedsOf_95 ?_
        refine kv_i2l X dX2_findNeedsOf_98 rfl ?_
        refine kv_callvS (As := [.ref (ad (37 + i)), .ref (ad (37 + (mi (nm (4 * i + k))))), .long ((M.2.1 15 (4 * i + k)).toInt64)]) [] X (c_X2_addTimes l dd ks ad (cE dd E (e.1, (va_up e.2 (37 + i) (cns (M.2.1 13) (M.2.1 15) (fun k => mi (nm k)) e.2 (4 * i) (cat (mset (e.2 (37 + i)) (fun _ => 0) 12) (e.2 (25 + i)) 1) k)))) (37 + i) (37 + (mi (nm (4 * i + k)))) ((va_up e.2 (37 + i) (cns (M.2.1 13) (M.2.1 15) (fun k => mi (nm k)) e.2 (4 * i) (cat (mset (e.2 (37 + i)) (fun _ => 0) 12) (e.2 (25 + i)) 1) k)) (37 + i)) ((va_up e.2 (37 + i) (cns (M.2.1 13) (M.2.1 15) (fun k => mi (nm k)) e.2 (4 * i) (cat (mset (e.2 (37 + i)) (fun _ => 0) 12) (e.2 (25 + i)) 1) k)) (37 + (mi (nm (4 * i + k))))) ((M.2.1 15 (4 * i + k)).toInt64) (hO.2.2.2.1 _ (by omega) (by omega)) (cE_J12 (by omega)) (hO.2.2.2.1 _ (by omega) (by omega)) (cE_J12 (by omega)) (by omega)) hl0 (kCS_of X 3 gX2_findNeedsOf_X2_addTimes rfl rfl rfl (by decide +kernel) hRR ⟨(Nat.le_of_ble_eq_true rfl), (Nat.le_of_ble_eq_true rfl)⟩) rfl rfl (Nat.le_of_ble_eq_true rfl) hRR ⟨(Nat.le_of_ble_eq_true rfl), (Nat.le_of_ble_eq_true rfl)⟩ dX2_findNeedsOf_99 (fun z hp => ?_)
        refine kv_E (fun j _ => cE_up12 (k := 37 + i) (by omega) _ j) ?_
        refine kv_e (e.1, (va_up e.2 (37 + i) (cat (cns (M.2.1 13) (M.2.1 15) (fun k => mi (nm k)) e.2 (4 * i) (cat (mset (e.2 (37 + i)) (fun _ => 0) 12) (e.2 (25 + i)) 1) k) (e.2 (37 + (mi (nm (4 * i + k))))) ((M.2.1 15 (4 * i + k)).toInt64)))) (by show (e.1, va_up (va_up e.2 (37 + i) (cns (M.2.1 13) (M.2.1 15) (fun k => mi (nm k)) e.2 (4 * i) (cat (mset (e.2 (37 + i)) (fun _ => 0) 12) (e.2 (25 + i)) 1) k)) (37 + i) (cat ((va_up e.2 (37 + i) (cns (M.2.1 13) (M.2.1 15) (fun k => mi (nm k)) e.2 (4 * i) (cat (mset (e.2 (37 + i)) (fun _ => 0) 12) (e.2 (25 + i)) 1) k)) (37 + i)) ((va_up e.2 (37 + i) (cns (M.2.1 13) (M.2.1 15) (fun k => mi (nm k)) e.2 (4 * i) (cat (mset (e.2 (37 + i)) (fun _ => 0) 12) (e.2 (25 + i)) 1) k)) (37 + (mi (nm (4 * i + k))))) ((M.2.1 15 (4 * i + k)).toInt64))) = (e.1, (va_up e.2 (37 + i) (cat (cns (M.2.1 13) (M.2.1 15) (fun k => mi (nm k)) e.2 (4 * i) (cat (mset (e.2 (37 + i)) (fun _ => 0) 12) (e.2 (25 + i)) 1) k) (e.2 (37 + (mi (nm (4 * i + k))))) ((M.2.1 15 (4 * i + k)).toInt64)))); rw [va_up_self, va_up_ne _ _ (by omega), va_up_up]; (try rfl)) ?_
        refine kv_e (e.1, (va_up e.2 (37 + i) (cns (M.2.1 13) (M.2.1 15) (fun k => mi (nm k)) e.2 (4 * i) (cat (mset (e.2 (37 + i)) (fun _ => 0) 12) (e.2 (25 + i)) 1) (k + 1)))) (by show (e.1, (va_up e.2 (37 + i) (cat (cns (M.2.1 13) (M.2.1 15) (fun k => mi (nm k)) e.2 (4 * i) (cat (mset (e.2 (37 + i)) (fun _ => 0) 12) (e.2 (25 + i)) 1) k) (e.2 (37 + (mi (nm (4 * i + k))))) ((M.2.1 15 (4 * i + k)).toInt64)))) = (e.1, (va_up e.2 (37 + i) (cns (M.2.1 13) (M.2.1 15) (fun k => mi (nm k)) e.2 (4 * i) (cat (mset (e.2 (37 + i)) (fun _ => 0) 12) (e.2 (25 + i)) 1) (k + 1)))); rw [cns, if_pos hc69]) ?_
        refine kv_iinc (j := 1) (v := (nI (k + 1))) (lv2 := [(3, .int (nI (k + 1))), (4, .ref (ad (144 + (4 * i + k)))), (2, .ref (ad (112 + i))), (0, .ref (ad 2)), (1, .int (nI i))]) X dX2_findNeedsOf_102 rfl (nI_add k 1) (by rw [hnL]; decide) rfl ?_
        refine kv_goto (tgt := 46) X dX2_findNeedsOf_105 (by decide) ?_
        exact kv_lv [0, 2, 3, 4] rfl (ih46 (k + 1) (by omega) ())
  exact kv_lv [0, 1, 2, 3] rfl (L46 (cn i) 0 (by omega) ())
theorem f_X2_findNeeds_39 : kF wsX2_findNeeds RX2 39 5 0 := ⟨_, RX2, TX2, 9, fun _ h => (List.mem_cons_of_mem _ (List.mem_append_left _ (List.mem_append_left _ (List.mem_append_left _ (List.mem_append_left _ (List.mem_append_left _ (List.mem_append_right _ h))))))), (List.mem_cons_of_mem _ (List.mem_append_left _ (List.mem_append_left _ (List.mem_append_left _ (List.mem_append_left _ (List.mem_append_left _ (List.mem_append_left _ (List.mem_append_left _ (List.mem_of_getElem? (i := 0) rfl))))))))), rfl, by decide, rfl⟩
theorem f_X2_findNeeds_43 : kF wsX2_findNeeds RX2 43 9 2 := ⟨_, RX6, TX6, 7, fun _ h => (List.mem_cons_of_mem _ (List.mem_append_left _ (List.mem_append_left _ (List.mem_append_left _ (List.mem_append_left _ (List.mem_append_right _ h)))))), (List.mem_cons_of_mem _ (List.mem_append_left _ (List.mem_append_left _ (List.mem_append_left _ (List.mem_append_left _ (List.mem_append_left _ (List.mem_append_left _ (List.mem_append_left _ (List.mem_of_getElem? (i := 1) rfl))))))))), rfl, by decide, rfl⟩
theorem f_X2_findNeeds_18 : kF wsX2_findNeeds RX2 18 5 3 := ⟨_, RX2, TX2, 9, fun _ h => (List.mem_cons_of_mem _ (List.mem_append_left _ (List.mem_append_left _ (List.mem_append_left _ (List.mem_append_left _ (List.mem_append_left _ (List.mem_append_right _ h))))))), (List.mem_cons_of_mem _ (List.mem_append_left _ (List.mem_append_left _ (List.mem_append_left _ (List.mem_append_left _ (List.mem_append_left _ (List.mem_append_left _ (List.mem_append_left _ (List.mem_of_getElem? (i := 2) rfl))))))))), rfl, by decide, rfl⟩
set_option maxRecDepth 100000 in
set_option maxHeartbeats 4000000 in
theorem c_X2_findNeeds (l : Launch) (dd : kDD) (ks : List Nat) (ad : Nat → Nat) (E : Nat → va_E) (e : eS) (M : mS) (nR nC nt nL nW nV nM : Nat) (cn nm mn me li rl : Nat → Nat) (on : Int32) (hO : cO dd ks ad E on) (hR : cR dd ks ad E M nR) (hC : cC dd ks ad E M nC mn me) (hT : cT dd ks ad E M nt cn nm) (hL : cL dd ks ad E M nL nW li) (hW : cW dd ks ad E M nW rl) (hV : cV dd ks ad E M nV) (hM : cM dd ks ad E M nM) (hB : cB M nR nC nt nL nW nV cn nm mn me li rl) (mi : Nat → Nat) (hmi : ∀ j, j < nt → e.1 17 j = nI (mi j) ∧ mi j < nt) (dep : Nat → Nat) (hde : ∀ i, i < nt → e.1 19 i = nI (dep i)) (hdp : kDp (M.2.1 13) cn (fun k => mi (nm k)) dep nt) : kCv l yX2_findNeeds wsX2_findNeeds ({ frames := 4, cells := 0, slots := 0, locals := 88 } : Room) 0 0 dd [.ref (ad 2)] (ks, ad, (cE dd E e)) (kQv (S := eS) (fun z => z.1 = e.1 ∧ (∀ k, k < 37 ∨ 49 ≤ k → z.2 k = e.2 k) ∧ ∀ j, j < nt →  ∀ r, r < 12 → z.2 (37 + j) r = mN (M.2.1 13) (M.2.1 15) cn (fun k => mi (nm k)) (fun j => e.2 (25 + j) r) 2 j) (fun _ => ks) (fun _ => ad) (fun z => cE dd E z)) := by
  refine kMetv (ws' := _) (cc := cX2_findNeeds) (maxL := 3) (by decide) rfl (Nat.le_of_ble_eq_true rfl) (fun g X hr hnL hRR hl0 hkn => ?_)
  show kv dd g 0 0 0 [(0, .ref (ad 2))] [] ks ad (cE dd E e)
  obtain ⟨f20, f21, hf20, hf21, hff⟩ := hO.2.2.2.2
  have hT12 := hT.1
  refine kv_iconst (v := 1) X dX2_findNeeds_0 (by decide) ?_
  refine kv_istore_n (lv2 := [(1, .int 1), (0, .ref (ad 2))]) X dX2_findNeeds_1 rfl (by rw [hnL]; decide) rfl ?_
  have L2 : ∀ (n9 p : Nat), p + n9 = 3 → ∀ (z : eS) (hz : z.1 = e.1 ∧ (∀ k, k < 37 ∨ 49 ≤ k → z.2 k = e.2 k) ∧ ∀ j, j < nt → dep j < p + 1 → ∀ r, r < 12 → z.2 (37 + j) r = mN (M.2.1 13) (M.2.1 15) cn (fun k => mi (nm k)) (fun j => e.2 (25 + j) r) 2 j), kv dd g 0 0 2 [(1, .int (nI (p + 1))), (0, .ref (ad 2))] [] ks ad (cE dd E z) := by
    intro n9
    induction n9 with
    | zero =>
      intro p hin2 z hz
      refine kv_iload_n X 0 dX2_findNeeds_2 rfl rfl ?_
      refine kv_iconst (v := 3) X dX2_findNeeds_3 (by decide) ?_
      refine kn_icmp_gt (x := p + 1) (y := 3) (tgt := 50) X (by omega) (by omega) dX2_findNeeds_4 (by decide) (fun hc4 => ?_) (fun hc4 => absurd hc4 (by omega))
      exact kv_return X hr (Nat.le_of_ble_eq_true rfl) (Nat.le_of_ble_eq_true rfl) ⟨z, ⟨hz.1, hz.2.1, fun j hj => hz.2.2 j hj (by have := (hdp j hj).1.2; omega)⟩, rfl⟩ dX2_findNeeds_50
    | succ n9 ih2 =>
      intro p hin2 z hz
      refine kv_iload_n X 0 dX2_findNeeds_2 rfl rfl ?_
      refine kv_iconst (v := 3) X dX2_findNeeds_3 (by decide) ?_
      refine kn_icmp_gt (x := p + 1) (y := 3) (tgt := 50) X (by omega) (by omega) dX2_findNeeds_4 (by decide) (fun hc4 => absurd hc4 (by omega)) (fun hc4 => ?_)
      refine kv_iconst (v := 0) X dX2_findNeeds_7 (by decide) ?_
      refine kv_istore_n (lv2 := [(2, .int 0), (1, .int (nI (p + 1))), (0, .ref (ad 2))]) X dX2_findNeeds_8 rfl (by rw [hnL]; decide) rfl ?_
      have L9 : ∀ (n8 i : Nat), i + n8 = nt → ∀ (y : eS) (hy : y.1 = e.1 ∧ (∀ k, k < 37 ∨ 49 ≤ k → y.2 k = e.2 k) ∧ ∀ j, j < nt → (dep j < p + 1 ∨ (dep j = p + 1 ∧ j < i)) → ∀ r, r < 12 → y.2 (37 + j) r = mN (M.2.1 13) (M.2.1 15) cn (fun k => mi (nm k)) (fun j => e.2 (25 + j) r) 2 j), kv dd g 0 0 9 [(2, .int (nI i)), (1, .int (nI (p + 1))), (0, .ref (ad 2))] [] ks ad (cE dd E y) := by
        intro n8
        induction n8 with
        | zero =>
          intro i hin9 y hy
          refine kv_iload_n X 0 dX2_findNeeds_9 rfl rfl ?_
          refine kv_aload_n X 2 dX2_findNeeds_10 rfl rfl ?_
          refine kv_getfield X f_X2_findNeeds_39 (κ := 2) (fs := [.ref (ad 1), .ref (ad 17), .ref (ad 18), .ref (ad 19), .ref (ad 20), .ref (ad 21), .ref (ad 22), .ref (ad 23), .ref (ad 24)]) (v := .ref (ad 1)) hO.2.2.1.1 ((cE_ne (by omega)).trans hO.2.2.1.2) rfl dX2_findNeeds_11 ?_
          refine kv_getfield X f_X2_findNeeds_43 (κ := 1) (fs := [.ref (ad 3), .ref (ad 4), .ref (ad 5), .ref (ad 6), .ref (ad 7), .ref (ad 8), .ref (ad 9)]) (v := .ref (ad 5)) hO.2.1.1 ((cE_ne (by omega)).trans hO.2.1.2) rfl dX2_findNeeds_14 ?_
          obtain ⟨_, _, o17⟩ := kLs_obj (dd := dd) (ks := ks) (ad := ad) (E := (cE dd E y)) (kLs_cE hT.2.1 (by omega) (by omega) (fun i hi => by omega))
          refine kv_calliV (ci := 2) (κ := 5) (r1 := (TJx4a65c, 3)) (As := []) [.int (nI i)] X (c_Jx4a65c_size_8abf5 l dd ks ad (cE dd E y) (5) (12) (nt) (fun i => 96 + i) 6 (kLs_cE hT.2.1 (by omega) (by omega) (fun i hi => by omega))) hl0 (kCV_of X 0 gX2_findNeeds_Jx4a65c_size_8abf5 rfl rfl rfl (by decide +kernel) hRR ⟨(Nat.le_of_ble_eq_true rfl), (Nat.le_of_ble_eq_true rfl)⟩) hT.2.1.1 o17 rfl rfl rfl (Nat.le_of_ble_eq_true rfl) hRR ⟨(Nat.le_of_ble_eq_true rfl), (Nat.le_of_ble_eq_true rfl)⟩ dX2_findNeeds_17 (fun r z hp => ?_)
          obtain rfl := hp
          refine kn_icmp_ge (x := i) (y := nt) (tgt := 44) X (by omega) (by omega) dX2_findNeeds_20 (by decide) (fun hc20 => ?_) (fun hc20 => absurd hc20 (by omega))
          refine kv_iinc (j := 1) (v := (nI (p + 1 + 1))) (lv2 := [(1, .int (nI (p + 1 + 1))), (2, .int (nI i)), (0, .ref (ad 2))]) X dX2_findNeeds_44 rfl (nI_add (p + 1) 1) (by rw [hnL]; decide) rfl ?_
          refine kv_goto (tgt := 2) X dX2_findNeeds_47 (by decide) ?_
          exact kv_lv [0, 2] rfl (ih2 (p + 1) (by omega) y ⟨hy.1, hy.2.1, fun j hj q => hy.2.2 j hj (by omega)⟩)
        | succ n8 ih9 =>
          intro i hin9 y hy
          refine kv_iload_n X 0 dX2_findNeeds_9 rfl rfl ?_
          refine kv_aload_n X 2 dX2_findNeeds_10 rfl rfl ?_
          refine kv_getfield X f_X2_findNeeds_39 (κ := 2) (fs := [.ref (ad 1), .ref (ad 17), .ref (ad 18), .ref (ad 19), .ref (ad 20), .ref (ad 21), .ref (ad 22), .ref (ad 23), .ref (ad 24)]) (v := .ref (ad 1)) hO.2.2.1.1 ((cE_ne (by omega)).trans hO.2.2.1.2) rfl dX2_findNeeds_11 ?_
          refine kv_getfield X f_X2_findNeeds_43 (κ := 1) (fs := [.ref (ad 3), .ref (ad 4), .ref (ad 5), .ref (ad 6), .ref (ad 7), .ref (ad 8), .ref (ad 9)]) (v := .ref (ad 5)) hO.2.1.1 ((cE_ne (by omega)).trans hO.2.1.2) rfl dX2_findNeeds_14 ?_
          obtain ⟨_, _, o17⟩ := kLs_obj (dd := dd) (ks := ks) (ad := ad) (E := (cE dd E y)) (kLs_cE hT.2.1 (by omega) (by omega) (fun i hi => by omega))
          refine kv_calliV (ci := 2) (κ := 5) (r1 := (TJx4a65c, 3)) (As := []) [.int (nI i)] X (c_Jx4a65c_size_8abf5 l dd ks ad (cE dd E y) (5) (12) (nt) (fun i => 96 + i) 6 (kLs_cE hT.2.1 (by omega) (by omega) (fun i hi => by omega))) hl0 (kCV_of X 0 gX2_findNeeds_Jx4a65c_size_8abf5 rfl rfl rfl (by decide +kernel) hRR ⟨(Nat.le_of_ble_eq_true rfl), (Nat.le_of_ble_eq_true rfl)⟩) hT.2.1.1 o17 rfl rfl rfl (Nat.le_of_ble_eq_true rfl) hRR ⟨(Nat.le_of_ble_eq_true rfl), (Nat.le_of_ble_eq_true rfl)⟩ dX2_findNeeds_17 (fun r z hp => ?_)
          obtain rfl := hp
          refine kn_icmp_ge (x := i) (y := nt) (tgt := 44) X (by omega) (by omega) dX2_findNeeds_20 (by decide) (fun hc20 => absurd hc20 (by omega)) (fun hc20 => ?_)
          refine kv_aload_n X 2 dX2_findNeeds_23 rfl rfl ?_
          refine kv_getfield X f_X2_findNeeds_18 (κ := 2) (fs := [.ref (ad 1), .ref (ad 17), .ref (ad 18), .ref (ad 19), .ref (ad 20), .ref (ad 21), .ref (ad 22), .ref (ad 23), .ref (ad 24)]) (v := .ref (ad 19)) hO.2.2.1.1 ((cE_ne (by omega)).trans hO.2.2.1.2) rfl dX2_findNeeds_24 ?_
          refine kv_iload_n X 0 dX2_findNeeds_27 rfl rfl ?_
          refine ke_iald X (19) (j := i) (hO.2.2.2.1 _ (by omega) (by omega)) (by omega) (by omega) dX2_findNeeds_28 ?_
          have hd3 := (hdp i (by omega)).1
          refine kv_topi (nI (dep i)) (by rw [hy.1]; exact hde i (by omega)) ?_
          refine kv_iload_n X 1 dX2_findNeeds_29 rfl rfl ?_
          refine kn_icmp_ne (x := dep i) (y := p + 1) (tgt := 38) X (by omega) (by omega) dX2_findNeeds_30 (by decide) (fun hc30 => ?_) (fun hc30 => ?_)
          ·
            refine kv_iinc (j := 0) (v := (nI (i + 1))) (lv2 := [(2, .int (nI (i + 1))), (1, .int (nI (p + 1))), (0, .ref (ad 2))]) X dX2_findNeeds_38 rfl (nI_add i 1) (by rw [hnL]; decide) rfl ?_
            refine kv_goto (tgt := 9) X dX2_findNeeds_41 (by decide) ?_
            exact kv_lv [0, 1, 2] rfl (ih9 (i + 1) (by omega) y ⟨hy.1, hy.2.1, fun j hj q r hr => hy.2.2 j hj (by have hdj : j = i → dep j ≠ p + 1 := (fun c => by rw [c]; exact hc30); omega) r hr⟩)
          ·
            refine kv_aload_n X 2 dX2_findNeeds_33 rfl rfl ?_
            refine kv_iload_n X 0 dX2_findNeeds_34 rfl rfl ?_
            refine kv_callvV (ci := 5) (κ := 2) (r1 := (TX2, 9)) (As := [.int (nI i)]) [] X (c_X2_findNeedsOf l dd ks ad E y M nR nC nt nL nW nV nM cn nm mn me li rl on hO hR hC hT hL hW hV hM hB i (by omega) mi (fun j hj => by rw [hy.1]; exact hmi j hj) (fun k hk hs => by have q : mi (nm (4 * i + k)) < nt ∧ dep (mi (nm (4 * i + k))) < dep i := (hdp i (by omega)).2 k hk hs; intro c; rw [c] at q; omega)) hl0 (kCV_of X 1 gX2_findNeeds_X2_findNeedsOf rfl rfl rfl (by decide +kernel) hRR ⟨(Nat.le_of_ble_eq_true rfl), (Nat.le_of_ble_eq_true rfl)⟩) hO.2.2.1.1 ((cE_ne (by omega)).trans hO.2.2.1.2) rfl rfl rfl (Nat.le_of_ble_eq_true rfl) hRR ⟨(Nat.le_of_ble_eq_true rfl), (Nat.le_of_ble_eq_true rfl)⟩ dX2_findNeeds_35 (fun z hp => ?_)
            obtain rfl := hp
            refine kv_iinc (j := 0) (v := (nI (i + 1))) (lv2 := [(2, .int (nI (i + 1))), (1, .int (nI (p + 1))), (0, .ref (ad 2))]) X dX2_findNeeds_38 rfl (nI_add i 1) (by rw [hnL]; decide) rfl ?_
            refine kv_goto (tgt := 9) X dX2_findNeeds_41 (by decide) ?_
            exact kv_lv [0, 1, 2] rfl (ih9 (i + 1) (by omega) (y.1, (va_up y.2 (37 + i) (cns (M.2.1 13) (M.2.1 15) (fun k => mi (nm k)) y.2 (4 * i) (cat (mset (y.2 (37 + i)) (fun _ => 0) 12) (y.2 (25 + i)) 1) (cn i)))) ⟨hy.1, fun k q => (va_up_ne _ _ (by omega)).trans (hy.2.1 k q), fun j hj q r hr => (Decidable.em (j = i)).elim (fun c => by rw [c]; exact (va_up_app _ _ _ _).trans (needs_step hdp (by omega) (fun r hr => congrFun (hy.2.1 (25 + i) (by omega)) r) (fun j hj hd r hr => hy.2.2 j hj (Or.inl (by omega)) r hr) r hr)) (fun c => (congrFun (va_up_ne _ _ (by omega)) r).trans (hy.2.2 j hj (by omega) r hr))⟩)
      exact kv_lv [0, 1, 2] rfl (L9 nt 0 (by omega) z ⟨hz.1, hz.2.1, fun j hj q => hz.2.2 j hj (by omega)⟩)
  exact kv_lv [0, 1] rfl (L2 3 0 (by omega) e ⟨rfl, fun k _ => rfl, fun j hj q => by have := (hdp j hj).1.1; omega⟩)

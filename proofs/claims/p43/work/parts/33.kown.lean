/-! the estimate: own needs -/
theorem cE_J12 {dd : kDD} {E : Nat → va_E} {e : eS} {k : Nat} (h : 22 ≤ k ∧ k ≤ 48 ∧ k ≠ 24) : cE dd E e k = kJ dd 12 (e.2 k) := by rw [cE_J ⟨h.1, h.2.1⟩]; unfold eLen; rw [if_neg h.2.2]
theorem cE_up12 {dd : kDD} {E : Nat → va_E} {e : eS} {k : Nat} (h : 22 ≤ k ∧ k ≤ 48 ∧ k ≠ 24) (f : Nat → Int64) : ∀ j, va_up (cE dd E e) k (kJ dd 12 f) j = cE dd E (e.1, va_up e.2 k f) j := by
  intro j
  rw [← cE_upJ ⟨h.1, h.2.1⟩ f j]
  unfold eLen
  rw [if_neg h.2.2]
/-- a row plus t times another -/
def cat (f g : Nat → Int64) (t : Int64) : Nat → Int64 := mset f (fun r => f r + g r * t) 12
def cu1 (f : Nat → Int64) (j : Nat) (x : Int64) : Nat → Int64 := va_up f j (f j + x)
def ccr (mu : Int32) (nu : Nat → Int32) (mr me : Nat → Nat) (b : Nat) (f : Nat → Int64) : Nat → Nat → Int64
  | 0 => f
  | n + 1 => cu1 (ccr mu nu mr me b f n) (mr (me (b + n))) (mu * nu (b + n)).toInt64
/-- one component's own need -/
def cad (so mu nu : Nat → Int32) (nm mn mr me : Nat → Nat) (K : Nat) (f : Nat → Int64) : Nat → Int64 := if so K = 1 then cu1 f (mr (nm K)) (mu K).toInt64 else if so K = 2 then ccr (mu K) nu mr me (3 * nm K) f (mn (nm K)) else f
def cow (so mu nu : Nat → Int32) (nm mn mr me : Nat → Nat) (b : Nat) (f : Nat → Int64) : Nat → Nat → Int64
  | 0 => f
  | n + 1 => cad so mu nu nm mn mr me (b + n) (cow so mu nu nm mn mr me b f n)
/-- rows b, b + 1 .. set, n of them -/
def crow (f : Nat → Nat → Int64) (b : Nat) (G : Nat → Nat → Int64) (n : Nat) : Nat → Nat → Int64 := fun k => if b ≤ k ∧ k < b + n then G (k - b) else f k
theorem crow_0 {f : Nat → Nat → Int64} {b : Nat} {G : Nat → Nat → Int64} : crow f b G 0 = f := funext fun k => if_neg (by omega)
theorem crow_s {f : Nat → Nat → Int64} {b i : Nat} {G : Nat → Nat → Int64} : va_up (crow f b G i) (b + i) (G i) = crow f b G (i + 1) := by
  funext k
  unfold va_up crow
  by_cases c : k = b + i
  · subst c; rw [if_pos rfl, if_pos ⟨by omega, by omega⟩, show b + i - b = i by omega]
  · rw [if_neg c]
    by_cases c2 : b ≤ k ∧ k < b + i
    · rw [if_pos c2, if_pos ⟨c2.1, by omega⟩]
    · rw [if_neg c2, if_neg (by omega)]
theorem crow_out {f : Nat → Nat → Int64} {b i k : Nat} {G : Nat → Nat → Int64} (h : ¬ (b ≤ k ∧ k < b + i)) : crow f b G i k = f k := if_neg h
theorem crow_in {f : Nat → Nat → Int64} {b i j : Nat} {G : Nat → Nat → Int64} (h : j < i) : crow f b G i (b + j) = G j := by
  unfold crow
  rw [if_pos ⟨by omega, by omega⟩, show b + j - b = j by omega]


set_option maxRecDepth 100000 in
set_option maxHeartbeats 4000000 in
theorem c_X2_addTimes (l : Launch) (dd : kDD) (ks : List Nat) (ad : Nat → Nat) (E : Nat → va_E) (κ κ2 : Nat) (f f2 : Nat → Int64) (t : Int64) (hκ : κ ∈ ks) (hE : E κ = kJ dd 12 f) (hκ2 : κ2 ∈ ks) (hE2 : E κ2 = kJ dd 12 f2) (hne : κ ≠ κ2) : kCv l yX2_addTimes wsX2_addTimes ({ frames := 0, cells := 0, slots := 0, locals := 0 } : Room) 0 0 dd [.ref (ad κ), .ref (ad κ2), .long t] (ks, ad, E) (kQv (S := Unit) (fun z => True) (fun _ => ks) (fun _ => ad) (fun _ => va_up E κ (kJ dd 12 (cat f f2 t)))) := by
  refine kMetv (ws' := _) (cc := cX2_addTimes) (maxL := 5) (by decide) rfl (Nat.le_of_ble_eq_true rfl) (fun g X hr hnL hRR hl0 hkn => ?_)
  show kv dd g 0 0 0 [(0, .ref (ad κ)), (1, .ref (ad κ2)), (2, .long t)] [] ks ad E
  refine kv_iconst (v := 0) X dX2_addTimes_0 (by decide) ?_
  refine kv_istore (lv2 := [(4, .int 0), (0, .ref (ad κ)), (1, .ref (ad κ2)), (2, .long t)]) X dX2_addTimes_1 (by rw [hnL]; decide) rfl ?_
  refine kv_E (E2 := (va_up E κ (kJ dd 12 (mset f (fun r => f r + f2 r * t) (0))))) (fun j _ => by rw [mset_0]; exact (congrFun (by rw [← hE]; exact va_up_id E κ) j).symm) ?_
  have L3 : ∀ (n9 i : Nat), i + n9 = 12 → ∀ (_ : Unit) , kv dd g 0 0 3 [(4, .int (nI i)), (0, .ref (ad κ)), (1, .ref (ad κ2)), (2, .long t)] [] ks ad (va_up E κ (kJ dd 12 (mset f (fun r => f r + f2 r * t) (i)))) := by
    intro n9
    induction n9 with
    | zero =>
      intro i hin3 _ 
      refine kv_iload X 0 dX2_addTimes_3 rfl ?_
      refine kv_bipush (v := 12) X dX2_addTimes_5 (by decide) ?_
      refine kn_icmp_ge (x := i) (y := 12) (tgt := 29) X (by omega) (by omega) dX2_addTimes_7 (by decide) (fun hc7 => ?_) (fun hc7 => absurd hc7 (by omega))
      exact kv_return X hr (Nat.le_of_ble_eq_true rfl) (Nat.le_of_ble_eq_true rfl) ⟨(), trivial, by rw [show i = 12 by omega]; rfl⟩ dX2_addTimes_29
    | succ n9 ih3 =>
      intro i hin3 _ 
      refine kv_iload X 0 dX2_addTimes_3 rfl ?_
      refine kv_bipush (v := 12) X dX2_addTimes_5 (by decide) ?_
      refine kn_icmp_ge (x := i) (y := 12) (tgt := 29) X (by omega) (by omega) dX2_addTimes_7 (by decide) (fun hc7 => absurd hc7 (by omega)) (fun hc7 => ?_)
      refine kv_aload_n X 1 dX2_addTimes_10 rfl rfl ?_
      refine kv_iload X 0 dX2_addTimes_11 rfl ?_
      refine kv_dup2_11 X dX2_addTimes_13 rfl rfl ?_
      refine kv_laload X (κ := κ) (n := 12) (j := i) (f := mset f (fun r => f r + f2 r * t) (i)) hκ (va_up_self _ _ _) (by omega) (by omega) dX2_addTimes_14 ?_
      refine kv_topl (f i) (mset_out (by omega)) ?_
      refine kv_aload_n X 2 dX2_addTimes_15 rfl rfl ?_
      refine kv_iload X 0 dX2_addTimes_16 rfl ?_
      refine kv_laload X (κ := κ2) (n := 12) (j := i) (f := f2) hκ2 ((va_up_ne _ _ (Ne.symm hne)).trans hE2) (by omega) (by omega) dX2_addTimes_18 ?_
      refine kv_lload_n X 3 dX2_addTimes_19 rfl rfl ?_
      refine kv_lmul X dX2_addTimes_20 ?_
      refine kv_ladd X dX2_addTimes_21 ?_
      refine kv_lastore X (κ := κ) (n := 12) (j := i) (f := mset f (fun r => f r + f2 r * t) (i)) (x := ((f i) + ((f2 i) * t))) hκ (va_up_self _ _ _) (by omega) (by omega) dX2_addTimes_22 ?_
      refine kv_E (E2 := (va_up E κ (kJ dd 12 (mset f (fun r => f r + f2 r * t) (i + 1))))) (fun j _ => by rw [va_up_up, mset_up rfl]) ?_
      refine kv_iinc (j := 0) (v := (nI (i + 1))) (lv2 := [(4, .int (nI (i + 1))), (0, .ref (ad κ)), (1, .ref (ad κ2)), (2, .long t)]) X dX2_addTimes_23 rfl (nI_add i 1) (by rw [hnL]; decide) rfl ?_
      refine kv_goto (tgt := 3) X dX2_addTimes_26 (by decide) ?_
      exact kv_lv [0, 1, 2, 3] rfl (ih3 (i + 1) (by omega) ())
  exact kv_lv [0, 1, 2, 3] rfl (L3 12 0 (by omega) ())
theorem f_X2_addOwnNeed_105 : kF wsX2_addOwnNeed RX2 105 3 0 := ⟨_, RX0, TX0, 3, fun _ h => (List.mem_cons_of_mem _ (List.mem_append_left _ (List.mem_append_left _ (List.mem_append_left _ (List.mem_append_left _ (List.mem_append_left _ (List.mem_append_right _ h))))))), (List.mem_cons_of_mem _ (List.mem_append_left _ (List.mem_append_left _ (List.mem_append_left _ (List.mem_append_left _ (List.mem_append_left _ (List.mem_append_left _ (List.mem_append_left _ (List.mem_of_getElem? (i := 0) rfl))))))))), rfl, by decide, rfl⟩
theorem f_X2_addOwnNeed_39 : kF wsX2_addOwnNeed RX2 39 5 0 := ⟨_, RX2, TX2, 9, fun _ h => (List.mem_cons_of_mem _ (List.mem_append_left _ (List.mem_append_left _ (List.mem_append_left _ (List.mem_append_left _ (List.mem_append_right _ h)))))), (List.mem_cons_of_mem _ (List.mem_append_left _ (List.mem_append_left _ (List.mem_append_left _ (List.mem_append_left _ (List.mem_append_left _ (List.mem_append_left _ (List.mem_append_left _ (List.mem_of_getElem? (i := 4) rfl))))))))), rfl, by decide, rfl⟩
theorem f_X2_addOwnNeed_142 : kF wsX2_addOwnNeed RX2 142 9 1 := ⟨_, RX6, TX6, 7, fun _ h => (List.mem_cons_of_mem _ (List.mem_append_left _ (List.mem_append_left _ (List.mem_append_left _ (List.mem_append_right _ h))))), (List.mem_cons_of_mem _ (List.mem_append_left _ (List.mem_append_left _ (List.mem_append_left _ (List.mem_append_left _ (List.mem_append_left _ (List.mem_append_left _ (List.mem_append_left _ (List.mem_of_getElem? (i := 5) rfl))))))))), rfl, by decide, rfl⟩
theorem f_X2_addOwnNeed_109 : kF wsX2_addOwnNeed RX2 109 3 1 := ⟨_, RX0, TX0, 3, fun _ h => (List.mem_cons_of_mem _ (List.mem_append_left _ (List.mem_append_left _ (List.mem_append_left _ (List.mem_append_left _ (List.mem_append_left _ (List.mem_append_right _ h))))))), (List.mem_cons_of_mem _ (List.mem_append_left _ (List.mem_append_left _ (List.mem_append_left _ (List.mem_append_left _ (List.mem_append_left _ (List.mem_append_left _ (List.mem_append_left _ (List.mem_of_getElem? (i := 2) rfl))))))))), rfl, by decide, rfl⟩
theorem f_X2_addOwnNeed_147 : kF wsX2_addOwnNeed RX2 147 4 2 := ⟨_, RX1, TX1, 3, fun _ h => (List.mem_cons_of_mem _ (List.mem_append_left _ (List.mem_append_left _ (List.mem_append_right _ h)))), (List.mem_cons_of_mem _ (List.mem_append_left _ (List.mem_append_left _ (List.mem_append_left _ (List.mem_append_left _ (List.mem_append_left _ (List.mem_append_left _ (List.mem_append_left _ (List.mem_of_getElem? (i := 7) rfl))))))))), rfl, by decide, rfl⟩
theorem f_X2_addOwnNeed_15 : kF wsX2_addOwnNeed RX2 15 5 2 := ⟨_, RX2, TX2, 9, fun _ h => (List.mem_cons_of_mem _ (List.mem_append_left _ (List.mem_append_left _ (List.mem_append_left _ (List.mem_append_left _ (List.mem_append_right _ h)))))), (List.mem_cons_of_mem _ (List.mem_append_left _ (List.mem_append_left _ (List.mem_append_left _ (List.mem_append_left _ (List.mem_append_left _ (List.mem_append_left _ (List.mem_append_left _ (List.mem_of_getElem? (i := 1) rfl))))))))), rfl, by decide, rfl⟩
theorem f_X2_addOwnNeed_149 : kF wsX2_addOwnNeed RX2 149 4 0 := ⟨_, RX1, TX1, 3, fun _ h => (List.mem_cons_of_mem _ (List.mem_append_left _ (List.mem_append_left _ (List.mem_append_right _ h)))), (List.mem_cons_of_mem _ (List.mem_append_left _ (List.mem_append_left _ (List.mem_append_left _ (List.mem_append_left _ (List.mem_append_left _ (List.mem_append_left _ (List.mem_append_left _ (List.mem_of_getElem? (i := 8) rfl))))))))), rfl, by decide, rfl⟩
theorem f_X2_addOwnNeed_139 : kF wsX2_addOwnNeed RX2 139 3 2 := ⟨_, RX0, TX0, 3, fun _ h => (List.mem_cons_of_mem _ (List.mem_append_left _ (List.mem_append_left _ (List.mem_append_left _ (List.mem_append_left _ (List.mem_append_left _ (List.mem_append_right _ h))))))), (List.mem_cons_of_mem _ (List.mem_append_left _ (List.mem_append_left _ (List.mem_append_left _ (List.mem_append_left _ (List.mem_append_left _ (List.mem_append_left _ (List.mem_append_left _ (List.mem_of_getElem? (i := 3) rfl))))))))), rfl, by decide, rfl⟩
theorem f_X2_addOwnNeed_152 : kF wsX2_addOwnNeed RX2 152 4 1 := ⟨_, RX1, TX1, 3, fun _ h => (List.mem_cons_of_mem _ (List.mem_append_left _ (List.mem_append_left _ (List.mem_append_right _ h)))), (List.mem_cons_of_mem _ (List.mem_append_left _ (List.mem_append_left _ (List.mem_append_left _ (List.mem_append_left _ (List.mem_append_left _ (List.mem_append_left _ (List.mem_append_left _ (List.mem_of_getElem? (i := 9) rfl))))))))), rfl, by decide, rfl⟩
set_option maxRecDepth 100000 in
set_option maxHeartbeats 4000000 in
theorem c_X2_addOwnNeed (l : Launch) (dd : kDD) (ks : List Nat) (ad : Nat → Nat) (E : Nat → va_E) (e : eS) (M : mS) (nR nC nt nL nW nV nM : Nat) (cn nm mn me li rl : Nat → Nat) (on : Int32) (hO : cO dd ks ad E on) (hR : cR dd ks ad E M nR) (hC : cC dd ks ad E M nC mn me) (hT : cT dd ks ad E M nt cn nm) (hL : cL dd ks ad E M nL nW li) (hW : cW dd ks ad E M nW rl) (hV : cV dd ks ad E M nV) (hM : cM dd ks ad E M nM) (hB : cB M nR nC nt nL nW nV cn nm mn me li rl) (i k : Nat) (hi : i < nt) (hk : k < cn i) (mr : Nat → Nat) (hmr : ∀ j, j < nR → e.1 18 j = nI (mr j) ∧ mr j < nR) : kCv l yX2_addOwnNeed wsX2_addOwnNeed ({ frames := 3, cells := 0, slots := 0, locals := 64 } : Room) 0 0 dd [.ref (ad 2), .ref (ad (25 + i)), .ref (ad (144 + (4 * i + k)))] (ks, ad, (cE dd E e)) (kQv (S := eS) (fun z => (e.1, va_up e.2 (25 + i) (cad (M.2.1 13) (M.2.1 15) (M.2.1 9) nm mn mr me (4 * i + k) (e.2 (25 + i)))) = z) (fun _ => ks) (fun _ => ad) (fun z => cE dd E z)) := by
  refine kMetv (ws' := _) (cc := cX2_addOwnNeed) (maxL := 5) (by decide) rfl (Nat.le_of_ble_eq_true rfl) (fun g X hr hnL hRR hl0 hkn => ?_)
  show kv dd g 0 0 0 [(0, .ref (ad 2)), (1, .ref (ad (25 + i))), (2, .ref (ad (144 + (4 * i + k))))] [] ks ad (cE dd E e)
  have hT12 := hT.1
  have hR12 := hR.1
  have hcn4 := (hT.2.2 i hi).2.2.1
  refine kv_aload_n X 2 dX2_addOwnNeed_0 rfl rfl ?_
  refine kv_getfield X f_X2_addOwnNeed_105 (κ := 144 + (4 * i + k)) (fs := [.int (M.2.1 13 (4 * i + k)), .int (nI (nm (4 * i + k))), .int (M.2.1 15 (4 * i + k))]) (v := .int (M.2.1 13 (4 * i + k))) ((hT.2.2 i (by omega)).2.2.2.2 k (by omega)).1 ((cE_ne (by omega)).trans ((hT.2.2 i (by omega)).2.2.2.2 k (by omega)).2) rfl dX2_addOwnNeed_1 ?_
  refine kv_iconst (v := 1) X dX2_addOwnNeed_4 (by decide) ?_
  refine kv_icmp_ne (tgt := 30) X dX2_addOwnNeed_5 (by decide) (fun hc5 => ?_) (fun hc5 => ?_)
  ·
    refine kv_aload_n X 2 dX2_addOwnNeed_30 rfl rfl ?_
    refine kv_getfield X f_X2_addOwnNeed_105 (κ := 144 + (4 * i + k)) (fs := [.int (M.2.1 13 (4 * i + k)), .int (nI (nm (4 * i + k))), .int (M.2.1 15 (4 * i + k))]) (v := .int (M.2.1 13 (4 * i + k))) ((hT.2.2 i (by omega)).2.2.2.2 k (by omega)).1 ((cE_ne (by omega)).trans ((hT.2.2 i (by omega)).2.2.2.2 k (by omega)).2) rfl dX2_addOwnNeed_31 ?_
    refine kv_iconst (v := 2) X dX2_addOwnNeed_34 (by decide) ?_
    refine kv_icmp_ne (tgt := 104) X dX2_addOwnNeed_35 (by decide) (fun hc35 => ?_) (fun hc35 => ?_)
    ·
      exact kv_return X hr (Nat.le_of_ble_eq_true rfl) (Nat.le_of_ble_eq_true rfl) ⟨e, by rw [cad, if_neg hc5, if_neg hc35]; exact congrArg (fun y => (e.1, y)) (va_up_id _ _), rfl⟩ dX2_addOwnNeed_104
    ·
      refine kv_aload_n X 0 dX2_addOwnNeed_38 rfl rfl ?_
      refine kv_getfield X f_X2_addOwnNeed_39 (κ := 2) (fs := [.ref (ad 1), .ref (ad 17), .ref (ad 18), .ref (ad 19), .ref (ad 20), .ref (ad 21), .ref (ad 22), .ref (ad 23), .ref (ad 24)]) (v := .ref (ad 1)) hO.2.2.1.1 ((cE_ne (by omega)).trans hO.2.2.1.2) rfl dX2_addOwnNeed_39 ?_
      refine kv_getfield X f_X2_addOwnNeed_142 (κ := 1) (fs := [.ref (ad 3), .ref (ad 4), .ref (ad 5), .ref (ad 6), .ref (ad 7), .ref (ad 8), .ref (ad 9)]) (v := .ref (ad 4)) hO.2.1.1 ((cE_ne (by omega)).trans hO.2.1.2) rfl dX2_addOwnNeed_42 ?_
      refine kv_aload_n X 2 dX2_addOwnNeed_45 rfl rfl ?_
      have hnC : nm (4 * i + k) < nC := by rcases hB.1 i (by omega) k (by omega) with q | q | q; exact absurd (hc35.symm.trans q.1) (by decide); exact absurd (hc35.symm.trans q.1) (by decide); exact q.2
      obtain ⟨g1, g2, hg1, hg2, hgg⟩ := (hC.2.2 _ hnC).2.2.2.2.2
      have hm3 := (hC.2.2 _ hnC).2.2.1
      have hC4 := hC.1
      refine kv_getfield X f_X2_addOwnNeed_109 (κ := 144 + (4 * i + k)) (fs := [.int (M.2.1 13 (4 * i + k)), .int (nI (nm (4 * i + k))), .int (M.2.1 15 (4 * i + k))]) (v := .int (nI (nm (4 * i + k)))) ((hT.2.2 i (by omega)).2.2.2.2 k (by omega)).1 ((cE_ne (by omega)).trans ((hT.2.2 i (by omega)).2.2.2.2 k (by omega)).2) rfl dX2_addOwnNeed_46 ?_
      obtain ⟨_, _, o49⟩ := kLs_obj (dd := dd) (ks := ks) (ad := ad) (E := (cE dd E e)) (kLs_cE hC.2.1 (by omega) (by omega) (fun i hi => by omega))
      refine kv_callqV (ci := 2) (κ := 4) (r1 := (TJx4a65c, 3)) (As := [.int (nI (nm (4 * i + k)))]) [] X (c_Jx4a65c_get_915e3 l dd ks ad (cE dd E e) (4) (11) (nC) (fun c => 80 + c) 4 (kLs_cE hC.2.1 (by omega) (by omega) (fun i hi => by omega)) (nm (4 * i + k)) (by omega)) hl0 (kCV_of X 1 gX2_addOwnNeed_Jx4a65c_get_915e3 rfl rfl rfl (by decide +kernel) hRR ⟨(Nat.le_of_ble_eq_true rfl), (Nat.le_of_ble_eq_true rfl)⟩) hC.2.1.1 o49 rfl rfl rfl (Nat.le_of_ble_eq_true rfl) hRR ⟨(Nat.le_of_ble_eq_true rfl), (Nat.le_of_ble_eq_true rfl)⟩ dX2_addOwnNeed_49 (fun r z hp => ?_)
      obtain rfl := hp
      refine kv_topg (.ref (ad (80 + (nm (4 * i + k))))) rfl ?_
      refine kv_cast X (κ := 80 + (nm (4 * i + k))) (ci := 4) (fs := [.ref (ad (84 + (nm (4 * i + k)))), .ref (ad (88 + (nm (4 * i + k)))), .int (nI (mn (nm (4 * i + k))))]) (r := (RX1, TX1, 3)) (List.mem_cons_of_mem _ (List.mem_append_left _ (List.mem_append_left _ (List.mem_append_left _ (List.mem_append_left _ (List.mem_append_left _ (List.mem_append_left _ (List.mem_append_left _ (List.mem_of_getElem? (i := 6) rfl))))))))) (hC.2.2 (nm (4 * i + k)) (by omega)).1 ((cE_ne (by omega)).trans (hC.2.2 (nm (4 * i + k)) (by omega)).2.1) rfl dX2_addOwnNeed_52 ?_
      refine kv_astore_n (lv2 := [(3, .ref (ad (80 + (nm (4 * i + k))))), (0, .ref (ad 2)), (1, .ref (ad (25 + i))), (2, .ref (ad (144 + (4 * i + k))))]) X dX2_addOwnNeed_55 rfl (by rw [hnL]; decide) rfl ?_
      refine kv_iconst (v := 0) X dX2_addOwnNeed_56 (by decide) ?_
      refine kv_istore (lv2 := [(4, .int 0), (3, .ref (ad (80 + (nm (4 * i + k))))), (0, .ref (ad 2)), (1, .ref (ad (25 + i))), (2, .ref (ad (144 + (4 * i + k))))]) X dX2_addOwnNeed_57 (by rw [hnL]; decide) rfl ?_
      refine kv_e (e.1, (va_up e.2 (25 + i) (ccr (M.2.1 15 (4 * i + k)) (M.2.1 9) mr me (3 * nm (4 * i + k)) (e.2 (25 + i)) 0))) (by show e = (e.1, (va_up e.2 (25 + i) (ccr (M.2.1 15 (4 * i + k)) (M.2.1 9) mr me (3 * nm (4 * i + k)) (e.2 (25 + i)) 0))); exact congrArg (fun y => (e.1, y)) (va_up_id _ _).symm) ?_
      have L59 : ∀ (n9 q : Nat), q + n9 = mn (nm (4 * i + k)) → ∀ (_ : Unit) , kv dd g 0 0 59 [(4, .int (nI q)), (3, .ref (ad (80 + (nm (4 * i + k))))), (0, .ref (ad 2)), (1, .ref (ad (25 + i))), (2, .ref (ad (144 + (4 * i + k))))] [] ks ad (cE dd E (e.1, (va_up e.2 (25 + i) (ccr (M.2.1 15 (4 * i + k)) (M.2.1 9) mr me (3 * nm (4 * i + k)) (e.2 (25 + i)) q)))) := by
        intro n9
        induction n9 with
        | zero =>
          intro q hin59 _ 
          refine kv_iload X 0 dX2_addOwnNeed_59 rfl ?_
          refine kv_aload_n X 1 dX2_addOwnNeed_61 rfl rfl ?_
          refine kv_getfield X f_X2_addOwnNeed_147 (κ := 80 + (nm (4 * i + k))) (fs := [.ref (ad (84 + (nm (4 * i + k)))), .ref (ad (88 + (nm (4 * i + k)))), .int (nI (mn (nm (4 * i + k))))]) (v := .int (nI (mn (nm (4 * i + k))))) (hC.2.2 (nm (4 * i + k)) (by omega)).1 ((cE_ne (by omega)).trans (hC.2.2 (nm (4 * i + k)) (by omega)).2.1) rfl dX2_addOwnNeed_62 ?_
          refine kn_icmp_ge (x := q) (y := mn (nm (4 * i + k))) (tgt := 104) X (by omega) (by omega) dX2_addOwnNeed_65 (by decide) (fun hc65 => ?_) (fun hc65 => absurd hc65 (by omega))
          exact kv_return X hr (Nat.le_of_ble_eq_true rfl) (Nat.le_of_ble_eq_true rfl) ⟨(e.1, (va_up e.2 (25 + i) (ccr (M.2.1 15 (4 * i + k)) (M.2.1 9) mr me (3 * nm (4 * i + k)) (e.2 (25 + i)) q))), by rw [show q = mn (nm (4 * i + k)) by omega]; exact congrArg (fun y => (e.1, va_up e.2 (25 + i) y)) (by rw [cad, if_neg hc5, if_pos hc35]), rfl⟩ dX2_addOwnNeed_104
        | succ n9 ih59 =>
          intro q hin59 _ 
          refine kv_iload X 0 dX2_addOwnNeed_59 rfl ?_
          refine kv_aload_n X 1 dX2_addOwnNeed_61 rfl rfl ?_
          refine kv_getfield X f_X2_addOwnNeed_147 (κ := 80 + (nm (4 * i + k))) (fs := [.ref (ad (84 + (nm (4 * i + k)))), .ref (ad (88 + (nm (4 * i + k)))), .int (nI (mn (nm (4 * i + k))))]) (v := .int (nI (mn (nm (4 * i + k))))) (hC.2.2 (nm (4 * i + k)) (by omega)).1 ((cE_ne (by omega)).trans (hC.2.2 (nm (4 * i + k)) (by omega)).2.1) rfl dX2_addOwnNeed_62 ?_
          refine kn_icmp_ge (x := q) (y := mn (nm (4 * i + k))) (tgt := 104) X (by omega) (by omega) dX2_addOwnNeed_65 (by decide) (fun hc65 => absurd hc65 (by omega)) (fun hc65 => ?_)
          refine kv_aload_n X 3 dX2_addOwnNeed_68 rfl rfl ?_
          refine kv_aload_n X 2 dX2_addOwnNeed_69 rfl rfl ?_
          refine kv_getfield X f_X2_addOwnNeed_15 (κ := 2) (fs := [.ref (ad 1), .ref (ad 17), .ref (ad 18), .ref (ad 19), .ref (ad 20), .ref (ad 21), .ref (ad 22), .ref (ad 23), .ref (ad 24)]) (v := .ref (ad 18)) hO.2.2.1.1 ((cE_ne (by omega)).trans hO.2.2.1.2) rfl dX2_addOwnNeed_70 ?_
          refine kv_aload_n X 1 dX2_addOwnNeed_73 rfl rfl ?_
          refine kv_getfield X f_X2_addOwnNeed_149 (κ := 80 + (nm (4 * i + k))) (fs := [.ref (ad (84 + (nm (4 * i + k)))), .ref (ad (88 + (nm (4 * i + k)))), .int (nI (mn (nm (4 * i + k))))]) (v := .ref (ad (84 + (nm (4 * i + k))))) (hC.2.2 (nm (4 * i + k)) (by omega)).1 ((cE_ne (by omega)).trans (hC.2.2 (nm (4 * i + k)) (by omega)).2.1) rfl dX2_addOwnNeed_74 ?_
          refine kv_iload X 0 dX2_addOwnNeed_77 rfl ?_
          refine kv_iaload X (κ := 84 + (nm (4 * i + k))) (n := 3) (j := q) (f := g1) (hC.2.2 _ hnC).2.2.2.1 ((cE_ne (by omega)).trans hg1) (by omega) (by omega) dX2_addOwnNeed_79 ?_
          have hme := hB.2.1 (nm (4 * i + k)) hnC q (by omega)
          refine kv_topi (nI (me (3 * nm (4 * i + k) + q))) (hgg q (by omega)).1 ?_
          refine ke_iald X (18) (j := me (3 * nm (4 * i + k) + q)) (hO.2.2.2.1 _ (by omega) (by omega)) (by omega) (by omega) dX2_addOwnNeed_80 ?_
          refine kv_topi ((e.1 18) (me (3 * nm (4 * i + k) + q))) rfl ?_
          refine kv_topi (nI (mr (me (3 * nm (4 * i + k) + q)))) (hmr (me (3 * nm (4 * i + k) + q)) hme).1 ?_
          refine kv_dup2_11 X dX2_addOwnNeed_81 rfl rfl ?_
          refine ke_lald X (25 + i) (j := mr (me (3 * nm (4 * i + k) + q))) (hO.2.2.2.1 _ (by omega) (by omega)) (by omega) (by have := (hmr (me (3 * nm (4 * i + k) + q)) hme).2; unfold eLen; split <;> omega) dX2_addOwnNeed_82 ?_
          refine kv_topl ((ccr (M.2.1 15 (4 * i + k)) (M.2.1 9) mr me (3 * nm (4 * i + k)) (e.2 (25 + i)) q) (mr (me (3 * nm (4 * i + k) + q)))) (va_up_app _ _ _ _) ?_
          refine kv_aload_n X 4 dX2_addOwnNeed_83 rfl rfl ?_
          refine kv_getfield X f_X2_addOwnNeed_139 (κ := 144 + (4 * i + k)) (fs := [.int (M.2.1 13 (4 * i + k)), .int (nI (nm (4 * i + k))), .int (M.2.1 15 (4 * i + k))]) (v := .int (M.2.1 15 (4 * i + k))) ((hT.2.2 i (by omega)).2.2.2.2 k (by omega)).1 ((cE_ne (by omega)).trans ((hT.2.2 i (by omega)).2.2.2.2 k (by omega)).2) rfl dX2_addOwnNeed_84 ?_
          refine kv_aload_n X 1 dX2_addOwnNeed_87 rfl rfl ?_
          refine kv_getfield X f_X2_addOwnNeed_152 (κ := 80 + (nm (4 * i + k))) (fs := [.ref (ad (84 + (nm (4 * i + k)))), .ref (ad (88 + (nm (4 * i + k)))), .int (nI (mn (nm (4 * i + k))))]) (v := .ref (ad (88 + (nm (4 * i + k))))) (hC.2.2 (nm (4 * i + k)) (by omega)).1 ((cE_ne (by omega)).trans (hC.2.2 (nm (4 * i + k)) (by omega)).2.1) rfl dX2_addOwnNeed_88 ?_
          refine kv_iload X 0 dX2_addOwnNeed_91 rfl ?_
          refine kv_iaload X (κ := 88 + (nm (4 * i + k))) (n := 3) (j := q) (f := g2) (hC.2.2 _ hnC).2.2.2.2.1 ((cE_ne (by omega)).trans hg2) (by omega) (by omega) dX2_addOwnNeed_93 ?_
          refine kv_topi (M.2.1 9 (3 * nm (4 * i + k) + q)) (hgg q (by omega)).2 ?_
          refine kv_imul X dX2_addOwnNeed_94 ?_
          refine kv_i2l X dX2_addOwnNeed_95 rfl ?_
          refine kv_ladd X dX2_addOwnNeed_96 ?_
          refine ke_last X (25 + i) (j := mr (me (3 * nm (4 * i + k) + q))) (x := (((ccr (M.2.1 15 (4 * i + k)) (M.2.1 9) mr me (3 * nm (4 * i + k)) (e.2 (25 + i)) q) (mr (me (3 * nm (4 * i + k) + q)))) + (((M.2.1 15 (4 * i + k)) * (M.2.1 9 (3 * nm (4 * i + k) + q))).toInt64))) (hO.2.2.2.1 _ (by omega) (by omega)) (by omega) (by have := (hmr (me (3 * nm (4 * i + k) + q)) hme).2; unfold eLen; split <;> omega) dX2_addOwnNeed_97 ?_
          refine kv_e (e.1, va_up (va_up e.2 (25 + i) (ccr (M.2.1 15 (4 * i + k)) (M.2.1 9) mr me (3 * nm (4 * i + k)) (e.2 (25 + i)) q)) (25 + i) (va_up (ccr (M.2.1 15 (4 * i + k)) (M.2.1 9) mr me (3 * nm (4 * i + k)) (e.2 (25 + i)) q) (mr (me (3 * nm (4 * i + k) + q))) (((ccr (M.2.1 15 (4 * i + k)) (M.2.1 9) mr me (3 * nm (4 * i + k)) (e.2 (25 + i)) q) (mr (me (3 * nm (4 * i + k) + q)))) + (((M.2.1 15 (4 * i + k)) * (M.2.1 9 (3 * nm (4 * i + k) + q))).toInt64)))) (by show (e.1, va_up (va_up e.2 (25 + i) (ccr (M.2.1 15 (4 * i + k)) (M.2.1 9) mr me (3 * nm (4 * i + k)) (e.2 (25 + i)) q)) (25 + i) (va_up ((va_up e.2 (25 + i) (ccr (M.2.1 15 (4 * i + k)) (M.2.1 9) mr me (3 * nm (4 * i + k)) (e.2 (25 + i)) q)) (25 + i)) (mr (me (3 * nm (4 * i + k) + q))) (((ccr (M.2.1 15 (4 * i + k)) (M.2.1 9) mr me (3 * nm (4 * i + k)) (e.2 (25 + i)) q) (mr (me (3 * nm (4 * i + k) + q)))) + (((M.2.1 15 (4 * i + k)) * (M.2.1 9 (3 * nm (4 * i + k) + q))).toInt64)))) = _; rw [va_up_self]) ?_
          refine kv_e (e.1, (va_up e.2 (25 + i) (ccr (M.2.1 15 (4 * i + k)) (M.2.1 9) mr me (3 * nm (4 * i + k)) (e.2 (25 + i)) (q + 1)))) (by show (e.1, (va_up (va_up e.2 (25 + i) (ccr (M.2.1 15 (4 * i + k)) (M.2.1 9) mr me (3 * nm (4 * i + k)) (e.2 (25 + i)) q)) (25 + i) (va_up (ccr (M.2.1 15 (4 * i + k)) (M.2.1 9) mr me (3 * nm (4 * i + k)) (e.2 (25 + i)) q) (mr (me (3 * nm (4 * i + k) + q))) (((ccr (M.2.1 15 (4 * i + k)) (M.2.1 9) mr me (3 * nm (4 * i + k)) (e.2 (25 + i)) q) (mr (me (3 * nm (4 * i + k) + q)))) + (((M.2.1 15 (4 * i + k)) * (M.2.1 9 (3 * nm (4 * i + k) + q))).toInt64))))) = (e.1, (va_up e.2 (25 + i) (ccr (M.2.1 15 (4 * i + k)) (M.2.1 9) mr me (3 * nm (4 * i + k)) (e.2 (25 + i)) (q + 1)))); rw [va_up_up]; rfl) ?_
          refine kv_iinc (j := 0) (v := (nI (q + 1))) (lv2 := [(4, .int (nI (q + 1))), (3, .ref (ad (80 + (nm (4 * i + k))))), (0, .ref (ad 2)), (1, .ref (ad (25 + i))), (2, .ref (ad (144 + (4 * i + k))))]) X dX2_addOwnNeed_98 rfl (nI_add q 1) (by rw [hnL]; decide) rfl ?_
          refine kv_goto (tgt := 59) X dX2_addOwnNeed_101 (by decide) ?_
          exact kv_lv [0, 1, 2, 3, 4] rfl (ih59 (q + 1) (by omega) ())
      exact kv_lv [0, 1, 2, 3, 4] rfl (L59 (mn (nm (4 * i + k))) 0 (by omega) ())
  ·
    refine kv_aload_n X 1 dX2_addOwnNeed_8 rfl rfl ?_
    refine kv_aload_n X 0 dX2_addOwnNeed_9 rfl rfl ?_
    refine kv_getfield X f_X2_addOwnNeed_15 (κ := 2) (fs := [.ref (ad 1), .ref (ad 17), .ref (ad 18), .ref (ad 19), .ref (ad 20), .ref (ad 21), .ref (ad 22), .ref (ad 23), .ref (ad 24)]) (v := .ref (ad 18)) hO.2.2.1.1 ((cE_ne (by omega)).trans hO.2.2.1.2) rfl dX2_addOwnNeed_10 ?_
    refine kv_aload_n X 2 dX2_addOwnNeed_13 rfl rfl ?_
    refine kv_getfield X f_X2_addOwnNeed_109 (κ := 144 + (4 * i + k)) (fs := [.int (M.2.1 13 (4 * i + k)), .int (nI (nm (4 * i + k))), .int (M.2.1 15 (4 * i + k))]) (v := .int (nI (nm (4 * i + k)))) ((hT.2.2 i (by omega)).2.2.2.2 k (by omega)).1 ((cE_ne (by omega)).trans ((hT.2.2 i (by omega)).2.2.2.2 k (by omega)).2) rfl dX2_addOwnNeed_14 ?_
    have hnR : nm (4 * i + k) < nR := by rcases hB.1 i (by omega) k (by omega) with q | q | q; exact absurd (hc5.symm.trans q.1) (by decide); exact q.2; exact absurd (hc5.symm.trans q.1) (by decide)
    refine ke_iald X (18) (j := nm (4 * i + k)) (hO.2.2.2.1 _ (by omega) (by omega)) (by omega) (by have := hR.1; omega) dX2_addOwnNeed_17 ?_
    refine kv_topi (nI (mr (nm (4 * i + k)))) (hmr (nm (4 * i + k)) hnR).1 ?_
    refine kv_dup2_11 X dX2_addOwnNeed_18 rfl rfl ?_
    refine ke_lald X (25 + i) (j := mr (nm (4 * i + k))) (hO.2.2.2.1 _ (by omega) (by omega)) (by omega) (by have := (hmr (nm (4 * i + k)) hnR).2; unfold eLen; split <;> omega) dX2_addOwnNeed_19 ?_
    refine kv_aload_n X 2 dX2_addOwnNeed_20 rfl rfl ?_
    refine kv_getfield X f_X2_addOwnNeed_139 (κ := 144 + (4 * i + k)) (fs := [.int (M.2.1 13 (4 * i + k)), .int (nI (nm (4 * i + k))), .int (M.2.1 15 (4 * i + k))]) (v := .int (M.2.1 15 (4 * i + k))) ((hT.2.2 i (by omega)).2.2.2.2 k (by omega)).1 ((cE_ne (by omega)).trans ((hT.2.2 i (by omega)).2.2.2.2 k (by omega)).2) rfl dX2_addOwnNeed_21 ?_
    refine kv_i2l X dX2_addOwnNeed_24 rfl ?_
    refine kv_ladd X dX2_addOwnNeed_25 ?_
    refine ke_last X (25 + i) (j := mr (nm (4 * i + k))) (x := (((e.2 (25 + i)) (mr (nm (4 * i + k)))) + ((M.2.1 15 (4 * i + k)).toInt64))) (hO.2.2.2.1 _ (by omega) (by omega)) (by omega) (by have := (hmr (nm (4 * i + k)) hnR).2; unfold eLen; split <;> omega) dX2_addOwnNeed_26 ?_
    refine kv_goto (tgt := 104) X dX2_addOwnNeed_27 (by decide) ?_
    exact kv_return X hr (Nat.le_of_ble_eq_true rfl) (Nat.le_of_ble_eq_true rfl) ⟨(e.1, (va_up e.2 (25 + i) (va_up (e.2 (25 + i)) (mr (nm (4 * i + k))) (((e.2 (25 + i)) (mr (nm (4 * i + k)))) + ((M.2.1 15 (4 * i + k)).toInt64))))), by exact congrArg (fun y => (e.1, va_up e.2 (25 + i) y)) (by rw [cad, if_pos hc5]; rfl), rfl⟩ dX2_addOwnNeed_104
theorem f_X2_findOwnNeeds_39 : kF wsX2_findOwnNeeds RX2 39 5 0 := ⟨_, RX2, TX2, 9, fun _ h => (List.mem_cons_of_mem _ (List.mem_append_left _ (List.mem_append_left _ (List.mem_append_left _ (List.mem_append_left _ (List.mem_append_left _ (List.mem_append_left _ (List.mem_append_right _ h)))))))), (List.mem_cons_of_mem _ (List.mem_append_left _ (List.mem_append_left _ (List.mem_append_left _ (List.mem_append_left _ (List.mem_append_left _ (List.mem_append_left _ (List.mem_append_left _ (List.mem_append_left _ (List.mem_of_getElem? (i := 0) rfl)))))))))), rfl, by decide, rfl⟩
theorem f_X2_findOwnNeeds_43 : kF wsX2_findOwnNeeds RX2 43 9 2 := ⟨_, RX6, TX6, 7, fun _ h => (List.mem_cons_of_mem _ (List.mem_append_left _ (List.mem_append_left _ (List.mem_append_left _ (List.mem_append_left _ (List.mem_append_left _ (List.mem_append_right _ h))))))), (List.mem_cons_of_mem _ (List.mem_append_left _ (List.mem_append_left _ (List.mem_append_left _ (List.mem_append_left _ (List.mem_append_left _ (List.mem_append_left _ (List.mem_append_left _ (List.mem_append_left _ (List.mem_of_getElem? (i := 1) rfl)))))))))), rfl, by decide, rfl⟩
theorem f_X2_findOwnNeeds_23 : kF wsX2_findOwnNeeds RX2 23 5 4 := ⟨_, RX2, TX2, 9, fun _ h => (List.mem_cons_of_mem _ (List.mem_append_left _ (List.mem_append_left _ (List.mem_append_left _ (List.mem_append_left _ (List.mem_append_left _ (List.mem_append_left _ (List.mem_append_right _ h)))))))), (List.mem_cons_of_mem _ (List.mem_append_left _ (List.mem_append_left _ (List.mem_append_left _ (List.mem_append_left _ (List.mem_append_left _ (List.mem_append_left _ (List.mem_append_left _ (List.mem_append_left _ (List.mem_of_getElem? (i := 2) rfl)))))))))), rfl, by decide, rfl⟩
theorem f_X2_findOwnNeeds_100 : kF wsX2_findOwnNeeds RX2 100 6 1 := ⟨_, RX3, TX3, 2, fun _ h => (List.mem_cons_of_mem _ (List.mem_append_left _ (List.mem_append_left _ (List.mem_append_left _ (List.mem_append_left _ (List.mem_append_right _ h)))))), (List.mem_cons_of_mem _ (List.mem_append_left _ (List.mem_append_left _ (List.mem_append_left _ (List.mem_append_left _ (List.mem_append_left _ (List.mem_append_left _ (List.mem_append_left _ (List.mem_append_left _ (List.mem_of_getElem? (i := 4) rfl)))))))))), rfl, by decide, rfl⟩
set_option maxRecDepth 100000 in
set_option maxHeartbeats 4000000 in
theorem c_X2_findOwnNeeds (l : Launch) (dd : kDD) (ks : List Nat) (ad : Nat → Nat) (E : Nat → va_E) (e : eS) (M : mS) (nR nC nt nL nW nV nM : Nat) (cn nm mn me li rl : Nat → Nat) (on : Int32) (hO : cO dd ks ad E on) (hR : cR dd ks ad E M nR) (hC : cC dd ks ad E M nC mn me) (hT : cT dd ks ad E M nt cn nm) (hL : cL dd ks ad E M nL nW li) (hW : cW dd ks ad E M nW rl) (hV : cV dd ks ad E M nV) (hM : cM dd ks ad E M nM) (hB : cB M nR nC nt nL nW nV cn nm mn me li rl) (mr : Nat → Nat) (hmr : ∀ j, j < nR → e.1 18 j = nI (mr j) ∧ mr j < nR) : kCv l yX2_findOwnNeeds wsX2_findOwnNeeds ({ frames := 4, cells := 0, slots := 0, locals := 88 } : Room) 0 0 dd [.ref (ad 2)] (ks, ad, (cE dd E e)) (kQv (S := eS) (fun z => (e.1, crow e.2 25 (fun i => cow (M.2.1 13) (M.2.1 15) (M.2.1 9) nm mn mr me (4 * i) (mset (e.2 (25 + i)) (fun _ => 0) 12) (cn i)) nt) = z) (fun _ => ks) (fun _ => ad) (fun z => cE dd E z)) := by
  refine kMetv (ws' := _) (cc := cX2_findOwnNeeds) (maxL := 5) (by decide) rfl (Nat.le_of_ble_eq_true rfl) (fun g X hr hnL hRR hl0 hkn => ?_)
  show kv dd g 0 0 0 [(0, .ref (ad 2))] [] ks ad (cE dd E e)
  obtain ⟨f20, f21, hf20, hf21, hff⟩ := hO.2.2.2.2
  have hT12 := hT.1
  refine kv_iconst (v := 0) X dX2_findOwnNeeds_0 (by decide) ?_
  refine kv_istore_n (lv2 := [(1, .int 0), (0, .ref (ad 2))]) X dX2_findOwnNeeds_1 rfl (by rw [hnL]; decide) rfl ?_
  refine kv_e (e.1, crow e.2 25 (fun i => cow (M.2.1 13) (M.2.1 15) (M.2.1 9) nm mn mr me (4 * i) (mset (e.2 (25 + i)) (fun _ => 0) 12) (cn i)) 0) (by rw [crow_0]) ?_
  have L2 : ∀ (n9 i : Nat), i + n9 = nt → ∀ (_ : Unit) , kv dd g 0 0 2 [(1, .int (nI i)), (0, .ref (ad 2))] [] ks ad (cE dd E (e.1, crow e.2 25 (fun i => cow (M.2.1 13) (M.2.1 15) (M.2.1 9) nm mn mr me (4 * i) (mset (e.2 (25 + i)) (fun _ => 0) 12) (cn i)) i)) := by
    intro n9
    induction n9 with
    | zero =>
      intro i hin2 _ 
      refine kv_iload_n X 0 dX2_findOwnNeeds_2 rfl rfl ?_
      refine kv_aload_n X 1 dX2_findOwnNeeds_3 rfl rfl ?_
      refine kv_getfield X f_X2_findOwnNeeds_39 (κ := 2) (fs := [.ref (ad 1), .ref (ad 17), .ref (ad 18), .ref (ad 19), .ref (ad 20), .ref (ad 21), .ref (ad 22), .ref (ad 23), .ref (ad 24)]) (v := .ref (ad 1)) hO.2.2.1.1 ((cE_ne (by omega)).trans hO.2.2.1.2) rfl dX2_findOwnNeeds_4 ?_
      refine kv_getfield X f_X2_findOwnNeeds_43 (κ := 1) (fs := [.ref (ad 3), .ref (ad 4), .ref (ad 5), .ref (ad 6), .ref (ad 7), .ref (ad 8), .ref (ad 9)]) (v := .ref (ad 5)) hO.2.1.1 ((cE_ne (by omega)).trans hO.2.1.2) rfl dX2_findOwnNeeds_7 ?_
      obtain ⟨_, _, o10⟩ := kLs_obj (dd := dd) (ks := ks) (ad := ad) (E := (cE dd E (e.1, crow e.2 25 (fun i => cow (M.2.1 13) (M.2.1 15) (M.2.1 9) nm mn mr me (4 * i) (mset (e.2 (25 + i)) (fun _ => 0) 12) (cn i)) i))) (kLs_cE hT.2.1 (by omega) (by omega) (fun i hi => by omega))
      refine kv_calliV (ci := 2) (κ := 5) (r1 := (TJx4a65c, 3)) (As := []) [.int (nI i)] X (c_Jx4a65c_size_8abf5 l dd ks ad (cE dd E (e.1, crow e.2 25 (fun i => cow (M.2.1 13) (M.2.1 15) (M.2.1 9) nm mn mr me (4 * i) (mset (e.2 (25 + i)) (fun _ => 0) 12) (cn i)) i)) (5) (12) (nt) (fun i => 96 + i) 6 (kLs_cE hT.2.1 (by omega) (by omega) (fun i hi => by omega))) hl0 (kCV_of X 0 gX2_findOwnNeeds_Jx4a65c_size_8abf5 rfl rfl rfl (by decide +kernel) hRR ⟨(Nat.le_of_ble_eq_true rfl), (Nat.le_of_ble_eq_true rfl)⟩) hT.2.1.1 o10 rfl rfl rfl (Nat.le_of_ble_eq_true rfl) hRR ⟨(Nat.le_of_ble_eq_true rfl), (Nat.le_of_ble_eq_true rfl)⟩ dX2_findOwnNeeds_10 (fun r z hp => ?_)
      obtain rfl := hp
      refine kn_icmp_ge (x := i) (y := nt) (tgt := 84) X (by omega) (by omega) dX2_findOwnNeeds_13 (by decide) (fun hc13 => ?_) (fun hc13 => absurd hc13 (by omega))
      exact kv_return X hr (Nat.le_of_ble_eq_true rfl) (Nat.le_of_ble_eq_true rfl) ⟨(e.1, crow e.2 25 (fun i => cow (M.2.1 13) (M.2.1 15) (M.2.1 9) nm mn mr me (4 * i) (mset (e.2 (25 + i)) (fun _ => 0) 12) (cn i)) nt), rfl, by rw [show i = nt by omega]⟩ dX2_findOwnNeeds_84
    | succ n9 ih2 =>
      intro i hin2 _ 
      refine kv_iload_n X 0 dX2_findOwnNeeds_2 rfl rfl ?_
      refine kv_aload_n X 1 dX2_findOwnNeeds_3 rfl rfl ?_
      refine kv_getfield X f_X2_findOwnNeeds_39 (κ := 2) (fs := [.ref (ad 1), .ref (ad 17), .ref (ad 18), .ref (ad 19), .ref (ad 20), .ref (ad 21), .ref (ad 22), .ref (ad 23), .ref (ad 24)]) (v := .ref (ad 1)) hO.2.2.1.1 ((cE_ne (by omega)).trans hO.2.2.1.2) rfl dX2_findOwnNeeds_4 ?_
      refine kv_getfield X f_X2_findOwnNeeds_43 (κ := 1) (fs := [.ref (ad 3), .ref (ad 4), .ref (ad 5), .ref (ad 6), .ref (ad 7), .ref (ad 8), .ref (ad 9)]) (v := .ref (ad 5)) hO.2.1.1 ((cE_ne (by omega)).trans hO.2.1.2) rfl dX2_findOwnNeeds_7 ?_
      obtain ⟨_, _, o10⟩ := kLs_obj (dd := dd) (ks := ks) (ad := ad) (E := (cE dd E (e.1, crow e.2 25 (fun i => cow (M.2.1 13) (M.2.1 15) (M.2.1 9) nm mn mr me (4 * i) (mset (e.2 (25 + i)) (fun _ => 0) 12) (cn i)) i))) (kLs_cE hT.2.1 (by omega) (by omega) (fun i hi => by omega))
      refine kv_calliV (ci := 2) (κ := 5) (r1 := (TJx4a65c, 3)) (As := []) [.int (nI i)] X (c_Jx4a65c_size_8abf5 l dd ks ad (cE dd E (e.1, crow e.2 25 (fun i => cow (M.2.1 13) (M.2.1 15) (M.2.1 9) nm mn mr me (4 * i) (mset (e.2 (25 + i)) (fun _ => 0) 12) (cn i)) i)) (5) (12) (nt) (fun i => 96 + i) 6 (kLs_cE hT.2.1 (by omega) (by omega) (fun i hi => by omega))) hl0 (kCV_of X 0 gX2_findOwnNeeds_Jx4a65c_size_8abf5 rfl rfl rfl (by decide +kernel) hRR ⟨(Nat.le_of_ble_eq_true rfl), (Nat.le_of_ble_eq_true rfl)⟩) hT.2.1.1 o10 rfl rfl rfl (Nat.le_of_ble_eq_true rfl) hRR ⟨(Nat.le_of_ble_eq_true rfl), (Nat.le_of_ble_eq_true rfl)⟩ dX2_findOwnNeeds_10 (fun r z hp => ?_)
      obtain rfl := hp
      refine kn_icmp_ge (x := i) (y := nt) (tgt := 84) X (by omega) (by omega) dX2_findOwnNeeds_13 (by decide) (fun hc13 => absurd hc13 (by omega)) (fun hc13 => ?_)
      refine kv_aload_n X 1 dX2_findOwnNeeds_16 rfl rfl ?_
      refine kv_getfield X f_X2_findOwnNeeds_23 (κ := 2) (fs := [.ref (ad 1), .ref (ad 17), .ref (ad 18), .ref (ad 19), .ref (ad 20), .ref (ad 21), .ref (ad 22), .ref (ad 23), .ref (ad 24)]) (v := .ref (ad 20)) hO.2.2.1.1 ((cE_ne (by omega)).trans hO.2.2.1.2) rfl dX2_findOwnNeeds_17 ?_
      refine kv_iload_n X 0 dX2_findOwnNeeds_20 rfl rfl ?_
      refine kv_aaloadJ X (κ := 20) (n := 12) (j := i) (f := f20) (hO.2.2.2.1 _ (by omega) (by omega)) ((cE_ne (by omega)).trans hf20) (by omega) (by omega) dX2_findOwnNeeds_21 ?_
      refine kv_topg (.ref (ad (25 + i))) (by rw [(hff i (by omega)).1]; rfl) ?_
      refine kv_astore_n (lv2 := [(2, .ref (ad (25 + i))), (1, .int (nI i)), (0, .ref (ad 2))]) X dX2_findOwnNeeds_22 rfl (by rw [hnL]; decide) rfl ?_
      refine kv_aload_n X 0 dX2_findOwnNeeds_23 rfl rfl ?_
      refine kv_lconst (v := 0) X dX2_findOwnNeeds_24 (by decide) ?_
      refine kv_callvS (As := [.ref (ad (25 + i)), .long 0]) [] X (c_J7_fill_d0a16 l dd ks ad (cE dd E (e.1, crow e.2 25 (fun i => cow (M.2.1 13) (M.2.1 15) (M.2.1 9) nm mn mr me (4 * i) (mset (e.2 (25 + i)) (fun _ => 0) 12) (cn i)) i)) (25 + i) 12 ((e.1, crow e.2 25 (fun i => cow (M.2.1 13) (M.2.1 15) (M.2.1 9) nm mn mr me (4 * i) (mset (e.2 (25 + i)) (fun _ => 0) 12) (cn i)) i).2 (25 + i)) 0 (hO.2.2.2.1 _ (by omega) (by omega)) (cE_J12 (by omega)) (by omega)) hl0 (kCS_of X 2 gX2_findOwnNeeds_J7_fill_d0a16 rfl rfl rfl (by decide +kernel) hRR ⟨(Nat.le_of_ble_eq_true rfl), (Nat.le_of_ble_eq_true rfl)⟩) rfl rfl (Nat.le_of_ble_eq_true rfl) hRR ⟨(Nat.le_of_ble_eq_true rfl), (Nat.le_of_ble_eq_true rfl)⟩ dX2_findOwnNeeds_25 (fun z hp => ?_)
      refine kv_E (fun j _ => cE_up12 (k := 25 + i) (by omega) _ j) ?_
      refine kv_aload_n X 2 dX2_findOwnNeeds_28 rfl rfl ?_
      refine kv_getfield X f_X2_findOwnNeeds_39 (κ := 2) (fs := [.ref (ad 1), .ref (ad 17), .ref (ad 18), .ref (ad 19), .ref (ad 20), .ref (ad 21), .ref (ad 22), .ref (ad 23), .ref (ad 24)]) (v := .ref (ad 1)) hO.2.2.1.1 ((cE_ne (by omega)).trans hO.2.2.1.2) rfl dX2_findOwnNeeds_29 ?_
      refine kv_getfield X f_X2_findOwnNeeds_43 (κ := 1) (fs := [.ref (ad 3), .ref (ad 4), .ref (ad 5), .ref (ad 6), .ref (ad 7), .ref (ad 8), .ref (ad 9)]) (v := .ref (ad 5)) hO.2.1.1 ((cE_ne (by omega)).trans hO.2.1.2) rfl dX2_findOwnNeeds_32 ?_
      refine kv_iload_n X 1 dX2_findOwnNeeds_35 rfl rfl ?_
      obtain ⟨_, _, o36⟩ := kLs_obj (dd := dd) (ks := ks) (ad := ad) (E := (cE dd E ((e.1, crow e.2 25 (fun i => cow (M.2.1 13) (M.2.1 15) (M.2.1 9) nm mn mr me (4 * i) (mset (e.2 (25 + i)) (fun _ => 0) 12) (cn i)) i).1, (va_up (e.1, crow e.2 25 (fun i => cow (M.2.1 13) (M.2.1 15) (M.2.1 9) nm mn mr me (4 * i) (mset (e.2 (25 + i)) (fun _ => 0) 12) (cn i)) i).2 (25 + i) (mset ((e.1, crow e.2 25 (fun i => cow (M.2.1 13) (M.2.1 15) (M.2.1 9) nm mn mr me (4 * i) (mset (e.2 (25 + i)) (fun _ => 0) 12) (cn i)) i).2 (25 + i)) (fun _ => 0) 12))))) (kLs_cE hT.2.1 (by omega) (by omega) (fun i hi => by omega))
      refine kv_callqV (ci := 2) (κ := 5) (r1 := (TJx4a65c, 3)) (As := [.int (nI i)]) [] X (c_Jx4a65c_get_915e3 l dd ks ad (cE dd E ((e.1, crow e.2 25 (fun i => cow (M.2.1 13) (M.2.1 15) (M.2.1 9) nm mn mr me (4 * i) (mset (e.2 (25 + i)) (fun _ => 0) 12) (cn i)) i).1, (va_up (e.1, crow e.2 25 (fun i => cow (M.2.1 13) (M.2.1 15) (M.2.1 9) nm mn mr me (4 * i) (mset (e.2 (25 + i)) (fun _ => 0) 12) (cn i)) i).2 (25 + i) (mset ((e.1, crow e.2 25 (fun i => cow (M.2.1 13) (M.2.1 15) (M.2.1 9) nm mn mr me (4 * i) (mset (e.2 (25 + i)) (fun _ => 0) 12) (cn i)) i).2 (25 + i)) (fun _ => 0) 12)))) (5) (12) (nt) (fun i => 96 + i) 6 (kLs_cE hT.2.1 (by omega) (by omega) (fun i hi => by omega)) i (by omega)) hl0 (kCV_of X 1 gX2_findOwnNeeds_Jx4a65c_get_915e3 rfl rfl rfl (by decide +kernel) hRR ⟨(Nat.le_of_ble_eq_true rfl), (Nat.le_of_ble_eq_true rfl)⟩) hT.2.1.1 o36 rfl rfl rfl (Nat.le_of_ble_eq_true rfl) hRR ⟨(Nat.le_of_ble_eq_true rfl), (Nat.le_of_ble_eq_true rfl)⟩ dX2_findOwnNeeds_36 (fun r z hp => ?_)
      obtain rfl := hp
      refine kv_topg (.ref (ad (96 + i))) rfl ?_
      refine kv_cast X (κ := 96 + i) (ci := 6) (fs := [.int (M.2.1 11 i), .ref (ad (112 + i))]) (r := (RX3, TX3, 2)) (List.mem_cons_of_mem _ (List.mem_append_left _ (List.mem_append_left _ (List.mem_append_left _ (List.mem_append_left _ (List.mem_append_left _ (List.mem_append_left _ (List.mem_append_left _ (List.mem_append_left _ (List.mem_of_getElem? (i := 3) rfl)))))))))) (hT.2.2 i (by omega)).1 ((cE_ne (by omega)).trans (hT.2.2 i (by omega)).2.1) rfl dX2_findOwnNeeds_39 ?_
      refine kv_getfield X f_X2_findOwnNeeds_100 (κ := 96 + i) (fs := [.int (M.2.1 11 i), .ref (ad (112 + i))]) (v := .ref (ad (112 + i))) (hT.2.2 i (by omega)).1 ((cE_ne (by omega)).trans (hT.2.2 i (by omega)).2.1) rfl dX2_findOwnNeeds_42 ?_
      refine kv_astore_n (lv2 := [(3, .ref (ad (112 + i))), (2, .ref (ad (25 + i))), (1, .int (nI i)), (0, .ref (ad 2))]) X dX2_findOwnNeeds_45 rfl (by rw [hnL]; decide) rfl ?_
      refine kv_iconst (v := 0) X dX2_findOwnNeeds_46 (by decide) ?_
      refine kv_istore (lv2 := [(4, .int 0), (3, .ref (ad (112 + i))), (2, .ref (ad (25 + i))), (1, .int (nI i)), (0, .ref (ad 2))]) X dX2_findOwnNeeds_47 (by rw [hnL]; decide) rfl ?_
      have hcn4 := (hT.2.2 i (by omega)).2.2.1
      have L49 : ∀ (n8 k : Nat), k + n8 = cn i → ∀ (_ : Unit) , kv dd g 0 0 49 [(4, .int (nI k)), (3, .ref (ad (112 + i))), (2, .ref (ad (25 + i))), (0, .ref (ad 2)), (1, .int (nI i))] [] ks ad (cE dd E ((e.1, crow e.2 25 (fun i => cow (M.2.1 13) (M.2.1 15) (M.2.1 9) nm mn mr me (4 * i) (mset (e.2 (25 + i)) (fun _ => 0) 12) (cn i)) i).1, (va_up (e.1, crow e.2 25 (fun i => cow (M.2.1 13) (M.2.1 15) (M.2.1 9) nm mn mr me (4 * i) (mset (e.2 (25 + i)) (fun _ => 0) 12) (cn i)) i).2 (25 + i) (cow (M.2.1 13) (M.2.1 15) (M.2.1 9) nm mn mr me (4 * i) (mset ((e.1, crow e.2 25 (fun i => cow (M.2.1 13) (M.2.1 15) (M.2.1 9) nm mn mr me (4 * i) (mset (e.2 (25 + i)) (fun _ => 0) 12) (cn i)) i).2 (25 + i)) (fun _ => 0) 12) k)))) := by
        intro n8
        induction n8 with
        | zero =>
          intro k hin49 _ 
          refine kv_iload X 0 dX2_findOwnNeeds_49 rfl ?_
          refine kv_aload_n X 1 dX2_findOwnNeeds_51 rfl rfl ?_
          obtain ⟨_, _, o52⟩ := kLs_obj (dd := dd) (ks := ks) (ad := ad) (E := (cE dd E ((e.1, crow e.2 25 (fun i => cow (M.2.1 13) (M.2.1 15) (M.2.1 9) nm mn mr me (4 * i) (mset (e.2 (25 + i)) (fun _ => 0) 12) (cn i)) i).1, (va_up (e.1, crow e.2 25 (fun i => cow (M.2.1 13) (M.2.1 15) (M.2.1 9) nm mn mr me (4 * i) (mset (e.2 (25 + i)) (fun _ => 0) 12) (cn i)) i).2 (25 + i) (cow (M.2.1 13) (M.2.1 15) (M.2.1 9) nm mn mr me (4 * i) (mset ((e.1, crow e.2 25 (fun i => cow (M.2.1 13) (M.2.1 15) (M.2.1 9) nm mn mr me (4 * i) (mset (e.2 (25 + i)) (fun _ => 0) 12) (cn i)) i).2 (25 + i)) (fun _ => 0) 12) k))))) (kLs_cE (hT.2.2 i (by omega)).2.2.2.1 (by omega) (by omega) (fun i hi => by omega))
          refine kv_calliV (ci := 2) (κ := 112 + i) (r1 := (TJx4a65c, 3)) (As := []) [.int (nI k)] X (c_Jx4a65c_size_8abf5 l dd ks ad (cE dd E ((e.1, crow e.2 25 (fun i => cow (M.2.1 13) (M.2.1 15) (M.2.1 9) nm mn mr me (4 * i) (mset (e.2 (25 + i)) (fun _ => 0) 12) (cn i)) i).1, (va_up (e.1, crow e.2 25 (fun i => cow (M.2.1 13) (M.2.1 15) (M.2.1 9) nm mn mr me (4 * i) (mset (e.2 (25 + i)) (fun _ => 0) 12) (cn i)) i).2 (25 + i) (cow (M.2.1 13) (M.2.1 15) (M.2.1 9) nm mn mr me (4 * i) (mset ((e.1, crow e.2 25 (fun i => cow (M.2.1 13) (M.2.1 15) (M.2.1 9) nm mn mr me (4 * i) (mset (e.2 (25 + i)) (fun _ => 0) 12) (cn i)) i).2 (25 + i)) (fun _ => 0) 12) k)))) (112 + i) (128 + i) (cn i) (fun k => 144 + (4 * i + k)) 3 (kLs_cE (hT.2.2 i (by omega)).2.2.2.1 (by omega) (by omega) (fun i hi => by omega))) hl0 (kCV_of X 0 gX2_findOwnNeeds_Jx4a65c_size_8abf5 rfl rfl rfl (by decide +kernel) hRR ⟨(Nat.le_of_ble_eq_true rfl), (Nat.le_of_ble_eq_true rfl)⟩) (hT.2.2 i (by omega)).2.2.2.1.1 o52 rfl rfl rfl (Nat.le_of_ble_eq_true rfl) hRR ⟨(Nat.le_of_ble_eq_true rfl), (Nat.le_of_ble_eq_true rfl)⟩ dX2_findOwnNeeds_52 (fun r z hp => ?_)
          obtain rfl := hp
          refine kn_icmp_ge (x := k) (y := cn i) (tgt := 78) X (by omega) (by omega) dX2_findOwnNeeds_55 (by decide) (fun hc55 => ?_) (fun hc55 => absurd hc55 (by omega))
          refine kv_e (e.1, crow e.2 25 (fun i => cow (M.2.1 13) (M.2.1 15) (M.2.1 9) nm mn mr me (4 * i) (mset (e.2 (25 + i)) (fun _ => 0) 12) (cn i)) (i + 1)) (by show ((e.1, crow e.2 25 (fun i => cow (M.2.1 13) (M.2.1 15) (M.2.1 9) nm mn mr me (4 * i) (mset (e.2 (25 + i)) (fun _ => 0) 12) (cn i)) i).1, (va_up (e.1, crow e.2 25 (fun i => cow (M.2.1 13) (M.2.1 15) (M.2.1 9) nm mn mr me (4 * i) (mset (e.2 (25 + i)) (fun _ => 0) 12) (cn i)) i).2 (25 + i) (cow (M.2.1 13) (M.2.1 15) (M.2.1 9) nm mn mr me (4 * i) (mset ((e.1, crow e.2 25 (fun i => cow (M.2.1 13) (M.2.1 15) (M.2.1 9) nm mn mr me (4 * i) (mset (e.2 (25 + i)) (fun _ => 0) 12) (cn i)) i).2 (25 + i)) (fun _ => 0) 12) k))) = _; rw [show k = cn i by omega]; refine congrArg (fun y => (e.1, y)) ?_; rw [← crow_s]; refine congrArg (fun y => va_up (crow e.2 25 (fun i => cow (M.2.1 13) (M.2.1 15) (M.2.1 9) nm mn mr me (4 * i) (mset (e.2 (25 + i)) (fun _ => 0) 12) (cn i)) i) (25 + i) y) ?_; show cow (M.2.1 13) (M.2.1 15) (M.2.1 9) nm mn mr me (4 * i) (mset (crow e.2 25 (fun i => cow (M.2.1 13) (M.2.1 15) (M.2.1 9) nm mn mr me (4 * i) (mset (e.2 (25 + i)) (fun _ => 0) 12) (cn i)) i (25 + i)) (fun _ => 0) 12) (cn i) = _; rw [crow_out (by omega)]) ?_
          refine kv_iinc (j := 4) (v := (nI (i + 1))) (lv2 := [(1, .int (nI (i + 1))), (4, .int (nI k)), (3, .ref (ad (112 + i))), (2, .ref (ad (25 + i))), (0, .ref (ad 2))]) X dX2_findOwnNeeds_78 rfl (nI_add i 1) (by rw [hnL]; decide) rfl ?_
          refine kv_goto (tgt := 2) X dX2_findOwnNeeds_81 (by decide) ?_
          exact kv_lv [0, 4] rfl (ih2 (i + 1) (by omega) ())
        | succ n8 ih49 =>
          intro k hin49 _ 
          refine kv_iload X 0 dX2_findOwnNeeds_49 rfl ?_
          refine kv_aload_n X 1 dX2_findOwnNeeds_51 rfl rfl ?_
          obtain ⟨_, _, o52⟩ := kLs_obj (dd := dd) (ks := ks) (ad := ad) (E := (cE dd E ((e.1, crow e.2 25 (fun i => cow (M.2.1 13) (M.2.1 15) (M.2.1 9) nm mn mr me (4 * i) (mset (e.2 (25 + i)) (fun _ => 0) 12) (cn i)) i).1, (va_up (e.1, crow e.2 25 (fun i => cow (M.2.1 13) (M.2.1 15) (M.2.1 9) nm mn mr me (4 * i) (mset (e.2 (25 + i)) (fun _ => 0) 12) (cn i)) i).2 (25 + i) (cow (M.2.1 13) (M.2.1 15) (M.2.1 9) nm mn mr me (4 * i) (mset ((e.1, crow e.2 25 (fun i => cow (M.2.1 13) (M.2.1 15) (M.2.1 9) nm mn mr me (4 * i) (mset (e.2 (25 + i)) (fun _ => 0) 12) (cn i)) i).2 (25 + i)) (fun _ => 0) 12) k))))) (kLs_cE (hT.2.2 i (by omega)).2.2.2.1 (by omega) (by omega) (fun i hi => by omega))
          refine kv_calliV (ci := 2) (κ := 112 + i) (r1 := (TJx4a65c, 3)) (As := []) [.int (nI k)] X (c_Jx4a65c_size_8abf5 l dd ks ad (cE dd E ((e.1, crow e.2 25 (fun i => cow (M.2.1 13) (M.2.1 15) (M.2.1 9) nm mn mr me (4 * i) (mset (e.2 (25 + i)) (fun _ => 0) 12) (cn i)) i).1, (va_up (e.1, crow e.2 25 (fun i => cow (M.2.1 13) (M.2.1 15) (M.2.1 9) nm mn mr me (4 * i) (mset (e.2 (25 + i)) (fun _ => 0) 12) (cn i)) i).2 (25 + i) (cow (M.2.1 13) (M.2.1 15) (M.2.1 9) nm mn mr me (4 * i) (mset ((e.1, crow e.2 25 (fun i => cow (M.2.1 13) (M.2.1 15) (M.2.1 9) nm mn mr me (4 * i) (mset (e.2 (25 + i)) (fun _ => 0) 12) (cn i)) i).2 (25 + i)) (fun _ => 0) 12) k)))) (112 + i) (128 + i) (cn i) (fun k => 144 + (4 * i + k)) 3 (kLs_cE (hT.2.2 i (by omega)).2.2.2.1 (by omega) (by omega) (fun i hi => by omega))) hl0 (kCV_of X 0 gX2_findOwnNeeds_Jx4a65c_size_8abf5 rfl rfl rfl (by decide +kernel) hRR ⟨(Nat.le_of_ble_eq_true rfl), (Nat.le_of_ble_eq_true rfl)⟩) (hT.2.2 i (by omega)).2.2.2.1.1 o52 rfl rfl rfl (Nat.le_of_ble_eq_true rfl) hRR ⟨(Nat.le_of_ble_eq_true rfl), (Nat.le_of_ble_eq_true rfl)⟩ dX2_findOwnNeeds_52 (fun r z hp => ?_)
          obtain rfl := hp
          refine kn_icmp_ge (x := k) (y := cn i) (tgt := 78) X (by omega) (by omega) dX2_findOwnNeeds_55 (by decide) (fun hc55 => absurd hc55 (by omega)) (fun hc55 => ?_)
          refine kv_aload_n X 3 dX2_findOwnNeeds_58 rfl rfl ?_
          refine kv_aload_n X 2 dX2_findOwnNeeds_59 rfl rfl ?_
          refine kv_aload_n X 1 dX2_findOwnNeeds_60 rfl rfl ?_
          refine kv_iload X 0 dX2_findOwnNeeds_61 rfl ?_
          obtain ⟨_, _, o63⟩ := kLs_obj (dd := dd) (ks := ks) (ad := ad) (E := (cE dd E ((e.1, crow e.2 25 (fun i => cow (M.2.1 13) (M.2.1 15) (M.2.1 9) nm mn mr me (4 * i) (mset (e.2 (25 + i)) (fun _ => 0) 12) (cn i)) i).1, (va_up (e.1, crow e.2 25 (fun i => cow (M.2.1 13) (M.2.1 15) (M.2.1 9) nm mn mr me (4 * i) (mset (e.2 (25 + i)) (fun _ => 0) 12) (cn i)) i).2 (25 + i) (cow (M.2.1 13) (M.2.1 15) (M.2.1 9) nm mn mr me (4 * i) (mset ((e.1, crow e.2 25 (fun i => cow (M.2.1 13) (M.2.1 15) (M.2.1 9) nm mn mr me (4 * i) (mset (e.2 (25 + i)) (fun _ => 0) 12) (cn i)) i).2 (25 + i)) (fun _ => 0) 12) k))))) (kLs_cE (hT.2.2 i (by omega)).2.2.2.1 (by omega) (by omega) (fun i hi => by omega))
          refine kv_callqV (ci := 2) (κ := 112 + i) (r1 := (TJx4a65c, 3)) (As := [.int (nI k)]) [.ref (ad (25 + i)), .ref (ad 2)] X (c_Jx4a65c_get_915e3 l dd ks ad (cE dd E ((e.1, crow e.2 25 (fun i => cow (M.2.1 13) (M.2.1 15) (M.2.1 9) nm mn mr me (4 * i) (mset (e.2 (25 + i)) (fun _ => 0) 12) (cn i)) i).1, (va_up (e.1, crow e.2 25 (fun i => cow (M.2.1 13) (M.2.1 15) (M.2.1 9) nm mn mr me (4 * i) (mset (e.2 (25 + i)) (fun _ => 0) 12) (cn i)) i).2 (25 + i) (cow (M.2.1 13) (M.2.1 15) (M.2.1 9) nm mn mr me (4 * i) (mset ((e.1, crow e.2 25 (fun i => cow (M.2.1 13) (M.2.1 15) (M.2.1 9) nm mn mr me (4 * i) (mset (e.2 (25 + i)) (fun _ => 0) 12) (cn i)) i).2 (25 + i)) (fun _ => 0) 12) k)))) (112 + i) (128 + i) (cn i) (fun k => 144 + (4 * i + k)) 3 (kLs_cE (hT.2.2 i (by omega)).2.2.2.1 (by omega) (by omega) (fun i hi => by omega)) k (by omega)) hl0 (kCV_of X 1 gX2_findOwnNeeds_Jx4a65c_get_915e3 rfl rfl rfl (by decide +kernel) hRR ⟨(Nat.le_of_ble_eq_true rfl), (Nat.le_of_ble_eq_true rfl)⟩) (hT.2.2 i (by omega)).2.2.2.1.1 o63 rfl rfl rfl (Nat.le_of_ble_eq_true rfl) hRR ⟨(Nat.le_of_ble_eq_true rfl), (Nat.le_of_ble_eq_true rfl)⟩ dX2_findOwnNeeds_63 (fun r z hp => ?_)
          obtain rfl := hp
          refine kv_topg (.ref (ad (144 + (4 * i + k)))) rfl ?_
          refine kv_cast X (κ := 144 + (4 * i + k)) (ci := 3) (fs := [.int (M.2.1 13 (4 * i + k)), .int (nI (nm (4 * i + k))), .int (M.2.1 15 (4 * i + k))]) (r := (RX0, TX0, 3)) (List.mem_cons_of_mem _ (List.mem_append_left _ (List.mem_append_left _ (List.mem_append_left _ (List.mem_append_left _ (List.mem_append_left _ (List.mem_append_left _ (List.mem_append_left _ (List.mem_append_left _ (List.mem_of_getElem? (i := 5) rfl)))))))))) ((hT.2.2 i (by omega)).2.2.2.2 k (by omega)).1 ((cE_ne (by omega)).trans ((hT.2.2 i (by omega)).2.2.2.2 k (by omega)).2) rfl dX2_findOwnNeeds_66 ?_
          refine kv_callvV (ci := 5) (κ := 2) (r1 := (TX2, 9)) (As := [.ref (ad (25 + i)), .ref (ad (144 + (4 * i + k)))]) [] X (c_X2_addOwnNeed l dd ks ad E ((e.1, crow e.2 25 (fun i => cow (M.2.1 13) (M.2.1 15) (M.2.1 9) nm mn mr me (4 * i) (mset (e.2 (25 + i)) (fun _ => 0) 12) (cn i)) i).1, (va_up (e.1, crow e.2 25 (fun i => cow (M.2.1 13) (M.2.1 15) (M.2.1 9) nm mn mr me (4 * i) (mset (e.2 (25 + i)) (fun _ => 0) 12) (cn i)) i).2 (25 + i) (cow (M.2.1 13) (M.2.1 15) (M.2.1 9) nm mn mr me (4 * i) (mset ((e.1, crow e.2 25 (fun i => cow (M.2.1 13) (M.2.1 15) (M.2.1 9) nm mn mr me (4 * i) (mset (e.2 (25 + i)) (fun _ => 0) 12) (cn i)) i).2 (25 + i)) (fun _ => 0) 12) k))) M nR nC nt nL nW nV nM cn nm mn me li rl on hO hR hC hT hL hW hV hM hB i k (by omega) (by omega) mr hmr) hl0 (kCV_of X 2 gX2_findOwnNeeds_X2_addOwnNeed rfl rfl rfl (by decide +kernel) hRR ⟨(Nat.le_of_ble_eq_true rfl), (Nat.le_of_ble_eq_true rfl)⟩) hO.2.2.1.1 ((cE_ne (by omega)).trans hO.2.2.1.2) rfl rfl rfl (Nat.le_of_ble_eq_true rfl) hRR ⟨(Nat.le_of_ble_eq_true rfl), (Nat.le_of_ble_eq_true rfl)⟩ dX2_findOwnNeeds_69 (fun z hp => ?_)
          obtain rfl := hp
          refine kv_e ((e.1, crow e.2 25 (fun i => cow (M.2.1 13) (M.2.1 15) (M.2.1 9) nm mn mr me (4 * i) (mset (e.2 (25 + i)) (fun _ => 0) 12) (cn i)) i).1, (va_up (va_up (e.1, crow e.2 25 (fun i => cow (M.2.1 13) (M.2.1 15) (M.2.1 9) nm mn mr me (4 * i) (mset (e.2 (25 + i)) (fun _ => 0) 12) (cn i)) i).2 (25 + i) (cow (M.2.1 13) (M.2.1 15) (M.2.1 9) nm mn mr me (4 * i) (mset ((e.1, crow e.2 25 (fun i => cow (M.2.1 13) (M.2.1 15) (M.2.1 9) nm mn mr me (4 * i) (mset (e.2 (25 + i)) (fun _ => 0) 12) (cn i)) i).2 (25 + i)) (fun _ => 0) 12) k)) (25 + i) (cad (M.2.1 13) (M.2.1 15) (M.2.1 9) nm mn mr me (4 * i + k) (cow (M.2.1 13) (M.2.1 15) (M.2.1 9) nm mn mr me (4 * i) (mset ((e.1, crow e.2 25 (fun i => cow (M.2.1 13) (M.2.1 15) (M.2.1 9) nm mn mr me (4 * i) (mset (e.2 (25 + i)) (fun _ => 0) 12) (cn i)) i).2 (25 + i)) (fun _ => 0) 12) k)))) (by show ((e.1, crow e.2 25 (fun i => cow (M.2.1 13) (M.2.1 15) (M.2.1 9) nm mn mr me (4 * i) (mset (e.2 (25 + i)) (fun _ => 0) 12) (cn i)) i).1, va_up (va_up (e.1, crow e.2 25 (fun i => cow (M.2.1 13) (M.2.1 15) (M.2.1 9) nm mn mr me (4 * i) (mset (e.2 (25 + i)) (fun _ => 0) 12) (cn i)) i).2 (25 + i) (cow (M.2.1 13) (M.2.1 15) (M.2.1 9) nm mn mr me (4 * i) (mset ((e.1, crow e.2 25 (fun i => cow (M.2.1 13) (M.2.1 15) (M.2.1 9) nm mn mr me (4 * i) (mset (e.2 (25 + i)) (fun _ => 0) 12) (cn i)) i).2 (25 + i)) (fun _ => 0) 12) k)) (25 + i) (cad (M.2.1 13) (M.2.1 15) (M.2.1 9) nm mn mr me (4 * i + k) ((va_up (e.1, crow e.2 25 (fun i => cow (M.2.1 13) (M.2.1 15) (M.2.1 9) nm mn mr me (4 * i) (mset (e.2 (25 + i)) (fun _ => 0) 12) (cn i)) i).2 (25 + i) (cow (M.2.1 13) (M.2.1 15) (M.2.1 9) nm mn mr me (4 * i) (mset ((e.1, crow e.2 25 (fun i => cow (M.2.1 13) (M.2.1 15) (M.2.1 9) nm mn mr me (4 * i) (mset (e.2 (25 + i)) (fun _ => 0) 12) (cn i)) i).2 (25 + i)) (fun _ => 0) 12) k)) (25 + i)))) = _; rw [va_up_self]) ?_
          refine kv_e ((e.1, crow e.2 25 (fun i => cow (M.2.1 13) (M.2.1 15) (M.2.1 9) nm mn mr me (4 * i) (mset (e.2 (25 + i)) (fun _ => 0) 12) (cn i)) i).1, (va_up (e.1, crow e.2 25 (fun i => cow (M.2.1 13) (M.2.1 15) (M.2.1 9) nm mn mr me (4 * i) (mset (e.2 (25 + i)) (fun _ => 0) 12) (cn i)) i).2 (25 + i) (cow (M.2.1 13) (M.2.1 15) (M.2.1 9) nm mn mr me (4 * i) (mset ((e.1, crow e.2 25 (fun i => cow (M.2.1 13) (M.2.1 15) (M.2.1 9) nm mn mr me (4 * i) (mset (e.2 (25 + i)) (fun _ => 0) 12) (cn i)) i).2 (25 + i)) (fun _ => 0) 12) (k + 1)))) (by show ((e.1, crow e.2 25 (fun i => cow (M.2.1 13) (M.2.1 15) (M.2.1 9) nm mn mr me (4 * i) (mset (e.2 (25 + i)) (fun _ => 0) 12) (cn i)) i).1, (va_up (va_up (e.1, crow e.2 25 (fun i => cow (M.2.1 13) (M.2.1 15) (M.2.1 9) nm mn mr me (4 * i) (mset (e.2 (25 + i)) (fun _ => 0) 12) (cn i)) i).2 (25 + i) (cow (M.2.1 13) (M.2.1 15) (M.2.1 9) nm mn mr me (4 * i) (mset ((e.1, crow e.2 25 (fun i => cow (M.2.1 13) (M.2.1 15) (M.2.1 9) nm mn mr me (4 * i) (mset (e.2 (25 + i)) (fun _ => 0) 12) (cn i)) i).2 (25 + i)) (fun _ => 0) 12) k)) (25 + i) (cad (M.2.1 13) (M.2.1 15) (M.2.1 9) nm mn mr me (4 * i + k) (cow (M.2.1 13) (M.2.1 15) (M.2.1 9) nm mn mr me (4 * i) (mset ((e.1, crow e.2 25 (fun i => cow (M.2.1 13) (M.2.1 15) (M.2.1 9) nm mn mr me (4 * i) (mset (e.2 (25 + i)) (fun _ => 0) 12) (cn i)) i).2 (25 + i)) (fun _ => 0) 12) k)))) = ((e.1, crow e.2 25 (fun i => cow (M.2.1 13) (M.2.1 15) (M.2.1 9) nm mn mr me (4 * i) (mset (e.2 (25 + i)) (fun _ => 0) 12) (cn i)) i).1, (va_up (e.1, crow e.2 25 (fun i => cow (M.2.1 13) (M.2.1 15) (M.2.1 9) nm mn mr me (4 * i) (mset (e.2 (25 + i)) (fun _ => 0) 12) (cn i)) i).2 (25 + i) (cow (M.2.1 13) (M.2.1 15) (M.2.1 9) nm mn mr me (4 * i) (mset ((e.1, crow e.2 25 (fun i => cow (M.2.1 13) (M.2.1 15) (M.2.1 9) nm mn mr me (4 * i) (mset (e.2 (25 + i)) (fun _ => 0) 12) (cn i)) i).2 (25 + i)) (fun _ => 0) 12) (k + 1)))); rw [va_up_up]; rfl) ?_
          refine kv_iinc (j := 0) (v := (nI (k + 1))) (lv2 := [(4, .int (nI (k + 1))), (3, .ref (ad (112 + i))), (2, .ref (ad (25 + i))), (0, .ref (ad 2)), (1, .int (nI i))]) X dX2_findOwnNeeds_72 rfl (nI_add k 1) (by rw [hnL]; decide) rfl ?_
          refine kv_goto (tgt := 49) X dX2_findOwnNeeds_75 (by decide) ?_
          exact kv_lv [0, 1, 2, 3, 4] rfl (ih49 (k + 1) (by omega) ())
      exact kv_lv [0, 1, 2, 4, 3] rfl (L49 (cn i) 0 (by omega) ())
  exact kv_lv [0, 1] rfl (L2 nt 0 (by omega) ())

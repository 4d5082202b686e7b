/-! the JDK: rows and lists that change -/
theorem mset_up {α : Type} {f g : Nat → α} {i : Nat} {x : α} (h : x = g i) : va_up (mset f g i) i x = mset f g (i + 1) := by
  funext k
  unfold va_up mset
  by_cases c : k = i
  · subst c; rw [if_pos rfl, if_pos (by omega), h]
  · rw [if_neg c]
    by_cases c2 : k < i
    · rw [if_pos c2, if_pos (by omega)]
    · rw [if_neg c2, if_neg (by omega)]
theorem kStp_up {ks ks2 : List Nat} {ad ad2 : Nat → Nat} {E E2 : Nat → va_E} {κ : Nat} {e e2 : va_E} (h : kStp ks ad E ks2 ad2 E2 κ e) : kStp ks ad E ks2 ad2 (va_up E2 κ e2) κ e2 := ⟨h.1, h.2.1, fun j hj => (va_up_ne _ _ hj).trans (h.2.2.1 j hj), va_up_self _ _ _⟩
theorem k_half {n : Nat} (h : n < 60) : nI n >>> (1 &&& 31) = nI (n / 2) := (by decide : ∀ n : Fin 60, nI n.1 >>> (1 &&& 31) = nI (n.1 / 2)) ⟨n, h⟩
theorem k_max1 {n : Nat} (h : n < 60) : (if (1 : Int32) < nI n then nI n else 1) = nI (max 1 n) := (by decide : ∀ n : Fin 60, (if (1 : Int32) < nI n.1 then nI n.1 else 1) = nI (max 1 n.1)) ⟨n, h⟩
theorem k_min {n N : Nat} (h : n ≤ N) (hN : N < 2 ^ 31) : (if nI N < nI n then nI N else nI n) = nI n := if_neg (by rw [nI_ltI (by omega) (by omega)]; omega)
/-- a list's object and its row, which q is: the JDK's empty one or the list's own -/
def kLq (dd : kDD) (ks : List Nat) (ad : Nat → Nat) (E : Nat → va_E) (lk ak n : Nat) (ek : Nat → Nat) (mc : Int32) (q : Nat) : Prop :=
  (n = 0 ∧ q = (ktE dd).1 ∧ E lk = .inr (2, [.int mc, .ref q, .int (nI n)])) ∨ (∃ cap f, q = ad ak ∧ ak ∈ ks ∧ n ≤ cap ∧ 0 < cap ∧ cap < 100 ∧ E ak = kO dd cap f ∧ (∀ i, i < n → f i = some (ad (ek i))) ∧ E lk = .inr (2, [.int mc, .ref q, .int (nI n)]))
/-- the world behind a list's growth or change: its row may lie elsewhere; m its size, c a bound of its row's length, its row's first k elements fs -/
def kGw (ks : List Nat) (ad : Nat → Nat) (E : Nat → va_E) (dd : kDD) (lk ak m c k : Nat) (mc : Int32) (fs : Nat → Option Nat) (z : kT) : Prop :=
  (∀ j, j ∈ z.1 ↔ j ∈ ks ∨ j = ak) ∧ (∀ j, j ≠ ak → z.2.1 j = ad j) ∧ (∀ j, j ≠ ak → j ≠ lk → z.2.2 j = E j) ∧ z.2.2 lk = .inr (2, [.int mc, .ref (z.2.1 ak), .int (nI m)]) ∧ ∃ cap f, c ≤ cap ∧ 0 < cap ∧ cap < 100 ∧ z.2.2 ak = kO dd cap f ∧ ∀ i, i < k → f i = fs i
theorem k_one {n : Nat} (h : n < 60) : nI (n + 1) - nI n = 1 := (by decide : ∀ n : Fin 60, nI (n.1 + 1) - nI n.1 = 1) ⟨n, h⟩
/-- elements that lie in lists -/
def kEs (ks : List Nat) (E : Nat → va_E) (lk ak n : Nat) (ek : Nat → Nat) (ci : Nat) : Prop := kEl ci ∧ ∀ i, i < n → ek i ∈ ks ∧ ek i ≠ lk ∧ ek i ≠ ak ∧ ∃ fs, E (ek i) = .inr (ci, fs)
theorem kEs_any {ks : List Nat} {ad : Nat → Nat} {E : Nat → va_E} {lk ak n : Nat} {ek : Nat → Nat} {ci : Nat} (h : kEs ks E lk ak n ek ci) {f : Nat → Option Nat} (hf : ∀ i, i < n → f i = some (ad (ek i))) : ∀ i, i < n → ∀ y, f i = some y → ∃ κv ci fs r, κv ∈ ks ∧ y = ad κv ∧ E κv = .inr (ci, fs) ∧ vwCl[ci]? = some r ∧ (r.1, "java/lang/Object") ∈ kCst := by
  intro i hi y hy
  obtain ⟨⟨r, hr1, hr2⟩, hE⟩ := h
  obtain ⟨b1, -, -, fs, b2⟩ := hE i hi
  rw [hf i hi] at hy
  exact ⟨ek i, ci, fs, r, b1, (Option.some.inj hy).symm, b2, hr1, hr2⟩


set_option maxRecDepth 100000 in
set_option maxHeartbeats 4000000 in
theorem c_J7_fill_53178 (l : Launch) (dd : kDD) (ks : List Nat) (ad : Nat → Nat) (E : Nat → va_E) (κ N : Nat) (f : Nat → Int32) (x : Int32) (hκ : κ ∈ ks) (hE : E κ = kI dd N f) (hN : N < 10000) : kCv l yJ7_fill_53178 wsJ7_fill_53178 ({ frames := 0, cells := 0, slots := 0, locals := 0 } : Room) 0 0 dd [.ref (ad κ), .int x] (ks, ad, E) (kQv (S := Unit) (fun z => True) (fun _ => ks) (fun _ => ad) (fun _ => va_up E κ (kI dd N (mset f (fun _ => x) N)))) := by
  refine kMetv (ws' := _) (cc := cJ7_fill_53178) (maxL := 4) (by decide) rfl (Nat.le_of_ble_eq_true rfl) (fun g X hr hnL hRR hl0 hkn => ?_)
  show kv dd g 0 0 0 [(0, .ref (ad κ)), (1, .int x)] [] ks ad E
  refine kv_iconst (v := 0) X dJ7_fill_53178_0 (by decide) ?_
  refine kv_istore_n (lv2 := [(2, .int 0), (0, .ref (ad κ)), (1, .int x)]) X dJ7_fill_53178_1 rfl (by rw [hnL]; decide) rfl ?_
  refine kv_aload_n X 1 dJ7_fill_53178_2 rfl rfl ?_
  refine kv_alenI X (κ := κ) (n := N) (f := f) hκ hE dJ7_fill_53178_3 ?_
  refine kv_istore_n (lv2 := [(3, .int (nI N)), (2, .int 0), (0, .ref (ad κ)), (1, .int x)]) X dJ7_fill_53178_4 rfl (by rw [hnL]; decide) rfl ?_
  refine kv_E (E2 := (va_up E κ (kI dd N (mset f (fun _ => x) (0))))) (fun j _ => by rw [mset_0]; exact (congrFun (by rw [← hE]; exact va_up_id E κ) j).symm) ?_
  have L5 : ∀ (n9 i : Nat), i + n9 = N → ∀ (_ : Unit) , kv dd g 0 0 5 [(2, .int (nI i)), (3, .int (nI N)), (0, .ref (ad κ)), (1, .int x)] [] ks ad (va_up E κ (kI dd N (mset f (fun _ => x) (i)))) := by
    intro n9
    induction n9 with
    | zero =>
      intro i hin5 _ 
      refine kv_iload_n X 0 dJ7_fill_53178_5 rfl rfl ?_
      refine kv_iload_n X 1 dJ7_fill_53178_6 rfl rfl ?_
      refine kn_icmp_ge (x := i) (y := N) (tgt := 20) X (by omega) (by omega) dJ7_fill_53178_7 (by decide) (fun hc7 => ?_) (fun hc7 => absurd hc7 (by omega))
      exact kv_return X hr (Nat.le_of_ble_eq_true rfl) (Nat.le_of_ble_eq_true rfl) ⟨(), trivial, by rw [show i = N by omega]⟩ dJ7_fill_53178_20
    | succ n9 ih5 =>
      intro i hin5 _ 
      refine kv_iload_n X 0 dJ7_fill_53178_5 rfl rfl ?_
      refine kv_iload_n X 1 dJ7_fill_53178_6 rfl rfl ?_
      refine kn_icmp_ge (x := i) (y := N) (tgt := 20) X (by omega) (by omega) dJ7_fill_53178_7 (by decide) (fun hc7 => absurd hc7 (by omega)) (fun hc7 => ?_)
      refine kv_aload_n X 2 dJ7_fill_53178_10 rfl rfl ?_
      refine kv_iload_n X 0 dJ7_fill_53178_11 rfl rfl ?_
      refine kv_iload_n X 3 dJ7_fill_53178_12 rfl rfl ?_
      refine kv_iastore X (κ := κ) (n := N) (j := i) (f := mset f (fun _ => x) (i)) (x := x) hκ (va_up_self _ _ _) (by omega) (by omega) dJ7_fill_53178_13 ?_
      refine kv_E (E2 := (va_up E κ (kI dd N (mset f (fun _ => x) (i + 1))))) (fun j _ => by rw [va_up_up, mset_up rfl]) ?_
      refine kv_iinc (j := 0) (v := (nI (i + 1))) (lv2 := [(2, .int (nI (i + 1))), (3, .int (nI N)), (0, .ref (ad κ)), (1, .int x)]) X dJ7_fill_53178_14 rfl (nI_add i 1) (by rw [hnL]; decide) rfl ?_
      refine kv_goto (tgt := 5) X dJ7_fill_53178_17 (by decide) ?_
      exact kv_lv [0, 1, 2, 3] rfl (ih5 (i + 1) (by omega) ())
  exact kv_lv [1, 0, 2, 3] rfl (L5 N 0 (by omega) ())

set_option maxRecDepth 100000 in
set_option maxHeartbeats 4000000 in
theorem c_J7_fill_d0a16 (l : Launch) (dd : kDD) (ks : List Nat) (ad : Nat → Nat) (E : Nat → va_E) (κ N : Nat) (f : Nat → Int64) (x : Int64) (hκ : κ ∈ ks) (hE : E κ = kJ dd N f) (hN : N < 10000) : kCv l yJ7_fill_d0a16 wsJ7_fill_d0a16 ({ frames := 0, cells := 0, slots := 0, locals := 0 } : Room) 0 0 dd [.ref (ad κ), .long x] (ks, ad, E) (kQv (S := Unit) (fun z => True) (fun _ => ks) (fun _ => ad) (fun _ => va_up E κ (kJ dd N (mset f (fun _ => x) N)))) := by
  refine kMetv (ws' := _) (cc := cJ7_fill_d0a16) (maxL := 5) (by decide) rfl (Nat.le_of_ble_eq_true rfl) (fun g X hr hnL hRR hl0 hkn => ?_)
  show kv dd g 0 0 0 [(0, .ref (ad κ)), (1, .long x)] [] ks ad E
  refine kv_iconst (v := 0) X dJ7_fill_d0a16_0 (by decide) ?_
  refine kv_istore_n (lv2 := [(3, .int 0), (0, .ref (ad κ)), (1, .long x)]) X dJ7_fill_d0a16_1 rfl (by rw [hnL]; decide) rfl ?_
  refine kv_aload_n X 1 dJ7_fill_d0a16_2 rfl rfl ?_
  refine kv_alenJ X (κ := κ) (n := N) (f := f) hκ hE dJ7_fill_d0a16_3 ?_
  refine kv_istore (lv2 := [(4, .int (nI N)), (3, .int 0), (0, .ref (ad κ)), (1, .long x)]) X dJ7_fill_d0a16_4 (by rw [hnL]; decide) rfl ?_
  refine kv_E (E2 := (va_up E κ (kJ dd N (mset f (fun _ => x) (0))))) (fun j _ => by rw [mset_0]; exact (congrFun (by rw [← hE]; exact va_up_id E κ) j).symm) ?_
  have L6 : ∀ (n9 i : Nat), i + n9 = N → ∀ (_ : Unit) , kv dd g 0 0 6 [(3, .int (nI i)), (4, .int (nI N)), (0, .ref (ad κ)), (1, .long x)] [] ks ad (va_up E κ (kJ dd N (mset f (fun _ => x) (i)))) := by
    intro n9
    induction n9 with
    | zero =>
      intro i hin6 _ 
      refine kv_iload_n X 0 dJ7_fill_d0a16_6 rfl rfl ?_
      refine kv_iload X 1 dJ7_fill_d0a16_7 rfl ?_
      refine kn_icmp_ge (x := i) (y := N) (tgt := 22) X (by omega) (by omega) dJ7_fill_d0a16_9 (by decide) (fun hc9 => ?_) (fun hc9 => absurd hc9 (by omega))
      exact kv_return X hr (Nat.le_of_ble_eq_true rfl) (Nat.le_of_ble_eq_true rfl) ⟨(), trivial, by rw [show i = N by omega]⟩ dJ7_fill_d0a16_22
    | succ n9 ih6 =>
      intro i hin6 _ 
      refine kv_iload_n X 0 dJ7_fill_d0a16_6 rfl rfl ?_
      refine kv_iload X 1 dJ7_fill_d0a16_7 rfl ?_
      refine kn_icmp_ge (x := i) (y := N) (tgt := 22) X (by omega) (by omega) dJ7_fill_d0a16_9 (by decide) (fun hc9 => absurd hc9 (by omega)) (fun hc9 => ?_)
      refine kv_aload_n X 2 dJ7_fill_d0a16_12 rfl rfl ?_
      refine kv_iload_n X 0 dJ7_fill_d0a16_13 rfl rfl ?_
      refine kv_lload_n X 3 dJ7_fill_d0a16_14 rfl rfl ?_
      refine kv_lastore X (κ := κ) (n := N) (j := i) (f := mset f (fun _ => x) (i)) (x := x) hκ (va_up_self _ _ _) (by omega) (by omega) dJ7_fill_d0a16_15 ?_
      refine kv_E (E2 := (va_up E κ (kJ dd N (mset f (fun _ => x) (i + 1))))) (fun j _ => by rw [va_up_up, mset_up rfl]) ?_
      refine kv_iinc (j := 0) (v := (nI (i + 1))) (lv2 := [(3, .int (nI (i + 1))), (4, .int (nI N)), (0, .ref (ad κ)), (1, .long x)]) X dJ7_fill_d0a16_16 rfl (nI_add i 1) (by rw [hnL]; decide) rfl ?_
      refine kv_goto (tgt := 6) X dJ7_fill_d0a16_19 (by decide) ?_
      exact kv_lv [0, 1, 2, 3] rfl (ih6 (i + 1) (by omega) ())
  exact kv_lv [1, 0, 2, 3] rfl (L6 N 0 (by omega) ())

set_option maxRecDepth 100000 in
set_option maxHeartbeats 4000000 in
theorem c_J8_newLength_cabcc (l : Launch) (dd : kDD) (ks : List Nat) (ad : Nat → Nat) (E : Nat → va_E) (n p : Nat) (hn : n < 60) (hp : p < 60) : kCi l yJ8_newLength_cabcc wsJ8_newLength_cabcc ({ frames := 1, cells := 0, slots := 0, locals := 21 } : Room) 0 0 dd [.int (nI n), .int 1, .int (nI p)] (ks, ad, E) (kQi (S := Unit) (fun r z => r = nI (n + max 1 p)) (fun _ => ks) (fun _ => ad) (fun _ => E)) := by
  refine kMeti (ws' := _) (cc := cJ8_newLength_cabcc) (maxL := 4) (rt := .int) (by decide) rfl (Nat.le_of_ble_eq_true rfl) (fun g X hr hnL hRR hl0 hkn => ?_)
  show kv dd g 0 0 0 [(0, .int (nI n)), (1, .int 1), (2, .int (nI p))] [] ks ad E
  refine kv_iload_n X 0 dJ8_newLength_cabcc_0 rfl rfl ?_
  refine kv_iload_n X 1 dJ8_newLength_cabcc_1 rfl rfl ?_
  refine kv_iload_n X 2 dJ8_newLength_cabcc_2 rfl rfl ?_
  refine kv_mmax X (List.mem_cons_of_mem _ (List.mem_of_getElem? (i := 0) rfl)) (List.mem_cons_of_mem _ (List.mem_of_getElem? (i := 1) rfl)) (List.mem_cons_of_mem _ (List.mem_of_getElem? (i := 2) rfl)) (List.mem_cons_of_mem _ (List.mem_of_getElem? (i := 3) rfl)) hRR (Nat.le_of_ble_eq_true rfl) ⟨(Nat.le_of_ble_eq_true rfl), (Nat.le_of_ble_eq_true rfl), (Nat.le_of_ble_eq_true rfl), (Nat.le_of_ble_eq_true rfl)⟩ dJ8_newLength_cabcc_3 ?_
  refine kv_topi (nI (max 1 p)) (k_max1 hp) ?_
  refine kv_iadd X dJ8_newLength_cabcc_6 ?_
  refine kv_topi (nI (n + (max 1 p))) (nI_add n (max 1 p)) ?_
  refine kv_istore_n (lv2 := [(3, .int (nI (n + (max 1 p)))), (0, .int (nI n)), (1, .int 1), (2, .int (nI p))]) X dJ8_newLength_cabcc_7 rfl (by rw [hnL]; decide) rfl ?_
  refine kv_iconst (v := 0) X dJ8_newLength_cabcc_8 (by decide) ?_
  refine kv_iload_n X 0 dJ8_newLength_cabcc_9 rfl rfl ?_
  refine kn_icmp_ge (x := 0) (y := n + (max 1 p)) (tgt := 21) X (by omega) (by omega) dJ8_newLength_cabcc_10 (by decide) (fun hc10 => absurd hc10 (by omega)) (fun hc10 => ?_)
  refine kv_iload_n X 0 dJ8_newLength_cabcc_13 rfl rfl ?_
  refine kv_ldc (v := 2147483639) X dJ8_newLength_cabcc_14 (List.mem_cons_of_mem _ (List.mem_of_getElem? (i := 4) rfl)) ?_
  refine kn_icmp_gt (x := n + (max 1 p)) (y := 2147483639) (tgt := 21) X (by omega) (by omega) dJ8_newLength_cabcc_16 (by decide) (fun hc16 => absurd hc16 (by omega)) (fun hc16 => ?_)
  refine kv_iload_n X 0 dJ8_newLength_cabcc_19 rfl rfl ?_
  exact kv_ireturn X hr (Nat.le_of_ble_eq_true rfl) (Nat.le_of_ble_eq_true rfl) ⟨(), rfl, rfl⟩ dJ8_newLength_cabcc_20

set_option maxRecDepth 100000 in
set_option maxHeartbeats 4000000 in
theorem c_J7_copyOf_6403c (l : Launch) (dd : kDD) (ks : List Nat) (ad : Nat → Nat) (E : Nat → va_E) (ak n N t ci : Nat) (ek : Nat → Nat) (lk : Nat) (f : Nat → Option Nat) (hak : ak ∈ ks) (hA : E ak = kO dd n f) (h0 : 0 < n) (hnN : n ≤ N) (hN : N < 90) (hf : ∀ i, i < n → f i = some (ad (ek i))) (hes : kEs ks E lk ak n ek ci) (ht : t ∉ ks) : kCq l yJ7_copyOf_6403c wsJ7_copyOf_6403c ({ frames := 1, cells := 1, slots := 90, locals := 40 } : Room) 1 90 dd [.ref (ad ak), .int (nI N), .ref (ktE dd).2] (ks, ad, E) (kQq (S := kT) (fun r z => r = some (z.2.1 t) ∧ kStp ks ad E z.1 z.2.1 z.2.2 t (kO dd N (va_cpy f (fun _ => none) 0 0 n))) (fun z => z.1) (fun z => z.2.1) (fun z => z.2.2)) := by
  refine kMetq (ws' := _) (cc := cJ7_copyOf_6403c) (maxL := 4) (rt := (.array (.object "java/lang/Object"))) (by decide) rfl (Nat.le_of_ble_eq_true rfl) (fun g X hr hnL hRR hl0 hkn => ?_)
  show kv dd g 0 0 0 [(0, .ref (ad ak)), (1, .int (nI N)), (2, .ref (ktE dd).2)] [] ks ad E
  refine kv_aload_n X 2 dJ7_copyOf_6403c_0 rfl rfl ?_
  refine kv_ldcM X (List.mem_cons_of_mem _ (List.mem_of_getElem? (i := 0) rfl)) dJ7_copyOf_6403c_1 ?_
  refine kv_acmp_ne (rx := some (ktE dd).2) (ry := some (ktE dd).2) (tgt := 13) X dJ7_copyOf_6403c_3 (by decide) (fun h => absurd rfl h) (fun _ => ?_)
  refine kv_iload_n X 1 dJ7_copyOf_6403c_6 rfl rfl ?_
  refine kv_anewOR X t (List.mem_cons_of_mem _ (List.mem_of_getElem? (i := 1) rfl)) (by omega) hRR ⟨Nat.le_of_ble_eq_true rfl, by show 0 + N ≤ 90; omega⟩ dJ7_copyOf_6403c_7 (fun ks7 ad7 E7 hs7 => ?_)
  refine kv_LS [(0, .ref (ad7 ak)), (1, .int (nI N)), (2, .ref (ktE dd).2)] [.ref (ad7 t)] (by rw [hs7.2.1 _ (fun q => ht (q ▸ hak))]) rfl ?_
  refine kv_goto (tgt := 24) X dJ7_copyOf_6403c_10 (by decide) ?_
  refine kv_astore_n (lv2 := [(3, .ref (ad7 t)), (0, .ref (ad7 ak)), (1, .int (nI N)), (2, .ref (ktE dd).2)]) X dJ7_copyOf_6403c_24 rfl (by rw [hnL]; decide) rfl ?_
  refine kv_aload_n X 1 dJ7_copyOf_6403c_25 rfl rfl ?_
  refine kv_iconst (v := 0) X dJ7_copyOf_6403c_26 (by decide) ?_
  refine kv_aload_n X 0 dJ7_copyOf_6403c_27 rfl rfl ?_
  refine kv_iconst (v := 0) X dJ7_copyOf_6403c_28 (by decide) ?_
  refine kv_aload_n X 1 dJ7_copyOf_6403c_29 rfl rfl ?_
  refine kv_alenO X (κ := ak) (n := n) (f := f) ((hs7.1 _).mpr (Or.inl hak)) ((hs7.2.2.1 _ (fun q => ht (q ▸ hak))).trans hA) dJ7_copyOf_6403c_30 ?_
  refine kv_iload_n X 2 dJ7_copyOf_6403c_31 rfl rfl ?_
  refine kv_mmin X (List.mem_cons_of_mem _ (List.mem_of_getElem? (i := 2) rfl)) (List.mem_cons_of_mem _ (List.mem_of_getElem? (i := 3) rfl)) (List.mem_cons_of_mem _ (List.mem_of_getElem? (i := 4) rfl)) (List.mem_cons_of_mem _ (List.mem_of_getElem? (i := 5) rfl)) hRR (Nat.le_of_ble_eq_true rfl) ⟨(Nat.le_of_ble_eq_true rfl), (Nat.le_of_ble_eq_true rfl), Nat.le_of_ble_eq_true rfl, by show 0 + N ≤ 90; omega⟩ dJ7_copyOf_6403c_32 ?_
  refine kv_topi (nI n) (k_min hnN (by omega)) ?_
  have hes2 : kEs ks7 E7 lk ak n ek ci := ⟨hes.1, fun i hi => by obtain ⟨b1, b2, b3, fs, b4⟩ := hes.2 i hi; have b5 : ek i ≠ t := fun q => ht (q ▸ b1); exact ⟨(hs7.1 _).mpr (Or.inl b1), b2, b3, fs, (hs7.2.2.1 _ b5).trans b4⟩⟩
  have hf2 : ∀ i, i < n → f i = some (ad7 (ek i)) := fun i hi => by have b5 : ek i ≠ t := fun q => ht (q ▸ (hes.2 i hi).1); rw [hs7.2.1 _ b5]; exact hf i hi
  refine kv_copyO (κ0 := ak) (κ1 := t) (n0 := n) (n1 := N) (sp := 0) (dp := 0) (n := n) (f := f) (f1 := fun _ => none) X (List.mem_cons_of_mem _ (List.mem_of_getElem? (i := 6) rfl)) (List.mem_cons_of_mem _ (List.mem_of_getElem? (i := 7) rfl)) (List.mem_cons_of_mem _ (List.mem_of_getElem? (i := 8) rfl)) (List.mem_cons_of_mem _ (List.mem_of_getElem? (i := 9) rfl)) ((hs7.1 _).mpr (Or.inl hak)) ((hs7.2.2.1 _ (fun q => ht (q ▸ hak))).trans hA) ((hs7.1 _).mpr (Or.inr rfl)) hs7.2.2.2 (by omega) (by omega) (by omega) (by omega) (fun i hi y hy => kEs_any hes2 hf2 i hi y (by rw [Nat.zero_add] at hy; exact hy)) hRR (Nat.le_of_ble_eq_true rfl) ⟨(Nat.le_of_ble_eq_true rfl), (Nat.le_of_ble_eq_true rfl)⟩ dJ7_copyOf_6403c_35 ?_
  refine kv_widen (a2 := 1) (b2 := 90) (by omega) (by omega) ?_
  refine kv_aload_n X 0 dJ7_copyOf_6403c_38 rfl rfl ?_
  exact kv_areturn (v := some (ad7 t)) X hr (Or.inr ⟨_, rfl⟩) (Nat.le_of_ble_eq_true rfl) (Nat.le_of_ble_eq_true rfl) ⟨(ks7, ad7, (va_up E7 t (kO dd N (va_cpy f (fun _ => none) 0 0 n)))), ⟨rfl, kStp_up hs7⟩, rfl⟩ dJ7_copyOf_6403c_39

set_option maxRecDepth 100000 in
set_option maxHeartbeats 4000000 in
theorem c_J7_copyOf_1904c (l : Launch) (dd : kDD) (ks : List Nat) (ad : Nat → Nat) (E : Nat → va_E) (ak n N t ci : Nat) (ek : Nat → Nat) (lk : Nat) (f : Nat → Option Nat) (hak : ak ∈ ks) (hA : E ak = kO dd n f) (h0 : 0 < n) (hnN : n ≤ N) (hN : N < 90) (hf : ∀ i, i < n → f i = some (ad (ek i))) (hes : kEs ks E lk ak n ek ci) (ht : t ∉ ks) : kCq l yJ7_copyOf_1904c wsJ7_copyOf_1904c ({ frames := 2, cells := 1, slots := 90, locals := 63 } : Room) 1 90 dd [.ref (ad ak), .int (nI N)] (ks, ad, E) (kQq (S := kT) (fun r z => r = some (z.2.1 t) ∧ kStp ks ad E z.1 z.2.1 z.2.2 t (kO dd N (va_cpy f (fun _ => none) 0 0 n))) (fun z => z.1) (fun z => z.2.1) (fun z => z.2.2)) := by
  refine kMetq (ws' := _) (cc := cJ7_copyOf_1904c) (maxL := 2) (rt := (.array (.object "java/lang/Object"))) (by decide) rfl (Nat.le_of_ble_eq_true rfl) (fun g X hr hnL hRR hl0 hkn => ?_)
  show kv dd g 0 0 0 [(0, .ref (ad ak)), (1, .int (nI N))] [] ks ad E
  refine kv_aload_n X 0 dJ7_copyOf_1904c_0 rfl rfl ?_
  refine kv_iload_n X 1 dJ7_copyOf_1904c_1 rfl rfl ?_
  refine kv_aload_n X 0 dJ7_copyOf_1904c_2 rfl rfl ?_
  refine kv_getC X (List.mem_cons_of_mem _ (List.mem_of_getElem? (i := 0) rfl)) (List.mem_cons_of_mem _ (List.mem_of_getElem? (i := 1) rfl)) (List.mem_cons_of_mem _ (List.mem_of_getElem? (i := 2) rfl)) (List.mem_cons_of_mem _ (List.mem_of_getElem? (i := 3) rfl)) hak hA hRR (Nat.le_of_ble_eq_true rfl) ⟨(Nat.le_of_ble_eq_true rfl), (Nat.le_of_ble_eq_true rfl)⟩ dJ7_copyOf_1904c_3 ?_
  refine kv_callqS (As := [.ref (ad ak), .int (nI N), .ref (ktE dd).2]) [] X (c_J7_copyOf_6403c l dd ks ad E ak n N t ci ek lk f hak hA h0 hnN hN hf hes ht) hl0 (kCS_of X 3 gJ7_copyOf_1904c_J7_copyOf_6403c rfl rfl rfl (by decide +kernel) hRR ⟨(Nat.le_of_ble_eq_true rfl), (Nat.le_of_ble_eq_true rfl)⟩) rfl rfl (Nat.le_of_ble_eq_true rfl) hRR ⟨(Nat.le_of_ble_eq_true rfl), (Nat.le_of_ble_eq_true rfl)⟩ dJ7_copyOf_1904c_6 (fun r z hp => ?_)
  obtain ⟨rfl, hz⟩ := hp
  exact kv_areturn (v := some (z.2.1 t)) X hr (Or.inr ⟨_, rfl⟩) (Nat.le_of_ble_eq_true rfl) (Nat.le_of_ble_eq_true rfl) ⟨z, ⟨rfl, hz⟩, rfl⟩ dJ7_copyOf_1904c_9

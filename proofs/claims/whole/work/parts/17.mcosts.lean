/-! the reference: amounts, kinds, packs, extra, look, total -/
/-- the lines' quantities times what their items need, n lines -/
def msumL (q : Nat → Int32) (nd : Nat → Int64) : Nat → Int64
  | 0 => 0
  | n + 1 => msumL q nd n + (q n).toInt64 * nd n
/-- packs that are bought, of an amount, with a waste and a pack size -/
def mpk (a : Int64) (w p : Int32) : Int64 := (a + (a * w.toInt64 + 99) / 100 + p.toInt64 - 1) / p.toInt64
/-- the costs of a kind, n resources -/
def mkd (ki : Nat → Int32) (am : Nat → Int64) (pr : Nat → Int32) (its : Int32) : Nat → Int64
  | 0 => 0
  | n + 1 => mkd ki am pr its n + (if ki n = its then am n * (pr n).toInt64 else 0)
/-- the extra cost, n resources -/
def mex (am : Nat → Int64) (wa pa pr : Nat → Int32) : Nat → Int64
  | 0 => 0
  | n + 1 => mex am wa pa pr n + (mpk (am n) (wa n) (pa n) * (pa n).toInt64 - am n) * (pr n).toInt64
/-- the sum of bases, n of them -/
def msb (bs : Int32) (f : Nat → Int64) : Nat → Int64
  | 0 => 0
  | n + 1 => msb bs f n + (if bs >>> (nI n &&& 31) &&& 1 = 1 then f n else 0)
/-- the mark-ups, n of them found -/
def mmk (bs pc : Nat → Int32) (kd : Nat → Int64) (ex : Int64) : Nat → Nat → Int64
  | 0, _ => 0
  | n + 1, j => if j < n then mmk bs pc kd ex n j else msb (bs n) (fun b => if b < 3 then kd b else if b = 3 then ex else mmk bs pc kd ex n (b - 4)) (4 + n) * (pc n).toInt64 / 100
/-- a sum of longs behind s0 -/
def msumJ (f : Nat → Int64) (s0 : Int64) : Nat → Int64
  | 0 => s0
  | n + 1 => msumJ f s0 n + f n
theorem mmk_set {f : Nat → Int64} {bs pc : Nat → Int32} {kd : Nat → Int64} {ex : Int64} {n : Nat} {x : Int64} (h : x = msb (bs n) (fun b => if b < 3 then kd b else if b = 3 then ex else mmk bs pc kd ex n (b - 4)) (4 + n) * (pc n).toInt64 / 100) : vp_updL (mset f (mmk bs pc kd ex n) n) n x = mset f (mmk bs pc kd ex (n + 1)) (n + 1) := by
  funext k
  unfold vp_updL mset
  by_cases c : k = n
  · subst c; rw [if_pos rfl, if_pos (by omega), mmk, if_neg (by omega), h]
  · rw [if_neg c]
    by_cases c2 : k < n
    · rw [if_pos c2, if_pos (by omega), mmk, if_pos c2]
    · rw [if_neg c2, if_neg (by omega)]
theorem i32_n0 {x : Int32} (h : 1 ≤ x) : ¬ x = 0 := by intro c; rw [c] at h; exact absurd h (by decide)
theorem i64_ne {x : Int32} (h : ¬ x = 0) : ¬ x.toInt64 = 0 := by
  intro q
  apply h
  have := congrArg Int64.toInt q
  rw [Int32.toInt_toInt64] at this
  apply Int32.toInt_inj.mp
  exact this

theorem scr_id (b : Nat → Nat → Int64) : va_up (va_up (va_up b 31 (b 31)) 32 (b 32)) 33 (b 33) = b := by
  funext k
  simp only [va_up]
  split
  · rename_i h; rw [h]
  · split
    · rename_i h; rw [h]
    · split
      · rename_i h; rw [h]
      · rfl
theorem f_X11_amountOf_100 : kF wsX11_amountOf RX11 100 14 16 := ⟨_, RX11, TX11, 34, fun _ h => (List.mem_cons_of_mem _ (List.mem_append_left _ (List.mem_append_right _ h))), (List.mem_cons_of_mem _ (List.mem_append_left _ (List.mem_append_left _ (List.mem_append_left _ (List.mem_of_getElem? (i := 0) rfl))))), rfl, by decide, rfl⟩
theorem f_X11_amountOf_46 : kF wsX11_amountOf RX11 46 14 17 := ⟨_, RX11, TX11, 34, fun _ h => (List.mem_cons_of_mem _ (List.mem_append_left _ (List.mem_append_right _ h))), (List.mem_cons_of_mem _ (List.mem_append_left _ (List.mem_append_left _ (List.mem_append_left _ (List.mem_of_getElem? (i := 1) rfl))))), rfl, by decide, rfl⟩
set_option maxRecDepth 100000 in
set_option maxHeartbeats 4000000 in
theorem c_X11_amountOf (l : Launch) (dd : kDD) (ad : Nat → Nat) (M : mS) (r0 : Int32) (nt : Nat) (hT : M.1 10 = nI nt ∧ nt ≤ 12) (nV : Nat) (hV : M.1 21 = nI nV ∧ nV ≤ 4) (cn : Nat → Nat) (hcn : ∀ i, i < 12 → M.2.1 12 i = nI (cn i) ∧ cn i ≤ 4) (nm : Nat → Nat) (hnm : ∀ k, k < 48 → M.2.1 14 k = nI (nm k) ∧ nm k < 12) (mn : Nat → Nat) (hmn : ∀ i, i < 4 → M.2.1 7 i = nI (mn i) ∧ mn i ≤ 3) (mi : Nat → Nat) (hmi : ∀ j, j < 12 → mnt (M.1 24) (M.2.1 22) j nV 0 = nI (mi j) ∧ mi j < 12) (mr : Nat → Nat) (hmr : ∀ j, j < 12 → mnt (M.1 24) (M.2.1 23) j nV 0 = nI (mr j) ∧ mr j < 12) (me : Nat → Nat) (hme : ∀ q, q < 12 → M.2.1 8 q = nI (me q) ∧ me q < 12) (hs2 : ∀ k, k < 48 → M.2.1 13 k = 2 → nm k < 4) (hval : ∀ i, i < nt → ∀ k, k < cn i → M.2.1 13 (4 * i + k) = 0 → mi (nm (4 * i + k)) < nt) (nL : Nat) (hL : M.1 16 = nI nL ∧ nL ≤ 10) (nW : Nat) (hW : M.1 18 = nI nW ∧ nW ≤ 40) (li : Nat → Nat) (hli : ∀ l, l < 10 → M.2.1 17 l = nI (li l) ∧ li l < 12) (hlv : ∀ l, l < nL → mi (li l) < nt) : kCl l yX11_amountOf wsX11_amountOf ({ frames := 3, cells := 0, slots := 0, locals := 74 } : Room) 0 0 dd [.ref (ad 0), .int r0] (mK, ad, mE dd ad M) (kQl (S := mS) (fun r z => ∃ X Y Z, (M.1, M.2.1, va_up (va_up (va_up M.2.2 31 X) 32 Y) 33 Z) = z ∧ r = msumL (fun l => mq (M.2.1 19) (M.2.1 20) (nI l) nW) (fun l => mN (M.2.1 13) (M.2.1 15) cn (fun k => mi (nm k)) (mdir (M.2.1 13) (M.2.1 15) (M.2.1 9) (M.2.1 3) (M.2.1 11) cn nm mn mr me r0 (-1)) 2 (mi (li l))) nL) (fun _ => mK) (fun _ => ad) (fun z => mE dd ad z)) := by
  refine kMetl (ws' := _) (cc := cX11_amountOf) (maxL := 5) (rt := .long) (by decide) rfl (Nat.le_of_ble_eq_true rfl) (fun g X hr hnL hRR hl0 hkn => ?_)
  show kv dd g 0 0 0 [(0, .ref (ad 0)), (1, .int r0)] [] mK ad (mE dd ad M)
  refine kv_lconst (v := 0) X dX11_amountOf_0 (by decide) ?_
  refine kv_lstore_n (lv2 := [(2, .long 0), (0, .ref (ad 0)), (1, .int r0)]) X dX11_amountOf_1 rfl (by rw [hnL]; decide) rfl ?_
  refine kv_iconst (v := 0) X dX11_amountOf_2 (by decide) ?_
  refine kv_istore (lv2 := [(4, .int 0), (2, .long 0), (0, .ref (ad 0)), (1, .int r0)]) X dX11_amountOf_3 (by rw [hnL]; decide) rfl ?_
  refine kv_M (M.1, M.2.1, (va_up (va_up (va_up M.2.2 31 (M.2.2 31)) 32 (M.2.2 32)) 33 (M.2.2 33))) (by show M = (M.1, M.2.1, (va_up (va_up (va_up M.2.2 31 (M.2.2 31)) 32 (M.2.2 32)) 33 (M.2.2 33))); rw [scr_id]) ?_
  have L5 : ∀ (n i : Nat), i + n = nL → ∀ (Xa : Nat → Int64) (Ya : Nat → Int64) (Za : Nat → Int64) , kv dd g 0 0 5 [(4, .int (nI i)), (2, .long (msumL (fun l => mq (M.2.1 19) (M.2.1 20) (nI l) nW) (fun l => mN (M.2.1 13) (M.2.1 15) cn (fun k => mi (nm k)) (mdir (M.2.1 13) (M.2.1 15) (M.2.1 9) (M.2.1 3) (M.2.1 11) cn nm mn mr me r0 (-1)) 2 (mi (li l))) i)), (0, .ref (ad 0)), (1, .int r0)] [] mK ad (mE dd ad (M.1, M.2.1, (va_up (va_up (va_up M.2.2 31 Xa) 32 Ya) 33 Za))) := by
    intro n
    induction n with
    | zero =>
      intro i hin5 Xa Ya Za 
      refine kv_iload X 0 dX11_amountOf_5 rfl ?_
      refine kv_aload_n X 2 dX11_amountOf_7 rfl rfl ?_
      refine km_get X 16 (v := .int (M.1 16)) f_X11_amountOf_100 rfl dX11_amountOf_8 ?_
      refine kv_topi (nI nL) hL.1 ?_
      refine kn_icmp_ge (x := i) (y := nL) (tgt := 48) X (by omega) (by omega) dX11_amountOf_11 (by decide) (fun hc11 => ?_) (fun hc11 => absurd hc11 (by omega))
      refine kv_lload_n X 1 dX11_amountOf_48 rfl rfl ?_
      exact kv_lreturn X hr (by decide) (by decide) ⟨(M.1, M.2.1, (va_up (va_up (va_up M.2.2 31 Xa) 32 Ya) 33 Za)), ⟨Xa, Ya, Za, rfl, by rw [show i = nL by omega]⟩, rfl⟩ dX11_amountOf_49
    | succ n ih5 =>
      intro i hin5 Xa Ya Za 
      refine kv_iload X 0 dX11_amountOf_5 rfl ?_
      refine kv_aload_n X 2 dX11_amountOf_7 rfl rfl ?_
      refine km_get X 16 (v := .int (M.1 16)) f_X11_amountOf_100 rfl dX11_amountOf_8 ?_
      refine kv_topi (nI nL) hL.1 ?_
      refine kn_icmp_ge (x := i) (y := nL) (tgt := 48) X (by omega) (by omega) dX11_amountOf_11 (by decide) (fun hc11 => absurd hc11 (by omega)) (fun hc11 => ?_)
      refine kv_lload_n X 1 dX11_amountOf_14 rfl rfl ?_
      refine kv_aload_n X 2 dX11_amountOf_15 rfl rfl ?_
      refine kv_iload X 0 dX11_amountOf_16 rfl ?_
      refine kv_calliV (ci := 14) (κ := 0) (r1 := (TX11, 34)) (As := [.int (nI i)]) [.long (msumL (fun l => mq (M.2.1 19) (M.2.1 20) (nI l) nW) (fun l => mN (M.2.1 13) (M.2.1 15) cn (fun k => mi (nm k)) (mdir (M.2.1 13) (M.2.1 15) (M.2.1 9) (M.2.1 3) (M.2.1 11) cn nm mn mr me r0 (-1)) 2 (mi (li l))) i)] X (c_X11_quantityOf l dd ad (M.1, M.2.1, (va_up (va_up (va_up M.2.2 31 Xa) 32 Ya) 33 Za)) (nI i) nW hW) hl0 (kCV_of X 1 gX11_amountOf_X11_quantityOf rfl rfl rfl (by decide +kernel) hRR ⟨Nat.le_of_ble_eq_true rfl, Nat.le_of_ble_eq_true rfl⟩) (by decide) rfl rfl rfl rfl (Nat.le_of_ble_eq_true rfl) hRR ⟨Nat.le_of_ble_eq_true rfl, Nat.le_of_ble_eq_true rfl⟩ dX11_amountOf_18 (fun r z hp => ?_)
      obtain ⟨rfl, rfl⟩ := hp
      refine kv_i2l X dX11_amountOf_21 rfl ?_
      refine kv_aload_n X 2 dX11_amountOf_22 rfl rfl ?_
      refine kv_aload_n X 2 dX11_amountOf_23 rfl rfl ?_
      refine kv_aload_n X 2 dX11_amountOf_24 rfl rfl ?_
      refine km_get X 17 (v := .ref (ad 17)) f_X11_amountOf_46 rfl dX11_amountOf_25 ?_
      refine kv_iload X 0 dX11_amountOf_28 rfl ?_
      refine km_iald X 17 (j := i) (by decide) (by decide) rfl (by show _ < _; simp only [mLen]; omega) (by decide) dX11_amountOf_30 ?_
      have e30 := (hli i (by omega)).2
      refine kv_topi (nI (li i)) (hli i (by omega)).1 ?_
      refine kv_calliV (ci := 14) (κ := 0) (r1 := (TX11, 34)) (As := [.int (nI (li i))]) [.ref (ad 0), .long ((mq (M.2.1 19) (M.2.1 20) (nI i) nW).toInt64), .long (msumL (fun l => mq (M.2.1 19) (M.2.1 20) (nI l) nW) (fun l => mN (M.2.1 13) (M.2.1 15) cn (fun k => mi (nm k)) (mdir (M.2.1 13) (M.2.1 15) (M.2.1 9) (M.2.1 3) (M.2.1 11) cn nm mn mr me r0 (-1)) 2 (mi (li l))) i)] X (c_X11_meantItem l dd ad (M.1, M.2.1, (va_up (va_up (va_up M.2.2 31 Xa) 32 Ya) 33 Za)) (li i) (hli i (by omega)).2 nV hV) hl0 (kCV_of X 1 gX11_amountOf_X11_meantItem rfl rfl rfl (by decide +kernel) hRR ⟨Nat.le_of_ble_eq_true rfl, Nat.le_of_ble_eq_true rfl⟩) (by decide) rfl rfl rfl rfl (Nat.le_of_ble_eq_true rfl) hRR ⟨Nat.le_of_ble_eq_true rfl, Nat.le_of_ble_eq_true rfl⟩ dX11_amountOf_31 (fun r z hp => ?_)
      obtain ⟨rfl, rfl⟩ := hp
      refine kv_topi (nI (mi (li i))) (hmi (li i) (hli i (by omega)).2).1 ?_
      refine kv_iload_n X 3 dX11_amountOf_34 rfl rfl ?_
      refine kv_iconst (v := (-1)) X dX11_amountOf_35 (by decide) ?_
      refine kv_calllV (ci := 14) (κ := 0) (r1 := (TX11, 34)) (As := [.int (nI (mi (li i))), .int r0, .int (-1)]) [.long ((mq (M.2.1 19) (M.2.1 20) (nI i) nW).toInt64), .long (msumL (fun l => mq (M.2.1 19) (M.2.1 20) (nI l) nW) (fun l => mN (M.2.1 13) (M.2.1 15) cn (fun k => mi (nm k)) (mdir (M.2.1 13) (M.2.1 15) (M.2.1 9) (M.2.1 3) (M.2.1 11) cn nm mn mr me r0 (-1)) 2 (mi (li l))) i)] X (c_X11_needs l dd ad (M.1, M.2.1, (va_up (va_up (va_up M.2.2 31 Xa) 32 Ya) 33 Za)) (mi (li i)) r0 (-1) nt (hlv i (by omega)) hT nV hV cn hcn nm hnm mn hmn mi hmi mr hmr me hme hs2 hval) hl0 (kCV_of X 3 gX11_amountOf_X11_needs rfl rfl rfl (by decide +kernel) hRR ⟨Nat.le_of_ble_eq_true rfl, Nat.le_of_ble_eq_true rfl⟩) (by decide) rfl rfl rfl rfl (Nat.le_of_ble_eq_true rfl) hRR ⟨Nat.le_of_ble_eq_true rfl, Nat.le_of_ble_eq_true rfl⟩ dX11_amountOf_36 (fun r z hp => ?_)
      obtain ⟨X36, X36y, X36z, rfl, rfl⟩ := hp
      refine kv_lmul X dX11_amountOf_39 ?_
      refine kv_ladd X dX11_amountOf_40 ?_
      refine kv_topl (msumL (fun l => mq (M.2.1 19) (M.2.1 20) (nI l) nW) (fun l => mN (M.2.1 13) (M.2.1 15) cn (fun k => mi (nm k)) (mdir (M.2.1 13) (M.2.1 15) (M.2.1 9) (M.2.1 3) (M.2.1 11) cn nm mn mr me r0 (-1)) 2 (mi (li l))) (i + 1)) rfl ?_
      refine kv_lstore_n (lv2 := [(2, .long (msumL (fun l => mq (M.2.1 19) (M.2.1 20) (nI l) nW) (fun l => mN (M.2.1 13) (M.2.1 15) cn (fun k => mi (nm k)) (mdir (M.2.1 13) (M.2.1 15) (M.2.1 9) (M.2.1 3) (M.2.1 11) cn nm mn mr me r0 (-1)) 2 (mi (li l))) (i + 1))), (4, .int (nI i)), (0, .ref (ad 0)), (1, .int r0)]) X dX11_amountOf_41 rfl (by rw [hnL]; decide) rfl ?_
      refine kv_iinc (j := 1) (v := (nI (i + 1))) (lv2 := [(4, .int (nI (i + 1))), (2, .long (msumL (fun l => mq (M.2.1 19) (M.2.1 20) (nI l) nW) (fun l => mN (M.2.1 13) (M.2.1 15) cn (fun k => mi (nm k)) (mdir (M.2.1 13) (M.2.1 15) (M.2.1 9) (M.2.1 3) (M.2.1 11) cn nm mn mr me r0 (-1)) 2 (mi (li l))) (i + 1))), (0, .ref (ad 0)), (1, .int r0)]) X dX11_amountOf_42 rfl (nI_add i 1) (by rw [hnL]; decide) rfl ?_
      refine kv_M (M.1, M.2.1, (va_up (va_up (va_up M.2.2 31 X36) 32 X36y) 33 X36z)) (by show (M.1, M.2.1, (va_up (va_up (va_up (va_up (va_up (va_up M.2.2 31 Xa) 32 Ya) 33 Za) 31 X36) 32 X36y) 33 X36z)) = (M.1, M.2.1, (va_up (va_up (va_up M.2.2 31 X36) 32 X36y) 33 X36z)); refine Prod.ext rfl (Prod.ext (funext fun k => ?_) (funext fun k => ?_)) <;> (first | rfl | (show va_up _ _ _ _ = va_up _ _ _ _; simp only [va_up]; repeat' split)) <;> first | rfl | (exfalso; omega)) ?_
      refine kv_goto (tgt := 5) X dX11_amountOf_45 (by decide) ?_
      exact kv_lv [0, 1, 2, 3] rfl (ih5 (i + 1) (by omega) X36 X36y X36z)
  exact kv_lv [0, 1, 2, 3] rfl (L5 nL 0 (by omega) (M.2.2 31) (M.2.2 32) (M.2.2 33))
theorem f_X11_packsOf_67 : kF wsX11_packsOf RX11 67 14 28 := ⟨_, RX11, TX11, 34, fun _ h => (List.mem_cons_of_mem _ (List.mem_append_left _ (List.mem_append_left _ (List.mem_append_right _ h)))), (List.mem_cons_of_mem _ (List.mem_append_left _ (List.mem_append_left _ (List.mem_append_left _ (List.mem_of_getElem? (i := 0) rfl))))), rfl, by decide, rfl⟩
theorem f_X11_packsOf_16 : kF wsX11_packsOf RX11 16 14 4 := ⟨_, RX11, TX11, 34, fun _ h => (List.mem_cons_of_mem _ (List.mem_append_left _ (List.mem_append_left _ (List.mem_append_right _ h)))), (List.mem_cons_of_mem _ (List.mem_append_left _ (List.mem_append_left _ (List.mem_append_left _ (List.mem_of_getElem? (i := 1) rfl))))), rfl, by decide, rfl⟩
theorem f_X11_packsOf_19 : kF wsX11_packsOf RX11 19 14 5 := ⟨_, RX11, TX11, 34, fun _ h => (List.mem_cons_of_mem _ (List.mem_append_left _ (List.mem_append_left _ (List.mem_append_right _ h)))), (List.mem_cons_of_mem _ (List.mem_append_left _ (List.mem_append_left _ (List.mem_append_left _ (List.mem_of_getElem? (i := 4) rfl))))), rfl, by decide, rfl⟩
set_option maxRecDepth 100000 in
set_option maxHeartbeats 4000000 in
theorem c_X11_packsOf (l : Launch) (dd : kDD) (ad : Nat → Nat) (M : mS) (j : Nat) (hj : j < 12) (hp : ¬ M.2.1 5 j = 0) : kCl l yX11_packsOf wsX11_packsOf ({ frames := 0, cells := 0, slots := 0, locals := 0 } : Room) 0 0 dd [.ref (ad 0), .int (nI j)] (mK, ad, mE dd ad M) (kQl (S := mS) (fun r z => M = z ∧ r = mpk (M.2.2 28 j) (M.2.1 4 j) (M.2.1 5 j)) (fun _ => mK) (fun _ => ad) (fun z => mE dd ad z)) := by
  refine kMetl (ws' := _) (cc := cX11_packsOf) (maxL := 6) (rt := .long) (by decide) rfl (Nat.le_of_ble_eq_true rfl) (fun g X hr hnL hRR hl0 hkn => ?_)
  show kv dd g 0 0 0 [(0, .ref (ad 0)), (1, .int (nI j))] [] mK ad (mE dd ad M)
  refine kv_aload_n X 0 dX11_packsOf_0 rfl rfl ?_
  refine km_get X 28 (v := .ref (ad 28)) f_X11_packsOf_67 rfl dX11_packsOf_1 ?_
  refine kv_iload_n X 1 dX11_packsOf_4 rfl rfl ?_
  refine km_lald X 28 (j := j) (by decide) (by decide) rfl (by show _ < _; simp only [mLen]; omega) (by decide) dX11_packsOf_5 ?_
  refine kv_topl ((M.2.2 28) j) rfl ?_
  refine kv_lstore_n (lv2 := [(2, .long ((M.2.2 28) j)), (0, .ref (ad 0)), (1, .int (nI j))]) X dX11_packsOf_6 rfl (by rw [hnL]; decide) rfl ?_
  refine kv_lload_n X 0 dX11_packsOf_7 rfl rfl ?_
  refine kv_lload_n X 0 dX11_packsOf_8 rfl rfl ?_
  refine kv_aload_n X 1 dX11_packsOf_9 rfl rfl ?_
  refine km_get X 4 (v := .ref (ad 4)) f_X11_packsOf_16 rfl dX11_packsOf_10 ?_
  refine kv_iload_n X 2 dX11_packsOf_13 rfl rfl ?_
  refine km_iald X 4 (j := j) (by decide) (by decide) rfl (by show _ < _; simp only [mLen]; omega) (by decide) dX11_packsOf_14 ?_
  refine kv_topi ((M.2.1 4) j) rfl ?_
  refine kv_i2l X dX11_packsOf_15 rfl ?_
  refine kv_lmul X dX11_packsOf_16 ?_
  refine kv_ldc2 (v := 99) X dX11_packsOf_17 (List.mem_cons_of_mem _ (List.mem_append_left _ (List.mem_append_left _ (List.mem_append_left _ (List.mem_of_getElem? (i := 2) rfl))))) ?_
  refine kv_ladd X dX11_packsOf_20 ?_
  refine kv_ldc2 (v := 100) X dX11_packsOf_21 (List.mem_cons_of_mem _ (List.mem_append_left _ (List.mem_append_left _ (List.mem_append_left _ (List.mem_of_getElem? (i := 3) rfl))))) ?_
  refine kv_ldiv X dX11_packsOf_24 (by decide) ?_
  refine kv_ladd X dX11_packsOf_25 ?_
  refine kv_lstore (lv2 := [(4, .long (((M.2.2 28) j) + (((((M.2.2 28) j) * (((M.2.1 4) j).toInt64)) + 99) / 100))), (2, .long ((M.2.2 28) j)), (0, .ref (ad 0)), (1, .int (nI j))]) X dX11_packsOf_26 (by rw [hnL]; decide) rfl ?_
  refine kv_lload X 0 dX11_packsOf_28 rfl ?_
  refine kv_aload_n X 2 dX11_packsOf_30 rfl rfl ?_
  refine km_get X 5 (v := .ref (ad 5)) f_X11_packsOf_19 rfl dX11_packsOf_31 ?_
  refine kv_iload_n X 3 dX11_packsOf_34 rfl rfl ?_
  refine km_iald X 5 (j := j) (by decide) (by decide) rfl (by show _ < _; simp only [mLen]; omega) (by decide) dX11_packsOf_35 ?_
  refine kv_topi ((M.2.1 5) j) rfl ?_
  refine kv_i2l X dX11_packsOf_36 rfl ?_
  refine kv_ladd X dX11_packsOf_37 ?_
  refine kv_lconst (v := 1) X dX11_packsOf_38 (by decide) ?_
  refine kv_lsub X dX11_packsOf_39 ?_
  refine kv_aload_n X 2 dX11_packsOf_40 rfl rfl ?_
  refine km_get X 5 (v := .ref (ad 5)) f_X11_packsOf_19 rfl dX11_packsOf_41 ?_
  refine kv_iload_n X 3 dX11_packsOf_44 rfl rfl ?_
  refine km_iald X 5 (j := j) (by decide) (by decide) rfl (by show _ < _; simp only [mLen]; omega) (by decide) dX11_packsOf_45 ?_
  refine kv_topi ((M.2.1 5) j) rfl ?_
  refine kv_i2l X dX11_packsOf_46 rfl ?_
  refine kv_ldiv X dX11_packsOf_47 (i64_ne hp) ?_
  exact kv_lreturn X hr (by decide) (by decide) ⟨M, ⟨rfl, rfl⟩, rfl⟩ dX11_packsOf_48
theorem f_X11_kindNow_90 : kF wsX11_kindNow RX11 90 14 1 := ⟨_, RX11, TX11, 34, fun _ h => (List.mem_cons_of_mem _ (List.mem_append_left _ (List.mem_append_right _ h))), (List.mem_cons_of_mem _ (List.mem_append_left _ (List.mem_append_left _ (List.mem_of_getElem? (i := 0) rfl)))), rfl, by decide, rfl⟩
theorem f_X11_kindNow_7 : kF wsX11_kindNow RX11 7 14 2 := ⟨_, RX11, TX11, 34, fun _ h => (List.mem_cons_of_mem _ (List.mem_append_left _ (List.mem_append_right _ h))), (List.mem_cons_of_mem _ (List.mem_append_left _ (List.mem_append_left _ (List.mem_of_getElem? (i := 1) rfl)))), rfl, by decide, rfl⟩
theorem f_X11_kindNow_67 : kF wsX11_kindNow RX11 67 14 28 := ⟨_, RX11, TX11, 34, fun _ h => (List.mem_cons_of_mem _ (List.mem_append_left _ (List.mem_append_right _ h))), (List.mem_cons_of_mem _ (List.mem_append_left _ (List.mem_append_left _ (List.mem_of_getElem? (i := 2) rfl)))), rfl, by decide, rfl⟩
theorem f_X11_kindNow_13 : kF wsX11_kindNow RX11 13 14 3 := ⟨_, RX11, TX11, 34, fun _ h => (List.mem_cons_of_mem _ (List.mem_append_left _ (List.mem_append_right _ h))), (List.mem_cons_of_mem _ (List.mem_append_left _ (List.mem_append_left _ (List.mem_of_getElem? (i := 3) rfl)))), rfl, by decide, rfl⟩
set_option maxRecDepth 100000 in
set_option maxHeartbeats 4000000 in
theorem c_X11_kindNow (l : Launch) (dd : kDD) (ad : Nat → Nat) (M : mS) (its : Int32) (nR : Nat) (hR : M.1 1 = nI nR ∧ nR ≤ 12) : kCl l yX11_kindNow wsX11_kindNow ({ frames := 0, cells := 0, slots := 0, locals := 0 } : Room) 0 0 dd [.ref (ad 0), .int its] (mK, ad, mE dd ad M) (kQl (S := mS) (fun r z => M = z ∧ r = mkd (M.2.1 2) (M.2.2 28) (M.2.1 3) its nR) (fun _ => mK) (fun _ => ad) (fun z => mE dd ad z)) := by
  refine kMetl (ws' := _) (cc := cX11_kindNow) (maxL := 5) (rt := .long) (by decide) rfl (Nat.le_of_ble_eq_true rfl) (fun g X hr hnL hRR hl0 hkn => ?_)
  show kv dd g 0 0 0 [(0, .ref (ad 0)), (1, .int its)] [] mK ad (mE dd ad M)
  refine kv_lconst (v := 0) X dX11_kindNow_0 (by decide) ?_
  refine kv_lstore_n (lv2 := [(2, .long 0), (0, .ref (ad 0)), (1, .int its)]) X dX11_kindNow_1 rfl (by rw [hnL]; decide) rfl ?_
  refine kv_iconst (v := 0) X dX11_kindNow_2 (by decide) ?_
  refine kv_istore (lv2 := [(4, .int 0), (2, .long 0), (0, .ref (ad 0)), (1, .int its)]) X dX11_kindNow_3 (by rw [hnL]; decide) rfl ?_
  have L5 : ∀ (n i : Nat), i + n = nR → ∀ (_ : Unit) , kv dd g 0 0 5 [(4, .int (nI i)), (2, .long (mkd (M.2.1 2) (M.2.2 28) (M.2.1 3) its i)), (0, .ref (ad 0)), (1, .int its)] [] mK ad (mE dd ad M) := by
    intro n
    induction n with
    | zero =>
      intro i hin5 _ 
      refine kv_iload X 0 dX11_kindNow_5 rfl ?_
      refine kv_aload_n X 2 dX11_kindNow_7 rfl rfl ?_
      refine km_get X 1 (v := .int (M.1 1)) f_X11_kindNow_90 rfl dX11_kindNow_8 ?_
      refine kv_topi (nI nR) hR.1 ?_
      refine kn_icmp_ge (x := i) (y := nR) (tgt := 54) X (by omega) (by omega) dX11_kindNow_11 (by decide) (fun hc11 => ?_) (fun hc11 => absurd hc11 (by omega))
      refine kv_lload_n X 1 dX11_kindNow_54 rfl rfl ?_
      exact kv_lreturn X hr (by decide) (by decide) ⟨M, ⟨rfl, by rw [show i = nR by omega]⟩, rfl⟩ dX11_kindNow_55
    | succ n ih5 =>
      intro i hin5 _ 
      refine kv_iload X 0 dX11_kindNow_5 rfl ?_
      refine kv_aload_n X 2 dX11_kindNow_7 rfl rfl ?_
      refine km_get X 1 (v := .int (M.1 1)) f_X11_kindNow_90 rfl dX11_kindNow_8 ?_
      refine kv_topi (nI nR) hR.1 ?_
      refine kn_icmp_ge (x := i) (y := nR) (tgt := 54) X (by omega) (by omega) dX11_kindNow_11 (by decide) (fun hc11 => absurd hc11 (by omega)) (fun hc11 => ?_)
      refine kv_lload_n X 1 dX11_kindNow_14 rfl rfl ?_
      refine kv_aload_n X 2 dX11_kindNow_15 rfl rfl ?_
      refine km_get X 2 (v := .ref (ad 2)) f_X11_kindNow_7 rfl dX11_kindNow_16 ?_
      refine kv_iload X 0 dX11_kindNow_19 rfl ?_
      refine km_iald X 2 (j := i) (by decide) (by decide) rfl (by show _ < _; simp only [mLen]; omega) (by decide) dX11_kindNow_21 ?_
      refine kv_topi ((M.2.1 2) i) rfl ?_
      refine kv_iload_n X 3 dX11_kindNow_22 rfl rfl ?_
      refine kv_icmp_ne (tgt := 45) X dX11_kindNow_23 (by decide) (fun hc23 => ?_) (fun hc23 => ?_)
      ·
        refine kv_lconst (v := 0) X dX11_kindNow_45 (by decide) ?_
        refine kv_ladd X dX11_kindNow_46 ?_
        refine kv_topl (mkd (M.2.1 2) (M.2.2 28) (M.2.1 3) its (i + 1)) (by rw [mkd]; first | rw [if_pos hc23] | rw [if_neg hc23]) ?_
        refine kv_lstore_n (lv2 := [(2, .long (mkd (M.2.1 2) (M.2.2 28) (M.2.1 3) its (i + 1))), (4, .int (nI i)), (0, .ref (ad 0)), (1, .int its)]) X dX11_kindNow_47 rfl (by rw [hnL]; decide) rfl ?_
        refine kv_iinc (j := 1) (v := (nI (i + 1))) (lv2 := [(4, .int (nI (i + 1))), (2, .long (mkd (M.2.1 2) (M.2.2 28) (M.2.1 3) its (i + 1))), (0, .ref (ad 0)), (1, .int its)]) X dX11_kindNow_48 rfl (nI_add i 1) (by rw [hnL]; decide) rfl ?_
        refine kv_goto (tgt := 5) X dX11_kindNow_51 (by decide) ?_
        exact kv_lv [0, 1, 2, 3] rfl (ih5 (i + 1) (by omega) ())
      ·
        refine kv_aload_n X 2 dX11_kindNow_26 rfl rfl ?_
        refine km_get X 28 (v := .ref (ad 28)) f_X11_kindNow_67 rfl dX11_kindNow_27 ?_
        refine kv_iload X 0 dX11_kindNow_30 rfl ?_
        refine km_lald X 28 (j := i) (by decide) (by decide) rfl (by show _ < _; simp only [mLen]; omega) (by decide) dX11_kindNow_32 ?_
        refine kv_topl ((M.2.2 28) i) rfl ?_
        refine kv_aload_n X 2 dX11_kindNow_33 rfl rfl ?_
        refine km_get X 3 (v := .ref (ad 3)) f_X11_kindNow_13 rfl dX11_kindNow_34 ?_
        refine kv_iload X 0 dX11_kindNow_37 rfl ?_
        refine km_iald X 3 (j := i) (by decide) (by decide) rfl (by show _ < _; simp only [mLen]; omega) (by decide) dX11_kindNow_39 ?_
        refine kv_topi ((M.2.1 3) i) rfl ?_
        refine kv_i2l X dX11_kindNow_40 rfl ?_
        refine kv_lmul X dX11_kindNow_41 ?_
        refine kv_goto (tgt := 46) X dX11_kindNow_42 (by decide) ?_
        refine kv_ladd X dX11_kindNow_46 ?_
        refine kv_topl (mkd (M.2.1 2) (M.2.2 28) (M.2.1 3) its (i + 1)) (by rw [mkd]; first | rw [if_pos hc23] | rw [if_neg hc23]) ?_
        refine kv_lstore_n (lv2 := [(2, .long (mkd (M.2.1 2) (M.2.2 28) (M.2.1 3) its (i + 1))), (4, .int (nI i)), (0, .ref (ad 0)), (1, .int its)]) X dX11_kindNow_47 rfl (by rw [hnL]; decide) rfl ?_
        refine kv_iinc (j := 1) (v := (nI (i + 1))) (lv2 := [(4, .int (nI (i + 1))), (2, .long (mkd (M.2.1 2) (M.2.2 28) (M.2.1 3) its (i + 1))), (0, .ref (ad 0)), (1, .int its)]) X dX11_kindNow_48 rfl (nI_add i 1) (by rw [hnL]; decide) rfl ?_
        refine kv_goto (tgt := 5) X dX11_kindNow_51 (by decide) ?_
        exact kv_lv [0, 1, 2, 3] rfl (ih5 (i + 1) (by omega) ())
  exact kv_lv [0, 1, 2, 3] rfl (L5 nR 0 (by omega) ())

set_option maxRecDepth 100000 in
set_option maxHeartbeats 4000000 in
theorem c_X11_netNow (l : Launch) (dd : kDD) (ad : Nat → Nat) (M : mS)  (nR : Nat) (hR : M.1 1 = nI nR ∧ nR ≤ 12) : kCl l yX11_netNow wsX11_netNow ({ frames := 1, cells := 0, slots := 0, locals := 24 } : Room) 0 0 dd [.ref (ad 0)] (mK, ad, mE dd ad M) (kQl (S := mS) (fun r z => M = z ∧ r = mkd (M.2.1 2) (M.2.2 28) (M.2.1 3) 0 nR + mkd (M.2.1 2) (M.2.2 28) (M.2.1 3) 1 nR + mkd (M.2.1 2) (M.2.2 28) (M.2.1 3) 2 nR) (fun _ => mK) (fun _ => ad) (fun z => mE dd ad z)) := by
  refine kMetl (ws' := _) (cc := cX11_netNow) (maxL := 1) (rt := .long) (by decide) rfl (Nat.le_of_ble_eq_true rfl) (fun g X hr hnL hRR hl0 hkn => ?_)
  show kv dd g 0 0 0 [(0, .ref (ad 0))] [] mK ad (mE dd ad M)
  refine kv_aload_n X 0 dX11_netNow_0 rfl rfl ?_
  refine kv_iconst (v := 0) X dX11_netNow_1 (by decide) ?_
  refine kv_calllV (ci := 14) (κ := 0) (r1 := (TX11, 34)) (As := [.int 0]) [] X (c_X11_kindNow l dd ad M 0 nR hR) hl0 (kCV_of X 1 gX11_netNow_X11_kindNow rfl rfl rfl (by decide +kernel) hRR ⟨Nat.le_of_ble_eq_true rfl, Nat.le_of_ble_eq_true rfl⟩) (by decide) rfl rfl rfl rfl (Nat.le_of_ble_eq_true rfl) hRR ⟨Nat.le_of_ble_eq_true rfl, Nat.le_of_ble_eq_true rfl⟩ dX11_netNow_2 (fun r z hp => ?_)
  obtain ⟨rfl, rfl⟩ := hp
  refine kv_aload_n X 0 dX11_netNow_5 rfl rfl ?_
  refine kv_iconst (v := 1) X dX11_netNow_6 (by decide) ?_
  refine kv_calllV (ci := 14) (κ := 0) (r1 := (TX11, 34)) (As := [.int 1]) [.long (mkd (M.2.1 2) (M.2.2 28) (M.2.1 3) 0 nR)] X (c_X11_kindNow l dd ad M 1 nR hR) hl0 (kCV_of X 1 gX11_netNow_X11_kindNow rfl rfl rfl (by decide +kernel) hRR ⟨Nat.le_of_ble_eq_true rfl, Nat.le_of_ble_eq_true rfl⟩) (by decide) rfl rfl rfl rfl (Nat.le_of_ble_eq_true rfl) hRR ⟨Nat.le_of_ble_eq_true rfl, Nat.le_of_ble_eq_true rfl⟩ dX11_netNow_7 (fun r z hp => ?_)
  obtain ⟨rfl, rfl⟩ := hp
  refine kv_ladd X dX11_netNow_10 ?_
  refine kv_aload_n X 0 dX11_netNow_11 rfl rfl ?_
  refine kv_iconst (v := 2) X dX11_netNow_12 (by decide) ?_
  refine kv_calllV (ci := 14) (κ := 0) (r1 := (TX11, 34)) (As := [.int 2]) [.long ((mkd (M.2.1 2) (M.2.2 28) (M.2.1 3) 0 nR) + (mkd (M.2.1 2) (M.2.2 28) (M.2.1 3) 1 nR))] X (c_X11_kindNow l dd ad M 2 nR hR) hl0 (kCV_of X 1 gX11_netNow_X11_kindNow rfl rfl rfl (by decide +kernel) hRR ⟨Nat.le_of_ble_eq_true rfl, Nat.le_of_ble_eq_true rfl⟩) (by decide) rfl rfl rfl rfl (Nat.le_of_ble_eq_true rfl) hRR ⟨Nat.le_of_ble_eq_true rfl, Nat.le_of_ble_eq_true rfl⟩ dX11_netNow_13 (fun r z hp => ?_)
  obtain ⟨rfl, rfl⟩ := hp
  refine kv_ladd X dX11_netNow_16 ?_
  exact kv_lreturn X hr (by decide) (by decide) ⟨M, ⟨rfl, rfl⟩, rfl⟩ dX11_netNow_17
theorem f_X11_extraNow_90 : kF wsX11_extraNow RX11 90 14 1 := ⟨_, RX11, TX11, 34, fun _ h => (List.mem_cons_of_mem _ (List.mem_append_left _ (List.mem_append_left _ (List.mem_append_right _ h)))), (List.mem_cons_of_mem _ (List.mem_append_left _ (List.mem_append_left _ (List.mem_append_left _ (List.mem_of_getElem? (i := 0) rfl))))), rfl, by decide, rfl⟩
theorem f_X11_extraNow_19 : kF wsX11_extraNow RX11 19 14 5 := ⟨_, RX11, TX11, 34, fun _ h => (List.mem_cons_of_mem _ (List.mem_append_left _ (List.mem_append_left _ (List.mem_append_right _ h)))), (List.mem_cons_of_mem _ (List.mem_append_left _ (List.mem_append_left _ (List.mem_append_left _ (List.mem_of_getElem? (i := 1) rfl))))), rfl, by decide, rfl⟩
theorem f_X11_extraNow_67 : kF wsX11_extraNow RX11 67 14 28 := ⟨_, RX11, TX11, 34, fun _ h => (List.mem_cons_of_mem _ (List.mem_append_left _ (List.mem_append_left _ (List.mem_append_right _ h)))), (List.mem_cons_of_mem _ (List.mem_append_left _ (List.mem_append_left _ (List.mem_append_left _ (List.mem_of_getElem? (i := 2) rfl))))), rfl, by decide, rfl⟩
theorem f_X11_extraNow_13 : kF wsX11_extraNow RX11 13 14 3 := ⟨_, RX11, TX11, 34, fun _ h => (List.mem_cons_of_mem _ (List.mem_append_left _ (List.mem_append_left _ (List.mem_append_right _ h)))), (List.mem_cons_of_mem _ (List.mem_append_left _ (List.mem_append_left _ (List.mem_append_left _ (List.mem_of_getElem? (i := 3) rfl))))), rfl, by decide, rfl⟩
set_option maxRecDepth 100000 in
set_option maxHeartbeats 4000000 in
theorem c_X11_extraNow (l : Launch) (dd : kDD) (ad : Nat → Nat) (M : mS)  (nR : Nat) (hR : M.1 1 = nI nR ∧ nR ≤ 12) (hpk : ∀ r, r < nR → 1 ≤ M.2.1 5 r) : kCl l yX11_extraNow wsX11_extraNow ({ frames := 1, cells := 0, slots := 0, locals := 25 } : Room) 0 0 dd [.ref (ad 0)] (mK, ad, mE dd ad M) (kQl (S := mS) (fun r z => M = z ∧ r = mex (M.2.2 28) (M.2.1 4) (M.2.1 5) (M.2.1 3) nR) (fun _ => mK) (fun _ => ad) (fun z => mE dd ad z)) := by
  refine kMetl (ws' := _) (cc := cX11_extraNow) (maxL := 4) (rt := .long) (by decide) rfl (Nat.le_of_ble_eq_true rfl) (fun g X hr hnL hRR hl0 hkn => ?_)
  show kv dd g 0 0 0 [(0, .ref (ad 0))] [] mK ad (mE dd ad M)
  refine kv_lconst (v := 0) X dX11_extraNow_0 (by decide) ?_
  refine kv_lstore_n (lv2 := [(1, .long 0), (0, .ref (ad 0))]) X dX11_extraNow_1 rfl (by rw [hnL]; decide) rfl ?_
  refine kv_iconst (v := 0) X dX11_extraNow_2 (by decide) ?_
  refine kv_istore_n (lv2 := [(3, .int 0), (1, .long 0), (0, .ref (ad 0))]) X dX11_extraNow_3 rfl (by rw [hnL]; decide) rfl ?_
  have L4 : ∀ (n i : Nat), i + n = nR → ∀ (_ : Unit) , kv dd g 0 0 4 [(3, .int (nI i)), (1, .long (mex (M.2.2 28) (M.2.1 4) (M.2.1 5) (M.2.1 3) i)), (0, .ref (ad 0))] [] mK ad (mE dd ad M) := by
    intro n
    induction n with
    | zero =>
      intro i hin4 _ 
      refine kv_iload_n X 0 dX11_extraNow_4 rfl rfl ?_
      refine kv_aload_n X 2 dX11_extraNow_5 rfl rfl ?_
      refine km_get X 1 (v := .int (M.1 1)) f_X11_extraNow_90 rfl dX11_extraNow_6 ?_
      refine kv_topi (nI nR) hR.1 ?_
      refine kn_icmp_ge (x := i) (y := nR) (tgt := 49) X (by omega) (by omega) dX11_extraNow_9 (by decide) (fun hc9 => ?_) (fun hc9 => absurd hc9 (by omega))
      refine kv_lload_n X 1 dX11_extraNow_49 rfl rfl ?_
      exact kv_lreturn X hr (by decide) (by decide) ⟨M, ⟨rfl, by rw [show i = nR by omega]⟩, rfl⟩ dX11_extraNow_50
    | succ n ih4 =>
      intro i hin4 _ 
      refine kv_iload_n X 0 dX11_extraNow_4 rfl rfl ?_
      refine kv_aload_n X 2 dX11_extraNow_5 rfl rfl ?_
      refine km_get X 1 (v := .int (M.1 1)) f_X11_extraNow_90 rfl dX11_extraNow_6 ?_
      refine kv_topi (nI nR) hR.1 ?_
      refine kn_icmp_ge (x := i) (y := nR) (tgt := 49) X (by omega) (by omega) dX11_extraNow_9 (by decide) (fun hc9 => absurd hc9 (by omega)) (fun hc9 => ?_)
      refine kv_lload_n X 1 dX11_extraNow_12 rfl rfl ?_
      refine kv_aload_n X 2 dX11_extraNow_13 rfl rfl ?_
      refine kv_iload_n X 0 dX11_extraNow_14 rfl rfl ?_
      refine kv_calllV (ci := 14) (κ := 0) (r1 := (TX11, 34)) (As := [.int (nI i)]) [.long (mex (M.2.2 28) (M.2.1 4) (M.2.1 5) (M.2.1 3) i)] X (c_X11_packsOf l dd ad M i (by omega) (i32_n0 (hpk _ (by omega)))) hl0 (kCV_of X 1 gX11_extraNow_X11_packsOf rfl rfl rfl (by decide +kernel) hRR ⟨Nat.le_of_ble_eq_true rfl, Nat.le_of_ble_eq_true rfl⟩) (by decide) rfl rfl rfl rfl (Nat.le_of_ble_eq_true rfl) hRR ⟨Nat.le_of_ble_eq_true rfl, Nat.le_of_ble_eq_true rfl⟩ dX11_extraNow_15 (fun r z hp => ?_)
      obtain ⟨rfl, rfl⟩ := hp
      refine kv_aload_n X 2 dX11_extraNow_18 rfl rfl ?_
      refine km_get X 5 (v := .ref (ad 5)) f_X11_extraNow_19 rfl dX11_extraNow_19 ?_
      refine kv_iload_n X 0 dX11_extraNow_22 rfl rfl ?_
      refine km_iald X 5 (j := i) (by decide) (by decide) rfl (by show _ < _; simp only [mLen]; omega) (by decide) dX11_extraNow_23 ?_
      refine kv_topi ((M.2.1 5) i) rfl ?_
      refine kv_i2l X dX11_extraNow_24 rfl ?_
      refine kv_lmul X dX11_extraNow_25 ?_
      refine kv_aload_n X 2 dX11_extraNow_26 rfl rfl ?_
      refine km_get X 28 (v := .ref (ad 28)) f_X11_extraNow_67 rfl dX11_extraNow_27 ?_
      refine kv_iload_n X 0 dX11_extraNow_30 rfl rfl ?_
      refine km_lald X 28 (j := i) (by decide) (by decide) rfl (by show _ < _; simp only [mLen]; omega) (by decide) dX11_extraNow_31 ?_
      refine kv_topl ((M.2.2 28) i) rfl ?_
      refine kv_lsub X dX11_extraNow_32 ?_
      refine kv_aload_n X 2 dX11_extraNow_33 rfl rfl ?_
      refine km_get X 3 (v := .ref (ad 3)) f_X11_extraNow_13 rfl dX11_extraNow_34 ?_
      refine kv_iload_n X 0 dX11_extraNow_37 rfl rfl ?_
      refine km_iald X 3 (j := i) (by decide) (by decide) rfl (by show _ < _; simp only [mLen]; omega) (by decide) dX11_extraNow_38 ?_
      refine kv_topi ((M.2.1 3) i) rfl ?_
      refine kv_i2l X dX11_extraNow_39 rfl ?_
      refine kv_lmul X dX11_extraNow_40 ?_
      refine kv_ladd X dX11_extraNow_41 ?_
      refine kv_topl (mex (M.2.2 28) (M.2.1 4) (M.2.1 5) (M.2.1 3) (i + 1)) rfl ?_
      refine kv_lstore_n (lv2 := [(1, .long (mex (M.2.2 28) (M.2.1 4) (M.2.1 5) (M.2.1 3) (i + 1))), (3, .int (nI i)), (0, .ref (ad 0))]) X dX11_extraNow_42 rfl (by rw [hnL]; decide) rfl ?_
      refine kv_iinc (j := 1) (v := (nI (i + 1))) (lv2 := [(3, .int (nI (i + 1))), (1, .long (mex (M.2.2 28) (M.2.1 4) (M.2.1 5) (M.2.1 3) (i + 1))), (0, .ref (ad 0))]) X dX11_extraNow_43 rfl (nI_add i 1) (by rw [hnL]; decide) rfl ?_
      refine kv_goto (tgt := 4) X dX11_extraNow_46 (by decide) ?_
      exact kv_lv [0, 1, 2] rfl (ih4 (i + 1) (by omega) ())
  exact kv_lv [0, 1, 2] rfl (L4 nR 0 (by omega) ())

/-! the estimate: units of items, amounts -/
/-- an item's units go on to its parts, n of them -/
def cpu (so mu : Nat → Int32) (nx : Nat → Nat) (b i : Nat) (f : Nat → Int64) : Nat → Nat → Int64
  | 0 => f
  | n + 1 => if so (b + n) = 0 then va_up (cpu so mu nx b i f n) (nx (b + n)) (cpu so mu nx b i f n (nx (b + n)) + cpu so mu nx b i f n i * (mu (b + n)).toInt64) else cpu so mu nx b i f n
def cul (mi li : Nat → Nat) (q : Nat → Int32) (f : Nat → Int64) : Nat → Nat → Int64
  | 0 => f
  | n + 1 => va_up (cul mi li q f n) (mi (li n)) (cul mi li q f n (mi (li n)) + (q n).toInt64)
def cam (mi li : Nat → Nat) (q : Nat → Int32) (e2 : Nat → Nat → Int64) (f : Nat → Int64) : Nat → Nat → Int64
  | 0 => f
  | n + 1 => cat (cam mi li q e2 f n) (e2 (37 + mi (li n))) (q n).toInt64
theorem msumJ_s0 {f : Nat → Int64} {s0 : Int64} : ∀ n, msumJ f s0 n = s0 + msumJ f 0 n := by
  intro n
  induction n with
  | zero => show s0 = s0 + 0; grind
  | succ n ih => rw [msumJ, msumJ, ih]; grind
theorem msumJ_congr {f g : Nat → Int64} {s0 : Int64} : ∀ n, (∀ k, k < n → f k = g k) → msumJ f s0 n = msumJ g s0 n := by
  intro n
  induction n with
  | zero => intro _; rfl
  | succ n ih => intro h; rw [msumJ, msumJ, ih (fun k hk => h k (by omega)), h n (by omega)]
theorem msumJ_upd {f g : Nat → Int64} {p : Nat} {x : Int64} : ∀ n, msumJ (fun i => va_up f p x i * g i) 0 n = msumJ (fun i => f i * g i) 0 n + (if p < n then (x - f p) * g p else 0) := by
  intro n
  induction n with
  | zero => rw [if_neg (by omega)]; show (0 : Int64) = 0 + 0; grind
  | succ n ih =>
    rw [msumJ, msumJ, ih]
    by_cases c : p = n
    · subst c
      rw [if_neg (by omega), if_pos (by omega), va_up_self]
      grind
    · rw [va_up_ne _ _ (Ne.symm c)]
      by_cases c2 : p < n
      · rw [if_pos c2, if_pos (by omega)]; grind
      · rw [if_neg c2, if_neg (by omega)]; grind
theorem msumJ_one {f g g2 : Nat → Int64} {i : Nat} (h : ∀ j, j ≠ i → g2 j = g j) : ∀ n, msumJ (fun j => f j * g2 j) 0 n = msumJ (fun j => f j * g j) 0 n + (if i < n then f i * (g2 i - g i) else 0) := by
  intro n
  induction n with
  | zero => rw [if_neg (by omega)]; show (0 : Int64) = 0 + 0; grind
  | succ n ih =>
    rw [msumJ, msumJ, ih]
    by_cases c : i = n
    · subst c
      rw [if_neg (by omega), if_pos (by omega)]
      grind
    · rw [h n (Ne.symm c)]
      by_cases c2 : i < n
      · rw [if_pos c2, if_pos (by omega)]; grind
      · rw [if_neg c2, if_neg (by omega)]; grind
theorem mstep_s0 {so mu : Nat → Int32} {nx : Nat → Nat} {f : Nat → Int64} {s0 : Int64} {b : Nat} : ∀ n, mstep so mu nx f s0 b n = s0 + mstep so mu nx f 0 b n := by
  intro n
  induction n with
  | zero => show s0 = s0 + 0; grind
  | succ n ih => rw [mstep, mstep, ih]; grind
theorem pass_step {so mu : Nat → Int32} {cn nx dep : Nat → Nat} {nt : Nat} (h : kDp so cn nx dep nt) {U w g g2 : Nat → Int64} {i : Nat} (hi : i < nt) (h1 : g i = mN so mu cn nx w 2 i) (h2 : g2 i = w i) (h3 : ∀ j, j ≠ i → g2 j = g j) (h4 : ∀ j, j < nt → dep j < dep i → g j = mN so mu cn nx w 2 j) : msumJ (fun j => cpu so mu nx (4 * i) i U (cn i) j * g2 j) 0 nt = msumJ (fun j => U j * g j) 0 nt := by
  have key : ∀ n, n ≤ cn i → cpu so mu nx (4 * i) i U n i = U i ∧ msumJ (fun j => cpu so mu nx (4 * i) i U n j * g2 j) 0 nt = msumJ (fun j => U j * g2 j) 0 nt + U i * mstep so mu nx (mN so mu cn nx w 2) 0 (4 * i) n := by
    intro n
    induction n with
    | zero => intro _; refine ⟨rfl, ?_⟩; show _ = _ + U i * 0; show msumJ (fun j => U j * g2 j) 0 nt = _; grind
    | succ n ih =>
      intro hn
      obtain ⟨i1, i2⟩ := ih (by omega)
      by_cases c : so (4 * i + n) = 0
      · obtain ⟨p1, p2⟩ := (h i hi).2 n (by omega) c
        have hne : i ≠ nx (4 * i + n) := fun q => by rw [← q] at p2; omega
        have e : cpu so mu nx (4 * i) i U (n + 1) = va_up (cpu so mu nx (4 * i) i U n) (nx (4 * i + n)) (cpu so mu nx (4 * i) i U n (nx (4 * i + n)) + cpu so mu nx (4 * i) i U n i * (mu (4 * i + n)).toInt64) := by rw [cpu, if_pos c]
        rw [e]
        refine ⟨(va_up_ne _ _ hne).trans i1, ?_⟩
        rw [msumJ_upd, if_pos p1, i2, mstep, if_pos c, i1, h3 _ (Ne.symm hne), h4 _ p1 p2]
        grind
      · have e : cpu so mu nx (4 * i) i U (n + 1) = cpu so mu nx (4 * i) i U n := by rw [cpu, if_neg c]
        rw [e, mstep, if_neg c]
        refine ⟨i1, i2.trans ?_⟩
        grind
  rw [(key (cn i) (Nat.le_refl _)).2, msumJ_one h3, if_pos hi, h1, h2, mN_rec h hi, mstep_s0]
  grind
theorem cul_sum {mi li : Nat → Nat} {q : Nat → Int32} {f v : Nat → Int64} {nt : Nat} (h0 : ∀ j, j < nt → f j = 0) : ∀ n, (∀ l, l < n → mi (li l) < nt) → msumJ (fun j => cul mi li q f n j * v j) 0 nt = msumJ (fun l => (q l).toInt64 * v (mi (li l))) 0 n := by
  intro n
  induction n with
  | zero =>
    intro _
    show msumJ (fun j => f j * v j) 0 nt = 0
    have : ∀ m, m ≤ nt → msumJ (fun j => f j * v j) 0 m = 0 := by
      intro m
      induction m with
      | zero => intro _; rfl
      | succ m ih => intro hm; rw [msumJ, ih (by omega), h0 m (by omega)]; grind
    exact this nt (Nat.le_refl _)
  | succ n ih =>
    intro h
    show msumJ (fun j => va_up _ _ _ j * v j) 0 nt = _
    rw [msumJ_upd, if_pos (h n (by omega)), ih (fun l hl => h l (by omega)), msumJ]
    grind
theorem cam_at {mi li : Nat → Nat} {q : Nat → Int32} {e2 : Nat → Nat → Int64} {f : Nat → Int64} {r : Nat} (hr : r < 12) (h0 : f r = 0) : ∀ n, cam mi li q e2 f n r = msumJ (fun l => (q l).toInt64 * e2 (37 + mi (li l)) r) 0 n := by
  intro n
  induction n with
  | zero => exact h0
  | succ n ih =>
    rw [cam]
    unfold cat
    rw [mset_in hr, msumJ, ← ih]
    grind
theorem k_dec {a : Nat} (h : 1 ≤ a) : nI a + (-1) = nI (a - 1) := by
  rw [← pk_sub (b := 1) h]
  exact (Int32.sub_eq_add_neg (nI a) 1).symm
theorem mN_1 {so mu : Nat → Int32} {cn nx dep : Nat → Nat} {nt : Nat} {dir : Nat → Int64} (h : kDp so cn nx dep nt) {i : Nat} (hi : i < nt) (hd : dep i ≤ 1) : mN so mu cn nx dir 2 i = dir i := (mN_fix h 1 i hi (by omega)).trans (mN_fix h 0 i hi (by omega))

theorem f_X2_passUnitsOn_39 : kF wsX2_passUnitsOn RX2 39 5 0 := ⟨_, RX2, TX2, 9, fun _ h => (List.mem_cons_of_mem _ (List.mem_append_left _ (List.mem_append_left _ (List.mem_append_left _ (List.mem_append_left _ (List.mem_append_left _ (List.mem_append_right _ h))))))), (List.mem_cons_of_mem _ (List.mem_append_left _ (List.mem_append_left _ (List.mem_append_left _ (List.mem_append_left _ (List.mem_append_left _ (List.mem_append_left _ (List.mem_append_left _ (List.mem_of_getElem? (i := 0) rfl))))))))), rfl, by decide, rfl⟩
theorem f_X2_passUnitsOn_43 : kF wsX2_passUnitsOn RX2 43 9 2 := ⟨_, RX6, TX6, 7, fun _ h => (List.mem_cons_of_mem _ (List.mem_append_left _ (List.mem_append_left _ (List.mem_append_left _ (List.mem_append_left _ (List.mem_append_right _ h)))))), (List.mem_cons_of_mem _ (List.mem_append_left _ (List.mem_append_left _ (List.mem_append_left _ (List.mem_append_left _ (List.mem_append_left _ (List.mem_append_left _ (List.mem_append_left _ (List.mem_of_getElem? (i := 1) rfl))))))))), rfl, by decide, rfl⟩
theorem f_X2_passUnitsOn_100 : kF wsX2_passUnitsOn RX2 100 6 1 := ⟨_, RX3, TX3, 2, fun _ h => (List.mem_cons_of_mem _ (List.mem_append_left _ (List.mem_append_left _ (List.mem_append_left _ (List.mem_append_right _ h))))), (List.mem_cons_of_mem _ (List.mem_append_left _ (List.mem_append_left _ (List.mem_append_left _ (List.mem_append_left _ (List.mem_append_left _ (List.mem_append_left _ (List.mem_append_left _ (List.mem_of_getElem? (i := 3) rfl))))))))), rfl, by decide, rfl⟩
theorem f_X2_passUnitsOn_105 : kF wsX2_passUnitsOn RX2 105 3 0 := ⟨_, RX0, TX0, 3, fun _ h => (List.mem_cons_of_mem _ (List.mem_append_left _ (List.mem_append_left _ (List.mem_append_right _ h)))), (List.mem_cons_of_mem _ (List.mem_append_left _ (List.mem_append_left _ (List.mem_append_left _ (List.mem_append_left _ (List.mem_append_left _ (List.mem_append_left _ (List.mem_append_left _ (List.mem_of_getElem? (i := 5) rfl))))))))), rfl, by decide, rfl⟩
theorem f_X2_passUnitsOn_29 : kF wsX2_passUnitsOn RX2 29 5 6 := ⟨_, RX2, TX2, 9, fun _ h => (List.mem_cons_of_mem _ (List.mem_append_left _ (List.mem_append_left _ (List.mem_append_left _ (List.mem_append_left _ (List.mem_append_left _ (List.mem_append_right _ h))))))), (List.mem_cons_of_mem _ (List.mem_append_left _ (List.mem_append_left _ (List.mem_append_left _ (List.mem_append_left _ (List.mem_append_left _ (List.mem_append_left _ (List.mem_append_left _ (List.mem_of_getElem? (i := 6) rfl))))))))), rfl, by decide, rfl⟩
theorem f_X2_passUnitsOn_9 : kF wsX2_passUnitsOn RX2 9 5 1 := ⟨_, RX2, TX2, 9, fun _ h => (List.mem_cons_of_mem _ (List.mem_append_left _ (List.mem_append_left _ (List.mem_append_left _ (List.mem_append_left _ (List.mem_append_left _ (List.mem_append_right _ h))))))), (List.mem_cons_of_mem _ (List.mem_append_left _ (List.mem_append_left _ (List.mem_append_left _ (List.mem_append_left _ (List.mem_append_left _ (List.mem_append_left _ (List.mem_append_left _ (List.mem_of_getElem? (i := 7) rfl))))))))), rfl, by decide, rfl⟩
theorem f_X2_passUnitsOn_109 : kF wsX2_passUnitsOn RX2 109 3 1 := ⟨_, RX0, TX0, 3, fun _ h => (List.mem_cons_of_mem _ (List.mem_append_left _ (List.mem_append_left _ (List.mem_append_right _ h)))), (List.mem_cons_of_mem _ (List.mem_append_left _ (List.mem_append_left _ (List.mem_append_left _ (List.mem_append_left _ (List.mem_append_left _ (List.mem_append_left _ (List.mem_append_left _ (List.mem_of_getElem? (i := 8) rfl))))))))), rfl, by decide, rfl⟩
theorem f_X2_passUnitsOn_139 : kF wsX2_passUnitsOn RX2 139 3 2 := ⟨_, RX0, TX0, 3, fun _ h => (List.mem_cons_of_mem _ (List.mem_append_left _ (List.mem_append_left _ (List.mem_append_right _ h)))), (List.mem_cons_of_mem _ (List.mem_append_left _ (List.mem_append_left _ (List.mem_append_left _ (List.mem_append_left _ (List.mem_append_left _ (List.mem_append_left _ (List.mem_append_left _ (List.mem_of_getElem? (i := 9) rfl))))))))), rfl, by decide, rfl⟩
set_option maxRecDepth 100000 in
set_option maxHeartbeats 4000000 in
theorem c_X2_passUnitsOn (l : Launch) (dd : kDD) (ks : List Nat) (ad : Nat → Nat) (E : Nat → va_E) (e : eS) (M : mS) (nR nC nt nL nW nV nM : Nat) (cn nm mn me li rl : Nat → Nat) (on : Int32) (hO : cO dd ks ad E on) (hR : cR dd ks ad E M nR) (hC : cC dd ks ad E M nC mn me) (hT : cT dd ks ad E M nt cn nm) (hL : cL dd ks ad E M nL nW li) (hW : cW dd ks ad E M nW rl) (hV : cV dd ks ad E M nV) (hM : cM dd ks ad E M nM) (hB : cB M nR nC nt nL nW nV cn nm mn me li rl) (i : Nat) (hi : i < nt) (mi : Nat → Nat) (hmi : ∀ j, j < nt → e.1 17 j = nI (mi j) ∧ mi j < nt) : kCv l yX2_passUnitsOn wsX2_passUnitsOn ({ frames := 3, cells := 0, slots := 0, locals := 64 } : Room) 0 0 dd [.ref (ad 2), .int (nI i)] (ks, ad, (cE dd E e)) (kQv (S := eS) (fun z => (e.1, va_up e.2 22 (cpu (M.2.1 13) (M.2.1 15) (fun k => mi (nm k)) (4 * i) i (e.2 22) (cn i))) = z) (fun _ => ks) (fun _ => ad) (fun z => cE dd E z)) := by
  refine kMetv (ws' := _) (cc := cX2_passUnitsOn) (maxL := 5) (by decide) rfl (Nat.le_of_ble_eq_true rfl) (fun g X hr hnL hRR hl0 hkn => ?_)
  show kv dd g 0 0 0 [(0, .ref (ad 2)), (1, .int (nI i))] [] ks ad (cE dd E e)
  have hT12 := hT.1
  have hcn4 := (hT.2.2 i hi).2.2.1
  refine kv_aload_n X 0 dX2_passUnitsOn_0 rfl rfl ?_
  refine kv_getfield X f_X2_passUnitsOn_39 (κ := 2) (fs := [.ref (ad 1), .ref (ad 17), .ref (ad 18), .ref (ad 19), .ref (ad 20), .ref (ad 21), .ref (ad 22), .ref (ad 23), .ref (ad 24)]) (v := .ref (ad 1)) hO.2.2.1.1 ((cE_ne (by omega)).trans hO.2.2.1.2) rfl dX2_passUnitsOn_1 ?_
  refine kv_getfield X f_X2_passUnitsOn_43 (κ := 1) (fs := [.ref (ad 3), .ref (ad 4), .ref (ad 5), .ref (ad 6), .ref (ad 7), .ref (ad 8), .ref (ad 9)]) (v := .ref (ad 5)) hO.2.1.1 ((cE_ne (by omega)).trans hO.2.1.2) rfl dX2_passUnitsOn_4 ?_
  refine kv_iload_n X 1 dX2_passUnitsOn_7 rfl rfl ?_
  obtain ⟨_, _, o8⟩ := kLs_obj (dd := dd) (ks := ks) (ad := ad) (E := (cE dd E e)) (kLs_cE hT.2.1 (by omega) (by omega) (fun i hi => by omega))
  refine kv_callqV (ci := 2) (κ := 5) (r1 := (TJx4a65c, 3)) (As := [.int (nI i)]) [] X (c_Jx4a65c_get_915e3 l dd ks ad (cE dd E e) (5) (12) (nt) (fun i => 96 + i) 6 (kLs_cE hT.2.1 (by omega) (by omega) (fun i hi => by omega)) i (by omega)) hl0 (kCV_of X 1 gX2_passUnitsOn_Jx4a65c_get_915e3 rfl rfl rfl (by decide +kernel) hRR ⟨(Nat.le_of_ble_eq_true rfl), (Nat.le_of_ble_eq_true rfl)⟩) hT.2.1.1 o8 rfl rfl rfl (Nat.le_of_ble_eq_true rfl) hRR ⟨(Nat.le_of_ble_eq_true rfl), (Nat.le_of_ble_eq_true rfl)⟩ dX2_passUnitsOn_8 (fun r z hp => ?_)
  obtain rfl := hp
  refine kv_topg (.ref (ad (96 + i))) rfl ?_
  refine kv_cast X (κ := 96 + i) (ci := 6) (fs := [.int (M.2.1 11 i), .ref (ad (112 + i))]) (r := (RX3, TX3, 2)) (List.mem_cons_of_mem _ (List.mem_append_left _ (List.mem_append_left _ (List.mem_append_left _ (List.mem_append_left _ (List.mem_append_left _ (List.mem_append_left _ (List.mem_append_left _ (List.mem_of_getElem? (i := 2) rfl))))))))) (hT.2.2 i (by omega)).1 ((cE_ne (by omega)).trans (hT.2.2 i (by omega)).2.1) rfl dX2_passUnitsOn_11 ?_
  refine kv_getfield X f_X2_passUnitsOn_100 (κ := 96 + i) (fs := [.int (M.2.1 11 i), .ref (ad (112 + i))]) (v := .ref (ad (112 + i))) (hT.2.2 i (by omega)).1 ((cE_ne (by omega)).trans (hT.2.2 i (by omega)).2.1) rfl dX2_passUnitsOn_14 ?_
  refine kv_astore_n (lv2 := [(2, .ref (ad (112 + i))), (0, .ref (ad 2)), (1, .int (nI i))]) X dX2_passUnitsOn_17 rfl (by rw [hnL]; decide) rfl ?_
  refine kv_iconst (v := 0) X dX2_passUnitsOn_18 (by decide) ?_
  refine kv_istore_n (lv2 := [(3, .int 0), (2, .ref (ad (112 + i))), (0, .ref (ad 2)), (1, .int (nI i))]) X dX2_passUnitsOn_19 rfl (by rw [hnL]; decide) rfl ?_
  refine kv_e (e.1, (va_up e.2 22 (cpu (M.2.1 13) (M.2.1 15) (fun k => mi (nm k)) (4 * i) i (e.2 22) 0))) (by show e = (e.1, (va_up e.2 22 (cpu (M.2.1 13) (M.2.1 15) (fun k => mi (nm k)) (4 * i) i (e.2 22) 0))); exact congrArg (fun y => (e.1, y)) (va_up_id _ _).symm) ?_
  have L20 : ∀ (n9 k : Nat), k + n9 = cn i → ∀ (_ : Unit) , kv dd g 0 0 20 [(3, .int (nI k)), (2, .ref (ad (112 + i))), (0, .ref (ad 2)), (1, .int (nI i))] [] ks ad (cE dd E (e.1, (va_up e.2 22 (cpu (M.2.1 13) (M.2.1 15) (fun k => mi (nm k)) (4 * i) i (e.2 22) k)))) := by
    intro n9
    induction n9 with
    | zero =>
      intro k hin20 _ 
      refine kv_iload_n X 0 dX2_passUnitsOn_20 rfl rfl ?_
      refine kv_aload_n X 1 dX2_passUnitsOn_21 rfl rfl ?_
      obtain ⟨_, _, o22⟩ := kLs_obj (dd := dd) (ks := ks) (ad := ad) (E := (cE dd E (e.1, (va_up e.2 22 (cpu (M.2.1 13) (M.2.1 15) (fun k => mi (nm k)) (4 * i) i (e.2 22) k))))) (kLs_cE (hT.2.2 i (by omega)).2.2.2.1 (by omega) (by omega) (fun i hi => by omega))
      refine kv_calliV (ci := 2) (κ := 112 + i) (r1 := (TJx4a65c, 3)) (As := []) [.int (nI k)] X (c_Jx4a65c_size_8abf5 l dd ks ad (cE dd E (e.1, (va_up e.2 22 (cpu (M.2.1 13) (M.2.1 15) (fun k => mi (nm k)) (4 * i) i (e.2 22) k)))) (112 + i) (128 + i) (cn i) (fun k => 144 + (4 * i + k)) 3 (kLs_cE (hT.2.2 i (by omega)).2.2.2.1 (by omega) (by omega) (fun i hi => by omega))) hl0 (kCV_of X 0 gX2_passUnitsOn_Jx4a65c_size_8abf5 rfl rfl rfl (by decide +kernel) hRR ⟨(Nat.le_of_ble_eq_true rfl), (Nat.le_of_ble_eq_true rfl)⟩) (hT.2.2 i (by omega)).2.2.2.1.1 o22 rfl rfl rfl (Nat.le_of_ble_eq_true rfl) hRR ⟨(Nat.le_of_ble_eq_true rfl), (Nat.le_of_ble_eq_true rfl)⟩ dX2_passUnitsOn_22 (fun r z hp => ?_)
      obtain rfl := hp
      refine kn_icmp_ge (x := k) (y := cn i) (tgt := 83) X (by omega) (by omega) dX2_passUnitsOn_25 (by decide) (fun hc25 => ?_) (fun hc25 => absurd hc25 (by omega))
      exact kv_return X hr (Nat.le_of_ble_eq_true rfl) (Nat.le_of_ble_eq_true rfl) ⟨(e.1, va_up e.2 22 (cpu (M.2.1 13) (M.2.1 15) (fun k => mi (nm k)) (4 * i) i (e.2 22) k)), by rw [show k = cn i by omega], rfl⟩ dX2_passUnitsOn_83
    | succ n9 ih20 =>
      intro k hin20 _ 
      refine kv_iload_n X 0 dX2_passUnitsOn_20 rfl rfl ?_
      refine kv_aload_n X 1 dX2_passUnitsOn_21 rfl rfl ?_
      obtain ⟨_, _, o22⟩ := kLs_obj (dd := dd) (ks := ks) (ad := ad) (E := (cE dd E (e.1, (va_up e.2 22 (cpu (M.2.1 13) (M.2.1 15) (fun k => mi (nm k)) (4 * i) i (e.2 22) k))))) (kLs_cE (hT.2.2 i (by omega)).2.2.2.1 (by omega) (by omega) (fun i hi => by omega))
      refine kv_calliV (ci := 2) (κ := 112 + i) (r1 := (TJx4a65c, 3)) (As := []) [.int (nI k)] X (c_Jx4a65c_size_8abf5 l dd ks ad (cE dd E (e.1, (va_up e.2 22 (cpu (M.2.1 13) (M.2.1 15) (fun k => mi (nm k)) (4 * i) i (e.2 22) k)))) (112 + i) (128 + i) (cn i) (fun k => 144 + (4 * i + k)) 3 (kLs_cE (hT.2.2 i (by omega)).2.2.2.1 (by omega) (by omega) (fun i hi => by omega))) hl0 (kCV_of X 0 gX2_passUnitsOn_Jx4a65c_size_8abf5 rfl rfl rfl (by decide +kernel) hRR ⟨(Nat.le_of_ble_eq_true rfl), (Nat.le_of_ble_eq_true rfl)⟩) (hT.2.2 i (by omega)).2.2.2.1.1 o22 rfl rfl rfl (Nat.le_of_ble_eq_true rfl) hRR ⟨(Nat.le_of_ble_eq_true rfl), (Nat.le_of_ble_eq_true rfl)⟩ dX2_passUnitsOn_22 (fun r z hp => ?_)
      obtain rfl := hp
      refine kn_icmp_ge (x := k) (y := cn i) (tgt := 83) X (by omega) (by omega) dX2_passUnitsOn_25 (by decide) (fun hc25 => absurd hc25 (by omega)) (fun hc25 => ?_)
      refine kv_aload_n X 1 dX2_passUnitsOn_28 rfl rfl ?_
      refine kv_iload_n X 0 dX2_passUnitsOn_29 rfl rfl ?_
      obtain ⟨_, _, o30⟩ := kLs_obj (dd := dd) (ks := ks) (ad := ad) (E := (cE dd E (e.1, (va_up e.2 22 (cpu (M.2.1 13) (M.2.1 15) (fun k => mi (nm k)) (4 * i) i (e.2 22) k))))) (kLs_cE (hT.2.2 i (by omega)).2.2.2.1 (by omega) (by omega) (fun i hi => by omega))
      refine kv_callqV (ci := 2) (κ := 112 + i) (r1 := (TJx4a65c, 3)) (As := [.int (nI k)]) [] X (c_Jx4a65c_get_915e3 l dd ks ad (cE dd E (e.1, (va_up e.2 22 (cpu (M.2.1 13) (M.2.1 15) (fun k => mi (nm k)) (4 * i) i (e.2 22) k)))) (112 + i) (128 + i) (cn i) (fun k => 144 + (4 * i + k)) 3 (kLs_cE (hT.2.2 i (by omega)).2.2.2.1 (by omega) (by omega) (fun i hi => by omega)) k (by omega)) hl0 (kCV_of X 1 gX2_passUnitsOn_Jx4a65c_get_915e3 rfl rfl rfl (by decide +kernel) hRR ⟨(Nat.le_of_ble_eq_true rfl), (Nat.le_of_ble_eq_true rfl)⟩) (hT.2.2 i (by omega)).2.2.2.1.1 o30 rfl rfl rfl (Nat.le_of_ble_eq_true rfl) hRR ⟨(Nat.le_of_ble_eq_true rfl), (Nat.le_of_ble_eq_true rfl)⟩ dX2_passUnitsOn_30 (fun r z hp => ?_)
      obtain rfl := hp
      refine kv_topg (.ref (ad (144 + (4 * i + k)))) rfl ?_
      refine kv_cast X (κ := 144 + (4 * i + k)) (ci := 3) (fs := [.int (M.2.1 13 (4 * i + k)), .int (nI (nm (4 * i + k))), .int (M.2.1 15 (4 * i + k))]) (r := (RX0, TX0, 3)) (List.mem_cons_of_mem _ (List.mem_append_left _ (List.mem_append_left _ (List.mem_append_left _ (List.mem_append_left _ (List.mem_append_left _ (List.mem_append_left _ (List.mem_append_left _ (List.mem_of_getElem? (i := 4) rfl))))))))) ((hT.2.2 i (by omega)).2.2.2.2 k (by omega)).1 ((cE_ne (by omega)).trans ((hT.2.2 i (by omega)).2.2.2.2 k (by omega)).2) rfl dX2_passUnitsOn_33 ?_
      refine kv_astore (lv2 := [(4, .ref (ad (144 + (4 * i + k)))), (3, .int (nI k)), (2, .ref (ad (112 + i))), (0, .ref (ad 2)), (1, .int (nI i))]) X dX2_passUnitsOn_36 (by rw [hnL]; decide) rfl ?_
      refine kv_aload X 0 dX2_passUnitsOn_38 rfl ?_
      refine kv_getfield X f_X2_passUnitsOn_105 (κ := 144 + (4 * i + k)) (fs := [.int (M.2.1 13 (4 * i + k)), .int (nI (nm (4 * i + k))), .int (M.2.1 15 (4 * i + k))]) (v := .int (M.2.1 13 (4 * i + k))) ((hT.2.2 i (by omega)).2.2.2.2 k (by omega)).1 ((cE_ne (by omega)).trans ((hT.2.2 i (by omega)).2.2.2.2 k (by omega)).2) rfl dX2_passUnitsOn_40 ?_
      refine kv_if_ne (tgt := 77) X dX2_passUnitsOn_43 (by decide) (fun hc43 => ?_) (fun hc43 => ?_)
      ·
        refine kv_e (e.1, (va_up e.2 22 (cpu (M.2.1 13) (M.2.1 15) (fun k => mi (nm k)) (4 * i) i (e.2 22) (k + 1)))) (by show (e.1, (va_up e.2 22 (cpu (M.2.1 13) (M.2.1 15) (fun k => mi (nm k)) (4 * i) i (e.2 22) k))) = (e.1, (va_up e.2 22 (cpu (M.2.1 13) (M.2.1 15) (fun k => mi (nm k)) (4 * i) i (e.2 22) (k + 1)))); exact congrArg (fun y => (e.1, va_up e.2 22 y)) (by rw [cpu, if_neg hc43])) ?_
        refine kv_iinc (j := 1) (v := (nI (k + 1))) (lv2 := [(3, .int (nI (k + 1))), (4, .ref (ad (144 + (4 * i + k)))), (2, .ref (ad (112 + i))), (0, .ref (ad 2)), (1, .int (nI i))]) X dX2_passUnitsOn_77 rfl (nI_add k 1) (by rw [hnL]; decide) rfl ?_
        refine kv_goto (tgt := 20) X dX2_passUnitsOn_80 (by decide) ?_
        exact kv_lv [0, 2, 3, 4] rfl (ih20 (k + 1) (by omega) ())
      ·
        have hnt : nm (4 * i + k) < nt := by rcases hB.1 i (by omega) k (by omega) with q | q | q; exact q.2; exact absurd (hc43.symm.trans q.1) (by decide); exact absurd (hc43.symm.trans q.1) (by decide)
        have hmt := (hmi (nm (4 * i + k)) hnt).2
        refine kv_aload_n X 3 dX2_passUnitsOn_46 rfl rfl ?_
        refine kv_getfield X f_X2_passUnitsOn_29 (κ := 2) (fs := [.ref (ad 1), .ref (ad 17), .ref (ad 18), .ref (ad 19), .ref (ad 20), .ref (ad 21), .ref (ad 22), .ref (ad 23), .ref (ad 24)]) (v := .ref (ad 22)) hO.2.2.1.1 ((cE_ne (by omega)).trans hO.2.2.1.2) rfl dX2_passUnitsOn_47 ?_
        refine kv_aload_n X 3 dX2_passUnitsOn_50 rfl rfl ?_
        refine kv_getfield X f_X2_passUnitsOn_9 (κ := 2) (fs := [.ref (ad 1), .ref (ad 17), .ref (ad 18), .ref (ad 19), .ref (ad 20), .ref (ad 21), .ref (ad 22), .ref (ad 23), .ref (ad 24)]) (v := .ref (ad 17)) hO.2.2.1.1 ((cE_ne (by omega)).trans hO.2.2.1.2) rfl dX2_passUnitsOn_51 ?_
        refine kv_aload X 0 dX2_passUnitsOn_54 rfl ?_
        refine kv_getfield X f_X2_passUnitsOn_109 (κ := 144 + (4 * i + k)) (fs := [.int (M.2.1 13 (4 * i + k)), .int (nI (nm (4 * i + k))), .int (M.2.1 15 (4 * i + k))]) (v := .int (nI (nm (4 * i + k)))) ((hT.2.2 i (by omega)).2.2.2.2 k (by omega)).1 ((cE_ne (by omega)).trans ((hT.2.2 i (by omega)).2.2.2.2 k (by omega)).2) rfl dX2_passUnitsOn_56 ?_
        refine ke_iald X (17) (j := nm (4 * i + k)) (hO.2.2.2.1 _ (by omega) (by omega)) (by omega) (by omega) dX2_passUnitsOn_59 ?_
        refine kv_topi ((e.1 17) (nm (4 * i + k))) rfl ?_
        refine kv_topi (nI (mi (nm (4 * i + k)))) (hmi (nm (4 * i + k)) hnt).1 ?_
        refine kv_dup2_11 X dX2_passUnitsOn_60 rfl rfl ?_
        refine ke_lald X (22) (j := mi (nm (4 * i + k))) (hO.2.2.2.1 _ (by omega) (by omega)) (by omega) (by unfold eLen; split <;> omega) dX2_passUnitsOn_61 ?_
        refine kv_topl ((cpu (M.2.1 13) (M.2.1 15) (fun k => mi (nm k)) (4 * i) i (e.2 22) k) (mi (nm (4 * i + k)))) rfl ?_
        refine kv_aload_n X 3 dX2_passUnitsOn_62 rfl rfl ?_
        refine kv_getfield X f_X2_passUnitsOn_29 (κ := 2) (fs := [.ref (ad 1), .ref (ad 17), .ref (ad 18), .ref (ad 19), .ref (ad 20), .ref (ad 21), .ref (ad 22), .ref (ad 23), .ref (ad 24)]) (v := .ref (ad 22)) hO.2.2.1.1 ((cE_ne (by omega)).trans hO.2.2.1.2) rfl dX2_passUnitsOn_63 ?_
        refine kv_iload_n X 4 dX2_passUnitsOn_66 rfl rfl ?_
        refine ke_lald X (22) (j := i) (hO.2.2.2.1 _ (by omega) (by omega)) (by omega) (by unfold eLen; split <;> omega) dX2_passUnitsOn_67 ?_
        refine kv_topl ((cpu (M.2.1 13) (M.2.1 15) (fun k => mi (nm k)) (4 * i) i (e.2 22) k) i) rfl ?_
        refine kv_aload X 0 dX2_passUnitsOn_68 rfl ?_
        refine kv_getfield X f_X2_passUnitsOn_139 (κ := 144 + (4 * i + k)) (fs := [.int (M.2.1 13 (4 * i + k)), .int (nI (nm (4 * i + k))), .int (M.2.1 15 (4 * i + k))]) (v := .int (M.2.1 15 (4 * i + k))) ((hT.2.2 i (by omega)).2.2.2.2 k (by omega)).1 ((cE_ne (by omega)).trans ((hT.2.2 i (by omega)).2.2.2.2 k (by omega)).2) rfl dX2_passUnitsOn_70 ?_
        refine kv_i2l X dX2_passUnitsOn_73 rfl ?_
        refine kv_lmul X dX2_passUnitsOn_74 ?_
        refine kv_ladd X dX2_passUnitsOn_75 ?_
        refine ke_last X (22) (j := mi (nm (4 * i + k))) (x := (((cpu (M.2.1 13) (M.2.1 15) (fun k => mi (nm k)) (4 * i) i (e.2 22) k) (mi (nm (4 * i + k)))) + (((cpu (M.2.1 13) (M.2.1 15) (fun k => mi (nm k)) (4 * i) i (e.2 22) k) i) * ((M.2.1 15 (4 * i + k)).toInt64)))) (hO.2.2.2.1 _ (by omega) (by omega)) (by omega) (by unfold eLen; split <;> omega) dX2_passUnitsOn_76 ?_
        refine kv_e (e.1, (va_up e.2 22 (cpu (M.2.1 13) (M.2.1 15) (fun k => mi (nm k)) (4 * i) i (e.2 22) (k + 1)))) (by show (e.1, (va_up (va_up e.2 22 (cpu (M.2.1 13) (M.2.1 15) (fun k => mi (nm k)) (4 * i) i (e.2 22) k)) 22 (va_up (cpu (M.2.1 13) (M.2.1 15) (fun k => mi (nm k)) (4 * i) i (e.2 22) k) (mi (nm (4 * i + k))) (((cpu (M.2.1 13) (M.2.1 15) (fun k => mi (nm k)) (4 * i) i (e.2 22) k) (mi (nm (4 * i + k)))) + (((cpu (M.2.1 13) (M.2.1 15) (fun k => mi (nm k)) (4 * i) i (e.2 22) k) i) * ((M.2.1 15 (4 * i + k)).toInt64)))))) = (e.1, (va_up e.2 22 (cpu (M.2.1 13) (M.2.1 15) (fun k => mi (nm k)) (4 * i) i (e.2 22) (k + 1)))); rw [va_up_up]; exact congrArg (fun y => (e.1, va_up e.2 22 y)) (by rw [cpu, if_pos hc43])) ?_
        refine kv_iinc (j := 1) (v := (nI (k + 1))) (lv2 := [(3, .int (nI (k + 1))), (4, .ref (ad (144 + (4 * i + k)))), (2, .ref (ad (112 + i))), (0, .ref (ad 2)), (1, .int (nI i))]) X dX2_passUnitsOn_77 rfl (nI_add k 1) (by rw [hnL]; decide) rfl ?_
        refine kv_goto (tgt := 20) X dX2_passUnitsOn_80 (by decide) ?_
        exact kv_lv [0, 2, 3, 4] rfl (ih20 (k + 1) (by omega) ())
  exact kv_lv [0, 1, 2, 3] rfl (L20 (cn i) 0 (by omega) ())
theorem f_X2_findItemUnits_29 : kF wsX2_findItemUnits RX2 29 5 6 := ⟨_, RX2, TX2, 9, fun _ h => (List.mem_cons_of_mem _ (List.mem_append_left _ (List.mem_append_left _ (List.mem_append_left _ (List.mem_append_left _ (List.mem_append_left _ (List.mem_append_left _ (List.mem_append_right _ h)))))))), (List.mem_cons_of_mem _ (List.mem_append_left _ (List.mem_append_left _ (List.mem_append_left _ (List.mem_append_left _ (List.mem_append_left _ (List.mem_append_left _ (List.mem_append_left _ (List.mem_append_left _ (List.mem_of_getElem? (i := 0) rfl)))))))))), rfl, by decide, rfl⟩
theorem f_X2_findItemUnits_39 : kF wsX2_findItemUnits RX2 39 5 0 := ⟨_, RX2, TX2, 9, fun _ h => (List.mem_cons_of_mem _ (List.mem_append_left _ (List.mem_append_left _ (List.mem_append_left _ (List.mem_append_left _ (List.mem_append_left _ (List.mem_append_left _ (List.mem_append_right _ h)))))))), (List.mem_cons_of_mem _ (List.mem_append_left _ (List.mem_append_left _ (List.mem_append_left _ (List.mem_append_left _ (List.mem_append_left _ (List.mem_append_left _ (List.mem_append_left _ (List.mem_append_left _ (List.mem_of_getElem? (i := 1) rfl)))))))))), rfl, by decide, rfl⟩
theorem f_X2_findItemUnits_163 : kF wsX2_findItemUnits RX2 163 9 3 := ⟨_, RX6, TX6, 7, fun _ h => (List.mem_cons_of_mem _ (List.mem_append_left _ (List.mem_append_left _ (List.mem_append_left _ (List.mem_append_left _ (List.mem_append_left _ (List.mem_append_right _ h))))))), (List.mem_cons_of_mem _ (List.mem_append_left _ (List.mem_append_left _ (List.mem_append_left _ (List.mem_append_left _ (List.mem_append_left _ (List.mem_append_left _ (List.mem_append_left _ (List.mem_append_left _ (List.mem_of_getElem? (i := 2) rfl)))))))))), rfl, by decide, rfl⟩
theorem f_X2_findItemUnits_43 : kF wsX2_findItemUnits RX2 43 9 2 := ⟨_, RX6, TX6, 7, fun _ h => (List.mem_cons_of_mem _ (List.mem_append_left _ (List.mem_append_left _ (List.mem_append_left _ (List.mem_append_left _ (List.mem_append_left _ (List.mem_append_right _ h))))))), (List.mem_cons_of_mem _ (List.mem_append_left _ (List.mem_append_left _ (List.mem_append_left _ (List.mem_append_left _ (List.mem_append_left _ (List.mem_append_left _ (List.mem_append_left _ (List.mem_append_left _ (List.mem_of_getElem? (i := 7) rfl)))))))))), rfl, by decide, rfl⟩
theorem f_X2_findItemUnits_18 : kF wsX2_findItemUnits RX2 18 5 3 := ⟨_, RX2, TX2, 9, fun _ h => (List.mem_cons_of_mem _ (List.mem_append_left _ (List.mem_append_left _ (List.mem_append_left _ (List.mem_append_left _ (List.mem_append_left _ (List.mem_append_left _ (List.mem_append_right _ h)))))))), (List.mem_cons_of_mem _ (List.mem_append_left _ (List.mem_append_left _ (List.mem_append_left _ (List.mem_append_left _ (List.mem_append_left _ (List.mem_append_left _ (List.mem_append_left _ (List.mem_append_left _ (List.mem_of_getElem? (i := 8) rfl)))))))))), rfl, by decide, rfl⟩
theorem f_X2_findItemUnits_9 : kF wsX2_findItemUnits RX2 9 5 1 := ⟨_, RX2, TX2, 9, fun _ h => (List.mem_cons_of_mem _ (List.mem_append_left _ (List.mem_append_left _ (List.mem_append_left _ (List.mem_append_left _ (List.mem_append_left _ (List.mem_append_left _ (List.mem_append_right _ h)))))))), (List.mem_cons_of_mem _ (List.mem_append_left _ (List.mem_append_left _ (List.mem_append_left _ (List.mem_append_left _ (List.mem_append_left _ (List.mem_append_left _ (List.mem_append_left _ (List.mem_append_left _ (List.mem_of_getElem? (i := 4) rfl)))))))))), rfl, by decide, rfl⟩
theorem f_X2_findItemUnits_168 : kF wsX2_findItemUnits RX2 168 7 0 := ⟨_, RX4, TX4, 2, fun _ h => (List.mem_cons_of_mem _ (List.mem_append_left _ (List.mem_append_left _ (List.mem_append_left _ (List.mem_append_left _ (List.mem_append_right _ h)))))), (List.mem_cons_of_mem _ (List.mem_append_left _ (List.mem_append_left _ (List.mem_append_left _ (List.mem_append_left _ (List.mem_append_left _ (List.mem_append_left _ (List.mem_append_left _ (List.mem_append_left _ (List.mem_of_getElem? (i := 5) rfl)))))))))), rfl, by decide, rfl⟩
theorem f_X2_findItemUnits_171 : kF wsX2_findItemUnits RX2 171 7 1 := ⟨_, RX4, TX4, 2, fun _ h => (List.mem_cons_of_mem _ (List.mem_append_left _ (List.mem_append_left _ (List.mem_append_left _ (List.mem_append_left _ (List.mem_append_right _ h)))))), (List.mem_cons_of_mem _ (List.mem_append_left _ (List.mem_append_left _ (List.mem_append_left _ (List.mem_append_left _ (List.mem_append_left _ (List.mem_append_left _ (List.mem_append_left _ (List.mem_append_left _ (List.mem_of_getElem? (i := 6) rfl)))))))))), rfl, by decide, rfl⟩
set_option maxRecDepth 100000 in
set_option maxHeartbeats 4000000 in
theorem c_X2_findItemUnits (l : Launch) (dd : kDD) (ks : List Nat) (ad : Nat → Nat) (E : Nat → va_E) (e : eS) (M : mS) (nR nC nt nL nW nV nM : Nat) (cn nm mn me li rl : Nat → Nat) (on : Int32) (hO : cO dd ks ad E on) (hR : cR dd ks ad E M nR) (hC : cC dd ks ad E M nC mn me) (hT : cT dd ks ad E M nt cn nm) (hL : cL dd ks ad E M nL nW li) (hW : cW dd ks ad E M nW rl) (hV : cV dd ks ad E M nV) (hM : cM dd ks ad E M nM) (hB : cB M nR nC nt nL nW nV cn nm mn me li rl) (mi : Nat → Nat) (hmi : ∀ j, j < nt → e.1 17 j = nI (mi j) ∧ mi j < nt) (dep : Nat → Nat) (hde : ∀ i, i < nt → e.1 19 i = nI (dep i)) (hdp : kDp (M.2.1 13) cn (fun k => mi (nm k)) dep nt) : kCv l yX2_findItemUnits wsX2_findItemUnits ({ frames := 4, cells := 0, slots := 0, locals := 88 } : Room) 0 0 dd [.ref (ad 2)] (ks, ad, (cE dd E e)) (kQv (S := eS) (fun z => z.1 = e.1 ∧ (∀ k, k ≠ 22 → z.2 k = e.2 k) ∧ ∀ w : Nat → Int64, msumJ (fun j => z.2 22 j * w j) 0 nt = msumJ (fun l => ((fun l => mq (M.2.1 19) (M.2.1 20) (nI l) nW) l).toInt64 * mN (M.2.1 13) (M.2.1 15) cn (fun k => mi (nm k)) w 2 (mi (li l))) 0 nL) (fun _ => ks) (fun _ => ad) (fun z => cE dd E z)) := by
  refine kMetv (ws' := _) (cc := cX2_findItemUnits) (maxL := 3) (by decide) rfl (Nat.le_of_ble_eq_true rfl) (fun g X hr hnL hRR hl0 hkn => ?_)
  show kv dd g 0 0 0 [(0, .ref (ad 2))] [] ks ad (cE dd E e)
  have hT12 := hT.1
  have hL10 := hL.1
  refine kv_aload_n X 0 dX2_findItemUnits_0 rfl rfl ?_
  refine kv_getfield X f_X2_findItemUnits_29 (κ := 2) (fs := [.ref (ad 1), .ref (ad 17), .ref (ad 18), .ref (ad 19), .ref (ad 20), .ref (ad 21), .ref (ad 22), .ref (ad 23), .ref (ad 24)]) (v := .ref (ad 22)) hO.2.2.1.1 ((cE_ne (by omega)).trans hO.2.2.1.2) rfl dX2_findItemUnits_1 ?_
  refine kv_lconst (v := 0) X dX2_findItemUnits_4 (by decide) ?_
  refine kv_callvS (As := [.ref (ad 22), .long 0]) [] X (c_J7_fill_d0a16 l dd ks ad (cE dd E e) (22) 12 (e.2 22) 0 (hO.2.2.2.1 _ (by omega) (by omega)) (cE_J12 (by omega)) (by omega)) hl0 (kCS_of X 2 gX2_findItemUnits_J7_fill_d0a16 rfl rfl rfl (by decide +kernel) hRR ⟨(Nat.le_of_ble_eq_true rfl), (Nat.le_of_ble_eq_true rfl)⟩) rfl rfl (Nat.le_of_ble_eq_true rfl) hRR ⟨(Nat.le_of_ble_eq_true rfl), (Nat.le_of_ble_eq_true rfl)⟩ dX2_findItemUnits_5 (fun z hp => ?_)
  refine kv_E (fun j _ => cE_up12 (k := 22) (by omega) _ j) ?_
  refine kv_iconst (v := 0) X dX2_findItemUnits_8 (by decide) ?_
  refine kv_istore_n (lv2 := [(1, .int 0), (0, .ref (ad 2))]) X dX2_findItemUnits_9 rfl (by rw [hnL]; decide) rfl ?_
  have L10 : ∀ (n9 l9 : Nat), l9 + n9 = nL → ∀ (_ : Unit) , kv dd g 0 0 10 [(1, .int (nI l9)), (0, .ref (ad 2))] [] ks ad (cE dd E (e.1, (va_up e.2 22 (cul mi li (fun l => mq (M.2.1 19) (M.2.1 20) (nI l) nW) (mset (e.2 22) (fun _ => 0) 12) l9)))) := by
    intro n9
    induction n9 with
    | zero =>
      intro l9 hin10 _ 
      refine kv_iload_n X 0 dX2_findItemUnits_10 rfl rfl ?_
      refine kv_aload_n X 1 dX2_findItemUnits_11 rfl rfl ?_
      refine kv_getfield X f_X2_findItemUnits_39 (κ := 2) (fs := [.ref (ad 1), .ref (ad 17), .ref (ad 18), .ref (ad 19), .ref (ad 20), .ref (ad 21), .ref (ad 22), .ref (ad 23), .ref (ad 24)]) (v := .ref (ad 1)) hO.2.2.1.1 ((cE_ne (by omega)).trans hO.2.2.1.2) rfl dX2_findItemUnits_12 ?_
      refine kv_getfield X f_X2_findItemUnits_163 (κ := 1) (fs := [.ref (ad 3), .ref (ad 4), .ref (ad 5), .ref (ad 6), .ref (ad 7), .ref (ad 8), .ref (ad 9)]) (v := .ref (ad 6)) hO.2.1.1 ((cE_ne (by omega)).trans hO.2.1.2) rfl dX2_findItemUnits_15 ?_
      obtain ⟨_, _, o18⟩ := kLs_obj (dd := dd) (ks := ks) (ad := ad) (E := (cE dd E (e.1, (va_up e.2 22 (cul mi li (fun l => mq (M.2.1 19) (M.2.1 20) (nI l) nW) (mset (e.2 22) (fun _ => 0) 12) l9))))) (kLs_cE hL.2.1 (by omega) (by omega) (fun i hi => by omega))
      refine kv_calliV (ci := 2) (κ := 6) (r1 := (TJx4a65c, 3)) (As := []) [.int (nI l9)] X (c_Jx4a65c_size_8abf5 l dd ks ad (cE dd E (e.1, (va_up e.2 22 (cul mi li (fun l => mq (M.2.1 19) (M.2.1 20) (nI l) nW) (mset (e.2 22) (fun _ => 0) 12) l9)))) (6) (13) (nL) (fun l => 208 + l) 7 (kLs_cE hL.2.1 (by omega) (by omega) (fun i hi => by omega))) hl0 (kCV_of X 0 gX2_findItemUnits_Jx4a65c_size_8abf5 rfl rfl rfl (by decide +kernel) hRR ⟨(Nat.le_of_ble_eq_true rfl), (Nat.le_of_ble_eq_true rfl)⟩) hL.2.1.1 o18 rfl rfl rfl (Nat.le_of_ble_eq_true rfl) hRR ⟨(Nat.le_of_ble_eq_true rfl), (Nat.le_of_ble_eq_true rfl)⟩ dX2_findItemUnits_18 (fun r z hp => ?_)
      obtain rfl := hp
      refine kn_icmp_ge (x := l9) (y := nL) (tgt := 67) X (by omega) (by omega) dX2_findItemUnits_21 (by decide) (fun hc21 => ?_) (fun hc21 => absurd hc21 (by omega))
      refine kv_iconst (v := 3) X dX2_findItemUnits_67 (by decide) ?_
      refine kv_istore_n (lv2 := [(1, .int 3), (0, .ref (ad 2))]) X dX2_findItemUnits_68 rfl (by rw [hnL]; decide) rfl ?_
      have L69 : ∀ (n8 p : Nat), p + n8 = 2 → ∀ (z : eS) (hz : z.1 = e.1 ∧ (∀ k, k ≠ 22 → z.2 k = e.2 k) ∧ ∀ w : Nat → Int64, msumJ (fun j => z.2 22 j * (if 3 - p < dep j then w j else mN (M.2.1 13) (M.2.1 15) cn (fun k => mi (nm k)) w 2 j)) 0 nt = msumJ (fun l => ((fun l => mq (M.2.1 19) (M.2.1 20) (nI l) nW) l).toInt64 * mN (M.2.1 13) (M.2.1 15) cn (fun k => mi (nm k)) w 2 (mi (li l))) 0 nL), kv dd g 0 0 69 [(1, .int (nI (3 - p))), (0, .ref (ad 2))] [] ks ad (cE dd E z) := by
        intro n8
        induction n8 with
        | zero =>
          intro p hin69 z hz
          refine kv_iload_n X 0 dX2_findItemUnits_69 rfl rfl ?_
          refine kv_iconst (v := 1) X dX2_findItemUnits_70 (by decide) ?_
          refine kn_icmp_le (x := 3 - p) (y := 1) (tgt := 117) X (by omega) (by omega) dX2_findItemUnits_71 (by decide) (fun hc71 => ?_) (fun hc71 => absurd hc71 (by omega))
          exact kv_return X hr (Nat.le_of_ble_eq_true rfl) (Nat.le_of_ble_eq_true rfl) ⟨z, ⟨hz.1, hz.2.1, fun w => (msumJ_congr nt (fun j hj => by exact (Decidable.em (3 - p < dep j)).elim (fun c => by rw [if_pos c]) (fun c => by rw [if_neg c, mN_1 hdp hj (by omega)]))).trans (hz.2.2 w)⟩, rfl⟩ dX2_findItemUnits_117
        | succ n8 ih69 =>
          intro p hin69 z hz
          refine kv_iload_n X 0 dX2_findItemUnits_69 rfl rfl ?_
          refine kv_iconst (v := 1) X dX2_findItemUnits_70 (by decide) ?_
          refine kn_icmp_le (x := 3 - p) (y := 1) (tgt := 117) X (by omega) (by omega) dX2_findItemUnits_71 (by decide) (fun hc71 => absurd hc71 (by omega)) (fun hc71 => ?_)
          refine kv_iconst (v := 0) X dX2_findItemUnits_74 (by decide) ?_
          refine kv_istore_n (lv2 := [(2, .int 0), (1, .int (nI (3 - p))), (0, .ref (ad 2))]) X dX2_findItemUnits_75 rfl (by rw [hnL]; decide) rfl ?_
          have L76 : ∀ (n7 i : Nat), i + n7 = nt → ∀ (y : eS) (hy : y.1 = e.1 ∧ (∀ k, k ≠ 22 → y.2 k = e.2 k) ∧ ∀ w : Nat → Int64, msumJ (fun j => y.2 22 j * (if 3 - p < dep j ∨ (dep j = 3 - p ∧ j < i) then w j else mN (M.2.1 13) (M.2.1 15) cn (fun k => mi (nm k)) w 2 j)) 0 nt = msumJ (fun l => ((fun l => mq (M.2.1 19) (M.2.1 20) (nI l) nW) l).toInt64 * mN (M.2.1 13) (M.2.1 15) cn (fun k => mi (nm k)) w 2 (mi (li l))) 0 nL), kv dd g 0 0 76 [(2, .int (nI i)), (1, .int (nI (3 - p))), (0, .ref (ad 2))] [] ks ad (cE dd E y) := by
            intro n7
            induction n7 with
            | zero =>
              intro i hin76 y hy
              refine kv_iload_n X 0 dX2_findItemUnits_76 rfl rfl ?_
              refine kv_aload_n X 2 dX2_findItemUnits_77 rfl rfl ?_
              refine kv_getfield X f_X2_findItemUnits_39 (κ := 2) (fs := [.ref (ad 1), .ref (ad 17), .ref (ad 18), .ref (ad 19), .ref (ad 20), .ref (ad 21), .ref (ad 22), .ref (ad 23), .ref (ad 24)]) (v := .ref (ad 1)) hO.2.2.1.1 ((cE_ne (by omega)).trans hO.2.2.1.2) rfl dX2_findItemUnits_78 ?_
              refine kv_getfield X f_X2_findItemUnits_43 (κ := 1) (fs := [.ref (ad 3), .ref (ad 4), .ref (ad 5), .ref (ad 6), .ref (ad 7), .ref (ad 8), .ref (ad 9)]) (v := .ref (ad 5)) hO.2.1.1 ((cE_ne (by omega)).trans hO.2.1.2) rfl dX2_findItemUnits_81 ?_
              obtain ⟨_, _, o84⟩ := kLs_obj (dd := dd) (ks := ks) (ad := ad) (E := (cE dd E y)) (kLs_cE hT.2.1 (by omega) (by omega) (fun i hi => by omega))
              refine kv_calliV (ci := 2) (κ := 5) (r1 := (TJx4a65c, 3)) (As := []) [.int (nI i)] X (c_Jx4a65c_size_8abf5 l dd ks ad (cE dd E y) (5) (12) (nt) (fun i => 96 + i) 6 (kLs_cE hT.2.1 (by omega) (by omega) (fun i hi => by omega))) hl0 (kCV_of X 0 gX2_findItemUnits_Jx4a65c_size_8abf5 rfl rfl rfl (by decide +kernel) hRR ⟨(Nat.le_of_ble_eq_true rfl), (Nat.le_of_ble_eq_true rfl)⟩) hT.2.1.1 o84 rfl rfl rfl (Nat.le_of_ble_eq_true rfl) hRR ⟨(Nat.le_of_ble_eq_true rfl), (Nat.le_of_ble_eq_true rfl)⟩ dX2_findItemUnits_84 (fun r z hp => ?_)
              obtain rfl := hp
              refine kn_icmp_ge (x := i) (y := nt) (tgt := 111) X (by omega) (by omega) dX2_findItemUnits_87 (by decide) (fun hc87 => ?_) (fun hc87 => absurd hc87 (by omega))
              refine kv_iinc (j := 1) (v := ((nI (3 - p)) + -1)) (lv2 := [(1, .int ((nI (3 - p)) + -1)), (2, .int (nI i)), (0, .ref (ad 2))]) X dX2_findItemUnits_111 rfl rfl (by rw [hnL]; decide) rfl ?_
              refine kv_L [(1, .int (nI (3 - (p + 1)))), (2, .int (nI i)), (0, .ref (ad 2))] (by rw [k_dec (show 1 ≤ 3 - p by omega), show 3 - p - 1 = 3 - (p + 1) by omega]) ?_
              refine kv_goto (tgt := 69) X dX2_findItemUnits_114 (by decide) ?_
              exact kv_lv [0, 2] rfl (ih69 (p + 1) (by omega) y ⟨hy.1, hy.2.1, fun w => (msumJ_congr nt (fun j hj => by have hdj := (hdp j hj).1; exact (Decidable.em (3 - (p + 1) < dep j)).elim (fun c => by rw [if_pos c, if_pos (by omega)]) (fun c => by rw [if_neg c, if_neg (by omega)]))).trans (hy.2.2 w)⟩)
            | succ n7 ih76 =>
              intro i hin76 y hy
              refine kv_iload_n X 0 dX2_findItemUnits_76 rfl rfl ?_
              refine kv_aload_n X 2 dX2_findItemUnits_77 rfl rfl ?_
              refine kv_getfield X f_X2_findItemUnits_39 (κ := 2) (fs := [.ref (ad 1), .ref (ad 17), .ref (ad 18), .ref (ad 19), .ref (ad 20), .ref (ad 21), .ref (ad 22), .ref (ad 23), .ref (ad 24)]) (v := .ref (ad 1)) hO.2.2.1.1 ((cE_ne (by omega)).trans hO.2.2.1.2) rfl dX2_findItemUnits_78 ?_
              refine kv_getfield X f_X2_findItemUnits_43 (κ := 1) (fs := [.ref (ad 3), .ref (ad 4), .ref (ad 5), .ref (ad 6), .ref (ad 7), .ref (ad 8), .ref (ad 9)]) (v := .ref (ad 5)) hO.2.1.1 ((cE_ne (by omega)).trans hO.2.1.2) rfl dX2_findItemUnits_81 ?_
              obtain ⟨_, _, o84⟩ := kLs_obj (dd := dd) (ks := ks) (ad := ad) (E := (cE dd E y)) (kLs_cE hT.2.1 (by omega) (by omega) (fun i hi => by omega))
              refine kv_calliV (ci := 2) (κ := 5) (r1 := (TJx4a65c, 3)) (As := []) [.int (nI i)] X (c_Jx4a65c_size_8abf5 l dd ks ad (cE dd E y) (5) (12) (nt) (fun i => 96 + i) 6 (kLs_cE hT.2.1 (by omega) (by omega) (fun i hi => by omega))) hl0 (kCV_of X 0 gX2_findItemUnits_Jx4a65c_size_8abf5 rfl rfl rfl (by decide +kernel) hRR ⟨(Nat.le_of_ble_eq_true rfl), (Nat.le_of_ble_eq_true rfl)⟩) hT.2.1.1 o84 rfl rfl rfl (Nat.le_of_ble_eq_true rfl) hRR ⟨(Nat.le_of_ble_eq_true rfl), (Nat.le_of_ble_eq_true rfl)⟩ dX2_findItemUnits_84 (fun r z hp => ?_)
              obtain rfl := hp
              refine kn_icmp_ge (x := i) (y := nt) (tgt := 111) X (by omega) (by omega) dX2_findItemUnits_87 (by decide) (fun hc87 => absurd hc87 (by omega)) (fun hc87 => ?_)
              refine kv_aload_n X 2 dX2_findItemUnits_90 rfl rfl ?_
              refine kv_getfield X f_X2_findItemUnits_18 (κ := 2) (fs := [.ref (ad 1), .ref (ad 17), .ref (ad 18), .ref (ad 19), .ref (ad 20), .ref (ad 21), .ref (ad 22), .ref (ad 23), .ref (ad 24)]) (v := .ref (ad 19)) hO.2.2.1.1 ((cE_ne (by omega)).trans hO.2.2.1.2) rfl dX2_findItemUnits_91 ?_
              refine kv_iload_n X 0 dX2_findItemUnits_94 rfl rfl ?_
              refine ke_iald X (19) (j := i) (hO.2.2.2.1 _ (by omega) (by omega)) (by omega) (by omega) dX2_findItemUnits_95 ?_
              have hd3 := (hdp i (by omega)).1
              refine kv_topi (nI (dep i)) (by rw [hy.1]; exact hde i (by omega)) ?_
              refine kv_iload_n X 1 dX2_findItemUnits_96 rfl rfl ?_
              refine kn_icmp_ne (x := dep i) (y := 3 - p) (tgt := 105) X (by omega) (by omega) dX2_findItemUnits_97 (by decide) (fun hc97 => ?_) (fun hc97 => ?_)
              ·
                refine kv_iinc (j := 0) (v := (nI (i + 1))) (lv2 := [(2, .int (nI (i + 1))), (1, .int (nI (3 - p))), (0, .ref (ad 2))]) X dX2_findItemUnits_105 rfl (nI_add i 1) (by rw [hnL]; decide) rfl ?_
                refine kv_goto (tgt := 76) X dX2_findItemUnits_108 (by decide) ?_
                exact kv_lv [0, 1, 2] rfl (ih76 (i + 1) (by omega) y ⟨hy.1, hy.2.1, fun w => (msumJ_congr nt (fun j hj => by have hdj : j = i → dep j ≠ 3 - p := (fun c => by rw [c]; exact hc97); exact (Decidable.em (3 - p < dep j ∨ (dep j = 3 - p ∧ j < i))).elim (fun c => by rw [if_pos c, if_pos (by omega)]) (fun c => by rw [if_neg c, if_neg (by omega)]))).trans (hy.2.2 w)⟩)
              ·
                refine kv_aload_n X 2 dX2_findItemUnits_100 rfl rfl ?_
                refine kv_iload_n X 0 dX2_findItemUnits_101 rfl rfl ?_
                refine kv_callvV (ci := 5) (κ := 2) (r1 := (TX2, 9)) (As := [.int (nI i)]) [] X (c_X2_passUnitsOn l dd ks ad E y M nR nC nt nL nW nV nM cn nm mn me li rl on hO hR hC hT hL hW hV hM hB i (by omega) mi (fun j hj => by rw [hy.1]; exact hmi j hj)) hl0 (kCV_of X 1 gX2_findItemUnits_X2_passUnitsOn rfl rfl rfl (by decide +kernel) hRR ⟨(Nat.le_of_ble_eq_true rfl), (Nat.le_of_ble_eq_true rfl)⟩) hO.2.2.1.1 ((cE_ne (by omega)).trans hO.2.2.1.2) rfl rfl rfl (Nat.le_of_ble_eq_true rfl) hRR ⟨(Nat.le_of_ble_eq_true rfl), (Nat.le_of_ble_eq_true rfl)⟩ dX2_findItemUnits_102 (fun z hp => ?_)
                obtain rfl := hp
                refine kv_iinc (j := 0) (v := (nI (i + 1))) (lv2 := [(2, .int (nI (i + 1))), (1, .int (nI (3 - p))), (0, .ref (ad 2))]) X dX2_findItemUnits_105 rfl (nI_add i 1) (by rw [hnL]; decide) rfl ?_
                refine kv_goto (tgt := 76) X dX2_findItemUnits_108 (by decide) ?_
                exact kv_lv [0, 1, 2] rfl (ih76 (i + 1) (by omega) (y.1, (va_up y.2 22 (cpu (M.2.1 13) (M.2.1 15) (fun k => mi (nm k)) (4 * i) i (y.2 22) (cn i)))) ⟨hy.1, fun k q => (va_up_ne _ _ q).trans (hy.2.1 k q), fun w => (pass_step (w := w) (U := y.2 22) (g := fun j => (if 3 - p < dep j ∨ (dep j = 3 - p ∧ j < i) then w j else mN (M.2.1 13) (M.2.1 15) cn (fun k => mi (nm k)) w 2 j)) (g2 := fun j => (if 3 - p < dep j ∨ (dep j = 3 - p ∧ j < (i + 1)) then w j else mN (M.2.1 13) (M.2.1 15) cn (fun k => mi (nm k)) w 2 j)) hdp (by omega) (if_neg (by omega)) (if_pos (Or.inr ⟨hc97, by omega⟩)) (fun j hj => by show ite _ _ _ = ite _ _ _; exact (Decidable.em (3 - p < dep j ∨ (dep j = 3 - p ∧ j < i))).elim (fun c => by rw [if_pos c, if_pos (by omega)]) (fun c => by rw [if_neg c, if_neg (by omega)])) (fun j hj hd => if_neg (by omega))).trans (hy.2.2 w)⟩)
          exact kv_lv [0, 1, 2] rfl (L76 nt 0 (by omega) z ⟨hz.1, hz.2.1, fun w => (msumJ_congr nt (fun j hj => by exact (Decidable.em (3 - p < dep j)).elim (fun c => by rw [if_pos c, if_pos (by omega)]) (fun c => by rw [if_neg c, if_neg (by omega)]))).trans (hz.2.2 w)⟩)
      exact kv_lv [0, 1] rfl (L69 2 0 (by omega) (e.1, (va_up e.2 22 (cul mi li (fun l => mq (M.2.1 19) (M.2.1 20) (nI l) nW) (mset (e.2 22) (fun _ => 0) 12) l9))) ⟨rfl, fun k q => va_up_ne _ _ q, fun w => (msumJ_congr (g := fun j => cul mi li (fun l => mq (M.2.1 19) (M.2.1 20) (nI l) nW) (mset (e.2 22) (fun _ => 0) 12) l9 j * mN (M.2.1 13) (M.2.1 15) cn (fun k => mi (nm k)) w 2 j) nt (fun j hj => congrArg (fun y => cul mi li (fun l => mq (M.2.1 19) (M.2.1 20) (nI l) nW) (mset (e.2 22) (fun _ => 0) 12) l9 j * y) (if_neg (by have := (hdp j hj).1; omega)))).trans ((cul_sum (q := (fun l => mq (M.2.1 19) (M.2.1 20) (nI l) nW)) (f := mset (e.2 22) (fun _ => 0) 12) (v := mN (M.2.1 13) (M.2.1 15) cn (fun k => mi (nm k)) w 2) (nt := nt) (fun j hj => mset_in (by omega)) l9 (fun l hl => (hmi (li l) (hB.2.2.1 l (by omega))).2)).trans (by rw [show l9 = nL by omega]))⟩)
    | succ n9 ih10 =>
      intro l9 hin10 _ 
      refine kv_iload_n X 0 dX2_findItemUnits_10 rfl rfl ?_
      refine kv_aload_n X 1 dX2_findItemUnits_11 rfl rfl ?_
      refine kv_getfield X f_X2_findItemUnits_39 (κ := 2) (fs := [.ref (ad 1), .ref (ad 17), .ref (ad 18), .ref (ad 19), .ref (ad 20), .ref (ad 21), .ref (ad 22), .ref (ad 23), .ref (ad 24)]) (v := .ref (ad 1)) hO.2.2.1.1 ((cE_ne (by omega)).trans hO.2.2.1.2) rfl dX2_findItemUnits_12 ?_
      refine kv_getfield X f_X2_findItemUnits_163 (κ := 1) (fs := [.ref (ad 3), .ref (ad 4), .ref (ad 5), .ref (ad 6), .ref (ad 7), .ref (ad 8), .ref (ad 9)]) (v := .ref (ad 6)) hO.2.1.1 ((cE_ne (by omega)).trans hO.2.1.2) rfl dX2_findItemUnits_15 ?_
      obtain ⟨_, _, o18⟩ := kLs_obj (dd := dd) (ks := ks) (ad := ad) (E := (cE dd E (e.1, (va_up e.2 22 (cul mi li (fun l => mq (M.2.1 19) (M.2.1 20) (nI l) nW) (mset (e.2 22) (fun _ => 0) 12) l9))))) (kLs_cE hL.2.1 (by omega) (by omega) (fun i hi => by omega))
      refine kv_calliV (ci := 2) (κ := 6) (r1 := (TJx4a65c, 3)) (As := []) [.int (nI l9)] X (c_Jx4a65c_size_8abf5 l dd ks ad (cE dd E (e.1, (va_up e.2 22 (cul mi li (fun l => mq (M.2.1 19) (M.2.1 20) (nI l) nW) (mset (e.2 22) (fun _ => 0) 12) l9)))) (6) (13) (nL) (fun l => 208 + l) 7 (kLs_cE hL.2.1 (by omega) (by omega) (fun i hi => by omega))) hl0 (kCV_of X 0 gX2_findItemUnits_Jx4a65c_size_8abf5 rfl rfl rfl (by decide +kernel) hRR ⟨(Nat.le_of_ble_eq_true rfl), (Nat.le_of_ble_eq_true rfl)⟩) hL.2.1.1 o18 rfl rfl rfl (Nat.le_of_ble_eq_true rfl) hRR ⟨(Nat.le_of_ble_eq_true rfl), (Nat.le_of_ble_eq_true rfl)⟩ dX2_findItemUnits_18 (fun r z hp => ?_)
      obtain rfl := hp
      refine kn_icmp_ge (x := l9) (y := nL) (tgt := 67) X (by omega) (by omega) dX2_findItemUnits_21 (by decide) (fun hc21 => absurd hc21 (by omega)) (fun hc21 => ?_)
      refine kv_aload_n X 1 dX2_findItemUnits_24 rfl rfl ?_
      refine kv_getfield X f_X2_findItemUnits_39 (κ := 2) (fs := [.ref (ad 1), .ref (ad 17), .ref (ad 18), .ref (ad 19), .ref (ad 20), .ref (ad 21), .ref (ad 22), .ref (ad 23), .ref (ad 24)]) (v := .ref (ad 1)) hO.2.2.1.1 ((cE_ne (by omega)).trans hO.2.2.1.2) rfl dX2_findItemUnits_25 ?_
      refine kv_getfield X f_X2_findItemUnits_163 (κ := 1) (fs := [.ref (ad 3), .ref (ad 4), .ref (ad 5), .ref (ad 6), .ref (ad 7), .ref (ad 8), .ref (ad 9)]) (v := .ref (ad 6)) hO.2.1.1 ((cE_ne (by omega)).trans hO.2.1.2) rfl dX2_findItemUnits_28 ?_
      refine kv_iload_n X 0 dX2_findItemUnits_31 rfl rfl ?_
      obtain ⟨_, _, o32⟩ := kLs_obj (dd := dd) (ks := ks) (ad := ad) (E := (cE dd E (e.1, (va_up e.2 22 (cul mi li (fun l => mq (M.2.1 19) (M.2.1 20) (nI l) nW) (mset (e.2 22) (fun _ => 0) 12) l9))))) (kLs_cE hL.2.1 (by omega) (by omega) (fun i hi => by omega))
      refine kv_callqV (ci := 2) (κ := 6) (r1 := (TJx4a65c, 3)) (As := [.int (nI l9)]) [] X (c_Jx4a65c_get_915e3 l dd ks ad (cE dd E (e.1, (va_up e.2 22 (cul mi li (fun l => mq (M.2.1 19) (M.2.1 20) (nI l) nW) (mset (e.2 22) (fun _ => 0) 12) l9)))) (6) (13) (nL) (fun l => 208 + l) 7 (kLs_cE hL.2.1 (by omega) (by omega) (fun i hi => by omega)) l9 (by omega)) hl0 (kCV_of X 1 gX2_findItemUnits_Jx4a65c_get_915e3 rfl rfl rfl (by decide +kernel) hRR ⟨(Nat.le_of_ble_eq_true rfl), (Nat.le_of_ble_eq_true rfl)⟩) hL.2.1.1 o32 rfl rfl rfl (Nat.le_of_ble_eq_true rfl) hRR ⟨(Nat.le_of_ble_eq_true rfl), (Nat.le_of_ble_eq_true rfl)⟩ dX2_findItemUnits_32 (fun r z hp => ?_)
      obtain rfl := hp
      refine kv_topg (.ref (ad (208 + l9))) rfl ?_
      refine kv_cast X (κ := 208 + l9) (ci := 7) (fs := [.int (nI (li l9)), .int (mq (M.2.1 19) (M.2.1 20) (nI l9) nW)]) (r := (RX4, TX4, 2)) (List.mem_cons_of_mem _ (List.mem_append_left _ (List.mem_append_left _ (List.mem_append_left _ (List.mem_append_left _ (List.mem_append_left _ (List.mem_append_left _ (List.mem_append_left _ (List.mem_append_left _ (List.mem_of_getElem? (i := 3) rfl)))))))))) (hL.2.2 l9 (by omega)).1 ((cE_ne (by omega)).trans (hL.2.2 l9 (by omega)).2) rfl dX2_findItemUnits_35 ?_
      refine kv_astore_n (lv2 := [(2, .ref (ad (208 + l9))), (1, .int (nI l9)), (0, .ref (ad 2))]) X dX2_findItemUnits_38 rfl (by rw [hnL]; decide) rfl ?_
      refine kv_aload_n X 2 dX2_findItemUnits_39 rfl rfl ?_
      refine kv_getfield X f_X2_findItemUnits_29 (κ := 2) (fs := [.ref (ad 1), .ref (ad 17), .ref (ad 18), .ref (ad 19), .ref (ad 20), .ref (ad 21), .ref (ad 22), .ref (ad 23), .ref (ad 24)]) (v := .ref (ad 22)) hO.2.2.1.1 ((cE_ne (by omega)).trans hO.2.2.1.2) rfl dX2_findItemUnits_40 ?_
      refine kv_aload_n X 2 dX2_findItemUnits_43 rfl rfl ?_
      refine kv_getfield X f_X2_findItemUnits_9 (κ := 2) (fs := [.ref (ad 1), .ref (ad 17), .ref (ad 18), .ref (ad 19), .ref (ad 20), .ref (ad 21), .ref (ad 22), .ref (ad 23), .ref (ad 24)]) (v := .ref (ad 17)) hO.2.2.1.1 ((cE_ne (by omega)).trans hO.2.2.1.2) rfl dX2_findItemUnits_44 ?_
      refine kv_aload_n X 0 dX2_findItemUnits_47 rfl rfl ?_
      refine kv_getfield X f_X2_findItemUnits_168 (κ := 208 + l9) (fs := [.int (nI (li l9)), .int (mq (M.2.1 19) (M.2.1 20) (nI l9) nW)]) (v := .int (nI (li l9))) (hL.2.2 l9 (by omega)).1 ((cE_ne (by omega)).trans (hL.2.2 l9 (by omega)).2) rfl dX2_findItemUnits_48 ?_
      have hlt := hB.2.2.1 l9 (by omega)
      have hmt := (hmi (li l9) hlt).2
      refine ke_iald X (17) (j := li l9) (hO.2.2.2.1 _ (by omega) (by omega)) (by omega) (by omega) dX2_findItemUnits_51 ?_
      refine kv_topi ((e.1 17) (li l9)) rfl ?_
      refine kv_topi (nI (mi (li l9))) (hmi (li l9) hlt).1 ?_
      refine kv_dup2_11 X dX2_findItemUnits_52 rfl rfl ?_
      refine ke_lald X (22) (j := mi (li l9)) (hO.2.2.2.1 _ (by omega) (by omega)) (by omega) (by unfold eLen; split <;> omega) dX2_findItemUnits_53 ?_
      refine kv_topl ((cul mi li (fun l => mq (M.2.1 19) (M.2.1 20) (nI l) nW) (mset (e.2 22) (fun _ => 0) 12) l9) (mi (li l9))) rfl ?_
      refine kv_aload_n X 0 dX2_findItemUnits_54 rfl rfl ?_
      refine kv_getfield X f_X2_findItemUnits_171 (κ := 208 + l9) (fs := [.int (nI (li l9)), .int (mq (M.2.1 19) (M.2.1 20) (nI l9) nW)]) (v := .int (mq (M.2.1 19) (M.2.1 20) (nI l9) nW)) (hL.2.2 l9 (by omega)).1 ((cE_ne (by omega)).trans (hL.2.2 l9 (by omega)).2) rfl dX2_findItemUnits_55 ?_
      refine kv_i2l X dX2_findItemUnits_58 rfl ?_
      refine kv_ladd X dX2_findItemUnits_59 ?_
      refine ke_last X (22) (j := mi (li l9)) (x := (((cul mi li (fun l => mq (M.2.1 19) (M.2.1 20) (nI l) nW) (mset (e.2 22) (fun _ => 0) 12) l9) (mi (li l9))) + ((mq (M.2.1 19) (M.2.1 20) (nI l9) nW).toInt64))) (hO.2.2.2.1 _ (by omega) (by omega)) (by omega) (by unfold eLen; split <;> omega) dX2_findItemUnits_60 ?_
      refine kv_e (e.1, (va_up e.2 22 (cul mi li (fun l => mq (M.2.1 19) (M.2.1 20) (nI l) nW) (mset (e.2 22) (fun _ => 0) 12) (l9 + 1)))) (by show (e.1, (va_up (va_up e.2 22 (cul mi li (fun l => mq (M.2.1 19) (M.2.1 20) (nI l) nW) (mset (e.2 22) (fun _ => 0) 12) l9)) 22 (va_up (cul mi li (fun l => mq (M.2.1 19) (M.2.1 20) (nI l) nW) (mset (e.2 22) (fun _ => 0) 12) l9) (mi (li l9)) (((cul mi li (fun l => mq (M.2.1 19) (M.2.1 20) (nI l) nW) (mset (e.2 22) (fun _ => 0) 12) l9) (mi (li l9))) + ((mq (M.2.1 19) (M.2.1 20) (nI l9) nW).toInt64))))) = (e.1, (va_up e.2 22 (cul mi li (fun l => mq (M.2.1 19) (M.2.1 20) (nI l) nW) (mset (e.2 22) (fun _ => 0) 12) (l9 + 1)))); rw [va_up_up]; rfl) ?_
      refine kv_iinc (j := 1) (v := (nI (l9 + 1))) (lv2 := [(1, .int (nI (l9 + 1))), (2, .ref (ad (208 + l9))), (0, .ref (ad 2))]) X dX2_findItemUnits_61 rfl (nI_add l9 1) (by rw [hnL]; decide) rfl ?_
      refine kv_goto (tgt := 10) X dX2_findItemUnits_64 (by decide) ?_
      exact kv_lv [0, 2] rfl (ih10 (l9 + 1) (by omega) ())
  exact kv_lv [0, 1] rfl (L10 nL 0 (by omega) ())
theorem f_X2_findAmounts_33 : kF wsX2_findAmounts RX2 33 5 7 := ⟨_, RX2, TX2, 9, fun _ h => (List.mem_cons_of_mem _ (List.mem_append_left _ (List.mem_append_left _ (List.mem_append_left _ (List.mem_append_left _ (List.mem_append_right _ h)))))), (List.mem_cons_of_mem _ (List.mem_append_left _ (List.mem_append_left _ (List.mem_append_left _ (List.mem_append_left _ (List.mem_append_left _ (List.mem_append_left _ (List.mem_of_getElem? (i := 0) rfl)))))))), rfl, by decide, rfl⟩
theorem f_X2_findAmounts_39 : kF wsX2_findAmounts RX2 39 5 0 := ⟨_, RX2, TX2, 9, fun _ h => (List.mem_cons_of_mem _ (List.mem_append_left _ (List.mem_append_left _ (List.mem_append_left _ (List.mem_append_left _ (List.mem_append_right _ h)))))), (List.mem_cons_of_mem _ (List.mem_append_left _ (List.mem_append_left _ (List.mem_append_left _ (List.mem_append_left _ (List.mem_append_left _ (List.mem_append_left _ (List.mem_of_getElem? (i := 1) rfl)))))))), rfl, by decide, rfl⟩
theorem f_X2_findAmounts_163 : kF wsX2_findAmounts RX2 163 9 3 := ⟨_, RX6, TX6, 7, fun _ h => (List.mem_cons_of_mem _ (List.mem_append_left _ (List.mem_append_left _ (List.mem_append_left _ (List.mem_append_right _ h))))), (List.mem_cons_of_mem _ (List.mem_append_left _ (List.mem_append_left _ (List.mem_append_left _ (List.mem_append_left _ (List.mem_append_left _ (List.mem_append_left _ (List.mem_of_getElem? (i := 2) rfl)))))))), rfl, by decide, rfl⟩
theorem f_X2_findAmounts_26 : kF wsX2_findAmounts RX2 26 5 5 := ⟨_, RX2, TX2, 9, fun _ h => (List.mem_cons_of_mem _ (List.mem_append_left _ (List.mem_append_left _ (List.mem_append_left _ (List.mem_append_left _ (List.mem_append_right _ h)))))), (List.mem_cons_of_mem _ (List.mem_append_left _ (List.mem_append_left _ (List.mem_append_left _ (List.mem_append_left _ (List.mem_append_left _ (List.mem_append_left _ (List.mem_of_getElem? (i := 4) rfl)))))))), rfl, by decide, rfl⟩
theorem f_X2_findAmounts_9 : kF wsX2_findAmounts RX2 9 5 1 := ⟨_, RX2, TX2, 9, fun _ h => (List.mem_cons_of_mem _ (List.mem_append_left _ (List.mem_append_left _ (List.mem_append_left _ (List.mem_append_left _ (List.mem_append_right _ h)))))), (List.mem_cons_of_mem _ (List.mem_append_left _ (List.mem_append_left _ (List.mem_append_left _ (List.mem_append_left _ (List.mem_append_left _ (List.mem_append_left _ (List.mem_of_getElem? (i := 5) rfl)))))))), rfl, by decide, rfl⟩
theorem f_X2_findAmounts_168 : kF wsX2_findAmounts RX2 168 7 0 := ⟨_, RX4, TX4, 2, fun _ h => (List.mem_cons_of_mem _ (List.mem_append_left _ (List.mem_append_left _ (List.mem_append_right _ h)))), (List.mem_cons_of_mem _ (List.mem_append_left _ (List.mem_append_left _ (List.mem_append_left _ (List.mem_append_left _ (List.mem_append_left _ (List.mem_append_left _ (List.mem_of_getElem? (i := 6) rfl)))))))), rfl, by decide, rfl⟩
theorem f_X2_findAmounts_171 : kF wsX2_findAmounts RX2 171 7 1 := ⟨_, RX4, TX4, 2, fun _ h => (List.mem_cons_of_mem _ (List.mem_append_left _ (List.mem_append_left _ (List.mem_append_right _ h)))), (List.mem_cons_of_mem _ (List.mem_append_left _ (List.mem_append_left _ (List.mem_append_left _ (List.mem_append_left _ (List.mem_append_left _ (List.mem_append_left _ (List.mem_of_getElem? (i := 7) rfl)))))))), rfl, by decide, rfl⟩
set_option maxRecDepth 100000 in
set_option maxHeartbeats 4000000 in
theorem c_X2_findAmounts (l : Launch) (dd : kDD) (ks : List Nat) (ad : Nat → Nat) (E : Nat → va_E) (e : eS) (M : mS) (nR nC nt nL nW nV nM : Nat) (cn nm mn me li rl : Nat → Nat) (on : Int32) (hO : cO dd ks ad E on) (hR : cR dd ks ad E M nR) (hC : cC dd ks ad E M nC mn me) (hT : cT dd ks ad E M nt cn nm) (hL : cL dd ks ad E M nL nW li) (hW : cW dd ks ad E M nW rl) (hV : cV dd ks ad E M nV) (hM : cM dd ks ad E M nM) (hB : cB M nR nC nt nL nW nV cn nm mn me li rl) (mi : Nat → Nat) (hmi : ∀ j, j < nt → e.1 17 j = nI (mi j) ∧ mi j < nt) : kCv l yX2_findAmounts wsX2_findAmounts ({ frames := 3, cells := 0, slots := 0, locals := 64 } : Room) 0 0 dd [.ref (ad 2)] (ks, ad, (cE dd E e)) (kQv (S := eS) (fun z => (e.1, va_up e.2 23 (cam mi li (fun l => mq (M.2.1 19) (M.2.1 20) (nI l) nW) e.2 (mset (e.2 23) (fun _ => 0) 12) nL)) = z) (fun _ => ks) (fun _ => ad) (fun z => cE dd E z)) := by
  refine kMetv (ws' := _) (cc := cX2_findAmounts) (maxL := 3) (by decide) rfl (Nat.le_of_ble_eq_true rfl) (fun g X hr hnL hRR hl0 hkn => ?_)
  show kv dd g 0 0 0 [(0, .ref (ad 2))] [] ks ad (cE dd E e)
  obtain ⟨f20, f21, hf20, hf21, hff⟩ := hO.2.2.2.2
  have hT12 := hT.1
  have hL10 := hL.1
  refine kv_aload_n X 0 dX2_findAmounts_0 rfl rfl ?_
  refine kv_getfield X f_X2_findAmounts_33 (κ := 2) (fs := [.ref (ad 1), .ref (ad 17), .ref (ad 18), .ref (ad 19), .ref (ad 20), .ref (ad 21), .ref (ad 22), .ref (ad 23), .ref (ad 24)]) (v := .ref (ad 23)) hO.2.2.1.1 ((cE_ne (by omega)).trans hO.2.2.1.2) rfl dX2_findAmounts_1 ?_
  refine kv_lconst (v := 0) X dX2_findAmounts_4 (by decide) ?_
  refine kv_callvS (As := [.ref (ad 23), .long 0]) [] X (c_J7_fill_d0a16 l dd ks ad (cE dd E e) (23) 12 (e.2 23) 0 (hO.2.2.2.1 _ (by omega) (by omega)) (cE_J12 (by omega)) (by omega)) hl0 (kCS_of X 2 gX2_findAmounts_J7_fill_d0a16 rfl rfl rfl (by decide +kernel) hRR ⟨(Nat.le_of_ble_eq_true rfl), (Nat.le_of_ble_eq_true rfl)⟩) rfl rfl (Nat.le_of_ble_eq_true rfl) hRR ⟨(Nat.le_of_ble_eq_true rfl), (Nat.le_of_ble_eq_true rfl)⟩ dX2_findAmounts_5 (fun z hp => ?_)
  refine kv_E (fun j _ => cE_up12 (k := 23) (by omega) _ j) ?_
  refine kv_iconst (v := 0) X dX2_findAmounts_8 (by decide) ?_
  refine kv_istore_n (lv2 := [(1, .int 0), (0, .ref (ad 2))]) X dX2_findAmounts_9 rfl (by rw [hnL]; decide) rfl ?_
  have L10 : ∀ (n9 l9 : Nat), l9 + n9 = nL → ∀ (_ : Unit) , kv dd g 0 0 10 [(1, .int (nI l9)), (0, .ref (ad 2))] [] ks ad (cE dd E (e.1, (va_up e.2 23 (cam mi li (fun l => mq (M.2.1 19) (M.2.1 20) (nI l) nW) e.2 (mset (e.2 23) (fun _ => 0) 12) l9)))) := by
    intro n9
    induction n9 with
    | zero =>
      intro l9 hin10 _ 
      refine kv_iload_n X 0 dX2_findAmounts_10 rfl rfl ?_
      refine kv_aload_n X 1 dX2_findAmounts_11 rfl rfl ?_
      refine kv_getfield X f_X2_findAmounts_39 (κ := 2) (fs := [.ref (ad 1), .ref (ad 17), .ref (ad 18), .ref (ad 19), .ref (ad 20), .ref (ad 21), .ref (ad 22), .ref (ad 23), .ref (ad 24)]) (v := .ref (ad 1)) hO.2.2.1.1 ((cE_ne (by omega)).trans hO.2.2.1.2) rfl dX2_findAmounts_12 ?_
      refine kv_getfield X f_X2_findAmounts_163 (κ := 1) (fs := [.ref (ad 3), .ref (ad 4), .ref (ad 5), .ref (ad 6), .ref (ad 7), .ref (ad 8), .ref (ad 9)]) (v := .ref (ad 6)) hO.2.1.1 ((cE_ne (by omega)).trans hO.2.1.2) rfl dX2_findAmounts_15 ?_
      obtain ⟨_, _, o18⟩ := kLs_obj (dd := dd) (ks := ks) (ad := ad) (E := (cE dd E (e.1, (va_up e.2 23 (cam mi li (fun l => mq (M.2.1 19) (M.2.1 20) (nI l) nW) e.2 (mset (e.2 23) (fun _ => 0) 12) l9))))) (kLs_cE hL.2.1 (by omega) (by omega) (fun i hi => by omega))
      refine kv_calliV (ci := 2) (κ := 6) (r1 := (TJx4a65c, 3)) (As := []) [.int (nI l9)] X (c_Jx4a65c_size_8abf5 l dd ks ad (cE dd E (e.1, (va_up e.2 23 (cam mi li (fun l => mq (M.2.1 19) (M.2.1 20) (nI l) nW) e.2 (mset (e.2 23) (fun _ => 0) 12) l9)))) (6) (13) (nL) (fun l => 208 + l) 7 (kLs_cE hL.2.1 (by omega) (by omega) (fun i hi => by omega))) hl0 (kCV_of X 0 gX2_findAmounts_Jx4a65c_size_8abf5 rfl rfl rfl (by decide +kernel) hRR ⟨(Nat.le_of_ble_eq_true rfl), (Nat.le_of_ble_eq_true rfl)⟩) hL.2.1.1 o18 rfl rfl rfl (Nat.le_of_ble_eq_true rfl) hRR ⟨(Nat.le_of_ble_eq_true rfl), (Nat.le_of_ble_eq_true rfl)⟩ dX2_findAmounts_18 (fun r z hp => ?_)
      obtain rfl := hp
      refine kn_icmp_ge (x := l9) (y := nL) (tgt := 71) X (by omega) (by omega) dX2_findAmounts_21 (by decide) (fun hc21 => ?_) (fun hc21 => absurd hc21 (by omega))
      exact kv_return X hr (Nat.le_of_ble_eq_true rfl) (Nat.le_of_ble_eq_true rfl) ⟨(e.1, va_up e.2 23 (cam mi li (fun l => mq (M.2.1 19) (M.2.1 20) (nI l) nW) e.2 (mset (e.2 23) (fun _ => 0) 12) l9)), by rw [show l9 = nL by omega], rfl⟩ dX2_findAmounts_71
    | succ n9 ih10 =>
      intro l9 hin10 _ 
      refine kv_iload_n X 0 dX2_findAmounts_10 rfl rfl ?_
      refine kv_aload_n X 1 dX2_findAmounts_11 rfl rfl ?_
      refine kv_getfield X f_X2_findAmounts_39 (κ := 2) (fs := [.ref (ad 1), .ref (ad 17), .ref (ad 18), .ref (ad 19), .ref (ad 20), .ref (ad 21), .ref (ad 22), .ref (ad 23), .ref (ad 24)]) (v := .ref (ad 1)) hO.2.2.1.1 ((cE_ne (by omega)).trans hO.2.2.1.2) rfl dX2_findAmounts_12 ?_
      refine kv_getfield X f_X2_findAmounts_163 (κ := 1) (fs := [.ref (ad 3), .ref (ad 4), .ref (ad 5), .ref (ad 6), .ref (ad 7), .ref (ad 8), .ref (ad 9)]) (v := .ref (ad 6)) hO.2.1.1 ((cE_ne (by omega)).trans hO.2.1.2) rfl dX2_findAmounts_15 ?_
      obtain ⟨_, _, o18⟩ := kLs_obj (dd := dd) (ks := ks) (ad := ad) (E := (cE dd E (e.1, (va_up e.2 23 (cam mi li (fun l => mq (M.2.1 19) (M.2.1 20) (nI l) nW) e.2 (mset (e.2 23) (fun _ => 0) 12) l9))))) (kLs_cE hL.2.1 (by omega) (by omega) (fun i hi => by omega))
      refine kv_calliV (ci := 2) (κ := 6) (r1 := (TJx4a65c, 3)) (As := []) [.int (nI l9)] X (c_Jx4a65c_size_8abf5 l dd ks ad (cE dd E (e.1, (va_up e.2 23 (cam mi li (fun l => mq (M.2.1 19) (M.2.1 20) (nI l) nW) e.2 (mset (e.2 23) (fun _ => 0) 12) l9)))) (6) (13) (nL) (fun l => 208 + l) 7 (kLs_cE hL.2.1 (by omega) (by omega) (fun i hi => by omega))) hl0 (kCV_of X 0 gX2_findAmounts_Jx4a65c_size_8abf5 rfl rfl rfl (by decide +kernel) hRR ⟨(Nat.le_of_ble_eq_true rfl), (Nat.le_of_ble_eq_true rfl)⟩) hL.2.1.1 o18 rfl rfl rfl (Nat.le_of_ble_eq_true rfl) hRR ⟨(Nat.le_of_ble_eq_true rfl), (Nat.le_of_ble_eq_true rfl)⟩ dX2_findAmounts_18 (fun r z hp => ?_)
      obtain rfl := hp
      refine kn_icmp_ge (x := l9) (y := nL) (tgt := 71) X (by omega) (by omega) dX2_findAmounts_21 (by decide) (fun hc21 => absurd hc21 (by omega)) (fun hc21 => ?_)
      refine kv_aload_n X 1 dX2_findAmounts_24 rfl rfl ?_
      refine kv_getfield X f_X2_findAmounts_39 (κ := 2) (fs := [.ref (ad 1), .ref (ad 17), .ref (ad 18), .ref (ad 19), .ref (ad 20), .ref (ad 21), .ref (ad 22), .ref (ad 23), .ref (ad 24)]) (v := .ref (ad 1)) hO.2.2.1.1 ((cE_ne (by omega)).trans hO.2.2.1.2) rfl dX2_findAmounts_25 ?_
      refine kv_getfield X f_X2_findAmounts_163 (κ := 1) (fs := [.ref (ad 3), .ref (ad 4), .ref (ad 5), .ref (ad 6), .ref (ad 7), .ref (ad 8), .ref (ad 9)]) (v := .ref (ad 6)) hO.2.1.1 ((cE_ne (by omega)).trans hO.2.1.2) rfl dX2_findAmounts_28 ?_
      refine kv_iload_n X 0 dX2_findAmounts_31 rfl rfl ?_
      obtain ⟨_, _, o32⟩ := kLs_obj (dd := dd) (ks := ks) (ad := ad) (E := (cE dd E (e.1, (va_up e.2 23 (cam mi li (fun l => mq (M.2.1 19) (M.2.1 20) (nI l) nW) e.2 (mset (e.2 23) (fun _ => 0) 12) l9))))) (kLs_cE hL.2.1 (by omega) (by omega) (fun i hi => by omega))
      refine kv_callqV (ci := 2) (κ := 6) (r1 := (TJx4a65c, 3)) (As := [.int (nI l9)]) [] X (c_Jx4a65c_get_915e3 l dd ks ad (cE dd E (e.1, (va_up e.2 23 (cam mi li (fun l => mq (M.2.1 19) (M.2.1 20) (nI l) nW) e.2 (mset (e.2 23) (fun _ => 0) 12) l9)))) (6) (13) (nL) (fun l => 208 + l) 7 (kLs_cE hL.2.1 (by omega) (by omega) (fun i hi => by omega)) l9 (by omega)) hl0 (kCV_of X 1 gX2_findAmounts_Jx4a65c_get_915e3 rfl rfl rfl (by decide +kernel) hRR ⟨(Nat.le_of_ble_eq_true rfl), (Nat.le_of_ble_eq_true rfl)⟩) hL.2.1.1 o32 rfl rfl rfl (Nat.le_of_ble_eq_true rfl) hRR ⟨(Nat.le_of_ble_eq_true rfl), (Nat.le_of_ble_eq_true rfl)⟩ dX2_findAmounts_32 (fun r z hp => ?_)
      obtain rfl := hp
      refine kv_topg (.ref (ad (208 + l9))) rfl ?_
      refine kv_cast X (κ := 208 + l9) (ci := 7) (fs := [.int (nI (li l9)), .int (mq (M.2.1 19) (M.2.1 20) (nI l9) nW)]) (r := (RX4, TX4, 2)) (List.mem_cons_of_mem _ (List.mem_append_left _ (List.mem_append_left _ (List.mem_append_left _ (List.mem_append_left _ (List.mem_append_left _ (List.mem_append_left _ (List.mem_of_getElem? (i := 3) rfl)))))))) (hL.2.2 l9 (by omega)).1 ((cE_ne (by omega)).trans (hL.2.2 l9 (by omega)).2) rfl dX2_findAmounts_35 ?_
      refine kv_astore_n (lv2 := [(2, .ref (ad (208 + l9))), (1, .int (nI l9)), (0, .ref (ad 2))]) X dX2_findAmounts_38 rfl (by rw [hnL]; decide) rfl ?_
      refine kv_aload_n X 2 dX2_findAmounts_39 rfl rfl ?_
      refine kv_getfield X f_X2_findAmounts_33 (κ := 2) (fs := [.ref (ad 1), .ref (ad 17), .ref (ad 18), .ref (ad 19), .ref (ad 20), .ref (ad 21), .ref (ad 22), .ref (ad 23), .ref (ad 24)]) (v := .ref (ad 23)) hO.2.2.1.1 ((cE_ne (by omega)).trans hO.2.2.1.2) rfl dX2_findAmounts_40 ?_
      refine kv_aload_n X 2 dX2_findAmounts_43 rfl rfl ?_
      refine kv_getfield X f_X2_findAmounts_26 (κ := 2) (fs := [.ref (ad 1), .ref (ad 17), .ref (ad 18), .ref (ad 19), .ref (ad 20), .ref (ad 21), .ref (ad 22), .ref (ad 23), .ref (ad 24)]) (v := .ref (ad 21)) hO.2.2.1.1 ((cE_ne (by omega)).trans hO.2.2.1.2) rfl dX2_findAmounts_44 ?_
      refine kv_aload_n X 2 dX2_findAmounts_47 rfl rfl ?_
      refine kv_getfield X f_X2_findAmounts_9 (κ := 2) (fs := [.ref (ad 1), .ref (ad 17), .ref (ad 18), .ref (ad 19), .ref (ad 20), .ref (ad 21), .ref (ad 22), .ref (ad 23), .ref (ad 24)]) (v := .ref (ad 17)) hO.2.2.1.1 ((cE_ne (by omega)).trans hO.2.2.1.2) rfl dX2_findAmounts_48 ?_
      refine kv_aload_n X 0 dX2_findAmounts_51 rfl rfl ?_
      refine kv_getfield X f_X2_findAmounts_168 (κ := 208 + l9) (fs := [.int (nI (li l9)), .int (mq (M.2.1 19) (M.2.1 20) (nI l9) nW)]) (v := .int (nI (li l9))) (hL.2.2 l9 (by omega)).1 ((cE_ne (by omega)).trans (hL.2.2 l9 (by omega)).2) rfl dX2_findAmounts_52 ?_
      have hlt := hB.2.2.1 l9 (by omega)
      have hmt := (hmi (li l9) hlt).2
      refine ke_iald X (17) (j := li l9) (hO.2.2.2.1 _ (by omega) (by omega)) (by omega) (by omega) dX2_findAmounts_55 ?_
      refine kv_topi ((e.1 17) (li l9)) rfl ?_
      refine kv_topi (nI (mi (li l9))) (hmi (li l9) hlt).1 ?_
      refine kv_aaloadJ X (κ := 21) (n := 12) (j := mi (li l9)) (f := f21) (hO.2.2.2.1 _ (by omega) (by omega)) ((cE_ne (by omega)).trans hf21) (by omega) (by omega) dX2_findAmounts_56 ?_
      refine kv_topg (.ref (ad (37 + (mi (li l9))))) (by rw [(hff (mi (li l9)) (by omega)).2]; rfl) ?_
      refine kv_aload_n X 0 dX2_findAmounts_57 rfl rfl ?_
      refine kv_getfield X f_X2_findAmounts_171 (κ := 208 + l9) (fs := [.int (nI (li l9)), .int (mq (M.2.1 19) (M.2.1 20) (nI l9) nW)]) (v := .int (mq (M.2.1 19) (M.2.1 20) (nI l9) nW)) (hL.2.2 l9 (by omega)).1 ((cE_ne (by omega)).trans (hL.2.2 l9 (by omega)).2) rfl dX2_findAmounts_58 ?_
      refine kv_i2l X dX2_findAmounts_61 rfl ?_
      refine kv_callvS (As := [.ref (ad 23), .ref (ad (37 + (mi (li l9)))), .long ((mq (M.2.1 19) (M.2.1 20) (nI l9) nW).toInt64)]) [] X (c_X2_addTimes l dd ks ad (cE dd E (e.1, (va_up e.2 23 (cam mi li (fun l => mq (M.2.1 19) (M.2.1 20) (nI l) nW) e.2 (mset (e.2 23) (fun _ => 0) 12) l9)))) (23) (37 + (mi (li l9))) ((va_up e.2 23 (cam mi li (fun l => mq (M.2.1 19) (M.2.1 20) (nI l) nW) e.2 (mset (e.2 23) (fun _ => 0) 12) l9)) (23)) ((va_up e.2 23 (cam mi li (fun l => mq (M.2.1 19) (M.2.1 20) (nI l) nW) e.2 (mset (e.2 23) (fun _ => 0) 12) l9)) (37 + (mi (li l9)))) ((mq (M.2.1 19) (M.2.1 20) (nI l9) nW).toInt64) (hO.2.2.2.1 _ (by omega) (by omega)) (cE_J12 (by omega)) (hO.2.2.2.1 _ (by omega) (by omega)) (cE_J12 (by omega)) (by omega)) hl0 (kCS_of X 3 gX2_findAmounts_X2_addTimes rfl rfl rfl (by decide +kernel) hRR ⟨(Nat.le_of_ble_eq_true rfl), (Nat.le_of_ble_eq_true rfl)⟩) rfl rfl (Nat.le_of_ble_eq_true rfl) hRR ⟨(Nat.le_of_ble_eq_true rfl), (Nat.le_of_ble_eq_true rfl)⟩ dX2_findAmounts_62 (fun z hp => ?_)
      refine kv_E (fun j _ => cE_up12 (k := 23) (by omega) _ j) ?_
      refine kv_e (e.1, (va_up e.2 23 (cat (cam mi li (fun l => mq (M.2.1 19) (M.2.1 20) (nI l) nW) e.2 (mset (e.2 23) (fun _ => 0) 12) l9) (e.2 (37 + (mi (li l9)))) ((mq (M.2.1 19) (M.2.1 20) (nI l9) nW).toInt64)))) (by show (e.1, va_up (va_up e.2 23 (cam mi li (fun l => mq (M.2.1 19) (M.2.1 20) (nI l) nW) e.2 (mset (e.2 23) (fun _ => 0) 12) l9)) (23) (cat (cam mi li (fun l => mq (M.2.1 19) (M.2.1 20) (nI l) nW) e.2 (mset (e.2 23) (fun _ => 0) 12) l9) ((va_up e.2 23 (cam mi li (fun l => mq (M.2.1 19) (M.2.1 20) (nI l) nW) e.2 (mset (e.2 23) (fun _ => 0) 12) l9)) (37 + (mi (li l9)))) ((mq (M.2.1 19) (M.2.1 20) (nI l9) nW).toInt64))) = (e.1, (va_up e.2 23 (cat (cam mi li (fun l => mq (M.2.1 19) (M.2.1 20) (nI l) nW) e.2 (mset (e.2 23) (fun _ => 0) 12) l9) (e.2 (37 + (mi (li l9)))) ((mq (M.2.1 19) (M.2.1 20) (nI l9) nW).toInt64)))); rw [va_up_ne _ _ (by omega), va_up_up]; (try rfl)) ?_
      refine kv_e (e.1, (va_up e.2 23 (cam mi li (fun l => mq (M.2.1 19) (M.2.1 20) (nI l) nW) e.2 (mset (e.2 23) (fun _ => 0) 12) (l9 + 1)))) (by show (e.1, (va_up e.2 23 (cat (cam mi li (fun l => mq (M.2.1 19) (M.2.1 20) (nI l) nW) e.2 (mset (e.2 23) (fun _ => 0) 12) l9) (e.2 (37 + (mi (li l9)))) ((mq (M.2.1 19) (M.2.1 20) (nI l9) nW).toInt64)))) = (e.1, (va_up e.2 23 (cam mi li (fun l => mq (M.2.1 19) (M.2.1 20) (nI l) nW) e.2 (mset (e.2 23) (fun _ => 0) 12) (l9 + 1)))); rfl) ?_
      refine kv_iinc (j := 1) (v := (nI (l9 + 1))) (lv2 := [(1, .int (nI (l9 + 1))), (2, .ref (ad (208 + l9))), (0, .ref (ad 2))]) X dX2_findAmounts_65 rfl (nI_add l9 1) (by rw [hnL]; decide) rfl ?_
      refine kv_goto (tgt := 10) X dX2_findAmounts_68 (by decide) ?_
      exact kv_lv [0, 2] rfl (ih10 (l9 + 1) (by omega) ())
  exact kv_lv [0, 1] rfl (L10 nL 0 (by omega) ())

/-! the reference's depths -/
def mset {α : Type} (f g : Nat → α) (i : Nat) : Nat → α := fun j => if j < i then g j else f j
theorem mset_0 {α : Type} {f g : Nat → α} : mset f g 0 = f := funext fun _ => if_neg (by omega)
theorem mset_upd {f g : Nat → Int32} {i : Nat} {x : Int32} (h : x = g i) : upd (mset f g i) i x = mset f g (i + 1) := by
  funext k
  unfold upd mset
  by_cases c : k = i
  · subst c; rw [if_pos rfl, if_pos (by omega), h]
  · rw [if_neg c]
    by_cases c2 : k < i
    · rw [if_pos c2, if_pos (by omega)]
    · rw [if_neg c2, if_neg (by omega)]
theorem mset_updL {f g : Nat → Int64} {i : Nat} {x : Int64} (h : x = g i) : vp_updL (mset f g i) i x = mset f g (i + 1) := by
  funext k
  unfold vp_updL mset
  by_cases c : k = i
  · subst c; rw [if_pos rfl, if_pos (by omega), h]
  · rw [if_neg c]
    by_cases c2 : k < i
    · rw [if_pos c2, if_pos (by omega)]
    · rw [if_neg c2, if_neg (by omega)]
theorem mset_in {α : Type} {f g : Nat → α} {i j : Nat} (h : j < i) : mset f g i j = g j := if_pos h
theorem mset_out {α : Type} {f g : Nat → α} {i j : Nat} (h : i ≤ j) : mset f g i j = f j := if_neg (by omega)
theorem mset_mset {α : Type} {f g h : Nat → α} {n : Nat} : mset (mset f g n) h n = mset f h n := by
  funext k
  unfold mset
  by_cases c : k < n
  · rw [if_pos c, if_pos c]
  · rw [if_neg c, if_neg c, if_neg c]
theorem updL_twice (f : Nat → Int64) (i : Nat) (x y : Int64) : vp_updL (vp_updL f i x) i y = vp_updL f i y := by
  funext k
  unfold vp_updL
  by_cases c : k = i
  · rw [if_pos c, if_pos c]
  · rw [if_neg c, if_neg c, if_neg c]
theorem va_up_up {α : Type} (f : Nat → α) (k : Nat) (v w : α) : va_up (va_up f k v) k w = va_up f k w := by
  funext j
  unfold va_up
  by_cases c : j = k
  · rw [if_pos c, if_pos c]
  · rw [if_neg c, if_neg c, if_neg c]
/-- the greatest of 1 and 1 plus what the parts among n places behind b have -/
def mdmx (so f : Nat → Int32) (b : Nat) : Nat → Int64
  | 0 => 1
  | n + 1 => if mdmx so f b n < (if so (b + n) = 0 then 1 + f (b + n) else 1 : Int32).toInt64 then (if so (b + n) = 0 then 1 + f (b + n) else 1 : Int32).toInt64 else mdmx so f b n
/-- the depths behind t rounds; nx k: the number that is meant at place k -/
def mD (so : Nat → Int32) (cn nx : Nat → Nat) (nt : Nat) (A0 : Nat → Int32) : Nat → Nat → Int32
  | 0 => mset A0 (fun _ => 1) nt
  | t + 1 => mset A0 (fun i => (mdmx so (fun k => mD so cn nx nt A0 t (nx k)) (4 * i) (cn i)).toInt32) nt
theorem mD_set {so : Nat → Int32} {cn nx : Nat → Nat} {nt : Nat} {A0 : Nat → Int32} (t : Nat) {h : Nat → Int32} : mset (mD so cn nx nt A0 t) h nt = mset A0 h nt := by
  cases t <;> exact mset_mset

theorem f_X11_findDepths_97 : kF wsX11_findDepths RX11 97 14 10 := ⟨_, RX11, TX11, 34, fun _ h => (List.mem_cons_of_mem _ (List.mem_append_left _ (List.mem_append_right _ h))), (List.mem_cons_of_mem _ (List.mem_append_left _ (List.mem_append_left _ (List.mem_of_getElem? (i := 0) rfl)))), rfl, by decide, rfl⟩
theorem f_X11_findDepths_74 : kF wsX11_findDepths RX11 74 14 30 := ⟨_, RX11, TX11, 34, fun _ h => (List.mem_cons_of_mem _ (List.mem_append_left _ (List.mem_append_right _ h))), (List.mem_cons_of_mem _ (List.mem_append_left _ (List.mem_append_left _ (List.mem_of_getElem? (i := 1) rfl)))), rfl, by decide, rfl⟩
theorem f_X11_findDepths_83 : kF wsX11_findDepths RX11 83 14 33 := ⟨_, RX11, TX11, 34, fun _ h => (List.mem_cons_of_mem _ (List.mem_append_left _ (List.mem_append_right _ h))), (List.mem_cons_of_mem _ (List.mem_append_left _ (List.mem_append_left _ (List.mem_of_getElem? (i := 2) rfl)))), rfl, by decide, rfl⟩
theorem f_X11_findDepths_34 : kF wsX11_findDepths RX11 34 14 12 := ⟨_, RX11, TX11, 34, fun _ h => (List.mem_cons_of_mem _ (List.mem_append_left _ (List.mem_append_right _ h))), (List.mem_cons_of_mem _ (List.mem_append_left _ (List.mem_append_left _ (List.mem_of_getElem? (i := 3) rfl)))), rfl, by decide, rfl⟩
theorem f_X11_findDepths_37 : kF wsX11_findDepths RX11 37 14 13 := ⟨_, RX11, TX11, 34, fun _ h => (List.mem_cons_of_mem _ (List.mem_append_left _ (List.mem_append_right _ h))), (List.mem_cons_of_mem _ (List.mem_append_left _ (List.mem_append_left _ (List.mem_of_getElem? (i := 4) rfl)))), rfl, by decide, rfl⟩
theorem f_X11_findDepths_40 : kF wsX11_findDepths RX11 40 14 14 := ⟨_, RX11, TX11, 34, fun _ h => (List.mem_cons_of_mem _ (List.mem_append_left _ (List.mem_append_right _ h))), (List.mem_cons_of_mem _ (List.mem_append_left _ (List.mem_append_left _ (List.mem_of_getElem? (i := 5) rfl)))), rfl, by decide, rfl⟩
set_option maxRecDepth 100000 in
set_option maxHeartbeats 4000000 in
theorem c_X11_findDepths (l : Launch) (dd : kDD) (ad : Nat → Nat) (M : mS)  (nt : Nat) (hT : M.1 10 = nI nt ∧ nt ≤ 12) (nV : Nat) (hV : M.1 21 = nI nV ∧ nV ≤ 4) (cn : Nat → Nat) (hcn : ∀ i, i < 12 → M.2.1 12 i = nI (cn i) ∧ cn i ≤ 4) (nm : Nat → Nat) (hnm : ∀ k, k < 48 → M.2.1 14 k = nI (nm k) ∧ nm k < 12) (mi : Nat → Nat) (hmi : ∀ j, j < 12 → mnt (M.1 24) (M.2.1 22) j nV 0 = nI (mi j) ∧ mi j < 12) : kCv l yX11_findDepths wsX11_findDepths ({ frames := 1, cells := 0, slots := 0, locals := 22 } : Room) 0 0 dd [.ref (ad 0)] (mK, ad, mE dd ad M) (kQv (S := mS) (fun z => ∃ X, (M.1, va_up M.2.1 30 (mD (M.2.1 13) cn (fun k => mi (nm k)) nt (M.2.1 30) 3), va_up M.2.2 33 X) = z) (fun _ => mK) (fun _ => ad) (fun z => mE dd ad z)) := by
  refine kMetv (ws' := _) (cc := cX11_findDepths) (maxL := 5) (by decide) rfl (Nat.le_of_ble_eq_true rfl) (fun g X hr hnL hRR hl0 hkn => ?_)
  show kv dd g 0 0 0 [(0, .ref (ad 0))] [] mK ad (mE dd ad M)
  refine kv_iconst (v := 0) X dX11_findDepths_0 (by decide) ?_
  refine kv_istore_n (lv2 := [(1, .int 0), (0, .ref (ad 0))]) X dX11_findDepths_1 rfl (by rw [hnL]; decide) rfl ?_
  refine kv_M (M.1, (va_up M.2.1 30 (mset (M.2.1 30) (fun _ => 1) (0))), M.2.2) (by show M = _; simp only [mset_0, va_up_id]) ?_
  have L2 : ∀ (n i : Nat), i + n = nt → ∀ (_ : Unit) , kv dd g 0 0 2 [(1, .int (nI i)), (0, .ref (ad 0))] [] mK ad (mE dd ad (M.1, (va_up M.2.1 30 (mset (M.2.1 30) (fun _ => 1) (i))), M.2.2)) := by
    intro n
    induction n with
    | zero =>
      intro i hin2 _ 
      refine kv_iload_n X 0 dX11_findDepths_2 rfl rfl ?_
      refine kv_aload_n X 1 dX11_findDepths_3 rfl rfl ?_
      refine km_get X 10 (v := .int (M.1 10)) f_X11_findDepths_97 rfl dX11_findDepths_4 ?_
      refine kv_topi (nI nt) hT.1 ?_
      refine kn_icmp_ge (x := i) (y := nt) (tgt := 23) X (by omega) (by omega) dX11_findDepths_7 (by decide) (fun hc7 => ?_) (fun hc7 => absurd hc7 (by omega))
      refine kv_M (M.1, (va_up M.2.1 30 (mD (M.2.1 13) cn (fun k => mi (nm k)) nt (M.2.1 30) (0))), (va_up M.2.2 33 (M.2.2 33))) (by show (M.1, (va_up M.2.1 30 (mset (M.2.1 30) (fun _ => 1) (i))), M.2.2) = _; rw [show i = nt by omega]; simp only [va_up_id]; rfl) ?_
      refine kv_iconst (v := 0) X dX11_findDepths_23 (by decide) ?_
      refine kv_istore_n (lv2 := [(1, .int 0), (0, .ref (ad 0))]) X dX11_findDepths_24 rfl (by rw [hnL]; decide) rfl ?_
      have L25 : ∀ (n t : Nat), t + n = 3 → ∀ (Y : Nat → Int64) , kv dd g 0 0 25 [(1, .int (nI t)), (0, .ref (ad 0))] [] mK ad (mE dd ad (M.1, (va_up M.2.1 30 (mD (M.2.1 13) cn (fun k => mi (nm k)) nt (M.2.1 30) (t))), (va_up M.2.2 33 Y))) := by
        intro n
        induction n with
        | zero =>
          intro t hin25 Y 
          refine kv_iload_n X 0 dX11_findDepths_25 rfl rfl ?_
          refine kv_iconst (v := 3) X dX11_findDepths_26 (by decide) ?_
          refine kn_icmp_ge (x := t) (y := 3) (tgt := 175) X (by omega) (by omega) dX11_findDepths_27 (by decide) (fun hc27 => ?_) (fun hc27 => absurd hc27 (by omega))
          exact kv_return X hr (by decide) (by decide) ⟨(M.1, (va_up M.2.1 30 (mD (M.2.1 13) cn (fun k => mi (nm k)) nt (M.2.1 30) (t))), (va_up M.2.2 33 Y)), ⟨Y, by rw [show t = 3 by omega]⟩, rfl⟩ dX11_findDepths_175
        | succ n ih25 =>
          intro t hin25 Y 
          refine kv_iload_n X 0 dX11_findDepths_25 rfl rfl ?_
          refine kv_iconst (v := 3) X dX11_findDepths_26 (by decide) ?_
          refine kn_icmp_ge (x := t) (y := 3) (tgt := 175) X (by omega) (by omega) dX11_findDepths_27 (by decide) (fun hc27 => absurd hc27 (by omega)) (fun hc27 => ?_)
          refine kv_iconst (v := 0) X dX11_findDepths_30 (by decide) ?_
          refine kv_istore_n (lv2 := [(2, .int 0), (1, .int (nI t)), (0, .ref (ad 0))]) X dX11_findDepths_31 rfl (by rw [hnL]; decide) rfl ?_
          refine kv_M (M.1, (va_up M.2.1 30 (mD (M.2.1 13) cn (fun k => mi (nm k)) nt (M.2.1 30) t)), (va_up M.2.2 33 (mset Y (fun j => mdmx (M.2.1 13) (fun k => mD (M.2.1 13) cn (fun k => mi (nm k)) nt (M.2.1 30) t (mi (nm k))) (4 * j) (cn j)) (0)))) (by show (M.1, (va_up M.2.1 30 (mD (M.2.1 13) cn (fun k => mi (nm k)) nt (M.2.1 30) (t))), (va_up M.2.2 33 Y)) = _; simp only [mset_0, va_up_id]) ?_
          have L32 : ∀ (n i : Nat), i + n = nt → ∀ (_ : Unit) , kv dd g 0 0 32 [(2, .int (nI i)), (1, .int (nI t)), (0, .ref (ad 0))] [] mK ad (mE dd ad (M.1, (va_up M.2.1 30 (mD (M.2.1 13) cn (fun k => mi (nm k)) nt (M.2.1 30) t)), (va_up M.2.2 33 (mset Y (fun j => mdmx (M.2.1 13) (fun k => mD (M.2.1 13) cn (fun k => mi (nm k)) nt (M.2.1 30) t (mi (nm k))) (4 * j) (cn j)) (i))))) := by
            intro n
            induction n with
            | zero =>
              intro i hin32 _ 
              refine kv_iload_n X 0 dX11_findDepths_32 rfl rfl ?_
              refine kv_aload_n X 2 dX11_findDepths_33 rfl rfl ?_
              refine km_get X 10 (v := .int (M.1 10)) f_X11_findDepths_97 rfl dX11_findDepths_34 ?_
              refine kv_topi (nI nt) hT.1 ?_
              refine kn_icmp_ge (x := i) (y := nt) (tgt := 140) X (by omega) (by omega) dX11_findDepths_37 (by decide) (fun hc37 => ?_) (fun hc37 => absurd hc37 (by omega))
              refine kv_iconst (v := 0) X dX11_findDepths_140 (by decide) ?_
              refine kv_istore_n (lv2 := [(2, .int 0), (1, .int (nI t)), (0, .ref (ad 0))]) X dX11_findDepths_141 rfl (by rw [hnL]; decide) rfl ?_
              refine kv_M (M.1, (va_up M.2.1 30 (mset (mD (M.2.1 13) cn (fun k => mi (nm k)) nt (M.2.1 30) t) (fun j => (mdmx (M.2.1 13) (fun k => mD (M.2.1 13) cn (fun k => mi (nm k)) nt (M.2.1 30) t (mi (nm k))) (4 * j) (cn j)).toInt32) (0))), (va_up M.2.2 33 (mset Y (fun j => mdmx (M.2.1 13) (fun k => mD (M.2.1 13) cn (fun k => mi (nm k)) nt (M.2.1 30) t (mi (nm k))) (4 * j) (cn j)) nt))) (by show (M.1, (va_up M.2.1 30 (mD (M.2.1 13) cn (fun k => mi (nm k)) nt (M.2.1 30) t)), (va_up M.2.2 33 (mset Y (fun j => mdmx (M.2.1 13) (fun k => mD (M.2.1 13) cn (fun k => mi (nm k)) nt (M.2.1 30) t (mi (nm k))) (4 * j) (cn j)) (i)))) = _; simp only [mset_0, show i = nt by omega]) ?_
              have L142 : ∀ (n3 i : Nat), i + n3 = nt → ∀ (_ : Unit) , kv dd g 0 0 142 [(2, .int (nI i)), (1, .int (nI t)), (0, .ref (ad 0))] [] mK ad (mE dd ad (M.1, (va_up M.2.1 30 (mset (mD (M.2.1 13) cn (fun k => mi (nm k)) nt (M.2.1 30) t) (fun j => (mdmx (M.2.1 13) (fun k => mD (M.2.1 13) cn (fun k => mi (nm k)) nt (M.2.1 30) t (mi (nm k))) (4 * j) (cn j)).toInt32) (i))), (va_up M.2.2 33 (mset Y (fun j => mdmx (M.2.1 13) (fun k => mD (M.2.1 13) cn (fun k => mi (nm k)) nt (M.2.1 30) t (mi (nm k))) (4 * j) (cn j)) nt)))) := by
                intro n3
                induction n3 with
                | zero =>
                  intro i hin142 _ 
                  refine kv_iload_n X 0 dX11_findDepths_142 rfl rfl ?_
                  refine kv_aload_n X 2 dX11_findDepths_143 rfl rfl ?_
                  refine km_get X 10 (v := .int (M.1 10)) f_X11_findDepths_97 rfl dX11_findDepths_144 ?_
                  refine kv_topi (nI nt) hT.1 ?_
                  refine kn_icmp_ge (x := i) (y := nt) (tgt := 169) X (by omega) (by omega) dX11_findDepths_147 (by decide) (fun hc147 => ?_) (fun hc147 => absurd hc147 (by omega))
                  refine kv_M (M.1, (va_up M.2.1 30 (mD (M.2.1 13) cn (fun k => mi (nm k)) nt (M.2.1 30) (t + 1))), (va_up M.2.2 33 (mset Y (fun j => mdmx (M.2.1 13) (fun k => mD (M.2.1 13) cn (fun k => mi (nm k)) nt (M.2.1 30) t (mi (nm k))) (4 * j) (cn j)) nt))) (by show (M.1, (va_up M.2.1 30 (mset (mD (M.2.1 13) cn (fun k => mi (nm k)) nt (M.2.1 30) t) (fun j => (mdmx (M.2.1 13) (fun k => mD (M.2.1 13) cn (fun k => mi (nm k)) nt (M.2.1 30) t (mi (nm k))) (4 * j) (cn j)).toInt32) (i))), (va_up M.2.2 33 (mset Y (fun j => mdmx (M.2.1 13) (fun k => mD (M.2.1 13) cn (fun k => mi (nm k)) nt (M.2.1 30) t (mi (nm k))) (4 * j) (cn j)) nt))) = _; rw [show i = nt by omega, mD_set t]; rfl) ?_
                  refine kv_iinc (j := 1) (v := (nI (t + 1))) (lv2 := [(1, .int (nI (t + 1))), (2, .int (nI i)), (0, .ref (ad 0))]) X dX11_findDepths_169 rfl (nI_add t 1) (by rw [hnL]; decide) rfl ?_
                  refine kv_goto (tgt := 25) X dX11_findDepths_172 (by decide) ?_
                  exact kv_lv [0, 2] rfl (ih25 (t + 1) (by omega) (mset Y (fun j => mdmx (M.2.1 13) (fun k => mD (M.2.1 13) cn (fun k => mi (nm k)) nt (M.2.1 30) t (mi (nm k))) (4 * j) (cn j)) nt))
                | succ n3 ih142 =>
                  intro i hin142 _ 
                  refine kv_iload_n X 0 dX11_findDepths_142 rfl rfl ?_
                  refine kv_aload_n X 2 dX11_findDepths_143 rfl rfl ?_
                  refine km_get X 10 (v := .int (M.1 10)) f_X11_findDepths_97 rfl dX11_findDepths_144 ?_
                  refine kv_topi (nI nt) hT.1 ?_
                  refine kn_icmp_ge (x := i) (y := nt) (tgt := 169) X (by omega) (by omega) dX11_findDepths_147 (by decide) (fun hc147 => absurd hc147 (by omega)) (fun hc147 => ?_)
                  refine kv_aload_n X 2 dX11_findDepths_150 rfl rfl ?_
                  refine km_get X 30 (v := .ref (ad 30)) f_X11_findDepths_74 rfl dX11_findDepths_151 ?_
                  refine kv_iload_n X 0 dX11_findDepths_154 rfl rfl ?_
                  refine kv_aload_n X 2 dX11_findDepths_155 rfl rfl ?_
                  refine km_get X 33 (v := .ref (ad 33)) f_X11_findDepths_83 rfl dX11_findDepths_156 ?_
                  refine kv_iload_n X 0 dX11_findDepths_159 rfl rfl ?_
                  refine km_lald X 33 (j := i) (by decide) (by decide) rfl (by show _ < _; simp only [mLen]; omega) (by decide) dX11_findDepths_160 ?_
                  refine kv_topl ((mset Y (fun j => mdmx (M.2.1 13) (fun k => mD (M.2.1 13) cn (fun k => mi (nm k)) nt (M.2.1 30) t (mi (nm k))) (4 * j) (cn j)) nt) i) rfl ?_
                  refine kv_l2i X dX11_findDepths_161 rfl ?_
                  refine km_iast X 30 (j := i) (x := (((mset Y (fun j => mdmx (M.2.1 13) (fun k => mD (M.2.1 13) cn (fun k => mi (nm k)) nt (M.2.1 30) t (mi (nm k))) (4 * j) (cn j)) nt) i).toInt32)) (by decide) (by decide) rfl (by show _ < _; simp only [mLen]; omega) (by decide) dX11_findDepths_162 ?_
                  refine kv_M (M.1, (va_up M.2.1 30 (mset (mD (M.2.1 13) cn (fun k => mi (nm k)) nt (M.2.1 30) t) (fun j => (mdmx (M.2.1 13) (fun k => mD (M.2.1 13) cn (fun k => mi (nm k)) nt (M.2.1 30) t (mi (nm k))) (4 * j) (cn j)).toInt32) (i + 1))), (va_up M.2.2 33 (mset Y (fun j => mdmx (M.2.1 13) (fun k => mD (M.2.1 13) cn (fun k => mi (nm k)) nt (M.2.1 30) t (mi (nm k))) (4 * j) (cn j)) nt))) (by show (M.1, (va_up (va_up M.2.1 30 (mset (mD (M.2.1 13) cn (fun k => mi (nm k)) nt (M.2.1 30) t) (fun j => (mdmx (M.2.1 13) (fun k => mD (M.2.1 13) cn (fun k => mi (nm k)) nt (M.2.1 30) t (mi (nm k))) (4 * j) (cn j)).toInt32) (i))) 30 (upd (mset (mD (M.2.1 13) cn (fun k => mi (nm k)) nt (M.2.1 30) t) (fun j => (mdmx (M.2.1 13) (fun k => mD (M.2.1 13) cn (fun k => mi (nm k)) nt (M.2.1 30) t (mi (nm k))) (4 * j) (cn j)).toInt32) (i)) i (((mset Y (fun j => mdmx (M.2.1 13) (fun k => mD (M.2.1 13) cn (fun k => mi (nm k)) nt (M.2.1 30) t (mi (nm k))) (4 * j) (cn j)) nt) i).toInt32))), (va_up M.2.2 33 (mset Y (fun j => mdmx (M.2.1 13) (fun k => mD (M.2.1 13) cn (fun k => mi (nm k)) nt (M.2.1 30) t (mi (nm k))) (4 * j) (cn j)) nt))) = _; rw [va_up_up, mset_upd (by rw [mset_in (by omega)])]) ?_
                  refine kv_iinc (j := 0) (v := (nI (i + 1))) (lv2 := [(2, .int (nI (i + 1))), (1, .int (nI t)), (0, .ref (ad 0))]) X dX11_findDepths_163 rfl (nI_add i 1) (by rw [hnL]; decide) rfl ?_
                  refine kv_goto (tgt := 142) X dX11_findDepths_166 (by decide) ?_
                  exact kv_lv [0, 1, 2] rfl (ih142 (i + 1) (by omega) ())
              exact kv_lv [0, 1, 2] rfl (L142 nt 0 (by omega) ())
            | succ n ih32 =>
              intro i hin32 _ 
              refine kv_iload_n X 0 dX11_findDepths_32 rfl rfl ?_
              refine kv_aload_n X 2 dX11_findDepths_33 rfl rfl ?_
              refine km_get X 10 (v := .int (M.1 10)) f_X11_findDepths_97 rfl dX11_findDepths_34 ?_
              refine kv_topi (nI nt) hT.1 ?_
              refine kn_icmp_ge (x := i) (y := nt) (tgt := 140) X (by omega) (by omega) dX11_findDepths_37 (by decide) (fun hc37 => absurd hc37 (by omega)) (fun hc37 => ?_)
              refine kv_aload_n X 2 dX11_findDepths_40 rfl rfl ?_
              refine km_get X 33 (v := .ref (ad 33)) f_X11_findDepths_83 rfl dX11_findDepths_41 ?_
              refine kv_iload_n X 0 dX11_findDepths_44 rfl rfl ?_
              refine kv_lconst (v := 1) X dX11_findDepths_45 (by decide) ?_
              refine km_last X 33 (j := i) (x := 1) (by decide) (by decide) rfl (by show _ < _; simp only [mLen]; omega) (by decide) dX11_findDepths_46 ?_
              refine kv_iconst (v := 4) X dX11_findDepths_47 (by decide) ?_
              refine kv_iload_n X 0 dX11_findDepths_48 rfl rfl ?_
              refine kv_imul X dX11_findDepths_49 ?_
              refine kv_topi (nI (4 * i)) (pk_mul 4 i) ?_
              refine kv_istore_n (lv2 := [(3, .int (nI (4 * i))), (2, .int (nI i)), (1, .int (nI t)), (0, .ref (ad 0))]) X dX11_findDepths_50 rfl (by rw [hnL]; decide) rfl ?_
              refine kv_M (M.1, (va_up M.2.1 30 (mD (M.2.1 13) cn (fun k => mi (nm k)) nt (M.2.1 30) t)), (va_up M.2.2 33 (vp_updL (mset Y (fun j => mdmx (M.2.1 13) (fun k => mD (M.2.1 13) cn (fun k => mi (nm k)) nt (M.2.1 30) t (mi (nm k))) (4 * j) (cn j)) i) i (mdmx (M.2.1 13) (fun k => mD (M.2.1 13) cn (fun k => mi (nm k)) nt (M.2.1 30) t (mi (nm k))) (4 * i) (0))))) (by show (M.1, (va_up M.2.1 30 (mD (M.2.1 13) cn (fun k => mi (nm k)) nt (M.2.1 30) t)), (va_up (va_up M.2.2 33 (mset Y (fun j => mdmx (M.2.1 13) (fun k => mD (M.2.1 13) cn (fun k => mi (nm k)) nt (M.2.1 30) t (mi (nm k))) (4 * j) (cn j)) (i))) 33 (vp_updL (mset Y (fun j => mdmx (M.2.1 13) (fun k => mD (M.2.1 13) cn (fun k => mi (nm k)) nt (M.2.1 30) t (mi (nm k))) (4 * j) (cn j)) (i)) i 1))) = _; simp only [mdmx, va_up_up]) ?_
              have L51 : ∀ (n2 m : Nat), m + n2 = cn i → ∀ (_ : Unit) , kv dd g 0 0 51 [(3, .int (nI (4 * i + (m)))), (2, .int (nI i)), (1, .int (nI t)), (0, .ref (ad 0))] [] mK ad (mE dd ad (M.1, (va_up M.2.1 30 (mD (M.2.1 13) cn (fun k => mi (nm k)) nt (M.2.1 30) t)), (va_up M.2.2 33 (vp_updL (mset Y (fun j => mdmx (M.2.1 13) (fun k => mD (M.2.1 13) cn (fun k => mi (nm k)) nt (M.2.1 30) t (mi (nm k))) (4 * j) (cn j)) i) i (mdmx (M.2.1 13) (fun k => mD (M.2.1 13) cn (fun k => mi (nm k)) nt (M.2.1 30) t (mi (nm k))) (4 * i) (m)))))) := by
                intro n2
                induction n2 with
                | zero =>
                  intro m hin51 _ 
                  refine kv_iload_n X 0 dX11_findDepths_51 rfl rfl ?_
                  refine kv_iconst (v := 4) X dX11_findDepths_52 (by decide) ?_
                  refine kv_iload_n X 1 dX11_findDepths_53 rfl rfl ?_
                  refine kv_imul X dX11_findDepths_54 ?_
                  refine kv_topi (nI (4 * i)) (pk_mul 4 i) ?_
                  refine kv_aload_n X 3 dX11_findDepths_55 rfl rfl ?_
                  refine km_get X 12 (v := .ref (ad 12)) f_X11_findDepths_34 rfl dX11_findDepths_56 ?_
                  refine kv_iload_n X 1 dX11_findDepths_59 rfl rfl ?_
                  refine km_iald X 12 (j := i) (by decide) (by decide) rfl (by show _ < _; simp only [mLen]; omega) (by decide) dX11_findDepths_60 ?_
                  have e60 := (hcn i (by omega)).2
                  refine kv_topi (nI (cn i)) (hcn i (by omega)).1 ?_
                  refine kv_iadd X dX11_findDepths_61 ?_
                  refine kv_topi (nI ((4 * i) + (cn i))) (nI_add (4 * i) (cn i)) ?_
                  refine kn_icmp_ge (x := 4 * i + (m)) (y := (4 * i) + (cn i)) (tgt := 134) X (by omega) (by omega) dX11_findDepths_62 (by decide) (fun hc62 => ?_) (fun hc62 => absurd hc62 (by omega))
                  refine kv_M (M.1, (va_up M.2.1 30 (mD (M.2.1 13) cn (fun k => mi (nm k)) nt (M.2.1 30) t)), (va_up M.2.2 33 (mset Y (fun j => mdmx (M.2.1 13) (fun k => mD (M.2.1 13) cn (fun k => mi (nm k)) nt (M.2.1 30) t (mi (nm k))) (4 * j) (cn j)) (i + 1)))) (by show (M.1, (va_up M.2.1 30 (mD (M.2.1 13) cn (fun k => mi (nm k)) nt (M.2.1 30) t)), (va_up M.2.2 33 (vp_updL (mset Y (fun j => mdmx (M.2.1 13) (fun k => mD (M.2.1 13) cn (fun k => mi (nm k)) nt (M.2.1 30) t (mi (nm k))) (4 * j) (cn j)) i) i (mdmx (M.2.1 13) (fun k => mD (M.2.1 13) cn (fun k => mi (nm k)) nt (M.2.1 30) t (mi (nm k))) (4 * i) (m))))) = _; rw [show m = cn i by omega, mset_updL rfl]) ?_
                  refine kv_iinc (j := 1) (v := (nI (i + 1))) (lv2 := [(2, .int (nI (i + 1))), (3, .int (nI (4 * i + (m)))), (1, .int (nI t)), (0, .ref (ad 0))]) X dX11_findDepths_134 rfl (nI_add i 1) (by rw [hnL]; decide) rfl ?_
                  refine kv_goto (tgt := 32) X dX11_findDepths_137 (by decide) ?_
                  exact kv_lv [0, 2, 3] rfl (ih32 (i + 1) (by omega) ())
                | succ n2 ih51 =>
                  intro m hin51 _ 
                  refine kv_iload_n X 0 dX11_findDepths_51 rfl rfl ?_
                  refine kv_iconst (v := 4) X dX11_findDepths_52 (by decide) ?_
                  refine kv_iload_n X 1 dX11_findDepths_53 rfl rfl ?_
                  refine kv_imul X dX11_findDepths_54 ?_
                  refine kv_topi (nI (4 * i)) (pk_mul 4 i) ?_
                  refine kv_aload_n X 3 dX11_findDepths_55 rfl rfl ?_
                  refine km_get X 12 (v := .ref (ad 12)) f_X11_findDepths_34 rfl dX11_findDepths_56 ?_
                  refine kv_iload_n X 1 dX11_findDepths_59 rfl rfl ?_
                  refine km_iald X 12 (j := i) (by decide) (by decide) rfl (by show _ < _; simp only [mLen]; omega) (by decide) dX11_findDepths_60 ?_
                  have e60 := (hcn i (by omega)).2
                  refine kv_topi (nI (cn i)) (hcn i (by omega)).1 ?_
                  refine kv_iadd X dX11_findDepths_61 ?_
                  refine kv_topi (nI ((4 * i) + (cn i))) (nI_add (4 * i) (cn i)) ?_
                  refine kn_icmp_ge (x := 4 * i + (m)) (y := (4 * i) + (cn i)) (tgt := 134) X (by omega) (by omega) dX11_findDepths_62 (by decide) (fun hc62 => absurd hc62 (by omega)) (fun hc62 => ?_)
                  refine kv_aload_n X 3 dX11_findDepths_65 rfl rfl ?_
                  refine km_get X 13 (v := .ref (ad 13)) f_X11_findDepths_37 rfl dX11_findDepths_66 ?_
                  refine kv_iload_n X 0 dX11_findDepths_69 rfl rfl ?_
                  refine km_iald X 13 (j := 4 * i + (m)) (by decide) (by decide) rfl (by show _ < _; simp only [mLen]; omega) (by decide) dX11_findDepths_70 ?_
                  refine kv_topi ((M.2.1 13) (4 * i + (m))) rfl ?_
                  refine kv_if_ne (tgt := 94) X dX11_findDepths_71 (by decide) (fun hc71 => ?_) (fun hc71 => ?_)
                  ·
                    refine kv_iconst (v := 1) X dX11_findDepths_94 (by decide) ?_
                    refine kv_istore (lv2 := [(4, .int 1), (3, .int (nI (4 * i + (m)))), (2, .int (nI i)), (1, .int (nI t)), (0, .ref (ad 0))]) X dX11_findDepths_95 (by rw [hnL]; decide) rfl ?_
                    refine kv_aload_n X 4 dX11_findDepths_97 rfl rfl ?_
                    refine km_get X 33 (v := .ref (ad 33)) f_X11_findDepths_83 rfl dX11_findDepths_98 ?_
                    refine kv_iload_n X 2 dX11_findDepths_101 rfl rfl ?_
                    refine kv_iload X 0 dX11_findDepths_102 rfl ?_
                    refine kv_i2l X dX11_findDepths_104 rfl ?_
                    refine kv_aload_n X 4 dX11_findDepths_105 rfl rfl ?_
                    refine km_get X 33 (v := .ref (ad 33)) f_X11_findDepths_83 rfl dX11_findDepths_106 ?_
                    refine kv_iload_n X 2 dX11_findDepths_109 rfl rfl ?_
                    refine km_lald X 33 (j := i) (by decide) (by decide) rfl (by show _ < _; simp only [mLen]; omega) (by decide) dX11_findDepths_110 ?_
                    refine kv_topl (mdmx (M.2.1 13) (fun k => mD (M.2.1 13) cn (fun k => mi (nm k)) nt (M.2.1 30) t (mi (nm k))) (4 * i) (m)) pk_uLs ?_
                    refine kv_lcmp X dX11_findDepths_111 ?_
                    refine kv_if_le (tgt := 121) X dX11_findDepths_112 (by decide) (fun hc112 => ?_) (fun hc112 => ?_)
                    ·
                      refine kv_aload_n X 4 dX11_findDepths_121 rfl rfl ?_
                      refine km_get X 33 (v := .ref (ad 33)) f_X11_findDepths_83 rfl dX11_findDepths_122 ?_
                      refine kv_iload_n X 2 dX11_findDepths_125 rfl rfl ?_
                      refine km_lald X 33 (j := i) (by decide) (by decide) rfl (by show _ < _; simp only [mLen]; omega) (by decide) dX11_findDepths_126 ?_
                      refine kv_topl (mdmx (M.2.1 13) (fun k => mD (M.2.1 13) cn (fun k => mi (nm k)) nt (M.2.1 30) t (mi (nm k))) (4 * i) (m)) pk_uLs ?_
                      refine km_last X 33 (j := i) (x := (mdmx (M.2.1 13) (fun k => mD (M.2.1 13) cn (fun k => mi (nm k)) nt (M.2.1 30) t (mi (nm k))) (4 * i) (m))) (by decide) (by decide) rfl (by show _ < _; simp only [mLen]; omega) (by decide) dX11_findDepths_127 ?_
                      refine kv_M (M.1, (va_up M.2.1 30 (mD (M.2.1 13) cn (fun k => mi (nm k)) nt (M.2.1 30) t)), (va_up M.2.2 33 (vp_updL (mset Y (fun j => mdmx (M.2.1 13) (fun k => mD (M.2.1 13) cn (fun k => mi (nm k)) nt (M.2.1 30) t (mi (nm k))) (4 * j) (cn j)) i) i (mdmx (M.2.1 13) (fun k => mD (M.2.1 13) cn (fun k => mi (nm k)) nt (M.2.1 30) t (mi (nm k))) (4 * i) (m + 1))))) (by show (M.1, (va_up M.2.1 30 (mD (M.2.1 13) cn (fun k => mi (nm k)) nt (M.2.1 30) t)), (va_up (va_up M.2.2 33 (vp_updL (mset Y (fun j => mdmx (M.2.1 13) (fun k => mD (M.2.1 13) cn (fun k => mi (nm k)) nt (M.2.1 30) t (mi (nm k))) (4 * j) (cn j)) i) i (mdmx (M.2.1 13) (fun k => mD (M.2.1 13) cn (fun k => mi (nm k)) nt (M.2.1 30) t (mi (nm k))) (4 * i) (m)))) 33 (vp_updL (vp_updL (mset Y (fun j => mdmx (M.2.1 13) (fun k => mD (M.2.1 13) cn (fun k => mi (nm k)) nt (M.2.1 30) t (mi (nm k))) (4 * j) (cn j)) i) i (mdmx (M.2.1 13) (fun k => mD (M.2.1 13) cn (fun k => mi (nm k)) nt (M.2.1 30) t (mi (nm k))) (4 * i) (m))) i (mdmx (M.2.1 13) (fun k => mD (M.2.1 13) cn (fun k => mi (nm k)) nt (M.2.1 30) t (mi (nm k))) (4 * i) (m))))) = _; rw [va_up_up, updL_twice]; rw [mdmx]; (first | rw [if_pos hc71] | rw [if_neg hc71]); (first | rw [if_pos (Int64.not_le.mp (fun q => hc112 ((lg_cmp_le _ _).mpr q)))] | rw [if_neg (Int64.not_lt.mpr ((lg_cmp_le _ _).mp hc112))])) ?_
                      refine kv_iinc (j := 1) (v := (nI (4 * i + (m) + 1))) (lv2 := [(3, .int (nI (4 * i + (m) + 1))), (4, .int 1), (2, .int (nI i)), (1, .int (nI t)), (0, .ref (ad 0))]) X dX11_findDepths_128 rfl (nI_add (4 * i + (m)) 1) (by rw [hnL]; decide) rfl ?_
                      refine kv_goto (tgt := 51) X dX11_findDepths_131 (by decide) ?_
                      exact kv_lv [0, 2, 3, 4] rfl (ih51 (m + 1) (by omega) ())
                    ·
                      refine kv_iload X 0 dX11_findDepths_115 rfl ?_
                      refine kv_i2l X dX11_findDepths_117 rfl ?_
                      refine kv_goto (tgt := 127) X dX11_findDepths_118 (by decide) ?_
                      refine km_last X 33 (j := i) (x := ((1 : Int32).toInt64)) (by decide) (by decide) rfl (by show _ < _; simp only [mLen]; omega) (by decide) dX11_findDepths_127 ?_
                      refine kv_M (M.1, (va_up M.2.1 30 (mD (M.2.1 13) cn (fun k => mi (nm k)) nt (M.2.1 30) t)), (va_up M.2.2 33 (vp_updL (mset Y (fun j => mdmx (M.2.1 13) (fun k => mD (M.2.1 13) cn (fun k => mi (nm k)) nt (M.2.1 30) t (mi (nm k))) (4 * j) (cn j)) i) i (mdmx (M.2.1 13) (fun k => mD (M.2.1 13) cn (fun k => mi (nm k)) nt (M.2.1 30) t (mi (nm k))) (4 * i) (m + 1))))) (by show (M.1, (va_up M.2.1 30 (mD (M.2.1 13) cn (fun k => mi (nm k)) nt (M.2.1 30) t)), (va_up (va_up M.2.2 33 (vp_updL (mset Y (fun j => mdmx (M.2.1 13) (fun k => mD (M.2.1 13) cn (fun k => mi (nm k)) nt (M.2.1 30) t (mi (nm k))) (4 * j) (cn j)) i) i (mdmx (M.2.1 13) (fun k => mD (M.2.1 13) cn (fun k => mi (nm k)) nt (M.2.1 30) t (mi (nm k))) (4 * i) (m)))) 33 (vp_updL (vp_updL (mset Y (fun j => mdmx (M.2.1 13) (fun k => mD (M.2.1 13) cn (fun k => mi (nm k)) nt (M.2.1 30) t (mi (nm k))) (4 * j) (cn j)) i) i (mdmx (M.2.1 13) (fun k => mD (M.2.1 13) cn (fun k => mi (nm k)) nt (M.2.1 30) t (mi (nm k))) (4 * i) (m))) i ((1 : Int32).toInt64)))) = _; rw [va_up_up, updL_twice]; rw [mdmx]; (first | rw [if_pos hc71] | rw [if_neg hc71]); (first | rw [if_pos (Int64.not_le.mp (fun q => hc112 ((lg_cmp_le _ _).mpr q)))] | rw [if_neg (Int64.not_lt.mpr ((lg_cmp_le _ _).mp hc112))])) ?_
                      refine kv_iinc (j := 1) (v := (nI (4 * i + (m) + 1))) (lv2 := [(3, .int (nI (4 * i + (m) + 1))), (4, .int 1), (2, .int (nI i)), (1, .int (nI t)), (0, .ref (ad 0))]) X dX11_findDepths_128 rfl (nI_add (4 * i + (m)) 1) (by rw [hnL]; decide) rfl ?_
                      refine kv_goto (tgt := 51) X dX11_findDepths_131 (by decide) ?_
                      exact kv_lv [0, 2, 3, 4] rfl (ih51 (m + 1) (by omega) ())
                  ·
                    refine kv_iconst (v := 1) X dX11_findDepths_74 (by decide) ?_
                    refine kv_aload_n X 3 dX11_findDepths_75 rfl rfl ?_
                    refine km_get X 30 (v := .ref (ad 30)) f_X11_findDepths_74 rfl dX11_findDepths_76 ?_
                    refine kv_aload_n X 3 dX11_findDepths_79 rfl rfl ?_
                    refine kv_aload_n X 3 dX11_findDepths_80 rfl rfl ?_
                    refine km_get X 14 (v := .ref (ad 14)) f_X11_findDepths_40 rfl dX11_findDepths_81 ?_
                    refine kv_iload_n X 0 dX11_findDepths_84 rfl rfl ?_
                    refine km_iald X 14 (j := 4 * i + (m)) (by decide) (by decide) rfl (by show _ < _; simp only [mLen]; omega) (by decide) dX11_findDepths_85 ?_
                    have e85 := (hnm (4 * i + (m)) (by omega)).2
                    refine kv_topi (nI (nm (4 * i + (m)))) (hnm (4 * i + (m)) (by omega)).1 ?_
                    refine kv_calliV (ci := 14) (κ := 0) (r1 := (TX11, 34)) (As := [.int (nI (nm (4 * i + (m))))]) [.ref (ad 30), .int 1] X (c_X11_meantItem l dd ad (M.1, (va_up M.2.1 30 (mD (M.2.1 13) cn (fun k => mi (nm k)) nt (M.2.1 30) t)), (va_up M.2.2 33 (vp_updL (mset Y (fun j => mdmx (M.2.1 13) (fun k => mD (M.2.1 13) cn (fun k => mi (nm k)) nt (M.2.1 30) t (mi (nm k))) (4 * j) (cn j)) i) i (mdmx (M.2.1 13) (fun k => mD (M.2.1 13) cn (fun k => mi (nm k)) nt (M.2.1 30) t (mi (nm k))) (4 * i) (m))))) (nm (4 * i + (m))) (hnm (4 * i + m) (by have := (hcn i (by omega)).2; omega)).2 nV hV) hl0 (kCV_of X 1 gX11_findDepths_X11_meantItem rfl rfl rfl (by decide +kernel) hRR ⟨Nat.le_of_ble_eq_true rfl, Nat.le_of_ble_eq_true rfl⟩) (by decide) rfl rfl rfl rfl (Nat.le_of_ble_eq_true rfl) hRR ⟨Nat.le_of_ble_eq_true rfl, Nat.le_of_ble_eq_true rfl⟩ dX11_findDepths_86 (fun r z hp => ?_)
                    obtain ⟨rfl, rfl⟩ := hp
                    refine kv_topi (nI (mi (nm (4 * i + m)))) (hmi (nm (4 * i + m)) (hnm (4 * i + m) (by have := (hcn i (by omega)).2; omega)).2).1 ?_
                    refine km_iald X 30 (j := mi (nm (4 * i + m))) (by decide) (by decide) rfl (by show _ < _; simp only [mLen]; exact (hmi (nm (4 * i + m)) (hnm (4 * i + m) (by have := (hcn i (by omega)).2; omega)).2).2) (by decide) dX11_findDepths_89 ?_
                    refine kv_topi ((mD (M.2.1 13) cn (fun k => mi (nm k)) nt (M.2.1 30) t) (mi (nm (4 * i + m)))) rfl ?_
                    refine kv_iadd X dX11_findDepths_90 ?_
                    refine kv_goto (tgt := 95) X dX11_findDepths_91 (by decide) ?_
                    refine kv_istore (lv2 := [(4, .int (1 + ((mD (M.2.1 13) cn (fun k => mi (nm k)) nt (M.2.1 30) t) (mi (nm (4 * i + m)))))), (3, .int (nI (4 * i + (m)))), (2, .int (nI i)), (1, .int (nI t)), (0, .ref (ad 0))]) X dX11_findDepths_95 (by rw [hnL]; decide) rfl ?_
                    refine kv_aload_n X 4 dX11_findDepths_97 rfl rfl ?_
                    refine km_get X 33 (v := .ref (ad 33)) f_X11_findDepths_83 rfl dX11_findDepths_98 ?_
                    refine kv_iload_n X 2 dX11_findDepths_101 rfl rfl ?_
                    refine kv_iload X 0 dX11_findDepths_102 rfl ?_
                    refine kv_i2l X dX11_findDepths_104 rfl ?_
                    refine kv_aload_n X 4 dX11_findDepths_105 rfl rfl ?_
                    refine km_get X 33 (v := .ref (ad 33)) f_X11_findDepths_83 rfl dX11_findDepths_106 ?_
                    refine kv_iload_n X 2 dX11_findDepths_109 rfl rfl ?_
                    refine km_lald X 33 (j := i) (by decide) (by decide) rfl (by show _ < _; simp only [mLen]; omega) (by decide) dX11_findDepths_110 ?_
                    refine kv_topl (mdmx (M.2.1 13) (fun k => mD (M.2.1 13) cn (fun k => mi (nm k)) nt (M.2.1 30) t (mi (nm k))) (4 * i) (m)) pk_uLs ?_
                    refine kv_lcmp X dX11_findDepths_111 ?_
                    refine kv_if_le (tgt := 121) X dX11_findDepths_112 (by decide) (fun hc112 => ?_) (fun hc112 => ?_)
                    ·
                      refine kv_aload_n X 4 dX11_findDepths_121 rfl rfl ?_
                      refine km_get X 33 (v := .ref (ad 33)) f_X11_findDepths_83 rfl dX11_findDepths_122 ?_
                      refine kv_iload_n X 2 dX11_findDepths_125 rfl rfl ?_
                      refine km_lald X 33 (j := i) (by decide) (by decide) rfl (by show _ < _; simp only [mLen]; omega) (by decide) dX11_findDepths_126 ?_
                      refine kv_topl (mdmx (M.2.1 13) (fun k => mD (M.2.1 13) cn (fun k => mi (nm k)) nt (M.2.1 30) t (mi (nm k))) (4 * i) (m)) pk_uLs ?_
                      refine km_last X 33 (j := i) (x := (mdmx (M.2.1 13) (fun k => mD (M.2.1 13) cn (fun k => mi (nm k)) nt (M.2.1 30) t (mi (nm k))) (4 * i) (m))) (by decide) (by decide) rfl (by show _ < _; simp only [mLen]; omega) (by decide) dX11_findDepths_127 ?_
                      refine kv_M (M.1, (va_up M.2.1 30 (mD (M.2.1 13) cn (fun k => mi (nm k)) nt (M.2.1 30) t)), (va_up M.2.2 33 (vp_updL (mset Y (fun j => mdmx (M.2.1 13) (fun k => mD (M.2.1 13) cn (fun k => mi (nm k)) nt (M.2.1 30) t (mi (nm k))) (4 * j) (cn j)) i) i (mdmx (M.2.1 13) (fun k => mD (M.2.1 13) cn (fun k => mi (nm k)) nt (M.2.1 30) t (mi (nm k))) (4 * i) (m + 1))))) (by show (M.1, (va_up M.2.1 30 (mD (M.2.1 13) cn (fun k => mi (nm k)) nt (M.2.1 30) t)), (va_up (va_up M.2.2 33 (vp_updL (mset Y (fun j => mdmx (M.2.1 13) (fun k => mD (M.2.1 13) cn (fun k => mi (nm k)) nt (M.2.1 30) t (mi (nm k))) (4 * j) (cn j)) i) i (mdmx (M.2.1 13) (fun k => mD (M.2.1 13) cn (fun k => mi (nm k)) nt (M.2.1 30) t (mi (nm k))) (4 * i) (m)))) 33 (vp_updL (vp_updL (mset Y (fun j => mdmx (M.2.1 13) (fun k => mD (M.2.1 13) cn (fun k => mi (nm k)) nt (M.2.1 30) t (mi (nm k))) (4 * j) (cn j)) i) i (mdmx (M.2.1 13) (fun k => mD (M.2.1 13) cn (fun k => mi (nm k)) nt (M.2.1 30) t (mi (nm k))) (4 * i) (m))) i (mdmx (M.2.1 13) (fun k => mD (M.2.1 13) cn (fun k => mi (nm k)) nt (M.2.1 30) t (mi (nm k))) (4 * i) (m))))) = _; rw [va_up_up, updL_twice]; rw [mdmx]; (first | rw [if_pos hc71] | rw [if_neg hc71]); (first | rw [if_pos (Int64.not_le.mp (fun q => hc112 ((lg_cmp_le _ _).mpr q)))] | rw [if_neg (Int64.not_lt.mpr ((lg_cmp_le _ _).mp hc112))])) ?_
                      refine kv_iinc (j := 1) (v := (nI (4 * i + (m) + 1))) (lv2 := [(3, .int (nI (4 * i + (m) + 1))), (4, .int (1 + ((mD (M.2.1 13) cn (fun k => mi (nm k)) nt (M.2.1 30) t) (mi (nm (4 * i + m)))))), (2, .int (nI i)), (1, .int (nI t)), (0, .ref (ad 0))]) X dX11_findDepths_128 rfl (nI_add (4 * i + (m)) 1) (by rw [hnL]; decide) rfl ?_
                      refine kv_goto (tgt := 51) X dX11_findDepths_131 (by decide) ?_
                      exact kv_lv [0, 2, 3, 4] rfl (ih51 (m + 1) (by omega) ())
                    ·
                      refine kv_iload X 0 dX11_findDepths_115 rfl ?_
                      refine kv_i2l X dX11_findDepths_117 rfl ?_
                      refine kv_goto (tgt := 127) X dX11_findDepths_118 (by decide) ?_
                      refine km_last X 33 (j := i) (x := ((1 + ((mD (M.2.1 13) cn (fun k => mi (nm k)) nt (M.2.1 30) t) (mi (nm (4 * i + m))))).toInt64)) (by decide) (by decide) rfl (by show _ < _; simp only [mLen]; omega) (by decide) dX11_findDepths_127 ?_
                      refine kv_M (M.1, (va_up M.2.1 30 (mD (M.2.1 13) cn (fun k => mi (nm k)) nt (M.2.1 30) t)), (va_up M.2.2 33 (vp_updL (mset Y (fun j => mdmx (M.2.1 13) (fun k => mD (M.2.1 13) cn (fun k => mi (nm k)) nt (M.2.1 30) t (mi (nm k))) (4 * j) (cn j)) i) i (mdmx (M.2.1 13) (fun k => mD (M.2.1 13) cn (fun k => mi (nm k)) nt (M.2.1 30) t (mi (nm k))) (4 * i) (m + 1))))) (by show (M.1, (va_up M.2.1 30 (mD (M.2.1 13) cn (fun k => mi (nm k)) nt (M.2.1 30) t)), (va_up (va_up M.2.2 33 (vp_updL (mset Y (fun j => mdmx (M.2.1 13) (fun k => mD (M.2.1 13) cn (fun k => mi (nm k)) nt (M.2.1 30) t (mi (nm k))) (4 * j) (cn j)) i) i (mdmx (M.2.1 13) (fun k => mD (M.2.1 13) cn (fun k => mi (nm k)) nt (M.2.1 30) t (mi (nm k))) (4 * i) (m)))) 33 (vp_updL (vp_updL (mset Y (fun j => mdmx (M.2.1 13) (fun k => mD (M.2.1 13) cn (fun k => mi (nm k)) nt (M.2.1 30) t (mi (nm k))) (4 * j) (cn j)) i) i (mdmx (M.2.1 13) (fun k => mD (M.2.1 13) cn (fun k => mi (nm k)) nt (M.2.1 30) t (mi (nm k))) (4 * i) (m))) i ((1 + ((mD (M.2.1 13) cn (fun k => mi (nm k)) nt (M.2.1 30) t) (mi (nm (4 * i + m))))).toInt64)))) = _; rw [va_up_up, updL_twice]; rw [mdmx]; (first | rw [if_pos hc71] | rw [if_neg hc71]); (first | rw [if_pos (Int64.not_le.mp (fun q => hc112 ((lg_cmp_le _ _).mpr q)))] | rw [if_neg (Int64.not_lt.mpr ((lg_cmp_le _ _).mp hc112))])) ?_
                      refine kv_iinc (j := 1) (v := (nI (4 * i + (m) + 1))) (lv2 := [(3, .int (nI (4 * i + (m) + 1))), (4, .int (1 + ((mD (M.2.1 13) cn (fun k => mi (nm k)) nt (M.2.1 30) t) (mi (nm (4 * i + m)))))), (2, .int (nI i)), (1, .int (nI t)), (0, .ref (ad 0))]) X dX11_findDepths_128 rfl (nI_add (4 * i + (m)) 1) (by rw [hnL]; decide) rfl ?_
                      refine kv_goto (tgt := 51) X dX11_findDepths_131 (by decide) ?_
                      exact kv_lv [0, 2, 3, 4] rfl (ih51 (m + 1) (by omega) ())
              exact kv_lv [0, 1, 2, 3] rfl (L51 (cn i) 0 (by omega) ())
          exact kv_lv [0, 1, 2] rfl (L32 nt 0 (by omega) ())
      exact kv_lv [0, 1] rfl (L25 3 0 (by omega) (M.2.2 33))
    | succ n ih2 =>
      intro i hin2 _ 
      refine kv_iload_n X 0 dX11_findDepths_2 rfl rfl ?_
      refine kv_aload_n X 1 dX11_findDepths_3 rfl rfl ?_
      refine km_get X 10 (v := .int (M.1 10)) f_X11_findDepths_97 rfl dX11_findDepths_4 ?_
      refine kv_topi (nI nt) hT.1 ?_
      refine kn_icmp_ge (x := i) (y := nt) (tgt := 23) X (by omega) (by omega) dX11_findDepths_7 (by decide) (fun hc7 => absurd hc7 (by omega)) (fun hc7 => ?_)
      refine kv_aload_n X 1 dX11_findDepths_10 rfl rfl ?_
      refine km_get X 30 (v := .ref (ad 30)) f_X11_findDepths_74 rfl dX11_findDepths_11 ?_
      refine kv_iload_n X 0 dX11_findDepths_14 rfl rfl ?_
      refine kv_iconst (v := 1) X dX11_findDepths_15 (by decide) ?_
      refine km_iast X 30 (j := i) (x := 1) (by decide) (by decide) rfl (by show _ < _; simp only [mLen]; omega) (by decide) dX11_findDepths_16 ?_
      refine kv_M (M.1, (va_up M.2.1 30 (mset (M.2.1 30) (fun _ => 1) (i + 1))), M.2.2) (by show (M.1, (va_up (va_up M.2.1 30 (mset (M.2.1 30) (fun _ => 1) (i))) 30 (upd (mset (M.2.1 30) (fun _ => 1) (i)) i 1)), M.2.2) = _; rw [va_up_up, mset_upd rfl]) ?_
      refine kv_iinc (j := 0) (v := (nI (i + 1))) (lv2 := [(1, .int (nI (i + 1))), (0, .ref (ad 0))]) X dX11_findDepths_17 rfl (nI_add i 1) (by rw [hnL]; decide) rfl ?_
      refine kv_goto (tgt := 2) X dX11_findDepths_20 (by decide) ?_
      exact kv_lv [0, 1] rfl (ih2 (i + 1) (by omega) ())
  exact kv_lv [0, 1] rfl (L2 nt 0 (by omega) ())

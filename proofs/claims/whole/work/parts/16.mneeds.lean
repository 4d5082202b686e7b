/-! the reference: needs -/
/-- what n components from place b on add to s0 -/
def mstep (so mu : Nat → Int32) (nx : Nat → Nat) (need : Nat → Int64) (s0 : Int64) (b : Nat) : Nat → Int64
  | 0 => s0
  | n + 1 => mstep so mu nx need s0 b n + (if so (b + n) = 0 then (mu (b + n)).toInt64 * need (nx (b + n)) else 0)
/-- needs behind t rounds -/
def mN (so mu : Nat → Int32) (cn nx : Nat → Nat) (dir : Nat → Int64) : Nat → Nat → Int64
  | 0 => dir
  | t + 1 => fun i => mstep so mu nx (mN so mu cn nx dir t) (dir i) (4 * i) (cn i)
/-- what one unit of an item needs by its own, for items of a trade -/
def mdir (so mu nu pr tr : Nat → Int32) (cn nm mn mr me : Nat → Nat) (r td : Int32) (i : Nat) : Int64 :=
  if td = -1 ∨ tr i = td then mown so mu nu nm mn (fun x => mun pr (mr x) r) (fun x => mun pr (mr (me x)) r) (4 * i) (cn i) else 0

theorem va_up_abc {α : Type} (A : Nat → α) (f g h f1 : α) : va_up (va_up (va_up (va_up A 31 f) 32 g) 33 h) 32 f1 = va_up (va_up (va_up A 31 f) 32 f1) 33 h := by
  funext k
  unfold va_up
  by_cases hb : k = 32 <;> by_cases ha : k = 33 <;> simp [hb, ha]
theorem f_X11_needs_97 : kF wsX11_needs RX11 97 14 10 := ⟨_, RX11, TX11, 34, fun _ h => (List.mem_cons_of_mem _ (List.mem_append_left _ (List.mem_append_right _ h))), (List.mem_cons_of_mem _ (List.mem_append_left _ (List.mem_append_left _ (List.mem_append_left _ (List.mem_of_getElem? (i := 0) rfl))))), rfl, by decide, rfl⟩
theorem f_X11_needs_80 : kF wsX11_needs RX11 80 14 32 := ⟨_, RX11, TX11, 34, fun _ h => (List.mem_cons_of_mem _ (List.mem_append_left _ (List.mem_append_right _ h))), (List.mem_cons_of_mem _ (List.mem_append_left _ (List.mem_append_left _ (List.mem_append_left _ (List.mem_of_getElem? (i := 3) rfl))))), rfl, by decide, rfl⟩
theorem f_X11_needs_83 : kF wsX11_needs RX11 83 14 33 := ⟨_, RX11, TX11, 34, fun _ h => (List.mem_cons_of_mem _ (List.mem_append_left _ (List.mem_append_right _ h))), (List.mem_cons_of_mem _ (List.mem_append_left _ (List.mem_append_left _ (List.mem_append_left _ (List.mem_of_getElem? (i := 4) rfl))))), rfl, by decide, rfl⟩
theorem f_X11_needs_77 : kF wsX11_needs RX11 77 14 31 := ⟨_, RX11, TX11, 34, fun _ h => (List.mem_cons_of_mem _ (List.mem_append_left _ (List.mem_append_right _ h))), (List.mem_cons_of_mem _ (List.mem_append_left _ (List.mem_append_left _ (List.mem_append_left _ (List.mem_of_getElem? (i := 1) rfl))))), rfl, by decide, rfl⟩
theorem f_X11_needs_34 : kF wsX11_needs RX11 34 14 12 := ⟨_, RX11, TX11, 34, fun _ h => (List.mem_cons_of_mem _ (List.mem_append_left _ (List.mem_append_right _ h))), (List.mem_cons_of_mem _ (List.mem_append_left _ (List.mem_append_left _ (List.mem_append_left _ (List.mem_of_getElem? (i := 5) rfl))))), rfl, by decide, rfl⟩
theorem f_X11_needs_37 : kF wsX11_needs RX11 37 14 13 := ⟨_, RX11, TX11, 34, fun _ h => (List.mem_cons_of_mem _ (List.mem_append_left _ (List.mem_append_right _ h))), (List.mem_cons_of_mem _ (List.mem_append_left _ (List.mem_append_left _ (List.mem_append_left _ (List.mem_of_getElem? (i := 6) rfl))))), rfl, by decide, rfl⟩
theorem f_X11_needs_43 : kF wsX11_needs RX11 43 14 15 := ⟨_, RX11, TX11, 34, fun _ h => (List.mem_cons_of_mem _ (List.mem_append_left _ (List.mem_append_right _ h))), (List.mem_cons_of_mem _ (List.mem_append_left _ (List.mem_append_left _ (List.mem_append_left _ (List.mem_of_getElem? (i := 7) rfl))))), rfl, by decide, rfl⟩
theorem f_X11_needs_40 : kF wsX11_needs RX11 40 14 14 := ⟨_, RX11, TX11, 34, fun _ h => (List.mem_cons_of_mem _ (List.mem_append_left _ (List.mem_append_right _ h))), (List.mem_cons_of_mem _ (List.mem_append_left _ (List.mem_append_left _ (List.mem_append_left _ (List.mem_of_getElem? (i := 8) rfl))))), rfl, by decide, rfl⟩
theorem f_X11_needs_31 : kF wsX11_needs RX11 31 14 11 := ⟨_, RX11, TX11, 34, fun _ h => (List.mem_cons_of_mem _ (List.mem_append_left _ (List.mem_append_right _ h))), (List.mem_cons_of_mem _ (List.mem_append_left _ (List.mem_append_left _ (List.mem_append_left _ (List.mem_of_getElem? (i := 2) rfl))))), rfl, by decide, rfl⟩
set_option maxRecDepth 100000 in
set_option maxHeartbeats 4000000 in
theorem c_X11_needs (l : Launch) (dd : kDD) (ad : Nat → Nat) (M : mS) (j : Nat) (r0 : Int32) (td : Int32) (nt : Nat) (hj : j < nt) (hT : M.1 10 = nI nt ∧ nt ≤ 12) (nV : Nat) (hV : M.1 21 = nI nV ∧ nV ≤ 4) (cn : Nat → Nat) (hcn : ∀ i, i < 12 → M.2.1 12 i = nI (cn i) ∧ cn i ≤ 4) (nm : Nat → Nat) (hnm : ∀ k, k < 48 → M.2.1 14 k = nI (nm k) ∧ nm k < 12) (mn : Nat → Nat) (hmn : ∀ i, i < 4 → M.2.1 7 i = nI (mn i) ∧ mn i ≤ 3) (mi : Nat → Nat) (hmi : ∀ j, j < 12 → mnt (M.1 24) (M.2.1 22) j nV 0 = nI (mi j) ∧ mi j < 12) (mr : Nat → Nat) (hmr : ∀ j, j < 12 → mnt (M.1 24) (M.2.1 23) j nV 0 = nI (mr j) ∧ mr j < 12) (me : Nat → Nat) (hme : ∀ q, q < 12 → M.2.1 8 q = nI (me q) ∧ me q < 12) (hs2 : ∀ k, k < 48 → M.2.1 13 k = 2 → nm k < 4) (hval : ∀ i, i < nt → ∀ k, k < cn i → M.2.1 13 (4 * i + k) = 0 → mi (nm (4 * i + k)) < nt) : kCl l yX11_needs wsX11_needs ({ frames := 2, cells := 0, slots := 0, locals := 48 } : Room) 0 0 dd [.ref (ad 0), .int (nI j), .int r0, .int td] (mK, ad, mE dd ad M) (kQl (S := mS) (fun r z => ∃ X Y Z, (M.1, M.2.1, va_up (va_up (va_up M.2.2 31 X) 32 Y) 33 Z) = z ∧ r = mN (M.2.1 13) (M.2.1 15) cn (fun k => mi (nm k)) (mdir (M.2.1 13) (M.2.1 15) (M.2.1 9) (M.2.1 3) (M.2.1 11) cn nm mn mr me r0 td) 2 j) (fun _ => mK) (fun _ => ad) (fun z => mE dd ad z)) := by
  refine kMetl (ws' := _) (cc := cX11_needs) (maxL := 7) (rt := .long) (by decide) rfl (Nat.le_of_ble_eq_true rfl) (fun g X hr hnL hRR hl0 hkn => ?_)
  show kv dd g 0 0 0 [(0, .ref (ad 0)), (1, .int (nI j)), (2, .int r0), (3, .int td)] [] mK ad (mE dd ad M)
  refine kv_iconst (v := 0) X dX11_needs_0 (by decide) ?_
  refine kv_istore (lv2 := [(4, .int 0), (0, .ref (ad 0)), (1, .int (nI j)), (2, .int r0), (3, .int td)]) X dX11_needs_1 (by rw [hnL]; decide) rfl ?_
  refine kv_M (M.1, M.2.1, (va_up (va_up M.2.2 31 (mset (M.2.2 31) (mdir (M.2.1 13) (M.2.1 15) (M.2.1 9) (M.2.1 3) (M.2.1 11) cn nm mn mr me r0 td) (0))) 32 (mset (M.2.2 32) (mdir (M.2.1 13) (M.2.1 15) (M.2.1 9) (M.2.1 3) (M.2.1 11) cn nm mn mr me r0 td) (0)))) (by show M = _; simp only [mset_0, va_up_id]) ?_
  have L3 : ∀ (n i : Nat), i + n = nt → ∀ (_ : Unit) , kv dd g 0 0 3 [(4, .int (nI i)), (0, .ref (ad 0)), (1, .int (nI j)), (2, .int r0), (3, .int td)] [] mK ad (mE dd ad (M.1, M.2.1, (va_up (va_up M.2.2 31 (mset (M.2.2 31) (mdir (M.2.1 13) (M.2.1 15) (M.2.1 9) (M.2.1 3) (M.2.1 11) cn nm mn mr me r0 td) (i))) 32 (mset (M.2.2 32) (mdir (M.2.1 13) (M.2.1 15) (M.2.1 9) (M.2.1 3) (M.2.1 11) cn nm mn mr me r0 td) (i))))) := by
    intro n
    induction n with
    | zero =>
      intro i hin3 _ 
      refine kv_iload X 0 dX11_needs_3 rfl ?_
      refine kv_aload_n X 1 dX11_needs_5 rfl rfl ?_
      refine km_get X 10 (v := .int (M.1 10)) f_X11_needs_97 rfl dX11_needs_6 ?_
      refine kv_topi (nI nt) hT.1 ?_
      refine kn_icmp_ge (x := i) (y := nt) (tgt := 66) X (by omega) (by omega) dX11_needs_9 (by decide) (fun hc9 => ?_) (fun hc9 => absurd hc9 (by omega))
      refine kv_M (M.1, M.2.1, (va_up (va_up (va_up M.2.2 31 (mset (M.2.2 31) (mdir (M.2.1 13) (M.2.1 15) (M.2.1 9) (M.2.1 3) (M.2.1 11) cn nm mn mr me r0 td) nt)) 32 (mset (M.2.2 32) (mN (M.2.1 13) (M.2.1 15) cn (fun k => mi (nm k)) (mdir (M.2.1 13) (M.2.1 15) (M.2.1 9) (M.2.1 3) (M.2.1 11) cn nm mn mr me r0 td) 0) nt)) 33 (M.2.2 33))) (by show (M.1, M.2.1, (va_up (va_up M.2.2 31 (mset (M.2.2 31) (mdir (M.2.1 13) (M.2.1 15) (M.2.1 9) (M.2.1 3) (M.2.1 11) cn nm mn mr me r0 td) (i))) 32 (mset (M.2.2 32) (mdir (M.2.1 13) (M.2.1 15) (M.2.1 9) (M.2.1 3) (M.2.1 11) cn nm mn mr me r0 td) (i)))) = _; rw [show i = nt by omega]; exact congrArg (fun b => (M.1, M.2.1, b)) (va_up_id _ 33).symm) ?_
      refine kv_iconst (v := 1) X dX11_needs_66 (by decide) ?_
      refine kv_istore (lv2 := [(4, .int 1), (0, .ref (ad 0)), (1, .int (nI j)), (2, .int r0), (3, .int td)]) X dX11_needs_67 (by rw [hnL]; decide) rfl ?_
      have L69 : ∀ (n s : Nat), s + n = 2 → ∀ (Y : Nat → Int64) , kv dd g 0 0 69 [(4, .int (nI ((s) + 1))), (0, .ref (ad 0)), (1, .int (nI j)), (2, .int r0), (3, .int td)] [] mK ad (mE dd ad (M.1, M.2.1, (va_up (va_up (va_up M.2.2 31 (mset (M.2.2 31) (mdir (M.2.1 13) (M.2.1 15) (M.2.1 9) (M.2.1 3) (M.2.1 11) cn nm mn mr me r0 td) nt)) 32 (mset (M.2.2 32) (mN (M.2.1 13) (M.2.1 15) cn (fun k => mi (nm k)) (mdir (M.2.1 13) (M.2.1 15) (M.2.1 9) (M.2.1 3) (M.2.1 11) cn nm mn mr me r0 td) s) nt)) 33 Y))) := by
        intro n
        induction n with
        | zero =>
          intro s hin69 Y 
          refine kv_iload X 0 dX11_needs_69 rfl ?_
          refine kv_iconst (v := 3) X dX11_needs_71 (by decide) ?_
          refine kn_icmp_ge (x := (s) + 1) (y := 3) (tgt := 223) X (by omega) (by omega) dX11_needs_72 (by decide) (fun hc72 => ?_) (fun hc72 => absurd hc72 (by omega))
          refine kv_aload_n X 1 dX11_needs_223 rfl rfl ?_
          refine km_get X 32 (v := .ref (ad 32)) f_X11_needs_80 rfl dX11_needs_224 ?_
          refine kv_iload_n X 2 dX11_needs_227 rfl rfl ?_
          refine km_lald X 32 (j := j) (by decide) (by decide) rfl (by show _ < _; simp only [mLen]; omega) (by decide) dX11_needs_228 ?_
          refine kv_topl ((mset (M.2.2 32) (mN (M.2.1 13) (M.2.1 15) cn (fun k => mi (nm k)) (mdir (M.2.1 13) (M.2.1 15) (M.2.1 9) (M.2.1 3) (M.2.1 11) cn nm mn mr me r0 td) s) nt) j) rfl ?_
          refine kv_topl (mN (M.2.1 13) (M.2.1 15) cn (fun k => mi (nm k)) (mdir (M.2.1 13) (M.2.1 15) (M.2.1 9) (M.2.1 3) (M.2.1 11) cn nm mn mr me r0 td) 2 j) (by rw [show s = 2 by omega]; exact mset_in hj) ?_
          exact kv_lreturn X hr (by decide) (by decide) ⟨(M.1, M.2.1, (va_up (va_up (va_up M.2.2 31 (mset (M.2.2 31) (mdir (M.2.1 13) (M.2.1 15) (M.2.1 9) (M.2.1 3) (M.2.1 11) cn nm mn mr me r0 td) nt)) 32 (mset (M.2.2 32) (mN (M.2.1 13) (M.2.1 15) cn (fun k => mi (nm k)) (mdir (M.2.1 13) (M.2.1 15) (M.2.1 9) (M.2.1 3) (M.2.1 11) cn nm mn mr me r0 td) s) nt)) 33 Y)), ⟨_, _, _, rfl, rfl⟩, rfl⟩ dX11_needs_229
        | succ n ih69 =>
          intro s hin69 Y 
          refine kv_iload X 0 dX11_needs_69 rfl ?_
          refine kv_iconst (v := 3) X dX11_needs_71 (by decide) ?_
          refine kn_icmp_ge (x := (s) + 1) (y := 3) (tgt := 223) X (by omega) (by omega) dX11_needs_72 (by decide) (fun hc72 => absurd hc72 (by omega)) (fun hc72 => ?_)
          refine kv_iconst (v := 0) X dX11_needs_75 (by decide) ?_
          refine kv_istore (lv2 := [(5, .int 0), (4, .int (nI ((s) + 1))), (0, .ref (ad 0)), (1, .int (nI j)), (2, .int r0), (3, .int td)]) X dX11_needs_76 (by rw [hnL]; decide) rfl ?_
          refine kv_M (M.1, M.2.1, (va_up (va_up (va_up M.2.2 31 (mset (M.2.2 31) (mdir (M.2.1 13) (M.2.1 15) (M.2.1 9) (M.2.1 3) (M.2.1 11) cn nm mn mr me r0 td) nt)) 32 (mset (M.2.2 32) (mN (M.2.1 13) (M.2.1 15) cn (fun k => mi (nm k)) (mdir (M.2.1 13) (M.2.1 15) (M.2.1 9) (M.2.1 3) (M.2.1 11) cn nm mn mr me r0 td) s) nt)) 33 (mset Y (mN (M.2.1 13) (M.2.1 15) cn (fun k => mi (nm k)) (mdir (M.2.1 13) (M.2.1 15) (M.2.1 9) (M.2.1 3) (M.2.1 11) cn nm mn mr me r0 td) (s + 1)) (0)))) (by show (M.1, M.2.1, (va_up (va_up (va_up M.2.2 31 (mset (M.2.2 31) (mdir (M.2.1 13) (M.2.1 15) (M.2.1 9) (M.2.1 3) (M.2.1 11) cn nm mn mr me r0 td) nt)) 32 (mset (M.2.2 32) (mN (M.2.1 13) (M.2.1 15) cn (fun k => mi (nm k)) (mdir (M.2.1 13) (M.2.1 15) (M.2.1 9) (M.2.1 3) (M.2.1 11) cn nm mn mr me r0 td) s) nt)) 33 Y)) = _; simp only [mset_0]) ?_
          have L78 : ∀ (n i : Nat), i + n = nt → ∀ (_ : Unit) , kv dd g 0 0 78 [(5, .int (nI i)), (4, .int (nI (s + 1))), (0, .ref (ad 0)), (1, .int (nI j)), (2, .int r0), (3, .int td)] [] mK ad (mE dd ad (M.1, M.2.1, (va_up (va_up (va_up M.2.2 31 (mset (M.2.2 31) (mdir (M.2.1 13) (M.2.1 15) (M.2.1 9) (M.2.1 3) (M.2.1 11) cn nm mn mr me r0 td) nt)) 32 (mset (M.2.2 32) (mN (M.2.1 13) (M.2.1 15) cn (fun k => mi (nm k)) (mdir (M.2.1 13) (M.2.1 15) (M.2.1 9) (M.2.1 3) (M.2.1 11) cn nm mn mr me r0 td) s) nt)) 33 (mset Y (mN (M.2.1 13) (M.2.1 15) cn (fun k => mi (nm k)) (mdir (M.2.1 13) (M.2.1 15) (M.2.1 9) (M.2.1 3) (M.2.1 11) cn nm mn mr me r0 td) (s + 1)) (i))))) := by
            intro n
            induction n with
            | zero =>
              intro i hin78 _ 
              refine kv_iload X 0 dX11_needs_78 rfl ?_
              refine kv_aload_n X 2 dX11_needs_80 rfl rfl ?_
              refine km_get X 10 (v := .int (M.1 10)) f_X11_needs_97 rfl dX11_needs_81 ?_
              refine kv_topi (nI nt) hT.1 ?_
              refine kn_icmp_ge (x := i) (y := nt) (tgt := 185) X (by omega) (by omega) dX11_needs_84 (by decide) (fun hc84 => ?_) (fun hc84 => absurd hc84 (by omega))
              refine kv_iconst (v := 0) X dX11_needs_185 (by decide) ?_
              refine kv_istore (lv2 := [(5, .int 0), (4, .int (nI (s + 1))), (0, .ref (ad 0)), (1, .int (nI j)), (2, .int r0), (3, .int td)]) X dX11_needs_186 (by rw [hnL]; decide) rfl ?_
              refine kv_M (M.1, M.2.1, (va_up (va_up (va_up M.2.2 31 (mset (M.2.2 31) (mdir (M.2.1 13) (M.2.1 15) (M.2.1 9) (M.2.1 3) (M.2.1 11) cn nm mn mr me r0 td) nt)) 32 (mset (mset (M.2.2 32) (mN (M.2.1 13) (M.2.1 15) cn (fun k => mi (nm k)) (mdir (M.2.1 13) (M.2.1 15) (M.2.1 9) (M.2.1 3) (M.2.1 11) cn nm mn mr me r0 td) s) nt) (mN (M.2.1 13) (M.2.1 15) cn (fun k => mi (nm k)) (mdir (M.2.1 13) (M.2.1 15) (M.2.1 9) (M.2.1 3) (M.2.1 11) cn nm mn mr me r0 td) (s + 1)) (0))) 33 (mset Y (mN (M.2.1 13) (M.2.1 15) cn (fun k => mi (nm k)) (mdir (M.2.1 13) (M.2.1 15) (M.2.1 9) (M.2.1 3) (M.2.1 11) cn nm mn mr me r0 td) (s + 1)) nt))) (by show (M.1, M.2.1, (va_up (va_up (va_up M.2.2 31 (mset (M.2.2 31) (mdir (M.2.1 13) (M.2.1 15) (M.2.1 9) (M.2.1 3) (M.2.1 11) cn nm mn mr me r0 td) nt)) 32 (mset (M.2.2 32) (mN (M.2.1 13) (M.2.1 15) cn (fun k => mi (nm k)) (mdir (M.2.1 13) (M.2.1 15) (M.2.1 9) (M.2.1 3) (M.2.1 11) cn nm mn mr me r0 td) s) nt)) 33 (mset Y (mN (M.2.1 13) (M.2.1 15) cn (fun k => mi (nm k)) (mdir (M.2.1 13) (M.2.1 15) (M.2.1 9) (M.2.1 3) (M.2.1 11) cn nm mn mr me r0 td) (s + 1)) (i)))) = _; rw [show i = nt by omega]; simp only [mset_0]) ?_
              have L188 : ∀ (n3 i : Nat), i + n3 = nt → ∀ (_ : Unit) , kv dd g 0 0 188 [(5, .int (nI i)), (4, .int (nI (s + 1))), (0, .ref (ad 0)), (1, .int (nI j)), (2, .int r0), (3, .int td)] [] mK ad (mE dd ad (M.1, M.2.1, (va_up (va_up (va_up M.2.2 31 (mset (M.2.2 31) (mdir (M.2.1 13) (M.2.1 15) (M.2.1 9) (M.2.1 3) (M.2.1 11) cn nm mn mr me r0 td) nt)) 32 (mset (mset (M.2.2 32) (mN (M.2.1 13) (M.2.1 15) cn (fun k => mi (nm k)) (mdir (M.2.1 13) (M.2.1 15) (M.2.1 9) (M.2.1 3) (M.2.1 11) cn nm mn mr me r0 td) s) nt) (mN (M.2.1 13) (M.2.1 15) cn (fun k => mi (nm k)) (mdir (M.2.1 13) (M.2.1 15) (M.2.1 9) (M.2.1 3) (M.2.1 11) cn nm mn mr me r0 td) (s + 1)) (i))) 33 (mset Y (mN (M.2.1 13) (M.2.1 15) cn (fun k => mi (nm k)) (mdir (M.2.1 13) (M.2.1 15) (M.2.1 9) (M.2.1 3) (M.2.1 11) cn nm mn mr me r0 td) (s + 1)) nt)))) := by
                intro n3
                induction n3 with
                | zero =>
                  intro i hin188 _ 
                  refine kv_iload X 0 dX11_needs_188 rfl ?_
                  refine kv_aload_n X 2 dX11_needs_190 rfl rfl ?_
                  refine km_get X 10 (v := .int (M.1 10)) f_X11_needs_97 rfl dX11_needs_191 ?_
                  refine kv_topi (nI nt) hT.1 ?_
                  refine kn_icmp_ge (x := i) (y := nt) (tgt := 217) X (by omega) (by omega) dX11_needs_194 (by decide) (fun hc194 => ?_) (fun hc194 => absurd hc194 (by omega))
                  refine kv_M (M.1, M.2.1, (va_up (va_up (va_up M.2.2 31 (mset (M.2.2 31) (mdir (M.2.1 13) (M.2.1 15) (M.2.1 9) (M.2.1 3) (M.2.1 11) cn nm mn mr me r0 td) nt)) 32 (mset (M.2.2 32) (mN (M.2.1 13) (M.2.1 15) cn (fun k => mi (nm k)) (mdir (M.2.1 13) (M.2.1 15) (M.2.1 9) (M.2.1 3) (M.2.1 11) cn nm mn mr me r0 td) (s + 1)) nt)) 33 (mset Y (mN (M.2.1 13) (M.2.1 15) cn (fun k => mi (nm k)) (mdir (M.2.1 13) (M.2.1 15) (M.2.1 9) (M.2.1 3) (M.2.1 11) cn nm mn mr me r0 td) (s + 1)) nt))) (by show (M.1, M.2.1, (va_up (va_up (va_up M.2.2 31 (mset (M.2.2 31) (mdir (M.2.1 13) (M.2.1 15) (M.2.1 9) (M.2.1 3) (M.2.1 11) cn nm mn mr me r0 td) nt)) 32 (mset (mset (M.2.2 32) (mN (M.2.1 13) (M.2.1 15) cn (fun k => mi (nm k)) (mdir (M.2.1 13) (M.2.1 15) (M.2.1 9) (M.2.1 3) (M.2.1 11) cn nm mn mr me r0 td) s) nt) (mN (M.2.1 13) (M.2.1 15) cn (fun k => mi (nm k)) (mdir (M.2.1 13) (M.2.1 15) (M.2.1 9) (M.2.1 3) (M.2.1 11) cn nm mn mr me r0 td) (s + 1)) (i))) 33 (mset Y (mN (M.2.1 13) (M.2.1 15) cn (fun k => mi (nm k)) (mdir (M.2.1 13) (M.2.1 15) (M.2.1 9) (M.2.1 3) (M.2.1 11) cn nm mn mr me r0 td) (s + 1)) nt))) = _; rw [show i = nt by omega, mset_mset]) ?_
                  refine kv_iinc (j := 1) (v := (nI (s + 1 + 1))) (lv2 := [(4, .int (nI (s + 1 + 1))), (5, .int (nI i)), (0, .ref (ad 0)), (1, .int (nI j)), (2, .int r0), (3, .int td)]) X dX11_needs_217 rfl (nI_add (s + 1) 1) (by rw [hnL]; decide) rfl ?_
                  refine kv_goto (tgt := 69) X dX11_needs_220 (by decide) ?_
                  exact kv_lv [0, 2, 3, 4, 5] rfl (ih69 (s + 1) (by omega) (mset Y (mN (M.2.1 13) (M.2.1 15) cn (fun k => mi (nm k)) (mdir (M.2.1 13) (M.2.1 15) (M.2.1 9) (M.2.1 3) (M.2.1 11) cn nm mn mr me r0 td) (s + 1)) nt))
                | succ n3 ih188 =>
                  intro i hin188 _ 
                  refine kv_iload X 0 dX11_needs_188 rfl ?_
                  refine kv_aload_n X 2 dX11_needs_190 rfl rfl ?_
                  refine km_get X 10 (v := .int (M.1 10)) f_X11_needs_97 rfl dX11_needs_191 ?_
                  refine kv_topi (nI nt) hT.1 ?_
                  refine kn_icmp_ge (x := i) (y := nt) (tgt := 217) X (by omega) (by omega) dX11_needs_194 (by decide) (fun hc194 => absurd hc194 (by omega)) (fun hc194 => ?_)
                  refine kv_aload_n X 2 dX11_needs_197 rfl rfl ?_
                  refine km_get X 32 (v := .ref (ad 32)) f_X11_needs_80 rfl dX11_needs_198 ?_
                  refine kv_iload X 0 dX11_needs_201 rfl ?_
                  refine kv_aload_n X 2 dX11_needs_203 rfl rfl ?_
                  refine km_get X 33 (v := .ref (ad 33)) f_X11_needs_83 rfl dX11_needs_204 ?_
                  refine kv_iload X 0 dX11_needs_207 rfl ?_
                  refine km_lald X 33 (j := i) (by decide) (by decide) rfl (by show _ < _; simp only [mLen]; omega) (by decide) dX11_needs_209 ?_
                  refine kv_topl ((mset Y (mN (M.2.1 13) (M.2.1 15) cn (fun k => mi (nm k)) (mdir (M.2.1 13) (M.2.1 15) (M.2.1 9) (M.2.1 3) (M.2.1 11) cn nm mn mr me r0 td) (s + 1)) nt) i) rfl ?_
                  refine kv_topl (mN (M.2.1 13) (M.2.1 15) cn (fun k => mi (nm k)) (mdir (M.2.1 13) (M.2.1 15) (M.2.1 9) (M.2.1 3) (M.2.1 11) cn nm mn mr me r0 td) (s + 1) i) (mset_in (by omega)) ?_
                  refine km_last X 32 (j := i) (x := (mN (M.2.1 13) (M.2.1 15) cn (fun k => mi (nm k)) (mdir (M.2.1 13) (M.2.1 15) (M.2.1 9) (M.2.1 3) (M.2.1 11) cn nm mn mr me r0 td) (s + 1) i)) (by decide) (by decide) rfl (by show _ < _; simp only [mLen]; omega) (by decide) dX11_needs_210 ?_
                  refine kv_M (M.1, M.2.1, (va_up (va_up (va_up M.2.2 31 (mset (M.2.2 31) (mdir (M.2.1 13) (M.2.1 15) (M.2.1 9) (M.2.1 3) (M.2.1 11) cn nm mn mr me r0 td) nt)) 32 (mset (mset (M.2.2 32) (mN (M.2.1 13) (M.2.1 15) cn (fun k => mi (nm k)) (mdir (M.2.1 13) (M.2.1 15) (M.2.1 9) (M.2.1 3) (M.2.1 11) cn nm mn mr me r0 td) s) nt) (mN (M.2.1 13) (M.2.1 15) cn (fun k => mi (nm k)) (mdir (M.2.1 13) (M.2.1 15) (M.2.1 9) (M.2.1 3) (M.2.1 11) cn nm mn mr me r0 td) (s + 1)) (i + 1))) 33 (mset Y (mN (M.2.1 13) (M.2.1 15) cn (fun k => mi (nm k)) (mdir (M.2.1 13) (M.2.1 15) (M.2.1 9) (M.2.1 3) (M.2.1 11) cn nm mn mr me r0 td) (s + 1)) nt))) (by show (M.1, M.2.1, (va_up (va_up (va_up (va_up M.2.2 31 (mset (M.2.2 31) (mdir (M.2.1 13) (M.2.1 15) (M.2.1 9) (M.2.1 3) (M.2.1 11) cn nm mn mr me r0 td) nt)) 32 (mset (mset (M.2.2 32) (mN (M.2.1 13) (M.2.1 15) cn (fun k => mi (nm k)) (mdir (M.2.1 13) (M.2.1 15) (M.2.1 9) (M.2.1 3) (M.2.1 11) cn nm mn mr me r0 td) s) nt) (mN (M.2.1 13) (M.2.1 15) cn (fun k => mi (nm k)) (mdir (M.2.1 13) (M.2.1 15) (M.2.1 9) (M.2.1 3) (M.2.1 11) cn nm mn mr me r0 td) (s + 1)) (i))) 33 (mset Y (mN (M.2.1 13) (M.2.1 15) cn (fun k => mi (nm k)) (mdir (M.2.1 13) (M.2.1 15) (M.2.1 9) (M.2.1 3) (M.2.1 11) cn nm mn mr me r0 td) (s + 1)) nt)) 32 (vp_updL (mset (mset (M.2.2 32) (mN (M.2.1 13) (M.2.1 15) cn (fun k => mi (nm k)) (mdir (M.2.1 13) (M.2.1 15) (M.2.1 9) (M.2.1 3) (M.2.1 11) cn nm mn mr me r0 td) s) nt) (mN (M.2.1 13) (M.2.1 15) cn (fun k => mi (nm k)) (mdir (M.2.1 13) (M.2.1 15) (M.2.1 9) (M.2.1 3) (M.2.1 11) cn nm mn mr me r0 td) (s + 1)) (i)) i (mN (M.2.1 13) (M.2.1 15) cn (fun k => mi (nm k)) (mdir (M.2.1 13) (M.2.1 15) (M.2.1 9) (M.2.1 3) (M.2.1 11) cn nm mn mr me r0 td) (s + 1) i)))) = _; rw [va_up_abc, mset_updL rfl]) ?_
                  refine kv_iinc (j := 0) (v := (nI (i + 1))) (lv2 := [(5, .int (nI (i + 1))), (4, .int (nI (s + 1))), (0, .ref (ad 0)), (1, .int (nI j)), (2, .int r0), (3, .int td)]) X dX11_needs_211 rfl (nI_add i 1) (by rw [hnL]; decide) rfl ?_
                  refine kv_goto (tgt := 188) X dX11_needs_214 (by decide) ?_
                  exact kv_lv [0, 1, 2, 3, 4, 5] rfl (ih188 (i + 1) (by omega) ())
              exact kv_lv [0, 1, 2, 3, 4, 5] rfl (L188 nt 0 (by omega) ())
            | succ n ih78 =>
              intro i hin78 _ 
              refine kv_iload X 0 dX11_needs_78 rfl ?_
              refine kv_aload_n X 2 dX11_needs_80 rfl rfl ?_
              refine km_get X 10 (v := .int (M.1 10)) f_X11_needs_97 rfl dX11_needs_81 ?_
              refine kv_topi (nI nt) hT.1 ?_
              refine kn_icmp_ge (x := i) (y := nt) (tgt := 185) X (by omega) (by omega) dX11_needs_84 (by decide) (fun hc84 => absurd hc84 (by omega)) (fun hc84 => ?_)
              refine kv_aload_n X 2 dX11_needs_87 rfl rfl ?_
              refine km_get X 33 (v := .ref (ad 33)) f_X11_needs_83 rfl dX11_needs_88 ?_
              refine kv_iload X 0 dX11_needs_91 rfl ?_
              refine kv_aload_n X 2 dX11_needs_93 rfl rfl ?_
              refine km_get X 31 (v := .ref (ad 31)) f_X11_needs_77 rfl dX11_needs_94 ?_
              refine kv_iload X 0 dX11_needs_97 rfl ?_
              refine km_lald X 31 (j := i) (by decide) (by decide) rfl (by show _ < _; simp only [mLen]; omega) (by decide) dX11_needs_99 ?_
              refine kv_topl ((mset (M.2.2 31) (mdir (M.2.1 13) (M.2.1 15) (M.2.1 9) (M.2.1 3) (M.2.1 11) cn nm mn mr me r0 td) nt) i) rfl ?_
              refine kv_topl (mdir (M.2.1 13) (M.2.1 15) (M.2.1 9) (M.2.1 3) (M.2.1 11) cn nm mn mr me r0 td i) (mset_in hc84) ?_
              refine km_last X 33 (j := i) (x := (mdir (M.2.1 13) (M.2.1 15) (M.2.1 9) (M.2.1 3) (M.2.1 11) cn nm mn mr me r0 td i)) (by decide) (by decide) rfl (by show _ < _; simp only [mLen]; omega) (by decide) dX11_needs_100 ?_
              refine kv_iconst (v := 4) X dX11_needs_101 (by decide) ?_
              refine kv_iload X 0 dX11_needs_102 rfl ?_
              refine kv_imul X dX11_needs_104 ?_
              refine kv_topi (nI (4 * i)) (pk_mul 4 i) ?_
              refine kv_istore (lv2 := [(6, .int (nI (4 * i))), (5, .int (nI i)), (4, .int (nI (s + 1))), (0, .ref (ad 0)), (1, .int (nI j)), (2, .int r0), (3, .int td)]) X dX11_needs_105 (by rw [hnL]; decide) rfl ?_
              refine kv_M (M.1, M.2.1, (va_up (va_up (va_up M.2.2 31 (mset (M.2.2 31) (mdir (M.2.1 13) (M.2.1 15) (M.2.1 9) (M.2.1 3) (M.2.1 11) cn nm mn mr me r0 td) nt)) 32 (mset (M.2.2 32) (mN (M.2.1 13) (M.2.1 15) cn (fun k => mi (nm k)) (mdir (M.2.1 13) (M.2.1 15) (M.2.1 9) (M.2.1 3) (M.2.1 11) cn nm mn mr me r0 td) s) nt)) 33 (vp_updL (mset Y (mN (M.2.1 13) (M.2.1 15) cn (fun k => mi (nm k)) (mdir (M.2.1 13) (M.2.1 15) (M.2.1 9) (M.2.1 3) (M.2.1 11) cn nm mn mr me r0 td) (s + 1)) i) i (mstep (M.2.1 13) (M.2.1 15) (fun k => mi (nm k)) (mN (M.2.1 13) (M.2.1 15) cn (fun k => mi (nm k)) (mdir (M.2.1 13) (M.2.1 15) (M.2.1 9) (M.2.1 3) (M.2.1 11) cn nm mn mr me r0 td) s) (mdir (M.2.1 13) (M.2.1 15) (M.2.1 9) (M.2.1 3) (M.2.1 11) cn nm mn mr me r0 td i) (4 * i) 0)))) (by show (M.1, M.2.1, (va_up (va_up (va_up (va_up M.2.2 31 (mset (M.2.2 31) (mdir (M.2.1 13) (M.2.1 15) (M.2.1 9) (M.2.1 3) (M.2.1 11) cn nm mn mr me r0 td) nt)) 32 (mset (M.2.2 32) (mN (M.2.1 13) (M.2.1 15) cn (fun k => mi (nm k)) (mdir (M.2.1 13) (M.2.1 15) (M.2.1 9) (M.2.1 3) (M.2.1 11) cn nm mn mr me r0 td) s) nt)) 33 (mset Y (mN (M.2.1 13) (M.2.1 15) cn (fun k => mi (nm k)) (mdir (M.2.1 13) (M.2.1 15) (M.2.1 9) (M.2.1 3) (M.2.1 11) cn nm mn mr me r0 td) (s + 1)) (i))) 33 (vp_updL (mset Y (mN (M.2.1 13) (M.2.1 15) cn (fun k => mi (nm k)) (mdir (M.2.1 13) (M.2.1 15) (M.2.1 9) (M.2.1 3) (M.2.1 11) cn nm mn mr me r0 td) (s + 1)) (i)) i (mdir (M.2.1 13) (M.2.1 15) (M.2.1 9) (M.2.1 3) (M.2.1 11) cn nm mn mr me r0 td i)))) = _; simp only [mstep, va_up_up]) ?_
              have L107 : ∀ (n2 m : Nat), m + n2 = cn i → ∀ (_ : Unit) , kv dd g 0 0 107 [(6, .int (nI (4 * i + (m)))), (5, .int (nI i)), (4, .int (nI (s + 1))), (0, .ref (ad 0)), (1, .int (nI j)), (2, .int r0), (3, .int td)] [] mK ad (mE dd ad (M.1, M.2.1, (va_up (va_up (va_up M.2.2 31 (mset (M.2.2 31) (mdir (M.2.1 13) (M.2.1 15) (M.2.1 9) (M.2.1 3) (M.2.1 11) cn nm mn mr me r0 td) nt)) 32 (mset (M.2.2 32) (mN (M.2.1 13) (M.2.1 15) cn (fun k => mi (nm k)) (mdir (M.2.1 13) (M.2.1 15) (M.2.1 9) (M.2.1 3) (M.2.1 11) cn nm mn mr me r0 td) s) nt)) 33 (vp_updL (mset Y (mN (M.2.1 13) (M.2.1 15) cn (fun k => mi (nm k)) (mdir (M.2.1 13) (M.2.1 15) (M.2.1 9) (M.2.1 3) (M.2.1 11) cn nm mn mr me r0 td) (s + 1)) i) i (mstep (M.2.1 13) (M.2.1 15) (fun k => mi (nm k)) (mN (M.2.1 13) (M.2.1 15) cn (fun k => mi (nm k)) (mdir (M.2.1 13) (M.2.1 15) (M.2.1 9) (M.2.1 3) (M.2.1 11) cn nm mn mr me r0 td) s) (mdir (M.2.1 13) (M.2.1 15) (M.2.1 9) (M.2.1 3) (M.2.1 11) cn nm mn mr me r0 td i) (4 * i) m))))) := by
                intro n2
                induction n2 with
                | zero =>
                  intro m hin107 _ 
                  refine kv_iload X 0 dX11_needs_107 rfl ?_
                  refine kv_iconst (v := 4) X dX11_needs_109 (by decide) ?_
                  refine kv_iload X 1 dX11_needs_110 rfl ?_
                  refine kv_imul X dX11_needs_112 ?_
                  refine kv_topi (nI (4 * i)) (pk_mul 4 i) ?_
                  refine kv_aload_n X 3 dX11_needs_113 rfl rfl ?_
                  refine km_get X 12 (v := .ref (ad 12)) f_X11_needs_34 rfl dX11_needs_114 ?_
                  refine kv_iload X 1 dX11_needs_117 rfl ?_
                  refine km_iald X 12 (j := i) (by decide) (by decide) rfl (by show _ < _; simp only [mLen]; omega) (by decide) dX11_needs_119 ?_
                  have e119 := (hcn i (by omega)).2
                  refine kv_topi (nI (cn i)) (hcn i (by omega)).1 ?_
                  refine kv_iadd X dX11_needs_120 ?_
                  refine kv_topi (nI ((4 * i) + (cn i))) (nI_add (4 * i) (cn i)) ?_
                  refine kn_icmp_ge (x := 4 * i + (m)) (y := (4 * i) + (cn i)) (tgt := 179) X (by omega) (by omega) dX11_needs_121 (by decide) (fun hc121 => ?_) (fun hc121 => absurd hc121 (by omega))
                  refine kv_M (M.1, M.2.1, (va_up (va_up (va_up M.2.2 31 (mset (M.2.2 31) (mdir (M.2.1 13) (M.2.1 15) (M.2.1 9) (M.2.1 3) (M.2.1 11) cn nm mn mr me r0 td) nt)) 32 (mset (M.2.2 32) (mN (M.2.1 13) (M.2.1 15) cn (fun k => mi (nm k)) (mdir (M.2.1 13) (M.2.1 15) (M.2.1 9) (M.2.1 3) (M.2.1 11) cn nm mn mr me r0 td) s) nt)) 33 (mset Y (mN (M.2.1 13) (M.2.1 15) cn (fun k => mi (nm k)) (mdir (M.2.1 13) (M.2.1 15) (M.2.1 9) (M.2.1 3) (M.2.1 11) cn nm mn mr me r0 td) (s + 1)) (i + 1)))) (by show (M.1, M.2.1, (va_up (va_up (va_up M.2.2 31 (mset (M.2.2 31) (mdir (M.2.1 13) (M.2.1 15) (M.2.1 9) (M.2.1 3) (M.2.1 11) cn nm mn mr me r0 td) nt)) 32 (mset (M.2.2 32) (mN (M.2.1 13) (M.2.1 15) cn (fun k => mi (nm k)) (mdir (M.2.1 13) (M.2.1 15) (M.2.1 9) (M.2.1 3) (M.2.1 11) cn nm mn mr me r0 td) s) nt)) 33 (vp_updL (mset Y (mN (M.2.1 13) (M.2.1 15) cn (fun k => mi (nm k)) (mdir (M.2.1 13) (M.2.1 15) (M.2.1 9) (M.2.1 3) (M.2.1 11) cn nm mn mr me r0 td) (s + 1)) i) i (mstep (M.2.1 13) (M.2.1 15) (fun k => mi (nm k)) (mN (M.2.1 13) (M.2.1 15) cn (fun k => mi (nm k)) (mdir (M.2.1 13) (M.2.1 15) (M.2.1 9) (M.2.1 3) (M.2.1 11) cn nm mn mr me r0 td) s) (mdir (M.2.1 13) (M.2.1 15) (M.2.1 9) (M.2.1 3) (M.2.1 11) cn nm mn mr me r0 td i) (4 * i) m)))) = _; rw [show m = cn i by omega, mset_updL (show mstep (M.2.1 13) (M.2.1 15) (fun k => mi (nm k)) (mN (M.2.1 13) (M.2.1 15) cn (fun k => mi (nm k)) (mdir (M.2.1 13) (M.2.1 15) (M.2.1 9) (M.2.1 3) (M.2.1 11) cn nm mn mr me r0 td) s) (mdir (M.2.1 13) (M.2.1 15) (M.2.1 9) (M.2.1 3) (M.2.1 11) cn nm mn mr me r0 td i) (4 * i) (cn i) = mN (M.2.1 13) (M.2.1 15) cn (fun k => mi (nm k)) (mdir (M.2.1 13) (M.2.1 15) (M.2.1 9) (M.2.1 3) (M.2.1 11) cn nm mn mr me r0 td) (s + 1) i from rfl)]) ?_
                  refine kv_iinc (j := 1) (v := (nI (i + 1))) (lv2 := [(5, .int (nI (i + 1))), (6, .int (nI (4 * i + (m)))), (4, .int (nI (s + 1))), (0, .ref (ad 0)), (1, .int (nI j)), (2, .int r0), (3, .int td)]) X dX11_needs_179 rfl (nI_add i 1) (by rw [hnL]; decide) rfl ?_
                  refine kv_goto (tgt := 78) X dX11_needs_182 (by decide) ?_
                  exact kv_lv [0, 2, 3, 4, 5, 6] rfl (ih78 (i + 1) (by omega) ())
                | succ n2 ih107 =>
                  intro m hin107 _ 
                  refine kv_iload X 0 dX11_needs_107 rfl ?_
                  refine kv_iconst (v := 4) X dX11_needs_109 (by decide) ?_
                  refine kv_iload X 1 dX11_needs_110 rfl ?_
                  refine kv_imul X dX11_needs_112 ?_
                  refine kv_topi (nI (4 * i)) (pk_mul 4 i) ?_
                  refine kv_aload_n X 3 dX11_needs_113 rfl rfl ?_
                  refine km_get X 12 (v := .ref (ad 12)) f_X11_needs_34 rfl dX11_needs_114 ?_
                  refine kv_iload X 1 dX11_needs_117 rfl ?_
                  refine km_iald X 12 (j := i) (by decide) (by decide) rfl (by show _ < _; simp only [mLen]; omega) (by decide) dX11_needs_119 ?_
                  have e119 := (hcn i (by omega)).2
                  refine kv_topi (nI (cn i)) (hcn i (by omega)).1 ?_
                  refine kv_iadd X dX11_needs_120 ?_
                  refine kv_topi (nI ((4 * i) + (cn i))) (nI_add (4 * i) (cn i)) ?_
                  refine kn_icmp_ge (x := 4 * i + (m)) (y := (4 * i) + (cn i)) (tgt := 179) X (by omega) (by omega) dX11_needs_121 (by decide) (fun hc121 => absurd hc121 (by omega)) (fun hc121 => ?_)
                  refine kv_aload_n X 3 dX11_needs_124 rfl rfl ?_
                  refine km_get X 33 (v := .ref (ad 33)) f_X11_needs_83 rfl dX11_needs_125 ?_
                  refine kv_iload X 1 dX11_needs_128 rfl ?_
                  refine kv_dup2_11 X dX11_needs_130 rfl rfl ?_
                  refine km_lald X 33 (j := i) (by decide) (by decide) rfl (by show _ < _; simp only [mLen]; omega) (by decide) dX11_needs_131 ?_
                  refine kv_topl (mstep (M.2.1 13) (M.2.1 15) (fun k => mi (nm k)) (mN (M.2.1 13) (M.2.1 15) cn (fun k => mi (nm k)) (mdir (M.2.1 13) (M.2.1 15) (M.2.1 9) (M.2.1 3) (M.2.1 11) cn nm mn mr me r0 td) s) (mdir (M.2.1 13) (M.2.1 15) (M.2.1 9) (M.2.1 3) (M.2.1 11) cn nm mn mr me r0 td i) (4 * i) m) pk_uLs ?_
                  refine kv_aload_n X 3 dX11_needs_132 rfl rfl ?_
                  refine km_get X 13 (v := .ref (ad 13)) f_X11_needs_37 rfl dX11_needs_133 ?_
                  refine kv_iload X 0 dX11_needs_136 rfl ?_
                  refine km_iald X 13 (j := 4 * i + (m)) (by decide) (by decide) rfl (by show _ < _; simp only [mLen]; have := (hcn i (by omega)).2; omega) (by decide) dX11_needs_138 ?_
                  refine kv_topi ((M.2.1 13) (4 * i + (m))) rfl ?_
                  refine kv_if_ne (tgt := 170) X dX11_needs_139 (by decide) (fun hc139 => ?_) (fun hc139 => ?_)
                  ·
                    refine kv_lconst (v := 0) X dX11_needs_170 (by decide) ?_
                    refine kv_ladd X dX11_needs_171 ?_
                    refine km_last X 33 (j := i) (x := ((mstep (M.2.1 13) (M.2.1 15) (fun k => mi (nm k)) (mN (M.2.1 13) (M.2.1 15) cn (fun k => mi (nm k)) (mdir (M.2.1 13) (M.2.1 15) (M.2.1 9) (M.2.1 3) (M.2.1 11) cn nm mn mr me r0 td) s) (mdir (M.2.1 13) (M.2.1 15) (M.2.1 9) (M.2.1 3) (M.2.1 11) cn nm mn mr me r0 td i) (4 * i) m) + 0)) (by decide) (by decide) rfl (by show _ < _; simp only [mLen]; omega) (by decide) dX11_needs_172 ?_
                    refine kv_M (M.1, M.2.1, (va_up (va_up (va_up M.2.2 31 (mset (M.2.2 31) (mdir (M.2.1 13) (M.2.1 15) (M.2.1 9) (M.2.1 3) (M.2.1 11) cn nm mn mr me r0 td) nt)) 32 (mset (M.2.2 32) (mN (M.2.1 13) (M.2.1 15) cn (fun k => mi (nm k)) (mdir (M.2.1 13) (M.2.1 15) (M.2.1 9) (M.2.1 3) (M.2.1 11) cn nm mn mr me r0 td) s) nt)) 33 (vp_updL (mset Y (mN (M.2.1 13) (M.2.1 15) cn (fun k => mi (nm k)) (mdir (M.2.1 13) (M.2.1 15) (M.2.1 9) (M.2.1 3) (M.2.1 11) cn nm mn mr me r0 td) (s + 1)) i) i (mstep (M.2.1 13) (M.2.1 15) (fun k => mi (nm k)) (mN (M.2.1 13) (M.2.1 15) cn (fun k => mi (nm k)) (mdir (M.2.1 13) (M.2.1 15) (M.2.1 9) (M.2.1 3) (M.2.1 11) cn nm mn mr me r0 td) s) (mdir (M.2.1 13) (M.2.1 15) (M.2.1 9) (M.2.1 3) (M.2.1 11) cn nm mn mr me r0 td i) (4 * i) (m + 1))))) (by show (M.1, M.2.1, (va_up (va_up (va_up (va_up M.2.2 31 (mset (M.2.2 31) (mdir (M.2.1 13) (M.2.1 15) (M.2.1 9) (M.2.1 3) (M.2.1 11) cn nm mn mr me r0 td) nt)) 32 (mset (M.2.2 32) (mN (M.2.1 13) (M.2.1 15) cn (fun k => mi (nm k)) (mdir (M.2.1 13) (M.2.1 15) (M.2.1 9) (M.2.1 3) (M.2.1 11) cn nm mn mr me r0 td) s) nt)) 33 (vp_updL (mset Y (mN (M.2.1 13) (M.2.1 15) cn (fun k => mi (nm k)) (mdir (M.2.1 13) (M.2.1 15) (M.2.1 9) (M.2.1 3) (M.2.1 11) cn nm mn mr me r0 td) (s + 1)) i) i (mstep (M.2.1 13) (M.2.1 15) (fun k => mi (nm k)) (mN (M.2.1 13) (M.2.1 15) cn (fun k => mi (nm k)) (mdir (M.2.1 13) (M.2.1 15) (M.2.1 9) (M.2.1 3) (M.2.1 11) cn nm mn mr me r0 td) s) (mdir (M.2.1 13) (M.2.1 15) (M.2.1 9) (M.2.1 3) (M.2.1 11) cn nm mn mr me r0 td i) (4 * i) m))) 33 (vp_updL (vp_updL (mset Y (mN (M.2.1 13) (M.2.1 15) cn (fun k => mi (nm k)) (mdir (M.2.1 13) (M.2.1 15) (M.2.1 9) (M.2.1 3) (M.2.1 11) cn nm mn mr me r0 td) (s + 1)) i) i (mstep (M.2.1 13) (M.2.1 15) (fun k => mi (nm k)) (mN (M.2.1 13) (M.2.1 15) cn (fun k => mi (nm k)) (mdir (M.2.1 13) (M.2.1 15) (M.2.1 9) (M.2.1 3) (M.2.1 11) cn nm mn mr me r0 td) s) (mdir (M.2.1 13) (M.2.1 15) (M.2.1 9) (M.2.1 3) (M.2.1 11) cn nm mn mr me r0 td i) (4 * i) m)) i ((mstep (M.2.1 13) (M.2.1 15) (fun k => mi (nm k)) (mN (M.2.1 13) (M.2.1 15) cn (fun k => mi (nm k)) (mdir (M.2.1 13) (M.2.1 15) (M.2.1 9) (M.2.1 3) (M.2.1 11) cn nm mn mr me r0 td) s) (mdir (M.2.1 13) (M.2.1 15) (M.2.1 9) (M.2.1 3) (M.2.1 11) cn nm mn mr me r0 td i) (4 * i) m) + 0)))) = _; rw [va_up_up, updL_twice]; rw [mstep]; (first | rw [if_pos hc139] | rw [if_neg hc139])) ?_
                    refine kv_iinc (j := 0) (v := (nI (4 * i + (m) + 1))) (lv2 := [(6, .int (nI (4 * i + (m) + 1))), (5, .int (nI i)), (4, .int (nI (s + 1))), (0, .ref (ad 0)), (1, .int (nI j)), (2, .int r0), (3, .int td)]) X dX11_needs_173 rfl (nI_add (4 * i + (m)) 1) (by rw [hnL]; decide) rfl ?_
                    refine kv_goto (tgt := 107) X dX11_needs_176 (by decide) ?_
                    exact kv_lv [0, 1, 2, 3, 4, 5, 6] rfl (ih107 (m + 1) (by omega) ())
                  ·
                    refine kv_aload_n X 3 dX11_needs_142 rfl rfl ?_
                    refine km_get X 15 (v := .ref (ad 15)) f_X11_needs_43 rfl dX11_needs_143 ?_
                    refine kv_iload X 0 dX11_needs_146 rfl ?_
                    refine km_iald X 15 (j := 4 * i + (m)) (by decide) (by decide) rfl (by show _ < _; simp only [mLen]; have := (hcn i (by omega)).2; omega) (by decide) dX11_needs_148 ?_
                    refine kv_topi ((M.2.1 15) (4 * i + (m))) rfl ?_
                    refine kv_i2l X dX11_needs_149 rfl ?_
                    refine kv_aload_n X 3 dX11_needs_150 rfl rfl ?_
                    refine km_get X 32 (v := .ref (ad 32)) f_X11_needs_80 rfl dX11_needs_151 ?_
                    refine kv_aload_n X 3 dX11_needs_154 rfl rfl ?_
                    refine kv_aload_n X 3 dX11_needs_155 rfl rfl ?_
                    refine km_get X 14 (v := .ref (ad 14)) f_X11_needs_40 rfl dX11_needs_156 ?_
                    refine kv_iload X 0 dX11_needs_159 rfl ?_
                    refine km_iald X 14 (j := 4 * i + (m)) (by decide) (by decide) rfl (by show _ < _; simp only [mLen]; have := (hcn i (by omega)).2; omega) (by decide) dX11_needs_161 ?_
                    have e161 := (hnm (4 * i + (m)) (by have := (hcn i (by omega)).2; omega)).2
                    refine kv_topi (nI (nm (4 * i + (m)))) (hnm (4 * i + (m)) (by have := (hcn i (by omega)).2; omega)).1 ?_
                    refine kv_calliV (ci := 14) (κ := 0) (r1 := (TX11, 34)) (As := [.int (nI (nm (4 * i + (m))))]) [.ref (ad 32), .long (((M.2.1 15) (4 * i + (m))).toInt64), .long (mstep (M.2.1 13) (M.2.1 15) (fun k => mi (nm k)) (mN (M.2.1 13) (M.2.1 15) cn (fun k => mi (nm k)) (mdir (M.2.1 13) (M.2.1 15) (M.2.1 9) (M.2.1 3) (M.2.1 11) cn nm mn mr me r0 td) s) (mdir (M.2.1 13) (M.2.1 15) (M.2.1 9) (M.2.1 3) (M.2.1 11) cn nm mn mr me r0 td i) (4 * i) m), .int (nI i), .ref (ad 33)] X (c_X11_meantItem l dd ad (M.1, M.2.1, (va_up (va_up (va_up M.2.2 31 (mset (M.2.2 31) (mdir (M.2.1 13) (M.2.1 15) (M.2.1 9) (M.2.1 3) (M.2.1 11) cn nm mn mr me r0 td) nt)) 32 (mset (M.2.2 32) (mN (M.2.1 13) (M.2.1 15) cn (fun k => mi (nm k)) (mdir (M.2.1 13) (M.2.1 15) (M.2.1 9) (M.2.1 3) (M.2.1 11) cn nm mn mr me r0 td) s) nt)) 33 (vp_updL (mset Y (mN (M.2.1 13) (M.2.1 15) cn (fun k => mi (nm k)) (mdir (M.2.1 13) (M.2.1 15) (M.2.1 9) (M.2.1 3) (M.2.1 11) cn nm mn mr me r0 td) (s + 1)) i) i (mstep (M.2.1 13) (M.2.1 15) (fun k => mi (nm k)) (mN (M.2.1 13) (M.2.1 15) cn (fun k => mi (nm k)) (mdir (M.2.1 13) (M.2.1 15) (M.2.1 9) (M.2.1 3) (M.2.1 11) cn nm mn mr me r0 td) s) (mdir (M.2.1 13) (M.2.1 15) (M.2.1 9) (M.2.1 3) (M.2.1 11) cn nm mn mr me r0 td i) (4 * i) m)))) (nm (4 * i + (m))) ((hnm (4 * i + m) (by have := (hcn i (by omega)).2; omega)).2) nV hV) hl0 (kCV_of X 1 gX11_needs_X11_meantItem rfl rfl rfl (by decide +kernel) hRR ⟨Nat.le_of_ble_eq_true rfl, Nat.le_of_ble_eq_true rfl⟩) (by decide) rfl rfl rfl rfl (Nat.le_of_ble_eq_true rfl) hRR ⟨Nat.le_of_ble_eq_true rfl, Nat.le_of_ble_eq_true rfl⟩ dX11_needs_162 (fun r z hp => ?_)
                    obtain ⟨rfl, rfl⟩ := hp
                    refine kv_topi (nI (mi (nm (4 * i + m)))) (hmi (nm (4 * i + m)) (hnm (4 * i + m) (by have := (hcn i (by omega)).2; omega)).2).1 ?_
                    refine km_lald X 32 (j := mi (nm (4 * i + m))) (by decide) (by decide) rfl (by show _ < _; simp only [mLen]; exact (hmi (nm (4 * i + m)) (hnm (4 * i + m) (by have := (hcn i (by omega)).2; omega)).2).2) (by decide) dX11_needs_165 ?_
                    refine kv_topl ((mset (M.2.2 32) (mN (M.2.1 13) (M.2.1 15) cn (fun k => mi (nm k)) (mdir (M.2.1 13) (M.2.1 15) (M.2.1 9) (M.2.1 3) (M.2.1 11) cn nm mn mr me r0 td) s) nt) (mi (nm (4 * i + m)))) rfl ?_
                    refine kv_topl (mN (M.2.1 13) (M.2.1 15) cn (fun k => mi (nm k)) (mdir (M.2.1 13) (M.2.1 15) (M.2.1 9) (M.2.1 3) (M.2.1 11) cn nm mn mr me r0 td) s (mi (nm (4 * i + m)))) (mset_in (hval i (by omega) m (by omega) hc139)) ?_
                    refine kv_lmul X dX11_needs_166 ?_
                    refine kv_goto (tgt := 171) X dX11_needs_167 (by decide) ?_
                    refine kv_ladd X dX11_needs_171 ?_
                    refine km_last X 33 (j := i) (x := ((mstep (M.2.1 13) (M.2.1 15) (fun k => mi (nm k)) (mN (M.2.1 13) (M.2.1 15) cn (fun k => mi (nm k)) (mdir (M.2.1 13) (M.2.1 15) (M.2.1 9) (M.2.1 3) (M.2.1 11) cn nm mn mr me r0 td) s) (mdir (M.2.1 13) (M.2.1 15) (M.2.1 9) (M.2.1 3) (M.2.1 11) cn nm mn mr me r0 td i) (4 * i) m) + ((((M.2.1 15) (4 * i + (m))).toInt64) * (mN (M.2.1 13) (M.2.1 15) cn (fun k => mi (nm k)) (mdir (M.2.1 13) (M.2.1 15) (M.2.1 9) (M.2.1 3) (M.2.1 11) cn nm mn mr me r0 td) s (mi (nm (4 * i + m))))))) (by decide) (by decide) rfl (by show _ < _; simp only [mLen]; omega) (by decide) dX11_needs_172 ?_
                    refine kv_M (M.1, M.2.1, (va_up (va_up (va_up M.2.2 31 (mset (M.2.2 31) (mdir (M.2.1 13) (M.2.1 15) (M.2.1 9) (M.2.1 3) (M.2.1 11) cn nm mn mr me r0 td) nt)) 32 (mset (M.2.2 32) (mN (M.2.1 13) (M.2.1 15) cn (fun k => mi (nm k)) (mdir (M.2.1 13) (M.2.1 15) (M.2.1 9) (M.2.1 3) (M.2.1 11) cn nm mn mr me r0 td) s) nt)) 33 (vp_updL (mset Y (mN (M.2.1 13) (M.2.1 15) cn (fun k => mi (nm k)) (mdir (M.2.1 13) (M.2.1 15) (M.2.1 9) (M.2.1 3) (M.2.1 11) cn nm mn mr me r0 td) (s + 1)) i) i (mstep (M.2.1 13) (M.2.1 15) (fun k => mi (nm k)) (mN (M.2.1 13) (M.2.1 15) cn (fun k => mi (nm k)) (mdir (M.2.1 13) (M.2.1 15) (M.2.1 9) (M.2.1 3) (M.2.1 11) cn nm mn mr me r0 td) s) (mdir (M.2.1 13) (M.2.1 15) (M.2.1 9) (M.2.1 3) (M.2.1 11) cn nm mn mr me r0 td i) (4 * i) (m + 1))))) (by show (M.1, M.2.1, (va_up (va_up (va_up (va_up M.2.2 31 (mset (M.2.2 31) (mdir (M.2.1 13) (M.2.1 15) (M.2.1 9) (M.2.1 3) (M.2.1 11) cn nm mn mr me r0 td) nt)) 32 (mset (M.2.2 32) (mN (M.2.1 13) (M.2.1 15) cn (fun k => mi (nm k)) (mdir (M.2.1 13) (M.2.1 15) (M.2.1 9) (M.2.1 3) (M.2.1 11) cn nm mn mr me r0 td) s) nt)) 33 (vp_updL (mset Y (mN (M.2.1 13) (M.2.1 15) cn (fun k => mi (nm k)) (mdir (M.2.1 13) (M.2.1 15) (M.2.1 9) (M.2.1 3) (M.2.1 11) cn nm mn mr me r0 td) (s + 1)) i) i (mstep (M.2.1 13) (M.2.1 15) (fun k => mi (nm k)) (mN (M.2.1 13) (M.2.1 15) cn (fun k => mi (nm k)) (mdir (M.2.1 13) (M.2.1 15) (M.2.1 9) (M.2.1 3) (M.2.1 11) cn nm mn mr me r0 td) s) (mdir (M.2.1 13) (M.2.1 15) (M.2.1 9) (M.2.1 3) (M.2.1 11) cn nm mn mr me r0 td i) (4 * i) m))) 33 (vp_updL (vp_updL (mset Y (mN (M.2.1 13) (M.2.1 15) cn (fun k => mi (nm k)) (mdir (M.2.1 13) (M.2.1 15) (M.2.1 9) (M.2.1 3) (M.2.1 11) cn nm mn mr me r0 td) (s + 1)) i) i (mstep (M.2.1 13) (M.2.1 15) (fun k => mi (nm k)) (mN (M.2.1 13) (M.2.1 15) cn (fun k => mi (nm k)) (mdir (M.2.1 13) (M.2.1 15) (M.2.1 9) (M.2.1 3) (M.2.1 11) cn nm mn mr me r0 td) s) (mdir (M.2.1 13) (M.2.1 15) (M.2.1 9) (M.2.1 3) (M.2.1 11) cn nm mn mr me r0 td i) (4 * i) m)) i ((mstep (M.2.1 13) (M.2.1 15) (fun k => mi (nm k)) (mN (M.2.1 13) (M.2.1 15) cn (fun k => mi (nm k)) (mdir (M.2.1 13) (M.2.1 15) (M.2.1 9) (M.2.1 3) (M.2.1 11) cn nm mn mr me r0 td) s) (mdir (M.2.1 13) (M.2.1 15) (M.2.1 9) (M.2.1 3) (M.2.1 11) cn nm mn mr me r0 td i) (4 * i) m) + ((((M.2.1 15) (4 * i + (m))).toInt64) * (mN (M.2.1 13) (M.2.1 15) cn (fun k => mi (nm k)) (mdir (M.2.1 13) (M.2.1 15) (M.2.1 9) (M.2.1 3) (M.2.1 11) cn nm mn mr me r0 td) s (mi (nm (4 * i + m))))))))) = _; rw [va_up_up, updL_twice]; rw [mstep]; (first | rw [if_pos hc139] | rw [if_neg hc139])) ?_
                    refine kv_iinc (j := 0) (v := (nI (4 * i + (m) + 1))) (lv2 := [(6, .int (nI (4 * i + (m) + 1))), (5, .int (nI i)), (4, .int (nI (s + 1))), (0, .ref (ad 0)), (1, .int (nI j)), (2, .int r0), (3, .int td)]) X dX11_needs_173 rfl (nI_add (4 * i + (m)) 1) (by rw [hnL]; decide) rfl ?_
                    refine kv_goto (tgt := 107) X dX11_needs_176 (by decide) ?_
                    exact kv_lv [0, 1, 2, 3, 4, 5, 6] rfl (ih107 (m + 1) (by omega) ())
              exact kv_lv [0, 1, 2, 3, 4, 5, 6] rfl (L107 (cn i) 0 (by omega) ())
          exact kv_lv [0, 1, 2, 3, 4, 5] rfl (L78 nt 0 (by omega) ())
      exact kv_lv [0, 1, 2, 3, 4] rfl (L69 2 0 (by omega) (M.2.2 33))
    | succ n ih3 =>
      intro i hin3 _ 
      refine kv_iload X 0 dX11_needs_3 rfl ?_
      refine kv_aload_n X 1 dX11_needs_5 rfl rfl ?_
      refine km_get X 10 (v := .int (M.1 10)) f_X11_needs_97 rfl dX11_needs_6 ?_
      refine kv_topi (nI nt) hT.1 ?_
      refine kn_icmp_ge (x := i) (y := nt) (tgt := 66) X (by omega) (by omega) dX11_needs_9 (by decide) (fun hc9 => absurd hc9 (by omega)) (fun hc9 => ?_)
      refine kv_aload_n X 1 dX11_needs_12 rfl rfl ?_
      refine km_get X 31 (v := .ref (ad 31)) f_X11_needs_77 rfl dX11_needs_13 ?_
      refine kv_iload X 0 dX11_needs_16 rfl ?_
      refine kv_iload_n X 4 dX11_needs_18 rfl rfl ?_
      refine kv_iconst (v := (-1)) X dX11_needs_19 (by decide) ?_
      refine kv_icmp_eq (tgt := 34) X dX11_needs_20 (by decide) (fun hc20 => ?_) (fun hc20 => ?_)
      ·
        refine kv_aload_n X 1 dX11_needs_34 rfl rfl ?_
        refine kv_iload X 0 dX11_needs_35 rfl ?_
        refine kv_iload_n X 3 dX11_needs_37 rfl rfl ?_
        refine kv_calllV (ci := 14) (κ := 0) (r1 := (TX11, 34)) (As := [.int (nI i), .int r0]) [.int (nI i), .ref (ad 31)] X (c_X11_own l dd ad (M.1, M.2.1, (va_up (va_up M.2.2 31 (mset (M.2.2 31) (mdir (M.2.1 13) (M.2.1 15) (M.2.1 9) (M.2.1 3) (M.2.1 11) cn nm mn mr me r0 td) (i))) 32 (mset (M.2.2 32) (mdir (M.2.1 13) (M.2.1 15) (M.2.1 9) (M.2.1 3) (M.2.1 11) cn nm mn mr me r0 td) (i)))) i r0 (by omega) nV hV cn hcn nm hnm mn hmn mr hmr me hme hs2) hl0 (kCV_of X 2 gX11_needs_X11_own rfl rfl rfl (by decide +kernel) hRR ⟨Nat.le_of_ble_eq_true rfl, Nat.le_of_ble_eq_true rfl⟩) (by decide) rfl rfl rfl rfl (Nat.le_of_ble_eq_true rfl) hRR ⟨Nat.le_of_ble_eq_true rfl, Nat.le_of_ble_eq_true rfl⟩ dX11_needs_38 (fun r z hp => ?_)
        obtain ⟨rfl, rfl⟩ := hp
        refine kv_goto (tgt := 45) X dX11_needs_41 (by decide) ?_
        refine km_last X 31 (j := i) (x := (mown (M.2.1 13) (M.2.1 15) (M.2.1 9) nm mn (fun x => mun (M.2.1 3) (mr x) r0) (fun x => mun (M.2.1 3) (mr (me x)) r0) (4 * i) (cn i))) (by decide) (by decide) rfl (by show _ < _; simp only [mLen]; omega) (by decide) dX11_needs_45 ?_
        refine kv_aload_n X 1 dX11_needs_46 rfl rfl ?_
        refine km_get X 32 (v := .ref (ad 32)) f_X11_needs_80 rfl dX11_needs_47 ?_
        refine kv_iload X 0 dX11_needs_50 rfl ?_
        refine kv_aload_n X 1 dX11_needs_52 rfl rfl ?_
        refine km_get X 31 (v := .ref (ad 31)) f_X11_needs_77 rfl dX11_needs_53 ?_
        refine kv_iload X 0 dX11_needs_56 rfl ?_
        refine km_lald X 31 (j := i) (by decide) (by decide) rfl (by show _ < _; simp only [mLen]; omega) (by decide) dX11_needs_58 ?_
        refine kv_topl (mown (M.2.1 13) (M.2.1 15) (M.2.1 9) nm mn (fun x => mun (M.2.1 3) (mr x) r0) (fun x => mun (M.2.1 3) (mr (me x)) r0) (4 * i) (cn i)) pk_uLs ?_
        refine km_last X 32 (j := i) (x := (mown (M.2.1 13) (M.2.1 15) (M.2.1 9) nm mn (fun x => mun (M.2.1 3) (mr x) r0) (fun x => mun (M.2.1 3) (mr (me x)) r0) (4 * i) (cn i))) (by decide) (by decide) rfl (by show _ < _; simp only [mLen]; omega) (by decide) dX11_needs_59 ?_
        refine kv_M (M.1, M.2.1, (va_up (va_up M.2.2 31 (mset (M.2.2 31) (mdir (M.2.1 13) (M.2.1 15) (M.2.1 9) (M.2.1 3) (M.2.1 11) cn nm mn mr me r0 td) (i + 1))) 32 (mset (M.2.2 32) (mdir (M.2.1 13) (M.2.1 15) (M.2.1 9) (M.2.1 3) (M.2.1 11) cn nm mn mr me r0 td) (i + 1)))) (by show (M.1, M.2.1, (va_up (va_up (va_up (va_up M.2.2 31 (mset (M.2.2 31) (mdir (M.2.1 13) (M.2.1 15) (M.2.1 9) (M.2.1 3) (M.2.1 11) cn nm mn mr me r0 td) (i))) 32 (mset (M.2.2 32) (mdir (M.2.1 13) (M.2.1 15) (M.2.1 9) (M.2.1 3) (M.2.1 11) cn nm mn mr me r0 td) (i))) 31 (vp_updL (mset (M.2.2 31) (mdir (M.2.1 13) (M.2.1 15) (M.2.1 9) (M.2.1 3) (M.2.1 11) cn nm mn mr me r0 td) (i)) i (mown (M.2.1 13) (M.2.1 15) (M.2.1 9) nm mn (fun x => mun (M.2.1 3) (mr x) r0) (fun x => mun (M.2.1 3) (mr (me x)) r0) (4 * i) (cn i)))) 32 (vp_updL (mset (M.2.2 32) (mdir (M.2.1 13) (M.2.1 15) (M.2.1 9) (M.2.1 3) (M.2.1 11) cn nm mn mr me r0 td) (i)) i (mown (M.2.1 13) (M.2.1 15) (M.2.1 9) nm mn (fun x => mun (M.2.1 3) (mr x) r0) (fun x => mun (M.2.1 3) (mr (me x)) r0) (4 * i) (cn i))))) = _; rw [va_up_abab, mset_updL (show _ = mdir (M.2.1 13) (M.2.1 15) (M.2.1 9) (M.2.1 3) (M.2.1 11) cn nm mn mr me r0 td i by rw [mdir]; first | rw [if_pos (Or.inl hc20)] | rw [if_pos (Or.inr hc31)] | rw [if_neg (fun q => q.elim hc20 hc31)]), mset_updL (show _ = mdir (M.2.1 13) (M.2.1 15) (M.2.1 9) (M.2.1 3) (M.2.1 11) cn nm mn mr me r0 td i by rw [mdir]; first | rw [if_pos (Or.inl hc20)] | rw [if_pos (Or.inr hc31)] | rw [if_neg (fun q => q.elim hc20 hc31)])]) ?_
        refine kv_iinc (j := 0) (v := (nI (i + 1))) (lv2 := [(4, .int (nI (i + 1))), (0, .ref (ad 0)), (1, .int (nI j)), (2, .int r0), (3, .int td)]) X dX11_needs_60 rfl (nI_add i 1) (by rw [hnL]; decide) rfl ?_
        refine kv_goto (tgt := 3) X dX11_needs_63 (by decide) ?_
        exact kv_lv [0, 1, 2, 3, 4] rfl (ih3 (i + 1) (by omega) ())
      ·
        refine kv_aload_n X 1 dX11_needs_23 rfl rfl ?_
        refine km_get X 11 (v := .ref (ad 11)) f_X11_needs_31 rfl dX11_needs_24 ?_
        refine kv_iload X 0 dX11_needs_27 rfl ?_
        refine km_iald X 11 (j := i) (by decide) (by decide) rfl (by show _ < _; simp only [mLen]; omega) (by decide) dX11_needs_29 ?_
        refine kv_topi ((M.2.1 11) i) rfl ?_
        refine kv_iload_n X 4 dX11_needs_30 rfl rfl ?_
        refine kv_icmp_ne (tgt := 44) X dX11_needs_31 (by decide) (fun hc31 => ?_) (fun hc31 => ?_)
        ·
          refine kv_lconst (v := 0) X dX11_needs_44 (by decide) ?_
          refine km_last X 31 (j := i) (x := 0) (by decide) (by decide) rfl (by show _ < _; simp only [mLen]; omega) (by decide) dX11_needs_45 ?_
          refine kv_aload_n X 1 dX11_needs_46 rfl rfl ?_
          refine km_get X 32 (v := .ref (ad 32)) f_X11_needs_80 rfl dX11_needs_47 ?_
          refine kv_iload X 0 dX11_needs_50 rfl ?_
          refine kv_aload_n X 1 dX11_needs_52 rfl rfl ?_
          refine km_get X 31 (v := .ref (ad 31)) f_X11_needs_77 rfl dX11_needs_53 ?_
          refine kv_iload X 0 dX11_needs_56 rfl ?_
          refine km_lald X 31 (j := i) (by decide) (by decide) rfl (by show _ < _; simp only [mLen]; omega) (by decide) dX11_needs_58 ?_
          refine kv_topl 0 pk_uLs ?_
          refine km_last X 32 (j := i) (x := 0) (by decide) (by decide) rfl (by show _ < _; simp only [mLen]; omega) (by decide) dX11_needs_59 ?_
          refine kv_M (M.1, M.2.1, (va_up (va_up M.2.2 31 (mset (M.2.2 31) (mdir (M.2.1 13) (M.2.1 15) (M.2.1 9) (M.2.1 3) (M.2.1 11) cn nm mn mr me r0 td) (i + 1))) 32 (mset (M.2.2 32) (mdir (M.2.1 13) (M.2.1 15) (M.2.1 9) (M.2.1 3) (M.2.1 11) cn nm mn mr me r0 td) (i + 1)))) (by show (M.1, M.2.1, (va_up (va_up (va_up (va_up M.2.2 31 (mset (M.2.2 31) (mdir (M.2.1 13) (M.2.1 15) (M.2.1 9) (M.2.1 3) (M.2.1 11) cn nm mn mr me r0 td) (i))) 32 (mset (M.2.2 32) (mdir (M.2.1 13) (M.2.1 15) (M.2.1 9) (M.2.1 3) (M.2.1 11) cn nm mn mr me r0 td) (i))) 31 (vp_updL (mset (M.2.2 31) (mdir (M.2.1 13) (M.2.1 15) (M.2.1 9) (M.2.1 3) (M.2.1 11) cn nm mn mr me r0 td) (i)) i 0)) 32 (vp_updL (mset (M.2.2 32) (mdir (M.2.1 13) (M.2.1 15) (M.2.1 9) (M.2.1 3) (M.2.1 11) cn nm mn mr me r0 td) (i)) i 0))) = _; rw [va_up_abab, mset_updL (show _ = mdir (M.2.1 13) (M.2.1 15) (M.2.1 9) (M.2.1 3) (M.2.1 11) cn nm mn mr me r0 td i by rw [mdir]; first | rw [if_pos (Or.inl hc20)] | rw [if_pos (Or.inr hc31)] | rw [if_neg (fun q => q.elim hc20 hc31)]), mset_updL (show _ = mdir (M.2.1 13) (M.2.1 15) (M.2.1 9) (M.2.1 3) (M.2.1 11) cn nm mn mr me r0 td i by rw [mdir]; first | rw [if_pos (Or.inl hc20)] | rw [if_pos (Or.inr hc31)] | rw [if_neg (fun q => q.elim hc20 hc31)])]) ?_
          refine kv_iinc (j := 0) (v := (nI (i + 1))) (lv2 := [(4, .int (nI (i + 1))), (0, .ref (ad 0)), (1, .int (nI j)), (2, .int r0), (3, .int td)]) X dX11_needs_60 rfl (nI_add i 1) (by rw [hnL]; decide) rfl ?_
          refine kv_goto (tgt := 3) X dX11_needs_63 (by decide) ?_
          exact kv_lv [0, 1, 2, 3, 4] rfl (ih3 (i + 1) (by omega) ())
        ·
          refine kv_aload_n X 1 dX11_needs_34 rfl rfl ?_
          refine kv_iload X 0 dX11_needs_35 rfl ?_
          refine kv_iload_n X 3 dX11_needs_37 rfl rfl ?_
          refine kv_calllV (ci := 14) (κ := 0) (r1 := (TX11, 34)) (As := [.int (nI i), .int r0]) [.int (nI i), .ref (ad 31)] X (c_X11_own l dd ad (M.1, M.2.1, (va_up (va_up M.2.2 31 (mset (M.2.2 31) (mdir (M.2.1 13) (M.2.1 15) (M.2.1 9) (M.2.1 3) (M.2.1 11) cn nm mn mr me r0 td) (i))) 32 (mset (M.2.2 32) (mdir (M.2.1 13) (M.2.1 15) (M.2.1 9) (M.2.1 3) (M.2.1 11) cn nm mn mr me r0 td) (i)))) i r0 (by omega) nV hV cn hcn nm hnm mn hmn mr hmr me hme hs2) hl0 (kCV_of X 2 gX11_needs_X11_own rfl rfl rfl (by decide +kernel) hRR ⟨Nat.le_of_ble_eq_true rfl, Nat.le_of_ble_eq_true rfl⟩) (by decide) rfl rfl rfl rfl (Nat.le_of_ble_eq_true rfl) hRR ⟨Nat.le_of_ble_eq_true rfl, Nat.le_of_ble_eq_true rfl⟩ dX11_needs_38 (fun r z hp => ?_)
          obtain ⟨rfl, rfl⟩ := hp
          refine kv_goto (tgt := 45) X dX11_needs_41 (by decide) ?_
          refine km_last X 31 (j := i) (x := (mown (M.2.1 13) (M.2.1 15) (M.2.1 9) nm mn (fun x => mun (M.2.1 3) (mr x) r0) (fun x => mun (M.2.1 3) (mr (me x)) r0) (4 * i) (cn i))) (by decide) (by decide) rfl (by show _ < _; simp only [mLen]; omega) (by decide) dX11_needs_45 ?_
          refine kv_aload_n X 1 dX11_needs_46 rfl rfl ?_
          refine km_get X 32 (v := .ref (ad 32)) f_X11_needs_80 rfl dX11_needs_47 ?_
          refine kv_iload X 0 dX11_needs_50 rfl ?_
          refine kv_aload_n X 1 dX11_needs_52 rfl rfl ?_
          refine km_get X 31 (v := .ref (ad 31)) f_X11_needs_77 rfl dX11_needs_53 ?_
          refine kv_iload X 0 dX11_needs_56 rfl ?_
          refine km_lald X 31 (j := i) (by decide) (by decide) rfl (by show _ < _; simp only [mLen]; omega) (by decide) dX11_needs_58 ?_
          refine kv_topl (mown (M.2.1 13) (M.2.1 15) (M.2.1 9) nm mn (fun x => mun (M.2.1 3) (mr x) r0) (fun x => mun (M.2.1 3) (mr (me x)) r0) (4 * i) (cn i)) pk_uLs ?_
          refine km_last X 32 (j := i) (x := (mown (M.2.1 13) (M.2.1 15) (M.2.1 9) nm mn (fun x => mun (M.2.1 3) (mr x) r0) (fun x => mun (M.2.1 3) (mr (me x)) r0) (4 * i) (cn i))) (by decide) (by decide) rfl (by show _ < _; simp only [mLen]; omega) (by decide) dX11_needs_59 ?_
          refine kv_M (M.1, M.2.1, (va_up (va_up M.2.2 31 (mset (M.2.2 31) (mdir (M.2.1 13) (M.2.1 15) (M.2.1 9) (M.2.1 3) (M.2.1 11) cn nm mn mr me r0 td) (i + 1))) 32 (mset (M.2.2 32) (mdir (M.2.1 13) (M.2.1 15) (M.2.1 9) (M.2.1 3) (M.2.1 11) cn nm mn mr me r0 td) (i + 1)))) (by show (M.1, M.2.1, (va_up (va_up (va_up (va_up M.2.2 31 (mset (M.2.2 31) (mdir (M.2.1 13) (M.2.1 15) (M.2.1 9) (M.2.1 3) (M.2.1 11) cn nm mn mr me r0 td) (i))) 32 (mset (M.2.2 32) (mdir (M.2.1 13) (M.2.1 15) (M.2.1 9) (M.2.1 3) (M.2.1 11) cn nm mn mr me r0 td) (i))) 31 (vp_updL (mset (M.2.2 31) (mdir (M.2.1 13) (M.2.1 15) (M.2.1 9) (M.2.1 3) (M.2.1 11) cn nm mn mr me r0 td) (i)) i (mown (M.2.1 13) (M.2.1 15) (M.2.1 9) nm mn (fun x => mun (M.2.1 3) (mr x) r0) (fun x => mun (M.2.1 3) (mr (me x)) r0) (4 * i) (cn i)))) 32 (vp_updL (mset (M.2.2 32) (mdir (M.2.1 13) (M.2.1 15) (M.2.1 9) (M.2.1 3) (M.2.1 11) cn nm mn mr me r0 td) (i)) i (mown (M.2.1 13) (M.2.1 15) (M.2.1 9) nm mn (fun x => mun (M.2.1 3) (mr x) r0) (fun x => mun (M.2.1 3) (mr (me x)) r0) (4 * i) (cn i))))) = _; rw [va_up_abab, mset_updL (show _ = mdir (M.2.1 13) (M.2.1 15) (M.2.1 9) (M.2.1 3) (M.2.1 11) cn nm mn mr me r0 td i by rw [mdir]; first | rw [if_pos (Or.inl hc20)] | rw [if_pos (Or.inr hc31)] | rw [if_neg (fun q => q.elim hc20 hc31)]), mset_updL (show _ = mdir (M.2.1 13) (M.2.1 15) (M.2.1 9) (M.2.1 3) (M.2.1 11) cn nm mn mr me r0 td i by rw [mdir]; first | rw [if_pos (Or.inl hc20)] | rw [if_pos (Or.inr hc31)] | rw [if_neg (fun q => q.elim hc20 hc31)])]) ?_
          refine kv_iinc (j := 0) (v := (nI (i + 1))) (lv2 := [(4, .int (nI (i + 1))), (0, .ref (ad 0)), (1, .int (nI j)), (2, .int r0), (3, .int td)]) X dX11_needs_60 rfl (nI_add i 1) (by rw [hnL]; decide) rfl ?_
          refine kv_goto (tgt := 3) X dX11_needs_63 (by decide) ?_
          exact kv_lv [0, 1, 2, 3, 4] rfl (ih3 (i + 1) (by omega) ())
  exact kv_lv [0, 1, 2, 3, 4] rfl (L3 nt 0 (by omega) ())
theorem fp_X11_unitCost_86 : kFp wsX11_unitCost RX11 86 14 0 .int false := ⟨_, RX11, TX11, 34, tyX11, fun _ h => (List.mem_cons_of_mem _ (List.mem_append_left _ (List.mem_append_right _ h))), tyX11_ok, nmX11, (List.mem_cons_of_mem _ (List.mem_append_left _ (List.mem_append_left _ (List.mem_append_left _ (List.mem_of_getElem? (i := 0) rfl))))), rfl, by decide, rfl, rfl, by decide +kernel, rfl⟩
set_option maxRecDepth 100000 in
set_option maxHeartbeats 4000000 in
theorem c_X11_unitCost (l : Launch) (dd : kDD) (ad : Nat → Nat) (M : mS) (v : Int32) (nt : Nat) (hT : M.1 10 = nI nt ∧ nt ≤ 12) (nV : Nat) (hV : M.1 21 = nI nV ∧ nV ≤ 4) (cn : Nat → Nat) (hcn : ∀ i, i < 12 → M.2.1 12 i = nI (cn i) ∧ cn i ≤ 4) (nm : Nat → Nat) (hnm : ∀ k, k < 48 → M.2.1 14 k = nI (nm k) ∧ nm k < 12) (mn : Nat → Nat) (hmn : ∀ i, i < 4 → M.2.1 7 i = nI (mn i) ∧ mn i ≤ 3) (mi : Nat → Nat) (hmi : ∀ j, j < 12 → mnt (M.1 24) (M.2.1 22) j nV 0 = nI (mi j) ∧ mi j < 12) (mr : Nat → Nat) (hmr : ∀ j, j < 12 → mnt (M.1 24) (M.2.1 23) j nV 0 = nI (mr j) ∧ mr j < 12) (me : Nat → Nat) (hme : ∀ q, q < 12 → M.2.1 8 q = nI (me q) ∧ me q < 12) (hs2 : ∀ k, k < 48 → M.2.1 13 k = 2 → nm k < 4) (hval : ∀ i, i < nt → ∀ k, k < cn i → M.2.1 13 (4 * i + k) = 0 → mi (nm (4 * i + k)) < nt) : kCl l yX11_unitCost wsX11_unitCost ({ frames := 3, cells := 0, slots := 0, locals := 74 } : Room) 0 0 dd [.ref (ad 0), .int v] (mK, ad, mE dd ad M) (kQl (S := mS) (fun r z => (¬ (∃ j, j < nt ∧ v = nI j) ∧ mT M 1 = z ∧ r = 0) ∨ ∃ X Y Z, ∃ j, (j < nt ∧ v = nI j) ∧ (va_up M.1 0 0, M.2.1, va_up (va_up (va_up M.2.2 31 X) 32 Y) 33 Z) = z ∧ r = mN (M.2.1 13) (M.2.1 15) cn (fun k => mi (nm k)) (mdir (M.2.1 13) (M.2.1 15) (M.2.1 9) (M.2.1 3) (M.2.1 11) cn nm mn mr me (-1) (-1)) 2 j) (fun _ => mK) (fun _ => ad) (fun z => mE dd ad z)) := by
  refine kMetl (ws' := _) (cc := cX11_unitCost) (maxL := 2) (rt := .long) (by decide) rfl (Nat.le_of_ble_eq_true rfl) (fun g X hr hnL hRR hl0 hkn => ?_)
  show kv dd g 0 0 0 [(0, .ref (ad 0)), (1, .int v)] [] mK ad (mE dd ad M)
  refine kv_aload_n X 0 dX11_unitCost_0 rfl rfl ?_
  refine kv_iconst (v := 0) X dX11_unitCost_1 (by decide) ?_
  refine km_put X 0 (x := 0) fp_X11_unitCost_86 (by decide) dX11_unitCost_2 ?_
  refine kv_aload_n X 0 dX11_unitCost_5 rfl rfl ?_
  refine kv_aload_n X 0 dX11_unitCost_6 rfl rfl ?_
  refine kv_iload_n X 1 dX11_unitCost_7 rfl rfl ?_
  refine kv_calliV (ci := 14) (κ := 0) (r1 := (TX11, 34)) (As := [.int v]) [.ref (ad 0)] X (c_X11_noItem l dd ad ((va_up M.1 0 0), M.2.1, M.2.2) v nt hT.2 hT.1) hl0 (kCV_of X 1 gX11_unitCost_X11_noItem rfl rfl rfl (by decide +kernel) hRR ⟨Nat.le_of_ble_eq_true rfl, Nat.le_of_ble_eq_true rfl⟩) (by decide) rfl rfl rfl rfl (Nat.le_of_ble_eq_true rfl) hRR ⟨Nat.le_of_ble_eq_true rfl, Nat.le_of_ble_eq_true rfl⟩ dX11_unitCost_8 (fun r z hp => ?_)
  obtain ⟨rfl, ⟨rfl, h8⟩ | ⟨rfl, j8, h8, rfl⟩⟩ := hp
  ·
    refine kv_iconst (v := 1) X dX11_unitCost_11 (by decide) ?_
    refine kv_calliV (ci := 14) (κ := 0) (r1 := (TX11, 34)) (As := [.int 1, .int 1]) [] X (c_X11_fails1 l dd ad ((va_up M.1 0 0), M.2.1, M.2.2) 1 (by decide) rfl) hl0 (kCV_of X 2 gX11_unitCost_X11_fails rfl rfl rfl (by decide +kernel) hRR ⟨Nat.le_of_ble_eq_true rfl, Nat.le_of_ble_eq_true rfl⟩) (by decide) rfl rfl rfl rfl (Nat.le_of_ble_eq_true rfl) hRR ⟨Nat.le_of_ble_eq_true rfl, Nat.le_of_ble_eq_true rfl⟩ dX11_unitCost_12 (fun r z hp => ?_)
    obtain ⟨rfl, rfl⟩ := hp
    refine kv_if_eq (tgt := 22) X dX11_unitCost_15 (by decide) (fun hc => absurd hc (by decide)) (fun hc15 => ?_)
    refine kv_lconst (v := 0) X dX11_unitCost_18 (by decide) ?_
    refine kv_goto (tgt := 29) X dX11_unitCost_19 (by decide) ?_
    exact kv_lreturn X hr (by decide) (by decide) ⟨((va_up (va_up M.1 0 0) 0 1), M.2.1, M.2.2), Or.inl ⟨h8, rfl, rfl⟩, rfl⟩ dX11_unitCost_29
  ·
    refine kv_iconst (v := 1) X dX11_unitCost_11 (by decide) ?_
    refine kv_calliV (ci := 14) (κ := 0) (r1 := (TX11, 34)) (As := [.int 0, .int 1]) [] X (c_X11_fails0 l dd ad ((va_up M.1 0 0), M.2.1, M.2.2) 1 rfl) hl0 (kCV_of X 2 gX11_unitCost_X11_fails rfl rfl rfl (by decide +kernel) hRR ⟨Nat.le_of_ble_eq_true rfl, Nat.le_of_ble_eq_true rfl⟩) (by decide) rfl rfl rfl rfl (Nat.le_of_ble_eq_true rfl) hRR ⟨Nat.le_of_ble_eq_true rfl, Nat.le_of_ble_eq_true rfl⟩ dX11_unitCost_12 (fun r z hp => ?_)
    obtain ⟨rfl, rfl⟩ := hp
    refine kv_if_eq (tgt := 22) X dX11_unitCost_15 (by decide) (fun hc15 => ?_) (fun hc => absurd hc (by decide))
    refine kv_aload_n X 0 dX11_unitCost_22 rfl rfl ?_
    refine kv_iload_n X 1 dX11_unitCost_23 rfl rfl ?_
    refine kv_iconst (v := (-1)) X dX11_unitCost_24 (by decide) ?_
    refine kv_iconst (v := (-1)) X dX11_unitCost_25 (by decide) ?_
    refine kv_calllV (ci := 14) (κ := 0) (r1 := (TX11, 34)) (As := [.int (nI j8), .int (-1), .int (-1)]) [] X (c_X11_needs l dd ad ((va_up M.1 0 0), M.2.1, M.2.2) j8 (-1) (-1) nt (by omega) hT nV hV cn hcn nm hnm mn hmn mi hmi mr hmr me hme hs2 hval) hl0 (kCV_of X 3 gX11_unitCost_X11_needs rfl rfl rfl (by decide +kernel) hRR ⟨Nat.le_of_ble_eq_true rfl, Nat.le_of_ble_eq_true rfl⟩) (by decide) rfl rfl rfl rfl (Nat.le_of_ble_eq_true rfl) hRR ⟨Nat.le_of_ble_eq_true rfl, Nat.le_of_ble_eq_true rfl⟩ dX11_unitCost_26 (fun r z hp => ?_)
    obtain ⟨X26, X26y, X26z, rfl, rfl⟩ := hp
    exact kv_lreturn X hr (by decide) (by decide) ⟨((va_up M.1 0 0), M.2.1, (va_up (va_up (va_up M.2.2 31 X26) 32 X26y) 33 X26z)), Or.inr ⟨X26, X26y, X26z, j8, ⟨h8, rfl⟩, rfl, rfl⟩, rfl⟩ dX11_unitCost_29
theorem fp_X11_needed_86 : kFp wsX11_needed RX11 86 14 0 .int false := ⟨_, RX11, TX11, 34, tyX11, fun _ h => (List.mem_cons_of_mem _ (List.mem_append_left _ (List.mem_append_right _ h))), tyX11_ok, nmX11, (List.mem_cons_of_mem _ (List.mem_append_left _ (List.mem_append_left _ (List.mem_append_left _ (List.mem_of_getElem? (i := 0) rfl))))), rfl, by decide, rfl, rfl, by decide +kernel, rfl⟩
set_option maxRecDepth 100000 in
set_option maxHeartbeats 4000000 in
theorem c_X11_needed (l : Launch) (dd : kDD) (ad : Nat → Nat) (M : mS) (v : Int32) (x : Int32) (nt : Nat) (hT : M.1 10 = nI nt ∧ nt ≤ 12) (nV : Nat) (hV : M.1 21 = nI nV ∧ nV ≤ 4) (cn : Nat → Nat) (hcn : ∀ i, i < 12 → M.2.1 12 i = nI (cn i) ∧ cn i ≤ 4) (nm : Nat → Nat) (hnm : ∀ k, k < 48 → M.2.1 14 k = nI (nm k) ∧ nm k < 12) (mn : Nat → Nat) (hmn : ∀ i, i < 4 → M.2.1 7 i = nI (mn i) ∧ mn i ≤ 3) (mi : Nat → Nat) (hmi : ∀ j, j < 12 → mnt (M.1 24) (M.2.1 22) j nV 0 = nI (mi j) ∧ mi j < 12) (mr : Nat → Nat) (hmr : ∀ j, j < 12 → mnt (M.1 24) (M.2.1 23) j nV 0 = nI (mr j) ∧ mr j < 12) (me : Nat → Nat) (hme : ∀ q, q < 12 → M.2.1 8 q = nI (me q) ∧ me q < 12) (hs2 : ∀ k, k < 48 → M.2.1 13 k = 2 → nm k < 4) (hval : ∀ i, i < nt → ∀ k, k < cn i → M.2.1 13 (4 * i + k) = 0 → mi (nm (4 * i + k)) < nt) (nR : Nat) (hR : M.1 1 = nI nR ∧ nR ≤ 12) : kCl l yX11_needed wsX11_needed ({ frames := 3, cells := 0, slots := 0, locals := 74 } : Room) 0 0 dd [.ref (ad 0), .int v, .int x] (mK, ad, mE dd ad M) (kQl (S := mS) (fun r z => (¬ ((∃ j, j < nt ∧ v = nI j) ∧ (∃ j, j < nR ∧ x = nI j)) ∧ mT M 1 = z ∧ r = 0) ∨ ∃ X Y Z, ∃ j, ∃ j2, (j < nt ∧ j2 < nR ∧ v = nI j ∧ x = nI j2) ∧ (va_up M.1 0 0, M.2.1, va_up (va_up (va_up M.2.2 31 X) 32 Y) 33 Z) = z ∧ r = mN (M.2.1 13) (M.2.1 15) cn (fun k => mi (nm k)) (mdir (M.2.1 13) (M.2.1 15) (M.2.1 9) (M.2.1 3) (M.2.1 11) cn nm mn mr me (nI j2) (-1)) 2 j) (fun _ => mK) (fun _ => ad) (fun z => mE dd ad z)) := by
  refine kMetl (ws' := _) (cc := cX11_needed) (maxL := 3) (rt := .long) (by decide) rfl (Nat.le_of_ble_eq_true rfl) (fun g X hr hnL hRR hl0 hkn => ?_)
  show kv dd g 0 0 0 [(0, .ref (ad 0)), (1, .int v), (2, .int x)] [] mK ad (mE dd ad M)
  refine kv_aload_n X 0 dX11_needed_0 rfl rfl ?_
  refine kv_iconst (v := 0) X dX11_needed_1 (by decide) ?_
  refine km_put X 0 (x := 0) fp_X11_needed_86 (by decide) dX11_needed_2 ?_
  refine kv_aload_n X 0 dX11_needed_5 rfl rfl ?_
  refine kv_aload_n X 0 dX11_needed_6 rfl rfl ?_
  refine kv_iload_n X 1 dX11_needed_7 rfl rfl ?_
  refine kv_calliV (ci := 14) (κ := 0) (r1 := (TX11, 34)) (As := [.int v]) [.ref (ad 0)] X (c_X11_noItem l dd ad ((va_up M.1 0 0), M.2.1, M.2.2) v nt hT.2 hT.1) hl0 (kCV_of X 1 gX11_needed_X11_noItem rfl rfl rfl (by decide +kernel) hRR ⟨Nat.le_of_ble_eq_true rfl, Nat.le_of_ble_eq_true rfl⟩) (by decide) rfl rfl rfl rfl (Nat.le_of_ble_eq_true rfl) hRR ⟨Nat.le_of_ble_eq_true rfl, Nat.le_of_ble_eq_true rfl⟩ dX11_needed_8 (fun r z hp => ?_)
  obtain ⟨rfl, ⟨rfl, h8⟩ | ⟨rfl, j8, h8, rfl⟩⟩ := hp
  ·
    refine kv_if_ne (tgt := 22) X dX11_needed_11 (by decide) (fun hc11 => ?_) (fun hc => absurd hc (by decide))
    refine kv_iconst (v := 1) X dX11_needed_22 (by decide) ?_
    refine kv_goto (tgt := 27) X dX11_needed_23 (by decide) ?_
    refine kv_iconst (v := 1) X dX11_needed_27 (by decide) ?_
    refine kv_calliV (ci := 14) (κ := 0) (r1 := (TX11, 34)) (As := [.int 1, .int 1]) [] X (c_X11_fails1 l dd ad ((va_up M.1 0 0), M.2.1, M.2.2) 1 (by decide) rfl) hl0 (kCV_of X 2 gX11_needed_X11_fails rfl rfl rfl (by decide +kernel) hRR ⟨Nat.le_of_ble_eq_true rfl, Nat.le_of_ble_eq_true rfl⟩) (by decide) rfl rfl rfl rfl (Nat.le_of_ble_eq_true rfl) hRR ⟨Nat.le_of_ble_eq_true rfl, Nat.le_of_ble_eq_true rfl⟩ dX11_needed_28 (fun r z hp => ?_)
    obtain ⟨rfl, rfl⟩ := hp
    refine kv_if_eq (tgt := 38) X dX11_needed_31 (by decide) (fun hc => absurd hc (by decide)) (fun hc31 => ?_)
    refine kv_lconst (v := 0) X dX11_needed_34 (by decide) ?_
    refine kv_goto (tgt := 45) X dX11_needed_35 (by decide) ?_
    exact kv_lreturn X hr (by decide) (by decide) ⟨((va_up (va_up M.1 0 0) 0 1), M.2.1, M.2.2), Or.inl ⟨fun y => by first | exact absurd y.1 h8 | exact absurd y.2 h16, rfl, rfl⟩, rfl⟩ dX11_needed_45
  ·
    refine kv_if_ne (tgt := 22) X dX11_needed_11 (by decide) (fun hc => absurd hc (by decide)) (fun hc11 => ?_)
    refine kv_aload_n X 0 dX11_needed_14 rfl rfl ?_
    refine kv_iload_n X 2 dX11_needed_15 rfl rfl ?_
    refine kv_calliV (ci := 14) (κ := 0) (r1 := (TX11, 34)) (As := [.int x]) [.ref (ad 0)] X (c_X11_noResource l dd ad ((va_up M.1 0 0), M.2.1, M.2.2) x nR hR.2 hR.1) hl0 (kCV_of X 1 gX11_needed_X11_noResource rfl rfl rfl (by decide +kernel) hRR ⟨Nat.le_of_ble_eq_true rfl, Nat.le_of_ble_eq_true rfl⟩) (by decide) rfl rfl rfl rfl (Nat.le_of_ble_eq_true rfl) hRR ⟨Nat.le_of_ble_eq_true rfl, Nat.le_of_ble_eq_true rfl⟩ dX11_needed_16 (fun r z hp => ?_)
    obtain ⟨rfl, ⟨rfl, h16⟩ | ⟨rfl, j16, h16, rfl⟩⟩ := hp
    ·
      refine kv_if_eq (tgt := 26) X dX11_needed_19 (by decide) (fun hc => absurd hc (by decide)) (fun hc19 => ?_)
      refine kv_iconst (v := 1) X dX11_needed_22 (by decide) ?_
      refine kv_goto (tgt := 27) X dX11_needed_23 (by decide) ?_
      refine kv_iconst (v := 1) X dX11_needed_27 (by decide) ?_
      refine kv_calliV (ci := 14) (κ := 0) (r1 := (TX11, 34)) (As := [.int 1, .int 1]) [] X (c_X11_fails1 l dd ad ((va_up M.1 0 0), M.2.1, M.2.2) 1 (by decide) rfl) hl0 (kCV_of X 2 gX11_needed_X11_fails rfl rfl rfl (by decide +kernel) hRR ⟨Nat.le_of_ble_eq_true rfl, Nat.le_of_ble_eq_true rfl⟩) (by decide) rfl rfl rfl rfl (Nat.le_of_ble_eq_true rfl) hRR ⟨Nat.le_of_ble_eq_true rfl, Nat.le_of_ble_eq_true rfl⟩ dX11_needed_28 (fun r z hp => ?_)
      obtain ⟨rfl, rfl⟩ := hp
      refine kv_if_eq (tgt := 38) X dX11_needed_31 (by decide) (fun hc => absurd hc (by decide)) (fun hc31 => ?_)
      refine kv_lconst (v := 0) X dX11_needed_34 (by decide) ?_
      refine kv_goto (tgt := 45) X dX11_needed_35 (by decide) ?_
      exact kv_lreturn X hr (by decide) (by decide) ⟨((va_up (va_up M.1 0 0) 0 1), M.2.1, M.2.2), Or.inl ⟨fun y => by first | exact absurd y.1 h8 | exact absurd y.2 h16, rfl, rfl⟩, rfl⟩ dX11_needed_45
    ·
      refine kv_if_eq (tgt := 26) X dX11_needed_19 (by decide) (fun hc19 => ?_) (fun hc => absurd hc (by decide))
      refine kv_iconst (v := 0) X dX11_needed_26 (by decide) ?_
      refine kv_iconst (v := 1) X dX11_needed_27 (by decide) ?_
      refine kv_calliV (ci := 14) (κ := 0) (r1 := (TX11, 34)) (As := [.int 0, .int 1]) [] X (c_X11_fails0 l dd ad ((va_up M.1 0 0), M.2.1, M.2.2) 1 rfl) hl0 (kCV_of X 2 gX11_needed_X11_fails rfl rfl rfl (by decide +kernel) hRR ⟨Nat.le_of_ble_eq_true rfl, Nat.le_of_ble_eq_true rfl⟩) (by decide) rfl rfl rfl rfl (Nat.le_of_ble_eq_true rfl) hRR ⟨Nat.le_of_ble_eq_true rfl, Nat.le_of_ble_eq_true rfl⟩ dX11_needed_28 (fun r z hp => ?_)
      obtain ⟨rfl, rfl⟩ := hp
      refine kv_if_eq (tgt := 38) X dX11_needed_31 (by decide) (fun hc31 => ?_) (fun hc => absurd hc (by decide))
      refine kv_aload_n X 0 dX11_needed_38 rfl rfl ?_
      refine kv_iload_n X 1 dX11_needed_39 rfl rfl ?_
      refine kv_iload_n X 2 dX11_needed_40 rfl rfl ?_
      refine kv_iconst (v := (-1)) X dX11_needed_41 (by decide) ?_
      refine kv_calllV (ci := 14) (κ := 0) (r1 := (TX11, 34)) (As := [.int (nI j8), .int (nI j16), .int (-1)]) [] X (c_X11_needs l dd ad ((va_up M.1 0 0), M.2.1, M.2.2) j8 (nI j16) (-1) nt (by omega) hT nV hV cn hcn nm hnm mn hmn mi hmi mr hmr me hme hs2 hval) hl0 (kCV_of X 3 gX11_needed_X11_needs rfl rfl rfl (by decide +kernel) hRR ⟨Nat.le_of_ble_eq_true rfl, Nat.le_of_ble_eq_true rfl⟩) (by decide) rfl rfl rfl rfl (Nat.le_of_ble_eq_true rfl) hRR ⟨Nat.le_of_ble_eq_true rfl, Nat.le_of_ble_eq_true rfl⟩ dX11_needed_42 (fun r z hp => ?_)
      obtain ⟨X42, X42y, X42z, rfl, rfl⟩ := hp
      exact kv_lreturn X hr (by decide) (by decide) ⟨((va_up M.1 0 0), M.2.1, (va_up (va_up (va_up M.2.2 31 X42) 32 X42y) 33 X42z)), Or.inr ⟨X42, X42y, X42z, j8, j16, ⟨h8, h16, rfl, rfl⟩, rfl, rfl⟩, rfl⟩ dX11_needed_45

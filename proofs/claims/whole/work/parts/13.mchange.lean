/-! the reference's methods that change crews, items, variants, mark-ups, rows -/
/-- one of n places behind b holds r -/
def mhas (f : Nat → Int32) (b : Nat) (r : Int32) (n : Nat) : Prop := ∃ x, x < n ∧ f (b + x) = r
theorem mhas_s {f : Nat → Int32} {b n : Nat} {r : Int32} : mhas f b r (n + 1) ↔ mhas f b r n ∨ f (b + n) = r := by
  constructor
  · rintro ⟨x, hx, e⟩
    by_cases c : x = n
    · exact Or.inr (c ▸ e)
    · exact Or.inl ⟨x, by omega, e⟩
  · rintro (⟨x, hx, e⟩ | e)
    · exact ⟨x, by omega, e⟩
    · exact ⟨n, by omega, e⟩
/-- rows behind 'row' come one place nearer: the first i of them -/
def mshift (f : Nat → Int32) (row i : Nat) : Nat → Int32 := fun k => if row ≤ k ∧ k < i then f (k + 1) else f k
theorem mshift_s {f : Nat → Int32} {row i : Nat} (h : row ≤ i) : upd (mshift f row i) i (f (i + 1)) = mshift f row (i + 1) := by
  funext k
  unfold upd mshift
  by_cases c : k = i
  · subst c
    rw [if_pos rfl, if_pos ⟨h, by omega⟩]
  · rw [if_neg c]
    by_cases c2 : row ≤ k ∧ k < i
    · rw [if_pos c2, if_pos ⟨c2.1, by omega⟩]
    · rw [if_neg c2, if_neg (by omega)]
theorem mshift_at {f : Nat → Int32} {row i k : Nat} (h : i ≤ k) : mshift f row i k = f k := if_neg (by omega)
theorem mshift_0 {f : Nat → Int32} {row : Nat} : mshift f row row = f := funext fun k => if_neg (by omega)
/-- n places behind b are filled with -1 -/
def mfill (f : Nat → Int32) (b n : Nat) : Nat → Int32 := fun k => if b ≤ k ∧ k < b + n then -1 else f k
theorem mfill_s {f : Nat → Int32} {b n : Nat} : upd (mfill f b n) (b + n) (-1) = mfill f b (n + 1) := by
  funext k
  unfold upd mfill
  by_cases c : k = b + n
  · subst c
    rw [if_pos rfl, if_pos ⟨by omega, by omega⟩]
  · rw [if_neg c]
    by_cases c2 : b ≤ k ∧ k < b + n
    · rw [if_pos c2, if_pos ⟨c2.1, by omega⟩]
    · rw [if_neg c2, if_neg (by omega)]
theorem va_up_abab {α : Type} (A : Nat → α) (a b : Nat) (f g f1 g1 : α) : va_up (va_up (va_up (va_up A a f) b g) a f1) b g1 = va_up (va_up A a f1) b g1 := by
  funext k
  unfold va_up
  by_cases hb : k = b <;> by_cases ha : k = a <;> simp [hb, ha]
theorem va_up_id {α : Type} (A : Nat → α) (a : Nat) : va_up A a (A a) = A := by
  funext k
  unfold va_up
  by_cases ha : k = a <;> simp [ha]
theorem mfill_0 {f : Nat → Int32} {b : Nat} : mfill f b 0 = f := funext fun k => if_neg (by omega)

theorem f_X11_add_34 : kF wsX11_add RX11 34 14 12 := ⟨_, RX11, TX11, 34, fun _ h => (List.mem_cons_of_mem _ (List.mem_append_left _ (List.mem_append_right _ h))), (List.mem_cons_of_mem _ (List.mem_append_left _ (List.mem_append_left _ (List.mem_of_getElem? (i := 0) rfl)))), rfl, by decide, rfl⟩
theorem f_X11_add_37 : kF wsX11_add RX11 37 14 13 := ⟨_, RX11, TX11, 34, fun _ h => (List.mem_cons_of_mem _ (List.mem_append_left _ (List.mem_append_right _ h))), (List.mem_cons_of_mem _ (List.mem_append_left _ (List.mem_append_left _ (List.mem_of_getElem? (i := 1) rfl)))), rfl, by decide, rfl⟩
theorem f_X11_add_40 : kF wsX11_add RX11 40 14 14 := ⟨_, RX11, TX11, 34, fun _ h => (List.mem_cons_of_mem _ (List.mem_append_left _ (List.mem_append_right _ h))), (List.mem_cons_of_mem _ (List.mem_append_left _ (List.mem_append_left _ (List.mem_of_getElem? (i := 2) rfl)))), rfl, by decide, rfl⟩
theorem f_X11_add_43 : kF wsX11_add RX11 43 14 15 := ⟨_, RX11, TX11, 34, fun _ h => (List.mem_cons_of_mem _ (List.mem_append_left _ (List.mem_append_right _ h))), (List.mem_cons_of_mem _ (List.mem_append_left _ (List.mem_append_left _ (List.mem_of_getElem? (i := 3) rfl)))), rfl, by decide, rfl⟩
set_option maxRecDepth 100000 in
set_option maxHeartbeats 4000000 in
theorem c_X11_add (l : Launch) (dd : kDD) (ad : Nat → Nat) (M : mS) (j : Nat) (t : Int32) (x : Int32) (q : Int32) (hj : j < 12) (cn : Nat → Nat) (hcn : ∀ i, i < 12 → M.2.1 12 i = nI (cn i) ∧ cn i ≤ 4) (hc : cn j < 4) : kCv l yX11_add wsX11_add ({ frames := 0, cells := 0, slots := 0, locals := 0 } : Room) 0 0 dd [.ref (ad 0), .int (nI j), .int t, .int x, .int q] (mK, ad, mE dd ad M) (kQv (S := mS) (fun z => (M.1, va_up (va_up (va_up (va_up M.2.1 13 (upd (M.2.1 13) (4 * j + cn j) t)) 14 (upd (M.2.1 14) (4 * j + cn j) x)) 15 (upd (M.2.1 15) (4 * j + cn j) q)) 12 (upd (M.2.1 12) j (nI (cn j + 1))), M.2.2) = z) (fun _ => mK) (fun _ => ad) (fun z => mE dd ad z)) := by
  refine kMetv (ws' := _) (cc := cX11_add) (maxL := 6) (by decide) rfl (Nat.le_of_ble_eq_true rfl) (fun g X hr hnL hRR hl0 hkn => ?_)
  show kv dd g 0 0 0 [(0, .ref (ad 0)), (1, .int (nI j)), (2, .int t), (3, .int x), (4, .int q)] [] mK ad (mE dd ad M)
  refine kv_iconst (v := 4) X dX11_add_0 (by decide) ?_
  refine kv_iload_n X 1 dX11_add_1 rfl rfl ?_
  refine kv_imul X dX11_add_2 ?_
  refine kv_topi (nI (4 * j)) (pk_mul 4 j) ?_
  refine kv_aload_n X 0 dX11_add_3 rfl rfl ?_
  refine km_get X 12 (v := .ref (ad 12)) f_X11_add_34 rfl dX11_add_4 ?_
  refine kv_iload_n X 1 dX11_add_7 rfl rfl ?_
  refine km_iald X 12 (j := j) (by decide) (by decide) rfl (by show _ < _; simp only [mLen]; omega) (by decide) dX11_add_8 ?_
  have e8 := (hcn j (by omega)).2
  refine kv_topi (nI (cn j)) (hcn j (by omega)).1 ?_
  refine kv_iadd X dX11_add_9 ?_
  refine kv_topi (nI ((4 * j) + (cn j))) (nI_add (4 * j) (cn j)) ?_
  refine kv_istore (lv2 := [(5, .int (nI ((4 * j) + (cn j)))), (0, .ref (ad 0)), (1, .int (nI j)), (2, .int t), (3, .int x), (4, .int q)]) X dX11_add_10 (by rw [hnL]; decide) rfl ?_
  refine kv_aload_n X 1 dX11_add_12 rfl rfl ?_
  refine km_get X 13 (v := .ref (ad 13)) f_X11_add_37 rfl dX11_add_13 ?_
  refine kv_iload X 0 dX11_add_16 rfl ?_
  refine kv_iload_n X 3 dX11_add_18 rfl rfl ?_
  refine km_iast X 13 (j := (4 * j) + (cn j)) (x := t) (by decide) (by decide) rfl (by show _ < _; simp only [mLen]; omega) (by decide) dX11_add_19 ?_
  refine kv_aload_n X 1 dX11_add_20 rfl rfl ?_
  refine km_get X 14 (v := .ref (ad 14)) f_X11_add_40 rfl dX11_add_21 ?_
  refine kv_iload X 0 dX11_add_24 rfl ?_
  refine kv_iload_n X 4 dX11_add_26 rfl rfl ?_
  refine km_iast X 14 (j := (4 * j) + (cn j)) (x := x) (by decide) (by decide) rfl (by show _ < _; simp only [mLen]; omega) (by decide) dX11_add_27 ?_
  refine kv_aload_n X 1 dX11_add_28 rfl rfl ?_
  refine km_get X 15 (v := .ref (ad 15)) f_X11_add_43 rfl dX11_add_29 ?_
  refine kv_iload X 0 dX11_add_32 rfl ?_
  refine kv_iload X 5 dX11_add_34 rfl ?_
  refine km_iast X 15 (j := (4 * j) + (cn j)) (x := q) (by decide) (by decide) rfl (by show _ < _; simp only [mLen]; omega) (by decide) dX11_add_36 ?_
  refine kv_aload_n X 1 dX11_add_37 rfl rfl ?_
  refine km_get X 12 (v := .ref (ad 12)) f_X11_add_34 rfl dX11_add_38 ?_
  refine kv_iload_n X 2 dX11_add_41 rfl rfl ?_
  refine kv_dup2_11 X dX11_add_42 rfl rfl ?_
  refine km_iald X 12 (j := j) (by decide) (by decide) rfl (by show _ < _; simp only [mLen]; omega) (by decide) dX11_add_43 ?_
  have e43 := (hcn j (by omega)).2
  refine kv_topi (nI (cn j)) (hcn j (by omega)).1 ?_
  refine kv_iconst (v := 1) X dX11_add_44 (by decide) ?_
  refine kv_iadd X dX11_add_45 ?_
  refine kv_topi (nI ((cn j) + 1)) (nI_add (cn j) 1) ?_
  refine km_iast X 12 (j := j) (x := (nI ((cn j) + 1))) (by decide) (by decide) rfl (by show _ < _; simp only [mLen]; omega) (by decide) dX11_add_46 ?_
  exact kv_return X hr (by decide) (by decide) ⟨(M.1, (va_up (va_up (va_up (va_up M.2.1 13 (upd (M.2.1 13) ((4 * j) + (cn j)) t)) 14 (upd (M.2.1 14) ((4 * j) + (cn j)) x)) 15 (upd (M.2.1 15) ((4 * j) + (cn j)) q)) 12 (upd (M.2.1 12) j (nI ((cn j) + 1)))), M.2.2), rfl, rfl⟩ dX11_add_47
theorem fp_X11_addUse_86 : kFp wsX11_addUse RX11 86 14 0 .int false := ⟨_, RX11, TX11, 34, tyX11, fun _ h => (List.mem_cons_of_mem _ (List.mem_append_left _ (List.mem_append_right _ h))), tyX11_ok, nmX11, (List.mem_cons_of_mem _ (List.mem_append_left _ (List.mem_append_left _ (List.mem_append_left _ (List.mem_of_getElem? (i := 0) rfl))))), rfl, by decide, rfl, rfl, by decide +kernel, rfl⟩
theorem f_X11_addUse_34 : kF wsX11_addUse RX11 34 14 12 := ⟨_, RX11, TX11, 34, fun _ h => (List.mem_cons_of_mem _ (List.mem_append_left _ (List.mem_append_right _ h))), (List.mem_cons_of_mem _ (List.mem_append_left _ (List.mem_append_left _ (List.mem_append_left _ (List.mem_of_getElem? (i := 1) rfl))))), rfl, by decide, rfl⟩
set_option maxRecDepth 100000 in
set_option maxHeartbeats 4000000 in
theorem c_X11_addUse (l : Launch) (dd : kDD) (ad : Nat → Nat) (M : mS) (v : Int32) (x : Int32) (q : Int32) (nt : Nat) (hT : M.1 10 = nI nt ∧ nt ≤ 12) (nR : Nat) (hR : M.1 1 = nI nR ∧ nR ≤ 12) (cn : Nat → Nat) (hcn : ∀ i, i < 12 → M.2.1 12 i = nI (cn i) ∧ cn i ≤ 4) : kCi l yX11_addUse wsX11_addUse ({ frames := 2, cells := 0, slots := 0, locals := 43 } : Room) 0 0 dd [.ref (ad 0), .int v, .int x, .int q] (mK, ad, mE dd ad M) (kQi (S := mS) (fun r z => (¬ ((∃ j, j < nt ∧ v = nI j) ∧ (∃ j, j < nR ∧ x = nI j)) ∧ mT M 1 = z ∧ r = 0) ∨ (((∃ j, j < nt ∧ v = nI j) ∧ (∃ j, j < nR ∧ x = nI j)) ∧ ¬ (1 ≤ q ∧ q ≤ 99) ∧ mT M 2 = z ∧ r = 0) ∨ ∃ j, ∃ j2, (j < nt ∧ j2 < nR ∧ v = nI j ∧ x = nI j2 ∧ (1 ≤ q ∧ q ≤ 99)) ∧ ((cn j = 4 ∧ mT M 3 = z ∧ r = 0) ∨ (cn j < 4 ∧ ((mT0 M).1, va_up (va_up (va_up (va_up M.2.1 13 (upd (M.2.1 13) (4 * j + cn j) 1)) 14 (upd (M.2.1 14) (4 * j + cn j) (nI j2))) 15 (upd (M.2.1 15) (4 * j + cn j) q)) 12 (upd (M.2.1 12) j (nI (cn j + 1))), M.2.2) = z ∧ r = nI (cn j + 1)))) (fun _ => mK) (fun _ => ad) (fun z => mE dd ad z)) := by
  refine kMeti (ws' := _) (cc := cX11_addUse) (maxL := 4) (rt := .int) (by decide) rfl (Nat.le_of_ble_eq_true rfl) (fun g X hr hnL hRR hl0 hkn => ?_)
  show kv dd g 0 0 0 [(0, .ref (ad 0)), (1, .int v), (2, .int x), (3, .int q)] [] mK ad (mE dd ad M)
  refine kv_aload_n X 0 dX11_addUse_0 rfl rfl ?_
  refine kv_iconst (v := 0) X dX11_addUse_1 (by decide) ?_
  refine km_put X 0 (x := 0) fp_X11_addUse_86 (by decide) dX11_addUse_2 ?_
  refine kv_aload_n X 0 dX11_addUse_5 rfl rfl ?_
  refine kv_aload_n X 0 dX11_addUse_6 rfl rfl ?_
  refine kv_iload_n X 1 dX11_addUse_7 rfl rfl ?_
  refine kv_calliV (ci := 14) (κ := 0) (r1 := (TX11, 34)) (As := [.int v]) [.ref (ad 0)] X (c_X11_noItem l dd ad ((va_up M.1 0 0), M.2.1, M.2.2) v nt hT.2 hT.1) hl0 (kCV_of X 1 gX11_addUse_X11_noItem rfl rfl rfl (by decide +kernel) hRR ⟨Nat.le_of_ble_eq_true rfl, Nat.le_of_ble_eq_true rfl⟩) (by decide) rfl rfl rfl rfl (Nat.le_of_ble_eq_true rfl) hRR ⟨Nat.le_of_ble_eq_true rfl, Nat.le_of_ble_eq_true rfl⟩ dX11_addUse_8 (fun r z hp => ?_)
  obtain ⟨rfl, ⟨rfl, h8⟩ | ⟨rfl, j8, h8, rfl⟩⟩ := hp
  ·
    refine kv_if_ne (tgt := 22) X dX11_addUse_11 (by decide) (fun hc11 => ?_) (fun hc => absurd hc (by decide))
    refine kv_iconst (v := 1) X dX11_addUse_22 (by decide) ?_
    refine kv_goto (tgt := 27) X dX11_addUse_23 (by decide) ?_
    refine kv_iconst (v := 1) X dX11_addUse_27 (by decide) ?_
    refine kv_calliV (ci := 14) (κ := 0) (r1 := (TX11, 34)) (As := [.int 1, .int 1]) [] X (c_X11_fails1 l dd ad ((va_up M.1 0 0), M.2.1, M.2.2) 1 (by decide) rfl) hl0 (kCV_of X 2 gX11_addUse_X11_fails rfl rfl rfl (by decide +kernel) hRR ⟨Nat.le_of_ble_eq_true rfl, Nat.le_of_ble_eq_true rfl⟩) (by decide) rfl rfl rfl rfl (Nat.le_of_ble_eq_true rfl) hRR ⟨Nat.le_of_ble_eq_true rfl, Nat.le_of_ble_eq_true rfl⟩ dX11_addUse_28 (fun r z hp => ?_)
    obtain ⟨rfl, rfl⟩ := hp
    refine kv_if_ne (tgt := 80) X dX11_addUse_31 (by decide) (fun hc31 => ?_) (fun hc => absurd hc (by decide))
    refine kv_iconst (v := 0) X dX11_addUse_80 (by decide) ?_
    exact kv_ireturn X hr (by decide) (by decide) ⟨((va_up (va_up M.1 0 0) 0 1), M.2.1, M.2.2), Or.inl ⟨fun y => by first | exact absurd y.1 h8 | exact absurd y.2 h16, rfl, rfl⟩, rfl⟩ dX11_addUse_81
  ·
    refine kv_if_ne (tgt := 22) X dX11_addUse_11 (by decide) (fun hc => absurd hc (by decide)) (fun hc11 => ?_)
    refine kv_aload_n X 0 dX11_addUse_14 rfl rfl ?_
    refine kv_iload_n X 2 dX11_addUse_15 rfl rfl ?_
    refine kv_calliV (ci := 14) (κ := 0) (r1 := (TX11, 34)) (As := [.int x]) [.ref (ad 0)] X (c_X11_noResource l dd ad ((va_up M.1 0 0), M.2.1, M.2.2) x nR hR.2 hR.1) hl0 (kCV_of X 1 gX11_addUse_X11_noResource rfl rfl rfl (by decide +kernel) hRR ⟨Nat.le_of_ble_eq_true rfl, Nat.le_of_ble_eq_true rfl⟩) (by decide) rfl rfl rfl rfl (Nat.le_of_ble_eq_true rfl) hRR ⟨Nat.le_of_ble_eq_true rfl, Nat.le_of_ble_eq_true rfl⟩ dX11_addUse_16 (fun r z hp => ?_)
    obtain ⟨rfl, ⟨rfl, h16⟩ | ⟨rfl, j16, h16, rfl⟩⟩ := hp
    ·
      refine kv_if_eq (tgt := 26) X dX11_addUse_19 (by decide) (fun hc => absurd hc (by decide)) (fun hc19 => ?_)
      refine kv_iconst (v := 1) X dX11_addUse_22 (by decide) ?_
      refine kv_goto (tgt := 27) X dX11_addUse_23 (by decide) ?_
      refine kv_iconst (v := 1) X dX11_addUse_27 (by decide) ?_
      refine kv_calliV (ci := 14) (κ := 0) (r1 := (TX11, 34)) (As := [.int 1, .int 1]) [] X (c_X11_fails1 l dd ad ((va_up M.1 0 0), M.2.1, M.2.2) 1 (by decide) rfl) hl0 (kCV_of X 2 gX11_addUse_X11_fails rfl rfl rfl (by decide +kernel) hRR ⟨Nat.le_of_ble_eq_true rfl, Nat.le_of_ble_eq_true rfl⟩) (by decide) rfl rfl rfl rfl (Nat.le_of_ble_eq_true rfl) hRR ⟨Nat.le_of_ble_eq_true rfl, Nat.le_of_ble_eq_true rfl⟩ dX11_addUse_28 (fun r z hp => ?_)
      obtain ⟨rfl, rfl⟩ := hp
      refine kv_if_ne (tgt := 80) X dX11_addUse_31 (by decide) (fun hc31 => ?_) (fun hc => absurd hc (by decide))
      refine kv_iconst (v := 0) X dX11_addUse_80 (by decide) ?_
      exact kv_ireturn X hr (by decide) (by decide) ⟨((va_up (va_up M.1 0 0) 0 1), M.2.1, M.2.2), Or.inl ⟨fun y => by first | exact absurd y.1 h8 | exact absurd y.2 h16, rfl, rfl⟩, rfl⟩ dX11_addUse_81
    ·
      refine kv_if_eq (tgt := 26) X dX11_addUse_19 (by decide) (fun hc19 => ?_) (fun hc => absurd hc (by decide))
      refine kv_iconst (v := 0) X dX11_addUse_26 (by decide) ?_
      refine kv_iconst (v := 1) X dX11_addUse_27 (by decide) ?_
      refine kv_calliV (ci := 14) (κ := 0) (r1 := (TX11, 34)) (As := [.int 0, .int 1]) [] X (c_X11_fails0 l dd ad ((va_up M.1 0 0), M.2.1, M.2.2) 1 rfl) hl0 (kCV_of X 2 gX11_addUse_X11_fails rfl rfl rfl (by decide +kernel) hRR ⟨Nat.le_of_ble_eq_true rfl, Nat.le_of_ble_eq_true rfl⟩) (by decide) rfl rfl rfl rfl (Nat.le_of_ble_eq_true rfl) hRR ⟨Nat.le_of_ble_eq_true rfl, Nat.le_of_ble_eq_true rfl⟩ dX11_addUse_28 (fun r z hp => ?_)
      obtain ⟨rfl, rfl⟩ := hp
      refine kv_if_ne (tgt := 80) X dX11_addUse_31 (by decide) (fun hc => absurd hc (by decide)) (fun hc31 => ?_)
      refine kv_aload_n X 0 dX11_addUse_34 rfl rfl ?_
      refine kv_iload_n X 3 dX11_addUse_35 rfl rfl ?_
      refine kv_iconst (v := 1) X dX11_addUse_36 (by decide) ?_
      refine kv_bipush (v := 99) X dX11_addUse_37 (by decide) ?_
      refine kv_calliS (As := [.int q, .int 1, .int 99]) [.ref (ad 0)] X (c_X11_in l dd ad ((va_up M.1 0 0), M.2.1, M.2.2) q 1 99) hl0 (kCS_of X 3 gX11_addUse_X11_in rfl rfl rfl (by decide +kernel) hRR ⟨Nat.le_of_ble_eq_true rfl, Nat.le_of_ble_eq_true rfl⟩) rfl rfl (Nat.le_of_ble_eq_true rfl) hRR ⟨Nat.le_of_ble_eq_true rfl, Nat.le_of_ble_eq_true rfl⟩ dX11_addUse_39 (fun r z hp => ?_)
      obtain ⟨rfl, ⟨rfl, h39⟩ | ⟨rfl, h39⟩⟩ := hp
      ·
        refine kv_if_ne (tgt := 49) X dX11_addUse_42 (by decide) (fun hc42 => ?_) (fun hc => absurd hc (by decide))
        refine kv_iconst (v := 0) X dX11_addUse_49 (by decide) ?_
        refine kv_iconst (v := 2) X dX11_addUse_50 (by decide) ?_
        refine kv_calliV (ci := 14) (κ := 0) (r1 := (TX11, 34)) (As := [.int 0, .int 2]) [] X (c_X11_fails0 l dd ad ((va_up M.1 0 0), M.2.1, M.2.2) 2 rfl) hl0 (kCV_of X 2 gX11_addUse_X11_fails rfl rfl rfl (by decide +kernel) hRR ⟨Nat.le_of_ble_eq_true rfl, Nat.le_of_ble_eq_true rfl⟩) (by decide) rfl rfl rfl rfl (Nat.le_of_ble_eq_true rfl) hRR ⟨Nat.le_of_ble_eq_true rfl, Nat.le_of_ble_eq_true rfl⟩ dX11_addUse_51 (fun r z hp => ?_)
        obtain ⟨rfl, rfl⟩ := hp
        refine kv_if_ne (tgt := 80) X dX11_addUse_54 (by decide) (fun hc => absurd hc (by decide)) (fun hc54 => ?_)
        refine kv_aload_n X 0 dX11_addUse_57 rfl rfl ?_
        refine kv_aload_n X 0 dX11_addUse_58 rfl rfl ?_
        refine km_get X 12 (v := .ref (ad 12)) f_X11_addUse_34 rfl dX11_addUse_59 ?_
        refine kv_iload_n X 1 dX11_addUse_62 rfl rfl ?_
        refine km_iald X 12 (j := j8) (by decide) (by decide) rfl (by show _ < _; simp only [mLen]; omega) (by decide) dX11_addUse_63 ?_
        have e63 := (hcn j8 (by omega)).2
        refine kv_topi (nI (cn j8)) (hcn j8 (by omega)).1 ?_
        refine kv_iconst (v := 4) X dX11_addUse_64 (by decide) ?_
        refine kn_icmp_ne (x := cn j8) (y := 4) (tgt := 72) X (by omega) (by omega) dX11_addUse_65 (by decide) (fun hc65 => ?_) (fun hc65 => ?_)
        ·
          refine kv_iconst (v := 0) X dX11_addUse_72 (by decide) ?_
          refine kv_iconst (v := 3) X dX11_addUse_73 (by decide) ?_
          refine kv_calliV (ci := 14) (κ := 0) (r1 := (TX11, 34)) (As := [.int 0, .int 3]) [] X (c_X11_fails0 l dd ad ((va_up M.1 0 0), M.2.1, M.2.2) 3 rfl) hl0 (kCV_of X 2 gX11_addUse_X11_fails rfl rfl rfl (by decide +kernel) hRR ⟨Nat.le_of_ble_eq_true rfl, Nat.le_of_ble_eq_true rfl⟩) (by decide) rfl rfl rfl rfl (Nat.le_of_ble_eq_true rfl) hRR ⟨Nat.le_of_ble_eq_true rfl, Nat.le_of_ble_eq_true rfl⟩ dX11_addUse_74 (fun r z hp => ?_)
          obtain ⟨rfl, rfl⟩ := hp
          refine kv_if_eq (tgt := 82) X dX11_addUse_77 (by decide) (fun hc77 => ?_) (fun hc => absurd hc (by decide))
          refine kv_aload_n X 0 dX11_addUse_82 rfl rfl ?_
          refine kv_iload_n X 1 dX11_addUse_83 rfl rfl ?_
          refine kv_iconst (v := 1) X dX11_addUse_84 (by decide) ?_
          refine kv_iload_n X 2 dX11_addUse_85 rfl rfl ?_
          refine kv_iload_n X 3 dX11_addUse_86 rfl rfl ?_
          refine kv_callvV (ci := 14) (κ := 0) (r1 := (TX11, 34)) (As := [.int (nI j8), .int 1, .int (nI j16), .int q]) [] X (c_X11_add l dd ad ((va_up M.1 0 0), M.2.1, M.2.2) j8 1 (nI j16) q (by omega) cn hcn (by have := (hcn j8 (by omega)).2; omega)) hl0 (kCV_of X 4 gX11_addUse_X11_add rfl rfl rfl (by decide +kernel) hRR ⟨Nat.le_of_ble_eq_true rfl, Nat.le_of_ble_eq_true rfl⟩) (by decide) rfl rfl rfl rfl (Nat.le_of_ble_eq_true rfl) hRR ⟨Nat.le_of_ble_eq_true rfl, Nat.le_of_ble_eq_true rfl⟩ dX11_addUse_87 (fun z hp => ?_)
          obtain rfl := hp
          refine kv_aload_n X 0 dX11_addUse_90 rfl rfl ?_
          refine km_get X 12 (v := .ref (ad 12)) f_X11_addUse_34 rfl dX11_addUse_91 ?_
          refine kv_iload_n X 1 dX11_addUse_94 rfl rfl ?_
          refine km_iald X 12 (j := j8) (by decide) (by decide) rfl (by show _ < _; simp only [mLen]; omega) (by decide) dX11_addUse_95 ?_
          refine kv_topi (nI (cn j8 + 1)) pk_us ?_
          exact kv_ireturn X hr (by decide) (by decide) ⟨((va_up M.1 0 0), (va_up (va_up (va_up (va_up M.2.1 13 (upd (M.2.1 13) (4 * j8 + cn j8) 1)) 14 (upd (M.2.1 14) (4 * j8 + cn j8) (nI j16))) 15 (upd (M.2.1 15) (4 * j8 + cn j8) q)) 12 (upd (M.2.1 12) j8 (nI (cn j8 + 1)))), M.2.2), Or.inr (Or.inr ⟨j8, j16, ⟨h8, h16, rfl, rfl, h39⟩, Or.inr ⟨by have := (hcn j8 (by omega)).2; omega, rfl, rfl⟩⟩), rfl⟩ dX11_addUse_96
        ·
          refine kv_iconst (v := 1) X dX11_addUse_68 (by decide) ?_
          refine kv_goto (tgt := 73) X dX11_addUse_69 (by decide) ?_
          refine kv_iconst (v := 3) X dX11_addUse_73 (by decide) ?_
          refine kv_calliV (ci := 14) (κ := 0) (r1 := (TX11, 34)) (As := [.int 1, .int 3]) [] X (c_X11_fails1 l dd ad ((va_up M.1 0 0), M.2.1, M.2.2) 3 (by decide) rfl) hl0 (kCV_of X 2 gX11_addUse_X11_fails rfl rfl rfl (by decide +kernel) hRR ⟨Nat.le_of_ble_eq_true rfl, Nat.le_of_ble_eq_true rfl⟩) (by decide) rfl rfl rfl rfl (Nat.le_of_ble_eq_true rfl) hRR ⟨Nat.le_of_ble_eq_true rfl, Nat.le_of_ble_eq_true rfl⟩ dX11_addUse_74 (fun r z hp => ?_)
          obtain ⟨rfl, rfl⟩ := hp
          refine kv_if_eq (tgt := 82) X dX11_addUse_77 (by decide) (fun hc => absurd hc (by decide)) (fun hc77 => ?_)
          refine kv_iconst (v := 0) X dX11_addUse_80 (by decide) ?_
          exact kv_ireturn X hr (by decide) (by decide) ⟨((va_up (va_up M.1 0 0) 0 3), M.2.1, M.2.2), Or.inr (Or.inr ⟨j8, j16, ⟨h8, h16, rfl, rfl, h39⟩, Or.inl ⟨hc65, rfl, rfl⟩⟩), rfl⟩ dX11_addUse_81
      ·
        refine kv_if_ne (tgt := 49) X dX11_addUse_42 (by decide) (fun hc => absurd hc (by decide)) (fun hc42 => ?_)
        refine kv_iconst (v := 1) X dX11_addUse_45 (by decide) ?_
        refine kv_goto (tgt := 50) X dX11_addUse_46 (by decide) ?_
        refine kv_iconst (v := 2) X dX11_addUse_50 (by decide) ?_
        refine kv_calliV (ci := 14) (κ := 0) (r1 := (TX11, 34)) (As := [.int 1, .int 2]) [] X (c_X11_fails1 l dd ad ((va_up M.1 0 0), M.2.1, M.2.2) 2 (by decide) rfl) hl0 (kCV_of X 2 gX11_addUse_X11_fails rfl rfl rfl (by decide +kernel) hRR ⟨Nat.le_of_ble_eq_true rfl, Nat.le_of_ble_eq_true rfl⟩) (by decide) rfl rfl rfl rfl (Nat.le_of_ble_eq_true rfl) hRR ⟨Nat.le_of_ble_eq_true rfl, Nat.le_of_ble_eq_true rfl⟩ dX11_addUse_51 (fun r z hp => ?_)
        obtain ⟨rfl, rfl⟩ := hp
        refine kv_if_ne (tgt := 80) X dX11_addUse_54 (by decide) (fun hc54 => ?_) (fun hc => absurd hc (by decide))
        refine kv_iconst (v := 0) X dX11_addUse_80 (by decide) ?_
        exact kv_ireturn X hr (by decide) (by decide) ⟨((va_up (va_up M.1 0 0) 0 2), M.2.1, M.2.2), Or.inr (Or.inl ⟨⟨⟨j8, h8, rfl⟩, ⟨j16, h16, rfl⟩⟩, h39, rfl, rfl⟩), rfl⟩ dX11_addUse_81
theorem fp_X11_addWork_86 : kFp wsX11_addWork RX11 86 14 0 .int false := ⟨_, RX11, TX11, 34, tyX11, fun _ h => (List.mem_cons_of_mem _ (List.mem_append_left _ (List.mem_append_right _ h))), tyX11_ok, nmX11, (List.mem_cons_of_mem _ (List.mem_append_left _ (List.mem_append_left _ (List.mem_of_getElem? (i := 0) rfl)))), rfl, by decide, rfl, rfl, by decide +kernel, rfl⟩
theorem f_X11_addWork_114 : kF wsX11_addWork RX11 114 14 6 := ⟨_, RX11, TX11, 34, fun _ h => (List.mem_cons_of_mem _ (List.mem_append_left _ (List.mem_append_right _ h))), (List.mem_cons_of_mem _ (List.mem_append_left _ (List.mem_append_left _ (List.mem_of_getElem? (i := 1) rfl)))), rfl, by decide, rfl⟩
theorem f_X11_addWork_34 : kF wsX11_addWork RX11 34 14 12 := ⟨_, RX11, TX11, 34, fun _ h => (List.mem_cons_of_mem _ (List.mem_append_left _ (List.mem_append_right _ h))), (List.mem_cons_of_mem _ (List.mem_append_left _ (List.mem_append_left _ (List.mem_of_getElem? (i := 2) rfl)))), rfl, by decide, rfl⟩
set_option maxRecDepth 100000 in
set_option maxHeartbeats 4000000 in
theorem c_X11_addWork (l : Launch) (dd : kDD) (ad : Nat → Nat) (M : mS) (v : Int32) (x : Int32) (q : Int32) (nt : Nat) (hT : M.1 10 = nI nt ∧ nt ≤ 12) (nC : Nat) (hC : M.1 6 = nI nC ∧ nC ≤ 4) (cn : Nat → Nat) (hcn : ∀ i, i < 12 → M.2.1 12 i = nI (cn i) ∧ cn i ≤ 4) : kCi l yX11_addWork wsX11_addWork ({ frames := 2, cells := 0, slots := 0, locals := 43 } : Room) 0 0 dd [.ref (ad 0), .int v, .int x, .int q] (mK, ad, mE dd ad M) (kQi (S := mS) (fun r z => (¬ ((∃ j, j < nt ∧ v = nI j) ∧ (∃ j, j < nC ∧ x = nI j)) ∧ mT M 1 = z ∧ r = 0) ∨ (((∃ j, j < nt ∧ v = nI j) ∧ (∃ j, j < nC ∧ x = nI j)) ∧ ¬ (1 ≤ q ∧ q ≤ 99) ∧ mT M 2 = z ∧ r = 0) ∨ ∃ j, ∃ j2, (j < nt ∧ j2 < nC ∧ v = nI j ∧ x = nI j2 ∧ (1 ≤ q ∧ q ≤ 99)) ∧ ((cn j = 4 ∧ mT M 3 = z ∧ r = 0) ∨ (cn j < 4 ∧ ((mT0 M).1, va_up (va_up (va_up (va_up M.2.1 13 (upd (M.2.1 13) (4 * j + cn j) 2)) 14 (upd (M.2.1 14) (4 * j + cn j) (nI j2))) 15 (upd (M.2.1 15) (4 * j + cn j) q)) 12 (upd (M.2.1 12) j (nI (cn j + 1))), M.2.2) = z ∧ r = nI (cn j + 1)))) (fun _ => mK) (fun _ => ad) (fun z => mE dd ad z)) := by
  refine kMeti (ws' := _) (cc := cX11_addWork) (maxL := 4) (rt := .int) (by decide) rfl (Nat.le_of_ble_eq_true rfl) (fun g X hr hnL hRR hl0 hkn => ?_)
  show kv dd g 0 0 0 [(0, .ref (ad 0)), (1, .int v), (2, .int x), (3, .int q)] [] mK ad (mE dd ad M)
  refine kv_aload_n X 0 dX11_addWork_0 rfl rfl ?_
  refine kv_iconst (v := 0) X dX11_addWork_1 (by decide) ?_
  refine km_put X 0 (x := 0) fp_X11_addWork_86 (by decide) dX11_addWork_2 ?_
  refine kv_aload_n X 0 dX11_addWork_5 rfl rfl ?_
  refine kv_aload_n X 0 dX11_addWork_6 rfl rfl ?_
  refine kv_iload_n X 1 dX11_addWork_7 rfl rfl ?_
  refine kv_calliV (ci := 14) (κ := 0) (r1 := (TX11, 34)) (As := [.int v]) [.ref (ad 0)] X (c_X11_noItem l dd ad ((va_up M.1 0 0), M.2.1, M.2.2) v nt hT.2 hT.1) hl0 (kCV_of X 1 gX11_addWork_X11_noItem rfl rfl rfl (by decide +kernel) hRR ⟨Nat.le_of_ble_eq_true rfl, Nat.le_of_ble_eq_true rfl⟩) (by decide) rfl rfl rfl rfl (Nat.le_of_ble_eq_true rfl) hRR ⟨Nat.le_of_ble_eq_true rfl, Nat.le_of_ble_eq_true rfl⟩ dX11_addWork_8 (fun r z hp => ?_)
  obtain ⟨rfl, ⟨rfl, h8⟩ | ⟨rfl, j8, h8, rfl⟩⟩ := hp
  ·
    refine kv_if_ne (tgt := 28) X dX11_addWork_11 (by decide) (fun hc11 => ?_) (fun hc => absurd hc (by decide))
    refine kv_iconst (v := 1) X dX11_addWork_28 (by decide) ?_
    refine kv_goto (tgt := 33) X dX11_addWork_29 (by decide) ?_
    refine kv_iconst (v := 1) X dX11_addWork_33 (by decide) ?_
    refine kv_calliV (ci := 14) (κ := 0) (r1 := (TX11, 34)) (As := [.int 1, .int 1]) [] X (c_X11_fails1 l dd ad ((va_up M.1 0 0), M.2.1, M.2.2) 1 (by decide) rfl) hl0 (kCV_of X 2 gX11_addWork_X11_fails rfl rfl rfl (by decide +kernel) hRR ⟨Nat.le_of_ble_eq_true rfl, Nat.le_of_ble_eq_true rfl⟩) (by decide) rfl rfl rfl rfl (Nat.le_of_ble_eq_true rfl) hRR ⟨Nat.le_of_ble_eq_true rfl, Nat.le_of_ble_eq_true rfl⟩ dX11_addWork_34 (fun r z hp => ?_)
    obtain ⟨rfl, rfl⟩ := hp
    refine kv_if_ne (tgt := 86) X dX11_addWork_37 (by decide) (fun hc37 => ?_) (fun hc => absurd hc (by decide))
    refine kv_iconst (v := 0) X dX11_addWork_86 (by decide) ?_
    exact kv_ireturn X hr (by decide) (by decide) ⟨((va_up (va_up M.1 0 0) 0 1), M.2.1, M.2.2), Or.inl ⟨fun y => by first | exact absurd y.1 h8 | exact absurd y.2 h22, rfl, rfl⟩, rfl⟩ dX11_addWork_87
  ·
    refine kv_if_ne (tgt := 28) X dX11_addWork_11 (by decide) (fun hc => absurd hc (by decide)) (fun hc11 => ?_)
    refine kv_iload_n X 2 dX11_addWork_14 rfl rfl ?_
    refine kv_iconst (v := 0) X dX11_addWork_15 (by decide) ?_
    refine kv_aload_n X 0 dX11_addWork_16 rfl rfl ?_
    refine km_get X 6 (v := .int (M.1 6)) f_X11_addWork_114 rfl dX11_addWork_17 ?_
    refine kv_topi (nI nC) hC.1 ?_
    refine kv_iconst (v := 1) X dX11_addWork_20 (by decide) ?_
    refine kv_isub X dX11_addWork_21 ?_
    refine kv_calliS (As := [.int x, .int 0, .int ((nI nC) - 1)]) [.ref (ad 0)] X (c_X11_in l dd ad ((va_up M.1 0 0), M.2.1, M.2.2) x 0 ((nI nC) - 1)) hl0 (kCS_of X 3 gX11_addWork_X11_in rfl rfl rfl (by decide +kernel) hRR ⟨Nat.le_of_ble_eq_true rfl, Nat.le_of_ble_eq_true rfl⟩) rfl rfl (Nat.le_of_ble_eq_true rfl) hRR ⟨Nat.le_of_ble_eq_true rfl, Nat.le_of_ble_eq_true rfl⟩ dX11_addWork_22 (fun r z hp => ?_)
    obtain ⟨rfl, ⟨rfl, o22⟩ | ⟨rfl, o22⟩⟩ := hp
    ·
      obtain ⟨j22, h22, rfl⟩ := (k_rng (by omega)).mp o22
      refine kv_if_ne (tgt := 32) X dX11_addWork_25 (by decide) (fun hc25 => ?_) (fun hc => absurd hc (by decide))
      refine kv_iconst (v := 0) X dX11_addWork_32 (by decide) ?_
      refine kv_iconst (v := 1) X dX11_addWork_33 (by decide) ?_
      refine kv_calliV (ci := 14) (κ := 0) (r1 := (TX11, 34)) (As := [.int 0, .int 1]) [] X (c_X11_fails0 l dd ad ((va_up M.1 0 0), M.2.1, M.2.2) 1 rfl) hl0 (kCV_of X 2 gX11_addWork_X11_fails rfl rfl rfl (by decide +kernel) hRR ⟨Nat.le_of_ble_eq_true rfl, Nat.le_of_ble_eq_true rfl⟩) (by decide) rfl rfl rfl rfl (Nat.le_of_ble_eq_true rfl) hRR ⟨Nat.le_of_ble_eq_true rfl, Nat.le_of_ble_eq_true rfl⟩ dX11_addWork_34 (fun r z hp => ?_)
      obtain ⟨rfl, rfl⟩ := hp
      refine kv_if_ne (tgt := 86) X dX11_addWork_37 (by decide) (fun hc => absurd hc (by decide)) (fun hc37 => ?_)
      refine kv_aload_n X 0 dX11_addWork_40 rfl rfl ?_
      refine kv_iload_n X 3 dX11_addWork_41 rfl rfl ?_
      refine kv_iconst (v := 1) X dX11_addWork_42 (by decide) ?_
      refine kv_bipush (v := 99) X dX11_addWork_43 (by decide) ?_
      refine kv_calliS (As := [.int q, .int 1, .int 99]) [.ref (ad 0)] X (c_X11_in l dd ad ((va_up M.1 0 0), M.2.1, M.2.2) q 1 99) hl0 (kCS_of X 3 gX11_addWork_X11_in rfl rfl rfl (by decide +kernel) hRR ⟨Nat.le_of_ble_eq_true rfl, Nat.le_of_ble_eq_true rfl⟩) rfl rfl (Nat.le_of_ble_eq_true rfl) hRR ⟨Nat.le_of_ble_eq_true rfl, Nat.le_of_ble_eq_true rfl⟩ dX11_addWork_45 (fun r z hp => ?_)
      obtain ⟨rfl, ⟨rfl, h45⟩ | ⟨rfl, h45⟩⟩ := hp
      ·
        refine kv_if_ne (tgt := 55) X dX11_addWork_48 (by decide) (fun hc48 => ?_) (fun hc => absurd hc (by decide))
        refine kv_iconst (v := 0) X dX11_addWork_55 (by decide) ?_
        refine kv_iconst (v := 2) X dX11_addWork_56 (by decide) ?_
        refine kv_calliV (ci := 14) (κ := 0) (r1 := (TX11, 34)) (As := [.int 0, .int 2]) [] X (c_X11_fails0 l dd ad ((va_up M.1 0 0), M.2.1, M.2.2) 2 rfl) hl0 (kCV_of X 2 gX11_addWork_X11_fails rfl rfl rfl (by decide +kernel) hRR ⟨Nat.le_of_ble_eq_true rfl, Nat.le_of_ble_eq_true rfl⟩) (by decide) rfl rfl rfl rfl (Nat.le_of_ble_eq_true rfl) hRR ⟨Nat.le_of_ble_eq_true rfl, Nat.le_of_ble_eq_true rfl⟩ dX11_addWork_57 (fun r z hp => ?_)
        obtain ⟨rfl, rfl⟩ := hp
        refine kv_if_ne (tgt := 86) X dX11_addWork_60 (by decide) (fun hc => absurd hc (by decide)) (fun hc60 => ?_)
        refine kv_aload_n X 0 dX11_addWork_63 rfl rfl ?_
        refine kv_aload_n X 0 dX11_addWork_64 rfl rfl ?_
        refine km_get X 12 (v := .ref (ad 12)) f_X11_addWork_34 rfl dX11_addWork_65 ?_
        refine kv_iload_n X 1 dX11_addWork_68 rfl rfl ?_
        refine km_iald X 12 (j := j8) (by decide) (by decide) rfl (by show _ < _; simp only [mLen]; omega) (by decide) dX11_addWork_69 ?_
        have e69 := (hcn j8 (by omega)).2
        refine kv_topi (nI (cn j8)) (hcn j8 (by omega)).1 ?_
        refine kv_iconst (v := 4) X dX11_addWork_70 (by decide) ?_
        refine kn_icmp_ne (x := cn j8) (y := 4) (tgt := 78) X (by omega) (by omega) dX11_addWork_71 (by decide) (fun hc71 => ?_) (fun hc71 => ?_)
        ·
          refine kv_iconst (v := 0) X dX11_addWork_78 (by decide) ?_
          refine kv_iconst (v := 3) X dX11_addWork_79 (by decide) ?_
          refine kv_calliV (ci := 14) (κ := 0) (r1 := (TX11, 34)) (As := [.int 0, .int 3]) [] X (c_X11_fails0 l dd ad ((va_up M.1 0 0), M.2.1, M.2.2) 3 rfl) hl0 (kCV_of X 2 gX11_addWork_X11_fails rfl rfl rfl (by decide +kernel) hRR ⟨Nat.le_of_ble_eq_true rfl, Nat.le_of_ble_eq_true rfl⟩) (by decide) rfl rfl rfl rfl (Nat.le_of_ble_eq_true rfl) hRR ⟨Nat.le_of_ble_eq_true rfl, Nat.le_of_ble_eq_true rfl⟩ dX11_addWork_80 (fun r z hp => ?_)
          obtain ⟨rfl, rfl⟩ := hp
          refine kv_if_eq (tgt := 88) X dX11_addWork_83 (by decide) (fun hc83 => ?_) (fun hc => absurd hc (by decide))
          refine kv_aload_n X 0 dX11_addWork_88 rfl rfl ?_
          refine kv_iload_n X 1 dX11_addWork_89 rfl rfl ?_
          refine kv_iconst (v := 2) X dX11_addWork_90 (by decide) ?_
          refine kv_iload_n X 2 dX11_addWork_91 rfl rfl ?_
          refine kv_iload_n X 3 dX11_addWork_92 rfl rfl ?_
          refine kv_callvV (ci := 14) (κ := 0) (r1 := (TX11, 34)) (As := [.int (nI j8), .int 2, .int (nI j22), .int q]) [] X (c_X11_add l dd ad ((va_up M.1 0 0), M.2.1, M.2.2) j8 2 (nI j22) q (by omega) cn hcn (by have := (hcn j8 (by omega)).2; omega)) hl0 (kCV_of X 4 gX11_addWork_X11_add rfl rfl rfl (by decide +kernel) hRR ⟨Nat.le_of_ble_eq_true rfl, Nat.le_of_ble_eq_true rfl⟩) (by decide) rfl rfl rfl rfl (Nat.le_of_ble_eq_true rfl) hRR ⟨Nat.le_of_ble_eq_true rfl, Nat.le_of_ble_eq_true rfl⟩ dX11_addWork_93 (fun z hp => ?_)
          obtain rfl := hp
          refine kv_aload_n X 0 dX11_addWork_96 rfl rfl ?_
          refine km_get X 12 (v := .ref (ad 12)) f_X11_addWork_34 rfl dX11_addWork_97 ?_
          refine kv_iload_n X 1 dX11_addWork_100 rfl rfl ?_
          refine km_iald X 12 (j := j8) (by decide) (by decide) rfl (by show _ < _; simp only [mLen]; omega) (by decide) dX11_addWork_101 ?_
          refine kv_topi (nI (cn j8 + 1)) pk_us ?_
          exact kv_ireturn X hr (by decide) (by decide) ⟨((va_up M.1 0 0), (va_up (va_up (va_up (va_up M.2.1 13 (upd (M.2.1 13) (4 * j8 + cn j8) 2)) 14 (upd (M.2.1 14) (4 * j8 + cn j8) (nI j22))) 15 (upd (M.2.1 15) (4 * j8 + cn j8) q)) 12 (upd (M.2.1 12) j8 (nI (cn j8 + 1)))), M.2.2), Or.inr (Or.inr ⟨j8, j22, ⟨h8, h22, rfl, rfl, h45⟩, Or.inr ⟨by have := (hcn j8 (by omega)).2; omega, rfl, rfl⟩⟩), rfl⟩ dX11_addWork_102
        ·
          refine kv_iconst (v := 1) X dX11_addWork_74 (by decide) ?_
          refine kv_goto (tgt := 79) X dX11_addWork_75 (by decide) ?_
          refine kv_iconst (v := 3) X dX11_addWork_79 (by decide) ?_
          refine kv_calliV (ci := 14) (κ := 0) (r1 := (TX11, 34)) (As := [.int 1, .int 3]) [] X (c_X11_fails1 l dd ad ((va_up M.1 0 0), M.2.1, M.2.2) 3 (by decide) rfl) hl0 (kCV_of X 2 gX11_addWork_X11_fails rfl rfl rfl (by decide +kernel) hRR ⟨Nat.le_of_ble_eq_true rfl, Nat.le_of_ble_eq_true rfl⟩) (by decide) rfl rfl rfl rfl (Nat.le_of_ble_eq_true rfl) hRR ⟨Nat.le_of_ble_eq_true rfl, Nat.le_of_ble_eq_true rfl⟩ dX11_addWork_80 (fun r z hp => ?_)
          obtain ⟨rfl, rfl⟩ := hp
          refine kv_if_eq (tgt := 88) X dX11_addWork_83 (by decide) (fun hc => absurd hc (by decide)) (fun hc83 => ?_)
          refine kv_iconst (v := 0) X dX11_addWork_86 (by decide) ?_
          exact kv_ireturn X hr (by decide) (by decide) ⟨((va_up (va_up M.1 0 0) 0 3), M.2.1, M.2.2), Or.inr (Or.inr ⟨j8, j22, ⟨h8, h22, rfl, rfl, h45⟩, Or.inl ⟨hc71, rfl, rfl⟩⟩), rfl⟩ dX11_addWork_87
      ·
        refine kv_if_ne (tgt := 55) X dX11_addWork_48 (by decide) (fun hc => absurd hc (by decide)) (fun hc48 => ?_)
        refine kv_iconst (v := 1) X dX11_addWork_51 (by decide) ?_
        refine kv_goto (tgt := 56) X dX11_addWork_52 (by decide) ?_
        refine kv_iconst (v := 2) X dX11_addWork_56 (by decide) ?_
        refine kv_calliV (ci := 14) (κ := 0) (r1 := (TX11, 34)) (As := [.int 1, .int 2]) [] X (c_X11_fails1 l dd ad ((va_up M.1 0 0), M.2.1, M.2.2) 2 (by decide) rfl) hl0 (kCV_of X 2 gX11_addWork_X11_fails rfl rfl rfl (by decide +kernel) hRR ⟨Nat.le_of_ble_eq_true rfl, Nat.le_of_ble_eq_true rfl⟩) (by decide) rfl rfl rfl rfl (Nat.le_of_ble_eq_true rfl) hRR ⟨Nat.le_of_ble_eq_true rfl, Nat.le_of_ble_eq_true rfl⟩ dX11_addWork_57 (fun r z hp => ?_)
        obtain ⟨rfl, rfl⟩ := hp
        refine kv_if_ne (tgt := 86) X dX11_addWork_60 (by decide) (fun hc60 => ?_) (fun hc => absurd hc (by decide))
        refine kv_iconst (v := 0) X dX11_addWork_86 (by decide) ?_
        exact kv_ireturn X hr (by decide) (by decide) ⟨((va_up (va_up M.1 0 0) 0 2), M.2.1, M.2.2), Or.inr (Or.inl ⟨⟨⟨j8, h8, rfl⟩, ⟨j22, h22, rfl⟩⟩, h45, rfl, rfl⟩), rfl⟩ dX11_addWork_87
    ·
      have h22 := fun q => o22 ((k_rng (by omega)).mpr q)
      refine kv_if_ne (tgt := 32) X dX11_addWork_25 (by decide) (fun hc => absurd hc (by decide)) (fun hc25 => ?_)
      refine kv_iconst (v := 1) X dX11_addWork_28 (by decide) ?_
      refine kv_goto (tgt := 33) X dX11_addWork_29 (by decide) ?_
      refine kv_iconst (v := 1) X dX11_addWork_33 (by decide) ?_
      refine kv_calliV (ci := 14) (κ := 0) (r1 := (TX11, 34)) (As := [.int 1, .int 1]) [] X (c_X11_fails1 l dd ad ((va_up M.1 0 0), M.2.1, M.2.2) 1 (by decide) rfl) hl0 (kCV_of X 2 gX11_addWork_X11_fails rfl rfl rfl (by decide +kernel) hRR ⟨Nat.le_of_ble_eq_true rfl, Nat.le_of_ble_eq_true rfl⟩) (by decide) rfl rfl rfl rfl (Nat.le_of_ble_eq_true rfl) hRR ⟨Nat.le_of_ble_eq_true rfl, Nat.le_of_ble_eq_true rfl⟩ dX11_addWork_34 (fun r z hp => ?_)
      obtain ⟨rfl, rfl⟩ := hp
      refine kv_if_ne (tgt := 86) X dX11_addWork_37 (by decide) (fun hc37 => ?_) (fun hc => absurd hc (by decide))
      refine kv_iconst (v := 0) X dX11_addWork_86 (by decide) ?_
      exact kv_ireturn X hr (by decide) (by decide) ⟨((va_up (va_up M.1 0 0) 0 1), M.2.1, M.2.2), Or.inl ⟨fun y => by first | exact absurd y.1 h8 | exact absurd y.2 h22, rfl, rfl⟩, rfl⟩ dX11_addWork_87
theorem fp_X11_dropLast_86 : kFp wsX11_dropLast RX11 86 14 0 .int false := ⟨_, RX11, TX11, 34, tyX11, fun _ h => (List.mem_cons_of_mem _ (List.mem_append_left _ (List.mem_append_right _ h))), tyX11_ok, nmX11, (List.mem_cons_of_mem _ (List.mem_append_left _ (List.mem_append_left _ (List.mem_of_getElem? (i := 0) rfl)))), rfl, by decide, rfl, rfl, by decide +kernel, rfl⟩
theorem f_X11_dropLast_34 : kF wsX11_dropLast RX11 34 14 12 := ⟨_, RX11, TX11, 34, fun _ h => (List.mem_cons_of_mem _ (List.mem_append_left _ (List.mem_append_right _ h))), (List.mem_cons_of_mem _ (List.mem_append_left _ (List.mem_append_left _ (List.mem_of_getElem? (i := 1) rfl)))), rfl, by decide, rfl⟩
set_option maxRecDepth 100000 in
set_option maxHeartbeats 4000000 in
theorem c_X11_dropLast (l : Launch) (dd : kDD) (ad : Nat → Nat) (M : mS) (v : Int32) (nt : Nat) (hT : M.1 10 = nI nt ∧ nt ≤ 12) (cn : Nat → Nat) (hcn : ∀ i, i < 12 → M.2.1 12 i = nI (cn i) ∧ cn i ≤ 4) : kCi l yX11_dropLast wsX11_dropLast ({ frames := 2, cells := 0, slots := 0, locals := 43 } : Room) 0 0 dd [.ref (ad 0), .int v] (mK, ad, mE dd ad M) (kQi (S := mS) (fun r z => (¬ (∃ j, j < nt ∧ v = nI j) ∧ mT M 1 = z ∧ r = 0) ∨ ∃ j, (j < nt ∧ v = nI j) ∧ ((cn j = 0 ∧ mT M 2 = z ∧ r = 0) ∨ (0 < cn j ∧ ((mT0 M).1, va_up M.2.1 12 (upd (M.2.1 12) j (nI (cn j - 1))), M.2.2) = z ∧ r = nI (cn j - 1)))) (fun _ => mK) (fun _ => ad) (fun z => mE dd ad z)) := by
  refine kMeti (ws' := _) (cc := cX11_dropLast) (maxL := 2) (rt := .int) (by decide) rfl (Nat.le_of_ble_eq_true rfl) (fun g X hr hnL hRR hl0 hkn => ?_)
  show kv dd g 0 0 0 [(0, .ref (ad 0)), (1, .int v)] [] mK ad (mE dd ad M)
  refine kv_aload_n X 0 dX11_dropLast_0 rfl rfl ?_
  refine kv_iconst (v := 0) X dX11_dropLast_1 (by decide) ?_
  refine km_put X 0 (x := 0) fp_X11_dropLast_86 (by decide) dX11_dropLast_2 ?_
  refine kv_aload_n X 0 dX11_dropLast_5 rfl rfl ?_
  refine kv_aload_n X 0 dX11_dropLast_6 rfl rfl ?_
  refine kv_iload_n X 1 dX11_dropLast_7 rfl rfl ?_
  refine kv_calliV (ci := 14) (κ := 0) (r1 := (TX11, 34)) (As := [.int v]) [.ref (ad 0)] X (c_X11_noItem l dd ad ((va_up M.1 0 0), M.2.1, M.2.2) v nt hT.2 hT.1) hl0 (kCV_of X 1 gX11_dropLast_X11_noItem rfl rfl rfl (by decide +kernel) hRR ⟨Nat.le_of_ble_eq_true rfl, Nat.le_of_ble_eq_true rfl⟩) (by decide) rfl rfl rfl rfl (Nat.le_of_ble_eq_true rfl) hRR ⟨Nat.le_of_ble_eq_true rfl, Nat.le_of_ble_eq_true rfl⟩ dX11_dropLast_8 (fun r z hp => ?_)
  obtain ⟨rfl, ⟨rfl, h8⟩ | ⟨rfl, j8, h8, rfl⟩⟩ := hp
  ·
    refine kv_iconst (v := 1) X dX11_dropLast_11 (by decide) ?_
    refine kv_calliV (ci := 14) (κ := 0) (r1 := (TX11, 34)) (As := [.int 1, .int 1]) [] X (c_X11_fails1 l dd ad ((va_up M.1 0 0), M.2.1, M.2.2) 1 (by decide) rfl) hl0 (kCV_of X 2 gX11_dropLast_X11_fails rfl rfl rfl (by decide +kernel) hRR ⟨Nat.le_of_ble_eq_true rfl, Nat.le_of_ble_eq_true rfl⟩) (by decide) rfl rfl rfl rfl (Nat.le_of_ble_eq_true rfl) hRR ⟨Nat.le_of_ble_eq_true rfl, Nat.le_of_ble_eq_true rfl⟩ dX11_dropLast_12 (fun r z hp => ?_)
    obtain ⟨rfl, rfl⟩ := hp
    refine kv_if_ne (tgt := 40) X dX11_dropLast_15 (by decide) (fun hc15 => ?_) (fun hc => absurd hc (by decide))
    refine kv_iconst (v := 0) X dX11_dropLast_40 (by decide) ?_
    exact kv_ireturn X hr (by decide) (by decide) ⟨((va_up (va_up M.1 0 0) 0 1), M.2.1, M.2.2), Or.inl ⟨h8, rfl, rfl⟩, rfl⟩ dX11_dropLast_41
  ·
    refine kv_iconst (v := 1) X dX11_dropLast_11 (by decide) ?_
    refine kv_calliV (ci := 14) (κ := 0) (r1 := (TX11, 34)) (As := [.int 0, .int 1]) [] X (c_X11_fails0 l dd ad ((va_up M.1 0 0), M.2.1, M.2.2) 1 rfl) hl0 (kCV_of X 2 gX11_dropLast_X11_fails rfl rfl rfl (by decide +kernel) hRR ⟨Nat.le_of_ble_eq_true rfl, Nat.le_of_ble_eq_true rfl⟩) (by decide) rfl rfl rfl rfl (Nat.le_of_ble_eq_true rfl) hRR ⟨Nat.le_of_ble_eq_true rfl, Nat.le_of_ble_eq_true rfl⟩ dX11_dropLast_12 (fun r z hp => ?_)
    obtain ⟨rfl, rfl⟩ := hp
    refine kv_if_ne (tgt := 40) X dX11_dropLast_15 (by decide) (fun hc => absurd hc (by decide)) (fun hc15 => ?_)
    refine kv_aload_n X 0 dX11_dropLast_18 rfl rfl ?_
    refine kv_aload_n X 0 dX11_dropLast_19 rfl rfl ?_
    refine km_get X 12 (v := .ref (ad 12)) f_X11_dropLast_34 rfl dX11_dropLast_20 ?_
    refine kv_iload_n X 1 dX11_dropLast_23 rfl rfl ?_
    refine km_iald X 12 (j := j8) (by decide) (by decide) rfl (by show _ < _; simp only [mLen]; omega) (by decide) dX11_dropLast_24 ?_
    have e24 := (hcn j8 (by omega)).2
    refine kv_topi (nI (cn j8)) (hcn j8 (by omega)).1 ?_
    refine kn_if_ne (x := cn j8) (tgt := 32) X (by omega) dX11_dropLast_25 (by decide) (fun hc25 => ?_) (fun hc25 => ?_)
    ·
      refine kv_iconst (v := 0) X dX11_dropLast_32 (by decide) ?_
      refine kv_iconst (v := 2) X dX11_dropLast_33 (by decide) ?_
      refine kv_calliV (ci := 14) (κ := 0) (r1 := (TX11, 34)) (As := [.int 0, .int 2]) [] X (c_X11_fails0 l dd ad ((va_up M.1 0 0), M.2.1, M.2.2) 2 rfl) hl0 (kCV_of X 2 gX11_dropLast_X11_fails rfl rfl rfl (by decide +kernel) hRR ⟨Nat.le_of_ble_eq_true rfl, Nat.le_of_ble_eq_true rfl⟩) (by decide) rfl rfl rfl rfl (Nat.le_of_ble_eq_true rfl) hRR ⟨Nat.le_of_ble_eq_true rfl, Nat.le_of_ble_eq_true rfl⟩ dX11_dropLast_34 (fun r z hp => ?_)
      obtain ⟨rfl, rfl⟩ := hp
      refine kv_if_eq (tgt := 42) X dX11_dropLast_37 (by decide) (fun hc37 => ?_) (fun hc => absurd hc (by decide))
      refine kv_aload_n X 0 dX11_dropLast_42 rfl rfl ?_
      refine km_get X 12 (v := .ref (ad 12)) f_X11_dropLast_34 rfl dX11_dropLast_43 ?_
      refine kv_iload_n X 1 dX11_dropLast_46 rfl rfl ?_
      refine kv_dup2_11 X dX11_dropLast_47 rfl rfl ?_
      refine km_iald X 12 (j := j8) (by decide) (by decide) rfl (by show _ < _; simp only [mLen]; omega) (by decide) dX11_dropLast_48 ?_
      have e48 := (hcn j8 (by omega)).2
      refine kv_topi (nI (cn j8)) (hcn j8 (by omega)).1 ?_
      refine kv_iconst (v := 1) X dX11_dropLast_49 (by decide) ?_
      refine kv_isub X dX11_dropLast_50 ?_
      refine kv_topi (nI (cn j8 - 1)) (pk_sub (b := 1) (by omega)) ?_
      refine km_iast X 12 (j := j8) (x := (nI (cn j8 - 1))) (by decide) (by decide) rfl (by show _ < _; simp only [mLen]; omega) (by decide) dX11_dropLast_51 ?_
      refine kv_aload_n X 0 dX11_dropLast_52 rfl rfl ?_
      refine km_get X 12 (v := .ref (ad 12)) f_X11_dropLast_34 rfl dX11_dropLast_53 ?_
      refine kv_iload_n X 1 dX11_dropLast_56 rfl rfl ?_
      refine km_iald X 12 (j := j8) (by decide) (by decide) rfl (by show _ < _; simp only [mLen]; omega) (by decide) dX11_dropLast_57 ?_
      refine kv_topi (nI (cn j8 - 1)) pk_us ?_
      exact kv_ireturn X hr (by decide) (by decide) ⟨((va_up M.1 0 0), (va_up M.2.1 12 (upd (M.2.1 12) j8 (nI (cn j8 - 1)))), M.2.2), Or.inr ⟨j8, ⟨h8, rfl⟩, Or.inr ⟨by omega, rfl, rfl⟩⟩, rfl⟩ dX11_dropLast_58
    ·
      refine kv_iconst (v := 1) X dX11_dropLast_28 (by decide) ?_
      refine kv_goto (tgt := 33) X dX11_dropLast_29 (by decide) ?_
      refine kv_iconst (v := 2) X dX11_dropLast_33 (by decide) ?_
      refine kv_calliV (ci := 14) (κ := 0) (r1 := (TX11, 34)) (As := [.int 1, .int 2]) [] X (c_X11_fails1 l dd ad ((va_up M.1 0 0), M.2.1, M.2.2) 2 (by decide) rfl) hl0 (kCV_of X 2 gX11_dropLast_X11_fails rfl rfl rfl (by decide +kernel) hRR ⟨Nat.le_of_ble_eq_true rfl, Nat.le_of_ble_eq_true rfl⟩) (by decide) rfl rfl rfl rfl (Nat.le_of_ble_eq_true rfl) hRR ⟨Nat.le_of_ble_eq_true rfl, Nat.le_of_ble_eq_true rfl⟩ dX11_dropLast_34 (fun r z hp => ?_)
      obtain ⟨rfl, rfl⟩ := hp
      refine kv_if_eq (tgt := 42) X dX11_dropLast_37 (by decide) (fun hc => absurd hc (by decide)) (fun hc37 => ?_)
      refine kv_iconst (v := 0) X dX11_dropLast_40 (by decide) ?_
      exact kv_ireturn X hr (by decide) (by decide) ⟨((va_up (va_up M.1 0 0) 0 2), M.2.1, M.2.2), Or.inr ⟨j8, ⟨h8, rfl⟩, Or.inl ⟨hc25, rfl, rfl⟩⟩, rfl⟩ dX11_dropLast_41
theorem fp_X11_addVariant_86 : kFp wsX11_addVariant RX11 86 14 0 .int false := ⟨_, RX11, TX11, 34, tyX11, fun _ h => (List.mem_cons_of_mem _ (List.mem_append_left _ (List.mem_append_right _ h))), tyX11_ok, nmX11, (List.mem_cons_of_mem _ (List.mem_append_left _ (List.mem_append_left _ (List.mem_of_getElem? (i := 0) rfl)))), rfl, by decide, rfl, rfl, by decide +kernel, rfl⟩
theorem f_X11_addVariant_103 : kF wsX11_addVariant RX11 103 14 21 := ⟨_, RX11, TX11, 34, fun _ h => (List.mem_cons_of_mem _ (List.mem_append_left _ (List.mem_append_right _ h))), (List.mem_cons_of_mem _ (List.mem_append_left _ (List.mem_append_left _ (List.mem_of_getElem? (i := 1) rfl)))), rfl, by decide, rfl⟩
theorem fp_X11_addVariant_103 : kFp wsX11_addVariant RX11 103 14 21 .int false := ⟨_, RX11, TX11, 34, tyX11, fun _ h => (List.mem_cons_of_mem _ (List.mem_append_left _ (List.mem_append_right _ h))), tyX11_ok, nmX11, (List.mem_cons_of_mem _ (List.mem_append_left _ (List.mem_append_left _ (List.mem_of_getElem? (i := 1) rfl)))), rfl, by decide, rfl, rfl, by decide +kernel, rfl⟩
theorem f_X11_addVariant_55 : kF wsX11_addVariant RX11 55 14 22 := ⟨_, RX11, TX11, 34, fun _ h => (List.mem_cons_of_mem _ (List.mem_append_left _ (List.mem_append_right _ h))), (List.mem_cons_of_mem _ (List.mem_append_left _ (List.mem_append_left _ (List.mem_of_getElem? (i := 2) rfl)))), rfl, by decide, rfl⟩
theorem f_X11_addVariant_58 : kF wsX11_addVariant RX11 58 14 23 := ⟨_, RX11, TX11, 34, fun _ h => (List.mem_cons_of_mem _ (List.mem_append_left _ (List.mem_append_right _ h))), (List.mem_cons_of_mem _ (List.mem_append_left _ (List.mem_append_left _ (List.mem_of_getElem? (i := 3) rfl)))), rfl, by decide, rfl⟩
set_option maxRecDepth 100000 in
set_option maxHeartbeats 4000000 in
theorem c_X11_addVariant (l : Launch) (dd : kDD) (ad : Nat → Nat) (M : mS)  (nV : Nat) (hV : M.1 21 = nI nV ∧ nV ≤ 4) : kCi l yX11_addVariant wsX11_addVariant ({ frames := 1, cells := 0, slots := 0, locals := 22 } : Room) 0 0 dd [.ref (ad 0)] (mK, ad, mE dd ad M) (kQi (S := mS) (fun r z => (nV = 4 ∧ mT M 1 = z ∧ r = 0) ∨ (nV < 4 ∧ (va_up (va_up M.1 0 0) 21 (nI (nV + 1)), va_up (va_up M.2.1 22 (mfill (M.2.1 22) (12 * nV) 12)) 23 (mfill (M.2.1 23) (12 * nV) 12), M.2.2) = z ∧ r = nI nV)) (fun _ => mK) (fun _ => ad) (fun z => mE dd ad z)) := by
  refine kMeti (ws' := _) (cc := cX11_addVariant) (maxL := 2) (rt := .int) (by decide) rfl (Nat.le_of_ble_eq_true rfl) (fun g X hr hnL hRR hl0 hkn => ?_)
  show kv dd g 0 0 0 [(0, .ref (ad 0))] [] mK ad (mE dd ad M)
  refine kv_aload_n X 0 dX11_addVariant_0 rfl rfl ?_
  refine kv_iconst (v := 0) X dX11_addVariant_1 (by decide) ?_
  refine km_put X 0 (x := 0) fp_X11_addVariant_86 (by decide) dX11_addVariant_2 ?_
  refine kv_aload_n X 0 dX11_addVariant_5 rfl rfl ?_
  refine kv_aload_n X 0 dX11_addVariant_6 rfl rfl ?_
  refine km_get X 21 (v := .int (M.1 21)) f_X11_addVariant_103 rfl dX11_addVariant_7 ?_
  refine kv_topi (nI nV) hV.1 ?_
  refine kv_iconst (v := 4) X dX11_addVariant_10 (by decide) ?_
  refine kn_icmp_ne (x := nV) (y := 4) (tgt := 18) X (by omega) (by omega) dX11_addVariant_11 (by decide) (fun hc11 => ?_) (fun hc11 => ?_)
  ·
    refine kv_iconst (v := 0) X dX11_addVariant_18 (by decide) ?_
    refine kv_iconst (v := 1) X dX11_addVariant_19 (by decide) ?_
    refine kv_calliV (ci := 14) (κ := 0) (r1 := (TX11, 34)) (As := [.int 0, .int 1]) [] X (c_X11_fails0 l dd ad ((va_up M.1 0 0), M.2.1, M.2.2) 1 rfl) hl0 (kCV_of X 2 gX11_addVariant_X11_fails rfl rfl rfl (by decide +kernel) hRR ⟨Nat.le_of_ble_eq_true rfl, Nat.le_of_ble_eq_true rfl⟩) (by decide) rfl rfl rfl rfl (Nat.le_of_ble_eq_true rfl) hRR ⟨Nat.le_of_ble_eq_true rfl, Nat.le_of_ble_eq_true rfl⟩ dX11_addVariant_20 (fun r z hp => ?_)
    obtain ⟨rfl, rfl⟩ := hp
    refine kv_if_eq (tgt := 28) X dX11_addVariant_23 (by decide) (fun hc23 => ?_) (fun hc => absurd hc (by decide))
    refine kv_iconst (v := 0) X dX11_addVariant_28 (by decide) ?_
    refine kv_istore_n (lv2 := [(1, .int 0), (0, .ref (ad 0))]) X dX11_addVariant_29 rfl (by rw [hnL]; decide) rfl ?_
    refine kv_M ((va_up M.1 0 0), (va_up (va_up M.2.1 22 (mfill (M.2.1 22) (12 * nV) (0))) 23 (mfill (M.2.1 23) (12 * nV) (0))), M.2.2) (by show ((va_up M.1 0 0), M.2.1, M.2.2) = _; simp only [mfill_0, va_up_id]) ?_
    have L30 : ∀ (n i : Nat), i + n = 12 → ∀ (_ : Unit) , kv dd g 0 0 30 [(1, .int (nI i)), (0, .ref (ad 0))] [] mK ad (mE dd ad ((va_up M.1 0 0), (va_up (va_up M.2.1 22 (mfill (M.2.1 22) (12 * nV) (i))) 23 (mfill (M.2.1 23) (12 * nV) (i))), M.2.2)) := by
      intro n
      induction n with
      | zero =>
        intro i hin30 _ 
        refine kv_iload_n X 0 dX11_addVariant_30 rfl rfl ?_
        refine kv_bipush (v := 12) X dX11_addVariant_31 (by decide) ?_
        refine kn_icmp_ge (x := i) (y := 12) (tgt := 72) X (by omega) (by omega) dX11_addVariant_33 (by decide) (fun hc33 => ?_) (fun hc33 => absurd hc33 (by omega))
        obtain rfl : i = 12 := by omega
        refine kv_aload_n X 1 dX11_addVariant_72 rfl rfl ?_
        refine kv_dup X dX11_addVariant_73 rfl ?_
        refine km_get X 21 (v := .int (M.1 21)) f_X11_addVariant_103 rfl dX11_addVariant_74 ?_
        refine kv_topi (nI nV) hV.1 ?_
        refine kv_iconst (v := 1) X dX11_addVariant_77 (by decide) ?_
        refine kv_iadd X dX11_addVariant_78 ?_
        refine kv_topi (nI (nV + 1)) (nI_add nV 1) ?_
        refine km_put X 21 (x := (nI (nV + 1))) fp_X11_addVariant_103 (by decide) dX11_addVariant_79 ?_
        refine kv_aload_n X 1 dX11_addVariant_82 rfl rfl ?_
        refine km_get X 21 (v := .int (nI (nV + 1))) f_X11_addVariant_103 rfl dX11_addVariant_83 ?_
        refine kv_iconst (v := 1) X dX11_addVariant_86 (by decide) ?_
        refine kv_isub X dX11_addVariant_87 ?_
        exact kv_ireturn X hr (by decide) (by decide) ⟨((va_up (va_up M.1 0 0) 21 (nI (nV + 1))), (va_up (va_up M.2.1 22 (mfill (M.2.1 22) (12 * nV) (12))) 23 (mfill (M.2.1 23) (12 * nV) (12))), M.2.2), Or.inr ⟨by omega, rfl, nI_pred nV⟩, rfl⟩ dX11_addVariant_88
      | succ n ih30 =>
        intro i hin30 _ 
        refine kv_iload_n X 0 dX11_addVariant_30 rfl rfl ?_
        refine kv_bipush (v := 12) X dX11_addVariant_31 (by decide) ?_
        refine kn_icmp_ge (x := i) (y := 12) (tgt := 72) X (by omega) (by omega) dX11_addVariant_33 (by decide) (fun hc33 => absurd hc33 (by omega)) (fun hc33 => ?_)
        refine kv_aload_n X 1 dX11_addVariant_36 rfl rfl ?_
        refine km_get X 22 (v := .ref (ad 22)) f_X11_addVariant_55 rfl dX11_addVariant_37 ?_
        refine kv_bipush (v := 12) X dX11_addVariant_40 (by decide) ?_
        refine kv_aload_n X 1 dX11_addVariant_42 rfl rfl ?_
        refine km_get X 21 (v := .int (M.1 21)) f_X11_addVariant_103 rfl dX11_addVariant_43 ?_
        refine kv_topi (nI nV) hV.1 ?_
        refine kv_imul X dX11_addVariant_46 ?_
        refine kv_topi (nI (12 * nV)) (pk_mul 12 nV) ?_
        refine kv_iload_n X 0 dX11_addVariant_47 rfl rfl ?_
        refine kv_iadd X dX11_addVariant_48 ?_
        refine kv_topi (nI ((12 * nV) + i)) (nI_add (12 * nV) i) ?_
        refine kv_iconst (v := (-1)) X dX11_addVariant_49 (by decide) ?_
        refine km_iast X 22 (j := (12 * nV) + i) (x := (-1)) (by decide) (by decide) rfl (by show _ < _; simp only [mLen]; omega) (by decide) dX11_addVariant_50 ?_
        refine kv_aload_n X 1 dX11_addVariant_51 rfl rfl ?_
        refine km_get X 23 (v := .ref (ad 23)) f_X11_addVariant_58 rfl dX11_addVariant_52 ?_
        refine kv_bipush (v := 12) X dX11_addVariant_55 (by decide) ?_
        refine kv_aload_n X 1 dX11_addVariant_57 rfl rfl ?_
        refine km_get X 21 (v := .int (M.1 21)) f_X11_addVariant_103 rfl dX11_addVariant_58 ?_
        refine kv_topi (nI nV) hV.1 ?_
        refine kv_imul X dX11_addVariant_61 ?_
        refine kv_topi (nI (12 * nV)) (pk_mul 12 nV) ?_
        refine kv_iload_n X 0 dX11_addVariant_62 rfl rfl ?_
        refine kv_iadd X dX11_addVariant_63 ?_
        refine kv_topi (nI ((12 * nV) + i)) (nI_add (12 * nV) i) ?_
        refine kv_iconst (v := (-1)) X dX11_addVariant_64 (by decide) ?_
        refine km_iast X 23 (j := (12 * nV) + i) (x := (-1)) (by decide) (by decide) rfl (by show _ < _; simp only [mLen]; omega) (by decide) dX11_addVariant_65 ?_
        refine kv_M ((va_up M.1 0 0), (va_up (va_up M.2.1 22 (mfill (M.2.1 22) (12 * nV) (i + 1))) 23 (mfill (M.2.1 23) (12 * nV) (i + 1))), M.2.2) (by show ((va_up M.1 0 0), (va_up (va_up (va_up (va_up M.2.1 22 (mfill (M.2.1 22) (12 * nV) (i))) 23 (mfill (M.2.1 23) (12 * nV) (i))) 22 (upd (mfill (M.2.1 22) (12 * nV) (i)) ((12 * nV) + i) (-1))) 23 (upd (mfill (M.2.1 23) (12 * nV) (i)) ((12 * nV) + i) (-1))), M.2.2) = _; rw [va_up_abab, mfill_s, mfill_s]) ?_
        refine kv_iinc (j := 0) (v := (nI (i + 1))) (lv2 := [(1, .int (nI (i + 1))), (0, .ref (ad 0))]) X dX11_addVariant_66 rfl (nI_add i 1) (by rw [hnL]; decide) rfl ?_
        refine kv_goto (tgt := 30) X dX11_addVariant_69 (by decide) ?_
        exact kv_lv [0, 1] rfl (ih30 (i + 1) (by omega) ())
    exact kv_lv [0, 1] rfl (L30 12 0 (by omega) ())
  ·
    refine kv_iconst (v := 1) X dX11_addVariant_14 (by decide) ?_
    refine kv_goto (tgt := 19) X dX11_addVariant_15 (by decide) ?_
    refine kv_iconst (v := 1) X dX11_addVariant_19 (by decide) ?_
    refine kv_calliV (ci := 14) (κ := 0) (r1 := (TX11, 34)) (As := [.int 1, .int 1]) [] X (c_X11_fails1 l dd ad ((va_up M.1 0 0), M.2.1, M.2.2) 1 (by decide) rfl) hl0 (kCV_of X 2 gX11_addVariant_X11_fails rfl rfl rfl (by decide +kernel) hRR ⟨Nat.le_of_ble_eq_true rfl, Nat.le_of_ble_eq_true rfl⟩) (by decide) rfl rfl rfl rfl (Nat.le_of_ble_eq_true rfl) hRR ⟨Nat.le_of_ble_eq_true rfl, Nat.le_of_ble_eq_true rfl⟩ dX11_addVariant_20 (fun r z hp => ?_)
    obtain ⟨rfl, rfl⟩ := hp
    refine kv_if_eq (tgt := 28) X dX11_addVariant_23 (by decide) (fun hc => absurd hc (by decide)) (fun hc23 => ?_)
    refine kv_iconst (v := 0) X dX11_addVariant_26 (by decide) ?_
    exact kv_ireturn X hr (by decide) (by decide) ⟨((va_up (va_up M.1 0 0) 0 1), M.2.1, M.2.2), Or.inl ⟨hc11, rfl, rfl⟩, rfl⟩ dX11_addVariant_27
theorem fp_X11_replaceItem_86 : kFp wsX11_replaceItem RX11 86 14 0 .int false := ⟨_, RX11, TX11, 34, tyX11, fun _ h => (List.mem_cons_of_mem _ (List.mem_append_left _ (List.mem_append_right _ h))), tyX11_ok, nmX11, (List.mem_cons_of_mem _ (List.mem_append_left _ (List.mem_append_left _ (List.mem_of_getElem? (i := 0) rfl)))), rfl, by decide, rfl, rfl, by decide +kernel, rfl⟩
theorem f_X11_replaceItem_117 : kF wsX11_replaceItem RX11 117 14 24 := ⟨_, RX11, TX11, 34, fun _ h => (List.mem_cons_of_mem _ (List.mem_append_left _ (List.mem_append_right _ h))), (List.mem_cons_of_mem _ (List.mem_append_left _ (List.mem_append_left _ (List.mem_of_getElem? (i := 1) rfl)))), rfl, by decide, rfl⟩
theorem f_X11_replaceItem_55 : kF wsX11_replaceItem RX11 55 14 22 := ⟨_, RX11, TX11, 34, fun _ h => (List.mem_cons_of_mem _ (List.mem_append_left _ (List.mem_append_right _ h))), (List.mem_cons_of_mem _ (List.mem_append_left _ (List.mem_append_left _ (List.mem_of_getElem? (i := 2) rfl)))), rfl, by decide, rfl⟩
set_option maxRecDepth 100000 in
set_option maxHeartbeats 4000000 in
theorem c_X11_replaceItem (l : Launch) (dd : kDD) (ad : Nat → Nat) (M : mS) (v : Int32) (x : Int32) (y : Int32) (nV : Nat) (hV : M.1 21 = nI nV ∧ nV ≤ 4) (nt : Nat) (hT : M.1 10 = nI nt ∧ nt ≤ 12) : kCi l yX11_replaceItem wsX11_replaceItem ({ frames := 2, cells := 0, slots := 0, locals := 43 } : Room) 0 0 dd [.ref (ad 0), .int v, .int x, .int y] (mK, ad, mE dd ad M) (kQi (S := mS) (fun r z => (¬ ((∃ j, j < nV ∧ v = nI j) ∧ (∃ j, j < nt ∧ x = nI j) ∧ (∃ j, j < nt ∧ y = nI j)) ∧ mT M 1 = z ∧ r = 0) ∨ ∃ jv, ∃ ja, ∃ jb, (jv < nV ∧ ja < nt ∧ jb < nt ∧ v = nI jv ∧ x = nI ja ∧ y = nI jb) ∧ ((¬ (ja ≠ jb) ∧ mT M 2 = z ∧ r = 0) ∨ ((ja ≠ jb) ∧ M.1 24 >>> (nI jv &&& 31) &&& 1 = 1 ∧ mT M 3 = z ∧ r = 0) ∨ ((ja ≠ jb) ∧ ¬ M.1 24 >>> (nI jv &&& 31) &&& 1 = 1 ∧ ((mT0 M).1, va_up M.2.1 22 (upd (M.2.1 22) (12 * jv + ja) (nI jb)), M.2.2) = z ∧ r = tld (upd (M.2.1 22) (12 * jv + ja) (nI jb)) (12 * jv) 12))) (fun _ => mK) (fun _ => ad) (fun z => mE dd ad z)) := by
  refine kMeti (ws' := _) (cc := cX11_replaceItem) (maxL := 4) (rt := .int) (by decide) rfl (Nat.le_of_ble_eq_true rfl) (fun g X hr hnL hRR hl0 hkn => ?_)
  show kv dd g 0 0 0 [(0, .ref (ad 0)), (1, .int v), (2, .int x), (3, .int y)] [] mK ad (mE dd ad M)
  refine kv_aload_n X 0 dX11_replaceItem_0 rfl rfl ?_
  refine kv_iconst (v := 0) X dX11_replaceItem_1 (by decide) ?_
  refine km_put X 0 (x := 0) fp_X11_replaceItem_86 (by decide) dX11_replaceItem_2 ?_
  refine kv_aload_n X 0 dX11_replaceItem_5 rfl rfl ?_
  refine kv_aload_n X 0 dX11_replaceItem_6 rfl rfl ?_
  refine kv_iload_n X 1 dX11_replaceItem_7 rfl rfl ?_
  refine kv_calliV (ci := 14) (κ := 0) (r1 := (TX11, 34)) (As := [.int v]) [.ref (ad 0)] X (c_X11_noVariant l dd ad ((va_up M.1 0 0), M.2.1, M.2.2) v nV hV.2 hV.1) hl0 (kCV_of X 1 gX11_replaceItem_X11_noVariant rfl rfl rfl (by decide +kernel) hRR ⟨Nat.le_of_ble_eq_true rfl, Nat.le_of_ble_eq_true rfl⟩) (by decide) rfl rfl rfl rfl (Nat.le_of_ble_eq_true rfl) hRR ⟨Nat.le_of_ble_eq_true rfl, Nat.le_of_ble_eq_true rfl⟩ dX11_replaceItem_8 (fun r z hp => ?_)
  obtain ⟨rfl, ⟨rfl, h8⟩ | ⟨rfl, j8, h8, rfl⟩⟩ := hp
  ·
    refine kv_if_ne (tgt := 30) X dX11_replaceItem_11 (by decide) (fun hc11 => ?_) (fun hc => absurd hc (by decide))
    refine kv_iconst (v := 1) X dX11_replaceItem_30 (by decide) ?_
    refine kv_goto (tgt := 35) X dX11_replaceItem_31 (by decide) ?_
    refine kv_iconst (v := 1) X dX11_replaceItem_35 (by decide) ?_
    refine kv_calliV (ci := 14) (κ := 0) (r1 := (TX11, 34)) (As := [.int 1, .int 1]) [] X (c_X11_fails1 l dd ad ((va_up M.1 0 0), M.2.1, M.2.2) 1 (by decide) rfl) hl0 (kCV_of X 2 gX11_replaceItem_X11_fails rfl rfl rfl (by decide +kernel) hRR ⟨Nat.le_of_ble_eq_true rfl, Nat.le_of_ble_eq_true rfl⟩) (by decide) rfl rfl rfl rfl (Nat.le_of_ble_eq_true rfl) hRR ⟨Nat.le_of_ble_eq_true rfl, Nat.le_of_ble_eq_true rfl⟩ dX11_replaceItem_36 (fun r z hp => ?_)
    obtain ⟨rfl, rfl⟩ := hp
    refine kv_if_ne (tgt := 85) X dX11_replaceItem_39 (by decide) (fun hc39 => ?_) (fun hc => absurd hc (by decide))
    refine kv_iconst (v := 0) X dX11_replaceItem_85 (by decide) ?_
    exact kv_ireturn X hr (by decide) (by decide) ⟨((va_up (va_up M.1 0 0) 0 1), M.2.1, M.2.2), Or.inl ⟨fun q => by first | exact absurd q.1 h8 | exact absurd q.2.1 h16 | exact absurd q.2.2 h24, rfl, rfl⟩, rfl⟩ dX11_replaceItem_86
  ·
    refine kv_if_ne (tgt := 30) X dX11_replaceItem_11 (by decide) (fun hc => absurd hc (by decide)) (fun hc11 => ?_)
    refine kv_aload_n X 0 dX11_replaceItem_14 rfl rfl ?_
    refine kv_iload_n X 2 dX11_replaceItem_15 rfl rfl ?_
    refine kv_calliV (ci := 14) (κ := 0) (r1 := (TX11, 34)) (As := [.int x]) [.ref (ad 0)] X (c_X11_noItem l dd ad ((va_up M.1 0 0), M.2.1, M.2.2) x nt hT.2 hT.1) hl0 (kCV_of X 1 gX11_replaceItem_X11_noItem rfl rfl rfl (by decide +kernel) hRR ⟨Nat.le_of_ble_eq_true rfl, Nat.le_of_ble_eq_true rfl⟩) (by decide) rfl rfl rfl rfl (Nat.le_of_ble_eq_true rfl) hRR ⟨Nat.le_of_ble_eq_true rfl, Nat.le_of_ble_eq_true rfl⟩ dX11_replaceItem_16 (fun r z hp => ?_)
    obtain ⟨rfl, ⟨rfl, h16⟩ | ⟨rfl, j16, h16, rfl⟩⟩ := hp
    ·
      refine kv_if_ne (tgt := 30) X dX11_replaceItem_19 (by decide) (fun hc19 => ?_) (fun hc => absurd hc (by decide))
      refine kv_iconst (v := 1) X dX11_replaceItem_30 (by decide) ?_
      refine kv_goto (tgt := 35) X dX11_replaceItem_31 (by decide) ?_
      refine kv_iconst (v := 1) X dX11_replaceItem_35 (by decide) ?_
      refine kv_calliV (ci := 14) (κ := 0) (r1 := (TX11, 34)) (As := [.int 1, .int 1]) [] X (c_X11_fails1 l dd ad ((va_up M.1 0 0), M.2.1, M.2.2) 1 (by decide) rfl) hl0 (kCV_of X 2 gX11_replaceItem_X11_fails rfl rfl rfl (by decide +kernel) hRR ⟨Nat.le_of_ble_eq_true rfl, Nat.le_of_ble_eq_true rfl⟩) (by decide) rfl rfl rfl rfl (Nat.le_of_ble_eq_true rfl) hRR ⟨Nat.le_of_ble_eq_true rfl, Nat.le_of_ble_eq_true rfl⟩ dX11_replaceItem_36 (fun r z hp => ?_)
      obtain ⟨rfl, rfl⟩ := hp
      refine kv_if_ne (tgt := 85) X dX11_replaceItem_39 (by decide) (fun hc39 => ?_) (fun hc => absurd hc (by decide))
      refine kv_iconst (v := 0) X dX11_replaceItem_85 (by decide) ?_
      exact kv_ireturn X hr (by decide) (by decide) ⟨((va_up (va_up M.1 0 0) 0 1), M.2.1, M.2.2), Or.inl ⟨fun q => by first | exact absurd q.1 h8 | exact absurd q.2.1 h16 | exact absurd q.2.2 h24, rfl, rfl⟩, rfl⟩ dX11_replaceItem_86
    ·
      refine kv_if_ne (tgt := 30) X dX11_replaceItem_19 (by decide) (fun hc => absurd hc (by decide)) (fun hc19 => ?_)
      refine kv_aload_n X 0 dX11_replaceItem_22 rfl rfl ?_
      refine kv_iload_n X 3 dX11_replaceItem_23 rfl rfl ?_
      refine kv_calliV (ci := 14) (κ := 0) (r1 := (TX11, 34)) (As := [.int y]) [.ref (ad 0)] X (c_X11_noItem l dd ad ((va_up M.1 0 0), M.2.1, M.2.2) y nt hT.2 hT.1) hl0 (kCV_of X 1 gX11_replaceItem_X11_noItem rfl rfl rfl (by decide +kernel) hRR ⟨Nat.le_of_ble_eq_true rfl, Nat.le_of_ble_eq_true rfl⟩) (by decide) rfl rfl rfl rfl (Nat.le_of_ble_eq_true rfl) hRR ⟨Nat.le_of_ble_eq_true rfl, Nat.le_of_ble_eq_true rfl⟩ dX11_replaceItem_24 (fun r z hp => ?_)
      obtain ⟨rfl, ⟨rfl, h24⟩ | ⟨rfl, j24, h24, rfl⟩⟩ := hp
      ·
        refine kv_if_eq (tgt := 34) X dX11_replaceItem_27 (by decide) (fun hc => absurd hc (by decide)) (fun hc27 => ?_)
        refine kv_iconst (v := 1) X dX11_replaceItem_30 (by decide) ?_
        refine kv_goto (tgt := 35) X dX11_replaceItem_31 (by decide) ?_
        refine kv_iconst (v := 1) X dX11_replaceItem_35 (by decide) ?_
        refine kv_calliV (ci := 14) (κ := 0) (r1 := (TX11, 34)) (As := [.int 1, .int 1]) [] X (c_X11_fails1 l dd ad ((va_up M.1 0 0), M.2.1, M.2.2) 1 (by decide) rfl) hl0 (kCV_of X 2 gX11_replaceItem_X11_fails rfl rfl rfl (by decide +kernel) hRR ⟨Nat.le_of_ble_eq_true rfl, Nat.le_of_ble_eq_true rfl⟩) (by decide) rfl rfl rfl rfl (Nat.le_of_ble_eq_true rfl) hRR ⟨Nat.le_of_ble_eq_true rfl, Nat.le_of_ble_eq_true rfl⟩ dX11_replaceItem_36 (fun r z hp => ?_)
        obtain ⟨rfl, rfl⟩ := hp
        refine kv_if_ne (tgt := 85) X dX11_replaceItem_39 (by decide) (fun hc39 => ?_) (fun hc => absurd hc (by decide))
        refine kv_iconst (v := 0) X dX11_replaceItem_85 (by decide) ?_
        exact kv_ireturn X hr (by decide) (by decide) ⟨((va_up (va_up M.1 0 0) 0 1), M.2.1, M.2.2), Or.inl ⟨fun q => by first | exact absurd q.1 h8 | exact absurd q.2.1 h16 | exact absurd q.2.2 h24, rfl, rfl⟩, rfl⟩ dX11_replaceItem_86
      ·
        refine kv_if_eq (tgt := 34) X dX11_replaceItem_27 (by decide) (fun hc27 => ?_) (fun hc => absurd hc (by decide))
        refine kv_iconst (v := 0) X dX11_replaceItem_34 (by decide) ?_
        refine kv_iconst (v := 1) X dX11_replaceItem_35 (by decide) ?_
        refine kv_calliV (ci := 14) (κ := 0) (r1 := (TX11, 34)) (As := [.int 0, .int 1]) [] X (c_X11_fails0 l dd ad ((va_up M.1 0 0), M.2.1, M.2.2) 1 rfl) hl0 (kCV_of X 2 gX11_replaceItem_X11_fails rfl rfl rfl (by decide +kernel) hRR ⟨Nat.le_of_ble_eq_true rfl, Nat.le_of_ble_eq_true rfl⟩) (by decide) rfl rfl rfl rfl (Nat.le_of_ble_eq_true rfl) hRR ⟨Nat.le_of_ble_eq_true rfl, Nat.le_of_ble_eq_true rfl⟩ dX11_replaceItem_36 (fun r z hp => ?_)
        obtain ⟨rfl, rfl⟩ := hp
        refine kv_if_ne (tgt := 85) X dX11_replaceItem_39 (by decide) (fun hc => absurd hc (by decide)) (fun hc39 => ?_)
        refine kv_aload_n X 0 dX11_replaceItem_42 rfl rfl ?_
        refine kv_iload_n X 2 dX11_replaceItem_43 rfl rfl ?_
        refine kv_iload_n X 3 dX11_replaceItem_44 rfl rfl ?_
        refine kn_icmp_ne (x := j16) (y := j24) (tgt := 52) X (by omega) (by omega) dX11_replaceItem_45 (by decide) (fun hc45 => ?_) (fun hc45 => ?_)
        ·
          refine kv_iconst (v := 0) X dX11_replaceItem_52 (by decide) ?_
          refine kv_iconst (v := 2) X dX11_replaceItem_53 (by decide) ?_
          refine kv_calliV (ci := 14) (κ := 0) (r1 := (TX11, 34)) (As := [.int 0, .int 2]) [] X (c_X11_fails0 l dd ad ((va_up M.1 0 0), M.2.1, M.2.2) 2 rfl) hl0 (kCV_of X 2 gX11_replaceItem_X11_fails rfl rfl rfl (by decide +kernel) hRR ⟨Nat.le_of_ble_eq_true rfl, Nat.le_of_ble_eq_true rfl⟩) (by decide) rfl rfl rfl rfl (Nat.le_of_ble_eq_true rfl) hRR ⟨Nat.le_of_ble_eq_true rfl, Nat.le_of_ble_eq_true rfl⟩ dX11_replaceItem_54 (fun r z hp => ?_)
          obtain ⟨rfl, rfl⟩ := hp
          refine kv_if_ne (tgt := 85) X dX11_replaceItem_57 (by decide) (fun hc => absurd hc (by decide)) (fun hc57 => ?_)
          refine kv_aload_n X 0 dX11_replaceItem_60 rfl rfl ?_
          refine kv_aload_n X 0 dX11_replaceItem_61 rfl rfl ?_
          refine km_get X 24 (v := .int (M.1 24)) f_X11_replaceItem_117 rfl dX11_replaceItem_62 ?_
          refine kv_iload_n X 1 dX11_replaceItem_65 rfl rfl ?_
          refine kv_ishr X dX11_replaceItem_66 ?_
          refine kv_iconst (v := 1) X dX11_replaceItem_67 (by decide) ?_
          refine kv_iand X dX11_replaceItem_68 ?_
          refine kv_iconst (v := 1) X dX11_replaceItem_69 (by decide) ?_
          refine kv_icmp_ne (tgt := 77) X dX11_replaceItem_70 (by decide) (fun hc70 => ?_) (fun hc70 => ?_)
          ·
            refine kv_iconst (v := 0) X dX11_replaceItem_77 (by decide) ?_
            refine kv_iconst (v := 3) X dX11_replaceItem_78 (by decide) ?_
            refine kv_calliV (ci := 14) (κ := 0) (r1 := (TX11, 34)) (As := [.int 0, .int 3]) [] X (c_X11_fails0 l dd ad ((va_up M.1 0 0), M.2.1, M.2.2) 3 rfl) hl0 (kCV_of X 2 gX11_replaceItem_X11_fails rfl rfl rfl (by decide +kernel) hRR ⟨Nat.le_of_ble_eq_true rfl, Nat.le_of_ble_eq_true rfl⟩) (by decide) rfl rfl rfl rfl (Nat.le_of_ble_eq_true rfl) hRR ⟨Nat.le_of_ble_eq_true rfl, Nat.le_of_ble_eq_true rfl⟩ dX11_replaceItem_79 (fun r z hp => ?_)
            obtain ⟨rfl, rfl⟩ := hp
            refine kv_if_eq (tgt := 87) X dX11_replaceItem_82 (by decide) (fun hc82 => ?_) (fun hc => absurd hc (by decide))
            refine kv_aload_n X 0 dX11_replaceItem_87 rfl rfl ?_
            refine km_get X 22 (v := .ref (ad 22)) f_X11_replaceItem_55 rfl dX11_replaceItem_88 ?_
            refine kv_bipush (v := 12) X dX11_replaceItem_91 (by decide) ?_
            refine kv_iload_n X 1 dX11_replaceItem_93 rfl rfl ?_
            refine kv_imul X dX11_replaceItem_94 ?_
            refine kv_topi (nI (12 * j8)) (pk_mul 12 j8) ?_
            refine kv_iload_n X 2 dX11_replaceItem_95 rfl rfl ?_
            refine kv_iadd X dX11_replaceItem_96 ?_
            refine kv_topi (nI ((12 * j8) + j16)) (nI_add (12 * j8) j16) ?_
            refine kv_iload_n X 3 dX11_replaceItem_97 rfl rfl ?_
            refine km_iast X 22 (j := (12 * j8) + j16) (x := (nI j24)) (by decide) (by decide) rfl (by show _ < _; simp only [mLen]; omega) (by decide) dX11_replaceItem_98 ?_
            refine kv_aload_n X 0 dX11_replaceItem_99 rfl rfl ?_
            refine km_get X 22 (v := .ref (ad 22)) f_X11_replaceItem_55 rfl dX11_replaceItem_100 ?_
            refine kv_bipush (v := 12) X dX11_replaceItem_103 (by decide) ?_
            refine kv_iload_n X 1 dX11_replaceItem_105 rfl rfl ?_
            refine kv_imul X dX11_replaceItem_106 ?_
            refine kv_topi (nI (12 * j8)) (pk_mul 12 j8) ?_
            refine kv_calliS (As := [.ref (ad 22), .int (nI (12 * j8))]) [] X (c_X11_told22 l dd ad ((va_up M.1 0 0), (va_up M.2.1 22 (upd (M.2.1 22) ((12 * j8) + j16) (nI j24))), M.2.2) (12 * j8) (by omega)) hl0 (kCS_of X 2 gX11_replaceItem_X11_told rfl rfl rfl (by decide +kernel) hRR ⟨Nat.le_of_ble_eq_true rfl, Nat.le_of_ble_eq_true rfl⟩) rfl rfl (Nat.le_of_ble_eq_true rfl) hRR ⟨Nat.le_of_ble_eq_true rfl, Nat.le_of_ble_eq_true rfl⟩ dX11_replaceItem_107 (fun r z hp => ?_)
            obtain ⟨rfl, rfl⟩ := hp
            exact kv_ireturn X hr (by decide) (by decide) ⟨((va_up M.1 0 0), (va_up M.2.1 22 (upd (M.2.1 22) ((12 * j8) + j16) (nI j24))), M.2.2), Or.inr ⟨j8, j16, j24, ⟨h8, h16, h24, rfl, rfl, rfl⟩, Or.inr (Or.inr ⟨(by omega), hc70, rfl, rfl⟩)⟩, rfl⟩ dX11_replaceItem_110
          ·
            refine kv_iconst (v := 1) X dX11_replaceItem_73 (by decide) ?_
            refine kv_goto (tgt := 78) X dX11_replaceItem_74 (by decide) ?_
            refine kv_iconst (v := 3) X dX11_replaceItem_78 (by decide) ?_
            refine kv_calliV (ci := 14) (κ := 0) (r1 := (TX11, 34)) (As := [.int 1, .int 3]) [] X (c_X11_fails1 l dd ad ((va_up M.1 0 0), M.2.1, M.2.2) 3 (by decide) rfl) hl0 (kCV_of X 2 gX11_replaceItem_X11_fails rfl rfl rfl (by decide +kernel) hRR ⟨Nat.le_of_ble_eq_true rfl, Nat.le_of_ble_eq_true rfl⟩) (by decide) rfl rfl rfl rfl (Nat.le_of_ble_eq_true rfl) hRR ⟨Nat.le_of_ble_eq_true rfl, Nat.le_of_ble_eq_true rfl⟩ dX11_replaceItem_79 (fun r z hp => ?_)
            obtain ⟨rfl, rfl⟩ := hp
            refine kv_if_eq (tgt := 87) X dX11_replaceItem_82 (by decide) (fun hc => absurd hc (by decide)) (fun hc82 => ?_)
            refine kv_iconst (v := 0) X dX11_replaceItem_85 (by decide) ?_
            exact kv_ireturn X hr (by decide) (by decide) ⟨((va_up (va_up M.1 0 0) 0 3), M.2.1, M.2.2), Or.inr ⟨j8, j16, j24, ⟨h8, h16, h24, rfl, rfl, rfl⟩, Or.inr (Or.inl ⟨(by omega), hc70, rfl, rfl⟩)⟩, rfl⟩ dX11_replaceItem_86
        ·
          refine kv_iconst (v := 1) X dX11_replaceItem_48 (by decide) ?_
          refine kv_goto (tgt := 53) X dX11_replaceItem_49 (by decide) ?_
          refine kv_iconst (v := 2) X dX11_replaceItem_53 (by decide) ?_
          refine kv_calliV (ci := 14) (κ := 0) (r1 := (TX11, 34)) (As := [.int 1, .int 2]) [] X (c_X11_fails1 l dd ad ((va_up M.1 0 0), M.2.1, M.2.2) 2 (by decide) rfl) hl0 (kCV_of X 2 gX11_replaceItem_X11_fails rfl rfl rfl (by decide +kernel) hRR ⟨Nat.le_of_ble_eq_true rfl, Nat.le_of_ble_eq_true rfl⟩) (by decide) rfl rfl rfl rfl (Nat.le_of_ble_eq_true rfl) hRR ⟨Nat.le_of_ble_eq_true rfl, Nat.le_of_ble_eq_true rfl⟩ dX11_replaceItem_54 (fun r z hp => ?_)
          obtain ⟨rfl, rfl⟩ := hp
          refine kv_if_ne (tgt := 85) X dX11_replaceItem_57 (by decide) (fun hc57 => ?_) (fun hc => absurd hc (by decide))
          refine kv_iconst (v := 0) X dX11_replaceItem_85 (by decide) ?_
          exact kv_ireturn X hr (by decide) (by decide) ⟨((va_up (va_up M.1 0 0) 0 2), M.2.1, M.2.2), Or.inr ⟨j8, j16, j24, ⟨h8, h16, h24, rfl, rfl, rfl⟩, Or.inl ⟨fun q => by omega, rfl, rfl⟩⟩, rfl⟩ dX11_replaceItem_86
theorem fp_X11_replaceResource_86 : kFp wsX11_replaceResource RX11 86 14 0 .int false := ⟨_, RX11, TX11, 34, tyX11, fun _ h => (List.mem_cons_of_mem _ (List.mem_append_left _ (List.mem_append_right _ h))), tyX11_ok, nmX11, (List.mem_cons_of_mem _ (List.mem_append_left _ (List.mem_append_left _ (List.mem_append_left _ (List.mem_of_getElem? (i := 0) rfl))))), rfl, by decide, rfl, rfl, by decide +kernel, rfl⟩
theorem f_X11_replaceResource_7 : kF wsX11_replaceResource RX11 7 14 2 := ⟨_, RX11, TX11, 34, fun _ h => (List.mem_cons_of_mem _ (List.mem_append_left _ (List.mem_append_right _ h))), (List.mem_cons_of_mem _ (List.mem_append_left _ (List.mem_append_left _ (List.mem_append_left _ (List.mem_of_getElem? (i := 1) rfl))))), rfl, by decide, rfl⟩
theorem f_X11_replaceResource_117 : kF wsX11_replaceResource RX11 117 14 24 := ⟨_, RX11, TX11, 34, fun _ h => (List.mem_cons_of_mem _ (List.mem_append_left _ (List.mem_append_right _ h))), (List.mem_cons_of_mem _ (List.mem_append_left _ (List.mem_append_left _ (List.mem_append_left _ (List.mem_of_getElem? (i := 2) rfl))))), rfl, by decide, rfl⟩
theorem f_X11_replaceResource_58 : kF wsX11_replaceResource RX11 58 14 23 := ⟨_, RX11, TX11, 34, fun _ h => (List.mem_cons_of_mem _ (List.mem_append_left _ (List.mem_append_right _ h))), (List.mem_cons_of_mem _ (List.mem_append_left _ (List.mem_append_left _ (List.mem_append_left _ (List.mem_of_getElem? (i := 3) rfl))))), rfl, by decide, rfl⟩
set_option maxRecDepth 100000 in
set_option maxHeartbeats 4000000 in
theorem c_X11_replaceResource (l : Launch) (dd : kDD) (ad : Nat → Nat) (M : mS) (v : Int32) (x : Int32) (y : Int32) (nV : Nat) (hV : M.1 21 = nI nV ∧ nV ≤ 4) (nR : Nat) (hR : M.1 1 = nI nR ∧ nR ≤ 12) : kCi l yX11_replaceResource wsX11_replaceResource ({ frames := 2, cells := 0, slots := 0, locals := 43 } : Room) 0 0 dd [.ref (ad 0), .int v, .int x, .int y] (mK, ad, mE dd ad M) (kQi (S := mS) (fun r z => (¬ ((∃ j, j < nV ∧ v = nI j) ∧ (∃ j, j < nR ∧ x = nI j) ∧ (∃ j, j < nR ∧ y = nI j)) ∧ mT M 1 = z ∧ r = 0) ∨ ∃ jv, ∃ ja, ∃ jb, (jv < nV ∧ ja < nR ∧ jb < nR ∧ v = nI jv ∧ x = nI ja ∧ y = nI jb) ∧ ((¬ (ja ≠ jb ∧ M.2.1 2 ja = M.2.1 2 jb) ∧ mT M 2 = z ∧ r = 0) ∨ ((ja ≠ jb ∧ M.2.1 2 ja = M.2.1 2 jb) ∧ M.1 24 >>> (nI jv &&& 31) &&& 1 = 1 ∧ mT M 3 = z ∧ r = 0) ∨ ((ja ≠ jb ∧ M.2.1 2 ja = M.2.1 2 jb) ∧ ¬ M.1 24 >>> (nI jv &&& 31) &&& 1 = 1 ∧ ((mT0 M).1, va_up M.2.1 23 (upd (M.2.1 23) (12 * jv + ja) (nI jb)), M.2.2) = z ∧ r = tld (upd (M.2.1 23) (12 * jv + ja) (nI jb)) (12 * jv) 12))) (fun _ => mK) (fun _ => ad) (fun z => mE dd ad z)) := by
  refine kMeti (ws' := _) (cc := cX11_replaceResource) (maxL := 4) (rt := .int) (by decide) rfl (Nat.le_of_ble_eq_true rfl) (fun g X hr hnL hRR hl0 hkn => ?_)
  show kv dd g 0 0 0 [(0, .ref (ad 0)), (1, .int v), (2, .int x), (3, .int y)] [] mK ad (mE dd ad M)
  refine kv_aload_n X 0 dX11_replaceResource_0 rfl rfl ?_
  refine kv_iconst (v := 0) X dX11_replaceResource_1 (by decide) ?_
  refine km_put X 0 (x := 0) fp_X11_replaceResource_86 (by decide) dX11_replaceResource_2 ?_
  refine kv_aload_n X 0 dX11_replaceResource_5 rfl rfl ?_
  refine kv_aload_n X 0 dX11_replaceResource_6 rfl rfl ?_
  refine kv_iload_n X 1 dX11_replaceResource_7 rfl rfl ?_
  refine kv_calliV (ci := 14) (κ := 0) (r1 := (TX11, 34)) (As := [.int v]) [.ref (ad 0)] X (c_X11_noVariant l dd ad ((va_up M.1 0 0), M.2.1, M.2.2) v nV hV.2 hV.1) hl0 (kCV_of X 1 gX11_replaceResource_X11_noVariant rfl rfl rfl (by decide +kernel) hRR ⟨Nat.le_of_ble_eq_true rfl, Nat.le_of_ble_eq_true rfl⟩) (by decide) rfl rfl rfl rfl (Nat.le_of_ble_eq_true rfl) hRR ⟨Nat.le_of_ble_eq_true rfl, Nat.le_of_ble_eq_true rfl⟩ dX11_replaceResource_8 (fun r z hp => ?_)
  obtain ⟨rfl, ⟨rfl, h8⟩ | ⟨rfl, j8, h8, rfl⟩⟩ := hp
  ·
    refine kv_if_ne (tgt := 30) X dX11_replaceResource_11 (by decide) (fun hc11 => ?_) (fun hc => absurd hc (by decide))
    refine kv_iconst (v := 1) X dX11_replaceResource_30 (by decide) ?_
    refine kv_goto (tgt := 35) X dX11_replaceResource_31 (by decide) ?_
    refine kv_iconst (v := 1) X dX11_replaceResource_35 (by decide) ?_
    refine kv_calliV (ci := 14) (κ := 0) (r1 := (TX11, 34)) (As := [.int 1, .int 1]) [] X (c_X11_fails1 l dd ad ((va_up M.1 0 0), M.2.1, M.2.2) 1 (by decide) rfl) hl0 (kCV_of X 2 gX11_replaceResource_X11_fails rfl rfl rfl (by decide +kernel) hRR ⟨Nat.le_of_ble_eq_true rfl, Nat.le_of_ble_eq_true rfl⟩) (by decide) rfl rfl rfl rfl (Nat.le_of_ble_eq_true rfl) hRR ⟨Nat.le_of_ble_eq_true rfl, Nat.le_of_ble_eq_true rfl⟩ dX11_replaceResource_36 (fun r z hp => ?_)
    obtain ⟨rfl, rfl⟩ := hp
    refine kv_if_ne (tgt := 100) X dX11_replaceResource_39 (by decide) (fun hc39 => ?_) (fun hc => absurd hc (by decide))
    refine kv_iconst (v := 0) X dX11_replaceResource_100 (by decide) ?_
    exact kv_ireturn X hr (by decide) (by decide) ⟨((va_up (va_up M.1 0 0) 0 1), M.2.1, M.2.2), Or.inl ⟨fun q => by first | exact absurd q.1 h8 | exact absurd q.2.1 h16 | exact absurd q.2.2 h24, rfl, rfl⟩, rfl⟩ dX11_replaceResource_101
  ·
    refine kv_if_ne (tgt := 30) X dX11_replaceResource_11 (by decide) (fun hc => absurd hc (by decide)) (fun hc11 => ?_)
    refine kv_aload_n X 0 dX11_replaceResource_14 rfl rfl ?_
    refine kv_iload_n X 2 dX11_replaceResource_15 rfl rfl ?_
    refine kv_calliV (ci := 14) (κ := 0) (r1 := (TX11, 34)) (As := [.int x]) [.ref (ad 0)] X (c_X11_noResource l dd ad ((va_up M.1 0 0), M.2.1, M.2.2) x nR hR.2 hR.1) hl0 (kCV_of X 1 gX11_replaceResource_X11_noResource rfl rfl rfl (by decide +kernel) hRR ⟨Nat.le_of_ble_eq_true rfl, Nat.le_of_ble_eq_true rfl⟩) (by decide) rfl rfl rfl rfl (Nat.le_of_ble_eq_true rfl) hRR ⟨Nat.le_of_ble_eq_true rfl, Nat.le_of_ble_eq_true rfl⟩ dX11_replaceResource_16 (fun r z hp => ?_)
    obtain ⟨rfl, ⟨rfl, h16⟩ | ⟨rfl, j16, h16, rfl⟩⟩ := hp
    ·
      refine kv_if_ne (tgt := 30) X dX11_replaceResource_19 (by decide) (fun hc19 => ?_) (fun hc => absurd hc (by decide))
      refine kv_iconst (v := 1) X dX11_replaceResource_30 (by decide) ?_
      refine kv_goto (tgt := 35) X dX11_replaceResource_31 (by decide) ?_
      refine kv_iconst (v := 1) X dX11_replaceResource_35 (by decide) ?_
      refine kv_calliV (ci := 14) (κ := 0) (r1 := (TX11, 34)) (As := [.int 1, .int 1]) [] X (c_X11_fails1 l dd ad ((va_up M.1 0 0), M.2.1, M.2.2) 1 (by decide) rfl) hl0 (kCV_of X 2 gX11_replaceResource_X11_fails rfl rfl rfl (by decide +kernel) hRR ⟨Nat.le_of_ble_eq_true rfl, Nat.le_of_ble_eq_true rfl⟩) (by decide) rfl rfl rfl rfl (Nat.le_of_ble_eq_true rfl) hRR ⟨Nat.le_of_ble_eq_true rfl, Nat.le_of_ble_eq_true rfl⟩ dX11_replaceResource_36 (fun r z hp => ?_)
      obtain ⟨rfl, rfl⟩ := hp
      refine kv_if_ne (tgt := 100) X dX11_replaceResource_39 (by decide) (fun hc39 => ?_) (fun hc => absurd hc (by decide))
      refine kv_iconst (v := 0) X dX11_replaceResource_100 (by decide) ?_
      exact kv_ireturn X hr (by decide) (by decide) ⟨((va_up (va_up M.1 0 0) 0 1), M.2.1, M.2.2), Or.inl ⟨fun q => by first | exact absurd q.1 h8 | exact absurd q.2.1 h16 | exact absurd q.2.2 h24, rfl, rfl⟩, rfl⟩ dX11_replaceResource_101
    ·
      refine kv_if_ne (tgt := 30) X dX11_replaceResource_19 (by decide) (fun hc => absurd hc (by decide)) (fun hc19 => ?_)
      refine kv_aload_n X 0 dX11_replaceResource_22 rfl rfl ?_
      refine kv_iload_n X 3 dX11_replaceResource_23 rfl rfl ?_
      refine kv_calliV (ci := 14) (κ := 0) (r1 := (TX11, 34)) (As := [.int y]) [.ref (ad 0)] X (c_X11_noResource l dd ad ((va_up M.1 0 0), M.2.1, M.2.2) y nR hR.2 hR.1) hl0 (kCV_of X 1 gX11_replaceResource_X11_noResource rfl rfl rfl (by decide +kernel) hRR ⟨Nat.le_of_ble_eq_true rfl, Nat.le_of_ble_eq_true rfl⟩) (by decide) rfl rfl rfl rfl (Nat.le_of_ble_eq_true rfl) hRR ⟨Nat.le_of_ble_eq_true rfl, Nat.le_of_ble_eq_true rfl⟩ dX11_replaceResource_24 (fun r z hp => ?_)
      obtain ⟨rfl, ⟨rfl, h24⟩ | ⟨rfl, j24, h24, rfl⟩⟩ := hp
      ·
        refine kv_if_eq (tgt := 34) X dX11_replaceResource_27 (by decide) (fun hc => absurd hc (by decide)) (fun hc27 => ?_)
        refine kv_iconst (v := 1) X dX11_replaceResource_30 (by decide) ?_
        refine kv_goto (tgt := 35) X dX11_replaceResource_31 (by decide) ?_
        refine kv_iconst (v := 1) X dX11_replaceResource_35 (by decide) ?_
        refine kv_calliV (ci := 14) (κ := 0) (r1 := (TX11, 34)) (As := [.int 1, .int 1]) [] X (c_X11_fails1 l dd ad ((va_up M.1 0 0), M.2.1, M.2.2) 1 (by decide) rfl) hl0 (kCV_of X 2 gX11_replaceResource_X11_fails rfl rfl rfl (by decide +kernel) hRR ⟨Nat.le_of_ble_eq_true rfl, Nat.le_of_ble_eq_true rfl⟩) (by decide) rfl rfl rfl rfl (Nat.le_of_ble_eq_true rfl) hRR ⟨Nat.le_of_ble_eq_true rfl, Nat.le_of_ble_eq_true rfl⟩ dX11_replaceResource_36 (fun r z hp => ?_)
        obtain ⟨rfl, rfl⟩ := hp
        refine kv_if_ne (tgt := 100) X dX11_replaceResource_39 (by decide) (fun hc39 => ?_) (fun hc => absurd hc (by decide))
        refine kv_iconst (v := 0) X dX11_replaceResource_100 (by decide) ?_
        exact kv_ireturn X hr (by decide) (by decide) ⟨((va_up (va_up M.1 0 0) 0 1), M.2.1, M.2.2), Or.inl ⟨fun q => by first | exact absurd q.1 h8 | exact absurd q.2.1 h16 | exact absurd q.2.2 h24, rfl, rfl⟩, rfl⟩ dX11_replaceResource_101
      ·
        refine kv_if_eq (tgt := 34) X dX11_replaceResource_27 (by decide) (fun hc27 => ?_) (fun hc => absurd hc (by decide))
        refine kv_iconst (v := 0) X dX11_replaceResource_34 (by decide) ?_
        refine kv_iconst (v := 1) X dX11_replaceResource_35 (by decide) ?_
        refine kv_calliV (ci := 14) (κ := 0) (r1 := (TX11, 34)) (As := [.int 0, .int 1]) [] X (c_X11_fails0 l dd ad ((va_up M.1 0 0), M.2.1, M.2.2) 1 rfl) hl0 (kCV_of X 2 gX11_replaceResource_X11_fails rfl rfl rfl (by decide +kernel) hRR ⟨Nat.le_of_ble_eq_true rfl, Nat.le_of_ble_eq_true rfl⟩) (by decide) rfl rfl rfl rfl (Nat.le_of_ble_eq_true rfl) hRR ⟨Nat.le_of_ble_eq_true rfl, Nat.le_of_ble_eq_true rfl⟩ dX11_replaceResource_36 (fun r z hp => ?_)
        obtain ⟨rfl, rfl⟩ := hp
        refine kv_if_ne (tgt := 100) X dX11_replaceResource_39 (by decide) (fun hc => absurd hc (by decide)) (fun hc39 => ?_)
        refine kv_aload_n X 0 dX11_replaceResource_42 rfl rfl ?_
        refine kv_iload_n X 2 dX11_replaceResource_43 rfl rfl ?_
        refine kv_iload_n X 3 dX11_replaceResource_44 rfl rfl ?_
        refine kn_icmp_eq (x := j16) (y := j24) (tgt := 63) X (by omega) (by omega) dX11_replaceResource_45 (by decide) (fun hc45 => ?_) (fun hc45 => ?_)
        ·
          refine kv_iconst (v := 1) X dX11_replaceResource_63 (by decide) ?_
          refine kv_goto (tgt := 68) X dX11_replaceResource_64 (by decide) ?_
          refine kv_iconst (v := 2) X dX11_replaceResource_68 (by decide) ?_
          refine kv_calliV (ci := 14) (κ := 0) (r1 := (TX11, 34)) (As := [.int 1, .int 2]) [] X (c_X11_fails1 l dd ad ((va_up M.1 0 0), M.2.1, M.2.2) 2 (by decide) rfl) hl0 (kCV_of X 2 gX11_replaceResource_X11_fails rfl rfl rfl (by decide +kernel) hRR ⟨Nat.le_of_ble_eq_true rfl, Nat.le_of_ble_eq_true rfl⟩) (by decide) rfl rfl rfl rfl (Nat.le_of_ble_eq_true rfl) hRR ⟨Nat.le_of_ble_eq_true rfl, Nat.le_of_ble_eq_true rfl⟩ dX11_replaceResource_69 (fun r z hp => ?_)
          obtain ⟨rfl, rfl⟩ := hp
          refine kv_if_ne (tgt := 100) X dX11_replaceResource_72 (by decide) (fun hc72 => ?_) (fun hc => absurd hc (by decide))
          refine kv_iconst (v := 0) X dX11_replaceResource_100 (by decide) ?_
          exact kv_ireturn X hr (by decide) (by decide) ⟨((va_up (va_up M.1 0 0) 0 2), M.2.1, M.2.2), Or.inr ⟨j8, j16, j24, ⟨h8, h16, h24, rfl, rfl, rfl⟩, Or.inl ⟨fun q => by first | exact absurd hc45 q.1 | exact absurd q.2 hc60, rfl, rfl⟩⟩, rfl⟩ dX11_replaceResource_101
        ·
          refine kv_aload_n X 0 dX11_replaceResource_48 rfl rfl ?_
          refine km_get X 2 (v := .ref (ad 2)) f_X11_replaceResource_7 rfl dX11_replaceResource_49 ?_
          refine kv_iload_n X 2 dX11_replaceResource_52 rfl rfl ?_
          refine km_iald X 2 (j := j16) (by decide) (by decide) rfl (by show _ < _; simp only [mLen]; omega) (by decide) dX11_replaceResource_53 ?_
          refine kv_topi ((M.2.1 2) j16) rfl ?_
          refine kv_aload_n X 0 dX11_replaceResource_54 rfl rfl ?_
          refine km_get X 2 (v := .ref (ad 2)) f_X11_replaceResource_7 rfl dX11_replaceResource_55 ?_
          refine kv_iload_n X 3 dX11_replaceResource_58 rfl rfl ?_
          refine km_iald X 2 (j := j24) (by decide) (by decide) rfl (by show _ < _; simp only [mLen]; omega) (by decide) dX11_replaceResource_59 ?_
          refine kv_topi ((M.2.1 2) j24) rfl ?_
          refine kv_icmp_eq (tgt := 67) X dX11_replaceResource_60 (by decide) (fun hc60 => ?_) (fun hc60 => ?_)
          ·
            refine kv_iconst (v := 0) X dX11_replaceResource_67 (by decide) ?_
            refine kv_iconst (v := 2) X dX11_replaceResource_68 (by decide) ?_
            refine kv_calliV (ci := 14) (κ := 0) (r1 := (TX11, 34)) (As := [.int 0, .int 2]) [] X (c_X11_fails0 l dd ad ((va_up M.1 0 0), M.2.1, M.2.2) 2 rfl) hl0 (kCV_of X 2 gX11_replaceResource_X11_fails rfl rfl rfl (by decide +kernel) hRR ⟨Nat.le_of_ble_eq_true rfl, Nat.le_of_ble_eq_true rfl⟩) (by decide) rfl rfl rfl rfl (Nat.le_of_ble_eq_true rfl) hRR ⟨Nat.le_of_ble_eq_true rfl, Nat.le_of_ble_eq_true rfl⟩ dX11_replaceResource_69 (fun r z hp => ?_)
            obtain ⟨rfl, rfl⟩ := hp
            refine kv_if_ne (tgt := 100) X dX11_replaceResource_72 (by decide) (fun hc => absurd hc (by decide)) (fun hc72 => ?_)
            refine kv_aload_n X 0 dX11_replaceResource_75 rfl rfl ?_
            refine kv_aload_n X 0 dX11_replaceResource_76 rfl rfl ?_
            refine km_get X 24 (v := .int (M.1 24)) f_X11_replaceResource_117 rfl dX11_replaceResource_77 ?_
            refine kv_iload_n X 1 dX11_replaceResource_80 rfl rfl ?_
            refine kv_ishr X dX11_replaceResource_81 ?_
            refine kv_iconst (v := 1) X dX11_replaceResource_82 (by decide) ?_
            refine kv_iand X dX11_replaceResource_83 ?_
            refine kv_iconst (v := 1) X dX11_replaceResource_84 (by decide) ?_
            refine kv_icmp_ne (tgt := 92) X dX11_replaceResource_85 (by decide) (fun hc85 => ?_) (fun hc85 => ?_)
            ·
              refine kv_iconst (v := 0) X dX11_replaceResource_92 (by decide) ?_
              refine kv_iconst (v := 3) X dX11_replaceResource_93 (by decide) ?_
              refine kv_calliV (ci := 14) (κ := 0) (r1 := (TX11, 34)) (As := [.int 0, .int 3]) [] X (c_X11_fails0 l dd ad ((va_up M.1 0 0), M.2.1, M.2.2) 3 rfl) hl0 (kCV_of X 2 gX11_replaceResource_X11_fails rfl rfl rfl (by decide +kernel) hRR ⟨Nat.le_of_ble_eq_true rfl, Nat.le_of_ble_eq_true rfl⟩) (by decide) rfl rfl rfl rfl (Nat.le_of_ble_eq_true rfl) hRR ⟨Nat.le_of_ble_eq_true rfl, Nat.le_of_ble_eq_true rfl⟩ dX11_replaceResource_94 (fun r z hp => ?_)
              obtain ⟨rfl, rfl⟩ := hp
              refine kv_if_eq (tgt := 102) X dX11_replaceResource_97 (by decide) (fun hc97 => ?_) (fun hc => absurd hc (by decide))
              refine kv_aload_n X 0 dX11_replaceResource_102 rfl rfl ?_
              refine km_get X 23 (v := .ref (ad 23)) f_X11_replaceResource_58 rfl dX11_replaceResource_103 ?_
              refine kv_bipush (v := 12) X dX11_replaceResource_106 (by decide) ?_
              refine kv_iload_n X 1 dX11_replaceResource_108 rfl rfl ?_
              refine kv_imul X dX11_replaceResource_109 ?_
              refine kv_topi (nI (12 * j8)) (pk_mul 12 j8) ?_
              refine kv_iload_n X 2 dX11_replaceResource_110 rfl rfl ?_
              refine kv_iadd X dX11_replaceResource_111 ?_
              refine kv_topi (nI ((12 * j8) + j16)) (nI_add (12 * j8) j16) ?_
              refine kv_iload_n X 3 dX11_replaceResource_112 rfl rfl ?_
              refine km_iast X 23 (j := (12 * j8) + j16) (x := (nI j24)) (by decide) (by decide) rfl (by show _ < _; simp only [mLen]; omega) (by decide) dX11_replaceResource_113 ?_
              refine kv_aload_n X 0 dX11_replaceResource_114 rfl rfl ?_
              refine km_get X 23 (v := .ref (ad 23)) f_X11_replaceResource_58 rfl dX11_replaceResource_115 ?_
              refine kv_bipush (v := 12) X dX11_replaceResource_118 (by decide) ?_
              refine kv_iload_n X 1 dX11_replaceResource_120 rfl rfl ?_
              refine kv_imul X dX11_replaceResource_121 ?_
              refine kv_topi (nI (12 * j8)) (pk_mul 12 j8) ?_
              refine kv_calliS (As := [.ref (ad 23), .int (nI (12 * j8))]) [] X (c_X11_told23 l dd ad ((va_up M.1 0 0), (va_up M.2.1 23 (upd (M.2.1 23) ((12 * j8) + j16) (nI j24))), M.2.2) (12 * j8) (by omega)) hl0 (kCS_of X 2 gX11_replaceResource_X11_told rfl rfl rfl (by decide +kernel) hRR ⟨Nat.le_of_ble_eq_true rfl, Nat.le_of_ble_eq_true rfl⟩) rfl rfl (Nat.le_of_ble_eq_true rfl) hRR ⟨Nat.le_of_ble_eq_true rfl, Nat.le_of_ble_eq_true rfl⟩ dX11_replaceResource_122 (fun r z hp => ?_)
              obtain ⟨rfl, rfl⟩ := hp
              exact kv_ireturn X hr (by decide) (by decide) ⟨((va_up M.1 0 0), (va_up M.2.1 23 (upd (M.2.1 23) ((12 * j8) + j16) (nI j24))), M.2.2), Or.inr ⟨j8, j16, j24, ⟨h8, h16, h24, rfl, rfl, rfl⟩, Or.inr (Or.inr ⟨⟨hc45, hc60⟩, hc85, rfl, rfl⟩)⟩, rfl⟩ dX11_replaceResource_125
            ·
              refine kv_iconst (v := 1) X dX11_replaceResource_88 (by decide) ?_
              refine kv_goto (tgt := 93) X dX11_replaceResource_89 (by decide) ?_
              refine kv_iconst (v := 3) X dX11_replaceResource_93 (by decide) ?_
              refine kv_calliV (ci := 14) (κ := 0) (r1 := (TX11, 34)) (As := [.int 1, .int 3]) [] X (c_X11_fails1 l dd ad ((va_up M.1 0 0), M.2.1, M.2.2) 3 (by decide) rfl) hl0 (kCV_of X 2 gX11_replaceResource_X11_fails rfl rfl rfl (by decide +kernel) hRR ⟨Nat.le_of_ble_eq_true rfl, Nat.le_of_ble_eq_true rfl⟩) (by decide) rfl rfl rfl rfl (Nat.le_of_ble_eq_true rfl) hRR ⟨Nat.le_of_ble_eq_true rfl, Nat.le_of_ble_eq_true rfl⟩ dX11_replaceResource_94 (fun r z hp => ?_)
              obtain ⟨rfl, rfl⟩ := hp
              refine kv_if_eq (tgt := 102) X dX11_replaceResource_97 (by decide) (fun hc => absurd hc (by decide)) (fun hc97 => ?_)
              refine kv_iconst (v := 0) X dX11_replaceResource_100 (by decide) ?_
              exact kv_ireturn X hr (by decide) (by decide) ⟨((va_up (va_up M.1 0 0) 0 3), M.2.1, M.2.2), Or.inr ⟨j8, j16, j24, ⟨h8, h16, h24, rfl, rfl, rfl⟩, Or.inr (Or.inl ⟨⟨hc45, hc60⟩, hc85, rfl, rfl⟩)⟩, rfl⟩ dX11_replaceResource_101
          ·
            refine kv_iconst (v := 1) X dX11_replaceResource_63 (by decide) ?_
            refine kv_goto (tgt := 68) X dX11_replaceResource_64 (by decide) ?_
            refine kv_iconst (v := 2) X dX11_replaceResource_68 (by decide) ?_
            refine kv_calliV (ci := 14) (κ := 0) (r1 := (TX11, 34)) (As := [.int 1, .int 2]) [] X (c_X11_fails1 l dd ad ((va_up M.1 0 0), M.2.1, M.2.2) 2 (by decide) rfl) hl0 (kCV_of X 2 gX11_replaceResource_X11_fails rfl rfl rfl (by decide +kernel) hRR ⟨Nat.le_of_ble_eq_true rfl, Nat.le_of_ble_eq_true rfl⟩) (by decide) rfl rfl rfl rfl (Nat.le_of_ble_eq_true rfl) hRR ⟨Nat.le_of_ble_eq_true rfl, Nat.le_of_ble_eq_true rfl⟩ dX11_replaceResource_69 (fun r z hp => ?_)
            obtain ⟨rfl, rfl⟩ := hp
            refine kv_if_ne (tgt := 100) X dX11_replaceResource_72 (by decide) (fun hc72 => ?_) (fun hc => absurd hc (by decide))
            refine kv_iconst (v := 0) X dX11_replaceResource_100 (by decide) ?_
            exact kv_ireturn X hr (by decide) (by decide) ⟨((va_up (va_up M.1 0 0) 0 2), M.2.1, M.2.2), Or.inr ⟨j8, j16, j24, ⟨h8, h16, h24, rfl, rfl, rfl⟩, Or.inl ⟨fun q => by first | exact absurd hc45 q.1 | exact absurd q.2 hc60, rfl, rfl⟩⟩, rfl⟩ dX11_replaceResource_101
theorem fp_X11_addMarkup_86 : kFp wsX11_addMarkup RX11 86 14 0 .int false := ⟨_, RX11, TX11, 34, tyX11, fun _ h => (List.mem_cons_of_mem _ (List.mem_append_left _ (List.mem_append_right _ h))), tyX11_ok, nmX11, (List.mem_cons_of_mem _ (List.mem_append_left _ (List.mem_append_left _ (List.mem_of_getElem? (i := 0) rfl)))), rfl, by decide, rfl, rfl, by decide +kernel, rfl⟩
theorem f_X11_addMarkup_175 : kF wsX11_addMarkup RX11 175 14 25 := ⟨_, RX11, TX11, 34, fun _ h => (List.mem_cons_of_mem _ (List.mem_append_left _ (List.mem_append_right _ h))), (List.mem_cons_of_mem _ (List.mem_append_left _ (List.mem_append_left _ (List.mem_of_getElem? (i := 1) rfl)))), rfl, by decide, rfl⟩
theorem f_X11_addMarkup_61 : kF wsX11_addMarkup RX11 61 14 26 := ⟨_, RX11, TX11, 34, fun _ h => (List.mem_cons_of_mem _ (List.mem_append_left _ (List.mem_append_right _ h))), (List.mem_cons_of_mem _ (List.mem_append_left _ (List.mem_append_left _ (List.mem_of_getElem? (i := 2) rfl)))), rfl, by decide, rfl⟩
theorem f_X11_addMarkup_64 : kF wsX11_addMarkup RX11 64 14 27 := ⟨_, RX11, TX11, 34, fun _ h => (List.mem_cons_of_mem _ (List.mem_append_left _ (List.mem_append_right _ h))), (List.mem_cons_of_mem _ (List.mem_append_left _ (List.mem_append_left _ (List.mem_of_getElem? (i := 3) rfl)))), rfl, by decide, rfl⟩
theorem fp_X11_addMarkup_175 : kFp wsX11_addMarkup RX11 175 14 25 .int false := ⟨_, RX11, TX11, 34, tyX11, fun _ h => (List.mem_cons_of_mem _ (List.mem_append_left _ (List.mem_append_right _ h))), tyX11_ok, nmX11, (List.mem_cons_of_mem _ (List.mem_append_left _ (List.mem_append_left _ (List.mem_of_getElem? (i := 1) rfl)))), rfl, by decide, rfl, rfl, by decide +kernel, rfl⟩
set_option maxRecDepth 100000 in
set_option maxHeartbeats 4000000 in
theorem c_X11_addMarkup (l : Launch) (dd : kDD) (ad : Nat → Nat) (M : mS) (p : Int32) (q : Int32) (nM : Nat) (hM : M.1 25 = nI nM ∧ nM ≤ 4) : kCi l yX11_addMarkup wsX11_addMarkup ({ frames := 1, cells := 0, slots := 0, locals := 22 } : Room) 0 0 dd [.ref (ad 0), .int p, .int q] (mK, ad, mE dd ad M) (kQi (S := mS) (fun r z => (nM = 4 ∧ mT M 1 = z ∧ r = 0) ∨ (nM < 4 ∧ ¬ ((0 ≤ p ∧ p ≤ 50) ∧ (0 ≤ q ∧ q ≤ (1 : Int32) <<< (nI (4 + nM) &&& 31) - 1)) ∧ mT M 2 = z ∧ r = 0) ∨ (nM < 4 ∧ ((0 ≤ p ∧ p ≤ 50) ∧ (0 ≤ q ∧ q ≤ (1 : Int32) <<< (nI (4 + nM) &&& 31) - 1)) ∧ (va_up (va_up M.1 0 0) 25 (nI (nM + 1)), va_up (va_up M.2.1 26 (upd (M.2.1 26) nM p)) 27 (upd (M.2.1 27) nM q), M.2.2) = z ∧ r = nI nM)) (fun _ => mK) (fun _ => ad) (fun z => mE dd ad z)) := by
  refine kMeti (ws' := _) (cc := cX11_addMarkup) (maxL := 3) (rt := .int) (by decide) rfl (Nat.le_of_ble_eq_true rfl) (fun g X hr hnL hRR hl0 hkn => ?_)
  show kv dd g 0 0 0 [(0, .ref (ad 0)), (1, .int p), (2, .int q)] [] mK ad (mE dd ad M)
  refine kv_aload_n X 0 dX11_addMarkup_0 rfl rfl ?_
  refine kv_iconst (v := 0) X dX11_addMarkup_1 (by decide) ?_
  refine km_put X 0 (x := 0) fp_X11_addMarkup_86 (by decide) dX11_addMarkup_2 ?_
  refine kv_aload_n X 0 dX11_addMarkup_5 rfl rfl ?_
  refine kv_aload_n X 0 dX11_addMarkup_6 rfl rfl ?_
  refine km_get X 25 (v := .int (M.1 25)) f_X11_addMarkup_175 rfl dX11_addMarkup_7 ?_
  refine kv_topi (nI nM) hM.1 ?_
  refine kv_iconst (v := 4) X dX11_addMarkup_10 (by decide) ?_
  refine kn_icmp_ne (x := nM) (y := 4) (tgt := 18) X (by omega) (by omega) dX11_addMarkup_11 (by decide) (fun hc11 => ?_) (fun hc11 => ?_)
  ·
    refine kv_iconst (v := 0) X dX11_addMarkup_18 (by decide) ?_
    refine kv_iconst (v := 1) X dX11_addMarkup_19 (by decide) ?_
    refine kv_calliV (ci := 14) (κ := 0) (r1 := (TX11, 34)) (As := [.int 0, .int 1]) [] X (c_X11_fails0 l dd ad ((va_up M.1 0 0), M.2.1, M.2.2) 1 rfl) hl0 (kCV_of X 2 gX11_addMarkup_X11_fails rfl rfl rfl (by decide +kernel) hRR ⟨Nat.le_of_ble_eq_true rfl, Nat.le_of_ble_eq_true rfl⟩) (by decide) rfl rfl rfl rfl (Nat.le_of_ble_eq_true rfl) hRR ⟨Nat.le_of_ble_eq_true rfl, Nat.le_of_ble_eq_true rfl⟩ dX11_addMarkup_20 (fun r z hp => ?_)
    obtain ⟨rfl, rfl⟩ := hp
    refine kv_if_ne (tgt := 67) X dX11_addMarkup_23 (by decide) (fun hc => absurd hc (by decide)) (fun hc23 => ?_)
    refine kv_aload_n X 0 dX11_addMarkup_26 rfl rfl ?_
    refine kv_iload_n X 1 dX11_addMarkup_27 rfl rfl ?_
    refine kv_iconst (v := 0) X dX11_addMarkup_28 (by decide) ?_
    refine kv_bipush (v := 50) X dX11_addMarkup_29 (by decide) ?_
    refine kv_calliS (As := [.int p, .int 0, .int 50]) [.ref (ad 0)] X (c_X11_in l dd ad ((va_up M.1 0 0), M.2.1, M.2.2) p 0 50) hl0 (kCS_of X 3 gX11_addMarkup_X11_in rfl rfl rfl (by decide +kernel) hRR ⟨Nat.le_of_ble_eq_true rfl, Nat.le_of_ble_eq_true rfl⟩) rfl rfl (Nat.le_of_ble_eq_true rfl) hRR ⟨Nat.le_of_ble_eq_true rfl, Nat.le_of_ble_eq_true rfl⟩ dX11_addMarkup_31 (fun r z hp => ?_)
    obtain ⟨rfl, ⟨rfl, h31⟩ | ⟨rfl, h31⟩⟩ := hp
    ·
      refine kv_if_eq (tgt := 55) X dX11_addMarkup_34 (by decide) (fun hc => absurd hc (by decide)) (fun hc34 => ?_)
      refine kv_iload_n X 2 dX11_addMarkup_37 rfl rfl ?_
      refine kv_iconst (v := 0) X dX11_addMarkup_38 (by decide) ?_
      refine kv_iconst (v := 1) X dX11_addMarkup_39 (by decide) ?_
      refine kv_iconst (v := 4) X dX11_addMarkup_40 (by decide) ?_
      refine kv_aload_n X 0 dX11_addMarkup_41 rfl rfl ?_
      refine km_get X 25 (v := .int (M.1 25)) f_X11_addMarkup_175 rfl dX11_addMarkup_42 ?_
      refine kv_topi (nI nM) hM.1 ?_
      refine kv_iadd X dX11_addMarkup_45 ?_
      refine kv_topi (nI (4 + nM)) (nI_add 4 nM) ?_
      refine kv_ishl X dX11_addMarkup_46 ?_
      refine kv_iconst (v := 1) X dX11_addMarkup_47 (by decide) ?_
      refine kv_isub X dX11_addMarkup_48 ?_
      refine kv_calliS (As := [.int q, .int 0, .int ((1 <<< ((nI (4 + nM)) &&& 31)) - 1)]) [.ref (ad 0)] X (c_X11_in l dd ad ((va_up M.1 0 0), M.2.1, M.2.2) q 0 ((1 <<< ((nI (4 + nM)) &&& 31)) - 1)) hl0 (kCS_of X 3 gX11_addMarkup_X11_in rfl rfl rfl (by decide +kernel) hRR ⟨Nat.le_of_ble_eq_true rfl, Nat.le_of_ble_eq_true rfl⟩) rfl rfl (Nat.le_of_ble_eq_true rfl) hRR ⟨Nat.le_of_ble_eq_true rfl, Nat.le_of_ble_eq_true rfl⟩ dX11_addMarkup_49 (fun r z hp => ?_)
      obtain ⟨rfl, ⟨rfl, h49⟩ | ⟨rfl, h49⟩⟩ := hp
      ·
        refine kv_if_ne (tgt := 59) X dX11_addMarkup_52 (by decide) (fun hc52 => ?_) (fun hc => absurd hc (by decide))
        refine kv_iconst (v := 0) X dX11_addMarkup_59 (by decide) ?_
        refine kv_iconst (v := 2) X dX11_addMarkup_60 (by decide) ?_
        refine kv_calliV (ci := 14) (κ := 0) (r1 := (TX11, 34)) (As := [.int 0, .int 2]) [] X (c_X11_fails0 l dd ad ((va_up M.1 0 0), M.2.1, M.2.2) 2 rfl) hl0 (kCV_of X 2 gX11_addMarkup_X11_fails rfl rfl rfl (by decide +kernel) hRR ⟨Nat.le_of_ble_eq_true rfl, Nat.le_of_ble_eq_true rfl⟩) (by decide) rfl rfl rfl rfl (Nat.le_of_ble_eq_true rfl) hRR ⟨Nat.le_of_ble_eq_true rfl, Nat.le_of_ble_eq_true rfl⟩ dX11_addMarkup_61 (fun r z hp => ?_)
        obtain ⟨rfl, rfl⟩ := hp
        refine kv_if_eq (tgt := 69) X dX11_addMarkup_64 (by decide) (fun hc64 => ?_) (fun hc => absurd hc (by decide))
        refine kv_aload_n X 0 dX11_addMarkup_69 rfl rfl ?_
        refine km_get X 26 (v := .ref (ad 26)) f_X11_addMarkup_61 rfl dX11_addMarkup_70 ?_
        refine kv_aload_n X 0 dX11_addMarkup_73 rfl rfl ?_
        refine km_get X 25 (v := .int (M.1 25)) f_X11_addMarkup_175 rfl dX11_addMarkup_74 ?_
        refine kv_topi (nI nM) hM.1 ?_
        refine kv_iload_n X 1 dX11_addMarkup_77 rfl rfl ?_
        refine km_iast X 26 (j := nM) (x := p) (by decide) (by decide) rfl (by show _ < _; simp only [mLen]; omega) (by decide) dX11_addMarkup_78 ?_
        refine kv_aload_n X 0 dX11_addMarkup_79 rfl rfl ?_
        refine km_get X 27 (v := .ref (ad 27)) f_X11_addMarkup_64 rfl dX11_addMarkup_80 ?_
        refine kv_aload_n X 0 dX11_addMarkup_83 rfl rfl ?_
        refine km_get X 25 (v := .int (M.1 25)) f_X11_addMarkup_175 rfl dX11_addMarkup_84 ?_
        refine kv_topi (nI nM) hM.1 ?_
        refine kv_iload_n X 2 dX11_addMarkup_87 rfl rfl ?_
        refine km_iast X 27 (j := nM) (x := q) (by decide) (by decide) rfl (by show _ < _; simp only [mLen]; omega) (by decide) dX11_addMarkup_88 ?_
        refine kv_aload_n X 0 dX11_addMarkup_89 rfl rfl ?_
        refine kv_dup X dX11_addMarkup_90 rfl ?_
        refine km_get X 25 (v := .int (M.1 25)) f_X11_addMarkup_175 rfl dX11_addMarkup_91 ?_
        refine kv_topi (nI nM) hM.1 ?_
        refine kv_iconst (v := 1) X dX11_addMarkup_94 (by decide) ?_
        refine kv_iadd X dX11_addMarkup_95 ?_
        refine kv_topi (nI (nM + 1)) (nI_add nM 1) ?_
        refine km_put X 25 (x := (nI (nM + 1))) fp_X11_addMarkup_175 (by decide) dX11_addMarkup_96 ?_
        refine kv_aload_n X 0 dX11_addMarkup_99 rfl rfl ?_
        refine km_get X 25 (v := .int (nI (nM + 1))) f_X11_addMarkup_175 rfl dX11_addMarkup_100 ?_
        refine kv_iconst (v := 1) X dX11_addMarkup_103 (by decide) ?_
        refine kv_isub X dX11_addMarkup_104 ?_
        exact kv_ireturn X hr (by decide) (by decide) ⟨((va_up (va_up M.1 0 0) 25 (nI (nM + 1))), (va_up (va_up M.2.1 26 (upd (M.2.1 26) nM p)) 27 (upd (M.2.1 27) nM q)), M.2.2), Or.inr (Or.inr ⟨by omega, ⟨h31, h49⟩, rfl, nI_pred nM⟩), rfl⟩ dX11_addMarkup_105
      ·
        refine kv_if_ne (tgt := 59) X dX11_addMarkup_52 (by decide) (fun hc => absurd hc (by decide)) (fun hc52 => ?_)
        refine kv_iconst (v := 1) X dX11_addMarkup_55 (by decide) ?_
        refine kv_goto (tgt := 60) X dX11_addMarkup_56 (by decide) ?_
        refine kv_iconst (v := 2) X dX11_addMarkup_60 (by decide) ?_
        refine kv_calliV (ci := 14) (κ := 0) (r1 := (TX11, 34)) (As := [.int 1, .int 2]) [] X (c_X11_fails1 l dd ad ((va_up M.1 0 0), M.2.1, M.2.2) 2 (by decide) rfl) hl0 (kCV_of X 2 gX11_addMarkup_X11_fails rfl rfl rfl (by decide +kernel) hRR ⟨Nat.le_of_ble_eq_true rfl, Nat.le_of_ble_eq_true rfl⟩) (by decide) rfl rfl rfl rfl (Nat.le_of_ble_eq_true rfl) hRR ⟨Nat.le_of_ble_eq_true rfl, Nat.le_of_ble_eq_true rfl⟩ dX11_addMarkup_61 (fun r z hp => ?_)
        obtain ⟨rfl, rfl⟩ := hp
        refine kv_if_eq (tgt := 69) X dX11_addMarkup_64 (by decide) (fun hc => absurd hc (by decide)) (fun hc64 => ?_)
        refine kv_iconst (v := 0) X dX11_addMarkup_67 (by decide) ?_
        exact kv_ireturn X hr (by decide) (by decide) ⟨((va_up (va_up M.1 0 0) 0 2), M.2.1, M.2.2), Or.inr (Or.inl ⟨by omega, fun y => by first | exact absurd y.1 h31 | exact absurd y.2 h49, rfl, rfl⟩), rfl⟩ dX11_addMarkup_68
    ·
      refine kv_if_eq (tgt := 55) X dX11_addMarkup_34 (by decide) (fun hc34 => ?_) (fun hc => absurd hc (by decide))
      refine kv_iconst (v := 1) X dX11_addMarkup_55 (by decide) ?_
      refine kv_goto (tgt := 60) X dX11_addMarkup_56 (by decide) ?_
      refine kv_iconst (v := 2) X dX11_addMarkup_60 (by decide) ?_
      refine kv_calliV (ci := 14) (κ := 0) (r1 := (TX11, 34)) (As := [.int 1, .int 2]) [] X (c_X11_fails1 l dd ad ((va_up M.1 0 0), M.2.1, M.2.2) 2 (by decide) rfl) hl0 (kCV_of X 2 gX11_addMarkup_X11_fails rfl rfl rfl (by decide +kernel) hRR ⟨Nat.le_of_ble_eq_true rfl, Nat.le_of_ble_eq_true rfl⟩) (by decide) rfl rfl rfl rfl (Nat.le_of_ble_eq_true rfl) hRR ⟨Nat.le_of_ble_eq_true rfl, Nat.le_of_ble_eq_true rfl⟩ dX11_addMarkup_61 (fun r z hp => ?_)
      obtain ⟨rfl, rfl⟩ := hp
      refine kv_if_eq (tgt := 69) X dX11_addMarkup_64 (by decide) (fun hc => absurd hc (by decide)) (fun hc64 => ?_)
      refine kv_iconst (v := 0) X dX11_addMarkup_67 (by decide) ?_
      exact kv_ireturn X hr (by decide) (by decide) ⟨((va_up (va_up M.1 0 0) 0 2), M.2.1, M.2.2), Or.inr (Or.inl ⟨by omega, fun y => by first | exact absurd y.1 h31 | exact absurd y.2 h49, rfl, rfl⟩), rfl⟩ dX11_addMarkup_68
  ·
    refine kv_iconst (v := 1) X dX11_addMarkup_14 (by decide) ?_
    refine kv_goto (tgt := 19) X dX11_addMarkup_15 (by decide) ?_
    refine kv_iconst (v := 1) X dX11_addMarkup_19 (by decide) ?_
    refine kv_calliV (ci := 14) (κ := 0) (r1 := (TX11, 34)) (As := [.int 1, .int 1]) [] X (c_X11_fails1 l dd ad ((va_up M.1 0 0), M.2.1, M.2.2) 1 (by decide) rfl) hl0 (kCV_of X 2 gX11_addMarkup_X11_fails rfl rfl rfl (by decide +kernel) hRR ⟨Nat.le_of_ble_eq_true rfl, Nat.le_of_ble_eq_true rfl⟩) (by decide) rfl rfl rfl rfl (Nat.le_of_ble_eq_true rfl) hRR ⟨Nat.le_of_ble_eq_true rfl, Nat.le_of_ble_eq_true rfl⟩ dX11_addMarkup_20 (fun r z hp => ?_)
    obtain ⟨rfl, rfl⟩ := hp
    refine kv_if_ne (tgt := 67) X dX11_addMarkup_23 (by decide) (fun hc23 => ?_) (fun hc => absurd hc (by decide))
    refine kv_iconst (v := 0) X dX11_addMarkup_67 (by decide) ?_
    exact kv_ireturn X hr (by decide) (by decide) ⟨((va_up (va_up M.1 0 0) 0 1), M.2.1, M.2.2), Or.inl ⟨hc11, rfl, rfl⟩, rfl⟩ dX11_addMarkup_68

/-! THE LAW'S HELPERS -/
abbrev kHx : List Cond := [Cond.classLink RL 13 "java/lang/IllegalArgumentException", Cond.classLink RL 15 "java/lang/IllegalStateException", Cond.classLink RL 21 "java/lang/IndexOutOfBoundsException", Cond.classLink RL 31 "java/lang/UnsupportedOperationException", Cond.classLink RL 67 "java/lang/ArithmeticException", Cond.classLink RL 124 "java/util/NoSuchElementException"]
theorem goodIn_ext {Ts ws ex : List Cond} (h : GoodIn Ts ws) : GoodIn (Ts ++ ex) ws := fun w hw => ⟨List.mem_append_left _ (h w hw).1, (h w hw).2⟩
theorem cf_id {ks : List Nat} {ad : Nat → Nat} {E : Nat → va_E} (h : ∀ j, j ∈ ks → j < 1000) : cf (ks, ad, E) = (ks, ad, E) := by
  unfold cf
  rw [List.filter_eq_self.mpr (fun j hj => decide_eq_true (h j hj))]
theorem j_x0 {c r x : kT} : (2000 ∈ jk c r x ↔ 0 ∈ x.1) ∧ jd c r x 2000 = x.2.1 0 ∧ jE c r x 2000 = x.2.2 0 := j_x (j := 0) (by omega)
theorem j_x1 {c r x : kT} : (2001 ∈ jk c r x ↔ 1 ∈ x.1) ∧ jd c r x 2001 = x.2.1 1 ∧ jE c r x 2001 = x.2.2 1 := j_x (j := 1) (by omega)
theorem j_c0 {c r x : kT} : (0 ∈ jk c r x ↔ 0 ∈ c.1) ∧ jd c r x 0 = c.2.1 0 ∧ jE c r x 0 = c.2.2 0 := j_c (j := 0) (by omega)
/-- the law's own part, its row of longs written -/
def xJ (dd : kDD) (x : kT) (f : Nat → Int64) (v : Int64) : kT := (x.1, x.2.1, va_up x.2.2 0 (kJ dd 1 (va_up f 0 v)))
def xD (dd : kDD) (x : kT) (f : Nat → UInt64) (v : UInt64) : kT := (x.1, x.2.1, va_up x.2.2 1 (kDb dd 1 (va_up f 0 v)))
theorem xJ_E {dd : kDD} {c r x : kT} {f : Nat → Int64} {v : Int64} : ∀ j, va_up (jE c r x) 2000 (kJ dd 1 (va_up f 0 v)) j = jE c r (xJ dd x f v) j := fun j => jE_up (j := 0) j
theorem xD_E {dd : kDD} {c r x : kT} {f : Nat → UInt64} {v : UInt64} : ∀ j, va_up (jE c r x) 2001 (kDb dd 1 (va_up f 0 v)) j = jE c r (xD dd x f v) j := fun j => jE_up (j := 1) j


set_option maxRecDepth 100000 in
set_option maxHeartbeats 4000000 in
theorem c_L_addResource (l : Launch) (dd : kDD) (ks : List Nat) (ad : Nat → Nat) (E : Nat → va_E) (e : eS) (wr wx : kT) (hks : ∀ j, j ∈ ks → j < 1000) (M : mS) (nR nC nt nL nW nV nM : Nat) (cn nm mn me li rl : Nat → Nat) (on : Int32) (hO : cO dd ks ad E on) (hR : cR dd ks ad E M nR) (hC : cC dd ks ad E M nC mn me) (hT : cT dd ks ad E M nt cn nm) (hL : cL dd ks ad E M nL nW li) (hW : cW dd ks ad E M nW rl) (hV : cV dd ks ad E M nV) (hM : cM dd ks ad E M nM) (hB : cB M nR nC nt nL nW nV cn nm mn me li rl) (mI mR : Int32 → Nat → Nat) (hmI : ∀ o j, j < nt → mnt o (M.2.1 22) j nV 0 = nI (mI o j) ∧ mI o j < nt) (hmR : ∀ o j, j < nR → mnt o (M.2.1 23) j nV 0 = nI (mR o j) ∧ mR o j < nR) (hpk : ∀ r, r < nR → 1 ≤ M.2.1 5 r) (k p w q : Int32) (f0 : Nat → Int64) (hx0 : 0 ∈ wx.1 ∧ wx.2.2 0 = kJ dd 1 f0) : kCi l yL_addResource (wsL_addResource ++ kHx) ({ frames := 8, cells := 8, slots := 140, locals := 195 } : Room) 8 140 dd [.ref (ad 0), .int k, .int p, .int w, .int q, .ref (wx.2.1 0)] (jk (ks, ad, cE dd E e) wr wx, jd (ks, ad, cE dd E e) wr wx, jE (ks, ad, cE dd E e) wr wx) (kQi (S := kT × kT) (fun r9 z => (r9 = 0 ∧ ∃ v9 : Int32, (fun (r : Int32) (z : kT) => ((k = 0 ∨ k = 1 ∨ k = 2) ∧ (0 ≤ p ∧ p ≤ 9999) ∧ (0 ≤ w ∧ w ≤ 50) ∧ (1 ≤ q ∧ q ≤ 99)) ∧ nR < 12 ∧ (z.2.1 0 = ad 0 ∧ cAll dd (M.1, va_up (va_up (va_up (va_up M.2.1 2 (upd (M.2.1 2) nR k)) 3 (upd (M.2.1 3) nR p)) 4 (upd (M.2.1 4) nR w)) 5 (upd (M.2.1 5) nR q), M.2.2) (nR + 1) nC nt nL nW nV nM cn nm mn me li rl on z) ∧ r = nI nR) v9 z.1 ∧ z.2 = xJ dd wx f0 v9.toInt64) ∨ (r9 = 1 ∧ ∃ e9, z.1 = (ks, ad, cE dd E e9) ∧ ¬ ((k = 0 ∨ k = 1 ∨ k = 2) ∧ (0 ≤ p ∧ p ≤ 9999) ∧ (0 ≤ w ∧ w ≤ 50) ∧ (1 ≤ q ∧ q ≤ 99)) ∧ z.2 = wx) ∨ (r9 = 2 ∧ ∃ e9, z.1 = (ks, ad, cE dd E e9) ∧ (((k = 0 ∨ k = 1 ∨ k = 2) ∧ (0 ≤ p ∧ p ≤ 9999) ∧ (0 ≤ w ∧ w ≤ 50) ∧ (1 ≤ q ∧ q ≤ 99)) ∧ nR = 12) ∧ z.2 = wx)) (fun z => jk z.1 wr z.2) (fun z => jd z.1 wr z.2) (fun z => jE z.1 wr z.2)) := by
  refine kMetiW (ws' := _) (cc := cL_addResource) (maxL := 7) (rt := .int) (by decide) rfl (Nat.le_of_ble_eq_true rfl) (fun g X hr htb hnL hRR hl0 => ?_)
  show kv dd g 0 0 0 [(0, .ref (ad 0)), (1, .int k), (2, .int p), (3, .int w), (4, .int q), (5, .ref (wx.2.1 0))] [] (jk (ks, ad, cE dd E e) wr wx) (jd (ks, ad, cE dd E e) wr wx) (jE (ks, ad, cE dd E e) wr wx)
  refine kv_aload X 5 dL_addResource_0 rfl ?_
  refine kv_iconst (v := 0) X dL_addResource_2 (by decide) ?_
  refine kv_aload_n X 0 dL_addResource_3 rfl rfl ?_
  refine kv_iload_n X 1 dL_addResource_4 rfl rfl ?_
  refine kv_iload_n X 2 dL_addResource_5 rfl rfl ?_
  refine kv_iload_n X 3 dL_addResource_6 rfl rfl ?_
  refine kv_iload X 4 dL_addResource_7 rfl ?_
  refine kv_calliXVc (As := [.int k, .int p, .int w, .int q]) [.int 0, .ref (wx.2.1 0)] (ci := 13) (κ := 0) (r1 := (TX10, 3)) X (kCiX_frC (c := (ks, ad, cE dd E e)) (r := wr) (x := wx) (by rw [cf_id hks]; exact c_X10_addResource l dd ks ad E e M nR nC nt nL nW nV nM cn nm mn me li rl on hO hR hC hT hL hW hV hM hB mI mR hmI hmR hpk k p w q)) hl0 (kCV_of X 4 (goodIn_ext gL_addResource_X10_addResource) rfl rfl rfl (by decide +kernel) hRR ⟨(Nat.le_of_ble_eq_true rfl), (Nat.le_of_ble_eq_true rfl)⟩) (j_c0.1.mpr hO.1.1) (j_c0.2.2.trans ((cE_ne (dd := dd) (E := E) (e := e) (k := 0) (by omega)).trans hO.1.2)) rfl rfl rfl (Nat.le_of_ble_eq_true rfl) hRR ⟨(Nat.le_of_ble_eq_true rfl), (Nat.le_of_ble_eq_true rfl)⟩ dL_addResource_9 (fun X9 u hX => ?_) (fun r9 z hp => ?_)
  ·
    obtain ⟨u1, ⟨e9, rfl, hX⟩, rfl⟩ := hX
    rcases hX with ⟨rfl, hX⟩ | ⟨rfl, hX⟩
    ·
      refine kvx_catch (nm := "java/lang/IllegalArgumentException") X htb [] (⟨0, 14, 17, 13⟩ : ExceptionTableEntry) [(⟨0, 14, 21, 15⟩ : ExceptionTableEntry)] rfl (fun z hz => nomatch hz) (by decide) (by decide) (List.mem_append_right _ (List.mem_of_getElem? (i := 0) rfl)) (by decide +kernel) (fun q9 => ?_)
      show kv dd g _ _ 17 [(0, .ref (ad 0)), (1, .int k), (2, .int p), (3, .int w), (4, .int q), (5, .ref (wx.2.1 0))] [.ref q9] (jk (ks, ad, cE dd E e9) wr wx) (jd (ks, ad, cE dd E e9) wr wx) (jE (ks, ad, cE dd E e9) wr wx)
      refine kv_astore (lv2 := [(6, .ref q9), (0, .ref (ad 0)), (1, .int k), (2, .int p), (3, .int w), (4, .int q), (5, .ref (wx.2.1 0))]) X dL_addResource_17 (by rw [hnL]; decide) rfl ?_
      refine kv_iconst (v := 1) X dL_addResource_19 (by decide) ?_
      exact kv_ireturn X hr (Nat.le_of_ble_eq_true rfl) (Nat.le_of_ble_eq_true rfl) ⟨((ks, ad, cE dd E e9), wx), (Or.inr (Or.inl (⟨rfl, ⟨e9, rfl, hX, rfl⟩⟩))), rfl⟩ dL_addResource_20
    ·
      refine kvx_catch (nm := "java/lang/IllegalStateException") X htb [(⟨0, 14, 17, 13⟩ : ExceptionTableEntry)] (⟨0, 14, 21, 15⟩ : ExceptionTableEntry) [] rfl (fun z hz => by
          simp only [List.mem_cons, List.not_mem_nil, or_false] at hz
          rcases hz with rfl
          · exact ⟨by decide, _, (List.mem_append_right _ (List.mem_of_getElem? (i := 0) rfl)), by decide +kernel⟩) (by decide) (by decide) (List.mem_append_right _ (List.mem_of_getElem? (i := 1) rfl)) (by decide +kernel) (fun q9 => ?_)
      show kv dd g _ _ 21 [(0, .ref (ad 0)), (1, .int k), (2, .int p), (3, .int w), (4, .int q), (5, .ref (wx.2.1 0))] [.ref q9] (jk (ks, ad, cE dd E e9) wr wx) (jd (ks, ad, cE dd E e9) wr wx) (jE (ks, ad, cE dd E e9) wr wx)
      refine kv_astore (lv2 := [(6, .ref q9), (0, .ref (ad 0)), (1, .int k), (2, .int p), (3, .int w), (4, .int q), (5, .ref (wx.2.1 0))]) X dL_addResource_21 (by rw [hnL]; decide) rfl ?_
      refine kv_iconst (v := 2) X dL_addResource_23 (by decide) ?_
      exact kv_ireturn X hr (Nat.le_of_ble_eq_true rfl) (Nat.le_of_ble_eq_true rfl) ⟨((ks, ad, cE dd E e9), wx), (Or.inr (Or.inr (⟨rfl, ⟨e9, rfl, hX, rfl⟩⟩))), rfl⟩ dL_addResource_24
  ·
    show kv dd g _ _ 12 [(0, .ref (ad 0)), (1, .int k), (2, .int p), (3, .int w), (4, .int q), (5, .ref (wx.2.1 0))] [.int r9, .int 0, .ref (wx.2.1 0)] (jk z wr wx) (jd z wr wx) (jE z wr wx)
    refine kv_i2l X dL_addResource_12 rfl ?_
    refine kv_lastore X (κ := 2000) (n := 1) (j := 0) (f := f0) (x := r9.toInt64) (j_x0.1.mpr hx0.1) (j_x0.2.2.trans hx0.2) (by omega) (by omega) dL_addResource_13 ?_
    refine kv_E (E2 := (jE z wr (xJ dd wx f0 r9.toInt64))) (fun j _ => xJ_E j) ?_
    refine kv_goto (tgt := 25) X dL_addResource_14 (by decide) ?_
    refine kv_iconst (v := 0) X dL_addResource_25 (by decide) ?_
    exact kv_ireturn X hr (Nat.le_of_ble_eq_true rfl) (Nat.le_of_ble_eq_true rfl) ⟨(z, (xJ dd wx f0 r9.toInt64)), (Or.inl (⟨rfl, r9, hp, rfl⟩)), rfl⟩ dL_addResource_26

set_option maxRecDepth 100000 in
set_option maxHeartbeats 4000000 in
theorem c_L_setPrice (l : Launch) (dd : kDD) (ks : List Nat) (ad : Nat → Nat) (E : Nat → va_E) (e : eS) (wr wx : kT) (hks : ∀ j, j ∈ ks → j < 1000) (M : mS) (nR nC nt nL nW nV nM : Nat) (cn nm mn me li rl : Nat → Nat) (on : Int32) (hO : cO dd ks ad E on) (hR : cR dd ks ad E M nR) (hC : cC dd ks ad E M nC mn me) (hT : cT dd ks ad E M nt cn nm) (hL : cL dd ks ad E M nL nW li) (hW : cW dd ks ad E M nW rl) (hV : cV dd ks ad E M nV) (hM : cM dd ks ad E M nM) (hB : cB M nR nC nt nL nW nV cn nm mn me li rl) (mI mR : Int32 → Nat → Nat) (hmI : ∀ o j, j < nt → mnt o (M.2.1 22) j nV 0 = nI (mI o j) ∧ mI o j < nt) (hmR : ∀ o j, j < nR → mnt o (M.2.1 23) j nV 0 = nI (mR o j) ∧ mR o j < nR) (hpk : ∀ r, r < nR → 1 ≤ M.2.1 5 r) (v p : Int32) (f0 : Nat → Int64) (hx0 : 0 ∈ wx.1 ∧ wx.2.2 0 = kJ dd 1 f0) : kCi l yL_setPrice (wsL_setPrice ++ kHx) ({ frames := 8, cells := 2, slots := 12, locals := 146 } : Room) 2 12 dd [.ref (ad 0), .int v, .int p, .ref (wx.2.1 0)] (jk (ks, ad, cE dd E e) wr wx, jd (ks, ad, cE dd E e) wr wx, jE (ks, ad, cE dd E e) wr wx) (kQi (S := kT × kT) (fun r9 z => (r9 = 0 ∧ ∃ v9 : Int32, (fun (r : Int32) (z : kT) => ∃ j, (j < nR ∧ v = nI j) ∧ (0 ≤ p ∧ p ≤ 9999) ∧ (z.2.1 0 = ad 0 ∧ cAll dd (M.1, va_up M.2.1 3 (upd (M.2.1 3) j p), M.2.2) nR nC nt nL nW nV nM cn nm mn me li rl on z) ∧ r = M.2.1 3 j) v9 z.1 ∧ z.2 = xJ dd wx f0 v9.toInt64) ∨ (r9 = 1 ∧ ∃ e9, z.1 = (ks, ad, cE dd E e9) ∧ ¬ (∃ j, j < nR ∧ v = nI j) ∧ z.2 = wx) ∨ (r9 = 2 ∧ ∃ e9, z.1 = (ks, ad, cE dd E e9) ∧ ((∃ j, j < nR ∧ v = nI j) ∧ ¬ (0 ≤ p ∧ p ≤ 9999)) ∧ z.2 = wx)) (fun z => jk z.1 wr z.2) (fun z => jd z.1 wr z.2) (fun z => jE z.1 wr z.2)) := by
  refine kMetiW (ws' := _) (cc := cL_setPrice) (maxL := 5) (rt := .int) (by decide) rfl (Nat.le_of_ble_eq_true rfl) (fun g X hr htb hnL hRR hl0 => ?_)
  show kv dd g 0 0 0 [(0, .ref (ad 0)), (1, .int v), (2, .int p), (3, .ref (wx.2.1 0))] [] (jk (ks, ad, cE dd E e) wr wx) (jd (ks, ad, cE dd E e) wr wx) (jE (ks, ad, cE dd E e) wr wx)
  refine kv_aload_n X 3 dL_setPrice_0 rfl rfl ?_
  refine kv_iconst (v := 0) X dL_setPrice_1 (by decide) ?_
  refine kv_aload_n X 0 dL_setPrice_2 rfl rfl ?_
  refine kv_iload_n X 1 dL_setPrice_3 rfl rfl ?_
  refine kv_iload_n X 2 dL_setPrice_4 rfl rfl ?_
  refine kv_calliXVc (As := [.int v, .int p]) [.int 0, .ref (wx.2.1 0)] (ci := 13) (κ := 0) (r1 := (TX10, 3)) X (kCiX_frC (c := (ks, ad, cE dd E e)) (r := wr) (x := wx) (by rw [cf_id hks]; exact c_X10_setPrice l dd ks ad E e M nR nC nt nL nW nV nM cn nm mn me li rl on hO hR hC hT hL hW hV hM hB mI mR hmI hmR hpk v p)) hl0 (kCV_of X 2 (goodIn_ext gL_setPrice_X10_setPrice) rfl rfl rfl (by decide +kernel) hRR ⟨(Nat.le_of_ble_eq_true rfl), (Nat.le_of_ble_eq_true rfl)⟩) (j_c0.1.mpr hO.1.1) (j_c0.2.2.trans ((cE_ne (dd := dd) (E := E) (e := e) (k := 0) (by omega)).trans hO.1.2)) rfl rfl rfl (Nat.le_of_ble_eq_true rfl) hRR ⟨(Nat.le_of_ble_eq_true rfl), (Nat.le_of_ble_eq_true rfl)⟩ dL_setPrice_5 (fun X9 u hX => ?_) (fun r9 z hp => ?_)
  ·
    obtain ⟨u1, ⟨e9, rfl, hX⟩, rfl⟩ := hX
    rcases hX with ⟨rfl, hX⟩ | ⟨rfl, hX⟩
    ·
      refine kvx_catch (nm := "java/lang/IndexOutOfBoundsException") X htb [] (⟨0, 10, 13, 21⟩ : ExceptionTableEntry) [(⟨0, 10, 17, 13⟩ : ExceptionTableEntry)] rfl (fun z hz => nomatch hz) (by decide) (by decide) (List.mem_append_right _ (List.mem_of_getElem? (i := 2) rfl)) (by decide +kernel) (fun q9 => ?_)
      show kv dd g _ _ 13 [(0, .ref (ad 0)), (1, .int v), (2, .int p), (3, .ref (wx.2.1 0))] [.ref q9] (jk (ks, ad, cE dd E e9) wr wx) (jd (ks, ad, cE dd E e9) wr wx) (jE (ks, ad, cE dd E e9) wr wx)
      refine kv_astore (lv2 := [(4, .ref q9), (0, .ref (ad 0)), (1, .int v), (2, .int p), (3, .ref (wx.2.1 0))]) X dL_setPrice_13 (by rw [hnL]; decide) rfl ?_
      refine kv_iconst (v := 1) X dL_setPrice_15 (by decide) ?_
      exact kv_ireturn X hr (Nat.le_of_ble_eq_true rfl) (Nat.le_of_ble_eq_true rfl) ⟨((ks, ad, cE dd E e9), wx), (Or.inr (Or.inl (⟨rfl, ⟨e9, rfl, hX, rfl⟩⟩))), rfl⟩ dL_setPrice_16
    ·
      refine kvx_catch (nm := "java/lang/IllegalArgumentException") X htb [(⟨0, 10, 13, 21⟩ : ExceptionTableEntry)] (⟨0, 10, 17, 13⟩ : ExceptionTableEntry) [] rfl (fun z hz => by
          simp only [List.mem_cons, List.not_mem_nil, or_false] at hz
          rcases hz with rfl
          · exact ⟨by decide, _, (List.mem_append_right _ (List.mem_of_getElem? (i := 2) rfl)), by decide +kernel⟩) (by decide) (by decide) (List.mem_append_right _ (List.mem_of_getElem? (i := 0) rfl)) (by decide +kernel) (fun q9 => ?_)
      show kv dd g _ _ 17 [(0, .ref (ad 0)), (1, .int v), (2, .int p), (3, .ref (wx.2.1 0))] [.ref q9] (jk (ks, ad, cE dd E e9) wr wx) (jd (ks, ad, cE dd E e9) wr wx) (jE (ks, ad, cE dd E e9) wr wx)
      refine kv_astore (lv2 := [(4, .ref q9), (0, .ref (ad 0)), (1, .int v), (2, .int p), (3, .ref (wx.2.1 0))]) X dL_setPrice_17 (by rw [hnL]; decide) rfl ?_
      refine kv_iconst (v := 2) X dL_setPrice_19 (by decide) ?_
      exact kv_ireturn X hr (Nat.le_of_ble_eq_true rfl) (Nat.le_of_ble_eq_true rfl) ⟨((ks, ad, cE dd E e9), wx), (Or.inr (Or.inr (⟨rfl, ⟨e9, rfl, hX, rfl⟩⟩))), rfl⟩ dL_setPrice_20
  ·
    show kv dd g _ _ 8 [(0, .ref (ad 0)), (1, .int v), (2, .int p), (3, .ref (wx.2.1 0))] [.int r9, .int 0, .ref (wx.2.1 0)] (jk z wr wx) (jd z wr wx) (jE z wr wx)
    refine kv_i2l X dL_setPrice_8 rfl ?_
    refine kv_lastore X (κ := 2000) (n := 1) (j := 0) (f := f0) (x := r9.toInt64) (j_x0.1.mpr hx0.1) (j_x0.2.2.trans hx0.2) (by omega) (by omega) dL_setPrice_9 ?_
    refine kv_E (E2 := (jE z wr (xJ dd wx f0 r9.toInt64))) (fun j _ => xJ_E j) ?_
    refine kv_goto (tgt := 21) X dL_setPrice_10 (by decide) ?_
    refine kv_iconst (v := 0) X dL_setPrice_21 (by decide) ?_
    exact kv_ireturn X hr (Nat.le_of_ble_eq_true rfl) (Nat.le_of_ble_eq_true rfl) ⟨(z, (xJ dd wx f0 r9.toInt64)), (Or.inl (⟨rfl, r9, hp, rfl⟩)), rfl⟩ dL_setPrice_22

set_option maxRecDepth 100000 in
set_option maxHeartbeats 4000000 in
theorem c_L_addCrew (l : Launch) (dd : kDD) (ks : List Nat) (ad : Nat → Nat) (E : Nat → va_E) (e : eS) (wr wx : kT) (hks : ∀ j, j ∈ ks → j < 1000) (M : mS) (nR nC nt nL nW nV nM : Nat) (cn nm mn me li rl : Nat → Nat) (on : Int32) (hO : cO dd ks ad E on) (hR : cR dd ks ad E M nR) (hC : cC dd ks ad E M nC mn me) (hT : cT dd ks ad E M nt cn nm) (hL : cL dd ks ad E M nL nW li) (hW : cW dd ks ad E M nW rl) (hV : cV dd ks ad E M nV) (hM : cM dd ks ad E M nM) (hB : cB M nR nC nt nL nW nV cn nm mn me li rl) (mI mR : Int32 → Nat → Nat) (hmI : ∀ o j, j < nt → mnt o (M.2.1 22) j nV 0 = nI (mI o j) ∧ mI o j < nt) (hmR : ∀ o j, j < nR → mnt o (M.2.1 23) j nV 0 = nI (mR o j) ∧ mR o j < nR) (hpk : ∀ r, r < nR → 1 ≤ M.2.1 5 r) (hm0 : nC < 4 → mn nC = 0) (f0 : Nat → Int64) (hx0 : 0 ∈ wx.1 ∧ wx.2.2 0 = kJ dd 1 f0) : kCi l yL_addCrew (wsL_addCrew ++ kHx) ({ frames := 8, cells := 8, slots := 150, locals := 191 } : Room) 8 150 dd [.ref (ad 0), .ref (wx.2.1 0)] (jk (ks, ad, cE dd E e) wr wx, jd (ks, ad, cE dd E e) wr wx, jE (ks, ad, cE dd E e) wr wx) (kQi (S := kT × kT) (fun r9 z => (r9 = 0 ∧ ∃ v9 : Int32, (fun (r : Int32) (z : kT) => nC < 4 ∧ (z.2.1 0 = ad 0 ∧ cAll dd M nR (nC + 1) nt nL nW nV nM cn nm mn me li rl on z) ∧ r = nI nC) v9 z.1 ∧ z.2 = xJ dd wx f0 v9.toInt64) ∨ (r9 = 1 ∧ ∃ e9, z.1 = (ks, ad, cE dd E e9) ∧ nC = 4 ∧ z.2 = wx)) (fun z => jk z.1 wr z.2) (fun z => jd z.1 wr z.2) (fun z => jE z.1 wr z.2)) := by
  refine kMetiW (ws' := _) (cc := cL_addCrew) (maxL := 3) (rt := .int) (by decide) rfl (Nat.le_of_ble_eq_true rfl) (fun g X hr htb hnL hRR hl0 => ?_)
  show kv dd g 0 0 0 [(0, .ref (ad 0)), (1, .ref (wx.2.1 0))] [] (jk (ks, ad, cE dd E e) wr wx) (jd (ks, ad, cE dd E e) wr wx) (jE (ks, ad, cE dd E e) wr wx)
  refine kv_aload_n X 1 dL_addCrew_0 rfl rfl ?_
  refine kv_iconst (v := 0) X dL_addCrew_1 (by decide) ?_
  refine kv_aload_n X 0 dL_addCrew_2 rfl rfl ?_
  refine kv_calliXVc (As := []) [.int 0, .ref (wx.2.1 0)] (ci := 13) (κ := 0) (r1 := (TX10, 3)) X (kCiX_frC (c := (ks, ad, cE dd E e)) (r := wr) (x := wx) (by rw [cf_id hks]; exact c_X10_addCrew l dd ks ad E e M nR nC nt nL nW nV nM cn nm mn me li rl on hO hR hC hT hL hW hV hM hB mI mR hmI hmR hpk hm0)) hl0 (kCV_of X 0 (goodIn_ext gL_addCrew_X10_addCrew) rfl rfl rfl (by decide +kernel) hRR ⟨(Nat.le_of_ble_eq_true rfl), (Nat.le_of_ble_eq_true rfl)⟩) (j_c0.1.mpr hO.1.1) (j_c0.2.2.trans ((cE_ne (dd := dd) (E := E) (e := e) (k := 0) (by omega)).trans hO.1.2)) rfl rfl rfl (Nat.le_of_ble_eq_true rfl) hRR ⟨(Nat.le_of_ble_eq_true rfl), (Nat.le_of_ble_eq_true rfl)⟩ dL_addCrew_3 (fun X9 u hX => ?_) (fun r9 z hp => ?_)
  ·
    obtain ⟨u1, ⟨e9, rfl, hX⟩, rfl⟩ := hX
    rcases hX with ⟨rfl, hX⟩
    refine kvx_catch (nm := "java/lang/IllegalStateException") X htb [] (⟨0, 8, 11, 15⟩ : ExceptionTableEntry) [] rfl (fun z hz => nomatch hz) (by decide) (by decide) (List.mem_append_right _ (List.mem_of_getElem? (i := 1) rfl)) (by decide +kernel) (fun q9 => ?_)
    show kv dd g _ _ 11 [(0, .ref (ad 0)), (1, .ref (wx.2.1 0))] [.ref q9] (jk (ks, ad, cE dd E e9) wr wx) (jd (ks, ad, cE dd E e9) wr wx) (jE (ks, ad, cE dd E e9) wr wx)
    refine kv_astore_n (lv2 := [(2, .ref q9), (0, .ref (ad 0)), (1, .ref (wx.2.1 0))]) X dL_addCrew_11 rfl (by rw [hnL]; decide) rfl ?_
    refine kv_iconst (v := 1) X dL_addCrew_12 (by decide) ?_
    exact kv_ireturn X hr (Nat.le_of_ble_eq_true rfl) (Nat.le_of_ble_eq_true rfl) ⟨((ks, ad, cE dd E e9), wx), (Or.inr (⟨rfl, ⟨e9, rfl, hX, rfl⟩⟩)), rfl⟩ dL_addCrew_13
  ·
    show kv dd g _ _ 6 [(0, .ref (ad 0)), (1, .ref (wx.2.1 0))] [.int r9, .int 0, .ref (wx.2.1 0)] (jk z wr wx) (jd z wr wx) (jE z wr wx)
    refine kv_i2l X dL_addCrew_6 rfl ?_
    refine kv_lastore X (κ := 2000) (n := 1) (j := 0) (f := f0) (x := r9.toInt64) (j_x0.1.mpr hx0.1) (j_x0.2.2.trans hx0.2) (by omega) (by omega) dL_addCrew_7 ?_
    refine kv_E (E2 := (jE z wr (xJ dd wx f0 r9.toInt64))) (fun j _ => xJ_E j) ?_
    refine kv_goto (tgt := 14) X dL_addCrew_8 (by decide) ?_
    refine kv_iconst (v := 0) X dL_addCrew_14 (by decide) ?_
    exact kv_ireturn X hr (Nat.le_of_ble_eq_true rfl) (Nat.le_of_ble_eq_true rfl) ⟨(z, (xJ dd wx f0 r9.toInt64)), (Or.inl (⟨rfl, r9, hp, rfl⟩)), rfl⟩ dL_addCrew_15

set_option maxRecDepth 100000 in
set_option maxHeartbeats 4000000 in
theorem c_L_addMember (l : Launch) (dd : kDD) (ks : List Nat) (ad : Nat → Nat) (E : Nat → va_E) (e : eS) (wr wx : kT) (hks : ∀ j, j ∈ ks → j < 1000) (M : mS) (nR nC nt nL nW nV nM : Nat) (cn nm mn me li rl : Nat → Nat) (on : Int32) (hO : cO dd ks ad E on) (hR : cR dd ks ad E M nR) (hC : cC dd ks ad E M nC mn me) (hT : cT dd ks ad E M nt cn nm) (hL : cL dd ks ad E M nL nW li) (hW : cW dd ks ad E M nW rl) (hV : cV dd ks ad E M nV) (hM : cM dd ks ad E M nM) (hB : cB M nR nC nt nL nW nV cn nm mn me li rl) (mI mR : Int32 → Nat → Nat) (hmI : ∀ o j, j < nt → mnt o (M.2.1 22) j nV 0 = nI (mI o j) ∧ mI o j < nt) (hmR : ∀ o j, j < nR → mnt o (M.2.1 23) j nV 0 = nI (mR o j) ∧ mR o j < nR) (hpk : ∀ r, r < nR → 1 ≤ M.2.1 5 r) (v x q : Int32) (f0 : Nat → Int64) (hx0 : 0 ∈ wx.1 ∧ wx.2.2 0 = kJ dd 1 f0) : kCi l yL_addMember (wsL_addMember ++ kHx) ({ frames := 8, cells := 6, slots := 36, locals := 146 } : Room) 6 36 dd [.ref (ad 0), .int v, .int x, .int q, .ref (wx.2.1 0)] (jk (ks, ad, cE dd E e) wr wx, jd (ks, ad, cE dd E e) wr wx, jE (ks, ad, cE dd E e) wr wx) (kQi (S := kT × kT) (fun r9 z => (r9 = 0 ∧ ∃ v9 : Int32, (fun (r : Int32) (z : kT) => (∃ j, ∃ j2, (j < nC ∧ j2 < nR ∧ v = nI j ∧ x = nI j2 ∧ (1 ≤ q ∧ q ≤ 9)) ∧ (¬ M.2.1 2 j2 = 0 ∧ ¬ mhas (fun k => nI (me k)) (3 * j) (nI j2) (mn j) ∧ mn j < 3) ∧ (z.2.1 0 = ad 0 ∧ cAll dd (M.1, va_up (va_up (va_up M.2.1 8 (upd (M.2.1 8) (3 * j + mn j) (nI j2))) 9 (upd (M.2.1 9) (3 * j + mn j) q)) 7 (upd (M.2.1 7) j (nI (mn j + 1))), M.2.2) nR nC nt nL nW nV nM cn nm (va_up mn j (mn j + 1)) (va_up me (3 * j + mn j) j2) li rl on z) ∧ r = nI (mn j + 1))) v9 z.1 ∧ z.2 = xJ dd wx f0 v9.toInt64) ∨ (r9 = 1 ∧ ∃ e9, z.1 = (ks, ad, cE dd E e9) ∧ ¬ ((∃ j, j < nC ∧ v = nI j) ∧ (∃ j, j < nR ∧ x = nI j)) ∧ z.2 = wx) ∨ (r9 = 2 ∧ ∃ e9, z.1 = (ks, ad, cE dd E e9) ∧ (((∃ j, j < nC ∧ v = nI j) ∧ (∃ j, j < nR ∧ x = nI j)) ∧ ¬ (1 ≤ q ∧ q ≤ 9)) ∧ z.2 = wx) ∨ (r9 = 3 ∧ ∃ e9, z.1 = (ks, ad, cE dd E e9) ∧ (∃ j, ∃ j2, (j < nC ∧ j2 < nR ∧ v = nI j ∧ x = nI j2 ∧ (1 ≤ q ∧ q ≤ 9)) ∧ M.2.1 2 j2 = 0) ∧ z.2 = wx) ∨ (r9 = 4 ∧ ∃ e9, z.1 = (ks, ad, cE dd E e9) ∧ (∃ j, ∃ j2, (j < nC ∧ j2 < nR ∧ v = nI j ∧ x = nI j2 ∧ (1 ≤ q ∧ q ≤ 9)) ∧ ¬ M.2.1 2 j2 = 0 ∧ (mhas (fun k => nI (me k)) (3 * j) (nI j2) (mn j) ∨ mn j = 3)) ∧ z.2 = wx)) (fun z => jk z.1 wr z.2) (fun z => jd z.1 wr z.2) (fun z => jE z.1 wr z.2)) := by
  refine kMetiW (ws' := _) (cc := cL_addMember) (maxL := 6) (rt := .int) (by decide) rfl (Nat.le_of_ble_eq_true rfl) (fun g X hr htb hnL hRR hl0 => ?_)
  show kv dd g 0 0 0 [(0, .ref (ad 0)), (1, .int v), (2, .int x), (3, .int q), (4, .ref (wx.2.1 0))] [] (jk (ks, ad, cE dd E e) wr wx) (jd (ks, ad, cE dd E e) wr wx) (jE (ks, ad, cE dd E e) wr wx)
  refine kv_aload X 4 dL_addMember_0 rfl ?_
  refine kv_iconst (v := 0) X dL_addMember_2 (by decide) ?_
  refine kv_aload_n X 0 dL_addMember_3 rfl rfl ?_
  refine kv_iload_n X 1 dL_addMember_4 rfl rfl ?_
  refine kv_iload_n X 2 dL_addMember_5 rfl rfl ?_
  refine kv_iload_n X 3 dL_addMember_6 rfl rfl ?_
  refine kv_calliXVc (As := [.int v, .int x, .int q]) [.int 0, .ref (wx.2.1 0)] (ci := 13) (κ := 0) (r1 := (TX10, 3)) X (kCiX_frC (c := (ks, ad, cE dd E e)) (r := wr) (x := wx) (by rw [cf_id hks]; exact c_X10_addMember l dd ks ad E e M nR nC nt nL nW nV nM cn nm mn me li rl on hO hR hC hT hL hW hV hM hB mI mR hmI hmR hpk v x q)) hl0 (kCV_of X 3 (goodIn_ext gL_addMember_X10_addMember) rfl rfl rfl (by decide +kernel) hRR ⟨(Nat.le_of_ble_eq_true rfl), (Nat.le_of_ble_eq_true rfl)⟩) (j_c0.1.mpr hO.1.1) (j_c0.2.2.trans ((cE_ne (dd := dd) (E := E) (e := e) (k := 0) (by omega)).trans hO.1.2)) rfl rfl rfl (Nat.le_of_ble_eq_true rfl) hRR ⟨(Nat.le_of_ble_eq_true rfl), (Nat.le_of_ble_eq_true rfl)⟩ dL_addMember_7 (fun X9 u hX => ?_) (fun r9 z hp => ?_)
  ·
    obtain ⟨u1, ⟨e9, rfl, hX⟩, rfl⟩ := hX
    rcases hX with ⟨rfl, hX⟩ | ⟨rfl, hX⟩ | ⟨rfl, hX⟩ | ⟨rfl, hX⟩
    ·
      refine kvx_catch (nm := "java/lang/IndexOutOfBoundsException") X htb [] (⟨0, 12, 15, 21⟩ : ExceptionTableEntry) [(⟨0, 12, 19, 13⟩ : ExceptionTableEntry), (⟨0, 12, 23, 31⟩ : ExceptionTableEntry), (⟨0, 12, 27, 15⟩ : ExceptionTableEntry)] rfl (fun z hz => nomatch hz) (by decide) (by decide) (List.mem_append_right _ (List.mem_of_getElem? (i := 2) rfl)) (by decide +kernel) (fun q9 => ?_)
      show kv dd g _ _ 15 [(0, .ref (ad 0)), (1, .int v), (2, .int x), (3, .int q), (4, .ref (wx.2.1 0))] [.ref q9] (jk (ks, ad, cE dd E e9) wr wx) (jd (ks, ad, cE dd E e9) wr wx) (jE (ks, ad, cE dd E e9) wr wx)
      refine kv_astore (lv2 := [(5, .ref q9), (0, .ref (ad 0)), (1, .int v), (2, .int x), (3, .int q), (4, .ref (wx.2.1 0))]) X dL_addMember_15 (by rw [hnL]; decide) rfl ?_
      refine kv_iconst (v := 1) X dL_addMember_17 (by decide) ?_
      exact kv_ireturn X hr (Nat.le_of_ble_eq_true rfl) (Nat.le_of_ble_eq_true rfl) ⟨((ks, ad, cE dd E e9), wx), (Or.inr (Or.inl (⟨rfl, ⟨e9, rfl, hX, rfl⟩⟩))), rfl⟩ dL_addMember_18
    ·
      refine kvx_catch (nm := "java/lang/IllegalArgumentException") X htb [(⟨0, 12, 15, 21⟩ : ExceptionTableEntry)] (⟨0, 12, 19, 13⟩ : ExceptionTableEntry) [(⟨0, 12, 23, 31⟩ : ExceptionTableEntry), (⟨0, 12, 27, 15⟩ : ExceptionTableEntry)] rfl (fun z hz => by
          simp only [List.mem_cons, List.not_mem_nil, or_false] at hz
          rcases hz with rfl
          · exact ⟨by decide, _, (List.mem_append_right _ (List.mem_of_getElem? (i := 2) rfl)), by decide +kernel⟩) (by decide) (by decide) (List.mem_append_right _ (List.mem_of_getElem? (i := 0) rfl)) (by decide +kernel) (fun q9 => ?_)
      show kv dd g _ _ 19 [(0, .ref (ad 0)), (1, .int v), (2, .int x), (3, .int q), (4, .ref (wx.2.1 0))] [.ref q9] (jk (ks, ad, cE dd E e9) wr wx) (jd (ks, ad, cE dd E e9) wr wx) (jE (ks, ad, cE dd E e9) wr wx)
      refine kv_astore (lv2 := [(5, .ref q9), (0, .ref (ad 0)), (1, .int v), (2, .int x), (3, .int q), (4, .ref (wx.2.1 0))]) X dL_addMember_19 (by rw [hnL]; decide) rfl ?_
      refine kv_iconst (v := 2) X dL_addMember_21 (by decide) ?_
      exact kv_ireturn X hr (Nat.le_of_ble_eq_true rfl) (Nat.le_of_ble_eq_true rfl) ⟨((ks, ad, cE dd E e9), wx), (Or.inr (Or.inr (Or.inl (⟨rfl, ⟨e9, rfl, hX, rfl⟩⟩)))), rfl⟩ dL_addMember_22
    ·
      refine kvx_catch (nm := "java/lang/UnsupportedOperationException") X htb [(⟨0, 12, 15, 21⟩ : ExceptionTableEntry), (⟨0, 12, 19, 13⟩ : ExceptionTableEntry)] (⟨0, 12, 23, 31⟩ : ExceptionTableEntry) [(⟨0, 12, 27, 15⟩ : ExceptionTableEntry)] rfl (fun z hz => by
          simp only [List.mem_cons, List.not_mem_nil, or_false] at hz
          rcases hz with rfl | rfl
          · exact ⟨by decide, _, (List.mem_append_right _ (List.mem_of_getElem? (i := 2) rfl)), by decide +kernel⟩
          · exact ⟨by decide, _, (List.mem_append_right _ (List.mem_of_getElem? (i := 0) rfl)), by decide +kernel⟩) (by decide) (by decide) (List.mem_append_right _ (List.mem_of_getElem? (i := 3) rfl)) (by decide +kernel) (fun q9 => ?_)
      show kv dd g _ _ 23 [(0, .ref (ad 0)), (1, .int v), (2, .int x), (3, .int q), (4, .ref (wx.2.1 0))] [.ref q9] (jk (ks, ad, cE dd E e9) wr wx) (jd (ks, ad, cE dd E e9) wr wx) (jE (ks, ad, cE dd E e9) wr wx)
      refine kv_astore (lv2 := [(5, .ref q9), (0, .ref (ad 0)), (1, .int v), (2, .int x), (3, .int q), (4, .ref (wx.2.1 0))]) X dL_addMember_23 (by rw [hnL]; decide) rfl ?_
      refine kv_iconst (v := 3) X dL_addMember_25 (by decide) ?_
      exact kv_ireturn X hr (Nat.le_of_ble_eq_true rfl) (Nat.le_of_ble_eq_true rfl) ⟨((ks, ad, cE dd E e9), wx), (Or.inr (Or.inr (Or.inr (Or.inl (⟨rfl, ⟨e9, rfl, hX, rfl⟩⟩))))), rfl⟩ dL_addMember_26
    ·
      refine kvx_catch (nm := "java/lang/IllegalStateException") X htb [(⟨0, 12, 15, 21⟩ : ExceptionTableEntry), (⟨0, 12, 19, 13⟩ : ExceptionTableEntry), (⟨0, 12, 23, 31⟩ : ExceptionTableEntry)] (⟨0, 12, 27, 15⟩ : ExceptionTableEntry) [] rfl (fun z hz => by
          simp only [List.mem_cons, List.not_mem_nil, or_false] at hz
          rcases hz with rfl | rfl | rfl
          · exact ⟨by decide, _, (List.mem_append_right _ (List.mem_of_getElem? (i := 2) rfl)), by decide +kernel⟩
          · exact ⟨by decide, _, (List.mem_append_right _ (List.mem_of_getElem? (i := 0) rfl)), by decide +kernel⟩
          · exact ⟨by decide, _, (List.mem_append_right _ (List.mem_of_getElem? (i := 3) rfl)), by decide +kernel⟩) (by decide) (by decide) (List.mem_append_right _ (List.mem_of_getElem? (i := 1) rfl)) (by decide +kernel) (fun q9 => ?_)
      show kv dd g _ _ 27 [(0, .ref (ad 0)), (1, .int v), (2, .int x), (3, .int q), (4, .ref (wx.2.1 0))] [.ref q9] (jk (ks, ad, cE dd E e9) wr wx) (jd (ks, ad, cE dd E e9) wr wx) (jE (ks, ad, cE dd E e9) wr wx)
      refine kv_astore (lv2 := [(5, .ref q9), (0, .ref (ad 0)), (1, .int v), (2, .int x), (3, .int q), (4, .ref (wx.2.1 0))]) X dL_addMember_27 (by rw [hnL]; decide) rfl ?_
      refine kv_iconst (v := 4) X dL_addMember_29 (by decide) ?_
      exact kv_ireturn X hr (Nat.le_of_ble_eq_true rfl) (Nat.le_of_ble_eq_true rfl) ⟨((ks, ad, cE dd E e9), wx), (Or.inr (Or.inr (Or.inr (Or.inr (⟨rfl, ⟨e9, rfl, hX, rfl⟩⟩))))), rfl⟩ dL_addMember_30
  ·
    show kv dd g _ _ 10 [(0, .ref (ad 0)), (1, .int v), (2, .int x), (3, .int q), (4, .ref (wx.2.1 0))] [.int r9, .int 0, .ref (wx.2.1 0)] (jk z wr wx) (jd z wr wx) (jE z wr wx)
    refine kv_i2l X dL_addMember_10 rfl ?_
    refine kv_lastore X (κ := 2000) (n := 1) (j := 0) (f := f0) (x := r9.toInt64) (j_x0.1.mpr hx0.1) (j_x0.2.2.trans hx0.2) (by omega) (by omega) dL_addMember_11 ?_
    refine kv_E (E2 := (jE z wr (xJ dd wx f0 r9.toInt64))) (fun j _ => xJ_E j) ?_
    refine kv_goto (tgt := 31) X dL_addMember_12 (by decide) ?_
    refine kv_iconst (v := 0) X dL_addMember_31 (by decide) ?_
    exact kv_ireturn X hr (Nat.le_of_ble_eq_true rfl) (Nat.le_of_ble_eq_true rfl) ⟨(z, (xJ dd wx f0 r9.toInt64)), (Or.inl (⟨rfl, r9, hp, rfl⟩)), rfl⟩ dL_addMember_32

set_option maxRecDepth 100000 in
set_option maxHeartbeats 4000000 in
theorem c_L_addItem (l : Launch) (dd : kDD) (ks : List Nat) (ad : Nat → Nat) (E : Nat → va_E) (e : eS) (wr wx : kT) (hks : ∀ j, j ∈ ks → j < 1000) (M : mS) (nR nC nt nL nW nV nM : Nat) (cn nm mn me li rl : Nat → Nat) (on : Int32) (hO : cO dd ks ad E on) (hR : cR dd ks ad E M nR) (hC : cC dd ks ad E M nC mn me) (hT : cT dd ks ad E M nt cn nm) (hL : cL dd ks ad E M nL nW li) (hW : cW dd ks ad E M nW rl) (hV : cV dd ks ad E M nV) (hM : cM dd ks ad E M nM) (hB : cB M nR nC nt nL nW nV cn nm mn me li rl) (mI mR : Int32 → Nat → Nat) (hmI : ∀ o j, j < nt → mnt o (M.2.1 22) j nV 0 = nI (mI o j) ∧ mI o j < nt) (hmR : ∀ o j, j < nR → mnt o (M.2.1 23) j nV 0 = nI (mR o j) ∧ mR o j < nR) (hpk : ∀ r, r < nR → 1 ≤ M.2.1 5 r) (t : Int32) (f0 : Nat → Int64) (hx0 : 0 ∈ wx.1 ∧ wx.2.2 0 = kJ dd 1 f0) : kCi l yL_addItem (wsL_addItem ++ kHx) ({ frames := 8, cells := 8, slots := 150, locals := 192 } : Room) 8 150 dd [.ref (ad 0), .int t, .ref (wx.2.1 0)] (jk (ks, ad, cE dd E e) wr wx, jd (ks, ad, cE dd E e) wr wx, jE (ks, ad, cE dd E e) wr wx) (kQi (S := kT × kT) (fun r9 z => (r9 = 0 ∧ ∃ v9 : Int32, (fun (r : Int32) (z : kT) => (0 ≤ t ∧ t ≤ 5) ∧ nt < 12 ∧ (z.2.1 0 = ad 0 ∧ cAll dd (M.1, va_up (va_up M.2.1 11 (upd (M.2.1 11) nt t)) 12 (upd (M.2.1 12) nt 0), M.2.2) nR nC (nt + 1) nL nW nV nM (va_up cn nt 0) nm mn me li rl on z) ∧ r = nI nt) v9 z.1 ∧ z.2 = xJ dd wx f0 v9.toInt64) ∨ (r9 = 1 ∧ ∃ e9, z.1 = (ks, ad, cE dd E e9) ∧ ¬ (0 ≤ t ∧ t ≤ 5) ∧ z.2 = wx) ∨ (r9 = 2 ∧ ∃ e9, z.1 = (ks, ad, cE dd E e9) ∧ ((0 ≤ t ∧ t ≤ 5) ∧ nt = 12) ∧ z.2 = wx)) (fun z => jk z.1 wr z.2) (fun z => jd z.1 wr z.2) (fun z => jE z.1 wr z.2)) := by
  refine kMetiW (ws' := _) (cc := cL_addItem) (maxL := 4) (rt := .int) (by decide) rfl (Nat.le_of_ble_eq_true rfl) (fun g X hr htb hnL hRR hl0 => ?_)
  show kv dd g 0 0 0 [(0, .ref (ad 0)), (1, .int t), (2, .ref (wx.2.1 0))] [] (jk (ks, ad, cE dd E e) wr wx) (jd (ks, ad, cE dd E e) wr wx) (jE (ks, ad, cE dd E e) wr wx)
  refine kv_aload_n X 2 dL_addItem_0 rfl rfl ?_
  refine kv_iconst (v := 0) X dL_addItem_1 (by decide) ?_
  refine kv_aload_n X 0 dL_addItem_2 rfl rfl ?_
  refine kv_iload_n X 1 dL_addItem_3 rfl rfl ?_
  refine kv_calliXVc (As := [.int t]) [.int 0, .ref (wx.2.1 0)] (ci := 13) (κ := 0) (r1 := (TX10, 3)) X (kCiX_frC (c := (ks, ad, cE dd E e)) (r := wr) (x := wx) (by rw [cf_id hks]; exact c_X10_addItem l dd ks ad E e M nR nC nt nL nW nV nM cn nm mn me li rl on hO hR hC hT hL hW hV hM hB mI mR hmI hmR hpk t)) hl0 (kCV_of X 1 (goodIn_ext gL_addItem_X10_addItem) rfl rfl rfl (by decide +kernel) hRR ⟨(Nat.le_of_ble_eq_true rfl), (Nat.le_of_ble_eq_true rfl)⟩) (j_c0.1.mpr hO.1.1) (j_c0.2.2.trans ((cE_ne (dd := dd) (E := E) (e := e) (k := 0) (by omega)).trans hO.1.2)) rfl rfl rfl (Nat.le_of_ble_eq_true rfl) hRR ⟨(Nat.le_of_ble_eq_true rfl), (Nat.le_of_ble_eq_true rfl)⟩ dL_addItem_4 (fun X9 u hX => ?_) (fun r9 z hp => ?_)
  ·
    obtain ⟨u1, ⟨e9, rfl, hX⟩, rfl⟩ := hX
    rcases hX with ⟨rfl, hX⟩ | ⟨rfl, hX⟩
    ·
      refine kvx_catch (nm := "java/lang/IllegalArgumentException") X htb [] (⟨0, 9, 12, 13⟩ : ExceptionTableEntry) [(⟨0, 9, 15, 15⟩ : ExceptionTableEntry)] rfl (fun z hz => nomatch hz) (by decide) (by decide) (List.mem_append_right _ (List.mem_of_getElem? (i := 0) rfl)) (by decide +kernel) (fun q9 => ?_)
      show kv dd g _ _ 12 [(0, .ref (ad 0)), (1, .int t), (2, .ref (wx.2.1 0))] [.ref q9] (jk (ks, ad, cE dd E e9) wr wx) (jd (ks, ad, cE dd E e9) wr wx) (jE (ks, ad, cE dd E e9) wr wx)
      refine kv_astore_n (lv2 := [(3, .ref q9), (0, .ref (ad 0)), (1, .int t), (2, .ref (wx.2.1 0))]) X dL_addItem_12 rfl (by rw [hnL]; decide) rfl ?_
      refine kv_iconst (v := 1) X dL_addItem_13 (by decide) ?_
      exact kv_ireturn X hr (Nat.le_of_ble_eq_true rfl) (Nat.le_of_ble_eq_true rfl) ⟨((ks, ad, cE dd E e9), wx), (Or.inr (Or.inl (⟨rfl, ⟨e9, rfl, hX, rfl⟩⟩))), rfl⟩ dL_addItem_14
    ·
      refine kvx_catch (nm := "java/lang/IllegalStateException") X htb [(⟨0, 9, 12, 13⟩ : ExceptionTableEntry)] (⟨0, 9, 15, 15⟩ : ExceptionTableEntry) [] rfl (fun z hz => by
          simp only [List.mem_cons, List.not_mem_nil, or_false] at hz
          rcases hz with rfl
          · exact ⟨by decide, _, (List.mem_append_right _ (List.mem_of_getElem? (i := 0) rfl)), by decide +kernel⟩) (by decide) (by decide) (List.mem_append_right _ (List.mem_of_getElem? (i := 1) rfl)) (by decide +kernel) (fun q9 => ?_)
      show kv dd g _ _ 15 [(0, .ref (ad 0)), (1, .int t), (2, .ref (wx.2.1 0))] [.ref q9] (jk (ks, ad, cE dd E e9) wr wx) (jd (ks, ad, cE dd E e9) wr wx) (jE (ks, ad, cE dd E e9) wr wx)
      refine kv_astore_n (lv2 := [(3, .ref q9), (0, .ref (ad 0)), (1, .int t), (2, .ref (wx.2.1 0))]) X dL_addItem_15 rfl (by rw [hnL]; decide) rfl ?_
      refine kv_iconst (v := 2) X dL_addItem_16 (by decide) ?_
      exact kv_ireturn X hr (Nat.le_of_ble_eq_true rfl) (Nat.le_of_ble_eq_true rfl) ⟨((ks, ad, cE dd E e9), wx), (Or.inr (Or.inr (⟨rfl, ⟨e9, rfl, hX, rfl⟩⟩))), rfl⟩ dL_addItem_17
  ·
    show kv dd g _ _ 7 [(0, .ref (ad 0)), (1, .int t), (2, .ref (wx.2.1 0))] [.int r9, .int 0, .ref (wx.2.1 0)] (jk z wr wx) (jd z wr wx) (jE z wr wx)
    refine kv_i2l X dL_addItem_7 rfl ?_
    refine kv_lastore X (κ := 2000) (n := 1) (j := 0) (f := f0) (x := r9.toInt64) (j_x0.1.mpr hx0.1) (j_x0.2.2.trans hx0.2) (by omega) (by omega) dL_addItem_8 ?_
    refine kv_E (E2 := (jE z wr (xJ dd wx f0 r9.toInt64))) (fun j _ => xJ_E j) ?_
    refine kv_goto (tgt := 18) X dL_addItem_9 (by decide) ?_
    refine kv_iconst (v := 0) X dL_addItem_18 (by decide) ?_
    exact kv_ireturn X hr (Nat.le_of_ble_eq_true rfl) (Nat.le_of_ble_eq_true rfl) ⟨(z, (xJ dd wx f0 r9.toInt64)), (Or.inl (⟨rfl, r9, hp, rfl⟩)), rfl⟩ dL_addItem_19

set_option maxRecDepth 100000 in
set_option maxHeartbeats 4000000 in
theorem c_L_dropLast (l : Launch) (dd : kDD) (ks : List Nat) (ad : Nat → Nat) (E : Nat → va_E) (e : eS) (wr wx : kT) (hks : ∀ j, j ∈ ks → j < 1000) (M : mS) (nR nC nt nL nW nV nM : Nat) (cn nm mn me li rl : Nat → Nat) (on : Int32) (hO : cO dd ks ad E on) (hR : cR dd ks ad E M nR) (hC : cC dd ks ad E M nC mn me) (hT : cT dd ks ad E M nt cn nm) (hL : cL dd ks ad E M nL nW li) (hW : cW dd ks ad E M nW rl) (hV : cV dd ks ad E M nV) (hM : cM dd ks ad E M nM) (hB : cB M nR nC nt nL nW nV cn nm mn me li rl) (mI mR : Int32 → Nat → Nat) (hmI : ∀ o j, j < nt → mnt o (M.2.1 22) j nV 0 = nI (mI o j) ∧ mI o j < nt) (hmR : ∀ o j, j < nR → mnt o (M.2.1 23) j nV 0 = nI (mR o j) ∧ mR o j < nR) (hpk : ∀ r, r < nR → 1 ≤ M.2.1 5 r) (v : Int32) (f0 : Nat → Int64) (hx0 : 0 ∈ wx.1 ∧ wx.2.2 0 = kJ dd 1 f0) : kCi l yL_dropLast (wsL_dropLast ++ kHx) ({ frames := 8, cells := 2, slots := 12, locals := 148 } : Room) 2 12 dd [.ref (ad 0), .int v, .ref (wx.2.1 0)] (jk (ks, ad, cE dd E e) wr wx, jd (ks, ad, cE dd E e) wr wx, jE (ks, ad, cE dd E e) wr wx) (kQi (S := kT × kT) (fun r9 z => (r9 = 0 ∧ ∃ v9 : Int32, (fun (r : Int32) (z : kT) => ∃ j, (j < nt ∧ v = nI j) ∧ 0 < cn j ∧ (z.2.1 0 = ad 0 ∧ cAll dd (M.1, va_up M.2.1 12 (upd (M.2.1 12) j (nI (cn j - 1))), M.2.2) nR nC nt nL nW nV nM (va_up cn j (cn j - 1)) nm mn me li rl on z) ∧ r = nI (cn j - 1)) v9 z.1 ∧ z.2 = xJ dd wx f0 v9.toInt64) ∨ (r9 = 1 ∧ ∃ e9, z.1 = (ks, ad, cE dd E e9) ∧ ¬ (∃ j, j < nt ∧ v = nI j) ∧ z.2 = wx) ∨ (r9 = 2 ∧ ∃ e9, z.1 = (ks, ad, cE dd E e9) ∧ (∃ j, (j < nt ∧ v = nI j) ∧ cn j = 0) ∧ z.2 = wx)) (fun z => jk z.1 wr z.2) (fun z => jd z.1 wr z.2) (fun z => jE z.1 wr z.2)) := by
  refine kMetiW (ws' := _) (cc := cL_dropLast) (maxL := 4) (rt := .int) (by decide) rfl (Nat.le_of_ble_eq_true rfl) (fun g X hr htb hnL hRR hl0 => ?_)
  show kv dd g 0 0 0 [(0, .ref (ad 0)), (1, .int v), (2, .ref (wx.2.1 0))] [] (jk (ks, ad, cE dd E e) wr wx) (jd (ks, ad, cE dd E e) wr wx) (jE (ks, ad, cE dd E e) wr wx)
  refine kv_aload_n X 2 dL_dropLast_0 rfl rfl ?_
  refine kv_iconst (v := 0) X dL_dropLast_1 (by decide) ?_
  refine kv_aload_n X 0 dL_dropLast_2 rfl rfl ?_
  refine kv_iload_n X 1 dL_dropLast_3 rfl rfl ?_
  refine kv_calliXVc (As := [.int v]) [.int 0, .ref (wx.2.1 0)] (ci := 13) (κ := 0) (r1 := (TX10, 3)) X (kCiX_frC (c := (ks, ad, cE dd E e)) (r := wr) (x := wx) (by rw [cf_id hks]; exact c_X10_dropLast l dd ks ad E e M nR nC nt nL nW nV nM cn nm mn me li rl on hO hR hC hT hL hW hV hM hB mI mR hmI hmR hpk v)) hl0 (kCV_of X 1 (goodIn_ext gL_dropLast_X10_dropLast) rfl rfl rfl (by decide +kernel) hRR ⟨(Nat.le_of_ble_eq_true rfl), (Nat.le_of_ble_eq_true rfl)⟩) (j_c0.1.mpr hO.1.1) (j_c0.2.2.trans ((cE_ne (dd := dd) (E := E) (e := e) (k := 0) (by omega)).trans hO.1.2)) rfl rfl rfl (Nat.le_of_ble_eq_true rfl) hRR ⟨(Nat.le_of_ble_eq_true rfl), (Nat.le_of_ble_eq_true rfl)⟩ dL_dropLast_4 (fun X9 u hX => ?_) (fun r9 z hp => ?_)
  ·
    obtain ⟨u1, ⟨e9, rfl, hX⟩, rfl⟩ := hX
    rcases hX with ⟨rfl, hX⟩ | ⟨rfl, hX⟩
    ·
      refine kvx_catch (nm := "java/lang/IndexOutOfBoundsException") X htb [] (⟨0, 9, 12, 21⟩ : ExceptionTableEntry) [(⟨0, 9, 15, 15⟩ : ExceptionTableEntry)] rfl (fun z hz => nomatch hz) (by decide) (by decide) (List.mem_append_right _ (List.mem_of_getElem? (i := 2) rfl)) (by decide +kernel) (fun q9 => ?_)
      show kv dd g _ _ 12 [(0, .ref (ad 0)), (1, .int v), (2, .ref (wx.2.1 0))] [.ref q9] (jk (ks, ad, cE dd E e9) wr wx) (jd (ks, ad, cE dd E e9) wr wx) (jE (ks, ad, cE dd E e9) wr wx)
      refine kv_astore_n (lv2 := [(3, .ref q9), (0, .ref (ad 0)), (1, .int v), (2, .ref (wx.2.1 0))]) X dL_dropLast_12 rfl (by rw [hnL]; decide) rfl ?_
      refine kv_iconst (v := 1) X dL_dropLast_13 (by decide) ?_
      exact kv_ireturn X hr (Nat.le_of_ble_eq_true rfl) (Nat.le_of_ble_eq_true rfl) ⟨((ks, ad, cE dd E e9), wx), (Or.inr (Or.inl (⟨rfl, ⟨e9, rfl, hX, rfl⟩⟩))), rfl⟩ dL_dropLast_14
    ·
      refine kvx_catch (nm := "java/lang/IllegalStateException") X htb [(⟨0, 9, 12, 21⟩ : ExceptionTableEntry)] (⟨0, 9, 15, 15⟩ : ExceptionTableEntry) [] rfl (fun z hz => by
          simp only [List.mem_cons, List.not_mem_nil, or_false] at hz
          rcases hz with rfl
          · exact ⟨by decide, _, (List.mem_append_right _ (List.mem_of_getElem? (i := 2) rfl)), by decide +kernel⟩) (by decide) (by decide) (List.mem_append_right _ (List.mem_of_getElem? (i := 1) rfl)) (by decide +kernel) (fun q9 => ?_)
      show kv dd g _ _ 15 [(0, .ref (ad 0)), (1, .int v), (2, .ref (wx.2.1 0))] [.ref q9] (jk (ks, ad, cE dd E e9) wr wx) (jd (ks, ad, cE dd E e9) wr wx) (jE (ks, ad, cE dd E e9) wr wx)
      refine kv_astore_n (lv2 := [(3, .ref q9), (0, .ref (ad 0)), (1, .int v), (2, .ref (wx.2.1 0))]) X dL_dropLast_15 rfl (by rw [hnL]; decide) rfl ?_
      refine kv_iconst (v := 2) X dL_dropLast_16 (by decide) ?_
      exact kv_ireturn X hr (Nat.le_of_ble_eq_true rfl) (Nat.le_of_ble_eq_true rfl) ⟨((ks, ad, cE dd E e9), wx), (Or.inr (Or.inr (⟨rfl, ⟨e9, rfl, hX, rfl⟩⟩))), rfl⟩ dL_dropLast_17
  ·
    show kv dd g _ _ 7 [(0, .ref (ad 0)), (1, .int v), (2, .ref (wx.2.1 0))] [.int r9, .int 0, .ref (wx.2.1 0)] (jk z wr wx) (jd z wr wx) (jE z wr wx)
    refine kv_i2l X dL_dropLast_7 rfl ?_
    refine kv_lastore X (κ := 2000) (n := 1) (j := 0) (f := f0) (x := r9.toInt64) (j_x0.1.mpr hx0.1) (j_x0.2.2.trans hx0.2) (by omega) (by omega) dL_dropLast_8 ?_
    refine kv_E (E2 := (jE z wr (xJ dd wx f0 r9.toInt64))) (fun j _ => xJ_E j) ?_
    refine kv_goto (tgt := 18) X dL_dropLast_9 (by decide) ?_
    refine kv_iconst (v := 0) X dL_dropLast_18 (by decide) ?_
    exact kv_ireturn X hr (Nat.le_of_ble_eq_true rfl) (Nat.le_of_ble_eq_true rfl) ⟨(z, (xJ dd wx f0 r9.toInt64)), (Or.inl (⟨rfl, r9, hp, rfl⟩)), rfl⟩ dL_dropLast_19

set_option maxRecDepth 100000 in
set_option maxHeartbeats 4000000 in
theorem c_L_depthOf (l : Launch) (dd : kDD) (ks : List Nat) (ad : Nat → Nat) (E : Nat → va_E) (e : eS) (wr wx : kT) (hks : ∀ j, j ∈ ks → j < 1000) (M : mS) (nR nC nt nL nW nV nM : Nat) (cn nm mn me li rl : Nat → Nat) (on : Int32) (hO : cO dd ks ad E on) (hR : cR dd ks ad E M nR) (hC : cC dd ks ad E M nC mn me) (hT : cT dd ks ad E M nt cn nm) (hL : cL dd ks ad E M nL nW li) (hW : cW dd ks ad E M nW rl) (hV : cV dd ks ad E M nV) (hM : cM dd ks ad E M nM) (hB : cB M nR nC nt nL nW nV cn nm mn me li rl) (mI mR : Int32 → Nat → Nat) (hmI : ∀ o j, j < nt → mnt o (M.2.1 22) j nV 0 = nI (mI o j) ∧ mI o j < nt) (hmR : ∀ o j, j < nR → mnt o (M.2.1 23) j nV 0 = nI (mR o j) ∧ mR o j < nR) (hpk : ∀ r, r < nR → 1 ≤ M.2.1 5 r) (v : Int32) (hfx : kFx (M.2.1 13) cn (fun k => mI on (nm k)) (nJ (M.2.1 13) cn (fun k => mI on (nm k)) 2) nt) (f0 : Nat → Int64) (hx0 : 0 ∈ wx.1 ∧ wx.2.2 0 = kJ dd 1 f0) : kCi l yL_depthOf (wsL_depthOf ++ kHx) ({ frames := 8, cells := 1, slots := 6, locals := 154 } : Room) 1 6 dd [.ref (ad 0), .int v, .ref (wx.2.1 0)] (jk (ks, ad, cE dd E e) wr wx, jd (ks, ad, cE dd E e) wr wx, jE (ks, ad, cE dd E e) wr wx) (kQi (S := kT × kT) (fun r9 z => (r9 = 0 ∧ ∃ (z9 : eS) (v9 : Int32), (fun (r : Int32) (z : eS) => ∃ j, (j < nt ∧ v = nI j) ∧ r = nI ((nJ (M.2.1 13) cn (fun k => mI on (nm k)) 2) j)) v9 z9 ∧ z.1 = (ks, ad, cE dd E z9) ∧ z.2 = xJ dd wx f0 v9.toInt64) ∨ (r9 = 1 ∧ ∃ e9, z.1 = (ks, ad, cE dd E e9) ∧ ¬ (∃ j, j < nt ∧ v = nI j) ∧ z.2 = wx)) (fun z => jk z.1 wr z.2) (fun z => jd z.1 wr z.2) (fun z => jE z.1 wr z.2)) := by
  refine kMetiW (ws' := _) (cc := cL_depthOf) (maxL := 4) (rt := .int) (by decide) rfl (Nat.le_of_ble_eq_true rfl) (fun g X hr htb hnL hRR hl0 => ?_)
  show kv dd g 0 0 0 [(0, .ref (ad 0)), (1, .int v), (2, .ref (wx.2.1 0))] [] (jk (ks, ad, cE dd E e) wr wx) (jd (ks, ad, cE dd E e) wr wx) (jE (ks, ad, cE dd E e) wr wx)
  refine kv_aload_n X 2 dL_depthOf_0 rfl rfl ?_
  refine kv_iconst (v := 0) X dL_depthOf_1 (by decide) ?_
  refine kv_aload_n X 0 dL_depthOf_2 rfl rfl ?_
  refine kv_iload_n X 1 dL_depthOf_3 rfl rfl ?_
  refine kv_calliXVc (As := [.int v]) [.int 0, .ref (wx.2.1 0)] (ci := 13) (κ := 0) (r1 := (TX10, 3)) X (kCiX_frC (c := (ks, ad, cE dd E e)) (r := wr) (x := wx) (by rw [cf_id hks]; exact c_X10_depthOf l dd ks ad E e M nR nC nt nL nW nV nM cn nm mn me li rl on hO hR hC hT hL hW hV hM hB mI mR hmI hmR hpk v hfx)) hl0 (kCV_of X 1 (goodIn_ext gL_depthOf_X10_depthOf) rfl rfl rfl (by decide +kernel) hRR ⟨(Nat.le_of_ble_eq_true rfl), (Nat.le_of_ble_eq_true rfl)⟩) (j_c0.1.mpr hO.1.1) (j_c0.2.2.trans ((cE_ne (dd := dd) (E := E) (e := e) (k := 0) (by omega)).trans hO.1.2)) rfl rfl rfl (Nat.le_of_ble_eq_true rfl) hRR ⟨(Nat.le_of_ble_eq_true rfl), (Nat.le_of_ble_eq_true rfl)⟩ dL_depthOf_4 (fun X9 u hX => ?_) (fun r9 z hp => ?_)
  ·
    obtain ⟨u1, ⟨e9, rfl, hX⟩, rfl⟩ := hX
    rcases hX with ⟨rfl, hX⟩
    refine kvx_catch (nm := "java/lang/IndexOutOfBoundsException") X htb [] (⟨0, 9, 12, 21⟩ : ExceptionTableEntry) [] rfl (fun z hz => nomatch hz) (by decide) (by decide) (List.mem_append_right _ (List.mem_of_getElem? (i := 2) rfl)) (by decide +kernel) (fun q9 => ?_)
    show kv dd g _ _ 12 [(0, .ref (ad 0)), (1, .int v), (2, .ref (wx.2.1 0))] [.ref q9] (jk (ks, ad, cE dd E e9) wr wx) (jd (ks, ad, cE dd E e9) wr wx) (jE (ks, ad, cE dd E e9) wr wx)
    refine kv_astore_n (lv2 := [(3, .ref q9), (0, .ref (ad 0)), (1, .int v), (2, .ref (wx.2.1 0))]) X dL_depthOf_12 rfl (by rw [hnL]; decide) rfl ?_
    refine kv_iconst (v := 1) X dL_depthOf_13 (by decide) ?_
    exact kv_ireturn X hr (Nat.le_of_ble_eq_true rfl) (Nat.le_of_ble_eq_true rfl) ⟨((ks, ad, cE dd E e9), wx), (Or.inr (⟨rfl, ⟨e9, rfl, hX, rfl⟩⟩)), rfl⟩ dL_depthOf_14
  ·
    show kv dd g _ _ 7 [(0, .ref (ad 0)), (1, .int v), (2, .ref (wx.2.1 0))] [.int r9, .int 0, .ref (wx.2.1 0)] (jk (ks, ad, cE dd E z) wr wx) (jd (ks, ad, cE dd E z) wr wx) (jE (ks, ad, cE dd E z) wr wx)
    refine kv_i2l X dL_depthOf_7 rfl ?_
    refine kv_lastore X (κ := 2000) (n := 1) (j := 0) (f := f0) (x := r9.toInt64) (j_x0.1.mpr hx0.1) (j_x0.2.2.trans hx0.2) (by omega) (by omega) dL_depthOf_8 ?_
    refine kv_E (E2 := (jE (ks, ad, cE dd E z) wr (xJ dd wx f0 r9.toInt64))) (fun j _ => xJ_E j) ?_
    refine kv_goto (tgt := 15) X dL_depthOf_9 (by decide) ?_
    refine kv_iconst (v := 0) X dL_depthOf_15 (by decide) ?_
    exact kv_ireturn X hr (Nat.le_of_ble_eq_true rfl) (Nat.le_of_ble_eq_true rfl) ⟨((ks, ad, cE dd E z), (xJ dd wx f0 r9.toInt64)), (Or.inl (⟨rfl, z, r9, hp, rfl, rfl⟩)), rfl⟩ dL_depthOf_16

set_option maxRecDepth 100000 in
set_option maxHeartbeats 4000000 in
theorem c_L_unitCost (l : Launch) (dd : kDD) (ks : List Nat) (ad : Nat → Nat) (E : Nat → va_E) (e : eS) (wr wx : kT) (hks : ∀ j, j ∈ ks → j < 1000) (M : mS) (nR nC nt nL nW nV nM : Nat) (cn nm mn me li rl : Nat → Nat) (on : Int32) (hO : cO dd ks ad E on) (hR : cR dd ks ad E M nR) (hC : cC dd ks ad E M nC mn me) (hT : cT dd ks ad E M nt cn nm) (hL : cL dd ks ad E M nL nW li) (hW : cW dd ks ad E M nW rl) (hV : cV dd ks ad E M nV) (hM : cM dd ks ad E M nM) (hB : cB M nR nC nt nL nW nV cn nm mn me li rl) (mI mR : Int32 → Nat → Nat) (hmI : ∀ o j, j < nt → mnt o (M.2.1 22) j nV 0 = nI (mI o j) ∧ mI o j < nt) (hmR : ∀ o j, j < nR → mnt o (M.2.1 23) j nV 0 = nI (mR o j) ∧ mR o j < nR) (hpk : ∀ r, r < nR → 1 ≤ M.2.1 5 r) (v : Int32) (hfx : kFx (M.2.1 13) cn (fun k => mI on (nm k)) (nJ (M.2.1 13) cn (fun k => mI on (nm k)) 2) nt) (f0 : Nat → Int64) (hx0 : 0 ∈ wx.1 ∧ wx.2.2 0 = kJ dd 1 f0) : kCi l yL_unitCost (wsL_unitCost ++ kHx) ({ frames := 10, cells := 1, slots := 6, locals := 223 } : Room) 1 6 dd [.ref (ad 0), .int v, .ref (wx.2.1 0)] (jk (ks, ad, cE dd E e) wr wx, jd (ks, ad, cE dd E e) wr wx, jE (ks, ad, cE dd E e) wr wx) (kQi (S := kT × kT) (fun r9 z => (r9 = 0 ∧ ∃ (z9 : eS) (v9 : Int64), (fun (r : Int64) (z : eS) => ∃ j, (j < nt ∧ v = nI j) ∧ cDn M nR nt nL nW nM cn nm mn me li (mI on) (mR on) (nJ (M.2.1 13) cn (fun k => mI on (nm k)) 2) z ∧ r = cou (z.2 (37 + j)) (M.2.1 3) nR) v9 z9 ∧ z.1 = (ks, ad, cE dd E z9) ∧ z.2 = xJ dd wx f0 v9) ∨ (r9 = 1 ∧ ∃ e9, z.1 = (ks, ad, cE dd E e9) ∧ ¬ (∃ j, j < nt ∧ v = nI j) ∧ z.2 = wx)) (fun z => jk z.1 wr z.2) (fun z => jd z.1 wr z.2) (fun z => jE z.1 wr z.2)) := by
  refine kMetiW (ws' := _) (cc := cL_unitCost) (maxL := 4) (rt := .int) (by decide) rfl (Nat.le_of_ble_eq_true rfl) (fun g X hr htb hnL hRR hl0 => ?_)
  show kv dd g 0 0 0 [(0, .ref (ad 0)), (1, .int v), (2, .ref (wx.2.1 0))] [] (jk (ks, ad, cE dd E e) wr wx) (jd (ks, ad, cE dd E e) wr wx) (jE (ks, ad, cE dd E e) wr wx)
  refine kv_aload_n X 2 dL_unitCost_0 rfl rfl ?_
  refine kv_iconst (v := 0) X dL_unitCost_1 (by decide) ?_
  refine kv_aload_n X 0 dL_unitCost_2 rfl rfl ?_
  refine kv_iload_n X 1 dL_unitCost_3 rfl rfl ?_
  refine kv_calllXVc (As := [.int v]) [.int 0, .ref (wx.2.1 0)] (ci := 13) (κ := 0) (r1 := (TX10, 3)) X (kClX_frC (c := (ks, ad, cE dd E e)) (r := wr) (x := wx) (by rw [cf_id hks]; exact c_X10_unitCost l dd ks ad E e M nR nC nt nL nW nV nM cn nm mn me li rl on hO hR hC hT hL hW hV hM hB mI mR hmI hmR hpk v hfx)) hl0 (kCV_of X 1 (goodIn_ext gL_unitCost_X10_unitCost) rfl rfl rfl (by decide +kernel) hRR ⟨(Nat.le_of_ble_eq_true rfl), (Nat.le_of_ble_eq_true rfl)⟩) (j_c0.1.mpr hO.1.1) (j_c0.2.2.trans ((cE_ne (dd := dd) (E := E) (e := e) (k := 0) (by omega)).trans hO.1.2)) rfl rfl rfl (Nat.le_of_ble_eq_true rfl) hRR ⟨(Nat.le_of_ble_eq_true rfl), (Nat.le_of_ble_eq_true rfl)⟩ dL_unitCost_4 (fun X9 u hX => ?_) (fun r9 z hp => ?_)
  ·
    obtain ⟨u1, ⟨e9, rfl, hX⟩, rfl⟩ := hX
    rcases hX with ⟨rfl, hX⟩
    refine kvx_catch (nm := "java/lang/IndexOutOfBoundsException") X htb [] (⟨0, 8, 11, 21⟩ : ExceptionTableEntry) [] rfl (fun z hz => nomatch hz) (by decide) (by decide) (List.mem_append_right _ (List.mem_of_getElem? (i := 2) rfl)) (by decide +kernel) (fun q9 => ?_)
    show kv dd g _ _ 11 [(0, .ref (ad 0)), (1, .int v), (2, .ref (wx.2.1 0))] [.ref q9] (jk (ks, ad, cE dd E e9) wr wx) (jd (ks, ad, cE dd E e9) wr wx) (jE (ks, ad, cE dd E e9) wr wx)
    refine kv_astore_n (lv2 := [(3, .ref q9), (0, .ref (ad 0)), (1, .int v), (2, .ref (wx.2.1 0))]) X dL_unitCost_11 rfl (by rw [hnL]; decide) rfl ?_
    refine kv_iconst (v := 1) X dL_unitCost_12 (by decide) ?_
    exact kv_ireturn X hr (Nat.le_of_ble_eq_true rfl) (Nat.le_of_ble_eq_true rfl) ⟨((ks, ad, cE dd E e9), wx), (Or.inr (⟨rfl, ⟨e9, rfl, hX, rfl⟩⟩)), rfl⟩ dL_unitCost_13
  ·
    show kv dd g _ _ 7 [(0, .ref (ad 0)), (1, .int v), (2, .ref (wx.2.1 0))] [.long r9, .int 0, .ref (wx.2.1 0)] (jk (ks, ad, cE dd E z) wr wx) (jd (ks, ad, cE dd E z) wr wx) (jE (ks, ad, cE dd E z) wr wx)
    refine kv_lastore X (κ := 2000) (n := 1) (j := 0) (f := f0) (x := r9) (j_x0.1.mpr hx0.1) (j_x0.2.2.trans hx0.2) (by omega) (by omega) dL_unitCost_7 ?_
    refine kv_E (E2 := (jE (ks, ad, cE dd E z) wr (xJ dd wx f0 r9))) (fun j _ => xJ_E j) ?_
    refine kv_goto (tgt := 14) X dL_unitCost_8 (by decide) ?_
    refine kv_iconst (v := 0) X dL_unitCost_14 (by decide) ?_
    exact kv_ireturn X hr (Nat.le_of_ble_eq_true rfl) (Nat.le_of_ble_eq_true rfl) ⟨((ks, ad, cE dd E z), (xJ dd wx f0 r9)), (Or.inl (⟨rfl, z, r9, hp, rfl, rfl⟩)), rfl⟩ dL_unitCost_15

set_option maxRecDepth 100000 in
set_option maxHeartbeats 4000000 in
theorem c_L_needed (l : Launch) (dd : kDD) (ks : List Nat) (ad : Nat → Nat) (E : Nat → va_E) (e : eS) (wr wx : kT) (hks : ∀ j, j ∈ ks → j < 1000) (M : mS) (nR nC nt nL nW nV nM : Nat) (cn nm mn me li rl : Nat → Nat) (on : Int32) (hO : cO dd ks ad E on) (hR : cR dd ks ad E M nR) (hC : cC dd ks ad E M nC mn me) (hT : cT dd ks ad E M nt cn nm) (hL : cL dd ks ad E M nL nW li) (hW : cW dd ks ad E M nW rl) (hV : cV dd ks ad E M nV) (hM : cM dd ks ad E M nM) (hB : cB M nR nC nt nL nW nV cn nm mn me li rl) (mI mR : Int32 → Nat → Nat) (hmI : ∀ o j, j < nt → mnt o (M.2.1 22) j nV 0 = nI (mI o j) ∧ mI o j < nt) (hmR : ∀ o j, j < nR → mnt o (M.2.1 23) j nV 0 = nI (mR o j) ∧ mR o j < nR) (hpk : ∀ r, r < nR → 1 ≤ M.2.1 5 r) (v : Int32) (x : Int32) (hfx : kFx (M.2.1 13) cn (fun k => mI on (nm k)) (nJ (M.2.1 13) cn (fun k => mI on (nm k)) 2) nt) (f0 : Nat → Int64) (hx0 : 0 ∈ wx.1 ∧ wx.2.2 0 = kJ dd 1 f0) : kCi l yL_needed (wsL_needed ++ kHx) ({ frames := 10, cells := 2, slots := 12, locals := 224 } : Room) 2 12 dd [.ref (ad 0), .int v, .int x, .ref (wx.2.1 0)] (jk (ks, ad, cE dd E e) wr wx, jd (ks, ad, cE dd E e) wr wx, jE (ks, ad, cE dd E e) wr wx) (kQi (S := kT × kT) (fun r9 z => (r9 = 0 ∧ ∃ (z9 : eS) (v9 : Int64), (fun (r : Int64) (z : eS) => ∃ j, ∃ k, (j < nt ∧ k < nR ∧ v = nI j ∧ x = nI k) ∧ cDn M nR nt nL nW nM cn nm mn me li (mI on) (mR on) (nJ (M.2.1 13) cn (fun k => mI on (nm k)) 2) z ∧ r = z.2 (37 + j) k) v9 z9 ∧ z.1 = (ks, ad, cE dd E z9) ∧ z.2 = xJ dd wx f0 v9) ∨ (r9 = 1 ∧ ∃ e9, z.1 = (ks, ad, cE dd E e9) ∧ ¬ ((∃ j, j < nt ∧ v = nI j) ∧ (∃ j, j < nR ∧ x = nI j)) ∧ z.2 = wx)) (fun z => jk z.1 wr z.2) (fun z => jd z.1 wr z.2) (fun z => jE z.1 wr z.2)) := by
  refine kMetiW (ws' := _) (cc := cL_needed) (maxL := 5) (rt := .int) (by decide) rfl (Nat.le_of_ble_eq_true rfl) (fun g X hr htb hnL hRR hl0 => ?_)
  show kv dd g 0 0 0 [(0, .ref (ad 0)), (1, .int v), (2, .int x), (3, .ref (wx.2.1 0))] [] (jk (ks, ad, cE dd E e) wr wx) (jd (ks, ad, cE dd E e) wr wx) (jE (ks, ad, cE dd E e) wr wx)
  refine kv_aload_n X 3 dL_needed_0 rfl rfl ?_
  refine kv_iconst (v := 0) X dL_needed_1 (by decide) ?_
  refine kv_aload_n X 0 dL_needed_2 rfl rfl ?_
  refine kv_iload_n X 1 dL_needed_3 rfl rfl ?_
  refine kv_iload_n X 2 dL_needed_4 rfl rfl ?_
  refine kv_calllXVc (As := [.int v, .int x]) [.int 0, .ref (wx.2.1 0)] (ci := 13) (κ := 0) (r1 := (TX10, 3)) X (kClX_frC (c := (ks, ad, cE dd E e)) (r := wr) (x := wx) (by rw [cf_id hks]; exact c_X10_needed l dd ks ad E e M nR nC nt nL nW nV nM cn nm mn me li rl on hO hR hC hT hL hW hV hM hB mI mR hmI hmR hpk v x hfx)) hl0 (kCV_of X 2 (goodIn_ext gL_needed_X10_needed) rfl rfl rfl (by decide +kernel) hRR ⟨(Nat.le_of_ble_eq_true rfl), (Nat.le_of_ble_eq_true rfl)⟩) (j_c0.1.mpr hO.1.1) (j_c0.2.2.trans ((cE_ne (dd := dd) (E := E) (e := e) (k := 0) (by omega)).trans hO.1.2)) rfl rfl rfl (Nat.le_of_ble_eq_true rfl) hRR ⟨(Nat.le_of_ble_eq_true rfl), (Nat.le_of_ble_eq_true rfl)⟩ dL_needed_5 (fun X9 u hX => ?_) (fun r9 z hp => ?_)
  ·
    obtain ⟨u1, ⟨e9, rfl, hX⟩, rfl⟩ := hX
    rcases hX with ⟨rfl, hX⟩
    refine kvx_catch (nm := "java/lang/IndexOutOfBoundsException") X htb [] (⟨0, 9, 12, 21⟩ : ExceptionTableEntry) [] rfl (fun z hz => nomatch hz) (by decide) (by decide) (List.mem_append_right _ (List.mem_of_getElem? (i := 2) rfl)) (by decide +kernel) (fun q9 => ?_)
    show kv dd g _ _ 12 [(0, .ref (ad 0)), (1, .int v), (2, .int x), (3, .ref (wx.2.1 0))] [.ref q9] (jk (ks, ad, cE dd E e9) wr wx) (jd (ks, ad, cE dd E e9) wr wx) (jE (ks, ad, cE dd E e9) wr wx)
    refine kv_astore (lv2 := [(4, .ref q9), (0, .ref (ad 0)), (1, .int v), (2, .int x), (3, .ref (wx.2.1 0))]) X dL_needed_12 (by rw [hnL]; decide) rfl ?_
    refine kv_iconst (v := 1) X dL_needed_14 (by decide) ?_
    exact kv_ireturn X hr (Nat.le_of_ble_eq_true rfl) (Nat.le_of_ble_eq_true rfl) ⟨((ks, ad, cE dd E e9), wx), (Or.inr (⟨rfl, ⟨e9, rfl, hX, rfl⟩⟩)), rfl⟩ dL_needed_15
  ·
    show kv dd g _ _ 8 [(0, .ref (ad 0)), (1, .int v), (2, .int x), (3, .ref (wx.2.1 0))] [.long r9, .int 0, .ref (wx.2.1 0)] (jk (ks, ad, cE dd E z) wr wx) (jd (ks, ad, cE dd E z) wr wx) (jE (ks, ad, cE dd E z) wr wx)
    refine kv_lastore X (κ := 2000) (n := 1) (j := 0) (f := f0) (x := r9) (j_x0.1.mpr hx0.1) (j_x0.2.2.trans hx0.2) (by omega) (by omega) dL_needed_8 ?_
    refine kv_E (E2 := (jE (ks, ad, cE dd E z) wr (xJ dd wx f0 r9))) (fun j _ => xJ_E j) ?_
    refine kv_goto (tgt := 16) X dL_needed_9 (by decide) ?_
    refine kv_iconst (v := 0) X dL_needed_16 (by decide) ?_
    exact kv_ireturn X hr (Nat.le_of_ble_eq_true rfl) (Nat.le_of_ble_eq_true rfl) ⟨((ks, ad, cE dd E z), (xJ dd wx f0 r9)), (Or.inl (⟨rfl, z, r9, hp, rfl, rfl⟩)), rfl⟩ dL_needed_17

set_option maxRecDepth 100000 in
set_option maxHeartbeats 4000000 in
theorem c_L_addLine (l : Launch) (dd : kDD) (ks : List Nat) (ad : Nat → Nat) (E : Nat → va_E) (e : eS) (wr wx : kT) (hks : ∀ j, j ∈ ks → j < 1000) (M : mS) (nR nC nt nL nW nV nM : Nat) (cn nm mn me li rl : Nat → Nat) (on : Int32) (hO : cO dd ks ad E on) (hR : cR dd ks ad E M nR) (hC : cC dd ks ad E M nC mn me) (hT : cT dd ks ad E M nt cn nm) (hL : cL dd ks ad E M nL nW li) (hW : cW dd ks ad E M nW rl) (hV : cV dd ks ad E M nV) (hM : cM dd ks ad E M nM) (hB : cB M nR nC nt nL nW nV cn nm mn me li rl) (mI mR : Int32 → Nat → Nat) (hmI : ∀ o j, j < nt → mnt o (M.2.1 22) j nV 0 = nI (mI o j) ∧ mI o j < nt) (hmR : ∀ o j, j < nR → mnt o (M.2.1 23) j nV 0 = nI (mR o j) ∧ mR o j < nR) (hpk : ∀ r, r < nR → 1 ≤ M.2.1 5 r) (v : Int32) (f0 : Nat → Int64) (hx0 : 0 ∈ wx.1 ∧ wx.2.2 0 = kJ dd 1 f0) : kCi l yL_addLine (wsL_addLine ++ kHx) ({ frames := 8, cells := 8, slots := 140, locals := 192 } : Room) 8 140 dd [.ref (ad 0), .int v, .ref (wx.2.1 0)] (jk (ks, ad, cE dd E e) wr wx, jd (ks, ad, cE dd E e) wr wx, jE (ks, ad, cE dd E e) wr wx) (kQi (S := kT × kT) (fun r9 z => (r9 = 0 ∧ ∃ v9 : Int32, (fun (r : Int32) (z : kT) => ∃ j, (j < nt ∧ v = nI j) ∧ nL < 10 ∧ (z.2.1 0 = ad 0 ∧ cAll dd (M.1, va_up M.2.1 17 (upd (M.2.1 17) nL (nI j)), M.2.2) nR nC nt (nL + 1) nW nV nM cn nm mn me (va_up li nL j) rl on z) ∧ r = nI nL) v9 z.1 ∧ z.2 = xJ dd wx f0 v9.toInt64) ∨ (r9 = 1 ∧ ∃ e9, z.1 = (ks, ad, cE dd E e9) ∧ ¬ (∃ j, j < nt ∧ v = nI j) ∧ z.2 = wx) ∨ (r9 = 2 ∧ ∃ e9, z.1 = (ks, ad, cE dd E e9) ∧ ((∃ j, j < nt ∧ v = nI j) ∧ nL = 10) ∧ z.2 = wx)) (fun z => jk z.1 wr z.2) (fun z => jd z.1 wr z.2) (fun z => jE z.1 wr z.2)) := by
  refine kMetiW (ws' := _) (cc := cL_addLine) (maxL := 4) (rt := .int) (by decide) rfl (Nat.le_of_ble_eq_true rfl) (fun g X hr htb hnL hRR hl0 => ?_)
  show kv dd g 0 0 0 [(0, .ref (ad 0)), (1, .int v), (2, .ref (wx.2.1 0))] [] (jk (ks, ad, cE dd E e) wr wx) (jd (ks, ad, cE dd E e) wr wx) (jE (ks, ad, cE dd E e) wr wx)
  refine kv_aload_n X 2 dL_addLine_0 rfl rfl ?_
  refine kv_iconst (v := 0) X dL_addLine_1 (by decide) ?_
  refine kv_aload_n X 0 dL_addLine_2 rfl rfl ?_
  refine kv_iload_n X 1 dL_addLine_3 rfl rfl ?_
  refine kv_calliXVc (As := [.int v]) [.int 0, .ref (wx.2.1 0)] (ci := 13) (κ := 0) (r1 := (TX10, 3)) X (kCiX_frC (c := (ks, ad, cE dd E e)) (r := wr) (x := wx) (by rw [cf_id hks]; exact c_X10_addLine l dd ks ad E e M nR nC nt nL nW nV nM cn nm mn me li rl on hO hR hC hT hL hW hV hM hB mI mR hmI hmR hpk v)) hl0 (kCV_of X 1 (goodIn_ext gL_addLine_X10_addLine) rfl rfl rfl (by decide +kernel) hRR ⟨(Nat.le_of_ble_eq_true rfl), (Nat.le_of_ble_eq_true rfl)⟩) (j_c0.1.mpr hO.1.1) (j_c0.2.2.trans ((cE_ne (dd := dd) (E := E) (e := e) (k := 0) (by omega)).trans hO.1.2)) rfl rfl rfl (Nat.le_of_ble_eq_true rfl) hRR ⟨(Nat.le_of_ble_eq_true rfl), (Nat.le_of_ble_eq_true rfl)⟩ dL_addLine_4 (fun X9 u hX => ?_) (fun r9 z hp => ?_)
  ·
    obtain ⟨u1, ⟨e9, rfl, hX⟩, rfl⟩ := hX
    rcases hX with ⟨rfl, hX⟩ | ⟨rfl, hX⟩
    ·
      refine kvx_catch (nm := "java/lang/IndexOutOfBoundsException") X htb [] (⟨0, 9, 12, 21⟩ : ExceptionTableEntry) [(⟨0, 9, 15, 15⟩ : ExceptionTableEntry)] rfl (fun z hz => nomatch hz) (by decide) (by decide) (List.mem_append_right _ (List.mem_of_getElem? (i := 2) rfl)) (by decide +kernel) (fun q9 => ?_)
      show kv dd g _ _ 12 [(0, .ref (ad 0)), (1, .int v), (2, .ref (wx.2.1 0))] [.ref q9] (jk (ks, ad, cE dd E e9) wr wx) (jd (ks, ad, cE dd E e9) wr wx) (jE (ks, ad, cE dd E e9) wr wx)
      refine kv_astore_n (lv2 := [(3, .ref q9), (0, .ref (ad 0)), (1, .int v), (2, .ref (wx.2.1 0))]) X dL_addLine_12 rfl (by rw [hnL]; decide) rfl ?_
      refine kv_iconst (v := 1) X dL_addLine_13 (by decide) ?_
      exact kv_ireturn X hr (Nat.le_of_ble_eq_true rfl) (Nat.le_of_ble_eq_true rfl) ⟨((ks, ad, cE dd E e9), wx), (Or.inr (Or.inl (⟨rfl, ⟨e9, rfl, hX, rfl⟩⟩))), rfl⟩ dL_addLine_14
    ·
      refine kvx_catch (nm := "java/lang/IllegalStateException") X htb [(⟨0, 9, 12, 21⟩ : ExceptionTableEntry)] (⟨0, 9, 15, 15⟩ : ExceptionTableEntry) [] rfl (fun z hz => by
          simp only [List.mem_cons, List.not_mem_nil, or_false] at hz
          rcases hz with rfl
          · exact ⟨by decide, _, (List.mem_append_right _ (List.mem_of_getElem? (i := 2) rfl)), by decide +kernel⟩) (by decide) (by decide) (List.mem_append_right _ (List.mem_of_getElem? (i := 1) rfl)) (by decide +kernel) (fun q9 => ?_)
      show kv dd g _ _ 15 [(0, .ref (ad 0)), (1, .int v), (2, .ref (wx.2.1 0))] [.ref q9] (jk (ks, ad, cE dd E e9) wr wx) (jd (ks, ad, cE dd E e9) wr wx) (jE (ks, ad, cE dd E e9) wr wx)
      refine kv_astore_n (lv2 := [(3, .ref q9), (0, .ref (ad 0)), (1, .int v), (2, .ref (wx.2.1 0))]) X dL_addLine_15 rfl (by rw [hnL]; decide) rfl ?_
      refine kv_iconst (v := 2) X dL_addLine_16 (by decide) ?_
      exact kv_ireturn X hr (Nat.le_of_ble_eq_true rfl) (Nat.le_of_ble_eq_true rfl) ⟨((ks, ad, cE dd E e9), wx), (Or.inr (Or.inr (⟨rfl, ⟨e9, rfl, hX, rfl⟩⟩))), rfl⟩ dL_addLine_17
  ·
    show kv dd g _ _ 7 [(0, .ref (ad 0)), (1, .int v), (2, .ref (wx.2.1 0))] [.int r9, .int 0, .ref (wx.2.1 0)] (jk z wr wx) (jd z wr wx) (jE z wr wx)
    refine kv_i2l X dL_addLine_7 rfl ?_
    refine kv_lastore X (κ := 2000) (n := 1) (j := 0) (f := f0) (x := r9.toInt64) (j_x0.1.mpr hx0.1) (j_x0.2.2.trans hx0.2) (by omega) (by omega) dL_addLine_8 ?_
    refine kv_E (E2 := (jE z wr (xJ dd wx f0 r9.toInt64))) (fun j _ => xJ_E j) ?_
    refine kv_goto (tgt := 18) X dL_addLine_9 (by decide) ?_
    refine kv_iconst (v := 0) X dL_addLine_18 (by decide) ?_
    exact kv_ireturn X hr (Nat.le_of_ble_eq_true rfl) (Nat.le_of_ble_eq_true rfl) ⟨(z, (xJ dd wx f0 r9.toInt64)), (Or.inl (⟨rfl, r9, hp, rfl⟩)), rfl⟩ dL_addLine_19

set_option maxRecDepth 100000 in
set_option maxHeartbeats 4000000 in
theorem c_L_addRow (l : Launch) (dd : kDD) (ks : List Nat) (ad : Nat → Nat) (E : Nat → va_E) (e : eS) (wr wx : kT) (hks : ∀ j, j ∈ ks → j < 1000) (M : mS) (nR nC nt nL nW nV nM : Nat) (cn nm mn me li rl : Nat → Nat) (on : Int32) (hO : cO dd ks ad E on) (hR : cR dd ks ad E M nR) (hC : cC dd ks ad E M nC mn me) (hT : cT dd ks ad E M nt cn nm) (hL : cL dd ks ad E M nL nW li) (hW : cW dd ks ad E M nW rl) (hV : cV dd ks ad E M nV) (hM : cM dd ks ad E M nM) (hB : cB M nR nC nt nL nW nV cn nm mn me li rl) (mI mR : Int32 → Nat → Nat) (hmI : ∀ o j, j < nt → mnt o (M.2.1 22) j nV 0 = nI (mI o j) ∧ mI o j < nt) (hmR : ∀ o j, j < nR → mnt o (M.2.1 23) j nV 0 = nI (mR o j) ∧ mR o j < nR) (hpk : ∀ r, r < nR → 1 ≤ M.2.1 5 r) (v s t a b c : Int32) (f0 : Nat → Int64) (hx0 : 0 ∈ wx.1 ∧ wx.2.2 0 = kJ dd 1 f0) : kCi l yL_addRow (wsL_addRow ++ kHx) ({ frames := 9, cells := 12, slots := 170, locals := 199 } : Room) 12 170 dd [.ref (ad 0), .int v, .int s, .int t, .int a, .int b, .int c, .ref (wx.2.1 0)] (jk (ks, ad, cE dd E e) wr wx, jd (ks, ad, cE dd E e) wr wx, jE (ks, ad, cE dd E e) wr wx) (kQi (S := kT × kT) (fun r9 z => (r9 = 0 ∧ ∃ v9 : Int32, (fun (r : Int32) (z : kT) => (∃ j, (j < nL ∧ v = nI j ∧ ((s = 110 ∨ s = 108 ∨ s = 114 ∨ s = 116 ∨ s = 112 ∨ s = 118) ∧ (-9 ≤ t ∧ t ≤ 99) ∧ ¬ t = 0 ∧ (0 ≤ a ∧ a ≤ 99) ∧ (0 ≤ b ∧ b ≤ 99) ∧ 0 ≤ c ∧ c ≤ 99)) ∧ nW < 40 ∧ (0 ≤ mq (M.2.1 19) (M.2.1 20) (nI j) nW + t * msh s a b c ∧ mq (M.2.1 19) (M.2.1 20) (nI j) nW + t * msh s a b c ≤ 10000) ∧ (z.2.1 0 = ad 0 ∧ cAll dd (M.1, va_up (va_up M.2.1 19 (upd (M.2.1 19) nW (nI j))) 20 (upd (M.2.1 20) nW (t * msh s a b c)), M.2.2) nR nC nt nL (nW + 1) nV nM cn nm mn me li (va_up rl nW j) on z) ∧ r = mq (M.2.1 19) (M.2.1 20) (nI j) nW + t * msh s a b c)) v9 z.1 ∧ z.2 = xJ dd wx f0 v9.toInt64) ∨ (r9 = 1 ∧ ∃ e9, z.1 = (ks, ad, cE dd E e9) ∧ ¬ (∃ j, j < nL ∧ v = nI j) ∧ z.2 = wx) ∨ (r9 = 2 ∧ ∃ e9, z.1 = (ks, ad, cE dd E e9) ∧ ((∃ j, j < nL ∧ v = nI j) ∧ ¬ ((s = 110 ∨ s = 108 ∨ s = 114 ∨ s = 116 ∨ s = 112 ∨ s = 118) ∧ (-9 ≤ t ∧ t ≤ 99) ∧ ¬ t = 0 ∧ (0 ≤ a ∧ a ≤ 99) ∧ (0 ≤ b ∧ b ≤ 99) ∧ 0 ≤ c ∧ c ≤ 99)) ∧ z.2 = wx) ∨ (r9 = 3 ∧ ∃ e9, z.1 = (ks, ad, cE dd E e9) ∧ (∃ j, (j < nL ∧ v = nI j ∧ ((s = 110 ∨ s = 108 ∨ s = 114 ∨ s = 116 ∨ s = 112 ∨ s = 118) ∧ (-9 ≤ t ∧ t ≤ 99) ∧ ¬ t = 0 ∧ (0 ≤ a ∧ a ≤ 99) ∧ (0 ≤ b ∧ b ≤ 99) ∧ 0 ≤ c ∧ c ≤ 99)) ∧ nW = 40) ∧ z.2 = wx) ∨ (r9 = 4 ∧ ∃ e9, z.1 = (ks, ad, cE dd E e9) ∧ (∃ j, (j < nL ∧ v = nI j ∧ ((s = 110 ∨ s = 108 ∨ s = 114 ∨ s = 116 ∨ s = 112 ∨ s = 118) ∧ (-9 ≤ t ∧ t ≤ 99) ∧ ¬ t = 0 ∧ (0 ≤ a ∧ a ≤ 99) ∧ (0 ≤ b ∧ b ≤ 99) ∧ 0 ≤ c ∧ c ≤ 99)) ∧ nW < 40 ∧ ¬ (0 ≤ mq (M.2.1 19) (M.2.1 20) (nI j) nW + t * msh s a b c ∧ mq (M.2.1 19) (M.2.1 20) (nI j) nW + t * msh s a b c ≤ 10000)) ∧ z.2 = wx)) (fun z => jk z.1 wr z.2) (fun z => jd z.1 wr z.2) (fun z => jE z.1 wr z.2)) := by
  refine kMetiW (ws' := _) (cc := cL_addRow) (maxL := 9) (rt := .int) (by decide) rfl (Nat.le_of_ble_eq_true rfl) (fun g X hr htb hnL hRR hl0 => ?_)
  show kv dd g 0 0 0 [(0, .ref (ad 0)), (1, .int v), (2, .int s), (3, .int t), (4, .int a), (5, .int b), (6, .int c), (7, .ref (wx.2.1 0))] [] (jk (ks, ad, cE dd E e) wr wx) (jd (ks, ad, cE dd E e) wr wx) (jE (ks, ad, cE dd E e) wr wx)
  refine kv_aload X 7 dL_addRow_0 rfl ?_
  refine kv_iconst (v := 0) X dL_addRow_2 (by decide) ?_
  refine kv_aload_n X 0 dL_addRow_3 rfl rfl ?_
  refine kv_iload_n X 1 dL_addRow_4 rfl rfl ?_
  refine kv_iload_n X 2 dL_addRow_5 rfl rfl ?_
  refine kv_iload_n X 3 dL_addRow_6 rfl rfl ?_
  refine kv_iload X 4 dL_addRow_7 rfl ?_
  refine kv_iload X 5 dL_addRow_9 rfl ?_
  refine kv_iload X 6 dL_addRow_11 rfl ?_
  refine kv_calliXVc (As := [.int v, .int s, .int t, .int a, .int b, .int c]) [.int 0, .ref (wx.2.1 0)] (ci := 13) (κ := 0) (r1 := (TX10, 3)) X (kCiX_frC (c := (ks, ad, cE dd E e)) (r := wr) (x := wx) (by rw [cf_id hks]; exact c_X10_addRow l dd ks ad E e M nR nC nt nL nW nV nM cn nm mn me li rl on hO hR hC hT hL hW hV hM hB mI mR hmI hmR hpk v s t a b c)) hl0 (kCV_of X 6 (goodIn_ext gL_addRow_X10_addRow) rfl rfl rfl (by decide +kernel) hRR ⟨(Nat.le_of_ble_eq_true rfl), (Nat.le_of_ble_eq_true rfl)⟩) (j_c0.1.mpr hO.1.1) (j_c0.2.2.trans ((cE_ne (dd := dd) (E := E) (e := e) (k := 0) (by omega)).trans hO.1.2)) rfl rfl rfl (Nat.le_of_ble_eq_true rfl) hRR ⟨(Nat.le_of_ble_eq_true rfl), (Nat.le_of_ble_eq_true rfl)⟩ dL_addRow_13 (fun X9 u hX => ?_) (fun r9 z hp => ?_)
  ·
    obtain ⟨u1, ⟨e9, rfl, hX⟩, rfl⟩ := hX
    rcases hX with ⟨rfl, hX⟩ | ⟨rfl, hX⟩ | ⟨rfl, hX⟩ | ⟨rfl, hX⟩
    ·
      refine kvx_catch (nm := "java/lang/IndexOutOfBoundsException") X htb [] (⟨0, 18, 21, 21⟩ : ExceptionTableEntry) [(⟨0, 18, 25, 13⟩ : ExceptionTableEntry), (⟨0, 18, 29, 15⟩ : ExceptionTableEntry), (⟨0, 18, 33, 67⟩ : ExceptionTableEntry)] rfl (fun z hz => nomatch hz) (by decide) (by decide) (List.mem_append_right _ (List.mem_of_getElem? (i := 2) rfl)) (by decide +kernel) (fun q9 => ?_)
      show kv dd g _ _ 21 [(0, .ref (ad 0)), (1, .int v), (2, .int s), (3, .int t), (4, .int a), (5, .int b), (6, .int c), (7, .ref (wx.2.1 0))] [.ref q9] (jk (ks, ad, cE dd E e9) wr wx) (jd (ks, ad, cE dd E e9) wr wx) (jE (ks, ad, cE dd E e9) wr wx)
      refine kv_astore (lv2 := [(8, .ref q9), (0, .ref (ad 0)), (1, .int v), (2, .int s), (3, .int t), (4, .int a), (5, .int b), (6, .int c), (7, .ref (wx.2.1 0))]) X dL_addRow_21 (by rw [hnL]; decide) rfl ?_
      refine kv_iconst (v := 1) X dL_addRow_23 (by decide) ?_
      exact kv_ireturn X hr (Nat.le_of_ble_eq_true rfl) (Nat.le_of_ble_eq_true rfl) ⟨((ks, ad, cE dd E e9), wx), (Or.inr (Or.inl (⟨rfl, ⟨e9, rfl, hX, rfl⟩⟩))), rfl⟩ dL_addRow_24
    ·
      refine kvx_catch (nm := "java/lang/IllegalArgumentException") X htb [(⟨0, 18, 21, 21⟩ : ExceptionTableEntry)] (⟨0, 18, 25, 13⟩ : ExceptionTableEntry) [(⟨0, 18, 29, 15⟩ : ExceptionTableEntry), (⟨0, 18, 33, 67⟩ : ExceptionTableEntry)] rfl (fun z hz => by
          simp only [List.mem_cons, List.not_mem_nil, or_false] at hz
          rcases hz with rfl
          · exact ⟨by decide, _, (List.mem_append_right _ (List.mem_of_getElem? (i := 2) rfl)), by decide +kernel⟩) (by decide) (by decide) (List.mem_append_right _ (List.mem_of_getElem? (i := 0) rfl)) (by decide +kernel) (fun q9 => ?_)
      show kv dd g _ _ 25 [(0, .ref (ad 0)), (1, .int v), (2, .int s), (3, .int t), (4, .int a), (5, .int b), (6, .int c), (7, .ref (wx.2.1 0))] [.ref q9] (jk (ks, ad, cE dd E e9) wr wx) (jd (ks, ad, cE dd E e9) wr wx) (jE (ks, ad, cE dd E e9) wr wx)
      refine kv_astore (lv2 := [(8, .ref q9), (0, .ref (ad 0)), (1, .int v), (2, .int s), (3, .int t), (4, .int a), (5, .int b), (6, .int c), (7, .ref (wx.2.1 0))]) X dL_addRow_25 (by rw [hnL]; decide) rfl ?_
      refine kv_iconst (v := 2) X dL_addRow_27 (by decide) ?_
      exact kv_ireturn X hr (Nat.le_of_ble_eq_true rfl) (Nat.le_of_ble_eq_true rfl) ⟨((ks, ad, cE dd E e9), wx), (Or.inr (Or.inr (Or.inl (⟨rfl, ⟨e9, rfl, hX, rfl⟩⟩)))), rfl⟩ dL_addRow_28
    ·
      refine kvx_catch (nm := "java/lang/IllegalStateException") X htb [(⟨0, 18, 21, 21⟩ : ExceptionTableEntry), (⟨0, 18, 25, 13⟩ : ExceptionTableEntry)] (⟨0, 18, 29, 15⟩ : ExceptionTableEntry) [(⟨0, 18, 33, 67⟩ : ExceptionTableEntry)] rfl (fun z hz => by
          simp only [List.mem_cons, List.not_mem_nil, or_false] at hz
          rcases hz with rfl | rfl
          · exact ⟨by decide, _, (List.mem_append_right _ (List.mem_of_getElem? (i := 2) rfl)), by decide +kernel⟩
          · exact ⟨by decide, _, (List.mem_append_right _ (List.mem_of_getElem? (i := 0) rfl)), by decide +kernel⟩) (by decide) (by decide) (List.mem_append_right _ (List.mem_of_getElem? (i := 1) rfl)) (by decide +kernel) (fun q9 => ?_)
      show kv dd g _ _ 29 [(0, .ref (ad 0)), (1, .int v), (2, .int s), (3, .int t), (4, .int a), (5, .int b), (6, .int c), (7, .ref (wx.2.1 0))] [.ref q9] (jk (ks, ad, cE dd E e9) wr wx) (jd (ks, ad, cE dd E e9) wr wx) (jE (ks, ad, cE dd E e9) wr wx)
      refine kv_astore (lv2 := [(8, .ref q9), (0, .ref (ad 0)), (1, .int v), (2, .int s), (3, .int t), (4, .int a), (5, .int b), (6, .int c), (7, .ref (wx.2.1 0))]) X dL_addRow_29 (by rw [hnL]; decide) rfl ?_
      refine kv_iconst (v := 3) X dL_addRow_31 (by decide) ?_
      exact kv_ireturn X hr (Nat.le_of_ble_eq_true rfl) (Nat.le_of_ble_eq_true rfl) ⟨((ks, ad, cE dd E e9), wx), (Or.inr (Or.inr (Or.inr (Or.inl (⟨rfl, ⟨e9, rfl, hX, rfl⟩⟩))))), rfl⟩ dL_addRow_32
    ·
      refine kvx_catch (nm := "java/lang/ArithmeticException") X htb [(⟨0, 18, 21, 21⟩ : ExceptionTableEntry), (⟨0, 18, 25, 13⟩ : ExceptionTableEntry), (⟨0, 18, 29, 15⟩ : ExceptionTableEntry)] (⟨0, 18, 33, 67⟩ : ExceptionTableEntry) [] rfl (fun z hz => by
          simp only [List.mem_cons, List.not_mem_nil, or_false] at hz
          rcases hz with rfl | rfl | rfl
          · exact ⟨by decide, _, (List.mem_append_right _ (List.mem_of_getElem? (i := 2) rfl)), by decide +kernel⟩
          · exact ⟨by decide, _, (List.mem_append_right _ (List.mem_of_getElem? (i := 0) rfl)), by decide +kernel⟩
          · exact ⟨by decide, _, (List.mem_append_right _ (List.mem_of_getElem? (i := 1) rfl)), by decide +kernel⟩) (by decide) (by decide) (List.mem_append_right _ (List.mem_of_getElem? (i := 4) rfl)) (by decide +kernel) (fun q9 => ?_)
      show kv dd g _ _ 33 [(0, .ref (ad 0)), (1, .int v), (2, .int s), (3, .int t), (4, .int a), (5, .int b), (6, .int c), (7, .ref (wx.2.1 0))] [.ref q9] (jk (ks, ad, cE dd E e9) wr wx) (jd (ks, ad, cE dd E e9) wr wx) (jE (ks, ad, cE dd E e9) wr wx)
      refine kv_astore (lv2 := [(8, .ref q9), (0, .ref (ad 0)), (1, .int v), (2, .int s), (3, .int t), (4, .int a), (5, .int b), (6, .int c), (7, .ref (wx.2.1 0))]) X dL_addRow_33 (by rw [hnL]; decide) rfl ?_
      refine kv_iconst (v := 4) X dL_addRow_35 (by decide) ?_
      exact kv_ireturn X hr (Nat.le_of_ble_eq_true rfl) (Nat.le_of_ble_eq_true rfl) ⟨((ks, ad, cE dd E e9), wx), (Or.inr (Or.inr (Or.inr (Or.inr (⟨rfl, ⟨e9, rfl, hX, rfl⟩⟩))))), rfl⟩ dL_addRow_36
  ·
    show kv dd g _ _ 16 [(0, .ref (ad 0)), (1, .int v), (2, .int s), (3, .int t), (4, .int a), (5, .int b), (6, .int c), (7, .ref (wx.2.1 0))] [.int r9, .int 0, .ref (wx.2.1 0)] (jk z wr wx) (jd z wr wx) (jE z wr wx)
    refine kv_i2l X dL_addRow_16 rfl ?_
    refine kv_lastore X (κ := 2000) (n := 1) (j := 0) (f := f0) (x := r9.toInt64) (j_x0.1.mpr hx0.1) (j_x0.2.2.trans hx0.2) (by omega) (by omega) dL_addRow_17 ?_
    refine kv_E (E2 := (jE z wr (xJ dd wx f0 r9.toInt64))) (fun j _ => xJ_E j) ?_
    refine kv_goto (tgt := 37) X dL_addRow_18 (by decide) ?_
    refine kv_iconst (v := 0) X dL_addRow_37 (by decide) ?_
    exact kv_ireturn X hr (Nat.le_of_ble_eq_true rfl) (Nat.le_of_ble_eq_true rfl) ⟨(z, (xJ dd wx f0 r9.toInt64)), (Or.inl (⟨rfl, r9, hp, rfl⟩)), rfl⟩ dL_addRow_38

set_option maxRecDepth 100000 in
set_option maxHeartbeats 4000000 in
theorem c_L_dropRow (l : Launch) (dd : kDD) (ks : List Nat) (ad : Nat → Nat) (E : Nat → va_E) (e : eS) (wr wx : kT) (hks : ∀ j, j ∈ ks → j < 1000) (M : mS) (nR nC nt nL nW nV nM : Nat) (cn nm mn me li rl : Nat → Nat) (on : Int32) (hO : cO dd ks ad E on) (hR : cR dd ks ad E M nR) (hC : cC dd ks ad E M nC mn me) (hT : cT dd ks ad E M nt cn nm) (hL : cL dd ks ad E M nL nW li) (hW : cW dd ks ad E M nW rl) (hV : cV dd ks ad E M nV) (hM : cM dd ks ad E M nM) (hB : cB M nR nC nt nL nW nV cn nm mn me li rl) (mI mR : Int32 → Nat → Nat) (hmI : ∀ o j, j < nt → mnt o (M.2.1 22) j nV 0 = nI (mI o j) ∧ mI o j < nt) (hmR : ∀ o j, j < nR → mnt o (M.2.1 23) j nV 0 = nI (mR o j) ∧ mR o j < nR) (hpk : ∀ r, r < nR → 1 ≤ M.2.1 5 r) (v : Int32) (f0 : Nat → Int64) (hx0 : 0 ∈ wx.1 ∧ wx.2.2 0 = kJ dd 1 f0) : kCi l yL_dropRow (wsL_dropRow ++ kHx) ({ frames := 8, cells := 2, slots := 12, locals := 147 } : Room) 2 12 dd [.ref (ad 0), .int v, .ref (wx.2.1 0)] (jk (ks, ad, cE dd E e) wr wx, jd (ks, ad, cE dd E e) wr wx, jE (ks, ad, cE dd E e) wr wx) (kQi (S := kT × kT) (fun r9 z => (r9 = 0 ∧ ∃ v9 : Int32, (fun (r : Int32) (z : kT) => ∃ j, (j < nW ∧ v = nI j) ∧ (0 ≤ mq (M.2.1 19) (M.2.1 20) (M.2.1 19 j) nW - M.2.1 20 j ∧ mq (M.2.1 19) (M.2.1 20) (M.2.1 19 j) nW - M.2.1 20 j ≤ 10000) ∧ (z.2.1 0 = ad 0 ∧ cAll dd (M.1, va_up (va_up M.2.1 19 (mshift (M.2.1 19) j (nW - 1))) 20 (mshift (M.2.1 20) j (nW - 1)), M.2.2) nR nC nt nL (nW - 1) nV nM cn nm mn me li (fun k => rl (rsh j k)) on z) ∧ r = mq (M.2.1 19) (M.2.1 20) (M.2.1 19 j) nW - M.2.1 20 j) v9 z.1 ∧ z.2 = xJ dd wx f0 v9.toInt64) ∨ (r9 = 1 ∧ ∃ e9, z.1 = (ks, ad, cE dd E e9) ∧ ¬ (∃ j, j < nW ∧ v = nI j) ∧ z.2 = wx) ∨ (r9 = 2 ∧ ∃ e9, z.1 = (ks, ad, cE dd E e9) ∧ (∃ j, (j < nW ∧ v = nI j) ∧ ¬ (0 ≤ mq (M.2.1 19) (M.2.1 20) (M.2.1 19 j) nW - M.2.1 20 j ∧ mq (M.2.1 19) (M.2.1 20) (M.2.1 19 j) nW - M.2.1 20 j ≤ 10000)) ∧ z.2 = wx)) (fun z => jk z.1 wr z.2) (fun z => jd z.1 wr z.2) (fun z => jE z.1 wr z.2)) := by
  refine kMetiW (ws' := _) (cc := cL_dropRow) (maxL := 4) (rt := .int) (by decide) rfl (Nat.le_of_ble_eq_true rfl) (fun g X hr htb hnL hRR hl0 => ?_)
  show kv dd g 0 0 0 [(0, .ref (ad 0)), (1, .int v), (2, .ref (wx.2.1 0))] [] (jk (ks, ad, cE dd E e) wr wx) (jd (ks, ad, cE dd E e) wr wx) (jE (ks, ad, cE dd E e) wr wx)
  refine kv_aload_n X 2 dL_dropRow_0 rfl rfl ?_
  refine kv_iconst (v := 0) X dL_dropRow_1 (by decide) ?_
  refine kv_aload_n X 0 dL_dropRow_2 rfl rfl ?_
  refine kv_iload_n X 1 dL_dropRow_3 rfl rfl ?_
  refine kv_calliXVc (As := [.int v]) [.int 0, .ref (wx.2.1 0)] (ci := 13) (κ := 0) (r1 := (TX10, 3)) X (kCiX_frC (c := (ks, ad, cE dd E e)) (r := wr) (x := wx) (by rw [cf_id hks]; exact c_X10_dropRow l dd ks ad E e M nR nC nt nL nW nV nM cn nm mn me li rl on hO hR hC hT hL hW hV hM hB mI mR hmI hmR hpk v)) hl0 (kCV_of X 1 (goodIn_ext gL_dropRow_X10_dropRow) rfl rfl rfl (by decide +kernel) hRR ⟨(Nat.le_of_ble_eq_true rfl), (Nat.le_of_ble_eq_true rfl)⟩) (j_c0.1.mpr hO.1.1) (j_c0.2.2.trans ((cE_ne (dd := dd) (E := E) (e := e) (k := 0) (by omega)).trans hO.1.2)) rfl rfl rfl (Nat.le_of_ble_eq_true rfl) hRR ⟨(Nat.le_of_ble_eq_true rfl), (Nat.le_of_ble_eq_true rfl)⟩ dL_dropRow_4 (fun X9 u hX => ?_) (fun r9 z hp => ?_)
  ·
    obtain ⟨u1, ⟨e9, rfl, hX⟩, rfl⟩ := hX
    rcases hX with ⟨rfl, hX⟩ | ⟨rfl, hX⟩
    ·
      refine kvx_catch (nm := "java/lang/IndexOutOfBoundsException") X htb [] (⟨0, 9, 12, 21⟩ : ExceptionTableEntry) [(⟨0, 9, 15, 67⟩ : ExceptionTableEntry)] rfl (fun z hz => nomatch hz) (by decide) (by decide) (List.mem_append_right _ (List.mem_of_getElem? (i := 2) rfl)) (by decide +kernel) (fun q9 => ?_)
      show kv dd g _ _ 12 [(0, .ref (ad 0)), (1, .int v), (2, .ref (wx.2.1 0))] [.ref q9] (jk (ks, ad, cE dd E e9) wr wx) (jd (ks, ad, cE dd E e9) wr wx) (jE (ks, ad, cE dd E e9) wr wx)
      refine kv_astore_n (lv2 := [(3, .ref q9), (0, .ref (ad 0)), (1, .int v), (2, .ref (wx.2.1 0))]) X dL_dropRow_12 rfl (by rw [hnL]; decide) rfl ?_
      refine kv_iconst (v := 1) X dL_dropRow_13 (by decide) ?_
      exact kv_ireturn X hr (Nat.le_of_ble_eq_true rfl) (Nat.le_of_ble_eq_true rfl) ⟨((ks, ad, cE dd E e9), wx), (Or.inr (Or.inl (⟨rfl, ⟨e9, rfl, hX, rfl⟩⟩))), rfl⟩ dL_dropRow_14
    ·
      refine kvx_catch (nm := "java/lang/ArithmeticException") X htb [(⟨0, 9, 12, 21⟩ : ExceptionTableEntry)] (⟨0, 9, 15, 67⟩ : ExceptionTableEntry) [] rfl (fun z hz => by
          simp only [List.mem_cons, List.not_mem_nil, or_false] at hz
          rcases hz with rfl
          · exact ⟨by decide, _, (List.mem_append_right _ (List.mem_of_getElem? (i := 2) rfl)), by decide +kernel⟩) (by decide) (by decide) (List.mem_append_right _ (List.mem_of_getElem? (i := 4) rfl)) (by decide +kernel) (fun q9 => ?_)
      show kv dd g _ _ 15 [(0, .ref (ad 0)), (1, .int v), (2, .ref (wx.2.1 0))] [.ref q9] (jk (ks, ad, cE dd E e9) wr wx) (jd (ks, ad, cE dd E e9) wr wx) (jE (ks, ad, cE dd E e9) wr wx)
      refine kv_astore_n (lv2 := [(3, .ref q9), (0, .ref (ad 0)), (1, .int v), (2, .ref (wx.2.1 0))]) X dL_dropRow_15 rfl (by rw [hnL]; decide) rfl ?_
      refine kv_iconst (v := 2) X dL_dropRow_16 (by decide) ?_
      exact kv_ireturn X hr (Nat.le_of_ble_eq_true rfl) (Nat.le_of_ble_eq_true rfl) ⟨((ks, ad, cE dd E e9), wx), (Or.inr (Or.inr (⟨rfl, ⟨e9, rfl, hX, rfl⟩⟩))), rfl⟩ dL_dropRow_17
  ·
    show kv dd g _ _ 7 [(0, .ref (ad 0)), (1, .int v), (2, .ref (wx.2.1 0))] [.int r9, .int 0, .ref (wx.2.1 0)] (jk z wr wx) (jd z wr wx) (jE z wr wx)
    refine kv_i2l X dL_dropRow_7 rfl ?_
    refine kv_lastore X (κ := 2000) (n := 1) (j := 0) (f := f0) (x := r9.toInt64) (j_x0.1.mpr hx0.1) (j_x0.2.2.trans hx0.2) (by omega) (by omega) dL_dropRow_8 ?_
    refine kv_E (E2 := (jE z wr (xJ dd wx f0 r9.toInt64))) (fun j _ => xJ_E j) ?_
    refine kv_goto (tgt := 18) X dL_dropRow_9 (by decide) ?_
    refine kv_iconst (v := 0) X dL_dropRow_18 (by decide) ?_
    exact kv_ireturn X hr (Nat.le_of_ble_eq_true rfl) (Nat.le_of_ble_eq_true rfl) ⟨(z, (xJ dd wx f0 r9.toInt64)), (Or.inl (⟨rfl, r9, hp, rfl⟩)), rfl⟩ dL_dropRow_19

set_option maxRecDepth 100000 in
set_option maxHeartbeats 4000000 in
theorem c_L_measure (l : Launch) (dd : kDD) (ks : List Nat) (ad : Nat → Nat) (E : Nat → va_E) (e : eS) (wr wx : kT) (hks : ∀ j, j ∈ ks → j < 1000) (M : mS) (nR nC nt nL nW nV nM : Nat) (cn nm mn me li rl : Nat → Nat) (on : Int32) (hO : cO dd ks ad E on) (hR : cR dd ks ad E M nR) (hC : cC dd ks ad E M nC mn me) (hT : cT dd ks ad E M nt cn nm) (hL : cL dd ks ad E M nL nW li) (hW : cW dd ks ad E M nW rl) (hV : cV dd ks ad E M nV) (hM : cM dd ks ad E M nM) (hB : cB M nR nC nt nL nW nV cn nm mn me li rl) (mI mR : Int32 → Nat → Nat) (hmI : ∀ o j, j < nt → mnt o (M.2.1 22) j nV 0 = nI (mI o j) ∧ mI o j < nt) (hmR : ∀ o j, j < nR → mnt o (M.2.1 23) j nV 0 = nI (mR o j) ∧ mR o j < nR) (hpk : ∀ r, r < nR → 1 ≤ M.2.1 5 r) (v : Int32) (f0 : Nat → Int64) (hx0 : 0 ∈ wx.1 ∧ wx.2.2 0 = kJ dd 1 f0) : kCi l yL_measure (wsL_measure ++ kHx) ({ frames := 8, cells := 1, slots := 6, locals := 142 } : Room) 1 6 dd [.ref (ad 0), .int v, .ref (wx.2.1 0)] (jk (ks, ad, cE dd E e) wr wx, jd (ks, ad, cE dd E e) wr wx, jE (ks, ad, cE dd E e) wr wx) (kQi (S := kT × kT) (fun r9 z => (r9 = 0 ∧ ∃ (z9 : eS) (v9 : Int32), (fun (r : Int32) (z : eS) => e = z ∧ ∃ j, (j < nW ∧ v = nI j) ∧ r = M.2.1 20 j) v9 z9 ∧ z.1 = (ks, ad, cE dd E z9) ∧ z.2 = xJ dd wx f0 v9.toInt64) ∨ (r9 = 1 ∧ ∃ e9, z.1 = (ks, ad, cE dd E e9) ∧ ¬ (∃ j, j < nW ∧ v = nI j) ∧ z.2 = wx)) (fun z => jk z.1 wr z.2) (fun z => jd z.1 wr z.2) (fun z => jE z.1 wr z.2)) := by
  refine kMetiW (ws' := _) (cc := cL_measure) (maxL := 4) (rt := .int) (by decide) rfl (Nat.le_of_ble_eq_true rfl) (fun g X hr htb hnL hRR hl0 => ?_)
  show kv dd g 0 0 0 [(0, .ref (ad 0)), (1, .int v), (2, .ref (wx.2.1 0))] [] (jk (ks, ad, cE dd E e) wr wx) (jd (ks, ad, cE dd E e) wr wx) (jE (ks, ad, cE dd E e) wr wx)
  refine kv_aload_n X 2 dL_measure_0 rfl rfl ?_
  refine kv_iconst (v := 0) X dL_measure_1 (by decide) ?_
  refine kv_aload_n X 0 dL_measure_2 rfl rfl ?_
  refine kv_iload_n X 1 dL_measure_3 rfl rfl ?_
  refine kv_calliXVc (As := [.int v]) [.int 0, .ref (wx.2.1 0)] (ci := 13) (κ := 0) (r1 := (TX10, 3)) X (kCiX_frC (c := (ks, ad, cE dd E e)) (r := wr) (x := wx) (by rw [cf_id hks]; exact c_X10_measure l dd ks ad E e M nR nC nt nL nW nV nM cn nm mn me li rl on hO hR hC hT hL hW hV hM hB mI mR hmI hmR hpk v)) hl0 (kCV_of X 1 (goodIn_ext gL_measure_X10_measure) rfl rfl rfl (by decide +kernel) hRR ⟨(Nat.le_of_ble_eq_true rfl), (Nat.le_of_ble_eq_true rfl)⟩) (j_c0.1.mpr hO.1.1) (j_c0.2.2.trans ((cE_ne (dd := dd) (E := E) (e := e) (k := 0) (by omega)).trans hO.1.2)) rfl rfl rfl (Nat.le_of_ble_eq_true rfl) hRR ⟨(Nat.le_of_ble_eq_true rfl), (Nat.le_of_ble_eq_true rfl)⟩ dL_measure_4 (fun X9 u hX => ?_) (fun r9 z hp => ?_)
  ·
    obtain ⟨u1, ⟨e9, rfl, hX⟩, rfl⟩ := hX
    rcases hX with ⟨rfl, hX⟩
    refine kvx_catch (nm := "java/lang/IndexOutOfBoundsException") X htb [] (⟨0, 9, 12, 21⟩ : ExceptionTableEntry) [] rfl (fun z hz => nomatch hz) (by decide) (by decide) (List.mem_append_right _ (List.mem_of_getElem? (i := 2) rfl)) (by decide +kernel) (fun q9 => ?_)
    show kv dd g _ _ 12 [(0, .ref (ad 0)), (1, .int v), (2, .ref (wx.2.1 0))] [.ref q9] (jk (ks, ad, cE dd E e9) wr wx) (jd (ks, ad, cE dd E e9) wr wx) (jE (ks, ad, cE dd E e9) wr wx)
    refine kv_astore_n (lv2 := [(3, .ref q9), (0, .ref (ad 0)), (1, .int v), (2, .ref (wx.2.1 0))]) X dL_measure_12 rfl (by rw [hnL]; decide) rfl ?_
    refine kv_iconst (v := 1) X dL_measure_13 (by decide) ?_
    exact kv_ireturn X hr (Nat.le_of_ble_eq_true rfl) (Nat.le_of_ble_eq_true rfl) ⟨((ks, ad, cE dd E e9), wx), (Or.inr (⟨rfl, ⟨e9, rfl, hX, rfl⟩⟩)), rfl⟩ dL_measure_14
  ·
    show kv dd g _ _ 7 [(0, .ref (ad 0)), (1, .int v), (2, .ref (wx.2.1 0))] [.int r9, .int 0, .ref (wx.2.1 0)] (jk (ks, ad, cE dd E z) wr wx) (jd (ks, ad, cE dd E z) wr wx) (jE (ks, ad, cE dd E z) wr wx)
    refine kv_i2l X dL_measure_7 rfl ?_
    refine kv_lastore X (κ := 2000) (n := 1) (j := 0) (f := f0) (x := r9.toInt64) (j_x0.1.mpr hx0.1) (j_x0.2.2.trans hx0.2) (by omega) (by omega) dL_measure_8 ?_
    refine kv_E (E2 := (jE (ks, ad, cE dd E z) wr (xJ dd wx f0 r9.toInt64))) (fun j _ => xJ_E j) ?_
    refine kv_goto (tgt := 15) X dL_measure_9 (by decide) ?_
    refine kv_iconst (v := 0) X dL_measure_15 (by decide) ?_
    exact kv_ireturn X hr (Nat.le_of_ble_eq_true rfl) (Nat.le_of_ble_eq_true rfl) ⟨((ks, ad, cE dd E z), (xJ dd wx f0 r9.toInt64)), (Or.inl (⟨rfl, z, r9, hp, rfl, rfl⟩)), rfl⟩ dL_measure_16

set_option maxRecDepth 100000 in
set_option maxHeartbeats 4000000 in
theorem c_L_quantity (l : Launch) (dd : kDD) (ks : List Nat) (ad : Nat → Nat) (E : Nat → va_E) (e : eS) (wr wx : kT) (hks : ∀ j, j ∈ ks → j < 1000) (M : mS) (nR nC nt nL nW nV nM : Nat) (cn nm mn me li rl : Nat → Nat) (on : Int32) (hO : cO dd ks ad E on) (hR : cR dd ks ad E M nR) (hC : cC dd ks ad E M nC mn me) (hT : cT dd ks ad E M nt cn nm) (hL : cL dd ks ad E M nL nW li) (hW : cW dd ks ad E M nW rl) (hV : cV dd ks ad E M nV) (hM : cM dd ks ad E M nM) (hB : cB M nR nC nt nL nW nV cn nm mn me li rl) (mI mR : Int32 → Nat → Nat) (hmI : ∀ o j, j < nt → mnt o (M.2.1 22) j nV 0 = nI (mI o j) ∧ mI o j < nt) (hmR : ∀ o j, j < nR → mnt o (M.2.1 23) j nV 0 = nI (mR o j) ∧ mR o j < nR) (hpk : ∀ r, r < nR → 1 ≤ M.2.1 5 r) (v : Int32) (f0 : Nat → Int64) (hx0 : 0 ∈ wx.1 ∧ wx.2.2 0 = kJ dd 1 f0) : kCi l yL_quantity (wsL_quantity ++ kHx) ({ frames := 8, cells := 1, slots := 6, locals := 142 } : Room) 1 6 dd [.ref (ad 0), .int v, .ref (wx.2.1 0)] (jk (ks, ad, cE dd E e) wr wx, jd (ks, ad, cE dd E e) wr wx, jE (ks, ad, cE dd E e) wr wx) (kQi (S := kT × kT) (fun r9 z => (r9 = 0 ∧ ∃ (z9 : eS) (v9 : Int32), (fun (r : Int32) (z : eS) => e = z ∧ ∃ j, (j < nL ∧ v = nI j) ∧ r = mq (M.2.1 19) (M.2.1 20) (nI j) nW) v9 z9 ∧ z.1 = (ks, ad, cE dd E z9) ∧ z.2 = xJ dd wx f0 v9.toInt64) ∨ (r9 = 1 ∧ ∃ e9, z.1 = (ks, ad, cE dd E e9) ∧ ¬ (∃ j, j < nL ∧ v = nI j) ∧ z.2 = wx)) (fun z => jk z.1 wr z.2) (fun z => jd z.1 wr z.2) (fun z => jE z.1 wr z.2)) := by
  refine kMetiW (ws' := _) (cc := cL_quantity) (maxL := 4) (rt := .int) (by decide) rfl (Nat.le_of_ble_eq_true rfl) (fun g X hr htb hnL hRR hl0 => ?_)
  show kv dd g 0 0 0 [(0, .ref (ad 0)), (1, .int v), (2, .ref (wx.2.1 0))] [] (jk (ks, ad, cE dd E e) wr wx) (jd (ks, ad, cE dd E e) wr wx) (jE (ks, ad, cE dd E e) wr wx)
  refine kv_aload_n X 2 dL_quantity_0 rfl rfl ?_
  refine kv_iconst (v := 0) X dL_quantity_1 (by decide) ?_
  refine kv_aload_n X 0 dL_quantity_2 rfl rfl ?_
  refine kv_iload_n X 1 dL_quantity_3 rfl rfl ?_
  refine kv_calliXVc (As := [.int v]) [.int 0, .ref (wx.2.1 0)] (ci := 13) (κ := 0) (r1 := (TX10, 3)) X (kCiX_frC (c := (ks, ad, cE dd E e)) (r := wr) (x := wx) (by rw [cf_id hks]; exact c_X10_quantity l dd ks ad E e M nR nC nt nL nW nV nM cn nm mn me li rl on hO hR hC hT hL hW hV hM hB mI mR hmI hmR hpk v)) hl0 (kCV_of X 1 (goodIn_ext gL_quantity_X10_quantity) rfl rfl rfl (by decide +kernel) hRR ⟨(Nat.le_of_ble_eq_true rfl), (Nat.le_of_ble_eq_true rfl)⟩) (j_c0.1.mpr hO.1.1) (j_c0.2.2.trans ((cE_ne (dd := dd) (E := E) (e := e) (k := 0) (by omega)).trans hO.1.2)) rfl rfl rfl (Nat.le_of_ble_eq_true rfl) hRR ⟨(Nat.le_of_ble_eq_true rfl), (Nat.le_of_ble_eq_true rfl)⟩ dL_quantity_4 (fun X9 u hX => ?_) (fun r9 z hp => ?_)
  ·
    obtain ⟨u1, ⟨e9, rfl, hX⟩, rfl⟩ := hX
    rcases hX with ⟨rfl, hX⟩
    refine kvx_catch (nm := "java/lang/IndexOutOfBoundsException") X htb [] (⟨0, 9, 12, 21⟩ : ExceptionTableEntry) [] rfl (fun z hz => nomatch hz) (by decide) (by decide) (List.mem_append_right _ (List.mem_of_getElem? (i := 2) rfl)) (by decide +kernel) (fun q9 => ?_)
    show kv dd g _ _ 12 [(0, .ref (ad 0)), (1, .int v), (2, .ref (wx.2.1 0))] [.ref q9] (jk (ks, ad, cE dd E e9) wr wx) (jd (ks, ad, cE dd E e9) wr wx) (jE (ks, ad, cE dd E e9) wr wx)
    refine kv_astore_n (lv2 := [(3, .ref q9), (0, .ref (ad 0)), (1, .int v), (2, .ref (wx.2.1 0))]) X dL_quantity_12 rfl (by rw [hnL]; decide) rfl ?_
    refine kv_iconst (v := 1) X dL_quantity_13 (by decide) ?_
    exact kv_ireturn X hr (Nat.le_of_ble_eq_true rfl) (Nat.le_of_ble_eq_true rfl) ⟨((ks, ad, cE dd E e9), wx), (Or.inr (⟨rfl, ⟨e9, rfl, hX, rfl⟩⟩)), rfl⟩ dL_quantity_14
  ·
    show kv dd g _ _ 7 [(0, .ref (ad 0)), (1, .int v), (2, .ref (wx.2.1 0))] [.int r9, .int 0, .ref (wx.2.1 0)] (jk (ks, ad, cE dd E z) wr wx) (jd (ks, ad, cE dd E z) wr wx) (jE (ks, ad, cE dd E z) wr wx)
    refine kv_i2l X dL_quantity_7 rfl ?_
    refine kv_lastore X (κ := 2000) (n := 1) (j := 0) (f := f0) (x := r9.toInt64) (j_x0.1.mpr hx0.1) (j_x0.2.2.trans hx0.2) (by omega) (by omega) dL_quantity_8 ?_
    refine kv_E (E2 := (jE (ks, ad, cE dd E z) wr (xJ dd wx f0 r9.toInt64))) (fun j _ => xJ_E j) ?_
    refine kv_goto (tgt := 15) X dL_quantity_9 (by decide) ?_
    refine kv_iconst (v := 0) X dL_quantity_15 (by decide) ?_
    exact kv_ireturn X hr (Nat.le_of_ble_eq_true rfl) (Nat.le_of_ble_eq_true rfl) ⟨((ks, ad, cE dd E z), (xJ dd wx f0 r9.toInt64)), (Or.inl (⟨rfl, z, r9, hp, rfl, rfl⟩)), rfl⟩ dL_quantity_16

set_option maxRecDepth 100000 in
set_option maxHeartbeats 4000000 in
theorem c_L_addVariant (l : Launch) (dd : kDD) (ks : List Nat) (ad : Nat → Nat) (E : Nat → va_E) (e : eS) (wr wx : kT) (hks : ∀ j, j ∈ ks → j < 1000) (M : mS) (nR nC nt nL nW nV nM : Nat) (cn nm mn me li rl : Nat → Nat) (on : Int32) (hO : cO dd ks ad E on) (hR : cR dd ks ad E M nR) (hC : cC dd ks ad E M nC mn me) (hT : cT dd ks ad E M nt cn nm) (hL : cL dd ks ad E M nL nW li) (hW : cW dd ks ad E M nW rl) (hV : cV dd ks ad E M nV) (hM : cM dd ks ad E M nM) (hB : cB M nR nC nt nL nW nV cn nm mn me li rl) (mI mR : Int32 → Nat → Nat) (hmI : ∀ o j, j < nt → mnt o (M.2.1 22) j nV 0 = nI (mI o j) ∧ mI o j < nt) (hmR : ∀ o j, j < nR → mnt o (M.2.1 23) j nV 0 = nI (mR o j) ∧ mR o j < nR) (hpk : ∀ r, r < nR → 1 ≤ M.2.1 5 r)  (f0 : Nat → Int64) (hx0 : 0 ∈ wx.1 ∧ wx.2.2 0 = kJ dd 1 f0) : kCi l yL_addVariant (wsL_addVariant ++ kHx) ({ frames := 8, cells := 8, slots := 150, locals := 191 } : Room) 8 150 dd [.ref (ad 0), .ref (wx.2.1 0)] (jk (ks, ad, cE dd E e) wr wx, jd (ks, ad, cE dd E e) wr wx, jE (ks, ad, cE dd E e) wr wx) (kQi (S := kT × kT) (fun r9 z => (r9 = 0 ∧ ∃ v9 : Int32, (fun (r : Int32) (z : kT) => nV < 4 ∧ (z.2.1 0 = ad 0 ∧ cAll dd (M.1, va_up (va_up M.2.1 22 (mfill (M.2.1 22) (12 * nV) 12)) 23 (mfill (M.2.1 23) (12 * nV) 12), M.2.2) nR nC nt nL nW (nV + 1) nM cn nm mn me li rl on z) ∧ r = nI nV) v9 z.1 ∧ z.2 = xJ dd wx f0 v9.toInt64) ∨ (r9 = 1 ∧ ∃ e9, z.1 = (ks, ad, cE dd E e9) ∧ nV = 4 ∧ z.2 = wx)) (fun z => jk z.1 wr z.2) (fun z => jd z.1 wr z.2) (fun z => jE z.1 wr z.2)) := by
  refine kMetiW (ws' := _) (cc := cL_addVariant) (maxL := 3) (rt := .int) (by decide) rfl (Nat.le_of_ble_eq_true rfl) (fun g X hr htb hnL hRR hl0 => ?_)
  show kv dd g 0 0 0 [(0, .ref (ad 0)), (1, .ref (wx.2.1 0))] [] (jk (ks, ad, cE dd E e) wr wx) (jd (ks, ad, cE dd E e) wr wx) (jE (ks, ad, cE dd E e) wr wx)
  refine kv_aload_n X 1 dL_addVariant_0 rfl rfl ?_
  refine kv_iconst (v := 0) X dL_addVariant_1 (by decide) ?_
  refine kv_aload_n X 0 dL_addVariant_2 rfl rfl ?_
  refine kv_calliXVc (As := []) [.int 0, .ref (wx.2.1 0)] (ci := 13) (κ := 0) (r1 := (TX10, 3)) X (kCiX_frC (c := (ks, ad, cE dd E e)) (r := wr) (x := wx) (by rw [cf_id hks]; exact c_X10_addVariant l dd ks ad E e M nR nC nt nL nW nV nM cn nm mn me li rl on hO hR hC hT hL hW hV hM hB mI mR hmI hmR hpk)) hl0 (kCV_of X 0 (goodIn_ext gL_addVariant_X10_addVariant) rfl rfl rfl (by decide +kernel) hRR ⟨(Nat.le_of_ble_eq_true rfl), (Nat.le_of_ble_eq_true rfl)⟩) (j_c0.1.mpr hO.1.1) (j_c0.2.2.trans ((cE_ne (dd := dd) (E := E) (e := e) (k := 0) (by omega)).trans hO.1.2)) rfl rfl rfl (Nat.le_of_ble_eq_true rfl) hRR ⟨(Nat.le_of_ble_eq_true rfl), (Nat.le_of_ble_eq_true rfl)⟩ dL_addVariant_3 (fun X9 u hX => ?_) (fun r9 z hp => ?_)
  ·
    obtain ⟨u1, ⟨e9, rfl, hX⟩, rfl⟩ := hX
    rcases hX with ⟨rfl, hX⟩
    refine kvx_catch (nm := "java/lang/IllegalStateException") X htb [] (⟨0, 8, 11, 15⟩ : ExceptionTableEntry) [] rfl (fun z hz => nomatch hz) (by decide) (by decide) (List.mem_append_right _ (List.mem_of_getElem? (i := 1) rfl)) (by decide +kernel) (fun q9 => ?_)
    show kv dd g _ _ 11 [(0, .ref (ad 0)), (1, .ref (wx.2.1 0))] [.ref q9] (jk (ks, ad, cE dd E e9) wr wx) (jd (ks, ad, cE dd E e9) wr wx) (jE (ks, ad, cE dd E e9) wr wx)
    refine kv_astore_n (lv2 := [(2, .ref q9), (0, .ref (ad 0)), (1, .ref (wx.2.1 0))]) X dL_addVariant_11 rfl (by rw [hnL]; decide) rfl ?_
    refine kv_iconst (v := 1) X dL_addVariant_12 (by decide) ?_
    exact kv_ireturn X hr (Nat.le_of_ble_eq_true rfl) (Nat.le_of_ble_eq_true rfl) ⟨((ks, ad, cE dd E e9), wx), (Or.inr (⟨rfl, ⟨e9, rfl, hX, rfl⟩⟩)), rfl⟩ dL_addVariant_13
  ·
    show kv dd g _ _ 6 [(0, .ref (ad 0)), (1, .ref (wx.2.1 0))] [.int r9, .int 0, .ref (wx.2.1 0)] (jk z wr wx) (jd z wr wx) (jE z wr wx)
    refine kv_i2l X dL_addVariant_6 rfl ?_
    refine kv_lastore X (κ := 2000) (n := 1) (j := 0) (f := f0) (x := r9.toInt64) (j_x0.1.mpr hx0.1) (j_x0.2.2.trans hx0.2) (by omega) (by omega) dL_addVariant_7 ?_
    refine kv_E (E2 := (jE z wr (xJ dd wx f0 r9.toInt64))) (fun j _ => xJ_E j) ?_
    refine kv_goto (tgt := 14) X dL_addVariant_8 (by decide) ?_
    refine kv_iconst (v := 0) X dL_addVariant_14 (by decide) ?_
    exact kv_ireturn X hr (Nat.le_of_ble_eq_true rfl) (Nat.le_of_ble_eq_true rfl) ⟨(z, (xJ dd wx f0 r9.toInt64)), (Or.inl (⟨rfl, r9, hp, rfl⟩)), rfl⟩ dL_addVariant_15

set_option maxRecDepth 100000 in
set_option maxHeartbeats 4000000 in
theorem c_L_replaceItem (l : Launch) (dd : kDD) (ks : List Nat) (ad : Nat → Nat) (E : Nat → va_E) (e : eS) (wr wx : kT) (hks : ∀ j, j ∈ ks → j < 1000) (M : mS) (nR nC nt nL nW nV nM : Nat) (cn nm mn me li rl : Nat → Nat) (on : Int32) (hO : cO dd ks ad E on) (hR : cR dd ks ad E M nR) (hC : cC dd ks ad E M nC mn me) (hT : cT dd ks ad E M nt cn nm) (hL : cL dd ks ad E M nL nW li) (hW : cW dd ks ad E M nW rl) (hV : cV dd ks ad E M nV) (hM : cM dd ks ad E M nM) (hB : cB M nR nC nt nL nW nV cn nm mn me li rl) (mI mR : Int32 → Nat → Nat) (hmI : ∀ o j, j < nt → mnt o (M.2.1 22) j nV 0 = nI (mI o j) ∧ mI o j < nt) (hmR : ∀ o j, j < nR → mnt o (M.2.1 23) j nV 0 = nI (mR o j) ∧ mR o j < nR) (hpk : ∀ r, r < nR → 1 ≤ M.2.1 5 r) (v x y : Int32) (f0 : Nat → Int64) (hx0 : 0 ∈ wx.1 ∧ wx.2.2 0 = kJ dd 1 f0) : kCi l yL_replaceItem (wsL_replaceItem ++ kHx) ({ frames := 8, cells := 5, slots := 30, locals := 145 } : Room) 5 30 dd [.ref (ad 0), .int v, .int x, .int y, .ref (wx.2.1 0)] (jk (ks, ad, cE dd E e) wr wx, jd (ks, ad, cE dd E e) wr wx, jE (ks, ad, cE dd E e) wr wx) (kQi (S := kT × kT) (fun r9 z => (r9 = 0 ∧ ∃ v9 : Int32, (fun (r : Int32) (z : kT) => ∃ jv, ∃ ja, ∃ jb, (jv < nV ∧ ja < nt ∧ jb < nt ∧ v = nI jv ∧ x = nI ja ∧ y = nI jb) ∧ (ja ≠ jb) ∧ ¬ on >>> (nI jv &&& 31) &&& 1 = 1 ∧ (z.2.1 0 = ad 0 ∧ cAll dd (M.1, va_up M.2.1 22 (upd (M.2.1 22) (12 * jv + ja) (nI jb)), M.2.2) nR nC nt nL nW nV nM cn nm mn me li rl on z) ∧ r = tld (upd (M.2.1 22) (12 * jv + ja) (nI jb)) (12 * jv) 12) v9 z.1 ∧ z.2 = xJ dd wx f0 v9.toInt64) ∨ (r9 = 1 ∧ ∃ e9, z.1 = (ks, ad, cE dd E e9) ∧ ¬ ((∃ j, j < nV ∧ v = nI j) ∧ (∃ j, j < nt ∧ x = nI j) ∧ (∃ j, j < nt ∧ y = nI j)) ∧ z.2 = wx) ∨ (r9 = 2 ∧ ∃ e9, z.1 = (ks, ad, cE dd E e9) ∧ (∃ jv, ∃ ja, ∃ jb, (jv < nV ∧ ja < nt ∧ jb < nt ∧ v = nI jv ∧ x = nI ja ∧ y = nI jb) ∧ ¬ (ja ≠ jb)) ∧ z.2 = wx) ∨ (r9 = 3 ∧ ∃ e9, z.1 = (ks, ad, cE dd E e9) ∧ (∃ jv, ∃ ja, ∃ jb, (jv < nV ∧ ja < nt ∧ jb < nt ∧ v = nI jv ∧ x = nI ja ∧ y = nI jb) ∧ ((ja ≠ jb) ∧ on >>> (nI jv &&& 31) &&& 1 = 1)) ∧ z.2 = wx)) (fun z => jk z.1 wr z.2) (fun z => jd z.1 wr z.2) (fun z => jE z.1 wr z.2)) := by
  refine kMetiW (ws' := _) (cc := cL_replaceItem) (maxL := 6) (rt := .int) (by decide) rfl (Nat.le_of_ble_eq_true rfl) (fun g X hr htb hnL hRR hl0 => ?_)
  show kv dd g 0 0 0 [(0, .ref (ad 0)), (1, .int v), (2, .int x), (3, .int y), (4, .ref (wx.2.1 0))] [] (jk (ks, ad, cE dd E e) wr wx) (jd (ks, ad, cE dd E e) wr wx) (jE (ks, ad, cE dd E e) wr wx)
  refine kv_aload X 4 dL_replaceItem_0 rfl ?_
  refine kv_iconst (v := 0) X dL_replaceItem_2 (by decide) ?_
  refine kv_aload_n X 0 dL_replaceItem_3 rfl rfl ?_
  refine kv_iload_n X 1 dL_replaceItem_4 rfl rfl ?_
  refine kv_iload_n X 2 dL_replaceItem_5 rfl rfl ?_
  refine kv_iload_n X 3 dL_replaceItem_6 rfl rfl ?_
  refine kv_calliXVc (As := [.int v, .int x, .int y]) [.int 0, .ref (wx.2.1 0)] (ci := 13) (κ := 0) (r1 := (TX10, 3)) X (kCiX_frC (c := (ks, ad, cE dd E e)) (r := wr) (x := wx) (by rw [cf_id hks]; exact c_X10_replaceItem l dd ks ad E e M nR nC nt nL nW nV nM cn nm mn me li rl on hO hR hC hT hL hW hV hM hB mI mR hmI hmR hpk v x y)) hl0 (kCV_of X 3 (goodIn_ext gL_replaceItem_X10_replaceItem) rfl rfl rfl (by decide +kernel) hRR ⟨(Nat.le_of_ble_eq_true rfl), (Nat.le_of_ble_eq_true rfl)⟩) (j_c0.1.mpr hO.1.1) (j_c0.2.2.trans ((cE_ne (dd := dd) (E := E) (e := e) (k := 0) (by omega)).trans hO.1.2)) rfl rfl rfl (Nat.le_of_ble_eq_true rfl) hRR ⟨(Nat.le_of_ble_eq_true rfl), (Nat.le_of_ble_eq_true rfl)⟩ dL_replaceItem_7 (fun X9 u hX => ?_) (fun r9 z hp => ?_)
  ·
    obtain ⟨u1, ⟨e9, rfl, hX⟩, rfl⟩ := hX
    rcases hX with ⟨rfl, hX⟩ | ⟨rfl, hX⟩ | ⟨rfl, hX⟩
    ·
      refine kvx_catch (nm := "java/lang/IndexOutOfBoundsException") X htb [] (⟨0, 12, 15, 21⟩ : ExceptionTableEntry) [(⟨0, 12, 19, 13⟩ : ExceptionTableEntry), (⟨0, 12, 23, 15⟩ : ExceptionTableEntry)] rfl (fun z hz => nomatch hz) (by decide) (by decide) (List.mem_append_right _ (List.mem_of_getElem? (i := 2) rfl)) (by decide +kernel) (fun q9 => ?_)
      show kv dd g _ _ 15 [(0, .ref (ad 0)), (1, .int v), (2, .int x), (3, .int y), (4, .ref (wx.2.1 0))] [.ref q9] (jk (ks, ad, cE dd E e9) wr wx) (jd (ks, ad, cE dd E e9) wr wx) (jE (ks, ad, cE dd E e9) wr wx)
      refine kv_astore (lv2 := [(5, .ref q9), (0, .ref (ad 0)), (1, .int v), (2, .int x), (3, .int y), (4, .ref (wx.2.1 0))]) X dL_replaceItem_15 (by rw [hnL]; decide) rfl ?_
      refine kv_iconst (v := 1) X dL_replaceItem_17 (by decide) ?_
      exact kv_ireturn X hr (Nat.le_of_ble_eq_true rfl) (Nat.le_of_ble_eq_true rfl) ⟨((ks, ad, cE dd E e9), wx), (Or.inr (Or.inl (⟨rfl, ⟨e9, rfl, hX, rfl⟩⟩))), rfl⟩ dL_replaceItem_18
    ·
      refine kvx_catch (nm := "java/lang/IllegalArgumentException") X htb [(⟨0, 12, 15, 21⟩ : ExceptionTableEntry)] (⟨0, 12, 19, 13⟩ : ExceptionTableEntry) [(⟨0, 12, 23, 15⟩ : ExceptionTableEntry)] rfl (fun z hz => by
          simp only [List.mem_cons, List.not_mem_nil, or_false] at hz
          rcases hz with rfl
          · exact ⟨by decide, _, (List.mem_append_right _ (List.mem_of_getElem? (i := 2) rfl)), by decide +kernel⟩) (by decide) (by decide) (List.mem_append_right _ (List.mem_of_getElem? (i := 0) rfl)) (by decide +kernel) (fun q9 => ?_)
      show kv dd g _ _ 19 [(0, .ref (ad 0)), (1, .int v), (2, .int x), (3, .int y), (4, .ref (wx.2.1 0))] [.ref q9] (jk (ks, ad, cE dd E e9) wr wx) (jd (ks, ad, cE dd E e9) wr wx) (jE (ks, ad, cE dd E e9) wr wx)
      refine kv_astore (lv2 := [(5, .ref q9), (0, .ref (ad 0)), (1, .int v), (2, .int x), (3, .int y), (4, .ref (wx.2.1 0))]) X dL_replaceItem_19 (by rw [hnL]; decide) rfl ?_
      refine kv_iconst (v := 2) X dL_replaceItem_21 (by decide) ?_
      exact kv_ireturn X hr (Nat.le_of_ble_eq_true rfl) (Nat.le_of_ble_eq_true rfl) ⟨((ks, ad, cE dd E e9), wx), (Or.inr (Or.inr (Or.inl (⟨rfl, ⟨e9, rfl, hX, rfl⟩⟩)))), rfl⟩ dL_replaceItem_22
    ·
      refine kvx_catch (nm := "java/lang/IllegalStateException") X htb [(⟨0, 12, 15, 21⟩ : ExceptionTableEntry), (⟨0, 12, 19, 13⟩ : ExceptionTableEntry)] (⟨0, 12, 23, 15⟩ : ExceptionTableEntry) [] rfl (fun z hz => by
          simp only [List.mem_cons, List.not_mem_nil, or_false] at hz
          rcases hz with rfl | rfl
          · exact ⟨by decide, _, (List.mem_append_right _ (List.mem_of_getElem? (i := 2) rfl)), by decide +kernel⟩
          · exact ⟨by decide, _, (List.mem_append_right _ (List.mem_of_getElem? (i := 0) rfl)), by decide +kernel⟩) (by decide) (by decide) (List.mem_append_right _ (List.mem_of_getElem? (i := 1) rfl)) (by decide +kernel) (fun q9 => ?_)
      show kv dd g _ _ 23 [(0, .ref (ad 0)), (1, .int v), (2, .int x), (3, .int y), (4, .ref (wx.2.1 0))] [.ref q9] (jk (ks, ad, cE dd E e9) wr wx) (jd (ks, ad, cE dd E e9) wr wx) (jE (ks, ad, cE dd E e9) wr wx)
      refine kv_astore (lv2 := [(5, .ref q9), (0, .ref (ad 0)), (1, .int v), (2, .int x), (3, .int y), (4, .ref (wx.2.1 0))]) X dL_replaceItem_23 (by rw [hnL]; decide) rfl ?_
      refine kv_iconst (v := 3) X dL_replaceItem_25 (by decide) ?_
      exact kv_ireturn X hr (Nat.le_of_ble_eq_true rfl) (Nat.le_of_ble_eq_true rfl) ⟨((ks, ad, cE dd E e9), wx), (Or.inr (Or.inr (Or.inr (⟨rfl, ⟨e9, rfl, hX, rfl⟩⟩)))), rfl⟩ dL_replaceItem_26
  ·
    show kv dd g _ _ 10 [(0, .ref (ad 0)), (1, .int v), (2, .int x), (3, .int y), (4, .ref (wx.2.1 0))] [.int r9, .int 0, .ref (wx.2.1 0)] (jk z wr wx) (jd z wr wx) (jE z wr wx)
    refine kv_i2l X dL_replaceItem_10 rfl ?_
    refine kv_lastore X (κ := 2000) (n := 1) (j := 0) (f := f0) (x := r9.toInt64) (j_x0.1.mpr hx0.1) (j_x0.2.2.trans hx0.2) (by omega) (by omega) dL_replaceItem_11 ?_
    refine kv_E (E2 := (jE z wr (xJ dd wx f0 r9.toInt64))) (fun j _ => xJ_E j) ?_
    refine kv_goto (tgt := 27) X dL_replaceItem_12 (by decide) ?_
    refine kv_iconst (v := 0) X dL_replaceItem_27 (by decide) ?_
    exact kv_ireturn X hr (Nat.le_of_ble_eq_true rfl) (Nat.le_of_ble_eq_true rfl) ⟨(z, (xJ dd wx f0 r9.toInt64)), (Or.inl (⟨rfl, r9, hp, rfl⟩)), rfl⟩ dL_replaceItem_28

set_option maxRecDepth 100000 in
set_option maxHeartbeats 4000000 in
theorem c_L_replaceResource (l : Launch) (dd : kDD) (ks : List Nat) (ad : Nat → Nat) (E : Nat → va_E) (e : eS) (wr wx : kT) (hks : ∀ j, j ∈ ks → j < 1000) (M : mS) (nR nC nt nL nW nV nM : Nat) (cn nm mn me li rl : Nat → Nat) (on : Int32) (hO : cO dd ks ad E on) (hR : cR dd ks ad E M nR) (hC : cC dd ks ad E M nC mn me) (hT : cT dd ks ad E M nt cn nm) (hL : cL dd ks ad E M nL nW li) (hW : cW dd ks ad E M nW rl) (hV : cV dd ks ad E M nV) (hM : cM dd ks ad E M nM) (hB : cB M nR nC nt nL nW nV cn nm mn me li rl) (mI mR : Int32 → Nat → Nat) (hmI : ∀ o j, j < nt → mnt o (M.2.1 22) j nV 0 = nI (mI o j) ∧ mI o j < nt) (hmR : ∀ o j, j < nR → mnt o (M.2.1 23) j nV 0 = nI (mR o j) ∧ mR o j < nR) (hpk : ∀ r, r < nR → 1 ≤ M.2.1 5 r) (v x y : Int32) (f0 : Nat → Int64) (hx0 : 0 ∈ wx.1 ∧ wx.2.2 0 = kJ dd 1 f0) : kCi l yL_replaceResource (wsL_replaceResource ++ kHx) ({ frames := 8, cells := 5, slots := 30, locals := 145 } : Room) 5 30 dd [.ref (ad 0), .int v, .int x, .int y, .ref (wx.2.1 0)] (jk (ks, ad, cE dd E e) wr wx, jd (ks, ad, cE dd E e) wr wx, jE (ks, ad, cE dd E e) wr wx) (kQi (S := kT × kT) (fun r9 z => (r9 = 0 ∧ ∃ v9 : Int32, (fun (r : Int32) (z : kT) => ∃ jv, ∃ ja, ∃ jb, (jv < nV ∧ ja < nR ∧ jb < nR ∧ v = nI jv ∧ x = nI ja ∧ y = nI jb) ∧ (ja ≠ jb ∧ M.2.1 2 ja = M.2.1 2 jb) ∧ ¬ on >>> (nI jv &&& 31) &&& 1 = 1 ∧ (z.2.1 0 = ad 0 ∧ cAll dd (M.1, va_up M.2.1 23 (upd (M.2.1 23) (12 * jv + ja) (nI jb)), M.2.2) nR nC nt nL nW nV nM cn nm mn me li rl on z) ∧ r = tld (upd (M.2.1 23) (12 * jv + ja) (nI jb)) (12 * jv) 12) v9 z.1 ∧ z.2 = xJ dd wx f0 v9.toInt64) ∨ (r9 = 1 ∧ ∃ e9, z.1 = (ks, ad, cE dd E e9) ∧ ¬ ((∃ j, j < nV ∧ v = nI j) ∧ (∃ j, j < nR ∧ x = nI j) ∧ (∃ j, j < nR ∧ y = nI j)) ∧ z.2 = wx) ∨ (r9 = 2 ∧ ∃ e9, z.1 = (ks, ad, cE dd E e9) ∧ (∃ jv, ∃ ja, ∃ jb, (jv < nV ∧ ja < nR ∧ jb < nR ∧ v = nI jv ∧ x = nI ja ∧ y = nI jb) ∧ ¬ (ja ≠ jb ∧ M.2.1 2 ja = M.2.1 2 jb)) ∧ z.2 = wx) ∨ (r9 = 3 ∧ ∃ e9, z.1 = (ks, ad, cE dd E e9) ∧ (∃ jv, ∃ ja, ∃ jb, (jv < nV ∧ ja < nR ∧ jb < nR ∧ v = nI jv ∧ x = nI ja ∧ y = nI jb) ∧ ((ja ≠ jb ∧ M.2.1 2 ja = M.2.1 2 jb) ∧ on >>> (nI jv &&& 31) &&& 1 = 1)) ∧ z.2 = wx)) (fun z => jk z.1 wr z.2) (fun z => jd z.1 wr z.2) (fun z => jE z.1 wr z.2)) := by
  refine kMetiW (ws' := _) (cc := cL_replaceResource) (maxL := 6) (rt := .int) (by decide) rfl (Nat.le_of_ble_eq_true rfl) (fun g X hr htb hnL hRR hl0 => ?_)
  show kv dd g 0 0 0 [(0, .ref (ad 0)), (1, .int v), (2, .int x), (3, .int y), (4, .ref (wx.2.1 0))] [] (jk (ks, ad, cE dd E e) wr wx) (jd (ks, ad, cE dd E e) wr wx) (jE (ks, ad, cE dd E e) wr wx)
  refine kv_aload X 4 dL_replaceResource_0 rfl ?_
  refine kv_iconst (v := 0) X dL_replaceResource_2 (by decide) ?_
  refine kv_aload_n X 0 dL_replaceResource_3 rfl rfl ?_
  refine kv_iload_n X 1 dL_replaceResource_4 rfl rfl ?_
  refine kv_iload_n X 2 dL_replaceResource_5 rfl rfl ?_
  refine kv_iload_n X 3 dL_replaceResource_6 rfl rfl ?_
  refine kv_calliXVc (As := [.int v, .int x, .int y]) [.int 0, .ref (wx.2.1 0)] (ci := 13) (κ := 0) (r1 := (TX10, 3)) X (kCiX_frC (c := (ks, ad, cE dd E e)) (r := wr) (x := wx) (by rw [cf_id hks]; exact c_X10_replaceResource l dd ks ad E e M nR nC nt nL nW nV nM cn nm mn me li rl on hO hR hC hT hL hW hV hM hB mI mR hmI hmR hpk v x y)) hl0 (kCV_of X 3 (goodIn_ext gL_replaceResource_X10_replaceResource) rfl rfl rfl (by decide +kernel) hRR ⟨(Nat.le_of_ble_eq_true rfl), (Nat.le_of_ble_eq_true rfl)⟩) (j_c0.1.mpr hO.1.1) (j_c0.2.2.trans ((cE_ne (dd := dd) (E := E) (e := e) (k := 0) (by omega)).trans hO.1.2)) rfl rfl rfl (Nat.le_of_ble_eq_true rfl) hRR ⟨(Nat.le_of_ble_eq_true rfl), (Nat.le_of_ble_eq_true rfl)⟩ dL_replaceResource_7 (fun X9 u hX => ?_) (fun r9 z hp => ?_)
  ·
    obtain ⟨u1, ⟨e9, rfl, hX⟩, rfl⟩ := hX
    rcases hX with ⟨rfl, hX⟩ | ⟨rfl, hX⟩ | ⟨rfl, hX⟩
    ·
      refine kvx_catch (nm := "java/lang/IndexOutOfBoundsException") X htb [] (⟨0, 12, 15, 21⟩ : ExceptionTableEntry) [(⟨0, 12, 19, 13⟩ : ExceptionTableEntry), (⟨0, 12, 23, 15⟩ : ExceptionTableEntry)] rfl (fun z hz => nomatch hz) (by decide) (by decide) (List.mem_append_right _ (List.mem_of_getElem? (i := 2) rfl)) (by decide +kernel) (fun q9 => ?_)
      show kv dd g _ _ 15 [(0, .ref (ad 0)), (1, .int v), (2, .int x), (3, .int y), (4, .ref (wx.2.1 0))] [.ref q9] (jk (ks, ad, cE dd E e9) wr wx) (jd (ks, ad, cE dd E e9) wr wx) (jE (ks, ad, cE dd E e9) wr wx)
      refine kv_astore (lv2 := [(5, .ref q9), (0, .ref (ad 0)), (1, .int v), (2, .int x), (3, .int y), (4, .ref (wx.2.1 0))]) X dL_replaceResource_15 (by rw [hnL]; decide) rfl ?_
      refine kv_iconst (v := 1) X dL_replaceResource_17 (by decide) ?_
      exact kv_ireturn X hr (Nat.le_of_ble_eq_true rfl) (Nat.le_of_ble_eq_true rfl) ⟨((ks, ad, cE dd E e9), wx), (Or.inr (Or.inl (⟨rfl, ⟨e9, rfl, hX, rfl⟩⟩))), rfl⟩ dL_replaceResource_18
    ·
      refine kvx_catch (nm := "java/lang/IllegalArgumentException") X htb [(⟨0, 12, 15, 21⟩ : ExceptionTableEntry)] (⟨0, 12, 19, 13⟩ : ExceptionTableEntry) [(⟨0, 12, 23, 15⟩ : ExceptionTableEntry)] rfl (fun z hz => by
          simp only [List.mem_cons, List.not_mem_nil, or_false] at hz
          rcases hz with rfl
          · exact ⟨by decide, _, (List.mem_append_right _ (List.mem_of_getElem? (i := 2) rfl)), by decide +kernel⟩) (by decide) (by decide) (List.mem_append_right _ (List.mem_of_getElem? (i := 0) rfl)) (by decide +kernel) (fun q9 => ?_)
      show kv dd g _ _ 19 [(0, .ref (ad 0)), (1, .int v), (2, .int x), (3, .int y), (4, .ref (wx.2.1 0))] [.ref q9] (jk (ks, ad, cE dd E e9) wr wx) (jd (ks, ad, cE dd E e9) wr wx) (jE (ks, ad, cE dd E e9) wr wx)
      refine kv_astore (lv2 := [(5, .ref q9), (0, .ref (ad 0)), (1, .int v), (2, .int x), (3, .int y), (4, .ref (wx.2.1 0))]) X dL_replaceResource_19 (by rw [hnL]; decide) rfl ?_
      refine kv_iconst (v := 2) X dL_replaceResource_21 (by decide) ?_
      exact kv_ireturn X hr (Nat.le_of_ble_eq_true rfl) (Nat.le_of_ble_eq_true rfl) ⟨((ks, ad, cE dd E e9), wx), (Or.inr (Or.inr (Or.inl (⟨rfl, ⟨e9, rfl, hX, rfl⟩⟩)))), rfl⟩ dL_replaceResource_22
    ·
      refine kvx_catch (nm := "java/lang/IllegalStateException") X htb [(⟨0, 12, 15, 21⟩ : ExceptionTableEntry), (⟨0, 12, 19, 13⟩ : ExceptionTableEntry)] (⟨0, 12, 23, 15⟩ : ExceptionTableEntry) [] rfl (fun z hz => by
          simp only [List.mem_cons, List.not_mem_nil, or_false] at hz
          rcases hz with rfl | rfl
          · exact ⟨by decide, _, (List.mem_append_right _ (List.mem_of_getElem? (i := 2) rfl)), by decide +kernel⟩
          · exact ⟨by decide, _, (List.mem_append_right _ (List.mem_of_getElem? (i := 0) rfl)), by decide +kernel⟩) (by decide) (by decide) (List.mem_append_right _ (List.mem_of_getElem? (i := 1) rfl)) (by decide +kernel) (fun q9 => ?_)
      show kv dd g _ _ 23 [(0, .ref (ad 0)), (1, .int v), (2, .int x), (3, .int y), (4, .ref (wx.2.1 0))] [.ref q9] (jk (ks, ad, cE dd E e9) wr wx) (jd (ks, ad, cE dd E e9) wr wx) (jE (ks, ad, cE dd E e9) wr wx)
      refine kv_astore (lv2 := [(5, .ref q9), (0, .ref (ad 0)), (1, .int v), (2, .int x), (3, .int y), (4, .ref (wx.2.1 0))]) X dL_replaceResource_23 (by rw [hnL]; decide) rfl ?_
      refine kv_iconst (v := 3) X dL_replaceResource_25 (by decide) ?_
      exact kv_ireturn X hr (Nat.le_of_ble_eq_true rfl) (Nat.le_of_ble_eq_true rfl) ⟨((ks, ad, cE dd E e9), wx), (Or.inr (Or.inr (Or.inr (⟨rfl, ⟨e9, rfl, hX, rfl⟩⟩)))), rfl⟩ dL_replaceResource_26
  ·
    show kv dd g _ _ 10 [(0, .ref (ad 0)), (1, .int v), (2, .int x), (3, .int y), (4, .ref (wx.2.1 0))] [.int r9, .int 0, .ref (wx.2.1 0)] (jk z wr wx) (jd z wr wx) (jE z wr wx)
    refine kv_i2l X dL_replaceResource_10 rfl ?_
    refine kv_lastore X (κ := 2000) (n := 1) (j := 0) (f := f0) (x := r9.toInt64) (j_x0.1.mpr hx0.1) (j_x0.2.2.trans hx0.2) (by omega) (by omega) dL_replaceResource_11 ?_
    refine kv_E (E2 := (jE z wr (xJ dd wx f0 r9.toInt64))) (fun j _ => xJ_E j) ?_
    refine kv_goto (tgt := 27) X dL_replaceResource_12 (by decide) ?_
    refine kv_iconst (v := 0) X dL_replaceResource_27 (by decide) ?_
    exact kv_ireturn X hr (Nat.le_of_ble_eq_true rfl) (Nat.le_of_ble_eq_true rfl) ⟨(z, (xJ dd wx f0 r9.toInt64)), (Or.inl (⟨rfl, r9, hp, rfl⟩)), rfl⟩ dL_replaceResource_28

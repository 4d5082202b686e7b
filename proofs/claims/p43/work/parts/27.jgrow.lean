theorem f_Jx4a65c_grow_92f84_9 : kF wsJx4a65c_grow_92f84 RJx4a65c 9 2 1 := ⟨_, RJx4a65c, TJx4a65c, 3, fun _ h => (List.mem_cons_of_mem _ (List.mem_append_right _ h)), (List.mem_cons_of_mem _ (List.mem_append_left _ (List.mem_append_left _ (List.mem_of_getElem? (i := 0) rfl)))), rfl, by decide, rfl⟩
theorem fp_Jx4a65c_grow_92f84_9 : kFp wsJx4a65c_grow_92f84 RJx4a65c 9 2 1 (.array (.object "java/lang/Object")) false := ⟨_, RJx4a65c, TJx4a65c, 3, tyJx4a65c, fun _ h => (List.mem_cons_of_mem _ (List.mem_append_right _ h)), tyJx4a65c_ok, nmJx4a65c, (List.mem_cons_of_mem _ (List.mem_append_left _ (List.mem_append_left _ (List.mem_of_getElem? (i := 0) rfl)))), rfl, by decide, rfl, rfl, by decide +kernel, rfl⟩
set_option maxRecDepth 100000 in
set_option maxHeartbeats 4000000 in
theorem c_Jx4a65c_grow_92f84 (l : Launch) (dd : kDD) (ks : List Nat) (ad : Nat → Nat) (E : Nat → va_E) (lk ak n ci : Nat) (ek : Nat → Nat) (mc : Int32) (hlk : lk ∈ ks) (hne : lk ≠ ak) (hes : kEs ks E lk ak n ek ci) (hn : n < 60) (hG : (n = 0 ∧ E lk = .inr (2, [.int mc, .ref (ktE dd).1, .int (nI n)])) ∨ (∃ f, 0 < n ∧ ak ∈ ks ∧ E ak = kO dd n f ∧ (∀ i, i < n → f i = some (ad (ek i))) ∧ E lk = .inr (2, [.int mc, .ref (ad ak), .int (nI n)]))) : kCq l yJx4a65c_grow_92f84 wsJx4a65c_grow_92f84 ({ frames := 3, cells := 1, slots := 90, locals := 84 } : Room) 1 90 dd [.ref (ad lk), .int (nI (n + 1))] (ks, ad, E) (kQq (S := kT) (fun r z => r = some (z.2.1 ak) ∧ kGw ks ad E dd lk ak n (n + 1) n mc (fun i => some (ad (ek i))) z) (fun z => z.1) (fun z => z.2.1) (fun z => z.2.2)) := by
  refine kMetq (ws' := _) (cc := cJx4a65c_grow_92f84) (maxL := 4) (rt := (.array (.object "java/lang/Object"))) (by decide) rfl (Nat.le_of_ble_eq_true rfl) (fun g X hr hnL hRR hl0 hkn => ?_)
  show kv dd g 0 0 0 [(0, .ref (ad lk)), (1, .int (nI (n + 1)))] [] ks ad E
  rcases hG with ⟨h0, hO⟩ | ⟨f, h0, hak, hA, hf, hO⟩
  ·
    refine kv_aload_n X 0 dJx4a65c_grow_92f84_0 rfl rfl ?_
    refine kv_getfield X f_Jx4a65c_grow_92f84_9 (κ := lk) (fs := [.int mc, .ref (ktE dd).1, .int (nI n)]) (v := .ref (ktE dd).1) hlk hO rfl dJx4a65c_grow_92f84_1 ?_
    refine kv_alenT X dJx4a65c_grow_92f84_4 ?_
    refine kv_istore_n (lv2 := [(2, .int (nI 0)), (0, .ref (ad lk)), (1, .int (nI (n + 1)))]) X dJx4a65c_grow_92f84_5 rfl (by rw [hnL]; decide) rfl ?_
    refine kv_iload_n X 0 dJx4a65c_grow_92f84_6 rfl rfl ?_
    refine kv_if_gt (tgt := 20) X dJx4a65c_grow_92f84_7 (by decide) (fun hc7 => False.elim (absurd hc7 (by decide))) (fun hc7 => ?_)
    refine kv_aload_n X 1 dJx4a65c_grow_92f84_10 rfl rfl ?_
    refine kv_getfield X f_Jx4a65c_grow_92f84_9 (κ := lk) (fs := [.int mc, .ref (ktE dd).1, .int (nI n)]) (v := .ref (ktE dd).1) hlk hO rfl dJx4a65c_grow_92f84_11 ?_
    refine kv_getsE X (List.mem_cons_of_mem _ (List.mem_append_left _ (List.mem_append_left _ (List.mem_of_getElem? (i := 1) rfl)))) dJx4a65c_grow_92f84_14 ?_
    refine kv_acmp_eq (rx := some (ktE dd).1) (ry := some (ktE dd).1) (tgt := 45) X dJx4a65c_grow_92f84_17 (by decide) (fun _ => ?_) (fun h => absurd rfl h)
    refine kv_aload_n X 1 dJx4a65c_grow_92f84_45 rfl rfl ?_
    refine kv_bipush (v := 10) X dJx4a65c_grow_92f84_46 (by decide) ?_
    refine kv_iload_n X 2 dJx4a65c_grow_92f84_48 rfl rfl ?_
    refine kv_mmax X (List.mem_cons_of_mem _ (List.mem_append_left _ (List.mem_append_left _ (List.mem_of_getElem? (i := 2) rfl)))) (List.mem_cons_of_mem _ (List.mem_append_left _ (List.mem_append_left _ (List.mem_of_getElem? (i := 3) rfl)))) (List.mem_cons_of_mem _ (List.mem_append_left _ (List.mem_append_left _ (List.mem_of_getElem? (i := 4) rfl)))) (List.mem_cons_of_mem _ (List.mem_append_left _ (List.mem_append_left _ (List.mem_of_getElem? (i := 5) rfl)))) hRR (Nat.le_of_ble_eq_true rfl) ⟨(Nat.le_of_ble_eq_true rfl), (Nat.le_of_ble_eq_true rfl), (Nat.le_of_ble_eq_true rfl), (Nat.le_of_ble_eq_true rfl)⟩ dJx4a65c_grow_92f84_49 ?_
    refine kv_topi (nI 10) (by rw [h0]; decide) ?_
    refine kv_anewOR X ak (List.mem_cons_of_mem _ (List.mem_append_left _ (List.mem_append_left _ (List.mem_of_getElem? (i := 6) rfl)))) (by decide) hRR ⟨(Nat.le_of_ble_eq_true rfl), (Nat.le_of_ble_eq_true rfl)⟩ dJx4a65c_grow_92f84_52 (fun ks52 ad52 E52 hs52 => ?_)
    refine kv_LS [(2, .int (nI 0)), (0, .ref (ad52 lk)), (1, .int (nI (n + 1)))] [.ref (ad52 ak), .ref (ad52 lk)] (by rw [hs52.2.1 _ hne]) (by rw [hs52.2.1 _ hne]) ?_
    refine kv_dup_x1 X dJx4a65c_grow_92f84_55 rfl rfl ?_
    refine kv_putfield X fp_Jx4a65c_grow_92f84_9 (κ := lk) (fs := [.int mc, .ref (ktE dd).1, .int (nI n)]) ((hs52.1 _).mpr (Or.inl hlk)) ((hs52.2.2.1 _ hne).trans hO) rfl rfl (Nat.le_of_ble_eq_true rfl) dJx4a65c_grow_92f84_56 ?_
    exact kv_areturn (v := some (ad52 ak)) X hr (Or.inr ⟨_, rfl⟩) (Nat.le_of_ble_eq_true rfl) (Nat.le_of_ble_eq_true rfl) ⟨(ks52, ad52, (va_up E52 lk (Sum.inr (2, [.int mc, .ref (ad52 ak), .int (nI n)])))), ⟨rfl, hs52.1, hs52.2.1, fun j h1 h2 => (va_up_ne _ _ h2).trans (hs52.2.2.1 j h1), va_up_self _ _ _, _, _, by omega, by omega, by omega, (va_up_ne _ _ (Ne.symm hne)).trans hs52.2.2.2, fun i hi => by omega⟩, rfl⟩ dJx4a65c_grow_92f84_59
  ·
    obtain ⟨t, ht, -⟩ := k_fresh ks
    have htl : t ≠ lk := fun q => ht (q ▸ hlk)
    have hta : ak ≠ t := fun q => ht (q ▸ hak)
    refine kv_aload_n X 0 dJx4a65c_grow_92f84_0 rfl rfl ?_
    refine kv_getfield X f_Jx4a65c_grow_92f84_9 (κ := lk) (fs := [.int mc, .ref (ad ak), .int (nI n)]) (v := .ref (ad ak)) hlk hO rfl dJx4a65c_grow_92f84_1 ?_
    refine kv_alenO X (κ := ak) (n := n) (f := f) hak hA dJx4a65c_grow_92f84_4 ?_
    refine kv_istore_n (lv2 := [(2, .int (nI n)), (0, .ref (ad lk)), (1, .int (nI (n + 1)))]) X dJx4a65c_grow_92f84_5 rfl (by rw [hnL]; decide) rfl ?_
    refine kv_iload_n X 0 dJx4a65c_grow_92f84_6 rfl rfl ?_
    refine kv_if_gt (tgt := 20) X dJx4a65c_grow_92f84_7 (by decide) (fun hc7 => ?_) (fun hc7 => False.elim (hc7 (by rw [i_lt, nI_toInt (by omega)]; show (0 : Int) < _; omega)))
    refine kv_iload_n X 0 dJx4a65c_grow_92f84_20 rfl rfl ?_
    refine kv_iload_n X 2 dJx4a65c_grow_92f84_21 rfl rfl ?_
    refine kv_iload_n X 0 dJx4a65c_grow_92f84_22 rfl rfl ?_
    refine kv_isub X dJx4a65c_grow_92f84_23 ?_
    refine kv_topi 1 (k_one hn) ?_
    refine kv_iload_n X 0 dJx4a65c_grow_92f84_24 rfl rfl ?_
    refine kv_iconst (v := 1) X dJx4a65c_grow_92f84_25 (by decide) ?_
    refine kv_ishr X dJx4a65c_grow_92f84_26 ?_
    refine kv_topi (nI (n / 2)) (k_half hn) ?_
    refine kv_calliS (As := [.int (nI n), .int 1, .int (nI (n / 2))]) [] X (c_J8_newLength_cabcc l dd ks ad E n (n / 2) (by omega) (by omega)) hl0 (kCS_of X 3 gJx4a65c_grow_92f84_J8_newLength_cabcc rfl rfl rfl (by decide +kernel) hRR ⟨(Nat.le_of_ble_eq_true rfl), (Nat.le_of_ble_eq_true rfl)⟩) rfl rfl (Nat.le_of_ble_eq_true rfl) hRR ⟨(Nat.le_of_ble_eq_true rfl), (Nat.le_of_ble_eq_true rfl)⟩ dJx4a65c_grow_92f84_27 (fun r z hp => ?_)
    obtain rfl := hp
    refine kv_istore_n (lv2 := [(3, .int (nI (n + max 1 (n / 2)))), (2, .int (nI n)), (0, .ref (ad lk)), (1, .int (nI (n + 1)))]) X dJx4a65c_grow_92f84_30 rfl (by rw [hnL]; decide) rfl ?_
    refine kv_aload_n X 2 dJx4a65c_grow_92f84_31 rfl rfl ?_
    refine kv_aload_n X 2 dJx4a65c_grow_92f84_32 rfl rfl ?_
    refine kv_getfield X f_Jx4a65c_grow_92f84_9 (κ := lk) (fs := [.int mc, .ref (ad ak), .int (nI n)]) (v := .ref (ad ak)) hlk hO rfl dJx4a65c_grow_92f84_33 ?_
    refine kv_iload_n X 0 dJx4a65c_grow_92f84_36 rfl rfl ?_
    refine kv_callqS (As := [.ref (ad ak), .int (nI (n + max 1 (n / 2)))]) [.ref (ad lk)] X (c_J7_copyOf_1904c l dd ks ad E ak n (n + max 1 (n / 2)) t ci ek lk f hak hA h0 (by omega) (by omega) hf hes ht) hl0 (kCS_of X 2 gJx4a65c_grow_92f84_J7_copyOf_1904c rfl rfl rfl (by decide +kernel) hRR ⟨(Nat.le_of_ble_eq_true rfl), (Nat.le_of_ble_eq_true rfl)⟩) rfl rfl (Nat.le_of_ble_eq_true rfl) hRR ⟨(Nat.le_of_ble_eq_true rfl), (Nat.le_of_ble_eq_true rfl)⟩ dJx4a65c_grow_92f84_37 (fun r z hp => ?_)
    obtain ⟨rfl, hz⟩ := hp
    refine kv_topg (.ref (z.2.1 t)) rfl ?_
    refine kv_LS [(3, .int (nI (n + max 1 (n / 2)))), (2, .int (nI n)), (0, .ref (z.2.1 lk)), (1, .int (nI (n + 1)))] [.ref (z.2.1 t), .ref (z.2.1 lk)] (by rw [hz.2.1 _ (Ne.symm htl)]) (by rw [hz.2.1 _ (Ne.symm htl)]) ?_
    refine kv_dup_x1 X dJx4a65c_grow_92f84_40 rfl rfl ?_
    refine kv_putfield X fp_Jx4a65c_grow_92f84_9 (κ := lk) (fs := [.int mc, .ref (z.2.1 ak), .int (nI n)]) ((hz.1 _).mpr (Or.inl hlk)) ((hz.2.2.1 _ (Ne.symm htl)).trans (hO.trans (by rw [hz.2.1 _ hta]))) rfl rfl (Nat.le_of_ble_eq_true rfl) dJx4a65c_grow_92f84_41 ?_
    refine kv_nodup (fun hnd => kv_ren (ks2 := z.1.filter (fun j => j != t)) (ad2 := va_up ad ak (z.2.1 t)) (E2 := (va_up (va_up E ak (kO dd (n + max 1 (n / 2)) (va_cpy f (fun _ => none) 0 0 n))) lk (Sum.inr (2, [.int mc, .ref (z.2.1 t), .int (nI n)])))) (fun j => if j = ak then t else j) (hnd.filter _) (fun j hj => ?_) (fun i j hi hj h => ?_) ?_)
    · have hj2 := List.mem_filter.mp hj
      have hjt : j ≠ t := by intro q; have := hj2.2; rw [q] at this; simp at this
      by_cases c : j = ak
      · subst c; rw [if_pos rfl]; exact ⟨(hz.1 _).mpr (Or.inr rfl), (va_up_self _ _ _).symm, ((va_up_ne _ _ htl).trans hz.2.2.2).trans ((va_up_ne _ _ (Ne.symm hne)).trans (va_up_self _ _ _)).symm⟩
      · rw [if_neg c]; refine ⟨hj2.1, (hz.2.1 _ hjt).trans (va_up_ne _ _ c).symm, ?_⟩
        by_cases c2 : j = lk
        · subst c2; exact (va_up_self _ _ _).trans (va_up_self _ _ _).symm
        · exact ((va_up_ne _ _ c2).trans (hz.2.2.1 _ hjt)).trans ((va_up_ne _ _ c2).trans (va_up_ne _ _ c)).symm
    · have hi2 : i ≠ t := by intro q; have := (List.mem_filter.mp hi).2; rw [q] at this; simp at this
      have hj2 : j ≠ t := by intro q; have := (List.mem_filter.mp hj).2; rw [q] at this; simp at this
      by_cases c : i = ak <;> by_cases c2 : j = ak
      · rw [c, c2]
      · rw [if_pos c, if_neg c2] at h; exact absurd h.symm hj2
      · rw [if_neg c, if_pos c2] at h; exact absurd h hi2
      · rw [if_neg c, if_neg c2] at h; exact h
    have m1 : ∀ j, j ∈ z.1.filter (fun j => j != t) ↔ j ∈ ks ∨ j = ak := by
      intro j
      rw [List.mem_filter, hz.1]
      constructor
      · rintro ⟨q | q, q2⟩
        · exact Or.inl q
        · rw [q] at q2; simp at q2
      · rintro (q | q)
        · have h9 : j ≠ t := fun q9 => ht (q9 ▸ q)
          exact ⟨Or.inl q, by simp [h9]⟩
        · have h8 : j ∈ ks := by rw [q]; exact hak
          have h9 : j ≠ t := fun q9 => ht (q9 ▸ h8)
          exact ⟨Or.inl h8, by simp [h9]⟩
    have z1 : va_up ad ak (z.2.1 t) ak = z.2.1 t := va_up_self _ _ _
    refine kv_widen (a2 := 1) (b2 := 90) (by omega) (by omega) ?_
    exact kv_areturn (v := some (z.2.1 t)) X hr (Or.inr ⟨_, rfl⟩) (Nat.le_of_ble_eq_true rfl) (Nat.le_of_ble_eq_true rfl) ⟨(z.1.filter (fun j => j != t), va_up ad ak (z.2.1 t), (va_up (va_up E ak (kO dd (n + max 1 (n / 2)) (va_cpy f (fun _ => none) 0 0 n))) lk (Sum.inr (2, [.int mc, .ref (z.2.1 t), .int (nI n)])))), ⟨congrArg some z1.symm, m1, fun j hj => va_up_ne _ _ hj, fun j h1 h2 => (va_up_ne _ _ h2).trans (va_up_ne _ _ h1), (va_up_self _ _ _).trans (by show _ = Sum.inr (2, [_, Value.ref (va_up ad ak (z.2.1 t) ak), _]); rw [z1]), _, _, by omega, by omega, by omega, (va_up_ne _ _ (Ne.symm hne)).trans (va_up_self _ _ _), fun i hi => by show va_cpy _ _ _ _ _ i = _; unfold va_cpy; rw [if_pos ⟨by omega, by omega⟩]; rw [show 0 + (i - 0) = i by omega]; exact hf i hi⟩, rfl⟩ dJx4a65c_grow_92f84_44
theorem f_Jx4a65c_grow_d5877_48 : kF wsJx4a65c_grow_d5877 RJx4a65c 48 2 2 := ⟨_, RJx4a65c, TJx4a65c, 3, fun _ h => (List.mem_cons_of_mem _ (List.mem_append_right _ h)), (List.mem_cons_of_mem _ (List.mem_append_left _ (List.mem_append_left _ (List.mem_of_getElem? (i := 0) rfl)))), rfl, by decide, rfl⟩
set_option maxRecDepth 100000 in
set_option maxHeartbeats 4000000 in
theorem c_Jx4a65c_grow_d5877 (l : Launch) (dd : kDD) (ks : List Nat) (ad : Nat → Nat) (E : Nat → va_E) (lk ak n ci : Nat) (ek : Nat → Nat) (mc : Int32) (hlk : lk ∈ ks) (hne : lk ≠ ak) (hes : kEs ks E lk ak n ek ci) (hn : n < 60) (hG : (n = 0 ∧ E lk = .inr (2, [.int mc, .ref (ktE dd).1, .int (nI n)])) ∨ (∃ f, 0 < n ∧ ak ∈ ks ∧ E ak = kO dd n f ∧ (∀ i, i < n → f i = some (ad (ek i))) ∧ E lk = .inr (2, [.int mc, .ref (ad ak), .int (nI n)]))) : kCq l yJx4a65c_grow_d5877 wsJx4a65c_grow_d5877 ({ frames := 4, cells := 1, slots := 90, locals := 107 } : Room) 1 90 dd [.ref (ad lk)] (ks, ad, E) (kQq (S := kT) (fun r z => r = some (z.2.1 ak) ∧ kGw ks ad E dd lk ak n (n + 1) n mc (fun i => some (ad (ek i))) z) (fun z => z.1) (fun z => z.2.1) (fun z => z.2.2)) := by
  refine kMetq (ws' := _) (cc := cJx4a65c_grow_d5877) (maxL := 1) (rt := (.array (.object "java/lang/Object"))) (by decide) rfl (Nat.le_of_ble_eq_true rfl) (fun g X hr hnL hRR hl0 hkn => ?_)
  show kv dd g 0 0 0 [(0, .ref (ad lk))] [] ks ad E
  obtain ⟨q, hO⟩ : ∃ q, E lk = .inr (2, [.int mc, .ref q, .int (nI n)]) := by
    rcases hG with ⟨h0, hO⟩ | ⟨f, h0, hak, hA, hf, hO⟩
    · exact ⟨_, hO⟩
    · exact ⟨_, hO⟩
  refine kv_aload_n X 0 dJx4a65c_grow_d5877_0 rfl rfl ?_
  refine kv_aload_n X 0 dJx4a65c_grow_d5877_1 rfl rfl ?_
  refine kv_getfield X f_Jx4a65c_grow_d5877_48 (κ := lk) (fs := [.int mc, .ref q, .int (nI n)]) (v := .int (nI n)) hlk hO rfl dJx4a65c_grow_d5877_2 ?_
  refine kv_iconst (v := 1) X dJx4a65c_grow_d5877_5 (by decide) ?_
  refine kv_iadd X dJx4a65c_grow_d5877_6 ?_
  refine kv_topi (nI (n + 1)) (nI_add n 1) ?_
  refine kv_callqV (ci := 2) (κ := lk) (r1 := (TJx4a65c, 3)) (As := [.int (nI (n + 1))]) [] X (c_Jx4a65c_grow_92f84 l dd ks ad E lk ak n ci ek mc hlk hne hes hn hG) hl0 (kCV_of X 1 gJx4a65c_grow_d5877_Jx4a65c_grow_92f84 rfl rfl rfl (by decide +kernel) hRR ⟨(Nat.le_of_ble_eq_true rfl), (Nat.le_of_ble_eq_true rfl)⟩) hlk hO rfl rfl rfl (Nat.le_of_ble_eq_true rfl) hRR ⟨(Nat.le_of_ble_eq_true rfl), (Nat.le_of_ble_eq_true rfl)⟩ dJx4a65c_grow_d5877_7 (fun r z hp => ?_)
  obtain ⟨rfl, hz⟩ := hp
  exact kv_areturn (v := some (z.2.1 ak)) X hr (Or.inr ⟨_, rfl⟩) (Nat.le_of_ble_eq_true rfl) (Nat.le_of_ble_eq_true rfl) ⟨z, ⟨rfl, hz⟩, rfl⟩ dJx4a65c_grow_d5877_10

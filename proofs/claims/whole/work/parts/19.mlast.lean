/-! the reference: the last methods -/
/-- size of one of a row's shape -/
def msh (s a b c : Int32) : Int32 := if s = 110 then 1 else if s = 108 then a else if s = 114 then a * b else if s = 116 then a * b / 2 else if s = 112 then 2 * (a + b) else a * b * c
/-- the total, out of amounts -/
def mtot (ki wa pa pr bs pc : Nat → Int32) (am : Nat → Int64) (nR nM : Nat) : Int64 := msumJ (mmk bs pc (fun b => mkd ki am pr (nI b) nR) (mex am wa pa pr nR) nM) (mkd ki am pr 0 nR + mkd ki am pr 1 nR + mkd ki am pr 2 nR + mex am wa pa pr nR) nM
theorem mkd_set {ki pr : Nat → Int32} {f am : Nat → Int64} {its : Int32} {n : Nat} : ∀ {m : Nat}, m ≤ n → mkd ki (mset f am n) pr its m = mkd ki am pr its m := by
  intro m
  induction m with
  | zero => intro _; rfl
  | succ m ih => intro h; rw [mkd, mkd, ih (by omega), mset_in (by omega)]
theorem mex_set {wa pa pr : Nat → Int32} {f am : Nat → Int64} {n : Nat} : ∀ {m : Nat}, m ≤ n → mex (mset f am n) wa pa pr m = mex am wa pa pr m := by
  intro m
  induction m with
  | zero => intro _; rfl
  | succ m ih => intro h; rw [mex, mex, ih (by omega), mset_in (by omega)]
theorem msumJ_set {f am : Nat → Int64} {s0 : Int64} {n : Nat} : ∀ {m : Nat}, m ≤ n → msumJ (mset f am n) s0 m = msumJ am s0 m := by
  intro m
  induction m with
  | zero => intro _; rfl
  | succ m ih => intro h; rw [msumJ, msumJ, ih (by omega), mset_in (by omega)]
theorem tot_clean {ki wa pa pr bs pc : Nat → Int32} {f g am : Nat → Int64} {nR nM : Nat} : msumJ (mset g (mmk bs pc (fun b => mkd ki (mset f am nR) pr (nI b) nR) (mex (mset f am nR) wa pa pr nR) nM) nM) (mkd ki (mset f am nR) pr 0 nR + mkd ki (mset f am nR) pr 1 nR + mkd ki (mset f am nR) pr 2 nR + mex (mset f am nR) wa pa pr nR) nM = mtot ki wa pa pr bs pc am nR nM := by
  simp only [mtot, msumJ_set (Nat.le_refl _), mkd_set (Nat.le_refl _), mex_set (Nat.le_refl _)]
/-- the cheapest of the first n sets: f their totals, al which are allowed -/
def mB (al : Nat → Prop) (f : Nat → Int64) : Nat → Int32 → Int64 → Prop
  | 0, b, l => b = -1 ∧ l = 0
  | n + 1, b, l => ∃ b0 l0, mB al f n b0 l0 ∧ ((al n ∧ (b0 = -1 ∨ f n < l0) ∧ b = nI n ∧ l = f n) ∨ (¬ (al n ∧ (b0 = -1 ∨ f n < l0)) ∧ b = b0 ∧ l = l0))
/-- how many of the first n are ahead of j -/
def mah (f : Nat → Int64) (j : Nat) : Nat → Int32
  | 0 => 0
  | n + 1 => mah f j n + (if f j < f n ∨ (f n = f j ∧ n < j) then 1 else 0)
theorem k_upc {f : Nat → Int32} {c : Nat → Nat} {j N B : Nat} (h : ∀ i, i < N → f i = nI (c i) ∧ c i ≤ B) (hb : c j + 1 ≤ B) : ∀ i, i < N → upd f j (nI (c j + 1)) i = nI (va_up c j (c j + 1) i) ∧ va_up c j (c j + 1) i ≤ B := by
  intro i hi
  unfold upd va_up
  by_cases c2 : i = j
  · rw [if_pos c2, if_pos c2]; exact ⟨rfl, hb⟩
  · rw [if_neg c2, if_neg c2]; exact h i hi
theorem k_upn {f : Nat → Int32} {c : Nat → Nat} {j N B x : Nat} (h : ∀ i, i < N → f i = nI (c i) ∧ c i < B) (hb : x < B) : ∀ i, i < N → upd f j (nI x) i = nI (va_up c j x i) ∧ va_up c j x i < B := by
  intro i hi
  unfold upd va_up
  by_cases c2 : i = j
  · rw [if_pos c2, if_pos c2]; exact ⟨rfl, hb⟩
  · rw [if_neg c2, if_neg c2]; exact h i hi
theorem mdmx_congr {so f g : Nat → Int32} {b : Nat} : ∀ {n : Nat}, (∀ k, k < n → so (b + k) = 0 → f (b + k) = g (b + k)) → mdmx so f b n = mdmx so g b n := by
  intro n
  induction n with
  | zero => intro _; rfl
  | succ n ih =>
    intro h
    have e : (if so (b + n) = 0 then 1 + f (b + n) else 1 : Int32) = (if so (b + n) = 0 then 1 + g (b + n) else 1) := by
      by_cases c : so (b + n) = 0
      · rw [if_pos c, if_pos c, h n (by omega) c]
      · rw [if_neg c, if_neg c]
    rw [mdmx, mdmx, ih (fun k hk => h k (by omega)), e]
theorem mD_base {so : Nat → Int32} {cn nx : Nat → Nat} {nt : Nat} {A B : Nat → Int32} (h : ∀ i, i < nt → ∀ k, k < cn i → so (4 * i + k) = 0 → nx (4 * i + k) < nt) : ∀ t i, i < nt → mD so cn nx nt A t i = mD so cn nx nt B t i := by
  intro t
  induction t with
  | zero => intro i hi; rw [mD, mD, mset_in hi, mset_in hi]
  | succ t ih =>
    intro i hi
    rw [mD, mD, mset_in hi, mset_in hi, mdmx_congr (g := fun k => mD so cn nx nt B t (nx k)) (fun k hk hs => ih (nx (4 * i + k)) (h i hi k hk hs))]
theorem al_base {so : Nat → Int32} {cn nx : Nat → Nat} {nt : Nat} {A B : Nat → Int32} (h : ∀ i, i < nt → ∀ k, k < cn i → so (4 * i + k) = 0 → nx (4 * i + k) < nt) : (∀ k, k < nt → mD so cn nx nt A 3 k ≤ 3) ↔ (∀ k, k < nt → mD so cn nx nt B 3 k ≤ 3) := by
  constructor
  · intro q k hk; rw [mD_base h 3 k hk (A := B) (B := A)]; exact q k hk
  · intro q k hk; rw [mD_base h 3 k hk (A := A) (B := B)]; exact q k hk
theorem k_pow {n : Nat} (h : n ≤ 4) : (1 : Int32) <<< (nI n &&& 31) = nI (2 ^ n) := by
  rcases (by omega : n = 0 ∨ n = 1 ∨ n = 2 ∨ n = 3 ∨ n = 4) with rfl | rfl | rfl | rfl | rfl <;> decide
theorem k_pow_le {n : Nat} (h : n ≤ 4) : 2 ^ n ≤ 16 := by
  rcases (by omega : n = 0 ∨ n = 1 ∨ n = 2 ∨ n = 3 ∨ n = 4) with rfl | rfl | rfl | rfl | rfl <;> decide

theorem fp_X11_addMember_86 : kFp wsX11_addMember RX11 86 14 0 .int false := ⟨_, RX11, TX11, 34, tyX11, fun _ h => (List.mem_cons_of_mem _ (List.mem_append_left _ (List.mem_append_right _ h))), tyX11_ok, nmX11, (List.mem_cons_of_mem _ (List.mem_append_left _ (List.mem_append_left _ (List.mem_of_getElem? (i := 0) rfl)))), rfl, by decide, rfl, rfl, by decide +kernel, rfl⟩
theorem f_X11_addMember_114 : kF wsX11_addMember RX11 114 14 6 := ⟨_, RX11, TX11, 34, fun _ h => (List.mem_cons_of_mem _ (List.mem_append_left _ (List.mem_append_right _ h))), (List.mem_cons_of_mem _ (List.mem_append_left _ (List.mem_append_left _ (List.mem_of_getElem? (i := 1) rfl)))), rfl, by decide, rfl⟩
theorem f_X11_addMember_7 : kF wsX11_addMember RX11 7 14 2 := ⟨_, RX11, TX11, 34, fun _ h => (List.mem_cons_of_mem _ (List.mem_append_left _ (List.mem_append_right _ h))), (List.mem_cons_of_mem _ (List.mem_append_left _ (List.mem_append_left _ (List.mem_of_getElem? (i := 2) rfl)))), rfl, by decide, rfl⟩
theorem f_X11_addMember_22 : kF wsX11_addMember RX11 22 14 7 := ⟨_, RX11, TX11, 34, fun _ h => (List.mem_cons_of_mem _ (List.mem_append_left _ (List.mem_append_right _ h))), (List.mem_cons_of_mem _ (List.mem_append_left _ (List.mem_append_left _ (List.mem_of_getElem? (i := 3) rfl)))), rfl, by decide, rfl⟩
theorem f_X11_addMember_25 : kF wsX11_addMember RX11 25 14 8 := ⟨_, RX11, TX11, 34, fun _ h => (List.mem_cons_of_mem _ (List.mem_append_left _ (List.mem_append_right _ h))), (List.mem_cons_of_mem _ (List.mem_append_left _ (List.mem_append_left _ (List.mem_of_getElem? (i := 4) rfl)))), rfl, by decide, rfl⟩
theorem f_X11_addMember_28 : kF wsX11_addMember RX11 28 14 9 := ⟨_, RX11, TX11, 34, fun _ h => (List.mem_cons_of_mem _ (List.mem_append_left _ (List.mem_append_right _ h))), (List.mem_cons_of_mem _ (List.mem_append_left _ (List.mem_append_left _ (List.mem_of_getElem? (i := 5) rfl)))), rfl, by decide, rfl⟩
set_option maxRecDepth 100000 in
set_option maxHeartbeats 4000000 in
theorem c_X11_addMember (l : Launch) (dd : kDD) (ad : Nat → Nat) (M : mS) (v : Int32) (x : Int32) (q : Int32) (nC : Nat) (hC : M.1 6 = nI nC ∧ nC ≤ 4) (nR : Nat) (hR : M.1 1 = nI nR ∧ nR ≤ 12) (mn : Nat → Nat) (hmn : ∀ i, i < 4 → M.2.1 7 i = nI (mn i) ∧ mn i ≤ 3) : kCi l yX11_addMember wsX11_addMember ({ frames := 2, cells := 0, slots := 0, locals := 43 } : Room) 0 0 dd [.ref (ad 0), .int v, .int x, .int q] (mK, ad, mE dd ad M) (kQi (S := mS) (fun r z => (¬ ((∃ j, j < nC ∧ v = nI j) ∧ (∃ j, j < nR ∧ x = nI j)) ∧ mT M 1 = z ∧ r = 0) ∨ (((∃ j, j < nC ∧ v = nI j) ∧ (∃ j, j < nR ∧ x = nI j)) ∧ ¬ (1 ≤ q ∧ q ≤ 9) ∧ mT M 2 = z ∧ r = 0) ∨ ∃ j, ∃ j2, (j < nC ∧ j2 < nR ∧ v = nI j ∧ x = nI j2 ∧ (1 ≤ q ∧ q ≤ 9)) ∧ ((M.2.1 2 j2 = 0 ∧ mT M 3 = z ∧ r = 0) ∨ (¬ M.2.1 2 j2 = 0 ∧ (mhas (M.2.1 8) (3 * j) (nI j2) (mn j) ∨ mn j = 3) ∧ mT M 4 = z ∧ r = 0) ∨ (¬ M.2.1 2 j2 = 0 ∧ ¬ (mhas (M.2.1 8) (3 * j) (nI j2) (mn j) ∨ mn j = 3) ∧ (va_up M.1 0 0, va_up (va_up (va_up M.2.1 8 (upd (M.2.1 8) (3 * j + mn j) (nI j2))) 9 (upd (M.2.1 9) (3 * j + mn j) q)) 7 (upd (M.2.1 7) j (nI (mn j + 1))), M.2.2) = z ∧ r = nI (mn j + 1)))) (fun _ => mK) (fun _ => ad) (fun z => mE dd ad z)) := by
  refine kMeti (ws' := _) (cc := cX11_addMember) (maxL := 6) (rt := .int) (by decide) rfl (Nat.le_of_ble_eq_true rfl) (fun g X hr hnL hRR hl0 hkn => ?_)
  show kv dd g 0 0 0 [(0, .ref (ad 0)), (1, .int v), (2, .int x), (3, .int q)] [] mK ad (mE dd ad M)
  refine kv_aload_n X 0 dX11_addMember_0 rfl rfl ?_
  refine kv_iconst (v := 0) X dX11_addMember_1 (by decide) ?_
  refine km_put X 0 (x := 0) fp_X11_addMember_86 (by decide) dX11_addMember_2 ?_
  refine kv_aload_n X 0 dX11_addMember_5 rfl rfl ?_
  refine kv_iload_n X 1 dX11_addMember_6 rfl rfl ?_
  refine kv_iconst (v := 0) X dX11_addMember_7 (by decide) ?_
  refine kv_aload_n X 0 dX11_addMember_8 rfl rfl ?_
  refine km_get X 6 (v := .int (M.1 6)) f_X11_addMember_114 rfl dX11_addMember_9 ?_
  refine kv_topi (nI nC) hC.1 ?_
  refine kv_iconst (v := 1) X dX11_addMember_12 (by decide) ?_
  refine kv_isub X dX11_addMember_13 ?_
  refine kv_calliS (As := [.int v, .int 0, .int ((nI nC) - 1)]) [.ref (ad 0)] X (c_X11_in l dd ad ((va_up M.1 0 0), M.2.1, M.2.2) v 0 ((nI nC) - 1)) hl0 (kCS_of X 3 gX11_addMember_X11_in rfl rfl rfl (by decide +kernel) hRR ⟨Nat.le_of_ble_eq_true rfl, Nat.le_of_ble_eq_true rfl⟩) rfl rfl (Nat.le_of_ble_eq_true rfl) hRR ⟨Nat.le_of_ble_eq_true rfl, Nat.le_of_ble_eq_true rfl⟩ dX11_addMember_14 (fun r z hp => ?_)
  obtain ⟨rfl, ⟨rfl, o14⟩ | ⟨rfl, o14⟩⟩ := hp
  ·
    obtain ⟨j14, h14, rfl⟩ := (k_rng (by omega)).mp o14
    refine kv_if_eq (tgt := 28) X dX11_addMember_17 (by decide) (fun hc => absurd hc (by decide)) (fun hc17 => ?_)
    refine kv_aload_n X 0 dX11_addMember_20 rfl rfl ?_
    refine kv_iload_n X 2 dX11_addMember_21 rfl rfl ?_
    refine kv_calliV (ci := 14) (κ := 0) (r1 := (TX11, 34)) (As := [.int x]) [.ref (ad 0)] X (c_X11_noResource l dd ad ((va_up M.1 0 0), M.2.1, M.2.2) x nR hR.2 hR.1) hl0 (kCV_of X 1 gX11_addMember_X11_noResource rfl rfl rfl (by decide +kernel) hRR ⟨Nat.le_of_ble_eq_true rfl, Nat.le_of_ble_eq_true rfl⟩) (by decide) rfl rfl rfl rfl (Nat.le_of_ble_eq_true rfl) hRR ⟨Nat.le_of_ble_eq_true rfl, Nat.le_of_ble_eq_true rfl⟩ dX11_addMember_22 (fun r z hp => ?_)
    obtain ⟨rfl, ⟨rfl, h22⟩ | ⟨rfl, j22, h22, rfl⟩⟩ := hp
    ·
      refine kv_if_eq (tgt := 32) X dX11_addMember_25 (by decide) (fun hc => absurd hc (by decide)) (fun hc25 => ?_)
      refine kv_iconst (v := 1) X dX11_addMember_28 (by decide) ?_
      refine kv_goto (tgt := 33) X dX11_addMember_29 (by decide) ?_
      refine kv_iconst (v := 1) X dX11_addMember_33 (by decide) ?_
      refine kv_calliV (ci := 14) (κ := 0) (r1 := (TX11, 34)) (As := [.int 1, .int 1]) [] X (c_X11_fails1 l dd ad ((va_up M.1 0 0), M.2.1, M.2.2) 1 (by decide) rfl) hl0 (kCV_of X 2 gX11_addMember_X11_fails rfl rfl rfl (by decide +kernel) hRR ⟨Nat.le_of_ble_eq_true rfl, Nat.le_of_ble_eq_true rfl⟩) (by decide) rfl rfl rfl rfl (Nat.le_of_ble_eq_true rfl) hRR ⟨Nat.le_of_ble_eq_true rfl, Nat.le_of_ble_eq_true rfl⟩ dX11_addMember_34 (fun r z hp => ?_)
      obtain ⟨rfl, rfl⟩ := hp
      refine kv_if_ne (tgt := 85) X dX11_addMember_37 (by decide) (fun hc37 => ?_) (fun hc => absurd hc (by decide))
      refine kv_iconst (v := 0) X dX11_addMember_85 (by decide) ?_
      exact kv_ireturn X hr (by decide) (by decide) ⟨((va_up (va_up M.1 0 0) 0 1), M.2.1, M.2.2), Or.inl ⟨fun y => by first | exact absurd y.1 h14 | exact absurd y.2 h22, rfl, rfl⟩, rfl⟩ dX11_addMember_86
    ·
      refine kv_if_eq (tgt := 32) X dX11_addMember_25 (by decide) (fun hc25 => ?_) (fun hc => absurd hc (by decide))
      refine kv_iconst (v := 0) X dX11_addMember_32 (by decide) ?_
      refine kv_iconst (v := 1) X dX11_addMember_33 (by decide) ?_
      refine kv_calliV (ci := 14) (κ := 0) (r1 := (TX11, 34)) (As := [.int 0, .int 1]) [] X (c_X11_fails0 l dd ad ((va_up M.1 0 0), M.2.1, M.2.2) 1 rfl) hl0 (kCV_of X 2 gX11_addMember_X11_fails rfl rfl rfl (by decide +kernel) hRR ⟨Nat.le_of_ble_eq_true rfl, Nat.le_of_ble_eq_true rfl⟩) (by decide) rfl rfl rfl rfl (Nat.le_of_ble_eq_true rfl) hRR ⟨Nat.le_of_ble_eq_true rfl, Nat.le_of_ble_eq_true rfl⟩ dX11_addMember_34 (fun r z hp => ?_)
      obtain ⟨rfl, rfl⟩ := hp
      refine kv_if_ne (tgt := 85) X dX11_addMember_37 (by decide) (fun hc => absurd hc (by decide)) (fun hc37 => ?_)
      refine kv_aload_n X 0 dX11_addMember_40 rfl rfl ?_
      refine kv_iload_n X 3 dX11_addMember_41 rfl rfl ?_
      refine kv_iconst (v := 1) X dX11_addMember_42 (by decide) ?_
      refine kv_bipush (v := 9) X dX11_addMember_43 (by decide) ?_
      refine kv_calliS (As := [.int q, .int 1, .int 9]) [.ref (ad 0)] X (c_X11_in l dd ad ((va_up M.1 0 0), M.2.1, M.2.2) q 1 9) hl0 (kCS_of X 3 gX11_addMember_X11_in rfl rfl rfl (by decide +kernel) hRR ⟨Nat.le_of_ble_eq_true rfl, Nat.le_of_ble_eq_true rfl⟩) rfl rfl (Nat.le_of_ble_eq_true rfl) hRR ⟨Nat.le_of_ble_eq_true rfl, Nat.le_of_ble_eq_true rfl⟩ dX11_addMember_45 (fun r z hp => ?_)
      obtain ⟨rfl, ⟨rfl, h45⟩ | ⟨rfl, h45⟩⟩ := hp
      ·
        refine kv_if_ne (tgt := 55) X dX11_addMember_48 (by decide) (fun hc48 => ?_) (fun hc => absurd hc (by decide))
        refine kv_iconst (v := 0) X dX11_addMember_55 (by decide) ?_
        refine kv_iconst (v := 2) X dX11_addMember_56 (by decide) ?_
        refine kv_calliV (ci := 14) (κ := 0) (r1 := (TX11, 34)) (As := [.int 0, .int 2]) [] X (c_X11_fails0 l dd ad ((va_up M.1 0 0), M.2.1, M.2.2) 2 rfl) hl0 (kCV_of X 2 gX11_addMember_X11_fails rfl rfl rfl (by decide +kernel) hRR ⟨Nat.le_of_ble_eq_true rfl, Nat.le_of_ble_eq_true rfl⟩) (by decide) rfl rfl rfl rfl (Nat.le_of_ble_eq_true rfl) hRR ⟨Nat.le_of_ble_eq_true rfl, Nat.le_of_ble_eq_true rfl⟩ dX11_addMember_57 (fun r z hp => ?_)
        obtain ⟨rfl, rfl⟩ := hp
        refine kv_if_ne (tgt := 85) X dX11_addMember_60 (by decide) (fun hc => absurd hc (by decide)) (fun hc60 => ?_)
        refine kv_aload_n X 0 dX11_addMember_63 rfl rfl ?_
        refine kv_aload_n X 0 dX11_addMember_64 rfl rfl ?_
        refine km_get X 2 (v := .ref (ad 2)) f_X11_addMember_7 rfl dX11_addMember_65 ?_
        refine kv_iload_n X 2 dX11_addMember_68 rfl rfl ?_
        refine km_iald X 2 (j := j22) (by decide) (by decide) rfl (by show _ < _; simp only [mLen]; omega) (by decide) dX11_addMember_69 ?_
        refine kv_topi ((M.2.1 2) j22) rfl ?_
        refine kv_if_ne (tgt := 77) X dX11_addMember_70 (by decide) (fun hc70 => ?_) (fun hc70 => ?_)
        ·
          refine kv_iconst (v := 0) X dX11_addMember_77 (by decide) ?_
          refine kv_iconst (v := 3) X dX11_addMember_78 (by decide) ?_
          refine kv_calliV (ci := 14) (κ := 0) (r1 := (TX11, 34)) (As := [.int 0, .int 3]) [] X (c_X11_fails0 l dd ad ((va_up M.1 0 0), M.2.1, M.2.2) 3 rfl) hl0 (kCV_of X 2 gX11_addMember_X11_fails rfl rfl rfl (by decide +kernel) hRR ⟨Nat.le_of_ble_eq_true rfl, Nat.le_of_ble_eq_true rfl⟩) (by decide) rfl rfl rfl rfl (Nat.le_of_ble_eq_true rfl) hRR ⟨Nat.le_of_ble_eq_true rfl, Nat.le_of_ble_eq_true rfl⟩ dX11_addMember_79 (fun r z hp => ?_)
          obtain ⟨rfl, rfl⟩ := hp
          refine kv_if_eq (tgt := 87) X dX11_addMember_82 (by decide) (fun hc82 => ?_) (fun hc => absurd hc (by decide))
          refine kv_iconst (v := 0) X dX11_addMember_87 (by decide) ?_
          refine kv_istore (lv2 := [(4, .int 0), (0, .ref (ad 0)), (1, .int (nI j14)), (2, .int (nI j22)), (3, .int q)]) X dX11_addMember_88 (by rw [hnL]; decide) rfl ?_
          refine kv_iconst (v := 0) X dX11_addMember_90 (by decide) ?_
          refine kv_istore (lv2 := [(5, .int 0), (4, .int 0), (0, .ref (ad 0)), (1, .int (nI j14)), (2, .int (nI j22)), (3, .int q)]) X dX11_addMember_91 (by rw [hnL]; decide) rfl ?_
          have L93 : ∀ (n i : Nat), i + n = mn j14 → ∀ (is : Int32) (his : (is = 1 ∧ mhas (M.2.1 8) (3 * j14) (nI j22) i) ∨ (is = 0 ∧ ¬ mhas (M.2.1 8) (3 * j14) (nI j22) i)), kv dd g 0 0 93 [(5, .int (nI i)), (4, .int is), (0, .ref (ad 0)), (1, .int (nI j14)), (2, .int (nI j22)), (3, .int q)] [] mK ad (mE dd ad ((va_up M.1 0 0), M.2.1, M.2.2)) := by
            intro n
            induction n with
            | zero =>
              intro i hin93 is his
              refine kv_iload X 0 dX11_addMember_93 rfl ?_
              refine kv_aload_n X 2 dX11_addMember_95 rfl rfl ?_
              refine km_get X 7 (v := .ref (ad 7)) f_X11_addMember_22 rfl dX11_addMember_96 ?_
              refine kv_iload_n X 3 dX11_addMember_99 rfl rfl ?_
              refine km_iald X 7 (j := j14) (by decide) (by decide) rfl (by show _ < _; simp only [mLen]; omega) (by decide) dX11_addMember_100 ?_
              have e100 := (hmn j14 (by omega)).2
              refine kv_topi (nI (mn j14)) (hmn j14 (by omega)).1 ?_
              refine kn_icmp_ge (x := i) (y := mn j14) (tgt := 137) X (by omega) (by omega) dX11_addMember_101 (by decide) (fun hc101 => ?_) (fun hc101 => absurd hc101 (by omega))
              refine kv_aload_n X 2 dX11_addMember_137 rfl rfl ?_
              rcases his with ⟨rfl, his⟩ | ⟨rfl, his⟩
              ·
                refine kv_iload X 1 dX11_addMember_138 rfl ?_
                refine kv_if_ne (tgt := 153) X dX11_addMember_140 (by decide) (fun hc140 => ?_) (fun hc => absurd hc (by decide))
                refine kv_iconst (v := 1) X dX11_addMember_153 (by decide) ?_
                refine kv_goto (tgt := 158) X dX11_addMember_154 (by decide) ?_
                refine kv_iconst (v := 4) X dX11_addMember_158 (by decide) ?_
                refine kv_calliV (ci := 14) (κ := 0) (r1 := (TX11, 34)) (As := [.int 1, .int 4]) [] X (c_X11_fails1 l dd ad ((va_up M.1 0 0), M.2.1, M.2.2) 4 (by decide) rfl) hl0 (kCV_of X 2 gX11_addMember_X11_fails rfl rfl rfl (by decide +kernel) hRR ⟨Nat.le_of_ble_eq_true rfl, Nat.le_of_ble_eq_true rfl⟩) (by decide) rfl rfl rfl rfl (Nat.le_of_ble_eq_true rfl) hRR ⟨Nat.le_of_ble_eq_true rfl, Nat.le_of_ble_eq_true rfl⟩ dX11_addMember_159 (fun r z hp => ?_)
                obtain ⟨rfl, rfl⟩ := hp
                refine kv_if_eq (tgt := 167) X dX11_addMember_162 (by decide) (fun hc => absurd hc (by decide)) (fun hc162 => ?_)
                refine kv_iconst (v := 0) X dX11_addMember_165 (by decide) ?_
                exact kv_ireturn X hr (by decide) (by decide) ⟨((va_up (va_up M.1 0 0) 0 4), M.2.1, M.2.2), Or.inr (Or.inr ⟨j14, j22, ⟨h14, h22, rfl, rfl, h45⟩, Or.inr (Or.inl ⟨hc70, by first | exact Or.inl (by rw [show mn j14 = i by omega]; exact his) | exact Or.inr hc150, rfl, rfl⟩)⟩), rfl⟩ dX11_addMember_166
              ·
                refine kv_iload X 1 dX11_addMember_138 rfl ?_
                refine kv_if_ne (tgt := 153) X dX11_addMember_140 (by decide) (fun hc => absurd hc (by decide)) (fun hc140 => ?_)
                refine kv_aload_n X 2 dX11_addMember_143 rfl rfl ?_
                refine km_get X 7 (v := .ref (ad 7)) f_X11_addMember_22 rfl dX11_addMember_144 ?_
                refine kv_iload_n X 3 dX11_addMember_147 rfl rfl ?_
                refine km_iald X 7 (j := j14) (by decide) (by decide) rfl (by show _ < _; simp only [mLen]; omega) (by decide) dX11_addMember_148 ?_
                have e148 := (hmn j14 (by omega)).2
                refine kv_topi (nI (mn j14)) (hmn j14 (by omega)).1 ?_
                refine kv_iconst (v := 3) X dX11_addMember_149 (by decide) ?_
                refine kn_icmp_ne (x := mn j14) (y := 3) (tgt := 157) X (by omega) (by omega) dX11_addMember_150 (by decide) (fun hc150 => ?_) (fun hc150 => ?_)
                ·
                  refine kv_iconst (v := 0) X dX11_addMember_157 (by decide) ?_
                  refine kv_iconst (v := 4) X dX11_addMember_158 (by decide) ?_
                  refine kv_calliV (ci := 14) (κ := 0) (r1 := (TX11, 34)) (As := [.int 0, .int 4]) [] X (c_X11_fails0 l dd ad ((va_up M.1 0 0), M.2.1, M.2.2) 4 rfl) hl0 (kCV_of X 2 gX11_addMember_X11_fails rfl rfl rfl (by decide +kernel) hRR ⟨Nat.le_of_ble_eq_true rfl, Nat.le_of_ble_eq_true rfl⟩) (by decide) rfl rfl rfl rfl (Nat.le_of_ble_eq_true rfl) hRR ⟨Nat.le_of_ble_eq_true rfl, Nat.le_of_ble_eq_true rfl⟩ dX11_addMember_159 (fun r z hp => ?_)
                  obtain ⟨rfl, rfl⟩ := hp
                  refine kv_if_eq (tgt := 167) X dX11_addMember_162 (by decide) (fun hc162 => ?_) (fun hc => absurd hc (by decide))
                  refine kv_aload_n X 2 dX11_addMember_167 rfl rfl ?_
                  refine km_get X 8 (v := .ref (ad 8)) f_X11_addMember_25 rfl dX11_addMember_168 ?_
                  refine kv_iconst (v := 3) X dX11_addMember_171 (by decide) ?_
                  refine kv_iload_n X 3 dX11_addMember_172 rfl rfl ?_
                  refine kv_imul X dX11_addMember_173 ?_
                  refine kv_topi (nI (3 * j14)) (pk_mul 3 j14) ?_
                  refine kv_aload_n X 2 dX11_addMember_174 rfl rfl ?_
                  refine km_get X 7 (v := .ref (ad 7)) f_X11_addMember_22 rfl dX11_addMember_175 ?_
                  refine kv_iload_n X 3 dX11_addMember_178 rfl rfl ?_
                  refine km_iald X 7 (j := j14) (by decide) (by decide) rfl (by show _ < _; simp only [mLen]; omega) (by decide) dX11_addMember_179 ?_
                  have e179 := (hmn j14 (by omega)).2
                  refine kv_topi (nI (mn j14)) (hmn j14 (by omega)).1 ?_
                  refine kv_iadd X dX11_addMember_180 ?_
                  refine kv_topi (nI ((3 * j14) + (mn j14))) (nI_add (3 * j14) (mn j14)) ?_
                  refine kv_iload_n X 4 dX11_addMember_181 rfl rfl ?_
                  refine km_iast X 8 (j := (3 * j14) + (mn j14)) (x := (nI j22)) (by decide) (by decide) rfl (by show _ < _; simp only [mLen]; have := (hmn j14 (by omega)).2; omega) (by decide) dX11_addMember_182 ?_
                  refine kv_aload_n X 2 dX11_addMember_183 rfl rfl ?_
                  refine km_get X 9 (v := .ref (ad 9)) f_X11_addMember_28 rfl dX11_addMember_184 ?_
                  refine kv_iconst (v := 3) X dX11_addMember_187 (by decide) ?_
                  refine kv_iload_n X 3 dX11_addMember_188 rfl rfl ?_
                  refine kv_imul X dX11_addMember_189 ?_
                  refine kv_topi (nI (3 * j14)) (pk_mul 3 j14) ?_
                  refine kv_aload_n X 2 dX11_addMember_190 rfl rfl ?_
                  refine km_get X 7 (v := .ref (ad 7)) f_X11_addMember_22 rfl dX11_addMember_191 ?_
                  refine kv_iload_n X 3 dX11_addMember_194 rfl rfl ?_
                  refine km_iald X 7 (j := j14) (by decide) (by decide) rfl (by show _ < _; simp only [mLen]; omega) (by decide) dX11_addMember_195 ?_
                  have e195 := (hmn j14 (by omega)).2
                  refine kv_topi (nI (mn j14)) (hmn j14 (by omega)).1 ?_
                  refine kv_iadd X dX11_addMember_196 ?_
                  refine kv_topi (nI ((3 * j14) + (mn j14))) (nI_add (3 * j14) (mn j14)) ?_
                  refine kv_iload_n X 5 dX11_addMember_197 rfl rfl ?_
                  refine km_iast X 9 (j := (3 * j14) + (mn j14)) (x := q) (by decide) (by decide) rfl (by show _ < _; simp only [mLen]; have := (hmn j14 (by omega)).2; omega) (by decide) dX11_addMember_198 ?_
                  refine kv_aload_n X 2 dX11_addMember_199 rfl rfl ?_
                  refine km_get X 7 (v := .ref (ad 7)) f_X11_addMember_22 rfl dX11_addMember_200 ?_
                  refine kv_iload_n X 3 dX11_addMember_203 rfl rfl ?_
                  refine kv_dup2_11 X dX11_addMember_204 rfl rfl ?_
                  refine km_iald X 7 (j := j14) (by decide) (by decide) rfl (by show _ < _; simp only [mLen]; omega) (by decide) dX11_addMember_205 ?_
                  have e205 := (hmn j14 (by omega)).2
                  refine kv_topi (nI (mn j14)) (hmn j14 (by omega)).1 ?_
                  refine kv_iconst (v := 1) X dX11_addMember_206 (by decide) ?_
                  refine kv_iadd X dX11_addMember_207 ?_
                  refine kv_topi (nI ((mn j14) + 1)) (nI_add (mn j14) 1) ?_
                  refine km_iast X 7 (j := j14) (x := (nI ((mn j14) + 1))) (by decide) (by decide) rfl (by show _ < _; simp only [mLen]; omega) (by decide) dX11_addMember_208 ?_
                  refine kv_aload_n X 2 dX11_addMember_209 rfl rfl ?_
                  refine km_get X 7 (v := .ref (ad 7)) f_X11_addMember_22 rfl dX11_addMember_210 ?_
                  refine kv_iload_n X 3 dX11_addMember_213 rfl rfl ?_
                  refine km_iald X 7 (j := j14) (by decide) (by decide) rfl (by show _ < _; simp only [mLen]; omega) (by decide) dX11_addMember_214 ?_
                  refine kv_topi (nI ((mn j14) + 1)) pk_us ?_
                  exact kv_ireturn X hr (by decide) (by decide) ⟨((va_up M.1 0 0), (va_up (va_up (va_up M.2.1 8 (upd (M.2.1 8) ((3 * j14) + (mn j14)) (nI j22))) 9 (upd (M.2.1 9) ((3 * j14) + (mn j14)) q)) 7 (upd (M.2.1 7) j14 (nI ((mn j14) + 1)))), M.2.2), Or.inr (Or.inr ⟨j14, j22, ⟨h14, h22, rfl, rfl, h45⟩, Or.inr (Or.inr ⟨hc70, fun q => q.elim (fun y => his (by rw [show i = mn j14 by omega]; exact y)) hc150, rfl, rfl⟩)⟩), rfl⟩ dX11_addMember_215
                ·
                  refine kv_iconst (v := 1) X dX11_addMember_153 (by decide) ?_
                  refine kv_goto (tgt := 158) X dX11_addMember_154 (by decide) ?_
                  refine kv_iconst (v := 4) X dX11_addMember_158 (by decide) ?_
                  refine kv_calliV (ci := 14) (κ := 0) (r1 := (TX11, 34)) (As := [.int 1, .int 4]) [] X (c_X11_fails1 l dd ad ((va_up M.1 0 0), M.2.1, M.2.2) 4 (by decide) rfl) hl0 (kCV_of X 2 gX11_addMember_X11_fails rfl rfl rfl (by decide +kernel) hRR ⟨Nat.le_of_ble_eq_true rfl, Nat.le_of_ble_eq_true rfl⟩) (by decide) rfl rfl rfl rfl (Nat.le_of_ble_eq_true rfl) hRR ⟨Nat.le_of_ble_eq_true rfl, Nat.le_of_ble_eq_true rfl⟩ dX11_addMember_159 (fun r z hp => ?_)
                  obtain ⟨rfl, rfl⟩ := hp
                  refine kv_if_eq (tgt := 167) X dX11_addMember_162 (by decide) (fun hc => absurd hc (by decide)) (fun hc162 => ?_)
                  refine kv_iconst (v := 0) X dX11_addMember_165 (by decide) ?_
                  exact kv_ireturn X hr (by decide) (by decide) ⟨((va_up (va_up M.1 0 0) 0 4), M.2.1, M.2.2), Or.inr (Or.inr ⟨j14, j22, ⟨h14, h22, rfl, rfl, h45⟩, Or.inr (Or.inl ⟨hc70, by first | exact Or.inl (by rw [show mn j14 = i by omega]; exact his) | exact Or.inr hc150, rfl, rfl⟩)⟩), rfl⟩ dX11_addMember_166
            | succ n ih93 =>
              intro i hin93 is his
              refine kv_iload X 0 dX11_addMember_93 rfl ?_
              refine kv_aload_n X 2 dX11_addMember_95 rfl rfl ?_
              refine km_get X 7 (v := .ref (ad 7)) f_X11_addMember_22 rfl dX11_addMember_96 ?_
              refine kv_iload_n X 3 dX11_addMember_99 rfl rfl ?_
              refine km_iald X 7 (j := j14) (by decide) (by decide) rfl (by show _ < _; simp only [mLen]; omega) (by decide) dX11_addMember_100 ?_
              have e100 := (hmn j14 (by omega)).2
              refine kv_topi (nI (mn j14)) (hmn j14 (by omega)).1 ?_
              refine kn_icmp_ge (x := i) (y := mn j14) (tgt := 137) X (by omega) (by omega) dX11_addMember_101 (by decide) (fun hc101 => absurd hc101 (by omega)) (fun hc101 => ?_)
              rcases his with ⟨rfl, his⟩ | ⟨rfl, his⟩
              ·
                refine kv_iload X 1 dX11_addMember_104 rfl ?_
                refine kv_if_ne (tgt := 124) X dX11_addMember_106 (by decide) (fun hc106 => ?_) (fun hc => absurd hc (by decide))
                refine kv_iconst (v := 1) X dX11_addMember_124 (by decide) ?_
                refine kv_goto (tgt := 129) X dX11_addMember_125 (by decide) ?_
                refine kv_istore (lv2 := [(4, .int 1), (5, .int (nI i)), (0, .ref (ad 0)), (1, .int (nI j14)), (2, .int (nI j22)), (3, .int q)]) X dX11_addMember_129 (by rw [hnL]; decide) rfl ?_
                refine kv_iinc (j := 1) (v := (nI (i + 1))) (lv2 := [(5, .int (nI (i + 1))), (4, .int 1), (0, .ref (ad 0)), (1, .int (nI j14)), (2, .int (nI j22)), (3, .int q)]) X dX11_addMember_131 rfl (nI_add i 1) (by rw [hnL]; decide) rfl ?_
                refine kv_goto (tgt := 93) X dX11_addMember_134 (by decide) ?_
                exact kv_lv [0, 1, 2, 3, 4, 5] rfl (ih93 (i + 1) (by omega) 1 (Or.inl ⟨rfl, mhas_s.mpr (by first | exact Or.inl his | exact Or.inr hc121)⟩))
              ·
                refine kv_iload X 1 dX11_addMember_104 rfl ?_
                refine kv_if_ne (tgt := 124) X dX11_addMember_106 (by decide) (fun hc => absurd hc (by decide)) (fun hc106 => ?_)
                refine kv_aload_n X 2 dX11_addMember_109 rfl rfl ?_
                refine km_get X 8 (v := .ref (ad 8)) f_X11_addMember_25 rfl dX11_addMember_110 ?_
                refine kv_iconst (v := 3) X dX11_addMember_113 (by decide) ?_
                refine kv_iload_n X 3 dX11_addMember_114 rfl rfl ?_
                refine kv_imul X dX11_addMember_115 ?_
                refine kv_topi (nI (3 * j14)) (pk_mul 3 j14) ?_
                refine kv_iload X 0 dX11_addMember_116 rfl ?_
                refine kv_iadd X dX11_addMember_118 ?_
                refine kv_topi (nI ((3 * j14) + i)) (nI_add (3 * j14) i) ?_
                refine km_iald X 8 (j := (3 * j14) + i) (by decide) (by decide) rfl (by show _ < _; simp only [mLen]; have := (hmn j14 (by omega)).2; omega) (by decide) dX11_addMember_119 ?_
                refine kv_topi ((M.2.1 8) ((3 * j14) + i)) rfl ?_
                refine kv_iload_n X 4 dX11_addMember_120 rfl rfl ?_
                refine kv_icmp_ne (tgt := 128) X dX11_addMember_121 (by decide) (fun hc121 => ?_) (fun hc121 => ?_)
                ·
                  refine kv_iconst (v := 0) X dX11_addMember_128 (by decide) ?_
                  refine kv_istore (lv2 := [(4, .int 0), (5, .int (nI i)), (0, .ref (ad 0)), (1, .int (nI j14)), (2, .int (nI j22)), (3, .int q)]) X dX11_addMember_129 (by rw [hnL]; decide) rfl ?_
                  refine kv_iinc (j := 1) (v := (nI (i + 1))) (lv2 := [(5, .int (nI (i + 1))), (4, .int 0), (0, .ref (ad 0)), (1, .int (nI j14)), (2, .int (nI j22)), (3, .int q)]) X dX11_addMember_131 rfl (nI_add i 1) (by rw [hnL]; decide) rfl ?_
                  refine kv_goto (tgt := 93) X dX11_addMember_134 (by decide) ?_
                  exact kv_lv [0, 1, 2, 3, 4, 5] rfl (ih93 (i + 1) (by omega) 0 (Or.inr ⟨rfl, fun q => (mhas_s.mp q).elim his hc121⟩))
                ·
                  refine kv_iconst (v := 1) X dX11_addMember_124 (by decide) ?_
                  refine kv_goto (tgt := 129) X dX11_addMember_125 (by decide) ?_
                  refine kv_istore (lv2 := [(4, .int 1), (5, .int (nI i)), (0, .ref (ad 0)), (1, .int (nI j14)), (2, .int (nI j22)), (3, .int q)]) X dX11_addMember_129 (by rw [hnL]; decide) rfl ?_
                  refine kv_iinc (j := 1) (v := (nI (i + 1))) (lv2 := [(5, .int (nI (i + 1))), (4, .int 1), (0, .ref (ad 0)), (1, .int (nI j14)), (2, .int (nI j22)), (3, .int q)]) X dX11_addMember_131 rfl (nI_add i 1) (by rw [hnL]; decide) rfl ?_
                  refine kv_goto (tgt := 93) X dX11_addMember_134 (by decide) ?_
                  exact kv_lv [0, 1, 2, 3, 4, 5] rfl (ih93 (i + 1) (by omega) 1 (Or.inl ⟨rfl, mhas_s.mpr (by first | exact Or.inl his | exact Or.inr hc121)⟩))
          exact kv_lv [0, 1, 2, 3, 4, 5] rfl (L93 (mn j14) 0 (by omega) 0 (Or.inr ⟨rfl, fun ⟨y, hy, _⟩ => absurd hy (by omega)⟩))
        ·
          refine kv_iconst (v := 1) X dX11_addMember_73 (by decide) ?_
          refine kv_goto (tgt := 78) X dX11_addMember_74 (by decide) ?_
          refine kv_iconst (v := 3) X dX11_addMember_78 (by decide) ?_
          refine kv_calliV (ci := 14) (κ := 0) (r1 := (TX11, 34)) (As := [.int 1, .int 3]) [] X (c_X11_fails1 l dd ad ((va_up M.1 0 0), M.2.1, M.2.2) 3 (by decide) rfl) hl0 (kCV_of X 2 gX11_addMember_X11_fails rfl rfl rfl (by decide +kernel) hRR ⟨Nat.le_of_ble_eq_true rfl, Nat.le_of_ble_eq_true rfl⟩) (by decide) rfl rfl rfl rfl (Nat.le_of_ble_eq_true rfl) hRR ⟨Nat.le_of_ble_eq_true rfl, Nat.le_of_ble_eq_true rfl⟩ dX11_addMember_79 (fun r z hp => ?_)
          obtain ⟨rfl, rfl⟩ := hp
          refine kv_if_eq (tgt := 87) X dX11_addMember_82 (by decide) (fun hc => absurd hc (by decide)) (fun hc82 => ?_)
          refine kv_iconst (v := 0) X dX11_addMember_85 (by decide) ?_
          exact kv_ireturn X hr (by decide) (by decide) ⟨((va_up (va_up M.1 0 0) 0 3), M.2.1, M.2.2), Or.inr (Or.inr ⟨j14, j22, ⟨h14, h22, rfl, rfl, h45⟩, Or.inl ⟨hc70, rfl, rfl⟩⟩), rfl⟩ dX11_addMember_86
      ·
        refine kv_if_ne (tgt := 55) X dX11_addMember_48 (by decide) (fun hc => absurd hc (by decide)) (fun hc48 => ?_)
        refine kv_iconst (v := 1) X dX11_addMember_51 (by decide) ?_
        refine kv_goto (tgt := 56) X dX11_addMember_52 (by decide) ?_
        refine kv_iconst (v := 2) X dX11_addMember_56 (by decide) ?_
        refine kv_calliV (ci := 14) (κ := 0) (r1 := (TX11, 34)) (As := [.int 1, .int 2]) [] X (c_X11_fails1 l dd ad ((va_up M.1 0 0), M.2.1, M.2.2) 2 (by decide) rfl) hl0 (kCV_of X 2 gX11_addMember_X11_fails rfl rfl rfl (by decide +kernel) hRR ⟨Nat.le_of_ble_eq_true rfl, Nat.le_of_ble_eq_true rfl⟩) (by decide) rfl rfl rfl rfl (Nat.le_of_ble_eq_true rfl) hRR ⟨Nat.le_of_ble_eq_true rfl, Nat.le_of_ble_eq_true rfl⟩ dX11_addMember_57 (fun r z hp => ?_)
        obtain ⟨rfl, rfl⟩ := hp
        refine kv_if_ne (tgt := 85) X dX11_addMember_60 (by decide) (fun hc60 => ?_) (fun hc => absurd hc (by decide))
        refine kv_iconst (v := 0) X dX11_addMember_85 (by decide) ?_
        exact kv_ireturn X hr (by decide) (by decide) ⟨((va_up (va_up M.1 0 0) 0 2), M.2.1, M.2.2), Or.inr (Or.inl ⟨⟨⟨j14, h14, rfl⟩, ⟨j22, h22, rfl⟩⟩, h45, rfl, rfl⟩), rfl⟩ dX11_addMember_86
  ·
    have h14 := fun q => o14 ((k_rng (by omega)).mpr q)
    refine kv_if_eq (tgt := 28) X dX11_addMember_17 (by decide) (fun hc17 => ?_) (fun hc => absurd hc (by decide))
    refine kv_iconst (v := 1) X dX11_addMember_28 (by decide) ?_
    refine kv_goto (tgt := 33) X dX11_addMember_29 (by decide) ?_
    refine kv_iconst (v := 1) X dX11_addMember_33 (by decide) ?_
    refine kv_calliV (ci := 14) (κ := 0) (r1 := (TX11, 34)) (As := [.int 1, .int 1]) [] X (c_X11_fails1 l dd ad ((va_up M.1 0 0), M.2.1, M.2.2) 1 (by decide) rfl) hl0 (kCV_of X 2 gX11_addMember_X11_fails rfl rfl rfl (by decide +kernel) hRR ⟨Nat.le_of_ble_eq_true rfl, Nat.le_of_ble_eq_true rfl⟩) (by decide) rfl rfl rfl rfl (Nat.le_of_ble_eq_true rfl) hRR ⟨Nat.le_of_ble_eq_true rfl, Nat.le_of_ble_eq_true rfl⟩ dX11_addMember_34 (fun r z hp => ?_)
    obtain ⟨rfl, rfl⟩ := hp
    refine kv_if_ne (tgt := 85) X dX11_addMember_37 (by decide) (fun hc37 => ?_) (fun hc => absurd hc (by decide))
    refine kv_iconst (v := 0) X dX11_addMember_85 (by decide) ?_
    exact kv_ireturn X hr (by decide) (by decide) ⟨((va_up (va_up M.1 0 0) 0 1), M.2.1, M.2.2), Or.inl ⟨fun y => by first | exact absurd y.1 h14 | exact absurd y.2 h22, rfl, rfl⟩, rfl⟩ dX11_addMember_86
theorem fp_X11_addPart_86 : kFp wsX11_addPart RX11 86 14 0 .int false := ⟨_, RX11, TX11, 34, tyX11, fun _ h => (List.mem_cons_of_mem _ (List.mem_append_left _ (List.mem_append_right _ h))), tyX11_ok, nmX11, (List.mem_cons_of_mem _ (List.mem_append_left _ (List.mem_append_left _ (List.mem_append_left _ (List.mem_of_getElem? (i := 0) rfl))))), rfl, by decide, rfl, rfl, by decide +kernel, rfl⟩
theorem f_X11_addPart_34 : kF wsX11_addPart RX11 34 14 12 := ⟨_, RX11, TX11, 34, fun _ h => (List.mem_cons_of_mem _ (List.mem_append_left _ (List.mem_append_right _ h))), (List.mem_cons_of_mem _ (List.mem_append_left _ (List.mem_append_left _ (List.mem_append_left _ (List.mem_of_getElem? (i := 1) rfl))))), rfl, by decide, rfl⟩
theorem f_X11_addPart_74 : kF wsX11_addPart RX11 74 14 30 := ⟨_, RX11, TX11, 34, fun _ h => (List.mem_cons_of_mem _ (List.mem_append_left _ (List.mem_append_right _ h))), (List.mem_cons_of_mem _ (List.mem_append_left _ (List.mem_append_left _ (List.mem_append_left _ (List.mem_of_getElem? (i := 2) rfl))))), rfl, by decide, rfl⟩
set_option maxRecDepth 100000 in
set_option maxHeartbeats 4000000 in
theorem c_X11_addPart (l : Launch) (dd : kDD) (ad : Nat → Nat) (M : mS) (v : Int32) (x : Int32) (q : Int32) (nt : Nat) (hT : M.1 10 = nI nt ∧ nt ≤ 12) (nV : Nat) (hV : M.1 21 = nI nV ∧ nV ≤ 4) (cn : Nat → Nat) (hcn : ∀ i, i < 12 → M.2.1 12 i = nI (cn i) ∧ cn i ≤ 4) (nm : Nat → Nat) (hnm : ∀ k, k < 48 → M.2.1 14 k = nI (nm k) ∧ nm k < 12) (mi : Nat → Nat) (hmi : ∀ j, j < 12 → mnt (M.1 24) (M.2.1 22) j nV 0 = nI (mi j) ∧ mi j < 12) : kCi l yX11_addPart wsX11_addPart ({ frames := 3, cells := 0, slots := 0, locals := 68 } : Room) 0 0 dd [.ref (ad 0), .int v, .int x, .int q] (mK, ad, mE dd ad M) (kQi (S := mS) (fun r z => (¬ ((∃ j, j < nt ∧ v = nI j) ∧ (∃ j, j < nt ∧ x = nI j)) ∧ mT M 1 = z ∧ r = 0) ∨ (((∃ j, j < nt ∧ v = nI j) ∧ (∃ j, j < nt ∧ x = nI j)) ∧ ¬ (1 ≤ q ∧ q ≤ 9) ∧ mT M 2 = z ∧ r = 0) ∨ ∃ j, ∃ j2, (j < nt ∧ j2 < nt ∧ v = nI j ∧ x = nI j2 ∧ (1 ≤ q ∧ q ≤ 9)) ∧ ((cn j = 4 ∧ mT M 3 = z ∧ r = 0) ∨ ∃ X, (cn j < 4 ∧ ¬ (∀ k, k < nt → mD (upd (M.2.1 13) (4 * j + cn j) 0) (va_up cn j (cn j + 1)) (fun k => mi ((va_up nm (4 * j + cn j) j2) k)) nt (M.2.1 30) 3 k ≤ 3) ∧ (va_up (va_up M.1 0 0) 0 4, va_up (va_up (va_up (va_up (va_up (va_up M.2.1 13 (upd (M.2.1 13) (4 * j + cn j) 0)) 14 (upd (M.2.1 14) (4 * j + cn j) (nI j2))) 15 (upd (M.2.1 15) (4 * j + cn j) q)) 12 (upd (M.2.1 12) j (nI (cn j + 1)))) 30 (mD (upd (M.2.1 13) (4 * j + cn j) 0) (va_up cn j (cn j + 1)) (fun k => mi ((va_up nm (4 * j + cn j) j2) k)) nt (M.2.1 30) 3)) 12 (upd (upd (M.2.1 12) j (nI (cn j + 1))) j (nI (cn j))), va_up M.2.2 33 X) = z ∧ r = 0) ∨ (cn j < 4 ∧ (∀ k, k < nt → mD (upd (M.2.1 13) (4 * j + cn j) 0) (va_up cn j (cn j + 1)) (fun k => mi ((va_up nm (4 * j + cn j) j2) k)) nt (M.2.1 30) 3 k ≤ 3) ∧ (va_up M.1 0 0, va_up (va_up (va_up (va_up (va_up M.2.1 13 (upd (M.2.1 13) (4 * j + cn j) 0)) 14 (upd (M.2.1 14) (4 * j + cn j) (nI j2))) 15 (upd (M.2.1 15) (4 * j + cn j) q)) 12 (upd (M.2.1 12) j (nI (cn j + 1)))) 30 (mD (upd (M.2.1 13) (4 * j + cn j) 0) (va_up cn j (cn j + 1)) (fun k => mi ((va_up nm (4 * j + cn j) j2) k)) nt (M.2.1 30) 3), va_up M.2.2 33 X) = z ∧ r = mD (upd (M.2.1 13) (4 * j + cn j) 0) (va_up cn j (cn j + 1)) (fun k => mi ((va_up nm (4 * j + cn j) j2) k)) nt (M.2.1 30) 3 j))) (fun _ => mK) (fun _ => ad) (fun z => mE dd ad z)) := by
  refine kMeti (ws' := _) (cc := cX11_addPart) (maxL := 4) (rt := .int) (by decide) rfl (Nat.le_of_ble_eq_true rfl) (fun g X hr hnL hRR hl0 hkn => ?_)
  show kv dd g 0 0 0 [(0, .ref (ad 0)), (1, .int v), (2, .int x), (3, .int q)] [] mK ad (mE dd ad M)
  refine kv_aload_n X 0 dX11_addPart_0 rfl rfl ?_
  refine kv_iconst (v := 0) X dX11_addPart_1 (by decide) ?_
  refine km_put X 0 (x := 0) fp_X11_addPart_86 (by decide) dX11_addPart_2 ?_
  refine kv_aload_n X 0 dX11_addPart_5 rfl rfl ?_
  refine kv_aload_n X 0 dX11_addPart_6 rfl rfl ?_
  refine kv_iload_n X 1 dX11_addPart_7 rfl rfl ?_
  refine kv_calliV (ci := 14) (κ := 0) (r1 := (TX11, 34)) (As := [.int v]) [.ref (ad 0)] X (c_X11_noItem l dd ad ((va_up M.1 0 0), M.2.1, M.2.2) v nt hT.2 hT.1) hl0 (kCV_of X 1 gX11_addPart_X11_noItem rfl rfl rfl (by decide +kernel) hRR ⟨Nat.le_of_ble_eq_true rfl, Nat.le_of_ble_eq_true rfl⟩) (by decide) rfl rfl rfl rfl (Nat.le_of_ble_eq_true rfl) hRR ⟨Nat.le_of_ble_eq_true rfl, Nat.le_of_ble_eq_true rfl⟩ dX11_addPart_8 (fun r z hp => ?_)
  obtain ⟨rfl, ⟨rfl, h8⟩ | ⟨rfl, j8, h8, rfl⟩⟩ := hp
  ·
    refine kv_if_ne (tgt := 22) X dX11_addPart_11 (by decide) (fun hc11 => ?_) (fun hc => absurd hc (by decide))
    refine kv_iconst (v := 1) X dX11_addPart_22 (by decide) ?_
    refine kv_goto (tgt := 27) X dX11_addPart_23 (by decide) ?_
    refine kv_iconst (v := 1) X dX11_addPart_27 (by decide) ?_
    refine kv_calliV (ci := 14) (κ := 0) (r1 := (TX11, 34)) (As := [.int 1, .int 1]) [] X (c_X11_fails1 l dd ad ((va_up M.1 0 0), M.2.1, M.2.2) 1 (by decide) rfl) hl0 (kCV_of X 2 gX11_addPart_X11_fails rfl rfl rfl (by decide +kernel) hRR ⟨Nat.le_of_ble_eq_true rfl, Nat.le_of_ble_eq_true rfl⟩) (by decide) rfl rfl rfl rfl (Nat.le_of_ble_eq_true rfl) hRR ⟨Nat.le_of_ble_eq_true rfl, Nat.le_of_ble_eq_true rfl⟩ dX11_addPart_28 (fun r z hp => ?_)
    obtain ⟨rfl, rfl⟩ := hp
    refine kv_if_ne (tgt := 80) X dX11_addPart_31 (by decide) (fun hc31 => ?_) (fun hc => absurd hc (by decide))
    refine kv_iconst (v := 0) X dX11_addPart_80 (by decide) ?_
    exact kv_ireturn X hr (by decide) (by decide) ⟨((va_up (va_up M.1 0 0) 0 1), M.2.1, M.2.2), Or.inl ⟨fun y => by first | exact absurd y.1 h8 | exact absurd y.2 h16, rfl, rfl⟩, rfl⟩ dX11_addPart_81
  ·
    refine kv_if_ne (tgt := 22) X dX11_addPart_11 (by decide) (fun hc => absurd hc (by decide)) (fun hc11 => ?_)
    refine kv_aload_n X 0 dX11_addPart_14 rfl rfl ?_
    refine kv_iload_n X 2 dX11_addPart_15 rfl rfl ?_
    refine kv_calliV (ci := 14) (κ := 0) (r1 := (TX11, 34)) (As := [.int x]) [.ref (ad 0)] X (c_X11_noItem l dd ad ((va_up M.1 0 0), M.2.1, M.2.2) x nt hT.2 hT.1) hl0 (kCV_of X 1 gX11_addPart_X11_noItem rfl rfl rfl (by decide +kernel) hRR ⟨Nat.le_of_ble_eq_true rfl, Nat.le_of_ble_eq_true rfl⟩) (by decide) rfl rfl rfl rfl (Nat.le_of_ble_eq_true rfl) hRR ⟨Nat.le_of_ble_eq_true rfl, Nat.le_of_ble_eq_true rfl⟩ dX11_addPart_16 (fun r z hp => ?_)
    obtain ⟨rfl, ⟨rfl, h16⟩ | ⟨rfl, j16, h16, rfl⟩⟩ := hp
    ·
      refine kv_if_eq (tgt := 26) X dX11_addPart_19 (by decide) (fun hc => absurd hc (by decide)) (fun hc19 => ?_)
      refine kv_iconst (v := 1) X dX11_addPart_22 (by decide) ?_
      refine kv_goto (tgt := 27) X dX11_addPart_23 (by decide) ?_
      refine kv_iconst (v := 1) X dX11_addPart_27 (by decide) ?_
      refine kv_calliV (ci := 14) (κ := 0) (r1 := (TX11, 34)) (As := [.int 1, .int 1]) [] X (c_X11_fails1 l dd ad ((va_up M.1 0 0), M.2.1, M.2.2) 1 (by decide) rfl) hl0 (kCV_of X 2 gX11_addPart_X11_fails rfl rfl rfl (by decide +kernel) hRR ⟨Nat.le_of_ble_eq_true rfl, Nat.le_of_ble_eq_true rfl⟩) (by decide) rfl rfl rfl rfl (Nat.le_of_ble_eq_true rfl) hRR ⟨Nat.le_of_ble_eq_true rfl, Nat.le_of_ble_eq_true rfl⟩ dX11_addPart_28 (fun r z hp => ?_)
      obtain ⟨rfl, rfl⟩ := hp
      refine kv_if_ne (tgt := 80) X dX11_addPart_31 (by decide) (fun hc31 => ?_) (fun hc => absurd hc (by decide))
      refine kv_iconst (v := 0) X dX11_addPart_80 (by decide) ?_
      exact kv_ireturn X hr (by decide) (by decide) ⟨((va_up (va_up M.1 0 0) 0 1), M.2.1, M.2.2), Or.inl ⟨fun y => by first | exact absurd y.1 h8 | exact absurd y.2 h16, rfl, rfl⟩, rfl⟩ dX11_addPart_81
    ·
      refine kv_if_eq (tgt := 26) X dX11_addPart_19 (by decide) (fun hc19 => ?_) (fun hc => absurd hc (by decide))
      refine kv_iconst (v := 0) X dX11_addPart_26 (by decide) ?_
      refine kv_iconst (v := 1) X dX11_addPart_27 (by decide) ?_
      refine kv_calliV (ci := 14) (κ := 0) (r1 := (TX11, 34)) (As := [.int 0, .int 1]) [] X (c_X11_fails0 l dd ad ((va_up M.1 0 0), M.2.1, M.2.2) 1 rfl) hl0 (kCV_of X 2 gX11_addPart_X11_fails rfl rfl rfl (by decide +kernel) hRR ⟨Nat.le_of_ble_eq_true rfl, Nat.le_of_ble_eq_true rfl⟩) (by decide) rfl rfl rfl rfl (Nat.le_of_ble_eq_true rfl) hRR ⟨Nat.le_of_ble_eq_true rfl, Nat.le_of_ble_eq_true rfl⟩ dX11_addPart_28 (fun r z hp => ?_)
      obtain ⟨rfl, rfl⟩ := hp
      refine kv_if_ne (tgt := 80) X dX11_addPart_31 (by decide) (fun hc => absurd hc (by decide)) (fun hc31 => ?_)
      refine kv_aload_n X 0 dX11_addPart_34 rfl rfl ?_
      refine kv_iload_n X 3 dX11_addPart_35 rfl rfl ?_
      refine kv_iconst (v := 1) X dX11_addPart_36 (by decide) ?_
      refine kv_bipush (v := 9) X dX11_addPart_37 (by decide) ?_
      refine kv_calliS (As := [.int q, .int 1, .int 9]) [.ref (ad 0)] X (c_X11_in l dd ad ((va_up M.1 0 0), M.2.1, M.2.2) q 1 9) hl0 (kCS_of X 3 gX11_addPart_X11_in rfl rfl rfl (by decide +kernel) hRR ⟨Nat.le_of_ble_eq_true rfl, Nat.le_of_ble_eq_true rfl⟩) rfl rfl (Nat.le_of_ble_eq_true rfl) hRR ⟨Nat.le_of_ble_eq_true rfl, Nat.le_of_ble_eq_true rfl⟩ dX11_addPart_39 (fun r z hp => ?_)
      obtain ⟨rfl, ⟨rfl, h39⟩ | ⟨rfl, h39⟩⟩ := hp
      ·
        refine kv_if_ne (tgt := 49) X dX11_addPart_42 (by decide) (fun hc42 => ?_) (fun hc => absurd hc (by decide))
        refine kv_iconst (v := 0) X dX11_addPart_49 (by decide) ?_
        refine kv_iconst (v := 2) X dX11_addPart_50 (by decide) ?_
        refine kv_calliV (ci := 14) (κ := 0) (r1 := (TX11, 34)) (As := [.int 0, .int 2]) [] X (c_X11_fails0 l dd ad ((va_up M.1 0 0), M.2.1, M.2.2) 2 rfl) hl0 (kCV_of X 2 gX11_addPart_X11_fails rfl rfl rfl (by decide +kernel) hRR ⟨Nat.le_of_ble_eq_true rfl, Nat.le_of_ble_eq_true rfl⟩) (by decide) rfl rfl rfl rfl (Nat.le_of_ble_eq_true rfl) hRR ⟨Nat.le_of_ble_eq_true rfl, Nat.le_of_ble_eq_true rfl⟩ dX11_addPart_51 (fun r z hp => ?_)
        obtain ⟨rfl, rfl⟩ := hp
        refine kv_if_ne (tgt := 80) X dX11_addPart_54 (by decide) (fun hc => absurd hc (by decide)) (fun hc54 => ?_)
        refine kv_aload_n X 0 dX11_addPart_57 rfl rfl ?_
        refine kv_aload_n X 0 dX11_addPart_58 rfl rfl ?_
        refine km_get X 12 (v := .ref (ad 12)) f_X11_addPart_34 rfl dX11_addPart_59 ?_
        refine kv_iload_n X 1 dX11_addPart_62 rfl rfl ?_
        refine km_iald X 12 (j := j8) (by decide) (by decide) rfl (by show _ < _; simp only [mLen]; omega) (by decide) dX11_addPart_63 ?_
        have e63 := (hcn j8 (by omega)).2
        refine kv_topi (nI (cn j8)) (hcn j8 (by omega)).1 ?_
        refine kv_iconst (v := 4) X dX11_addPart_64 (by decide) ?_
        refine kn_icmp_ne (x := cn j8) (y := 4) (tgt := 72) X (by omega) (by omega) dX11_addPart_65 (by decide) (fun hc65 => ?_) (fun hc65 => ?_)
        ·
          refine kv_iconst (v := 0) X dX11_addPart_72 (by decide) ?_
          refine kv_iconst (v := 3) X dX11_addPart_73 (by decide) ?_
          refine kv_calliV (ci := 14) (κ := 0) (r1 := (TX11, 34)) (As := [.int 0, .int 3]) [] X (c_X11_fails0 l dd ad ((va_up M.1 0 0), M.2.1, M.2.2) 3 rfl) hl0 (kCV_of X 2 gX11_addPart_X11_fails rfl rfl rfl (by decide +kernel) hRR ⟨Nat.le_of_ble_eq_true rfl, Nat.le_of_ble_eq_true rfl⟩) (by decide) rfl rfl rfl rfl (Nat.le_of_ble_eq_true rfl) hRR ⟨Nat.le_of_ble_eq_true rfl, Nat.le_of_ble_eq_true rfl⟩ dX11_addPart_74 (fun r z hp => ?_)
          obtain ⟨rfl, rfl⟩ := hp
          refine kv_if_eq (tgt := 82) X dX11_addPart_77 (by decide) (fun hc77 => ?_) (fun hc => absurd hc (by decide))
          refine kv_aload_n X 0 dX11_addPart_82 rfl rfl ?_
          refine kv_iload_n X 1 dX11_addPart_83 rfl rfl ?_
          refine kv_iconst (v := 0) X dX11_addPart_84 (by decide) ?_
          refine kv_iload_n X 2 dX11_addPart_85 rfl rfl ?_
          refine kv_iload_n X 3 dX11_addPart_86 rfl rfl ?_
          refine kv_callvV (ci := 14) (κ := 0) (r1 := (TX11, 34)) (As := [.int (nI j8), .int 0, .int (nI j16), .int q]) [] X (c_X11_add l dd ad ((va_up M.1 0 0), M.2.1, M.2.2) j8 0 (nI j16) q (by omega) cn hcn (by have := (hcn j8 (by omega)).2; omega)) hl0 (kCV_of X 4 gX11_addPart_X11_add rfl rfl rfl (by decide +kernel) hRR ⟨Nat.le_of_ble_eq_true rfl, Nat.le_of_ble_eq_true rfl⟩) (by decide) rfl rfl rfl rfl (Nat.le_of_ble_eq_true rfl) hRR ⟨Nat.le_of_ble_eq_true rfl, Nat.le_of_ble_eq_true rfl⟩ dX11_addPart_87 (fun z hp => ?_)
          obtain rfl := hp
          refine kv_aload_n X 0 dX11_addPart_90 rfl rfl ?_
          refine kv_aload_n X 0 dX11_addPart_91 rfl rfl ?_
          refine kv_calliV (ci := 14) (κ := 0) (r1 := (TX11, 34)) (As := []) [.ref (ad 0)] X (c_X11_isAllowed l dd ad ((va_up M.1 0 0), (va_up (va_up (va_up (va_up M.2.1 13 (upd (M.2.1 13) (4 * j8 + cn j8) 0)) 14 (upd (M.2.1 14) (4 * j8 + cn j8) (nI j16))) 15 (upd (M.2.1 15) (4 * j8 + cn j8) q)) 12 (upd (M.2.1 12) j8 (nI (cn j8 + 1)))), M.2.2) nt hT nV hV (va_up cn j8 (cn j8 + 1)) (k_upc hcn (by have := (hcn j8 (by omega)).2; omega)) (va_up nm (4 * j8 + cn j8) j16) (k_upn hnm (by omega)) mi hmi) hl0 (kCV_of X 0 gX11_addPart_X11_isAllowed rfl rfl rfl (by decide +kernel) hRR ⟨Nat.le_of_ble_eq_true rfl, Nat.le_of_ble_eq_true rfl⟩) (by decide) rfl rfl rfl rfl (Nat.le_of_ble_eq_true rfl) hRR ⟨Nat.le_of_ble_eq_true rfl, Nat.le_of_ble_eq_true rfl⟩ dX11_addPart_92 (fun r z hp => ?_)
          obtain ⟨X92, rfl, ⟨rfl, h92⟩ | ⟨rfl, h92⟩⟩ := hp
          ·
            refine kv_if_ne (tgt := 102) X dX11_addPart_95 (by decide) (fun hc95 => ?_) (fun hc => absurd hc (by decide))
            refine kv_iconst (v := 0) X dX11_addPart_102 (by decide) ?_
            refine kv_iconst (v := 4) X dX11_addPart_103 (by decide) ?_
            refine kv_calliV (ci := 14) (κ := 0) (r1 := (TX11, 34)) (As := [.int 0, .int 4]) [] X (c_X11_fails0 l dd ad ((va_up M.1 0 0), (va_up (va_up (va_up (va_up (va_up M.2.1 13 (upd (M.2.1 13) (4 * j8 + cn j8) 0)) 14 (upd (M.2.1 14) (4 * j8 + cn j8) (nI j16))) 15 (upd (M.2.1 15) (4 * j8 + cn j8) q)) 12 (upd (M.2.1 12) j8 (nI (cn j8 + 1)))) 30 (mD (upd (M.2.1 13) (4 * j8 + cn j8) 0) (va_up cn j8 (cn j8 + 1)) (fun k => mi ((va_up nm (4 * j8 + cn j8) j16) k)) nt (M.2.1 30) 3)), (va_up M.2.2 33 X92)) 4 rfl) hl0 (kCV_of X 2 gX11_addPart_X11_fails rfl rfl rfl (by decide +kernel) hRR ⟨Nat.le_of_ble_eq_true rfl, Nat.le_of_ble_eq_true rfl⟩) (by decide) rfl rfl rfl rfl (Nat.le_of_ble_eq_true rfl) hRR ⟨Nat.le_of_ble_eq_true rfl, Nat.le_of_ble_eq_true rfl⟩ dX11_addPart_104 (fun r z hp => ?_)
            obtain ⟨rfl, rfl⟩ := hp
            refine kv_if_eq (tgt := 122) X dX11_addPart_107 (by decide) (fun hc107 => ?_) (fun hc => absurd hc (by decide))
            refine kv_aload_n X 0 dX11_addPart_122 rfl rfl ?_
            refine km_get X 30 (v := .ref (ad 30)) f_X11_addPart_74 rfl dX11_addPart_123 ?_
            refine kv_iload_n X 1 dX11_addPart_126 rfl rfl ?_
            refine km_iald X 30 (j := j8) (by decide) (by decide) rfl (by show _ < _; simp only [mLen]; omega) (by decide) dX11_addPart_127 ?_
            refine kv_topi ((mD (upd (M.2.1 13) (4 * j8 + cn j8) 0) (va_up cn j8 (cn j8 + 1)) (fun k => mi ((va_up nm (4 * j8 + cn j8) j16) k)) nt (M.2.1 30) 3) j8) rfl ?_
            exact kv_ireturn X hr (by decide) (by decide) ⟨((va_up M.1 0 0), (va_up (va_up (va_up (va_up (va_up M.2.1 13 (upd (M.2.1 13) (4 * j8 + cn j8) 0)) 14 (upd (M.2.1 14) (4 * j8 + cn j8) (nI j16))) 15 (upd (M.2.1 15) (4 * j8 + cn j8) q)) 12 (upd (M.2.1 12) j8 (nI (cn j8 + 1)))) 30 (mD (upd (M.2.1 13) (4 * j8 + cn j8) 0) (va_up cn j8 (cn j8 + 1)) (fun k => mi ((va_up nm (4 * j8 + cn j8) j16) k)) nt (M.2.1 30) 3)), (va_up M.2.2 33 X92)), Or.inr (Or.inr ⟨j8, j16, ⟨h8, h16, rfl, rfl, h39⟩, Or.inr ⟨X92, Or.inr ⟨by have := (hcn j8 (by omega)).2; omega, h92, rfl, rfl⟩⟩⟩), rfl⟩ dX11_addPart_128
          ·
            refine kv_if_ne (tgt := 102) X dX11_addPart_95 (by decide) (fun hc => absurd hc (by decide)) (fun hc95 => ?_)
            refine kv_iconst (v := 1) X dX11_addPart_98 (by decide) ?_
            refine kv_goto (tgt := 103) X dX11_addPart_99 (by decide) ?_
            refine kv_iconst (v := 4) X dX11_addPart_103 (by decide) ?_
            refine kv_calliV (ci := 14) (κ := 0) (r1 := (TX11, 34)) (As := [.int 1, .int 4]) [] X (c_X11_fails1 l dd ad ((va_up M.1 0 0), (va_up (va_up (va_up (va_up (va_up M.2.1 13 (upd (M.2.1 13) (4 * j8 + cn j8) 0)) 14 (upd (M.2.1 14) (4 * j8 + cn j8) (nI j16))) 15 (upd (M.2.1 15) (4 * j8 + cn j8) q)) 12 (upd (M.2.1 12) j8 (nI (cn j8 + 1)))) 30 (mD (upd (M.2.1 13) (4 * j8 + cn j8) 0) (va_up cn j8 (cn j8 + 1)) (fun k => mi ((va_up nm (4 * j8 + cn j8) j16) k)) nt (M.2.1 30) 3)), (va_up M.2.2 33 X92)) 4 (by decide) rfl) hl0 (kCV_of X 2 gX11_addPart_X11_fails rfl rfl rfl (by decide +kernel) hRR ⟨Nat.le_of_ble_eq_true rfl, Nat.le_of_ble_eq_true rfl⟩) (by decide) rfl rfl rfl rfl (Nat.le_of_ble_eq_true rfl) hRR ⟨Nat.le_of_ble_eq_true rfl, Nat.le_of_ble_eq_true rfl⟩ dX11_addPart_104 (fun r z hp => ?_)
            obtain ⟨rfl, rfl⟩ := hp
            refine kv_if_eq (tgt := 122) X dX11_addPart_107 (by decide) (fun hc => absurd hc (by decide)) (fun hc107 => ?_)
            refine kv_aload_n X 0 dX11_addPart_110 rfl rfl ?_
            refine km_get X 12 (v := .ref (ad 12)) f_X11_addPart_34 rfl dX11_addPart_111 ?_
            refine kv_iload_n X 1 dX11_addPart_114 rfl rfl ?_
            refine kv_dup2_11 X dX11_addPart_115 rfl rfl ?_
            refine km_iald X 12 (j := j8) (by decide) (by decide) rfl (by show _ < _; simp only [mLen]; omega) (by decide) dX11_addPart_116 ?_
            refine kv_topi (nI (cn j8 + 1)) pk_us ?_
            refine kv_iconst (v := 1) X dX11_addPart_117 (by decide) ?_
            refine kv_isub X dX11_addPart_118 ?_
            refine kv_topi (nI (cn j8)) (nI_pred _) ?_
            refine km_iast X 12 (j := j8) (x := (nI (cn j8))) (by decide) (by decide) rfl (by show _ < _; simp only [mLen]; omega) (by decide) dX11_addPart_119 ?_
            refine kv_iconst (v := 0) X dX11_addPart_120 (by decide) ?_
            exact kv_ireturn X hr (by decide) (by decide) ⟨((va_up (va_up M.1 0 0) 0 4), (va_up (va_up (va_up (va_up (va_up (va_up M.2.1 13 (upd (M.2.1 13) (4 * j8 + cn j8) 0)) 14 (upd (M.2.1 14) (4 * j8 + cn j8) (nI j16))) 15 (upd (M.2.1 15) (4 * j8 + cn j8) q)) 12 (upd (M.2.1 12) j8 (nI (cn j8 + 1)))) 30 (mD (upd (M.2.1 13) (4 * j8 + cn j8) 0) (va_up cn j8 (cn j8 + 1)) (fun k => mi ((va_up nm (4 * j8 + cn j8) j16) k)) nt (M.2.1 30) 3)) 12 (upd (upd (M.2.1 12) j8 (nI (cn j8 + 1))) j8 (nI (cn j8)))), (va_up M.2.2 33 X92)), Or.inr (Or.inr ⟨j8, j16, ⟨h8, h16, rfl, rfl, h39⟩, Or.inr ⟨X92, Or.inl ⟨by have := (hcn j8 (by omega)).2; omega, h92, rfl, rfl⟩⟩⟩), rfl⟩ dX11_addPart_121
        ·
          refine kv_iconst (v := 1) X dX11_addPart_68 (by decide) ?_
          refine kv_goto (tgt := 73) X dX11_addPart_69 (by decide) ?_
          refine kv_iconst (v := 3) X dX11_addPart_73 (by decide) ?_
          refine kv_calliV (ci := 14) (κ := 0) (r1 := (TX11, 34)) (As := [.int 1, .int 3]) [] X (c_X11_fails1 l dd ad ((va_up M.1 0 0), M.2.1, M.2.2) 3 (by decide) rfl) hl0 (kCV_of X 2 gX11_addPart_X11_fails rfl rfl rfl (by decide +kernel) hRR ⟨Nat.le_of_ble_eq_true rfl, Nat.le_of_ble_eq_true rfl⟩) (by decide) rfl rfl rfl rfl (Nat.le_of_ble_eq_true rfl) hRR ⟨Nat.le_of_ble_eq_true rfl, Nat.le_of_ble_eq_true rfl⟩ dX11_addPart_74 (fun r z hp => ?_)
          obtain ⟨rfl, rfl⟩ := hp
          refine kv_if_eq (tgt := 82) X dX11_addPart_77 (by decide) (fun hc => absurd hc (by decide)) (fun hc77 => ?_)
          refine kv_iconst (v := 0) X dX11_addPart_80 (by decide) ?_
          exact kv_ireturn X hr (by decide) (by decide) ⟨((va_up (va_up M.1 0 0) 0 3), M.2.1, M.2.2), Or.inr (Or.inr ⟨j8, j16, ⟨h8, h16, rfl, rfl, h39⟩, Or.inl ⟨hc65, rfl, rfl⟩⟩), rfl⟩ dX11_addPart_81
      ·
        refine kv_if_ne (tgt := 49) X dX11_addPart_42 (by decide) (fun hc => absurd hc (by decide)) (fun hc42 => ?_)
        refine kv_iconst (v := 1) X dX11_addPart_45 (by decide) ?_
        refine kv_goto (tgt := 50) X dX11_addPart_46 (by decide) ?_
        refine kv_iconst (v := 2) X dX11_addPart_50 (by decide) ?_
        refine kv_calliV (ci := 14) (κ := 0) (r1 := (TX11, 34)) (As := [.int 1, .int 2]) [] X (c_X11_fails1 l dd ad ((va_up M.1 0 0), M.2.1, M.2.2) 2 (by decide) rfl) hl0 (kCV_of X 2 gX11_addPart_X11_fails rfl rfl rfl (by decide +kernel) hRR ⟨Nat.le_of_ble_eq_true rfl, Nat.le_of_ble_eq_true rfl⟩) (by decide) rfl rfl rfl rfl (Nat.le_of_ble_eq_true rfl) hRR ⟨Nat.le_of_ble_eq_true rfl, Nat.le_of_ble_eq_true rfl⟩ dX11_addPart_51 (fun r z hp => ?_)
        obtain ⟨rfl, rfl⟩ := hp
        refine kv_if_ne (tgt := 80) X dX11_addPart_54 (by decide) (fun hc54 => ?_) (fun hc => absurd hc (by decide))
        refine kv_iconst (v := 0) X dX11_addPart_80 (by decide) ?_
        exact kv_ireturn X hr (by decide) (by decide) ⟨((va_up (va_up M.1 0 0) 0 2), M.2.1, M.2.2), Or.inr (Or.inl ⟨⟨⟨j8, h8, rfl⟩, ⟨j16, h16, rfl⟩⟩, h39, rfl, rfl⟩), rfl⟩ dX11_addPart_81
theorem fp_X11_addRow_86 : kFp wsX11_addRow RX11 86 14 0 .int false := ⟨_, RX11, TX11, 34, tyX11, fun _ h => (List.mem_cons_of_mem _ (List.mem_append_left _ (List.mem_append_right _ h))), tyX11_ok, nmX11, (List.mem_cons_of_mem _ (List.mem_append_left _ (List.mem_append_left _ (List.mem_of_getElem? (i := 0) rfl)))), rfl, by decide, rfl, rfl, by decide +kernel, rfl⟩
theorem f_X11_addRow_152 : kF wsX11_addRow RX11 152 14 18 := ⟨_, RX11, TX11, 34, fun _ h => (List.mem_cons_of_mem _ (List.mem_append_left _ (List.mem_append_right _ h))), (List.mem_cons_of_mem _ (List.mem_append_left _ (List.mem_append_left _ (List.mem_of_getElem? (i := 1) rfl)))), rfl, by decide, rfl⟩
theorem f_X11_addRow_49 : kF wsX11_addRow RX11 49 14 19 := ⟨_, RX11, TX11, 34, fun _ h => (List.mem_cons_of_mem _ (List.mem_append_left _ (List.mem_append_right _ h))), (List.mem_cons_of_mem _ (List.mem_append_left _ (List.mem_append_left _ (List.mem_of_getElem? (i := 2) rfl)))), rfl, by decide, rfl⟩
theorem f_X11_addRow_52 : kF wsX11_addRow RX11 52 14 20 := ⟨_, RX11, TX11, 34, fun _ h => (List.mem_cons_of_mem _ (List.mem_append_left _ (List.mem_append_right _ h))), (List.mem_cons_of_mem _ (List.mem_append_left _ (List.mem_append_left _ (List.mem_of_getElem? (i := 3) rfl)))), rfl, by decide, rfl⟩
theorem fp_X11_addRow_152 : kFp wsX11_addRow RX11 152 14 18 .int false := ⟨_, RX11, TX11, 34, tyX11, fun _ h => (List.mem_cons_of_mem _ (List.mem_append_left _ (List.mem_append_right _ h))), tyX11_ok, nmX11, (List.mem_cons_of_mem _ (List.mem_append_left _ (List.mem_append_left _ (List.mem_of_getElem? (i := 1) rfl)))), rfl, by decide, rfl, rfl, by decide +kernel, rfl⟩
set_option maxRecDepth 100000 in
set_option maxHeartbeats 4000000 in
theorem c_X11_addRow (l : Launch) (dd : kDD) (ad : Nat → Nat) (M : mS) (v : Int32) (s : Int32) (t : Int32) (a : Int32) (b : Int32) (c : Int32) (nL : Nat) (hL : M.1 16 = nI nL ∧ nL ≤ 10) (nW : Nat) (hW : M.1 18 = nI nW ∧ nW ≤ 40) : kCi l yX11_addRow wsX11_addRow ({ frames := 2, cells := 0, slots := 0, locals := 43 } : Room) 0 0 dd [.ref (ad 0), .int v, .int s, .int t, .int a, .int b, .int c] (mK, ad, mE dd ad M) (kQi (S := mS) (fun r z => (¬ (∃ j, j < nL ∧ v = nI j) ∧ mT M 1 = z ∧ r = 0) ∨ ((∃ j, j < nL ∧ v = nI j) ∧ ¬ ((s = 110 ∨ s = 108 ∨ s = 114 ∨ s = 116 ∨ s = 112 ∨ s = 118) ∧ (-9 ≤ t ∧ t ≤ 99) ∧ ¬ t = 0 ∧ (0 ≤ a ∧ a ≤ 99) ∧ (0 ≤ b ∧ b ≤ 99) ∧ 0 ≤ c ∧ c ≤ 99) ∧ mT M 2 = z ∧ r = 0) ∨ ∃ j, (j < nL ∧ v = nI j ∧ ((s = 110 ∨ s = 108 ∨ s = 114 ∨ s = 116 ∨ s = 112 ∨ s = 118) ∧ (-9 ≤ t ∧ t ≤ 99) ∧ ¬ t = 0 ∧ (0 ≤ a ∧ a ≤ 99) ∧ (0 ≤ b ∧ b ≤ 99) ∧ 0 ≤ c ∧ c ≤ 99)) ∧ ((nW = 40 ∧ mT M 3 = z ∧ r = 0) ∨ (nW < 40 ∧ ¬ (0 ≤ mq (M.2.1 19) (M.2.1 20) (nI j) nW + t * msh s a b c ∧ mq (M.2.1 19) (M.2.1 20) (nI j) nW + t * msh s a b c ≤ 10000) ∧ mT M 4 = z ∧ r = 0) ∨ (nW < 40 ∧ (0 ≤ mq (M.2.1 19) (M.2.1 20) (nI j) nW + t * msh s a b c ∧ mq (M.2.1 19) (M.2.1 20) (nI j) nW + t * msh s a b c ≤ 10000) ∧ (va_up (va_up M.1 0 0) 18 (nI (nW + 1)), va_up (va_up M.2.1 19 (upd (M.2.1 19) nW (nI j))) 20 (upd (M.2.1 20) nW (t * msh s a b c)), M.2.2) = z ∧ r = mq (upd (M.2.1 19) nW (nI j)) (upd (M.2.1 20) nW (t * msh s a b c)) (nI j) (nW + 1)))) (fun _ => mK) (fun _ => ad) (fun z => mE dd ad z)) := by
  refine kMeti (ws' := _) (cc := cX11_addRow) (maxL := 10) (rt := .int) (by decide) rfl (Nat.le_of_ble_eq_true rfl) (fun g X hr hnL hRR hl0 hkn => ?_)
  show kv dd g 0 0 0 [(0, .ref (ad 0)), (1, .int v), (2, .int s), (3, .int t), (4, .int a), (5, .int b), (6, .int c)] [] mK ad (mE dd ad M)
  refine kv_aload_n X 0 dX11_addRow_0 rfl rfl ?_
  refine kv_iconst (v := 0) X dX11_addRow_1 (by decide) ?_
  refine km_put X 0 (x := 0) fp_X11_addRow_86 (by decide) dX11_addRow_2 ?_
  have C106 : ∀ (is : Int32) (hi : (is = 1 ∧ ((s = 110 ∨ s = 108 ∨ s = 114 ∨ s = 116 ∨ s = 112 ∨ s = 118) ∧ (-9 ≤ t ∧ t ≤ 99) ∧ ¬ t = 0 ∧ (0 ≤ a ∧ a ≤ 99) ∧ (0 ≤ b ∧ b ≤ 99) ∧ 0 ≤ c ∧ c ≤ 99)) ∨ (is = 0 ∧ ¬ ((s = 110 ∨ s = 108 ∨ s = 114 ∨ s = 116 ∨ s = 112 ∨ s = 118) ∧ (-9 ≤ t ∧ t ≤ 99) ∧ ¬ t = 0 ∧ (0 ≤ a ∧ a ≤ 99) ∧ (0 ≤ b ∧ b ≤ 99) ∧ 0 ≤ c ∧ c ≤ 99))), kv dd g 0 0 106 [(0, .ref (ad 0)), (1, .int v), (2, .int s), (3, .int t), (4, .int a), (5, .int b), (6, .int c)] [.int is] mK ad (mE dd ad ((va_up M.1 0 0), M.2.1, M.2.2)) := by
    intro is hi
    rcases hi with ⟨rfl, hi⟩ | ⟨rfl, hi⟩
    ·
      refine kv_istore (lv2 := [(8, .int 1), (0, .ref (ad 0)), (1, .int v), (2, .int s), (3, .int t), (4, .int a), (5, .int b), (6, .int c)]) X dX11_addRow_106 (by rw [hnL]; decide) rfl ?_
      refine kv_aload_n X 1 dX11_addRow_108 rfl rfl ?_
      refine kv_aload_n X 1 dX11_addRow_109 rfl rfl ?_
      refine kv_iload_n X 2 dX11_addRow_110 rfl rfl ?_
      refine kv_calliV (ci := 14) (κ := 0) (r1 := (TX11, 34)) (As := [.int v]) [.ref (ad 0)] X (c_X11_noLine l dd ad ((va_up M.1 0 0), M.2.1, M.2.2) v nL hL.2 hL.1) hl0 (kCV_of X 1 gX11_addRow_X11_noLine rfl rfl rfl (by decide +kernel) hRR ⟨Nat.le_of_ble_eq_true rfl, Nat.le_of_ble_eq_true rfl⟩) (by decide) rfl rfl rfl rfl (Nat.le_of_ble_eq_true rfl) hRR ⟨Nat.le_of_ble_eq_true rfl, Nat.le_of_ble_eq_true rfl⟩ dX11_addRow_111 (fun r z hp => ?_)
      obtain ⟨rfl, ⟨rfl, h111⟩ | ⟨rfl, j111, h111, rfl⟩⟩ := hp
      ·
        refine kv_iconst (v := 1) X dX11_addRow_114 (by decide) ?_
        refine kv_calliV (ci := 14) (κ := 0) (r1 := (TX11, 34)) (As := [.int 1, .int 1]) [] X (c_X11_fails1 l dd ad ((va_up M.1 0 0), M.2.1, M.2.2) 1 (by decide) rfl) hl0 (kCV_of X 2 gX11_addRow_X11_fails rfl rfl rfl (by decide +kernel) hRR ⟨Nat.le_of_ble_eq_true rfl, Nat.le_of_ble_eq_true rfl⟩) (by decide) rfl rfl rfl rfl (Nat.le_of_ble_eq_true rfl) hRR ⟨Nat.le_of_ble_eq_true rfl, Nat.le_of_ble_eq_true rfl⟩ dX11_addRow_115 (fun r z hp => ?_)
        obtain ⟨rfl, rfl⟩ := hp
        refine kv_if_ne (tgt := 161) X dX11_addRow_118 (by decide) (fun hc118 => ?_) (fun hc => absurd hc (by decide))
        refine kv_iconst (v := 0) X dX11_addRow_161 (by decide) ?_
        exact kv_ireturn X hr (by decide) (by decide) ⟨((va_up (va_up M.1 0 0) 0 1), M.2.1, M.2.2), Or.inl ⟨h111, rfl, rfl⟩, rfl⟩ dX11_addRow_162
      ·
        refine kv_iconst (v := 1) X dX11_addRow_114 (by decide) ?_
        refine kv_calliV (ci := 14) (κ := 0) (r1 := (TX11, 34)) (As := [.int 0, .int 1]) [] X (c_X11_fails0 l dd ad ((va_up M.1 0 0), M.2.1, M.2.2) 1 rfl) hl0 (kCV_of X 2 gX11_addRow_X11_fails rfl rfl rfl (by decide +kernel) hRR ⟨Nat.le_of_ble_eq_true rfl, Nat.le_of_ble_eq_true rfl⟩) (by decide) rfl rfl rfl rfl (Nat.le_of_ble_eq_true rfl) hRR ⟨Nat.le_of_ble_eq_true rfl, Nat.le_of_ble_eq_true rfl⟩ dX11_addRow_115 (fun r z hp => ?_)
        obtain ⟨rfl, rfl⟩ := hp
        refine kv_if_ne (tgt := 161) X dX11_addRow_118 (by decide) (fun hc => absurd hc (by decide)) (fun hc118 => ?_)
        refine kv_aload_n X 1 dX11_addRow_121 rfl rfl ?_
        refine kv_iload X 0 dX11_addRow_122 rfl ?_
        refine kv_if_ne (tgt := 131) X dX11_addRow_124 (by decide) (fun hc124 => ?_) (fun hc => absurd hc (by decide))
        refine kv_iconst (v := 0) X dX11_addRow_131 (by decide) ?_
        refine kv_iconst (v := 2) X dX11_addRow_132 (by decide) ?_
        refine kv_calliV (ci := 14) (κ := 0) (r1 := (TX11, 34)) (As := [.int 0, .int 2]) [] X (c_X11_fails0 l dd ad ((va_up M.1 0 0), M.2.1, M.2.2) 2 rfl) hl0 (kCV_of X 2 gX11_addRow_X11_fails rfl rfl rfl (by decide +kernel) hRR ⟨Nat.le_of_ble_eq_true rfl, Nat.le_of_ble_eq_true rfl⟩) (by decide) rfl rfl rfl rfl (Nat.le_of_ble_eq_true rfl) hRR ⟨Nat.le_of_ble_eq_true rfl, Nat.le_of_ble_eq_true rfl⟩ dX11_addRow_133 (fun r z hp => ?_)
        obtain ⟨rfl, rfl⟩ := hp
        refine kv_if_ne (tgt := 161) X dX11_addRow_136 (by decide) (fun hc => absurd hc (by decide)) (fun hc136 => ?_)
        refine kv_aload_n X 1 dX11_addRow_139 rfl rfl ?_
        refine kv_aload_n X 1 dX11_addRow_140 rfl rfl ?_
        refine km_get X 18 (v := .int (M.1 18)) f_X11_addRow_152 rfl dX11_addRow_141 ?_
        refine kv_topi (nI nW) hW.1 ?_
        refine kv_bipush (v := 40) X dX11_addRow_144 (by decide) ?_
        refine kn_icmp_ne (x := nW) (y := 40) (tgt := 153) X (by omega) (by omega) dX11_addRow_146 (by decide) (fun hc146 => ?_) (fun hc146 => ?_)
        ·
          refine kv_iconst (v := 0) X dX11_addRow_153 (by decide) ?_
          refine kv_iconst (v := 3) X dX11_addRow_154 (by decide) ?_
          refine kv_calliV (ci := 14) (κ := 0) (r1 := (TX11, 34)) (As := [.int 0, .int 3]) [] X (c_X11_fails0 l dd ad ((va_up M.1 0 0), M.2.1, M.2.2) 3 rfl) hl0 (kCV_of X 2 gX11_addRow_X11_fails rfl rfl rfl (by decide +kernel) hRR ⟨Nat.le_of_ble_eq_true rfl, Nat.le_of_ble_eq_true rfl⟩) (by decide) rfl rfl rfl rfl (Nat.le_of_ble_eq_true rfl) hRR ⟨Nat.le_of_ble_eq_true rfl, Nat.le_of_ble_eq_true rfl⟩ dX11_addRow_155 (fun r z hp => ?_)
          obtain ⟨rfl, rfl⟩ := hp
          refine kv_if_eq (tgt := 163) X dX11_addRow_158 (by decide) (fun hc158 => ?_) (fun hc => absurd hc (by decide))
          have C238 : kv dd g 0 0 238 [(0, .ref (ad 0)), (1, .int (nI j111)), (2, .int s), (3, .int t), (4, .int a), (5, .int b), (6, .int c)] [.int (msh s a b c)] mK ad (mE dd ad ((va_up M.1 0 0), M.2.1, M.2.2)) := by
            refine kv_istore (lv2 := [(9, .int (msh s a b c)), (0, .ref (ad 0)), (1, .int (nI j111)), (2, .int s), (3, .int t), (4, .int a), (5, .int b), (6, .int c)]) X dX11_addRow_238 (by rw [hnL]; decide) rfl ?_
            refine kv_aload_n X 1 dX11_addRow_240 rfl rfl ?_
            refine kv_aload_n X 1 dX11_addRow_241 rfl rfl ?_
            refine kv_iload_n X 2 dX11_addRow_242 rfl rfl ?_
            refine kv_calliV (ci := 14) (κ := 0) (r1 := (TX11, 34)) (As := [.int (nI j111)]) [.ref (ad 0)] X (c_X11_quantityOf l dd ad ((va_up M.1 0 0), M.2.1, M.2.2) (nI j111) nW hW) hl0 (kCV_of X 1 gX11_addRow_X11_quantityOf rfl rfl rfl (by decide +kernel) hRR ⟨Nat.le_of_ble_eq_true rfl, Nat.le_of_ble_eq_true rfl⟩) (by decide) rfl rfl rfl rfl (Nat.le_of_ble_eq_true rfl) hRR ⟨Nat.le_of_ble_eq_true rfl, Nat.le_of_ble_eq_true rfl⟩ dX11_addRow_243 (fun r z hp => ?_)
            obtain ⟨rfl, rfl⟩ := hp
            refine kv_iload_n X 4 dX11_addRow_246 rfl rfl ?_
            refine kv_iload X 0 dX11_addRow_247 rfl ?_
            refine kv_imul X dX11_addRow_249 ?_
            refine kv_iadd X dX11_addRow_250 ?_
            refine kv_iconst (v := 0) X dX11_addRow_251 (by decide) ?_
            refine kv_sipush (v := 10000) X dX11_addRow_252 (by decide) ?_
            refine kv_calliS (As := [.int ((mq (M.2.1 19) (M.2.1 20) (nI j111) nW) + (t * (msh s a b c))), .int 0, .int 10000]) [.ref (ad 0)] X (c_X11_in l dd ad ((va_up M.1 0 0), M.2.1, M.2.2) ((mq (M.2.1 19) (M.2.1 20) (nI j111) nW) + (t * (msh s a b c))) 0 10000) hl0 (kCS_of X 3 gX11_addRow_X11_in rfl rfl rfl (by decide +kernel) hRR ⟨Nat.le_of_ble_eq_true rfl, Nat.le_of_ble_eq_true rfl⟩) rfl rfl (Nat.le_of_ble_eq_true rfl) hRR ⟨Nat.le_of_ble_eq_true rfl, Nat.le_of_ble_eq_true rfl⟩ dX11_addRow_255 (fun r z hp => ?_)
            obtain ⟨rfl, ⟨rfl, h255⟩ | ⟨rfl, h255⟩⟩ := hp
            ·
              refine kv_if_ne (tgt := 265) X dX11_addRow_258 (by decide) (fun hc258 => ?_) (fun hc => absurd hc (by decide))
              refine kv_iconst (v := 0) X dX11_addRow_265 (by decide) ?_
              refine kv_iconst (v := 4) X dX11_addRow_266 (by decide) ?_
              refine kv_calliV (ci := 14) (κ := 0) (r1 := (TX11, 34)) (As := [.int 0, .int 4]) [] X (c_X11_fails0 l dd ad ((va_up M.1 0 0), M.2.1, M.2.2) 4 rfl) hl0 (kCV_of X 2 gX11_addRow_X11_fails rfl rfl rfl (by decide +kernel) hRR ⟨Nat.le_of_ble_eq_true rfl, Nat.le_of_ble_eq_true rfl⟩) (by decide) rfl rfl rfl rfl (Nat.le_of_ble_eq_true rfl) hRR ⟨Nat.le_of_ble_eq_true rfl, Nat.le_of_ble_eq_true rfl⟩ dX11_addRow_267 (fun r z hp => ?_)
              obtain ⟨rfl, rfl⟩ := hp
              refine kv_if_eq (tgt := 275) X dX11_addRow_270 (by decide) (fun hc270 => ?_) (fun hc => absurd hc (by decide))
              refine kv_aload_n X 1 dX11_addRow_275 rfl rfl ?_
              refine km_get X 19 (v := .ref (ad 19)) f_X11_addRow_49 rfl dX11_addRow_276 ?_
              refine kv_aload_n X 1 dX11_addRow_279 rfl rfl ?_
              refine km_get X 18 (v := .int (M.1 18)) f_X11_addRow_152 rfl dX11_addRow_280 ?_
              refine kv_topi (nI nW) hW.1 ?_
              refine kv_iload_n X 2 dX11_addRow_283 rfl rfl ?_
              refine km_iast X 19 (j := nW) (x := (nI j111)) (by decide) (by decide) rfl (by show _ < _; simp only [mLen]; omega) (by decide) dX11_addRow_284 ?_
              refine kv_aload_n X 1 dX11_addRow_285 rfl rfl ?_
              refine km_get X 20 (v := .ref (ad 20)) f_X11_addRow_52 rfl dX11_addRow_286 ?_
              refine kv_aload_n X 1 dX11_addRow_289 rfl rfl ?_
              refine km_get X 18 (v := .int (M.1 18)) f_X11_addRow_152 rfl dX11_addRow_290 ?_
              refine kv_topi (nI nW) hW.1 ?_
              refine kv_iload_n X 4 dX11_addRow_293 rfl rfl ?_
              refine kv_iload X 0 dX11_addRow_294 rfl ?_
              refine kv_imul X dX11_addRow_296 ?_
              refine km_iast X 20 (j := nW) (x := (t * (msh s a b c))) (by decide) (by decide) rfl (by show _ < _; simp only [mLen]; omega) (by decide) dX11_addRow_297 ?_
              refine kv_aload_n X 1 dX11_addRow_298 rfl rfl ?_
              refine kv_dup X dX11_addRow_299 rfl ?_
              refine km_get X 18 (v := .int (M.1 18)) f_X11_addRow_152 rfl dX11_addRow_300 ?_
              refine kv_topi (nI nW) hW.1 ?_
              refine kv_iconst (v := 1) X dX11_addRow_303 (by decide) ?_
              refine kv_iadd X dX11_addRow_304 ?_
              refine kv_topi (nI (nW + 1)) (nI_add nW 1) ?_
              refine km_put X 18 (x := (nI (nW + 1))) fp_X11_addRow_152 (by decide) dX11_addRow_305 ?_
              refine kv_aload_n X 1 dX11_addRow_308 rfl rfl ?_
              refine kv_iload_n X 2 dX11_addRow_309 rfl rfl ?_
              refine kv_calliV (ci := 14) (κ := 0) (r1 := (TX11, 34)) (As := [.int (nI j111)]) [] X (c_X11_quantityOf l dd ad ((va_up (va_up M.1 0 0) 18 (nI (nW + 1))), (va_up (va_up M.2.1 19 (upd (M.2.1 19) nW (nI j111))) 20 (upd (M.2.1 20) nW (t * (msh s a b c)))), M.2.2) (nI j111) (nW + 1) ⟨rfl, by omega⟩) hl0 (kCV_of X 1 gX11_addRow_X11_quantityOf rfl rfl rfl (by decide +kernel) hRR ⟨Nat.le_of_ble_eq_true rfl, Nat.le_of_ble_eq_true rfl⟩) (by decide) rfl rfl rfl rfl (Nat.le_of_ble_eq_true rfl) hRR ⟨Nat.le_of_ble_eq_true rfl, Nat.le_of_ble_eq_true rfl⟩ dX11_addRow_310 (fun r z hp => ?_)
              obtain ⟨rfl, rfl⟩ := hp
              exact kv_ireturn X hr (by decide) (by decide) ⟨((va_up (va_up M.1 0 0) 18 (nI (nW + 1))), (va_up (va_up M.2.1 19 (upd (M.2.1 19) nW (nI j111))) 20 (upd (M.2.1 20) nW (t * (msh s a b c)))), M.2.2), Or.inr (Or.inr ⟨j111, ⟨h111, rfl, hi⟩, Or.inr (Or.inr ⟨by omega, h255, rfl, rfl⟩)⟩), rfl⟩ dX11_addRow_313
            ·
              refine kv_if_ne (tgt := 265) X dX11_addRow_258 (by decide) (fun hc => absurd hc (by decide)) (fun hc258 => ?_)
              refine kv_iconst (v := 1) X dX11_addRow_261 (by decide) ?_
              refine kv_goto (tgt := 266) X dX11_addRow_262 (by decide) ?_
              refine kv_iconst (v := 4) X dX11_addRow_266 (by decide) ?_
              refine kv_calliV (ci := 14) (κ := 0) (r1 := (TX11, 34)) (As := [.int 1, .int 4]) [] X (c_X11_fails1 l dd ad ((va_up M.1 0 0), M.2.1, M.2.2) 4 (by decide) rfl) hl0 (kCV_of X 2 gX11_addRow_X11_fails rfl rfl rfl (by decide +kernel) hRR ⟨Nat.le_of_ble_eq_true rfl, Nat.le_of_ble_eq_true rfl⟩) (by decide) rfl rfl rfl rfl (Nat.le_of_ble_eq_true rfl) hRR ⟨Nat.le_of_ble_eq_true rfl, Nat.le_of_ble_eq_true rfl⟩ dX11_addRow_267 (fun r z hp => ?_)
              obtain ⟨rfl, rfl⟩ := hp
              refine kv_if_eq (tgt := 275) X dX11_addRow_270 (by decide) (fun hc => absurd hc (by decide)) (fun hc270 => ?_)
              refine kv_iconst (v := 0) X dX11_addRow_273 (by decide) ?_
              exact kv_ireturn X hr (by decide) (by decide) ⟨((va_up (va_up M.1 0 0) 0 4), M.2.1, M.2.2), Or.inr (Or.inr ⟨j111, ⟨h111, rfl, hi⟩, Or.inr (Or.inl ⟨by omega, h255, rfl, rfl⟩)⟩), rfl⟩ dX11_addRow_274
          refine kv_iload_n X 3 dX11_addRow_163 rfl rfl ?_
          refine kv_bipush (v := 110) X dX11_addRow_164 (by decide) ?_
          refine kv_icmp_ne (tgt := 173) X dX11_addRow_166 (by decide) (fun hc166 => ?_) (fun hc166 => ?_)
          ·
            refine kv_iload_n X 3 dX11_addRow_173 rfl rfl ?_
            refine kv_bipush (v := 108) X dX11_addRow_174 (by decide) ?_
            refine kv_icmp_ne (tgt := 184) X dX11_addRow_176 (by decide) (fun hc176 => ?_) (fun hc176 => ?_)
            ·
              refine kv_iload_n X 3 dX11_addRow_184 rfl rfl ?_
              refine kv_bipush (v := 114) X dX11_addRow_185 (by decide) ?_
              refine kv_icmp_ne (tgt := 198) X dX11_addRow_187 (by decide) (fun hc187 => ?_) (fun hc187 => ?_)
              ·
                refine kv_iload_n X 3 dX11_addRow_198 rfl rfl ?_
                refine kv_bipush (v := 116) X dX11_addRow_199 (by decide) ?_
                refine kv_icmp_ne (tgt := 214) X dX11_addRow_201 (by decide) (fun hc201 => ?_) (fun hc201 => ?_)
                ·
                  refine kv_iload_n X 3 dX11_addRow_214 rfl rfl ?_
                  refine kv_bipush (v := 112) X dX11_addRow_215 (by decide) ?_
                  refine kv_icmp_ne (tgt := 230) X dX11_addRow_217 (by decide) (fun hc217 => ?_) (fun hc217 => ?_)
                  ·
                    refine kv_iload X 5 dX11_addRow_230 rfl ?_
                    refine kv_iload X 6 dX11_addRow_232 rfl ?_
                    refine kv_imul X dX11_addRow_234 ?_
                    refine kv_iload X 7 dX11_addRow_235 rfl ?_
                    refine kv_imul X dX11_addRow_237 ?_
                    refine kv_topi (msh s a b c) (by show ((a * b) * c) = _; rw [msh]; first | (rw [if_pos hc166]; done) | (rw [if_neg hc166, if_pos hc176]; done) | (rw [if_neg hc166, if_neg hc176, if_pos hc187]; done) | (rw [if_neg hc166, if_neg hc176, if_neg hc187, if_pos hc201]; done) | (rw [if_neg hc166, if_neg hc176, if_neg hc187, if_neg hc201, if_pos hc217]; done) | (rw [if_neg hc166, if_neg hc176, if_neg hc187, if_neg hc201, if_neg hc217]; done)) ?_
                    exact kv_lv [1, 2, 3, 4, 5, 6, 7] rfl C238
                  ·
                    refine kv_iconst (v := 2) X dX11_addRow_220 (by decide) ?_
                    refine kv_iload X 5 dX11_addRow_221 rfl ?_
                    refine kv_iload X 6 dX11_addRow_223 rfl ?_
                    refine kv_iadd X dX11_addRow_225 ?_
                    refine kv_imul X dX11_addRow_226 ?_
                    refine kv_goto (tgt := 238) X dX11_addRow_227 (by decide) ?_
                    refine kv_topi (msh s a b c) (by show (2 * (a + b)) = _; rw [msh]; first | (rw [if_pos hc166]; done) | (rw [if_neg hc166, if_pos hc176]; done) | (rw [if_neg hc166, if_neg hc176, if_pos hc187]; done) | (rw [if_neg hc166, if_neg hc176, if_neg hc187, if_pos hc201]; done) | (rw [if_neg hc166, if_neg hc176, if_neg hc187, if_neg hc201, if_pos hc217]; done) | (rw [if_neg hc166, if_neg hc176, if_neg hc187, if_neg hc201, if_neg hc217]; done)) ?_
                    exact kv_lv [1, 2, 3, 4, 5, 6, 7] rfl C238
                ·
                  refine kv_iload X 5 dX11_addRow_204 rfl ?_
                  refine kv_iload X 6 dX11_addRow_206 rfl ?_
                  refine kv_imul X dX11_addRow_208 ?_
                  refine kv_iconst (v := 2) X dX11_addRow_209 (by decide) ?_
                  refine kv_idiv X dX11_addRow_210 (by decide) ?_
                  refine kv_goto (tgt := 238) X dX11_addRow_211 (by decide) ?_
                  refine kv_topi (msh s a b c) (by show ((a * b) / 2) = _; rw [msh]; first | (rw [if_pos hc166]; done) | (rw [if_neg hc166, if_pos hc176]; done) | (rw [if_neg hc166, if_neg hc176, if_pos hc187]; done) | (rw [if_neg hc166, if_neg hc176, if_neg hc187, if_pos hc201]; done) | (rw [if_neg hc166, if_neg hc176, if_neg hc187, if_neg hc201, if_pos hc217]; done) | (rw [if_neg hc166, if_neg hc176, if_neg hc187, if_neg hc201, if_neg hc217]; done)) ?_
                  exact kv_lv [1, 2, 3, 4, 5, 6, 7] rfl C238
              ·
                refine kv_iload X 5 dX11_addRow_190 rfl ?_
                refine kv_iload X 6 dX11_addRow_192 rfl ?_
                refine kv_imul X dX11_addRow_194 ?_
                refine kv_goto (tgt := 238) X dX11_addRow_195 (by decide) ?_
                refine kv_topi (msh s a b c) (by show (a * b) = _; rw [msh]; first | (rw [if_pos hc166]; done) | (rw [if_neg hc166, if_pos hc176]; done) | (rw [if_neg hc166, if_neg hc176, if_pos hc187]; done) | (rw [if_neg hc166, if_neg hc176, if_neg hc187, if_pos hc201]; done) | (rw [if_neg hc166, if_neg hc176, if_neg hc187, if_neg hc201, if_pos hc217]; done) | (rw [if_neg hc166, if_neg hc176, if_neg hc187, if_neg hc201, if_neg hc217]; done)) ?_
                exact kv_lv [1, 2, 3, 4, 5, 6, 7] rfl C238
            ·
              refine kv_iload X 5 dX11_addRow_179 rfl ?_
              refine kv_goto (tgt := 238) X dX11_addRow_181 (by decide) ?_
              refine kv_topi (msh s a b c) (by show a = _; rw [msh]; first | (rw [if_pos hc166]; done) | (rw [if_neg hc166, if_pos hc176]; done) | (rw [if_neg hc166, if_neg hc176, if_pos hc187]; done) | (rw [if_neg hc166, if_neg hc176, if_neg hc187, if_pos hc201]; done) | (rw [if_neg hc166, if_neg hc176, if_neg hc187, if_neg hc201, if_pos hc217]; done) | (rw [if_neg hc166, if_neg hc176, if_neg hc187, if_neg hc201, if_neg hc217]; done)) ?_
              exact kv_lv [1, 2, 3, 4, 5, 6, 7] rfl C238
          ·
            refine kv_iconst (v := 1) X dX11_addRow_169 (by decide) ?_
            refine kv_goto (tgt := 238) X dX11_addRow_170 (by decide) ?_
            refine kv_topi (msh s a b c) (by show (1 : Int32) = _; rw [msh]; first | (rw [if_pos hc166]; done) | (rw [if_neg hc166, if_pos hc176]; done) | (rw [if_neg hc166, if_neg hc176, if_pos hc187]; done) | (rw [if_neg hc166, if_neg hc176, if_neg hc187, if_pos hc201]; done) | (rw [if_neg hc166, if_neg hc176, if_neg hc187, if_neg hc201, if_pos hc217]; done) | (rw [if_neg hc166, if_neg hc176, if_neg hc187, if_neg hc201, if_neg hc217]; done)) ?_
            exact kv_lv [1, 2, 3, 4, 5, 6, 7] rfl C238
        ·
          refine kv_iconst (v := 1) X dX11_addRow_149 (by decide) ?_
          refine kv_goto (tgt := 154) X dX11_addRow_150 (by decide) ?_
          refine kv_iconst (v := 3) X dX11_addRow_154 (by decide) ?_
          refine kv_calliV (ci := 14) (κ := 0) (r1 := (TX11, 34)) (As := [.int 1, .int 3]) [] X (c_X11_fails1 l dd ad ((va_up M.1 0 0), M.2.1, M.2.2) 3 (by decide) rfl) hl0 (kCV_of X 2 gX11_addRow_X11_fails rfl rfl rfl (by decide +kernel) hRR ⟨Nat.le_of_ble_eq_true rfl, Nat.le_of_ble_eq_true rfl⟩) (by decide) rfl rfl rfl rfl (Nat.le_of_ble_eq_true rfl) hRR ⟨Nat.le_of_ble_eq_true rfl, Nat.le_of_ble_eq_true rfl⟩ dX11_addRow_155 (fun r z hp => ?_)
          obtain ⟨rfl, rfl⟩ := hp
          refine kv_if_eq (tgt := 163) X dX11_addRow_158 (by decide) (fun hc => absurd hc (by decide)) (fun hc158 => ?_)
          refine kv_iconst (v := 0) X dX11_addRow_161 (by decide) ?_
          exact kv_ireturn X hr (by decide) (by decide) ⟨((va_up (va_up M.1 0 0) 0 3), M.2.1, M.2.2), Or.inr (Or.inr ⟨j111, ⟨h111, rfl, hi⟩, Or.inl ⟨hc146, rfl, rfl⟩⟩), rfl⟩ dX11_addRow_162
    ·
      refine kv_istore (lv2 := [(8, .int 0), (0, .ref (ad 0)), (1, .int v), (2, .int s), (3, .int t), (4, .int a), (5, .int b), (6, .int c)]) X dX11_addRow_106 (by rw [hnL]; decide) rfl ?_
      refine kv_aload_n X 1 dX11_addRow_108 rfl rfl ?_
      refine kv_aload_n X 1 dX11_addRow_109 rfl rfl ?_
      refine kv_iload_n X 2 dX11_addRow_110 rfl rfl ?_
      refine kv_calliV (ci := 14) (κ := 0) (r1 := (TX11, 34)) (As := [.int v]) [.ref (ad 0)] X (c_X11_noLine l dd ad ((va_up M.1 0 0), M.2.1, M.2.2) v nL hL.2 hL.1) hl0 (kCV_of X 1 gX11_addRow_X11_noLine rfl rfl rfl (by decide +kernel) hRR ⟨Nat.le_of_ble_eq_true rfl, Nat.le_of_ble_eq_true rfl⟩) (by decide) rfl rfl rfl rfl (Nat.le_of_ble_eq_true rfl) hRR ⟨Nat.le_of_ble_eq_true rfl, Nat.le_of_ble_eq_true rfl⟩ dX11_addRow_111 (fun r z hp => ?_)
      obtain ⟨rfl, ⟨rfl, h111⟩ | ⟨rfl, j111, h111, rfl⟩⟩ := hp
      ·
        refine kv_iconst (v := 1) X dX11_addRow_114 (by decide) ?_
        refine kv_calliV (ci := 14) (κ := 0) (r1 := (TX11, 34)) (As := [.int 1, .int 1]) [] X (c_X11_fails1 l dd ad ((va_up M.1 0 0), M.2.1, M.2.2) 1 (by decide) rfl) hl0 (kCV_of X 2 gX11_addRow_X11_fails rfl rfl rfl (by decide +kernel) hRR ⟨Nat.le_of_ble_eq_true rfl, Nat.le_of_ble_eq_true rfl⟩) (by decide) rfl rfl rfl rfl (Nat.le_of_ble_eq_true rfl) hRR ⟨Nat.le_of_ble_eq_true rfl, Nat.le_of_ble_eq_true rfl⟩ dX11_addRow_115 (fun r z hp => ?_)
        obtain ⟨rfl, rfl⟩ := hp
        refine kv_if_ne (tgt := 161) X dX11_addRow_118 (by decide) (fun hc118 => ?_) (fun hc => absurd hc (by decide))
        refine kv_iconst (v := 0) X dX11_addRow_161 (by decide) ?_
        exact kv_ireturn X hr (by decide) (by decide) ⟨((va_up (va_up M.1 0 0) 0 1), M.2.1, M.2.2), Or.inl ⟨h111, rfl, rfl⟩, rfl⟩ dX11_addRow_162
      ·
        refine kv_iconst (v := 1) X dX11_addRow_114 (by decide) ?_
        refine kv_calliV (ci := 14) (κ := 0) (r1 := (TX11, 34)) (As := [.int 0, .int 1]) [] X (c_X11_fails0 l dd ad ((va_up M.1 0 0), M.2.1, M.2.2) 1 rfl) hl0 (kCV_of X 2 gX11_addRow_X11_fails rfl rfl rfl (by decide +kernel) hRR ⟨Nat.le_of_ble_eq_true rfl, Nat.le_of_ble_eq_true rfl⟩) (by decide) rfl rfl rfl rfl (Nat.le_of_ble_eq_true rfl) hRR ⟨Nat.le_of_ble_eq_true rfl, Nat.le_of_ble_eq_true rfl⟩ dX11_addRow_115 (fun r z hp => ?_)
        obtain ⟨rfl, rfl⟩ := hp
        refine kv_if_ne (tgt := 161) X dX11_addRow_118 (by decide) (fun hc => absurd hc (by decide)) (fun hc118 => ?_)
        refine kv_aload_n X 1 dX11_addRow_121 rfl rfl ?_
        refine kv_iload X 0 dX11_addRow_122 rfl ?_
        refine kv_if_ne (tgt := 131) X dX11_addRow_124 (by decide) (fun hc => absurd hc (by decide)) (fun hc124 => ?_)
        refine kv_iconst (v := 1) X dX11_addRow_127 (by decide) ?_
        refine kv_goto (tgt := 132) X dX11_addRow_128 (by decide) ?_
        refine kv_iconst (v := 2) X dX11_addRow_132 (by decide) ?_
        refine kv_calliV (ci := 14) (κ := 0) (r1 := (TX11, 34)) (As := [.int 1, .int 2]) [] X (c_X11_fails1 l dd ad ((va_up M.1 0 0), M.2.1, M.2.2) 2 (by decide) rfl) hl0 (kCV_of X 2 gX11_addRow_X11_fails rfl rfl rfl (by decide +kernel) hRR ⟨Nat.le_of_ble_eq_true rfl, Nat.le_of_ble_eq_true rfl⟩) (by decide) rfl rfl rfl rfl (Nat.le_of_ble_eq_true rfl) hRR ⟨Nat.le_of_ble_eq_true rfl, Nat.le_of_ble_eq_true rfl⟩ dX11_addRow_133 (fun r z hp => ?_)
        obtain ⟨rfl, rfl⟩ := hp
        refine kv_if_ne (tgt := 161) X dX11_addRow_136 (by decide) (fun hc136 => ?_) (fun hc => absurd hc (by decide))
        refine kv_iconst (v := 0) X dX11_addRow_161 (by decide) ?_
        exact kv_ireturn X hr (by decide) (by decide) ⟨((va_up (va_up M.1 0 0) 0 2), M.2.1, M.2.2), Or.inr (Or.inl ⟨⟨j111, h111, rfl⟩, hi, rfl, rfl⟩), rfl⟩ dX11_addRow_162
  have C46 : ∀ (ish : Int32) (hs : (ish = 1 ∧ (s = 110 ∨ s = 108 ∨ s = 114 ∨ s = 116 ∨ s = 112 ∨ s = 118)) ∨ (ish = 0 ∧ ¬ (s = 110 ∨ s = 108 ∨ s = 114 ∨ s = 116 ∨ s = 112 ∨ s = 118))), kv dd g 0 0 46 [(0, .ref (ad 0)), (1, .int v), (2, .int s), (3, .int t), (4, .int a), (5, .int b), (6, .int c)] [.int ish] mK ad (mE dd ad ((va_up M.1 0 0), M.2.1, M.2.2)) := by
    intro ish hs
    rcases hs with ⟨rfl, hs⟩ | ⟨rfl, hs⟩
    ·
      refine kv_istore (lv2 := [(7, .int 1), (0, .ref (ad 0)), (1, .int v), (2, .int s), (3, .int t), (4, .int a), (5, .int b), (6, .int c)]) X dX11_addRow_46 (by rw [hnL]; decide) rfl ?_
      refine kv_iload X 0 dX11_addRow_48 rfl ?_
      refine kv_if_eq (tgt := 105) X dX11_addRow_50 (by decide) (fun hc => absurd hc (by decide)) (fun hc50 => ?_)
      refine kv_iload_n X 4 dX11_addRow_53 rfl rfl ?_
      refine kv_bipush (v := (-9)) X dX11_addRow_54 (by decide) ?_
      refine kv_bipush (v := 99) X dX11_addRow_56 (by decide) ?_
      refine kv_calliS (As := [.int t, .int (-9), .int 99]) [] X (c_X11_in l dd ad ((va_up M.1 0 0), M.2.1, M.2.2) t (-9) 99) hl0 (kCS_of X 3 gX11_addRow_X11_in rfl rfl rfl (by decide +kernel) hRR ⟨Nat.le_of_ble_eq_true rfl, Nat.le_of_ble_eq_true rfl⟩) rfl rfl (Nat.le_of_ble_eq_true rfl) hRR ⟨Nat.le_of_ble_eq_true rfl, Nat.le_of_ble_eq_true rfl⟩ dX11_addRow_58 (fun r z hp => ?_)
      obtain ⟨rfl, ⟨rfl, h58⟩ | ⟨rfl, h58⟩⟩ := hp
      ·
        refine kv_if_eq (tgt := 105) X dX11_addRow_61 (by decide) (fun hc => absurd hc (by decide)) (fun hc61 => ?_)
        refine kv_iload_n X 4 dX11_addRow_64 rfl rfl ?_
        refine kv_if_eq (tgt := 105) X dX11_addRow_65 (by decide) (fun hc65 => ?_) (fun hc65 => ?_)
        ·
          refine kv_iconst (v := 0) X dX11_addRow_105 (by decide) ?_
          exact kv_lv [1, 2, 3, 4, 5, 6, 7] rfl (C106 0 (Or.inr ⟨rfl, fun q => by first | exact hs q.1 | exact h58 q.2.1 | exact q.2.2.1 hc65 | exact h73 q.2.2.2.1 | exact h84 q.2.2.2.2.1 | exact h95 q.2.2.2.2.2⟩))
        ·
          refine kv_iload X 5 dX11_addRow_68 rfl ?_
          refine kv_iconst (v := 0) X dX11_addRow_70 (by decide) ?_
          refine kv_bipush (v := 99) X dX11_addRow_71 (by decide) ?_
          refine kv_calliS (As := [.int a, .int 0, .int 99]) [] X (c_X11_in l dd ad ((va_up M.1 0 0), M.2.1, M.2.2) a 0 99) hl0 (kCS_of X 3 gX11_addRow_X11_in rfl rfl rfl (by decide +kernel) hRR ⟨Nat.le_of_ble_eq_true rfl, Nat.le_of_ble_eq_true rfl⟩) rfl rfl (Nat.le_of_ble_eq_true rfl) hRR ⟨Nat.le_of_ble_eq_true rfl, Nat.le_of_ble_eq_true rfl⟩ dX11_addRow_73 (fun r z hp => ?_)
          obtain ⟨rfl, ⟨rfl, h73⟩ | ⟨rfl, h73⟩⟩ := hp
          ·
            refine kv_if_eq (tgt := 105) X dX11_addRow_76 (by decide) (fun hc => absurd hc (by decide)) (fun hc76 => ?_)
            refine kv_iload X 6 dX11_addRow_79 rfl ?_
            refine kv_iconst (v := 0) X dX11_addRow_81 (by decide) ?_
            refine kv_bipush (v := 99) X dX11_addRow_82 (by decide) ?_
            refine kv_calliS (As := [.int b, .int 0, .int 99]) [] X (c_X11_in l dd ad ((va_up M.1 0 0), M.2.1, M.2.2) b 0 99) hl0 (kCS_of X 3 gX11_addRow_X11_in rfl rfl rfl (by decide +kernel) hRR ⟨Nat.le_of_ble_eq_true rfl, Nat.le_of_ble_eq_true rfl⟩) rfl rfl (Nat.le_of_ble_eq_true rfl) hRR ⟨Nat.le_of_ble_eq_true rfl, Nat.le_of_ble_eq_true rfl⟩ dX11_addRow_84 (fun r z hp => ?_)
            obtain ⟨rfl, ⟨rfl, h84⟩ | ⟨rfl, h84⟩⟩ := hp
            ·
              refine kv_if_eq (tgt := 105) X dX11_addRow_87 (by decide) (fun hc => absurd hc (by decide)) (fun hc87 => ?_)
              refine kv_iload X 7 dX11_addRow_90 rfl ?_
              refine kv_iconst (v := 0) X dX11_addRow_92 (by decide) ?_
              refine kv_bipush (v := 99) X dX11_addRow_93 (by decide) ?_
              refine kv_calliS (As := [.int c, .int 0, .int 99]) [] X (c_X11_in l dd ad ((va_up M.1 0 0), M.2.1, M.2.2) c 0 99) hl0 (kCS_of X 3 gX11_addRow_X11_in rfl rfl rfl (by decide +kernel) hRR ⟨Nat.le_of_ble_eq_true rfl, Nat.le_of_ble_eq_true rfl⟩) rfl rfl (Nat.le_of_ble_eq_true rfl) hRR ⟨Nat.le_of_ble_eq_true rfl, Nat.le_of_ble_eq_true rfl⟩ dX11_addRow_95 (fun r z hp => ?_)
              obtain ⟨rfl, ⟨rfl, h95⟩ | ⟨rfl, h95⟩⟩ := hp
              ·
                refine kv_if_eq (tgt := 105) X dX11_addRow_98 (by decide) (fun hc => absurd hc (by decide)) (fun hc98 => ?_)
                refine kv_iconst (v := 1) X dX11_addRow_101 (by decide) ?_
                refine kv_goto (tgt := 106) X dX11_addRow_102 (by decide) ?_
                exact kv_lv [1, 2, 3, 4, 5, 6, 7] rfl (C106 1 (Or.inl ⟨rfl, hs, h58, hc65, h73, h84, h95⟩))
              ·
                refine kv_if_eq (tgt := 105) X dX11_addRow_98 (by decide) (fun hc98 => ?_) (fun hc => absurd hc (by decide))
                refine kv_iconst (v := 0) X dX11_addRow_105 (by decide) ?_
                exact kv_lv [1, 2, 3, 4, 5, 6, 7] rfl (C106 0 (Or.inr ⟨rfl, fun q => by first | exact hs q.1 | exact h58 q.2.1 | exact q.2.2.1 hc65 | exact h73 q.2.2.2.1 | exact h84 q.2.2.2.2.1 | exact h95 q.2.2.2.2.2⟩))
            ·
              refine kv_if_eq (tgt := 105) X dX11_addRow_87 (by decide) (fun hc87 => ?_) (fun hc => absurd hc (by decide))
              refine kv_iconst (v := 0) X dX11_addRow_105 (by decide) ?_
              exact kv_lv [1, 2, 3, 4, 5, 6, 7] rfl (C106 0 (Or.inr ⟨rfl, fun q => by first | exact hs q.1 | exact h58 q.2.1 | exact q.2.2.1 hc65 | exact h73 q.2.2.2.1 | exact h84 q.2.2.2.2.1 | exact h95 q.2.2.2.2.2⟩))
          ·
            refine kv_if_eq (tgt := 105) X dX11_addRow_76 (by decide) (fun hc76 => ?_) (fun hc => absurd hc (by decide))
            refine kv_iconst (v := 0) X dX11_addRow_105 (by decide) ?_
            exact kv_lv [1, 2, 3, 4, 5, 6, 7] rfl (C106 0 (Or.inr ⟨rfl, fun q => by first | exact hs q.1 | exact h58 q.2.1 | exact q.2.2.1 hc65 | exact h73 q.2.2.2.1 | exact h84 q.2.2.2.2.1 | exact h95 q.2.2.2.2.2⟩))
      ·
        refine kv_if_eq (tgt := 105) X dX11_addRow_61 (by decide) (fun hc61 => ?_) (fun hc => absurd hc (by decide))
        refine kv_iconst (v := 0) X dX11_addRow_105 (by decide) ?_
        exact kv_lv [1, 2, 3, 4, 5, 6, 7] rfl (C106 0 (Or.inr ⟨rfl, fun q => by first | exact hs q.1 | exact h58 q.2.1 | exact q.2.2.1 hc65 | exact h73 q.2.2.2.1 | exact h84 q.2.2.2.2.1 | exact h95 q.2.2.2.2.2⟩))
    ·
      refine kv_istore (lv2 := [(7, .int 0), (0, .ref (ad 0)), (1, .int v), (2, .int s), (3, .int t), (4, .int a), (5, .int b), (6, .int c)]) X dX11_addRow_46 (by rw [hnL]; decide) rfl ?_
      refine kv_iload X 0 dX11_addRow_48 rfl ?_
      refine kv_if_eq (tgt := 105) X dX11_addRow_50 (by decide) (fun hc50 => ?_) (fun hc => absurd hc (by decide))
      refine kv_iconst (v := 0) X dX11_addRow_105 (by decide) ?_
      exact kv_lv [1, 2, 3, 4, 5, 6, 7] rfl (C106 0 (Or.inr ⟨rfl, fun q => by first | exact hs q.1 | exact h58 q.2.1 | exact q.2.2.1 hc65 | exact h73 q.2.2.2.1 | exact h84 q.2.2.2.2.1 | exact h95 q.2.2.2.2.2⟩))
  refine kv_iload_n X 2 dX11_addRow_5 rfl rfl ?_
  refine kv_bipush (v := 110) X dX11_addRow_6 (by decide) ?_
  refine kv_icmp_eq (tgt := 41) X dX11_addRow_8 (by decide) (fun hc8 => ?_) (fun hc8 => ?_)
  ·
    refine kv_iconst (v := 1) X dX11_addRow_41 (by decide) ?_
    refine kv_goto (tgt := 46) X dX11_addRow_42 (by decide) ?_
    exact kv_lv [0, 1, 2, 3, 4, 5, 6] rfl (C46 1 (Or.inl ⟨rfl, by first | exact Or.inl hc8 | exact Or.inr (Or.inl hc14) | exact Or.inr (Or.inr (Or.inl hc20)) | exact Or.inr (Or.inr (Or.inr (Or.inl hc26))) | exact Or.inr (Or.inr (Or.inr (Or.inr (Or.inl hc32)))) | exact Or.inr (Or.inr (Or.inr (Or.inr (Or.inr hc38))))⟩))
  ·
    refine kv_iload_n X 2 dX11_addRow_11 rfl rfl ?_
    refine kv_bipush (v := 108) X dX11_addRow_12 (by decide) ?_
    refine kv_icmp_eq (tgt := 41) X dX11_addRow_14 (by decide) (fun hc14 => ?_) (fun hc14 => ?_)
    ·
      refine kv_iconst (v := 1) X dX11_addRow_41 (by decide) ?_
      refine kv_goto (tgt := 46) X dX11_addRow_42 (by decide) ?_
      exact kv_lv [0, 1, 2, 3, 4, 5, 6] rfl (C46 1 (Or.inl ⟨rfl, by first | exact Or.inl hc8 | exact Or.inr (Or.inl hc14) | exact Or.inr (Or.inr (Or.inl hc20)) | exact Or.inr (Or.inr (Or.inr (Or.inl hc26))) | exact Or.inr (Or.inr (Or.inr (Or.inr (Or.inl hc32)))) | exact Or.inr (Or.inr (Or.inr (Or.inr (Or.inr hc38))))⟩))
    ·
      refine kv_iload_n X 2 dX11_addRow_17 rfl rfl ?_
      refine kv_bipush (v := 114) X dX11_addRow_18 (by decide) ?_
      refine kv_icmp_eq (tgt := 41) X dX11_addRow_20 (by decide) (fun hc20 => ?_) (fun hc20 => ?_)
      ·
        refine kv_iconst (v := 1) X dX11_addRow_41 (by decide) ?_
        refine kv_goto (tgt := 46) X dX11_addRow_42 (by decide) ?_
        exact kv_lv [0, 1, 2, 3, 4, 5, 6] rfl (C46 1 (Or.inl ⟨rfl, by first | exact Or.inl hc8 | exact Or.inr (Or.inl hc14) | exact Or.inr (Or.inr (Or.inl hc20)) | exact Or.inr (Or.inr (Or.inr (Or.inl hc26))) | exact Or.inr (Or.inr (Or.inr (Or.inr (Or.inl hc32)))) | exact Or.inr (Or.inr (Or.inr (Or.inr (Or.inr hc38))))⟩))
      ·
        refine kv_iload_n X 2 dX11_addRow_23 rfl rfl ?_
        refine kv_bipush (v := 116) X dX11_addRow_24 (by decide) ?_
        refine kv_icmp_eq (tgt := 41) X dX11_addRow_26 (by decide) (fun hc26 => ?_) (fun hc26 => ?_)
        ·
          refine kv_iconst (v := 1) X dX11_addRow_41 (by decide) ?_
          refine kv_goto (tgt := 46) X dX11_addRow_42 (by decide) ?_
          exact kv_lv [0, 1, 2, 3, 4, 5, 6] rfl (C46 1 (Or.inl ⟨rfl, by first | exact Or.inl hc8 | exact Or.inr (Or.inl hc14) | exact Or.inr (Or.inr (Or.inl hc20)) | exact Or.inr (Or.inr (Or.inr (Or.inl hc26))) | exact Or.inr (Or.inr (Or.inr (Or.inr (Or.inl hc32)))) | exact Or.inr (Or.inr (Or.inr (Or.inr (Or.inr hc38))))⟩))
        ·
          refine kv_iload_n X 2 dX11_addRow_29 rfl rfl ?_
          refine kv_bipush (v := 112) X dX11_addRow_30 (by decide) ?_
          refine kv_icmp_eq (tgt := 41) X dX11_addRow_32 (by decide) (fun hc32 => ?_) (fun hc32 => ?_)
          ·
            refine kv_iconst (v := 1) X dX11_addRow_41 (by decide) ?_
            refine kv_goto (tgt := 46) X dX11_addRow_42 (by decide) ?_
            exact kv_lv [0, 1, 2, 3, 4, 5, 6] rfl (C46 1 (Or.inl ⟨rfl, by first | exact Or.inl hc8 | exact Or.inr (Or.inl hc14) | exact Or.inr (Or.inr (Or.inl hc20)) | exact Or.inr (Or.inr (Or.inr (Or.inl hc26))) | exact Or.inr (Or.inr (Or.inr (Or.inr (Or.inl hc32)))) | exact Or.inr (Or.inr (Or.inr (Or.inr (Or.inr hc38))))⟩))
          ·
            refine kv_iload_n X 2 dX11_addRow_35 rfl rfl ?_
            refine kv_bipush (v := 118) X dX11_addRow_36 (by decide) ?_
            refine kv_icmp_ne (tgt := 45) X dX11_addRow_38 (by decide) (fun hc38 => ?_) (fun hc38 => ?_)
            ·
              refine kv_iconst (v := 0) X dX11_addRow_45 (by decide) ?_
              exact kv_lv [0, 1, 2, 3, 4, 5, 6] rfl (C46 0 (Or.inr ⟨rfl, fun q => by rcases q with q | q | q | q | q | q; exact hc8 q; exact hc14 q; exact hc20 q; exact hc26 q; exact hc32 q; exact hc38 q⟩))
            ·
              refine kv_iconst (v := 1) X dX11_addRow_41 (by decide) ?_
              refine kv_goto (tgt := 46) X dX11_addRow_42 (by decide) ?_
              exact kv_lv [0, 1, 2, 3, 4, 5, 6] rfl (C46 1 (Or.inl ⟨rfl, by first | exact Or.inl hc8 | exact Or.inr (Or.inl hc14) | exact Or.inr (Or.inr (Or.inl hc20)) | exact Or.inr (Or.inr (Or.inr (Or.inl hc26))) | exact Or.inr (Or.inr (Or.inr (Or.inr (Or.inl hc32)))) | exact Or.inr (Or.inr (Or.inr (Or.inr (Or.inr hc38))))⟩))
theorem fp_X11_dropRow_86 : kFp wsX11_dropRow RX11 86 14 0 .int false := ⟨_, RX11, TX11, 34, tyX11, fun _ h => (List.mem_cons_of_mem _ (List.mem_append_left _ (List.mem_append_right _ h))), tyX11_ok, nmX11, (List.mem_cons_of_mem _ (List.mem_append_left _ (List.mem_append_left _ (List.mem_of_getElem? (i := 0) rfl)))), rfl, by decide, rfl, rfl, by decide +kernel, rfl⟩
theorem f_X11_dropRow_49 : kF wsX11_dropRow RX11 49 14 19 := ⟨_, RX11, TX11, 34, fun _ h => (List.mem_cons_of_mem _ (List.mem_append_left _ (List.mem_append_right _ h))), (List.mem_cons_of_mem _ (List.mem_append_left _ (List.mem_append_left _ (List.mem_of_getElem? (i := 1) rfl)))), rfl, by decide, rfl⟩
theorem f_X11_dropRow_52 : kF wsX11_dropRow RX11 52 14 20 := ⟨_, RX11, TX11, 34, fun _ h => (List.mem_cons_of_mem _ (List.mem_append_left _ (List.mem_append_right _ h))), (List.mem_cons_of_mem _ (List.mem_append_left _ (List.mem_append_left _ (List.mem_of_getElem? (i := 2) rfl)))), rfl, by decide, rfl⟩
theorem f_X11_dropRow_152 : kF wsX11_dropRow RX11 152 14 18 := ⟨_, RX11, TX11, 34, fun _ h => (List.mem_cons_of_mem _ (List.mem_append_left _ (List.mem_append_right _ h))), (List.mem_cons_of_mem _ (List.mem_append_left _ (List.mem_append_left _ (List.mem_of_getElem? (i := 3) rfl)))), rfl, by decide, rfl⟩
theorem fp_X11_dropRow_152 : kFp wsX11_dropRow RX11 152 14 18 .int false := ⟨_, RX11, TX11, 34, tyX11, fun _ h => (List.mem_cons_of_mem _ (List.mem_append_left _ (List.mem_append_right _ h))), tyX11_ok, nmX11, (List.mem_cons_of_mem _ (List.mem_append_left _ (List.mem_append_left _ (List.mem_of_getElem? (i := 3) rfl)))), rfl, by decide, rfl, rfl, by decide +kernel, rfl⟩
set_option maxRecDepth 100000 in
set_option maxHeartbeats 4000000 in
theorem c_X11_dropRow (l : Launch) (dd : kDD) (ad : Nat → Nat) (M : mS) (v : Int32) (nW : Nat) (hW : M.1 18 = nI nW ∧ nW ≤ 40) : kCi l yX11_dropRow wsX11_dropRow ({ frames := 2, cells := 0, slots := 0, locals := 43 } : Room) 0 0 dd [.ref (ad 0), .int v] (mK, ad, mE dd ad M) (kQi (S := mS) (fun r z => (¬ (∃ j, j < nW ∧ v = nI j) ∧ mT M 1 = z ∧ r = 0) ∨ ∃ j, (j < nW ∧ v = nI j) ∧ ((¬ (0 ≤ mq (M.2.1 19) (M.2.1 20) (M.2.1 19 j) nW - M.2.1 20 j ∧ mq (M.2.1 19) (M.2.1 20) (M.2.1 19 j) nW - M.2.1 20 j ≤ 10000) ∧ mT M 2 = z ∧ r = 0) ∨ ((0 ≤ mq (M.2.1 19) (M.2.1 20) (M.2.1 19 j) nW - M.2.1 20 j ∧ mq (M.2.1 19) (M.2.1 20) (M.2.1 19 j) nW - M.2.1 20 j ≤ 10000) ∧ (va_up (va_up M.1 0 0) 18 (nI (nW - 1)), va_up (va_up M.2.1 19 (mshift (M.2.1 19) j (nW - 1))) 20 (mshift (M.2.1 20) j (nW - 1)), M.2.2) = z ∧ r = mq (mshift (M.2.1 19) j (nW - 1)) (mshift (M.2.1 20) j (nW - 1)) (M.2.1 19 j) (nW - 1)))) (fun _ => mK) (fun _ => ad) (fun z => mE dd ad z)) := by
  refine kMeti (ws' := _) (cc := cX11_dropRow) (maxL := 4) (rt := .int) (by decide) rfl (Nat.le_of_ble_eq_true rfl) (fun g X hr hnL hRR hl0 hkn => ?_)
  show kv dd g 0 0 0 [(0, .ref (ad 0)), (1, .int v)] [] mK ad (mE dd ad M)
  refine kv_aload_n X 0 dX11_dropRow_0 rfl rfl ?_
  refine kv_iconst (v := 0) X dX11_dropRow_1 (by decide) ?_
  refine km_put X 0 (x := 0) fp_X11_dropRow_86 (by decide) dX11_dropRow_2 ?_
  refine kv_aload_n X 0 dX11_dropRow_5 rfl rfl ?_
  refine kv_aload_n X 0 dX11_dropRow_6 rfl rfl ?_
  refine kv_iload_n X 1 dX11_dropRow_7 rfl rfl ?_
  refine kv_calliV (ci := 14) (κ := 0) (r1 := (TX11, 34)) (As := [.int v]) [.ref (ad 0)] X (c_X11_noRow l dd ad ((va_up M.1 0 0), M.2.1, M.2.2) v nW hW.2 hW.1) hl0 (kCV_of X 1 gX11_dropRow_X11_noRow rfl rfl rfl (by decide +kernel) hRR ⟨Nat.le_of_ble_eq_true rfl, Nat.le_of_ble_eq_true rfl⟩) (by decide) rfl rfl rfl rfl (Nat.le_of_ble_eq_true rfl) hRR ⟨Nat.le_of_ble_eq_true rfl, Nat.le_of_ble_eq_true rfl⟩ dX11_dropRow_8 (fun r z hp => ?_)
  obtain ⟨rfl, ⟨rfl, h8⟩ | ⟨rfl, j8, h8, rfl⟩⟩ := hp
  ·
    refine kv_iconst (v := 1) X dX11_dropRow_11 (by decide) ?_
    refine kv_calliV (ci := 14) (κ := 0) (r1 := (TX11, 34)) (As := [.int 1, .int 1]) [] X (c_X11_fails1 l dd ad ((va_up M.1 0 0), M.2.1, M.2.2) 1 (by decide) rfl) hl0 (kCV_of X 2 gX11_dropRow_X11_fails rfl rfl rfl (by decide +kernel) hRR ⟨Nat.le_of_ble_eq_true rfl, Nat.le_of_ble_eq_true rfl⟩) (by decide) rfl rfl rfl rfl (Nat.le_of_ble_eq_true rfl) hRR ⟨Nat.le_of_ble_eq_true rfl, Nat.le_of_ble_eq_true rfl⟩ dX11_dropRow_12 (fun r z hp => ?_)
    obtain ⟨rfl, rfl⟩ := hp
    refine kv_if_ne (tgt := 58) X dX11_dropRow_15 (by decide) (fun hc15 => ?_) (fun hc => absurd hc (by decide))
    refine kv_iconst (v := 0) X dX11_dropRow_58 (by decide) ?_
    exact kv_ireturn X hr (by decide) (by decide) ⟨((va_up (va_up M.1 0 0) 0 1), M.2.1, M.2.2), Or.inl ⟨h8, rfl, rfl⟩, rfl⟩ dX11_dropRow_59
  ·
    refine kv_iconst (v := 1) X dX11_dropRow_11 (by decide) ?_
    refine kv_calliV (ci := 14) (κ := 0) (r1 := (TX11, 34)) (As := [.int 0, .int 1]) [] X (c_X11_fails0 l dd ad ((va_up M.1 0 0), M.2.1, M.2.2) 1 rfl) hl0 (kCV_of X 2 gX11_dropRow_X11_fails rfl rfl rfl (by decide +kernel) hRR ⟨Nat.le_of_ble_eq_true rfl, Nat.le_of_ble_eq_true rfl⟩) (by decide) rfl rfl rfl rfl (Nat.le_of_ble_eq_true rfl) hRR ⟨Nat.le_of_ble_eq_true rfl, Nat.le_of_ble_eq_true rfl⟩ dX11_dropRow_12 (fun r z hp => ?_)
    obtain ⟨rfl, rfl⟩ := hp
    refine kv_if_ne (tgt := 58) X dX11_dropRow_15 (by decide) (fun hc => absurd hc (by decide)) (fun hc15 => ?_)
    refine kv_aload_n X 0 dX11_dropRow_18 rfl rfl ?_
    refine kv_aload_n X 0 dX11_dropRow_19 rfl rfl ?_
    refine kv_aload_n X 0 dX11_dropRow_20 rfl rfl ?_
    refine km_get X 19 (v := .ref (ad 19)) f_X11_dropRow_49 rfl dX11_dropRow_21 ?_
    refine kv_iload_n X 1 dX11_dropRow_24 rfl rfl ?_
    refine km_iald X 19 (j := j8) (by decide) (by decide) rfl (by show _ < _; simp only [mLen]; omega) (by decide) dX11_dropRow_25 ?_
    refine kv_topi ((M.2.1 19) j8) rfl ?_
    refine kv_calliV (ci := 14) (κ := 0) (r1 := (TX11, 34)) (As := [.int ((M.2.1 19) j8)]) [.ref (ad 0)] X (c_X11_quantityOf l dd ad ((va_up M.1 0 0), M.2.1, M.2.2) ((M.2.1 19) j8) nW hW) hl0 (kCV_of X 1 gX11_dropRow_X11_quantityOf rfl rfl rfl (by decide +kernel) hRR ⟨Nat.le_of_ble_eq_true rfl, Nat.le_of_ble_eq_true rfl⟩) (by decide) rfl rfl rfl rfl (Nat.le_of_ble_eq_true rfl) hRR ⟨Nat.le_of_ble_eq_true rfl, Nat.le_of_ble_eq_true rfl⟩ dX11_dropRow_26 (fun r z hp => ?_)
    obtain ⟨rfl, rfl⟩ := hp
    refine kv_aload_n X 0 dX11_dropRow_29 rfl rfl ?_
    refine km_get X 20 (v := .ref (ad 20)) f_X11_dropRow_52 rfl dX11_dropRow_30 ?_
    refine kv_iload_n X 1 dX11_dropRow_33 rfl rfl ?_
    refine km_iald X 20 (j := j8) (by decide) (by decide) rfl (by show _ < _; simp only [mLen]; omega) (by decide) dX11_dropRow_34 ?_
    refine kv_topi ((M.2.1 20) j8) rfl ?_
    refine kv_isub X dX11_dropRow_35 ?_
    refine kv_iconst (v := 0) X dX11_dropRow_36 (by decide) ?_
    refine kv_sipush (v := 10000) X dX11_dropRow_37 (by decide) ?_
    refine kv_calliS (As := [.int ((mq (M.2.1 19) (M.2.1 20) ((M.2.1 19) j8) nW) - ((M.2.1 20) j8)), .int 0, .int 10000]) [.ref (ad 0)] X (c_X11_in l dd ad ((va_up M.1 0 0), M.2.1, M.2.2) ((mq (M.2.1 19) (M.2.1 20) ((M.2.1 19) j8) nW) - ((M.2.1 20) j8)) 0 10000) hl0 (kCS_of X 3 gX11_dropRow_X11_in rfl rfl rfl (by decide +kernel) hRR ⟨Nat.le_of_ble_eq_true rfl, Nat.le_of_ble_eq_true rfl⟩) rfl rfl (Nat.le_of_ble_eq_true rfl) hRR ⟨Nat.le_of_ble_eq_true rfl, Nat.le_of_ble_eq_true rfl⟩ dX11_dropRow_40 (fun r z hp => ?_)
    obtain ⟨rfl, ⟨rfl, h40⟩ | ⟨rfl, h40⟩⟩ := hp
    ·
      refine kv_if_ne (tgt := 50) X dX11_dropRow_43 (by decide) (fun hc43 => ?_) (fun hc => absurd hc (by decide))
      refine kv_iconst (v := 0) X dX11_dropRow_50 (by decide) ?_
      refine kv_iconst (v := 2) X dX11_dropRow_51 (by decide) ?_
      refine kv_calliV (ci := 14) (κ := 0) (r1 := (TX11, 34)) (As := [.int 0, .int 2]) [] X (c_X11_fails0 l dd ad ((va_up M.1 0 0), M.2.1, M.2.2) 2 rfl) hl0 (kCV_of X 2 gX11_dropRow_X11_fails rfl rfl rfl (by decide +kernel) hRR ⟨Nat.le_of_ble_eq_true rfl, Nat.le_of_ble_eq_true rfl⟩) (by decide) rfl rfl rfl rfl (Nat.le_of_ble_eq_true rfl) hRR ⟨Nat.le_of_ble_eq_true rfl, Nat.le_of_ble_eq_true rfl⟩ dX11_dropRow_52 (fun r z hp => ?_)
      obtain ⟨rfl, rfl⟩ := hp
      refine kv_if_eq (tgt := 60) X dX11_dropRow_55 (by decide) (fun hc55 => ?_) (fun hc => absurd hc (by decide))
      refine kv_aload_n X 0 dX11_dropRow_60 rfl rfl ?_
      refine km_get X 19 (v := .ref (ad 19)) f_X11_dropRow_49 rfl dX11_dropRow_61 ?_
      refine kv_iload_n X 1 dX11_dropRow_64 rfl rfl ?_
      refine km_iald X 19 (j := j8) (by decide) (by decide) rfl (by show _ < _; simp only [mLen]; omega) (by decide) dX11_dropRow_65 ?_
      refine kv_topi ((M.2.1 19) j8) rfl ?_
      refine kv_istore_n (lv2 := [(2, .int ((M.2.1 19) j8)), (0, .ref (ad 0)), (1, .int (nI j8))]) X dX11_dropRow_66 rfl (by rw [hnL]; decide) rfl ?_
      refine kv_aload_n X 1 dX11_dropRow_67 rfl rfl ?_
      refine kv_dup X dX11_dropRow_68 rfl ?_
      refine km_get X 18 (v := .int (M.1 18)) f_X11_dropRow_152 rfl dX11_dropRow_69 ?_
      refine kv_topi (nI nW) hW.1 ?_
      refine kv_iconst (v := 1) X dX11_dropRow_72 (by decide) ?_
      refine kv_isub X dX11_dropRow_73 ?_
      refine kv_topi (nI (nW - 1)) (pk_sub (b := 1) (by omega)) ?_
      refine km_put X 18 (x := (nI (nW - 1))) fp_X11_dropRow_152 (by decide) dX11_dropRow_74 ?_
      refine kv_iload_n X 2 dX11_dropRow_77 rfl rfl ?_
      refine kv_istore_n (lv2 := [(3, .int (nI j8)), (2, .int ((M.2.1 19) j8)), (0, .ref (ad 0)), (1, .int (nI j8))]) X dX11_dropRow_78 rfl (by rw [hnL]; decide) rfl ?_
      refine kv_M ((va_up (va_up M.1 0 0) 18 (nI (nW - 1))), (va_up (va_up M.2.1 19 (mshift (M.2.1 19) j8 j8)) 20 (mshift (M.2.1 20) j8 j8)), M.2.2) (by show ((va_up (va_up M.1 0 0) 18 (nI (nW - 1))), M.2.1, M.2.2) = _; simp only [mshift_0, va_up_id]) ?_
      have L79 : ∀ (n i : Nat), i + n = nW - 1 → ∀ (_ : Unit) (hji : j8 ≤ i), kv dd g 0 0 79 [(3, .int (nI i)), (2, .int (M.2.1 19 j8)), (0, .ref (ad 0)), (1, .int (nI j8))] [] mK ad (mE dd ad ((va_up (va_up M.1 0 0) 18 (nI (nW - 1))), (va_up (va_up M.2.1 19 (mshift (M.2.1 19) j8 i)) 20 (mshift (M.2.1 20) j8 i)), M.2.2)) := by
        intro n
        induction n with
        | zero =>
          intro i hin79 _ hji
          refine kv_iload_n X 0 dX11_dropRow_79 rfl rfl ?_
          refine kv_aload_n X 2 dX11_dropRow_80 rfl rfl ?_
          refine km_get X 18 (v := .int (nI (nW - 1))) f_X11_dropRow_152 rfl dX11_dropRow_81 ?_
          refine kn_icmp_ge (x := i) (y := nW - 1) (tgt := 121) X (by omega) (by omega) dX11_dropRow_84 (by decide) (fun hc84 => ?_) (fun hc84 => absurd hc84 (by omega))
          obtain rfl : i = nW - 1 := by omega
          refine kv_aload_n X 2 dX11_dropRow_121 rfl rfl ?_
          refine kv_iload_n X 1 dX11_dropRow_122 rfl rfl ?_
          refine kv_calliV (ci := 14) (κ := 0) (r1 := (TX11, 34)) (As := [.int (M.2.1 19 j8)]) [] X (c_X11_quantityOf l dd ad ((va_up (va_up M.1 0 0) 18 (nI (nW - 1))), (va_up (va_up M.2.1 19 (mshift (M.2.1 19) j8 (nW - 1))) 20 (mshift (M.2.1 20) j8 (nW - 1))), M.2.2) (M.2.1 19 j8) (nW - 1) ⟨rfl, by omega⟩) hl0 (kCV_of X 1 gX11_dropRow_X11_quantityOf rfl rfl rfl (by decide +kernel) hRR ⟨Nat.le_of_ble_eq_true rfl, Nat.le_of_ble_eq_true rfl⟩) (by decide) rfl rfl rfl rfl (Nat.le_of_ble_eq_true rfl) hRR ⟨Nat.le_of_ble_eq_true rfl, Nat.le_of_ble_eq_true rfl⟩ dX11_dropRow_123 (fun r z hp => ?_)
          obtain ⟨rfl, rfl⟩ := hp
          exact kv_ireturn X hr (by decide) (by decide) ⟨((va_up (va_up M.1 0 0) 18 (nI (nW - 1))), (va_up (va_up M.2.1 19 (mshift (M.2.1 19) j8 (nW - 1))) 20 (mshift (M.2.1 20) j8 (nW - 1))), M.2.2), Or.inr ⟨j8, ⟨h8, rfl⟩, Or.inr ⟨h40, rfl, rfl⟩⟩, rfl⟩ dX11_dropRow_126
        | succ n ih79 =>
          intro i hin79 _ hji
          refine kv_iload_n X 0 dX11_dropRow_79 rfl rfl ?_
          refine kv_aload_n X 2 dX11_dropRow_80 rfl rfl ?_
          refine km_get X 18 (v := .int (nI (nW - 1))) f_X11_dropRow_152 rfl dX11_dropRow_81 ?_
          refine kn_icmp_ge (x := i) (y := nW - 1) (tgt := 121) X (by omega) (by omega) dX11_dropRow_84 (by decide) (fun hc84 => absurd hc84 (by omega)) (fun hc84 => ?_)
          refine kv_aload_n X 2 dX11_dropRow_87 rfl rfl ?_
          refine km_get X 19 (v := .ref (ad 19)) f_X11_dropRow_49 rfl dX11_dropRow_88 ?_
          refine kv_iload_n X 0 dX11_dropRow_91 rfl rfl ?_
          refine kv_aload_n X 2 dX11_dropRow_92 rfl rfl ?_
          refine km_get X 19 (v := .ref (ad 19)) f_X11_dropRow_49 rfl dX11_dropRow_93 ?_
          refine kv_iload_n X 0 dX11_dropRow_96 rfl rfl ?_
          refine kv_iconst (v := 1) X dX11_dropRow_97 (by decide) ?_
          refine kv_iadd X dX11_dropRow_98 ?_
          refine kv_topi (nI (i + 1)) (nI_add i 1) ?_
          refine km_iald X 19 (j := i + 1) (by decide) (by decide) rfl (by show _ < _; simp only [mLen]; omega) (by decide) dX11_dropRow_99 ?_
          refine kv_topi ((mshift (M.2.1 19) j8 i) (i + 1)) rfl ?_
          refine kv_topi (M.2.1 19 (i + 1)) (mshift_at (by omega)) ?_
          refine km_iast X 19 (j := i) (x := (M.2.1 19 (i + 1))) (by decide) (by decide) rfl (by show _ < _; simp only [mLen]; omega) (by decide) dX11_dropRow_100 ?_
          refine kv_aload_n X 2 dX11_dropRow_101 rfl rfl ?_
          refine km_get X 20 (v := .ref (ad 20)) f_X11_dropRow_52 rfl dX11_dropRow_102 ?_
          refine kv_iload_n X 0 dX11_dropRow_105 rfl rfl ?_
          refine kv_aload_n X 2 dX11_dropRow_106 rfl rfl ?_
          refine km_get X 20 (v := .ref (ad 20)) f_X11_dropRow_52 rfl dX11_dropRow_107 ?_
          refine kv_iload_n X 0 dX11_dropRow_110 rfl rfl ?_
          refine kv_iconst (v := 1) X dX11_dropRow_111 (by decide) ?_
          refine kv_iadd X dX11_dropRow_112 ?_
          refine kv_topi (nI (i + 1)) (nI_add i 1) ?_
          refine km_iald X 20 (j := i + 1) (by decide) (by decide) rfl (by show _ < _; simp only [mLen]; omega) (by decide) dX11_dropRow_113 ?_
          refine kv_topi ((mshift (M.2.1 20) j8 i) (i + 1)) rfl ?_
          refine kv_topi (M.2.1 20 (i + 1)) (mshift_at (by omega)) ?_
          refine km_iast X 20 (j := i) (x := (M.2.1 20 (i + 1))) (by decide) (by decide) rfl (by show _ < _; simp only [mLen]; omega) (by decide) dX11_dropRow_114 ?_
          refine kv_M ((va_up (va_up M.1 0 0) 18 (nI (nW - 1))), (va_up (va_up M.2.1 19 (mshift (M.2.1 19) j8 (i + 1))) 20 (mshift (M.2.1 20) j8 (i + 1))), M.2.2) (by show ((va_up (va_up M.1 0 0) 18 (nI (nW - 1))), (va_up (va_up (va_up (va_up M.2.1 19 (mshift (M.2.1 19) j8 i)) 20 (mshift (M.2.1 20) j8 i)) 19 (upd (mshift (M.2.1 19) j8 i) i (M.2.1 19 (i + 1)))) 20 (upd (mshift (M.2.1 20) j8 i) i (M.2.1 20 (i + 1)))), M.2.2) = _; rw [va_up_abab, mshift_s hji, mshift_s hji]) ?_
          refine kv_iinc (j := 0) (v := (nI (i + 1))) (lv2 := [(3, .int (nI (i + 1))), (2, .int (M.2.1 19 j8)), (0, .ref (ad 0)), (1, .int (nI j8))]) X dX11_dropRow_115 rfl (nI_add i 1) (by rw [hnL]; decide) rfl ?_
          refine kv_goto (tgt := 79) X dX11_dropRow_118 (by decide) ?_
          exact kv_lv [0, 1, 2, 3] rfl (ih79 (i + 1) (by omega) () (by omega))
      exact kv_lv [0, 1, 2, 3] rfl (L79 (nW - 1 - j8) j8 (by omega) () (Nat.le_refl _))
    ·
      refine kv_if_ne (tgt := 50) X dX11_dropRow_43 (by decide) (fun hc => absurd hc (by decide)) (fun hc43 => ?_)
      refine kv_iconst (v := 1) X dX11_dropRow_46 (by decide) ?_
      refine kv_goto (tgt := 51) X dX11_dropRow_47 (by decide) ?_
      refine kv_iconst (v := 2) X dX11_dropRow_51 (by decide) ?_
      refine kv_calliV (ci := 14) (κ := 0) (r1 := (TX11, 34)) (As := [.int 1, .int 2]) [] X (c_X11_fails1 l dd ad ((va_up M.1 0 0), M.2.1, M.2.2) 2 (by decide) rfl) hl0 (kCV_of X 2 gX11_dropRow_X11_fails rfl rfl rfl (by decide +kernel) hRR ⟨Nat.le_of_ble_eq_true rfl, Nat.le_of_ble_eq_true rfl⟩) (by decide) rfl rfl rfl rfl (Nat.le_of_ble_eq_true rfl) hRR ⟨Nat.le_of_ble_eq_true rfl, Nat.le_of_ble_eq_true rfl⟩ dX11_dropRow_52 (fun r z hp => ?_)
      obtain ⟨rfl, rfl⟩ := hp
      refine kv_if_eq (tgt := 60) X dX11_dropRow_55 (by decide) (fun hc => absurd hc (by decide)) (fun hc55 => ?_)
      refine kv_iconst (v := 0) X dX11_dropRow_58 (by decide) ?_
      exact kv_ireturn X hr (by decide) (by decide) ⟨((va_up (va_up M.1 0 0) 0 2), M.2.1, M.2.2), Or.inr ⟨j8, ⟨h8, rfl⟩, Or.inl ⟨h40, rfl, rfl⟩⟩, rfl⟩ dX11_dropRow_59
theorem fp_X11_turn_86 : kFp wsX11_turn RX11 86 14 0 .int false := ⟨_, RX11, TX11, 34, tyX11, fun _ h => (List.mem_cons_of_mem _ (List.mem_append_left _ (List.mem_append_right _ h))), tyX11_ok, nmX11, (List.mem_cons_of_mem _ (List.mem_append_left _ (List.mem_append_left _ (List.mem_append_left _ (List.mem_of_getElem? (i := 0) rfl))))), rfl, by decide, rfl, rfl, by decide +kernel, rfl⟩
theorem f_X11_turn_117 : kF wsX11_turn RX11 117 14 24 := ⟨_, RX11, TX11, 34, fun _ h => (List.mem_cons_of_mem _ (List.mem_append_left _ (List.mem_append_right _ h))), (List.mem_cons_of_mem _ (List.mem_append_left _ (List.mem_append_left _ (List.mem_append_left _ (List.mem_of_getElem? (i := 1) rfl))))), rfl, by decide, rfl⟩
theorem fp_X11_turn_117 : kFp wsX11_turn RX11 117 14 24 .int false := ⟨_, RX11, TX11, 34, tyX11, fun _ h => (List.mem_cons_of_mem _ (List.mem_append_left _ (List.mem_append_right _ h))), tyX11_ok, nmX11, (List.mem_cons_of_mem _ (List.mem_append_left _ (List.mem_append_left _ (List.mem_append_left _ (List.mem_of_getElem? (i := 1) rfl))))), rfl, by decide, rfl, rfl, by decide +kernel, rfl⟩
set_option maxRecDepth 100000 in
set_option maxHeartbeats 4000000 in
theorem c_X11_turn (l : Launch) (dd : kDD) (ad : Nat → Nat) (M : mS) (v : Int32) (p : Int32) (nt : Nat) (hT : M.1 10 = nI nt ∧ nt ≤ 12) (nV : Nat) (hV : M.1 21 = nI nV ∧ nV ≤ 4) (cn : Nat → Nat) (hcn : ∀ i, i < 12 → M.2.1 12 i = nI (cn i) ∧ cn i ≤ 4) (nm : Nat → Nat) (hnm : ∀ k, k < 48 → M.2.1 14 k = nI (nm k) ∧ nm k < 12) (mI : Int32 → Nat → Nat) (hmI : ∀ o j, j < 12 → mnt o (M.2.1 22) j nV 0 = nI (mI o j) ∧ mI o j < 12) : kCi l yX11_turn wsX11_turn ({ frames := 3, cells := 0, slots := 0, locals := 68 } : Room) 0 0 dd [.ref (ad 0), .int v, .int p] (mK, ad, mE dd ad M) (kQi (S := mS) (fun r z => (¬ (∃ j, j < nV ∧ v = nI j) ∧ mT M 1 = z ∧ r = 0) ∨ ∃ j, ∃ o, ∃ X, (j < nV ∧ v = nI j ∧ o = (if p = 0 then M.1 24 &&& (((1 : Int32) <<< (nI j &&& 31)) ^^^ -1) else M.1 24 ||| ((1 : Int32) <<< (nI j &&& 31)))) ∧ (((∀ k, k < nt → mD (M.2.1 13) cn (fun k => mI o (nm k)) nt (M.2.1 30) 3 k ≤ 3) ∧ (va_up (va_up M.1 0 0) 24 o, va_up M.2.1 30 (mD (M.2.1 13) cn (fun k => mI o (nm k)) nt (M.2.1 30) 3), va_up M.2.2 33 X) = z ∧ r = (if M.1 24 >>> (nI j &&& 31) &&& 1 = 1 then 1 else 0)) ∨ (¬ (∀ k, k < nt → mD (M.2.1 13) cn (fun k => mI o (nm k)) nt (M.2.1 30) 3 k ≤ 3) ∧ (va_up (va_up (va_up (va_up M.1 0 0) 24 o) 0 2) 24 (M.1 24), va_up M.2.1 30 (mD (M.2.1 13) cn (fun k => mI o (nm k)) nt (M.2.1 30) 3), va_up M.2.2 33 X) = z ∧ r = 0))) (fun _ => mK) (fun _ => ad) (fun z => mE dd ad z)) := by
  refine kMeti (ws' := _) (cc := cX11_turn) (maxL := 4) (rt := .boolean) (by decide) rfl (Nat.le_of_ble_eq_true rfl) (fun g X hr hnL hRR hl0 hkn => ?_)
  show kv dd g 0 0 0 [(0, .ref (ad 0)), (1, .int v), (2, .int p)] [] mK ad (mE dd ad M)
  refine kv_aload_n X 0 dX11_turn_0 rfl rfl ?_
  refine kv_iconst (v := 0) X dX11_turn_1 (by decide) ?_
  refine km_put X 0 (x := 0) fp_X11_turn_86 (by decide) dX11_turn_2 ?_
  refine kv_aload_n X 0 dX11_turn_5 rfl rfl ?_
  refine kv_aload_n X 0 dX11_turn_6 rfl rfl ?_
  refine kv_iload_n X 1 dX11_turn_7 rfl rfl ?_
  refine kv_calliV (ci := 14) (κ := 0) (r1 := (TX11, 34)) (As := [.int v]) [.ref (ad 0)] X (c_X11_noVariant l dd ad ((va_up M.1 0 0), M.2.1, M.2.2) v nV hV.2 hV.1) hl0 (kCV_of X 1 gX11_turn_X11_noVariant rfl rfl rfl (by decide +kernel) hRR ⟨Nat.le_of_ble_eq_true rfl, Nat.le_of_ble_eq_true rfl⟩) (by decide) rfl rfl rfl rfl (Nat.le_of_ble_eq_true rfl) hRR ⟨Nat.le_of_ble_eq_true rfl, Nat.le_of_ble_eq_true rfl⟩ dX11_turn_8 (fun r z hp => ?_)
  obtain ⟨rfl, ⟨rfl, h8⟩ | ⟨rfl, j8, h8, rfl⟩⟩ := hp
  ·
    refine kv_iconst (v := 1) X dX11_turn_11 (by decide) ?_
    refine kv_calliV (ci := 14) (κ := 0) (r1 := (TX11, 34)) (As := [.int 1, .int 1]) [] X (c_X11_fails1 l dd ad ((va_up M.1 0 0), M.2.1, M.2.2) 1 (by decide) rfl) hl0 (kCV_of X 2 gX11_turn_X11_fails rfl rfl rfl (by decide +kernel) hRR ⟨Nat.le_of_ble_eq_true rfl, Nat.le_of_ble_eq_true rfl⟩) (by decide) rfl rfl rfl rfl (Nat.le_of_ble_eq_true rfl) hRR ⟨Nat.le_of_ble_eq_true rfl, Nat.le_of_ble_eq_true rfl⟩ dX11_turn_12 (fun r z hp => ?_)
    obtain ⟨rfl, rfl⟩ := hp
    refine kv_if_eq (tgt := 20) X dX11_turn_15 (by decide) (fun hc => absurd hc (by decide)) (fun hc15 => ?_)
    refine kv_iconst (v := 0) X dX11_turn_18 (by decide) ?_
    exact kv_zreturn X hr rfl (by decide) (by decide) ⟨((va_up (va_up M.1 0 0) 0 1), M.2.1, M.2.2), Or.inl ⟨h8, rfl, rfl⟩, rfl⟩ dX11_turn_19
  ·
    refine kv_iconst (v := 1) X dX11_turn_11 (by decide) ?_
    refine kv_calliV (ci := 14) (κ := 0) (r1 := (TX11, 34)) (As := [.int 0, .int 1]) [] X (c_X11_fails0 l dd ad ((va_up M.1 0 0), M.2.1, M.2.2) 1 rfl) hl0 (kCV_of X 2 gX11_turn_X11_fails rfl rfl rfl (by decide +kernel) hRR ⟨Nat.le_of_ble_eq_true rfl, Nat.le_of_ble_eq_true rfl⟩) (by decide) rfl rfl rfl rfl (Nat.le_of_ble_eq_true rfl) hRR ⟨Nat.le_of_ble_eq_true rfl, Nat.le_of_ble_eq_true rfl⟩ dX11_turn_12 (fun r z hp => ?_)
    obtain ⟨rfl, rfl⟩ := hp
    refine kv_if_eq (tgt := 20) X dX11_turn_15 (by decide) (fun hc15 => ?_) (fun hc => absurd hc (by decide))
    refine kv_aload_n X 0 dX11_turn_20 rfl rfl ?_
    refine km_get X 24 (v := .int (M.1 24)) f_X11_turn_117 rfl dX11_turn_21 ?_
    refine kv_istore_n (lv2 := [(3, .int (M.1 24)), (0, .ref (ad 0)), (1, .int (nI j8)), (2, .int p)]) X dX11_turn_24 rfl (by rw [hnL]; decide) rfl ?_
    refine kv_aload_n X 1 dX11_turn_25 rfl rfl ?_
    refine kv_iload_n X 3 dX11_turn_26 rfl rfl ?_
    refine kv_if_eq (tgt := 41) X dX11_turn_27 (by decide) (fun hc27 => ?_) (fun hc27 => ?_)
    ·
      refine kv_aload_n X 1 dX11_turn_41 rfl rfl ?_
      refine km_get X 24 (v := .int (M.1 24)) f_X11_turn_117 rfl dX11_turn_42 ?_
      refine kv_iconst (v := 1) X dX11_turn_45 (by decide) ?_
      refine kv_iload_n X 2 dX11_turn_46 rfl rfl ?_
      refine kv_ishl X dX11_turn_47 ?_
      refine kv_iconst (v := (-1)) X dX11_turn_48 (by decide) ?_
      refine kv_ixor X dX11_turn_49 ?_
      refine kv_iand X dX11_turn_50 ?_
      refine km_put X 24 (x := ((M.1 24) &&& ((1 <<< ((nI j8) &&& 31)) ^^^ (-1)))) fp_X11_turn_117 (by decide) dX11_turn_51 ?_
      refine kv_aload_n X 1 dX11_turn_54 rfl rfl ?_
      refine kv_aload_n X 1 dX11_turn_55 rfl rfl ?_
      refine kv_calliV (ci := 14) (κ := 0) (r1 := (TX11, 34)) (As := []) [.ref (ad 0)] X (c_X11_isAllowed l dd ad ((va_up (va_up M.1 0 0) 24 ((M.1 24) &&& ((1 <<< ((nI j8) &&& 31)) ^^^ (-1)))), M.2.1, M.2.2) nt hT nV hV cn hcn nm hnm (mI ((M.1 24) &&& ((1 <<< ((nI j8) &&& 31)) ^^^ (-1)))) (hmI ((M.1 24) &&& ((1 <<< ((nI j8) &&& 31)) ^^^ (-1))))) hl0 (kCV_of X 0 gX11_turn_X11_isAllowed rfl rfl rfl (by decide +kernel) hRR ⟨Nat.le_of_ble_eq_true rfl, Nat.le_of_ble_eq_true rfl⟩) (by decide) rfl rfl rfl rfl (Nat.le_of_ble_eq_true rfl) hRR ⟨Nat.le_of_ble_eq_true rfl, Nat.le_of_ble_eq_true rfl⟩ dX11_turn_56 (fun r z hp => ?_)
      obtain ⟨X56, rfl, ⟨rfl, h56⟩ | ⟨rfl, h56⟩⟩ := hp
      ·
        refine kv_if_ne (tgt := 66) X dX11_turn_59 (by decide) (fun hc59 => ?_) (fun hc => absurd hc (by decide))
        refine kv_iconst (v := 0) X dX11_turn_66 (by decide) ?_
        refine kv_iconst (v := 2) X dX11_turn_67 (by decide) ?_
        refine kv_calliV (ci := 14) (κ := 0) (r1 := (TX11, 34)) (As := [.int 0, .int 2]) [] X (c_X11_fails0 l dd ad ((va_up (va_up M.1 0 0) 24 ((M.1 24) &&& ((1 <<< ((nI j8) &&& 31)) ^^^ (-1)))), (va_up M.2.1 30 (mD (M.2.1 13) cn (fun k => (mI ((M.1 24) &&& ((1 <<< ((nI j8) &&& 31)) ^^^ (-1)))) (nm k)) nt (M.2.1 30) 3)), (va_up M.2.2 33 X56)) 2 rfl) hl0 (kCV_of X 2 gX11_turn_X11_fails rfl rfl rfl (by decide +kernel) hRR ⟨Nat.le_of_ble_eq_true rfl, Nat.le_of_ble_eq_true rfl⟩) (by decide) rfl rfl rfl rfl (Nat.le_of_ble_eq_true rfl) hRR ⟨Nat.le_of_ble_eq_true rfl, Nat.le_of_ble_eq_true rfl⟩ dX11_turn_68 (fun r z hp => ?_)
        obtain ⟨rfl, rfl⟩ := hp
        refine kv_if_eq (tgt := 81) X dX11_turn_71 (by decide) (fun hc71 => ?_) (fun hc => absurd hc (by decide))
        refine kv_iload_n X 0 dX11_turn_81 rfl rfl ?_
        refine kv_iload_n X 2 dX11_turn_82 rfl rfl ?_
        refine kv_ishr X dX11_turn_83 ?_
        refine kv_iconst (v := 1) X dX11_turn_84 (by decide) ?_
        refine kv_iand X dX11_turn_85 ?_
        refine kv_iconst (v := 1) X dX11_turn_86 (by decide) ?_
        refine kv_icmp_ne (tgt := 94) X dX11_turn_87 (by decide) (fun hc87 => ?_) (fun hc87 => ?_)
        ·
          refine kv_iconst (v := 0) X dX11_turn_94 (by decide) ?_
          exact kv_zreturn X hr rfl (by decide) (by decide) ⟨((va_up (va_up M.1 0 0) 24 ((M.1 24) &&& ((1 <<< ((nI j8) &&& 31)) ^^^ (-1)))), (va_up M.2.1 30 (mD (M.2.1 13) cn (fun k => (mI ((M.1 24) &&& ((1 <<< ((nI j8) &&& 31)) ^^^ (-1)))) (nm k)) nt (M.2.1 30) 3)), (va_up M.2.2 33 X56)), Or.inr ⟨j8, _, X56, ⟨h8, rfl, by first | rw [if_pos hc27] | rw [if_neg hc27]⟩, Or.inl ⟨h56, rfl, by rw [if_neg hc87]⟩⟩, rfl⟩ dX11_turn_95
        ·
          refine kv_iconst (v := 1) X dX11_turn_90 (by decide) ?_
          refine kv_goto (tgt := 95) X dX11_turn_91 (by decide) ?_
          exact kv_zreturn X hr rfl (by decide) (by decide) ⟨((va_up (va_up M.1 0 0) 24 ((M.1 24) &&& ((1 <<< ((nI j8) &&& 31)) ^^^ (-1)))), (va_up M.2.1 30 (mD (M.2.1 13) cn (fun k => (mI ((M.1 24) &&& ((1 <<< ((nI j8) &&& 31)) ^^^ (-1)))) (nm k)) nt (M.2.1 30) 3)), (va_up M.2.2 33 X56)), Or.inr ⟨j8, _, X56, ⟨h8, rfl, by first | rw [if_pos hc27] | rw [if_neg hc27]⟩, Or.inl ⟨h56, rfl, by rw [if_pos hc87]⟩⟩, rfl⟩ dX11_turn_95
      ·
        refine kv_if_ne (tgt := 66) X dX11_turn_59 (by decide) (fun hc => absurd hc (by decide)) (fun hc59 => ?_)
        refine kv_iconst (v := 1) X dX11_turn_62 (by decide) ?_
        refine kv_goto (tgt := 67) X dX11_turn_63 (by decide) ?_
        refine kv_iconst (v := 2) X dX11_turn_67 (by decide) ?_
        refine kv_calliV (ci := 14) (κ := 0) (r1 := (TX11, 34)) (As := [.int 1, .int 2]) [] X (c_X11_fails1 l dd ad ((va_up (va_up M.1 0 0) 24 ((M.1 24) &&& ((1 <<< ((nI j8) &&& 31)) ^^^ (-1)))), (va_up M.2.1 30 (mD (M.2.1 13) cn (fun k => (mI ((M.1 24) &&& ((1 <<< ((nI j8) &&& 31)) ^^^ (-1)))) (nm k)) nt (M.2.1 30) 3)), (va_up M.2.2 33 X56)) 2 (by decide) rfl) hl0 (kCV_of X 2 gX11_turn_X11_fails rfl rfl rfl (by decide +kernel) hRR ⟨Nat.le_of_ble_eq_true rfl, Nat.le_of_ble_eq_true rfl⟩) (by decide) rfl rfl rfl rfl (Nat.le_of_ble_eq_true rfl) hRR ⟨Nat.le_of_ble_eq_true rfl, Nat.le_of_ble_eq_true rfl⟩ dX11_turn_68 (fun r z hp => ?_)
        obtain ⟨rfl, rfl⟩ := hp
        refine kv_if_eq (tgt := 81) X dX11_turn_71 (by decide) (fun hc => absurd hc (by decide)) (fun hc71 => ?_)
        refine kv_aload_n X 1 dX11_turn_74 rfl rfl ?_
        refine kv_iload_n X 0 dX11_turn_75 rfl rfl ?_
        refine km_put X 24 (x := (M.1 24)) fp_X11_turn_117 (by decide) dX11_turn_76 ?_
        refine kv_iconst (v := 0) X dX11_turn_79 (by decide) ?_
        exact kv_zreturn X hr rfl (by decide) (by decide) ⟨((va_up (va_up (va_up (va_up M.1 0 0) 24 ((M.1 24) &&& ((1 <<< ((nI j8) &&& 31)) ^^^ (-1)))) 0 2) 24 (M.1 24)), (va_up M.2.1 30 (mD (M.2.1 13) cn (fun k => (mI ((M.1 24) &&& ((1 <<< ((nI j8) &&& 31)) ^^^ (-1)))) (nm k)) nt (M.2.1 30) 3)), (va_up M.2.2 33 X56)), Or.inr ⟨j8, _, X56, ⟨h8, rfl, by first | rw [if_pos hc27] | rw [if_neg hc27]⟩, Or.inr ⟨h56, rfl, rfl⟩⟩, rfl⟩ dX11_turn_80
    ·
      refine kv_aload_n X 1 dX11_turn_30 rfl rfl ?_
      refine km_get X 24 (v := .int (M.1 24)) f_X11_turn_117 rfl dX11_turn_31 ?_
      refine kv_iconst (v := 1) X dX11_turn_34 (by decide) ?_
      refine kv_iload_n X 2 dX11_turn_35 rfl rfl ?_
      refine kv_ishl X dX11_turn_36 ?_
      refine kv_ior X dX11_turn_37 ?_
      refine kv_goto (tgt := 51) X dX11_turn_38 (by decide) ?_
      refine km_put X 24 (x := ((M.1 24) ||| (1 <<< ((nI j8) &&& 31)))) fp_X11_turn_117 (by decide) dX11_turn_51 ?_
      refine kv_aload_n X 1 dX11_turn_54 rfl rfl ?_
      refine kv_aload_n X 1 dX11_turn_55 rfl rfl ?_
      refine kv_calliV (ci := 14) (κ := 0) (r1 := (TX11, 34)) (As := []) [.ref (ad 0)] X (c_X11_isAllowed l dd ad ((va_up (va_up M.1 0 0) 24 ((M.1 24) ||| (1 <<< ((nI j8) &&& 31)))), M.2.1, M.2.2) nt hT nV hV cn hcn nm hnm (mI ((M.1 24) ||| (1 <<< ((nI j8) &&& 31)))) (hmI ((M.1 24) ||| (1 <<< ((nI j8) &&& 31))))) hl0 (kCV_of X 0 gX11_turn_X11_isAllowed rfl rfl rfl (by decide +kernel) hRR ⟨Nat.le_of_ble_eq_true rfl, Nat.le_of_ble_eq_true rfl⟩) (by decide) rfl rfl rfl rfl (Nat.le_of_ble_eq_true rfl) hRR ⟨Nat.le_of_ble_eq_true rfl, Nat.le_of_ble_eq_true rfl⟩ dX11_turn_56 (fun r z hp => ?_)
      obtain ⟨X56, rfl, ⟨rfl, h56⟩ | ⟨rfl, h56⟩⟩ := hp
      ·
        refine kv_if_ne (tgt := 66) X dX11_turn_59 (by decide) (fun hc59 => ?_) (fun hc => absurd hc (by decide))
        refine kv_iconst (v := 0) X dX11_turn_66 (by decide) ?_
        refine kv_iconst (v := 2) X dX11_turn_67 (by decide) ?_
        refine kv_calliV (ci := 14) (κ := 0) (r1 := (TX11, 34)) (As := [.int 0, .int 2]) [] X (c_X11_fails0 l dd ad ((va_up (va_up M.1 0 0) 24 ((M.1 24) ||| (1 <<< ((nI j8) &&& 31)))), (va_up M.2.1 30 (mD (M.2.1 13) cn (fun k => (mI ((M.1 24) ||| (1 <<< ((nI j8) &&& 31)))) (nm k)) nt (M.2.1 30) 3)), (va_up M.2.2 33 X56)) 2 rfl) hl0 (kCV_of X 2 gX11_turn_X11_fails rfl rfl rfl (by decide +kernel) hRR ⟨Nat.le_of_ble_eq_true rfl, Nat.le_of_ble_eq_true rfl⟩) (by decide) rfl rfl rfl rfl (Nat.le_of_ble_eq_true rfl) hRR ⟨Nat.le_of_ble_eq_true rfl, Nat.le_of_ble_eq_true rfl⟩ dX11_turn_68 (fun r z hp => ?_)
        obtain ⟨rfl, rfl⟩ := hp
        refine kv_if_eq (tgt := 81) X dX11_turn_71 (by decide) (fun hc71 => ?_) (fun hc => absurd hc (by decide))
        refine kv_iload_n X 0 dX11_turn_81 rfl rfl ?_
        refine kv_iload_n X 2 dX11_turn_82 rfl rfl ?_
        refine kv_ishr X dX11_turn_83 ?_
        refine kv_iconst (v := 1) X dX11_turn_84 (by decide) ?_
        refine kv_iand X dX11_turn_85 ?_
        refine kv_iconst (v := 1) X dX11_turn_86 (by decide) ?_
        refine kv_icmp_ne (tgt := 94) X dX11_turn_87 (by decide) (fun hc87 => ?_) (fun hc87 => ?_)
        ·
          refine kv_iconst (v := 0) X dX11_turn_94 (by decide) ?_
          exact kv_zreturn X hr rfl (by decide) (by decide) ⟨((va_up (va_up M.1 0 0) 24 ((M.1 24) ||| (1 <<< ((nI j8) &&& 31)))), (va_up M.2.1 30 (mD (M.2.1 13) cn (fun k => (mI ((M.1 24) ||| (1 <<< ((nI j8) &&& 31)))) (nm k)) nt (M.2.1 30) 3)), (va_up M.2.2 33 X56)), Or.inr ⟨j8, _, X56, ⟨h8, rfl, by first | rw [if_pos hc27] | rw [if_neg hc27]⟩, Or.inl ⟨h56, rfl, by rw [if_neg hc87]⟩⟩, rfl⟩ dX11_turn_95
        ·
          refine kv_iconst (v := 1) X dX11_turn_90 (by decide) ?_
          refine kv_goto (tgt := 95) X dX11_turn_91 (by decide) ?_
          exact kv_zreturn X hr rfl (by decide) (by decide) ⟨((va_up (va_up M.1 0 0) 24 ((M.1 24) ||| (1 <<< ((nI j8) &&& 31)))), (va_up M.2.1 30 (mD (M.2.1 13) cn (fun k => (mI ((M.1 24) ||| (1 <<< ((nI j8) &&& 31)))) (nm k)) nt (M.2.1 30) 3)), (va_up M.2.2 33 X56)), Or.inr ⟨j8, _, X56, ⟨h8, rfl, by first | rw [if_pos hc27] | rw [if_neg hc27]⟩, Or.inl ⟨h56, rfl, by rw [if_pos hc87]⟩⟩, rfl⟩ dX11_turn_95
      ·
        refine kv_if_ne (tgt := 66) X dX11_turn_59 (by decide) (fun hc => absurd hc (by decide)) (fun hc59 => ?_)
        refine kv_iconst (v := 1) X dX11_turn_62 (by decide) ?_
        refine kv_goto (tgt := 67) X dX11_turn_63 (by decide) ?_
        refine kv_iconst (v := 2) X dX11_turn_67 (by decide) ?_
        refine kv_calliV (ci := 14) (κ := 0) (r1 := (TX11, 34)) (As := [.int 1, .int 2]) [] X (c_X11_fails1 l dd ad ((va_up (va_up M.1 0 0) 24 ((M.1 24) ||| (1 <<< ((nI j8) &&& 31)))), (va_up M.2.1 30 (mD (M.2.1 13) cn (fun k => (mI ((M.1 24) ||| (1 <<< ((nI j8) &&& 31)))) (nm k)) nt (M.2.1 30) 3)), (va_up M.2.2 33 X56)) 2 (by decide) rfl) hl0 (kCV_of X 2 gX11_turn_X11_fails rfl rfl rfl (by decide +kernel) hRR ⟨Nat.le_of_ble_eq_true rfl, Nat.le_of_ble_eq_true rfl⟩) (by decide) rfl rfl rfl rfl (Nat.le_of_ble_eq_true rfl) hRR ⟨Nat.le_of_ble_eq_true rfl, Nat.le_of_ble_eq_true rfl⟩ dX11_turn_68 (fun r z hp => ?_)
        obtain ⟨rfl, rfl⟩ := hp
        refine kv_if_eq (tgt := 81) X dX11_turn_71 (by decide) (fun hc => absurd hc (by decide)) (fun hc71 => ?_)
        refine kv_aload_n X 1 dX11_turn_74 rfl rfl ?_
        refine kv_iload_n X 0 dX11_turn_75 rfl rfl ?_
        refine km_put X 24 (x := (M.1 24)) fp_X11_turn_117 (by decide) dX11_turn_76 ?_
        refine kv_iconst (v := 0) X dX11_turn_79 (by decide) ?_
        exact kv_zreturn X hr rfl (by decide) (by decide) ⟨((va_up (va_up (va_up (va_up M.1 0 0) 24 ((M.1 24) ||| (1 <<< ((nI j8) &&& 31)))) 0 2) 24 (M.1 24)), (va_up M.2.1 30 (mD (M.2.1 13) cn (fun k => (mI ((M.1 24) ||| (1 <<< ((nI j8) &&& 31)))) (nm k)) nt (M.2.1 30) 3)), (va_up M.2.2 33 X56)), Or.inr ⟨j8, _, X56, ⟨h8, rfl, by first | rw [if_pos hc27] | rw [if_neg hc27]⟩, Or.inr ⟨h56, rfl, rfl⟩⟩, rfl⟩ dX11_turn_80
theorem fp_X11_difference_86 : kFp wsX11_difference RX11 86 14 0 .int false := ⟨_, RX11, TX11, 34, tyX11, fun _ h => (List.mem_cons_of_mem _ (List.mem_append_left _ (List.mem_append_left _ (List.mem_append_right _ h)))), tyX11_ok, nmX11, (List.mem_cons_of_mem _ (List.mem_append_left _ (List.mem_append_left _ (List.mem_append_left _ (List.mem_append_left _ (List.mem_of_getElem? (i := 0) rfl)))))), rfl, by decide, rfl, rfl, by decide +kernel, rfl⟩
theorem f_X11_difference_117 : kF wsX11_difference RX11 117 14 24 := ⟨_, RX11, TX11, 34, fun _ h => (List.mem_cons_of_mem _ (List.mem_append_left _ (List.mem_append_left _ (List.mem_append_right _ h)))), (List.mem_cons_of_mem _ (List.mem_append_left _ (List.mem_append_left _ (List.mem_append_left _ (List.mem_append_left _ (List.mem_of_getElem? (i := 1) rfl)))))), rfl, by decide, rfl⟩
theorem fp_X11_difference_117 : kFp wsX11_difference RX11 117 14 24 .int false := ⟨_, RX11, TX11, 34, tyX11, fun _ h => (List.mem_cons_of_mem _ (List.mem_append_left _ (List.mem_append_left _ (List.mem_append_right _ h)))), tyX11_ok, nmX11, (List.mem_cons_of_mem _ (List.mem_append_left _ (List.mem_append_left _ (List.mem_append_left _ (List.mem_append_left _ (List.mem_of_getElem? (i := 1) rfl)))))), rfl, by decide, rfl, rfl, by decide +kernel, rfl⟩
set_option maxRecDepth 100000 in
set_option maxHeartbeats 4000000 in
theorem c_X11_difference (l : Launch) (dd : kDD) (ad : Nat → Nat) (M : mS) (v : Int32) (nt : Nat) (hT : M.1 10 = nI nt ∧ nt ≤ 12) (nV : Nat) (hV : M.1 21 = nI nV ∧ nV ≤ 4) (cn : Nat → Nat) (hcn : ∀ i, i < 12 → M.2.1 12 i = nI (cn i) ∧ cn i ≤ 4) (nm : Nat → Nat) (hnm : ∀ k, k < 48 → M.2.1 14 k = nI (nm k) ∧ nm k < 12) (mn : Nat → Nat) (hmn : ∀ i, i < 4 → M.2.1 7 i = nI (mn i) ∧ mn i ≤ 3) (mI : Int32 → Nat → Nat) (hmI : ∀ o j, j < 12 → mnt o (M.2.1 22) j nV 0 = nI (mI o j) ∧ mI o j < 12) (mR : Int32 → Nat → Nat) (hmR : ∀ o j, j < 12 → mnt o (M.2.1 23) j nV 0 = nI (mR o j) ∧ mR o j < 12) (me : Nat → Nat) (hme : ∀ q, q < 12 → M.2.1 8 q = nI (me q) ∧ me q < 12) (hs2 : ∀ k, k < 48 → M.2.1 13 k = 2 → nm k < 4) (hvG : ∀ o i, i < nt → ∀ k, k < cn i → M.2.1 13 (4 * i + k) = 0 → mI o (nm (4 * i + k)) < nt) (nL : Nat) (hL : M.1 16 = nI nL ∧ nL ≤ 10) (nW : Nat) (hW : M.1 18 = nI nW ∧ nW ≤ 40) (li : Nat → Nat) (hli : ∀ l, l < 10 → M.2.1 17 l = nI (li l) ∧ li l < 12) (hlG : ∀ o l, l < nL → mI o (li l) < nt) (nR : Nat) (hR : M.1 1 = nI nR ∧ nR ≤ 12) (nM : Nat) (hM : M.1 25 = nI nM ∧ nM ≤ 4) (hpk : ∀ r, r < nR → 1 ≤ M.2.1 5 r) : kCl l yX11_difference wsX11_difference ({ frames := 6, cells := 0, slots := 0, locals := 146 } : Room) 0 0 dd [.ref (ad 0), .int v] (mK, ad, mE dd ad M) (kQl (S := mS) (fun r z => (¬ (∃ j, j < nV ∧ v = nI j) ∧ mT M 1 = z ∧ r = 0) ∨ ∃ j, ∃ D, ∃ B, (j < nV ∧ v = nI j) ∧ (((∀ k, k < nt → mD (M.2.1 13) cn (fun k => mI (M.1 24 ^^^ (1 : Int32) <<< (nI j &&& 31)) (nm k)) nt (M.2.1 30) 3 k ≤ 3) ∧ (va_up (va_up (va_up M.1 0 0) 24 (M.1 24 ^^^ (1 : Int32) <<< (nI j &&& 31))) 24 (M.1 24), va_up M.2.1 30 D, B) = z ∧ r = mtot (M.2.1 2) (M.2.1 4) (M.2.1 5) (M.2.1 3) (M.2.1 27) (M.2.1 26) (fun r => msumL (fun l => mq (M.2.1 19) (M.2.1 20) (nI l) nW) (fun l => mN (M.2.1 13) (M.2.1 15) cn (fun k => (mI (M.1 24 ^^^ (1 : Int32) <<< (nI j &&& 31))) (nm k)) (mdir (M.2.1 13) (M.2.1 15) (M.2.1 9) (M.2.1 3) (M.2.1 11) cn nm mn (mR (M.1 24 ^^^ (1 : Int32) <<< (nI j &&& 31))) me (nI r) (-1)) 2 ((mI (M.1 24 ^^^ (1 : Int32) <<< (nI j &&& 31))) (li l))) nL) nR nM - mtot (M.2.1 2) (M.2.1 4) (M.2.1 5) (M.2.1 3) (M.2.1 27) (M.2.1 26) (fun r => msumL (fun l => mq (M.2.1 19) (M.2.1 20) (nI l) nW) (fun l => mN (M.2.1 13) (M.2.1 15) cn (fun k => (mI (M.1 24)) (nm k)) (mdir (M.2.1 13) (M.2.1 15) (M.2.1 9) (M.2.1 3) (M.2.1 11) cn nm mn (mR (M.1 24)) me (nI r) (-1)) 2 ((mI (M.1 24)) (li l))) nL) nR nM) ∨ (¬ (∀ k, k < nt → mD (M.2.1 13) cn (fun k => mI (M.1 24 ^^^ (1 : Int32) <<< (nI j &&& 31)) (nm k)) nt (M.2.1 30) 3 k ≤ 3) ∧ (va_up (va_up (va_up (va_up M.1 0 0) 24 (M.1 24 ^^^ (1 : Int32) <<< (nI j &&& 31))) 24 (M.1 24)) 0 2, va_up M.2.1 30 D, B) = z ∧ r = 0))) (fun _ => mK) (fun _ => ad) (fun z => mE dd ad z)) := by
  refine kMetl (ws' := _) (cc := cX11_difference) (maxL := 8) (rt := .long) (by decide) rfl (Nat.le_of_ble_eq_true rfl) (fun g X hr hnL hRR hl0 hkn => ?_)
  show kv dd g 0 0 0 [(0, .ref (ad 0)), (1, .int v)] [] mK ad (mE dd ad M)
  refine kv_aload_n X 0 dX11_difference_0 rfl rfl ?_
  refine kv_iconst (v := 0) X dX11_difference_1 (by decide) ?_
  refine km_put X 0 (x := 0) fp_X11_difference_86 (by decide) dX11_difference_2 ?_
  refine kv_aload_n X 0 dX11_difference_5 rfl rfl ?_
  refine kv_aload_n X 0 dX11_difference_6 rfl rfl ?_
  refine kv_iload_n X 1 dX11_difference_7 rfl rfl ?_
  refine kv_calliV (ci := 14) (κ := 0) (r1 := (TX11, 34)) (As := [.int v]) [.ref (ad 0)] X (c_X11_noVariant l dd ad ((va_up M.1 0 0), M.2.1, M.2.2) v nV hV.2 hV.1) hl0 (kCV_of X 1 gX11_difference_X11_noVariant rfl rfl rfl (by decide +kernel) hRR ⟨Nat.le_of_ble_eq_true rfl, Nat.le_of_ble_eq_true rfl⟩) (by decide) rfl rfl rfl rfl (Nat.le_of_ble_eq_true rfl) hRR ⟨Nat.le_of_ble_eq_true rfl, Nat.le_of_ble_eq_true rfl⟩ dX11_difference_8 (fun r z hp => ?_)
  obtain ⟨rfl, ⟨rfl, h8⟩ | ⟨rfl, j8, h8, rfl⟩⟩ := hp
  ·
    refine kv_iconst (v := 1) X dX11_difference_11 (by decide) ?_
    refine kv_calliV (ci := 14) (κ := 0) (r1 := (TX11, 34)) (As := [.int 1, .int 1]) [] X (c_X11_fails1 l dd ad ((va_up M.1 0 0), M.2.1, M.2.2) 1 (by decide) rfl) hl0 (kCV_of X 2 gX11_difference_X11_fails rfl rfl rfl (by decide +kernel) hRR ⟨Nat.le_of_ble_eq_true rfl, Nat.le_of_ble_eq_true rfl⟩) (by decide) rfl rfl rfl rfl (Nat.le_of_ble_eq_true rfl) hRR ⟨Nat.le_of_ble_eq_true rfl, Nat.le_of_ble_eq_true rfl⟩ dX11_difference_12 (fun r z hp => ?_)
    obtain ⟨rfl, rfl⟩ := hp
    refine kv_if_eq (tgt := 20) X dX11_difference_15 (by decide) (fun hc => absurd hc (by decide)) (fun hc15 => ?_)
    refine kv_lconst (v := 0) X dX11_difference_18 (by decide) ?_
    exact kv_lreturn X hr (by decide) (by decide) ⟨((va_up (va_up M.1 0 0) 0 1), M.2.1, M.2.2), Or.inl ⟨h8, rfl, rfl⟩, rfl⟩ dX11_difference_19
  ·
    refine kv_iconst (v := 1) X dX11_difference_11 (by decide) ?_
    refine kv_calliV (ci := 14) (κ := 0) (r1 := (TX11, 34)) (As := [.int 0, .int 1]) [] X (c_X11_fails0 l dd ad ((va_up M.1 0 0), M.2.1, M.2.2) 1 rfl) hl0 (kCV_of X 2 gX11_difference_X11_fails rfl rfl rfl (by decide +kernel) hRR ⟨Nat.le_of_ble_eq_true rfl, Nat.le_of_ble_eq_true rfl⟩) (by decide) rfl rfl rfl rfl (Nat.le_of_ble_eq_true rfl) hRR ⟨Nat.le_of_ble_eq_true rfl, Nat.le_of_ble_eq_true rfl⟩ dX11_difference_12 (fun r z hp => ?_)
    obtain ⟨rfl, rfl⟩ := hp
    refine kv_if_eq (tgt := 20) X dX11_difference_15 (by decide) (fun hc15 => ?_) (fun hc => absurd hc (by decide))
    refine kv_aload_n X 0 dX11_difference_20 rfl rfl ?_
    refine kv_calllV (ci := 14) (κ := 0) (r1 := (TX11, 34)) (As := []) [] X (c_X11_totalNow l dd ad ((va_up M.1 0 0), M.2.1, M.2.2) nt hT nV hV cn hcn nm hnm mn hmn (mI (M.1 24)) (hmI (M.1 24)) (mR (M.1 24)) (hmR (M.1 24)) me hme hs2 (hvG (M.1 24)) nL hL nW hW li hli (hlG (M.1 24)) nR hR nM hM hpk) hl0 (kCV_of X 0 gX11_difference_X11_totalNow rfl rfl rfl (by decide +kernel) hRR ⟨Nat.le_of_ble_eq_true rfl, Nat.le_of_ble_eq_true rfl⟩) (by decide) rfl rfl rfl rfl (Nat.le_of_ble_eq_true rfl) hRR ⟨Nat.le_of_ble_eq_true rfl, Nat.le_of_ble_eq_true rfl⟩ dX11_difference_21 (fun r z hp => ?_)
    obtain ⟨X21, X21y, X21z, rfl, rfl⟩ := hp
    refine kv_topl (mtot (M.2.1 2) (M.2.1 4) (M.2.1 5) (M.2.1 3) (M.2.1 27) (M.2.1 26) (fun r => msumL (fun l => mq (M.2.1 19) (M.2.1 20) (nI l) nW) (fun l => mN (M.2.1 13) (M.2.1 15) cn (fun k => (mI (M.1 24)) (nm k)) (mdir (M.2.1 13) (M.2.1 15) (M.2.1 9) (M.2.1 3) (M.2.1 11) cn nm mn (mR (M.1 24)) me (nI r) (-1)) 2 ((mI (M.1 24)) (li l))) nL) nR nM) tot_clean ?_
    refine kv_lstore_n (lv2 := [(2, .long (mtot (M.2.1 2) (M.2.1 4) (M.2.1 5) (M.2.1 3) (M.2.1 27) (M.2.1 26) (fun r => msumL (fun l => mq (M.2.1 19) (M.2.1 20) (nI l) nW) (fun l => mN (M.2.1 13) (M.2.1 15) cn (fun k => (mI (M.1 24)) (nm k)) (mdir (M.2.1 13) (M.2.1 15) (M.2.1 9) (M.2.1 3) (M.2.1 11) cn nm mn (mR (M.1 24)) me (nI r) (-1)) 2 ((mI (M.1 24)) (li l))) nL) nR nM)), (0, .ref (ad 0)), (1, .int (nI j8))]) X dX11_difference_24 rfl (by rw [hnL]; decide) rfl ?_
    refine kv_aload_n X 1 dX11_difference_25 rfl rfl ?_
    refine km_get X 24 (v := .int (M.1 24)) f_X11_difference_117 rfl dX11_difference_26 ?_
    refine kv_istore (lv2 := [(4, .int (M.1 24)), (2, .long (mtot (M.2.1 2) (M.2.1 4) (M.2.1 5) (M.2.1 3) (M.2.1 27) (M.2.1 26) (fun r => msumL (fun l => mq (M.2.1 19) (M.2.1 20) (nI l) nW) (fun l => mN (M.2.1 13) (M.2.1 15) cn (fun k => (mI (M.1 24)) (nm k)) (mdir (M.2.1 13) (M.2.1 15) (M.2.1 9) (M.2.1 3) (M.2.1 11) cn nm mn (mR (M.1 24)) me (nI r) (-1)) 2 ((mI (M.1 24)) (li l))) nL) nR nM)), (0, .ref (ad 0)), (1, .int (nI j8))]) X dX11_difference_29 (by rw [hnL]; decide) rfl ?_
    refine kv_aload_n X 2 dX11_difference_31 rfl rfl ?_
    refine kv_aload_n X 2 dX11_difference_32 rfl rfl ?_
    refine km_get X 24 (v := .int (M.1 24)) f_X11_difference_117 rfl dX11_difference_33 ?_
    refine kv_iconst (v := 1) X dX11_difference_36 (by decide) ?_
    refine kv_iload_n X 3 dX11_difference_37 rfl rfl ?_
    refine kv_ishl X dX11_difference_38 ?_
    refine kv_ixor X dX11_difference_39 ?_
    refine km_put X 24 (x := ((M.1 24) ^^^ (1 <<< ((nI j8) &&& 31)))) fp_X11_difference_117 (by decide) dX11_difference_40 ?_
    refine kv_aload_n X 2 dX11_difference_43 rfl rfl ?_
    refine kv_calliV (ci := 14) (κ := 0) (r1 := (TX11, 34)) (As := []) [] X (c_X11_isAllowed l dd ad ((va_up (va_up M.1 0 0) 24 ((M.1 24) ^^^ (1 <<< ((nI j8) &&& 31)))), M.2.1, (va_up (va_up (va_up (va_up (va_up M.2.2 28 (mset (M.2.2 28) (fun r => msumL (fun l => mq (M.2.1 19) (M.2.1 20) (nI l) nW) (fun l => mN (M.2.1 13) (M.2.1 15) cn (fun k => (mI (M.1 24)) (nm k)) (mdir (M.2.1 13) (M.2.1 15) (M.2.1 9) (M.2.1 3) (M.2.1 11) cn nm mn (mR (M.1 24)) me (nI r) (-1)) 2 ((mI (M.1 24)) (li l))) nL) nR)) 29 (mset (M.2.2 29) (mmk (M.2.1 27) (M.2.1 26) (fun b => mkd (M.2.1 2) (mset (M.2.2 28) (fun r => msumL (fun l => mq (M.2.1 19) (M.2.1 20) (nI l) nW) (fun l => mN (M.2.1 13) (M.2.1 15) cn (fun k => (mI (M.1 24)) (nm k)) (mdir (M.2.1 13) (M.2.1 15) (M.2.1 9) (M.2.1 3) (M.2.1 11) cn nm mn (mR (M.1 24)) me (nI r) (-1)) 2 ((mI (M.1 24)) (li l))) nL) nR) (M.2.1 3) (nI b) nR) (mex (mset (M.2.2 28) (fun r => msumL (fun l => mq (M.2.1 19) (M.2.1 20) (nI l) nW) (fun l => mN (M.2.1 13) (M.2.1 15) cn (fun k => (mI (M.1 24)) (nm k)) (mdir (M.2.1 13) (M.2.1 15) (M.2.1 9) (M.2.1 3) (M.2.1 11) cn nm mn (mR (M.1 24)) me (nI r) (-1)) 2 ((mI (M.1 24)) (li l))) nL) nR) (M.2.1 4) (M.2.1 5) (M.2.1 3) nR) nM) nM)) 31 X21) 32 X21y) 33 X21z)) nt hT nV hV cn hcn nm hnm (mI (M.1 24 ^^^ (1 : Int32) <<< (nI j8 &&& 31))) (hmI (M.1 24 ^^^ (1 : Int32) <<< (nI j8 &&& 31)))) hl0 (kCV_of X 0 gX11_difference_X11_isAllowed rfl rfl rfl (by decide +kernel) hRR ⟨Nat.le_of_ble_eq_true rfl, Nat.le_of_ble_eq_true rfl⟩) (by decide) rfl rfl rfl rfl (Nat.le_of_ble_eq_true rfl) hRR ⟨Nat.le_of_ble_eq_true rfl, Nat.le_of_ble_eq_true rfl⟩ dX11_difference_44 (fun r z hp => ?_)
    obtain ⟨X44, rfl, ⟨rfl, h44⟩ | ⟨rfl, h44⟩⟩ := hp
    ·
      refine kv_istore (lv2 := [(5, .int 1), (4, .int (M.1 24)), (2, .long (mtot (M.2.1 2) (M.2.1 4) (M.2.1 5) (M.2.1 3) (M.2.1 27) (M.2.1 26) (fun r => msumL (fun l => mq (M.2.1 19) (M.2.1 20) (nI l) nW) (fun l => mN (M.2.1 13) (M.2.1 15) cn (fun k => (mI (M.1 24)) (nm k)) (mdir (M.2.1 13) (M.2.1 15) (M.2.1 9) (M.2.1 3) (M.2.1 11) cn nm mn (mR (M.1 24)) me (nI r) (-1)) 2 ((mI (M.1 24)) (li l))) nL) nR nM)), (0, .ref (ad 0)), (1, .int (nI j8))]) X dX11_difference_47 (by rw [hnL]; decide) rfl ?_
      refine kv_iload X 0 dX11_difference_49 rfl ?_
      refine kv_if_eq (tgt := 61) X dX11_difference_51 (by decide) (fun hc => absurd hc (by decide)) (fun hc51 => ?_)
      refine kv_aload_n X 3 dX11_difference_54 rfl rfl ?_
      refine kv_calllV (ci := 14) (κ := 0) (r1 := (TX11, 34)) (As := []) [] X (c_X11_totalNow l dd ad ((va_up (va_up M.1 0 0) 24 ((M.1 24) ^^^ (1 <<< ((nI j8) &&& 31)))), (va_up M.2.1 30 (mD (M.2.1 13) cn (fun k => (mI (M.1 24 ^^^ (1 : Int32) <<< (nI j8 &&& 31))) (nm k)) nt (M.2.1 30) 3)), (va_up (va_up (va_up (va_up (va_up (va_up M.2.2 28 (mset (M.2.2 28) (fun r => msumL (fun l => mq (M.2.1 19) (M.2.1 20) (nI l) nW) (fun l => mN (M.2.1 13) (M.2.1 15) cn (fun k => (mI (M.1 24)) (nm k)) (mdir (M.2.1 13) (M.2.1 15) (M.2.1 9) (M.2.1 3) (M.2.1 11) cn nm mn (mR (M.1 24)) me (nI r) (-1)) 2 ((mI (M.1 24)) (li l))) nL) nR)) 29 (mset (M.2.2 29) (mmk (M.2.1 27) (M.2.1 26) (fun b => mkd (M.2.1 2) (mset (M.2.2 28) (fun r => msumL (fun l => mq (M.2.1 19) (M.2.1 20) (nI l) nW) (fun l => mN (M.2.1 13) (M.2.1 15) cn (fun k => (mI (M.1 24)) (nm k)) (mdir (M.2.1 13) (M.2.1 15) (M.2.1 9) (M.2.1 3) (M.2.1 11) cn nm mn (mR (M.1 24)) me (nI r) (-1)) 2 ((mI (M.1 24)) (li l))) nL) nR) (M.2.1 3) (nI b) nR) (mex (mset (M.2.2 28) (fun r => msumL (fun l => mq (M.2.1 19) (M.2.1 20) (nI l) nW) (fun l => mN (M.2.1 13) (M.2.1 15) cn (fun k => (mI (M.1 24)) (nm k)) (mdir (M.2.1 13) (M.2.1 15) (M.2.1 9) (M.2.1 3) (M.2.1 11) cn nm mn (mR (M.1 24)) me (nI r) (-1)) 2 ((mI (M.1 24)) (li l))) nL) nR) (M.2.1 4) (M.2.1 5) (M.2.1 3) nR) nM) nM)) 31 X21) 32 X21y) 33 X21z) 33 X44)) nt hT nV hV cn hcn nm hnm mn hmn (mI (M.1 24 ^^^ (1 : Int32) <<< (nI j8 &&& 31))) (hmI (M.1 24 ^^^ (1 : Int32) <<< (nI j8 &&& 31))) (mR (M.1 24 ^^^ (1 : Int32) <<< (nI j8 &&& 31))) (hmR (M.1 24 ^^^ (1 : Int32) <<< (nI j8 &&& 31))) me hme hs2 (hvG (M.1 24 ^^^ (1 : Int32) <<< (nI j8 &&& 31))) nL hL nW hW li hli (hlG (M.1 24 ^^^ (1 : Int32) <<< (nI j8 &&& 31))) nR hR nM hM hpk) hl0 (kCV_of X 0 gX11_difference_X11_totalNow rfl rfl rfl (by decide +kernel) hRR ⟨Nat.le_of_ble_eq_true rfl, Nat.le_of_ble_eq_true rfl⟩) (by decide) rfl rfl rfl rfl (Nat.le_of_ble_eq_true rfl) hRR ⟨Nat.le_of_ble_eq_true rfl, Nat.le_of_ble_eq_true rfl⟩ dX11_difference_55 (fun r z hp => ?_)
      obtain ⟨X55, X55y, X55z, rfl, rfl⟩ := hp
      refine kv_topl (mtot (M.2.1 2) (M.2.1 4) (M.2.1 5) (M.2.1 3) (M.2.1 27) (M.2.1 26) (fun r => msumL (fun l => mq (M.2.1 19) (M.2.1 20) (nI l) nW) (fun l => mN (M.2.1 13) (M.2.1 15) cn (fun k => (mI (M.1 24 ^^^ (1 : Int32) <<< (nI j8 &&& 31))) (nm k)) (mdir (M.2.1 13) (M.2.1 15) (M.2.1 9) (M.2.1 3) (M.2.1 11) cn nm mn (mR (M.1 24 ^^^ (1 : Int32) <<< (nI j8 &&& 31))) me (nI r) (-1)) 2 ((mI (M.1 24 ^^^ (1 : Int32) <<< (nI j8 &&& 31))) (li l))) nL) nR nM) tot_clean ?_
      refine kv_goto (tgt := 62) X dX11_difference_58 (by decide) ?_
      refine kv_lstore (lv2 := [(6, .long (mtot (M.2.1 2) (M.2.1 4) (M.2.1 5) (M.2.1 3) (M.2.1 27) (M.2.1 26) (fun r => msumL (fun l => mq (M.2.1 19) (M.2.1 20) (nI l) nW) (fun l => mN (M.2.1 13) (M.2.1 15) cn (fun k => (mI (M.1 24 ^^^ (1 : Int32) <<< (nI j8 &&& 31))) (nm k)) (mdir (M.2.1 13) (M.2.1 15) (M.2.1 9) (M.2.1 3) (M.2.1 11) cn nm mn (mR (M.1 24 ^^^ (1 : Int32) <<< (nI j8 &&& 31))) me (nI r) (-1)) 2 ((mI (M.1 24 ^^^ (1 : Int32) <<< (nI j8 &&& 31))) (li l))) nL) nR nM)), (5, .int 1), (4, .int (M.1 24)), (2, .long (mtot (M.2.1 2) (M.2.1 4) (M.2.1 5) (M.2.1 3) (M.2.1 27) (M.2.1 26) (fun r => msumL (fun l => mq (M.2.1 19) (M.2.1 20) (nI l) nW) (fun l => mN (M.2.1 13) (M.2.1 15) cn (fun k => (mI (M.1 24)) (nm k)) (mdir (M.2.1 13) (M.2.1 15) (M.2.1 9) (M.2.1 3) (M.2.1 11) cn nm mn (mR (M.1 24)) me (nI r) (-1)) 2 ((mI (M.1 24)) (li l))) nL) nR nM)), (0, .ref (ad 0)), (1, .int (nI j8))]) X dX11_difference_62 (by rw [hnL]; decide) rfl ?_
      refine kv_aload_n X 4 dX11_difference_64 rfl rfl ?_
      refine kv_iload X 2 dX11_difference_65 rfl ?_
      refine km_put X 24 (x := (M.1 24)) fp_X11_difference_117 (by decide) dX11_difference_67 ?_
      refine kv_aload_n X 4 dX11_difference_70 rfl rfl ?_
      refine kv_iload X 1 dX11_difference_71 rfl ?_
      refine kv_if_ne (tgt := 80) X dX11_difference_73 (by decide) (fun hc73 => ?_) (fun hc => absurd hc (by decide))
      refine kv_iconst (v := 0) X dX11_difference_80 (by decide) ?_
      refine kv_iconst (v := 2) X dX11_difference_81 (by decide) ?_
      refine kv_calliV (ci := 14) (κ := 0) (r1 := (TX11, 34)) (As := [.int 0, .int 2]) [] X (c_X11_fails0 l dd ad ((va_up (va_up (va_up M.1 0 0) 24 ((M.1 24) ^^^ (1 <<< ((nI j8) &&& 31)))) 24 (M.1 24)), (va_up M.2.1 30 (mD (M.2.1 13) cn (fun k => (mI (M.1 24 ^^^ (1 : Int32) <<< (nI j8 &&& 31))) (nm k)) nt (M.2.1 30) 3)), (va_up (va_up (va_up (va_up (va_up (va_up (va_up (va_up (va_up (va_up (va_up M.2.2 28 (mset (M.2.2 28) (fun r => msumL (fun l => mq (M.2.1 19) (M.2.1 20) (nI l) nW) (fun l => mN (M.2.1 13) (M.2.1 15) cn (fun k => (mI (M.1 24)) (nm k)) (mdir (M.2.1 13) (M.2.1 15) (M.2.1 9) (M.2.1 3) (M.2.1 11) cn nm mn (mR (M.1 24)) me (nI r) (-1)) 2 ((mI (M.1 24)) (li l))) nL) nR)) 29 (mset (M.2.2 29) (mmk (M.2.1 27) (M.2.1 26) (fun b => mkd (M.2.1 2) (mset (M.2.2 28) (fun r => msumL (fun l => mq (M.2.1 19) (M.2.1 20) (nI l) nW) (fun l => mN (M.2.1 13) (M.2.1 15) cn (fun k => (mI (M.1 24)) (nm k)) (mdir (M.2.1 13) (M.2.1 15) (M.2.1 9) (M.2.1 3) (M.2.1 11) cn nm mn (mR (M.1 24)) me (nI r) (-1)) 2 ((mI (M.1 24)) (li l))) nL) nR) (M.2.1 3) (nI b) nR) (mex (mset (M.2.2 28) (fun r => msumL (fun l => mq (M.2.1 19) (M.2.1 20) (nI l) nW) (fun l => mN (M.2.1 13) (M.2.1 15) cn (fun k => (mI (M.1 24)) (nm k)) (mdir (M.2.1 13) (M.2.1 15) (M.2.1 9) (M.2.1 3) (M.2.1 11) cn nm mn (mR (M.1 24)) me (nI r) (-1)) 2 ((mI (M.1 24)) (li l))) nL) nR) (M.2.1 4) (M.2.1 5) (M.2.1 3) nR) nM) nM)) 31 X21) 32 X21y) 33 X21z) 33 X44) 28 (mset (mset (M.2.2 28) (fun r => msumL (fun l => mq (M.2.1 19) (M.2.1 20) (nI l) nW) (fun l => mN (M.2.1 13) (M.2.1 15) cn (fun k => (mI (M.1 24)) (nm k)) (mdir (M.2.1 13) (M.2.1 15) (M.2.1 9) (M.2.1 3) (M.2.1 11) cn nm mn (mR (M.1 24)) me (nI r) (-1)) 2 ((mI (M.1 24)) (li l))) nL) nR) (fun r => msumL (fun l => mq (M.2.1 19) (M.2.1 20) (nI l) nW) (fun l => mN (M.2.1 13) (M.2.1 15) cn (fun k => (mI (M.1 24 ^^^ (1 : Int32) <<< (nI j8 &&& 31))) (nm k)) (mdir (M.2.1 13) (M.2.1 15) (M.2.1 9) (M.2.1 3) (M.2.1 11) cn nm mn (mR (M.1 24 ^^^ (1 : Int32) <<< (nI j8 &&& 31))) me (nI r) (-1)) 2 ((mI (M.1 24 ^^^ (1 : Int32) <<< (nI j8 &&& 31))) (li l))) nL) nR)) 29 (mset (mset (M.2.2 29) (mmk (M.2.1 27) (M.2.1 26) (fun b => mkd (M.2.1 2) (mset (M.2.2 28) (fun r => msumL (fun l => mq (M.2.1 19) (M.2.1 20) (nI l) nW) (fun l => mN (M.2.1 13) (M.2.1 15) cn (fun k => (mI (M.1 24)) (nm k)) (mdir (M.2.1 13) (M.2.1 15) (M.2.1 9) (M.2.1 3) (M.2.1 11) cn nm mn (mR (M.1 24)) me (nI r) (-1)) 2 ((mI (M.1 24)) (li l))) nL) nR) (M.2.1 3) (nI b) nR) (mex (mset (M.2.2 28) (fun r => msumL (fun l => mq (M.2.1 19) (M.2.1 20) (nI l) nW) (fun l => mN (M.2.1 13) (M.2.1 15) cn (fun k => (mI (M.1 24)) (nm k)) (mdir (M.2.1 13) (M.2.1 15) (M.2.1 9) (M.2.1 3) (M.2.1 11) cn nm mn (mR (M.1 24)) me (nI r) (-1)) 2 ((mI (M.1 24)) (li l))) nL) nR) (M.2.1 4) (M.2.1 5) (M.2.1 3) nR) nM) nM) (mmk (M.2.1 27) (M.2.1 26) (fun b => mkd (M.2.1 2) (mset (mset (M.2.2 28) (fun r => msumL (fun l => mq (M.2.1 19) (M.2.1 20) (nI l) nW) (fun l => mN (M.2.1 13) (M.2.1 15) cn (fun k => (mI (M.1 24)) (nm k)) (mdir (M.2.1 13) (M.2.1 15) (M.2.1 9) (M.2.1 3) (M.2.1 11) cn nm mn (mR (M.1 24)) me (nI r) (-1)) 2 ((mI (M.1 24)) (li l))) nL) nR) (fun r => msumL (fun l => mq (M.2.1 19) (M.2.1 20) (nI l) nW) (fun l => mN (M.2.1 13) (M.2.1 15) cn (fun k => (mI (M.1 24 ^^^ (1 : Int32) <<< (nI j8 &&& 31))) (nm k)) (mdir (M.2.1 13) (M.2.1 15) (M.2.1 9) (M.2.1 3) (M.2.1 11) cn nm mn (mR (M.1 24 ^^^ (1 : Int32) <<< (nI j8 &&& 31))) me (nI r) (-1)) 2 ((mI (M.1 24 ^^^ (1 : Int32) <<< (nI j8 &&& 31))) (li l))) nL) nR) (M.2.1 3) (nI b) nR) (mex (mset (mset (M.2.2 28) (fun r => msumL (fun l => mq (M.2.1 19) (M.2.1 20) (nI l) nW) (fun l => mN (M.2.1 13) (M.2.1 15) cn (fun k => (mI (M.1 24)) (nm k)) (mdir (M.2.1 13) (M.2.1 15) (M.2.1 9) (M.2.1 3) (M.2.1 11) cn nm mn (mR (M.1 24)) me (nI r) (-1)) 2 ((mI (M.1 24)) (li l))) nL) nR) (fun r => msumL (fun l => mq (M.2.1 19) (M.2.1 20) (nI l) nW) (fun l => mN (M.2.1 13) (M.2.1 15) cn (fun k => (mI (M.1 24 ^^^ (1 : Int32) <<< (nI j8 &&& 31))) (nm k)) (mdir (M.2.1 13) (M.2.1 15) (M.2.1 9) (M.2.1 3) (M.2.1 11) cn nm mn (mR (M.1 24 ^^^ (1 : Int32) <<< (nI j8 &&& 31))) me (nI r) (-1)) 2 ((mI (M.1 24 ^^^ (1 : Int32) <<< (nI j8 &&& 31))) (li l))) nL) nR) (M.2.1 4) (M.2.1 5) (M.2.1 3) nR) nM) nM)) 31 X55) 32 X55y) 33 X55z)) 2 rfl) hl0 (kCV_of X 2 gX11_difference_X11_fails rfl rfl rfl (by decide +kernel) hRR ⟨Nat.le_of_ble_eq_true rfl, Nat.le_of_ble_eq_true rfl⟩) (by decide) rfl rfl rfl rfl (Nat.le_of_ble_eq_true rfl) hRR ⟨Nat.le_of_ble_eq_true rfl, Nat.le_of_ble_eq_true rfl⟩ dX11_difference_82 (fun r z hp => ?_)
      obtain ⟨rfl, rfl⟩ := hp
      refine kv_if_eq (tgt := 92) X dX11_difference_85 (by decide) (fun hc85 => ?_) (fun hc => absurd hc (by decide))
      refine kv_lload X 0 dX11_difference_92 rfl ?_
      refine kv_lload_n X 3 dX11_difference_94 rfl rfl ?_
      refine kv_lsub X dX11_difference_95 ?_
      exact kv_lreturn X hr (by decide) (by decide) ⟨((va_up (va_up (va_up M.1 0 0) 24 ((M.1 24) ^^^ (1 <<< ((nI j8) &&& 31)))) 24 (M.1 24)), (va_up M.2.1 30 (mD (M.2.1 13) cn (fun k => (mI (M.1 24 ^^^ (1 : Int32) <<< (nI j8 &&& 31))) (nm k)) nt (M.2.1 30) 3)), (va_up (va_up (va_up (va_up (va_up (va_up (va_up (va_up (va_up (va_up (va_up M.2.2 28 (mset (M.2.2 28) (fun r => msumL (fun l => mq (M.2.1 19) (M.2.1 20) (nI l) nW) (fun l => mN (M.2.1 13) (M.2.1 15) cn (fun k => (mI (M.1 24)) (nm k)) (mdir (M.2.1 13) (M.2.1 15) (M.2.1 9) (M.2.1 3) (M.2.1 11) cn nm mn (mR (M.1 24)) me (nI r) (-1)) 2 ((mI (M.1 24)) (li l))) nL) nR)) 29 (mset (M.2.2 29) (mmk (M.2.1 27) (M.2.1 26) (fun b => mkd (M.2.1 2) (mset (M.2.2 28) (fun r => msumL (fun l => mq (M.2.1 19) (M.2.1 20) (nI l) nW) (fun l => mN (M.2.1 13) (M.2.1 15) cn (fun k => (mI (M.1 24)) (nm k)) (mdir (M.2.1 13) (M.2.1 15) (M.2.1 9) (M.2.1 3) (M.2.1 11) cn nm mn (mR (M.1 24)) me (nI r) (-1)) 2 ((mI (M.1 24)) (li l))) nL) nR) (M.2.1 3) (nI b) nR) (mex (mset (M.2.2 28) (fun r => msumL (fun l => mq (M.2.1 19) (M.2.1 20) (nI l) nW) (fun l => mN (M.2.1 13) (M.2.1 15) cn (fun k => (mI (M.1 24)) (nm k)) (mdir (M.2.1 13) (M.2.1 15) (M.2.1 9) (M.2.1 3) (M.2.1 11) cn nm mn (mR (M.1 24)) me (nI r) (-1)) 2 ((mI (M.1 24)) (li l))) nL) nR) (M.2.1 4) (M.2.1 5) (M.2.1 3) nR) nM) nM)) 31 X21) 32 X21y) 33 X21z) 33 X44) 28 (mset (mset (M.2.2 28) (fun r => msumL (fun l => mq (M.2.1 19) (M.2.1 20) (nI l) nW) (fun l => mN (M.2.1 13) (M.2.1 15) cn (fun k => (mI (M.1 24)) (nm k)) (mdir (M.2.1 13) (M.2.1 15) (M.2.1 9) (M.2.1 3) (M.2.1 11) cn nm mn (mR (M.1 24)) me (nI r) (-1)) 2 ((mI (M.1 24)) (li l))) nL) nR) (fun r => msumL (fun l => mq (M.2.1 19) (M.2.1 20) (nI l) nW) (fun l => mN (M.2.1 13) (M.2.1 15) cn (fun k => (mI (M.1 24 ^^^ (1 : Int32) <<< (nI j8 &&& 31))) (nm k)) (mdir (M.2.1 13) (M.2.1 15) (M.2.1 9) (M.2.1 3) (M.2.1 11) cn nm mn (mR (M.1 24 ^^^ (1 : Int32) <<< (nI j8 &&& 31))) me (nI r) (-1)) 2 ((mI (M.1 24 ^^^ (1 : Int32) <<< (nI j8 &&& 31))) (li l))) nL) nR)) 29 (mset (mset (M.2.2 29) (mmk (M.2.1 27) (M.2.1 26) (fun b => mkd (M.2.1 2) (mset (M.2.2 28) (fun r => msumL (fun l => mq (M.2.1 19) (M.2.1 20) (nI l) nW) (fun l => mN (M.2.1 13) (M.2.1 15) cn (fun k => (mI (M.1 24)) (nm k)) (mdir (M.2.1 13) (M.2.1 15) (M.2.1 9) (M.2.1 3) (M.2.1 11) cn nm mn (mR (M.1 24)) me (nI r) (-1)) 2 ((mI (M.1 24)) (li l))) nL) nR) (M.2.1 3) (nI b) nR) (mex (mset (M.2.2 28) (fun r => msumL (fun l => mq (M.2.1 19) (M.2.1 20) (nI l) nW) (fun l => mN (M.2.1 13) (M.2.1 15) cn (fun k => (mI (M.1 24)) (nm k)) (mdir (M.2.1 13) (M.2.1 15) (M.2.1 9) (M.2.1 3) (M.2.1 11) cn nm mn (mR (M.1 24)) me (nI r) (-1)) 2 ((mI (M.1 24)) (li l))) nL) nR) (M.2.1 4) (M.2.1 5) (M.2.1 3) nR) nM) nM) (mmk (M.2.1 27) (M.2.1 26) (fun b => mkd (M.2.1 2) (mset (mset (M.2.2 28) (fun r => msumL (fun l => mq (M.2.1 19) (M.2.1 20) (nI l) nW) (fun l => mN (M.2.1 13) (M.2.1 15) cn (fun k => (mI (M.1 24)) (nm k)) (mdir (M.2.1 13) (M.2.1 15) (M.2.1 9) (M.2.1 3) (M.2.1 11) cn nm mn (mR (M.1 24)) me (nI r) (-1)) 2 ((mI (M.1 24)) (li l))) nL) nR) (fun r => msumL (fun l => mq (M.2.1 19) (M.2.1 20) (nI l) nW) (fun l => mN (M.2.1 13) (M.2.1 15) cn (fun k => (mI (M.1 24 ^^^ (1 : Int32) <<< (nI j8 &&& 31))) (nm k)) (mdir (M.2.1 13) (M.2.1 15) (M.2.1 9) (M.2.1 3) (M.2.1 11) cn nm mn (mR (M.1 24 ^^^ (1 : Int32) <<< (nI j8 &&& 31))) me (nI r) (-1)) 2 ((mI (M.1 24 ^^^ (1 : Int32) <<< (nI j8 &&& 31))) (li l))) nL) nR) (M.2.1 3) (nI b) nR) (mex (mset (mset (M.2.2 28) (fun r => msumL (fun l => mq (M.2.1 19) (M.2.1 20) (nI l) nW) (fun l => mN (M.2.1 13) (M.2.1 15) cn (fun k => (mI (M.1 24)) (nm k)) (mdir (M.2.1 13) (M.2.1 15) (M.2.1 9) (M.2.1 3) (M.2.1 11) cn nm mn (mR (M.1 24)) me (nI r) (-1)) 2 ((mI (M.1 24)) (li l))) nL) nR) (fun r => msumL (fun l => mq (M.2.1 19) (M.2.1 20) (nI l) nW) (fun l => mN (M.2.1 13) (M.2.1 15) cn (fun k => (mI (M.1 24 ^^^ (1 : Int32) <<< (nI j8 &&& 31))) (nm k)) (mdir (M.2.1 13) (M.2.1 15) (M.2.1 9) (M.2.1 3) (M.2.1 11) cn nm mn (mR (M.1 24 ^^^ (1 : Int32) <<< (nI j8 &&& 31))) me (nI r) (-1)) 2 ((mI (M.1 24 ^^^ (1 : Int32) <<< (nI j8 &&& 31))) (li l))) nL) nR) (M.2.1 4) (M.2.1 5) (M.2.1 3) nR) nM) nM)) 31 X55) 32 X55y) 33 X55z)), Or.inr ⟨j8, _, _, ⟨h8, rfl⟩, Or.inl ⟨h44, rfl, rfl⟩⟩, rfl⟩ dX11_difference_96
    ·
      refine kv_istore (lv2 := [(5, .int 0), (4, .int (M.1 24)), (2, .long (mtot (M.2.1 2) (M.2.1 4) (M.2.1 5) (M.2.1 3) (M.2.1 27) (M.2.1 26) (fun r => msumL (fun l => mq (M.2.1 19) (M.2.1 20) (nI l) nW) (fun l => mN (M.2.1 13) (M.2.1 15) cn (fun k => (mI (M.1 24)) (nm k)) (mdir (M.2.1 13) (M.2.1 15) (M.2.1 9) (M.2.1 3) (M.2.1 11) cn nm mn (mR (M.1 24)) me (nI r) (-1)) 2 ((mI (M.1 24)) (li l))) nL) nR nM)), (0, .ref (ad 0)), (1, .int (nI j8))]) X dX11_difference_47 (by rw [hnL]; decide) rfl ?_
      refine kv_iload X 0 dX11_difference_49 rfl ?_
      refine kv_if_eq (tgt := 61) X dX11_difference_51 (by decide) (fun hc51 => ?_) (fun hc => absurd hc (by decide))
      refine kv_lconst (v := 0) X dX11_difference_61 (by decide) ?_
      refine kv_lstore (lv2 := [(6, .long 0), (5, .int 0), (4, .int (M.1 24)), (2, .long (mtot (M.2.1 2) (M.2.1 4) (M.2.1 5) (M.2.1 3) (M.2.1 27) (M.2.1 26) (fun r => msumL (fun l => mq (M.2.1 19) (M.2.1 20) (nI l) nW) (fun l => mN (M.2.1 13) (M.2.1 15) cn (fun k => (mI (M.1 24)) (nm k)) (mdir (M.2.1 13) (M.2.1 15) (M.2.1 9) (M.2.1 3) (M.2.1 11) cn nm mn (mR (M.1 24)) me (nI r) (-1)) 2 ((mI (M.1 24)) (li l))) nL) nR nM)), (0, .ref (ad 0)), (1, .int (nI j8))]) X dX11_difference_62 (by rw [hnL]; decide) rfl ?_
      refine kv_aload_n X 4 dX11_difference_64 rfl rfl ?_
      refine kv_iload X 2 dX11_difference_65 rfl ?_
      refine km_put X 24 (x := (M.1 24)) fp_X11_difference_117 (by decide) dX11_difference_67 ?_
      refine kv_aload_n X 4 dX11_difference_70 rfl rfl ?_
      refine kv_iload X 1 dX11_difference_71 rfl ?_
      refine kv_if_ne (tgt := 80) X dX11_difference_73 (by decide) (fun hc => absurd hc (by decide)) (fun hc73 => ?_)
      refine kv_iconst (v := 1) X dX11_difference_76 (by decide) ?_
      refine kv_goto (tgt := 81) X dX11_difference_77 (by decide) ?_
      refine kv_iconst (v := 2) X dX11_difference_81 (by decide) ?_
      refine kv_calliV (ci := 14) (κ := 0) (r1 := (TX11, 34)) (As := [.int 1, .int 2]) [] X (c_X11_fails1 l dd ad ((va_up (va_up (va_up M.1 0 0) 24 ((M.1 24) ^^^ (1 <<< ((nI j8) &&& 31)))) 24 (M.1 24)), (va_up M.2.1 30 (mD (M.2.1 13) cn (fun k => (mI (M.1 24 ^^^ (1 : Int32) <<< (nI j8 &&& 31))) (nm k)) nt (M.2.1 30) 3)), (va_up (va_up (va_up (va_up (va_up (va_up M.2.2 28 (mset (M.2.2 28) (fun r => msumL (fun l => mq (M.2.1 19) (M.2.1 20) (nI l) nW) (fun l => mN (M.2.1 13) (M.2.1 15) cn (fun k => (mI (M.1 24)) (nm k)) (mdir (M.2.1 13) (M.2.1 15) (M.2.1 9) (M.2.1 3) (M.2.1 11) cn nm mn (mR (M.1 24)) me (nI r) (-1)) 2 ((mI (M.1 24)) (li l))) nL) nR)) 29 (mset (M.2.2 29) (mmk (M.2.1 27) (M.2.1 26) (fun b => mkd (M.2.1 2) (mset (M.2.2 28) (fun r => msumL (fun l => mq (M.2.1 19) (M.2.1 20) (nI l) nW) (fun l => mN (M.2.1 13) (M.2.1 15) cn (fun k => (mI (M.1 24)) (nm k)) (mdir (M.2.1 13) (M.2.1 15) (M.2.1 9) (M.2.1 3) (M.2.1 11) cn nm mn (mR (M.1 24)) me (nI r) (-1)) 2 ((mI (M.1 24)) (li l))) nL) nR) (M.2.1 3) (nI b) nR) (mex (mset (M.2.2 28) (fun r => msumL (fun l => mq (M.2.1 19) (M.2.1 20) (nI l) nW) (fun l => mN (M.2.1 13) (M.2.1 15) cn (fun k => (mI (M.1 24)) (nm k)) (mdir (M.2.1 13) (M.2.1 15) (M.2.1 9) (M.2.1 3) (M.2.1 11) cn nm mn (mR (M.1 24)) me (nI r) (-1)) 2 ((mI (M.1 24)) (li l))) nL) nR) (M.2.1 4) (M.2.1 5) (M.2.1 3) nR) nM) nM)) 31 X21) 32 X21y) 33 X21z) 33 X44)) 2 (by decide) rfl) hl0 (kCV_of X 2 gX11_difference_X11_fails rfl rfl rfl (by decide +kernel) hRR ⟨Nat.le_of_ble_eq_true rfl, Nat.le_of_ble_eq_true rfl⟩) (by decide) rfl rfl rfl rfl (Nat.le_of_ble_eq_true rfl) hRR ⟨Nat.le_of_ble_eq_true rfl, Nat.le_of_ble_eq_true rfl⟩ dX11_difference_82 (fun r z hp => ?_)
      obtain ⟨rfl, rfl⟩ := hp
      refine kv_if_eq (tgt := 92) X dX11_difference_85 (by decide) (fun hc => absurd hc (by decide)) (fun hc85 => ?_)
      refine kv_lconst (v := 0) X dX11_difference_88 (by decide) ?_
      refine kv_goto (tgt := 96) X dX11_difference_89 (by decide) ?_
      exact kv_lreturn X hr (by decide) (by decide) ⟨((va_up (va_up (va_up (va_up M.1 0 0) 24 ((M.1 24) ^^^ (1 <<< ((nI j8) &&& 31)))) 24 (M.1 24)) 0 2), (va_up M.2.1 30 (mD (M.2.1 13) cn (fun k => (mI (M.1 24 ^^^ (1 : Int32) <<< (nI j8 &&& 31))) (nm k)) nt (M.2.1 30) 3)), (va_up (va_up (va_up (va_up (va_up (va_up M.2.2 28 (mset (M.2.2 28) (fun r => msumL (fun l => mq (M.2.1 19) (M.2.1 20) (nI l) nW) (fun l => mN (M.2.1 13) (M.2.1 15) cn (fun k => (mI (M.1 24)) (nm k)) (mdir (M.2.1 13) (M.2.1 15) (M.2.1 9) (M.2.1 3) (M.2.1 11) cn nm mn (mR (M.1 24)) me (nI r) (-1)) 2 ((mI (M.1 24)) (li l))) nL) nR)) 29 (mset (M.2.2 29) (mmk (M.2.1 27) (M.2.1 26) (fun b => mkd (M.2.1 2) (mset (M.2.2 28) (fun r => msumL (fun l => mq (M.2.1 19) (M.2.1 20) (nI l) nW) (fun l => mN (M.2.1 13) (M.2.1 15) cn (fun k => (mI (M.1 24)) (nm k)) (mdir (M.2.1 13) (M.2.1 15) (M.2.1 9) (M.2.1 3) (M.2.1 11) cn nm mn (mR (M.1 24)) me (nI r) (-1)) 2 ((mI (M.1 24)) (li l))) nL) nR) (M.2.1 3) (nI b) nR) (mex (mset (M.2.2 28) (fun r => msumL (fun l => mq (M.2.1 19) (M.2.1 20) (nI l) nW) (fun l => mN (M.2.1 13) (M.2.1 15) cn (fun k => (mI (M.1 24)) (nm k)) (mdir (M.2.1 13) (M.2.1 15) (M.2.1 9) (M.2.1 3) (M.2.1 11) cn nm mn (mR (M.1 24)) me (nI r) (-1)) 2 ((mI (M.1 24)) (li l))) nL) nR) (M.2.1 4) (M.2.1 5) (M.2.1 3) nR) nM) nM)) 31 X21) 32 X21y) 33 X21z) 33 X44)), Or.inr ⟨j8, _, _, ⟨h8, rfl⟩, Or.inr ⟨h44, rfl, rfl⟩⟩, rfl⟩ dX11_difference_96
theorem fp_X11_cheapestVariants_86 : kFp wsX11_cheapestVariants RX11 86 14 0 .int false := ⟨_, RX11, TX11, 34, tyX11, fun _ h => (List.mem_cons_of_mem _ (List.mem_append_left _ (List.mem_append_left _ (List.mem_append_right _ h)))), tyX11_ok, nmX11, (List.mem_cons_of_mem _ (List.mem_append_left _ (List.mem_append_left _ (List.mem_append_left _ (List.mem_append_left _ (List.mem_of_getElem? (i := 0) rfl)))))), rfl, by decide, rfl, rfl, by decide +kernel, rfl⟩
theorem f_X11_cheapestVariants_117 : kF wsX11_cheapestVariants RX11 117 14 24 := ⟨_, RX11, TX11, 34, fun _ h => (List.mem_cons_of_mem _ (List.mem_append_left _ (List.mem_append_left _ (List.mem_append_right _ h)))), (List.mem_cons_of_mem _ (List.mem_append_left _ (List.mem_append_left _ (List.mem_append_left _ (List.mem_append_left _ (List.mem_of_getElem? (i := 1) rfl)))))), rfl, by decide, rfl⟩
theorem f_X11_cheapestVariants_103 : kF wsX11_cheapestVariants RX11 103 14 21 := ⟨_, RX11, TX11, 34, fun _ h => (List.mem_cons_of_mem _ (List.mem_append_left _ (List.mem_append_left _ (List.mem_append_right _ h)))), (List.mem_cons_of_mem _ (List.mem_append_left _ (List.mem_append_left _ (List.mem_append_left _ (List.mem_append_left _ (List.mem_of_getElem? (i := 2) rfl)))))), rfl, by decide, rfl⟩
theorem fp_X11_cheapestVariants_117 : kFp wsX11_cheapestVariants RX11 117 14 24 .int false := ⟨_, RX11, TX11, 34, tyX11, fun _ h => (List.mem_cons_of_mem _ (List.mem_append_left _ (List.mem_append_left _ (List.mem_append_right _ h)))), tyX11_ok, nmX11, (List.mem_cons_of_mem _ (List.mem_append_left _ (List.mem_append_left _ (List.mem_append_left _ (List.mem_append_left _ (List.mem_of_getElem? (i := 1) rfl)))))), rfl, by decide, rfl, rfl, by decide +kernel, rfl⟩
set_option maxRecDepth 100000 in
set_option maxHeartbeats 4000000 in
theorem c_X11_cheapestVariants (l : Launch) (dd : kDD) (ad : Nat → Nat) (M : mS)  (nt : Nat) (hT : M.1 10 = nI nt ∧ nt ≤ 12) (nV : Nat) (hV : M.1 21 = nI nV ∧ nV ≤ 4) (cn : Nat → Nat) (hcn : ∀ i, i < 12 → M.2.1 12 i = nI (cn i) ∧ cn i ≤ 4) (nm : Nat → Nat) (hnm : ∀ k, k < 48 → M.2.1 14 k = nI (nm k) ∧ nm k < 12) (mn : Nat → Nat) (hmn : ∀ i, i < 4 → M.2.1 7 i = nI (mn i) ∧ mn i ≤ 3) (mI : Int32 → Nat → Nat) (hmI : ∀ o j, j < 12 → mnt o (M.2.1 22) j nV 0 = nI (mI o j) ∧ mI o j < 12) (mR : Int32 → Nat → Nat) (hmR : ∀ o j, j < 12 → mnt o (M.2.1 23) j nV 0 = nI (mR o j) ∧ mR o j < 12) (me : Nat → Nat) (hme : ∀ q, q < 12 → M.2.1 8 q = nI (me q) ∧ me q < 12) (hs2 : ∀ k, k < 48 → M.2.1 13 k = 2 → nm k < 4) (hvG : ∀ o i, i < nt → ∀ k, k < cn i → M.2.1 13 (4 * i + k) = 0 → mI o (nm (4 * i + k)) < nt) (nL : Nat) (hL : M.1 16 = nI nL ∧ nL ≤ 10) (nW : Nat) (hW : M.1 18 = nI nW ∧ nW ≤ 40) (li : Nat → Nat) (hli : ∀ l, l < 10 → M.2.1 17 l = nI (li l) ∧ li l < 12) (hlG : ∀ o l, l < nL → mI o (li l) < nt) (nR : Nat) (hR : M.1 1 = nI nR ∧ nR ≤ 12) (nM : Nat) (hM : M.1 25 = nI nM ∧ nM ≤ 4) (hpk : ∀ r, r < nR → 1 ≤ M.2.1 5 r) : kCi l yX11_cheapestVariants wsX11_cheapestVariants ({ frames := 6, cells := 0, slots := 0, locals := 146 } : Room) 0 0 dd [.ref (ad 0)] (mK, ad, mE dd ad M) (kQi (S := mS) (fun r z => ∃ o, ∃ D, ∃ B, ∃ le, (va_up (va_up (va_up M.1 0 0) 24 o) 24 (M.1 24), va_up M.2.1 30 D, B) = z ∧ mB (fun n => (∀ k, k < nt → mD (M.2.1 13) cn (fun k => mI (nI n) (nm k)) nt (fun _ => 1) 3 k ≤ 3)) (fun n => mtot (M.2.1 2) (M.2.1 4) (M.2.1 5) (M.2.1 3) (M.2.1 27) (M.2.1 26) (fun r => msumL (fun l => mq (M.2.1 19) (M.2.1 20) (nI l) nW) (fun l => mN (M.2.1 13) (M.2.1 15) cn (fun k => (mI (nI n)) (nm k)) (mdir (M.2.1 13) (M.2.1 15) (M.2.1 9) (M.2.1 3) (M.2.1 11) cn nm mn (mR (nI n)) me (nI r) (-1)) 2 ((mI (nI n)) (li l))) nL) nR nM) (2 ^ nV) r le) (fun _ => mK) (fun _ => ad) (fun z => mE dd ad z)) := by
  refine kMeti (ws' := _) (cc := cX11_cheapestVariants) (maxL := 8) (rt := .int) (by decide) rfl (Nat.le_of_ble_eq_true rfl) (fun g X hr hnL hRR hl0 hkn => ?_)
  show kv dd g 0 0 0 [(0, .ref (ad 0))] [] mK ad (mE dd ad M)
  have hpw := k_pow_le hV.2
  refine kv_aload_n X 0 dX11_cheapestVariants_0 rfl rfl ?_
  refine kv_iconst (v := 0) X dX11_cheapestVariants_1 (by decide) ?_
  refine km_put X 0 (x := 0) fp_X11_cheapestVariants_86 (by decide) dX11_cheapestVariants_2 ?_
  refine kv_aload_n X 0 dX11_cheapestVariants_5 rfl rfl ?_
  refine km_get X 24 (v := .int (M.1 24)) f_X11_cheapestVariants_117 rfl dX11_cheapestVariants_6 ?_
  refine kv_istore_n (lv2 := [(1, .int (M.1 24)), (0, .ref (ad 0))]) X dX11_cheapestVariants_9 rfl (by rw [hnL]; decide) rfl ?_
  refine kv_iconst (v := (-1)) X dX11_cheapestVariants_10 (by decide) ?_
  refine kv_istore_n (lv2 := [(2, .int (-1)), (1, .int (M.1 24)), (0, .ref (ad 0))]) X dX11_cheapestVariants_11 rfl (by rw [hnL]; decide) rfl ?_
  refine kv_lconst (v := 0) X dX11_cheapestVariants_12 (by decide) ?_
  refine kv_lstore_n (lv2 := [(3, .long 0), (2, .int (-1)), (1, .int (M.1 24)), (0, .ref (ad 0))]) X dX11_cheapestVariants_13 rfl (by rw [hnL]; decide) rfl ?_
  refine kv_iconst (v := 0) X dX11_cheapestVariants_14 (by decide) ?_
  refine kv_istore (lv2 := [(5, .int 0), (3, .long 0), (2, .int (-1)), (1, .int (M.1 24)), (0, .ref (ad 0))]) X dX11_cheapestVariants_15 (by rw [hnL]; decide) rfl ?_
  refine kv_M ((va_up (va_up M.1 0 0) 24 (M.1 24)), (va_up M.2.1 30 (M.2.1 30)), (va_up (va_up (va_up (va_up (va_up M.2.2 28 (M.2.2 28)) 29 (M.2.2 29)) 31 (M.2.2 31)) 32 (M.2.2 32)) 33 (M.2.2 33))) (by show ((va_up M.1 0 0), M.2.1, M.2.2) = ((va_up (va_up M.1 0 0) 24 (M.1 24)), (va_up M.2.1 30 (M.2.1 30)), (va_up (va_up (va_up (va_up (va_up M.2.2 28 (M.2.2 28)) 29 (M.2.2 29)) 31 (M.2.2 31)) 32 (M.2.2 32)) 33 (M.2.2 33))); exact Prod.ext (by refine funext fun q => ?_; refine (Decidable.em (q = 0)).elim (fun e => by subst e; rfl) (fun e0 => ?_); refine (Decidable.em (q = 24)).elim (fun e => by subst e; rfl) (fun e24 => ?_); simp only [va_up, if_neg e0, if_neg e24]) (Prod.ext (by refine funext fun q => ?_; refine (Decidable.em (q = 30)).elim (fun e => by subst e; rfl) (fun e30 => ?_); simp only [va_up, if_neg e30]) (by refine funext fun q => ?_; refine (Decidable.em (q = 28)).elim (fun e => by subst e; rfl) (fun e28 => ?_); refine (Decidable.em (q = 29)).elim (fun e => by subst e; rfl) (fun e29 => ?_); refine (Decidable.em (q = 31)).elim (fun e => by subst e; rfl) (fun e31 => ?_); refine (Decidable.em (q = 32)).elim (fun e => by subst e; rfl) (fun e32 => ?_); refine (Decidable.em (q = 33)).elim (fun e => by subst e; rfl) (fun e33 => ?_); simp only [va_up, if_neg e28, if_neg e29, if_neg e31, if_neg e32, if_neg e33]))) ?_
  have L17 : ∀ (n i : Nat), i + n = 2 ^ nV → ∀ (be : Int32) (le : Int64) (ov : Int32) (Da : Nat → Int32) (B28 : Nat → Int64) (B29 : Nat → Int64) (B31 : Nat → Int64) (B32 : Nat → Int64) (B33 : Nat → Int64) (hB : mB (fun n => (∀ k, k < nt → mD (M.2.1 13) cn (fun k => mI (nI n) (nm k)) nt (fun _ => 1) 3 k ≤ 3)) (fun n => mtot (M.2.1 2) (M.2.1 4) (M.2.1 5) (M.2.1 3) (M.2.1 27) (M.2.1 26) (fun r => msumL (fun l => mq (M.2.1 19) (M.2.1 20) (nI l) nW) (fun l => mN (M.2.1 13) (M.2.1 15) cn (fun k => (mI (nI n)) (nm k)) (mdir (M.2.1 13) (M.2.1 15) (M.2.1 9) (M.2.1 3) (M.2.1 11) cn nm mn (mR (nI n)) me (nI r) (-1)) 2 ((mI (nI n)) (li l))) nL) nR nM) i be le), kv dd g 0 0 17 [(5, .int (nI i)), (3, .long le), (2, .int be), (0, .ref (ad 0)), (1, .int (M.1 24))] [] mK ad (mE dd ad ((va_up (va_up M.1 0 0) 24 ov), (va_up M.2.1 30 Da), (va_up (va_up (va_up (va_up (va_up M.2.2 28 B28) 29 B29) 31 B31) 32 B32) 33 B33))) := by
    intro n
    induction n with
    | zero =>
      intro i hin17 be le ov Da B28 B29 B31 B32 B33 hB
      refine kv_iload X 0 dX11_cheapestVariants_17 rfl ?_
      refine kv_iconst (v := 1) X dX11_cheapestVariants_19 (by decide) ?_
      refine kv_aload_n X 3 dX11_cheapestVariants_20 rfl rfl ?_
      refine km_get X 21 (v := .int (M.1 21)) f_X11_cheapestVariants_103 rfl dX11_cheapestVariants_21 ?_
      refine kv_topi (nI nV) hV.1 ?_
      refine kv_ishl X dX11_cheapestVariants_24 ?_
      refine kv_topi (nI (2 ^ nV)) (k_pow hV.2) ?_
      refine kn_icmp_ge (x := i) (y := 2 ^ nV) (tgt := 71) X (by omega) (by omega) dX11_cheapestVariants_25 (by decide) (fun hc25 => ?_) (fun hc25 => absurd hc25 (by omega))
      refine kv_aload_n X 3 dX11_cheapestVariants_71 rfl rfl ?_
      refine kv_iload_n X 4 dX11_cheapestVariants_72 rfl rfl ?_
      refine km_put X 24 (x := (M.1 24)) fp_X11_cheapestVariants_117 (by decide) dX11_cheapestVariants_73 ?_
      refine kv_iload_n X 2 dX11_cheapestVariants_76 rfl rfl ?_
      exact kv_ireturn X hr (by decide) (by decide) ⟨((va_up (va_up (va_up M.1 0 0) 24 ov) 24 (M.1 24)), (va_up M.2.1 30 Da), (va_up (va_up (va_up (va_up (va_up M.2.2 28 B28) 29 B29) 31 B31) 32 B32) 33 B33)), ⟨_, _, _, le, rfl, by rw [show 2 ^ nV = i by omega]; exact hB⟩, rfl⟩ dX11_cheapestVariants_77
    | succ n ih17 =>
      intro i hin17 be le ov Da B28 B29 B31 B32 B33 hB
      refine kv_iload X 0 dX11_cheapestVariants_17 rfl ?_
      refine kv_iconst (v := 1) X dX11_cheapestVariants_19 (by decide) ?_
      refine kv_aload_n X 3 dX11_cheapestVariants_20 rfl rfl ?_
      refine km_get X 21 (v := .int (M.1 21)) f_X11_cheapestVariants_103 rfl dX11_cheapestVariants_21 ?_
      refine kv_topi (nI nV) hV.1 ?_
      refine kv_ishl X dX11_cheapestVariants_24 ?_
      refine kv_topi (nI (2 ^ nV)) (k_pow hV.2) ?_
      refine kn_icmp_ge (x := i) (y := 2 ^ nV) (tgt := 71) X (by omega) (by omega) dX11_cheapestVariants_25 (by decide) (fun hc25 => absurd hc25 (by omega)) (fun hc25 => ?_)
      refine kv_aload_n X 3 dX11_cheapestVariants_28 rfl rfl ?_
      refine kv_iload X 0 dX11_cheapestVariants_29 rfl ?_
      refine km_put X 24 (x := (nI i)) fp_X11_cheapestVariants_117 (by decide) dX11_cheapestVariants_31 ?_
      refine kv_aload_n X 3 dX11_cheapestVariants_34 rfl rfl ?_
      refine kv_calliV (ci := 14) (κ := 0) (r1 := (TX11, 34)) (As := []) [] X (c_X11_isAllowed l dd ad ((va_up (va_up (va_up M.1 0 0) 24 ov) 24 (nI i)), (va_up M.2.1 30 Da), (va_up (va_up (va_up (va_up (va_up M.2.2 28 B28) 29 B29) 31 B31) 32 B32) 33 B33)) nt hT nV hV cn hcn nm hnm (mI (nI i)) (hmI (nI i))) hl0 (kCV_of X 0 gX11_cheapestVariants_X11_isAllowed rfl rfl rfl (by decide +kernel) hRR ⟨Nat.le_of_ble_eq_true rfl, Nat.le_of_ble_eq_true rfl⟩) (by decide) rfl rfl rfl rfl (Nat.le_of_ble_eq_true rfl) hRR ⟨Nat.le_of_ble_eq_true rfl, Nat.le_of_ble_eq_true rfl⟩ dX11_cheapestVariants_35 (fun r z hp => ?_)
      obtain ⟨X35, rfl, ⟨rfl, h35⟩ | ⟨rfl, h35⟩⟩ := hp
      ·
        refine kv_if_eq (tgt := 65) X dX11_cheapestVariants_38 (by decide) (fun hc => absurd hc (by decide)) (fun hc38 => ?_)
        refine kv_aload_n X 3 dX11_cheapestVariants_41 rfl rfl ?_
        refine kv_calllV (ci := 14) (κ := 0) (r1 := (TX11, 34)) (As := []) [] X (c_X11_totalNow l dd ad ((va_up (va_up (va_up M.1 0 0) 24 ov) 24 (nI i)), (va_up (va_up M.2.1 30 Da) 30 (mD (M.2.1 13) cn (fun k => (mI (nI i)) (nm k)) nt Da 3)), (va_up (va_up (va_up (va_up (va_up (va_up M.2.2 28 B28) 29 B29) 31 B31) 32 B32) 33 B33) 33 X35)) nt hT nV hV cn hcn nm hnm mn hmn (mI (nI i)) (hmI (nI i)) (mR (nI i)) (hmR (nI i)) me hme hs2 (hvG (nI i)) nL hL nW hW li hli (hlG (nI i)) nR hR nM hM hpk) hl0 (kCV_of X 0 gX11_cheapestVariants_X11_totalNow rfl rfl rfl (by decide +kernel) hRR ⟨Nat.le_of_ble_eq_true rfl, Nat.le_of_ble_eq_true rfl⟩) (by decide) rfl rfl rfl rfl (Nat.le_of_ble_eq_true rfl) hRR ⟨Nat.le_of_ble_eq_true rfl, Nat.le_of_ble_eq_true rfl⟩ dX11_cheapestVariants_42 (fun r z hp => ?_)
        obtain ⟨X42, X42y, X42z, rfl, rfl⟩ := hp
        refine kv_topl (mtot (M.2.1 2) (M.2.1 4) (M.2.1 5) (M.2.1 3) (M.2.1 27) (M.2.1 26) (fun r => msumL (fun l => mq (M.2.1 19) (M.2.1 20) (nI l) nW) (fun l => mN (M.2.1 13) (M.2.1 15) cn (fun k => (mI (nI i)) (nm k)) (mdir (M.2.1 13) (M.2.1 15) (M.2.1 9) (M.2.1 3) (M.2.1 11) cn nm mn (mR (nI i)) me (nI r) (-1)) 2 ((mI (nI i)) (li l))) nL) nR nM) tot_clean ?_
        refine kv_lstore (lv2 := [(6, .long (mtot (M.2.1 2) (M.2.1 4) (M.2.1 5) (M.2.1 3) (M.2.1 27) (M.2.1 26) (fun r => msumL (fun l => mq (M.2.1 19) (M.2.1 20) (nI l) nW) (fun l => mN (M.2.1 13) (M.2.1 15) cn (fun k => (mI (nI i)) (nm k)) (mdir (M.2.1 13) (M.2.1 15) (M.2.1 9) (M.2.1 3) (M.2.1 11) cn nm mn (mR (nI i)) me (nI r) (-1)) 2 ((mI (nI i)) (li l))) nL) nR nM)), (5, .int (nI i)), (3, .long le), (2, .int be), (0, .ref (ad 0)), (1, .int (M.1 24))]) X dX11_cheapestVariants_45 (by rw [hnL]; decide) rfl ?_
        refine kv_iload_n X 3 dX11_cheapestVariants_47 rfl rfl ?_
        refine kv_iconst (v := (-1)) X dX11_cheapestVariants_48 (by decide) ?_
        refine kv_icmp_eq (tgt := 59) X dX11_cheapestVariants_49 (by decide) (fun hc49 => ?_) (fun hc49 => ?_)
        ·
          refine kv_iload X 1 dX11_cheapestVariants_59 rfl ?_
          refine kv_istore_n (lv2 := [(2, .int (nI i)), (6, .long (mtot (M.2.1 2) (M.2.1 4) (M.2.1 5) (M.2.1 3) (M.2.1 27) (M.2.1 26) (fun r => msumL (fun l => mq (M.2.1 19) (M.2.1 20) (nI l) nW) (fun l => mN (M.2.1 13) (M.2.1 15) cn (fun k => (mI (nI i)) (nm k)) (mdir (M.2.1 13) (M.2.1 15) (M.2.1 9) (M.2.1 3) (M.2.1 11) cn nm mn (mR (nI i)) me (nI r) (-1)) 2 ((mI (nI i)) (li l))) nL) nR nM)), (5, .int (nI i)), (3, .long le), (0, .ref (ad 0)), (1, .int (M.1 24))]) X dX11_cheapestVariants_61 rfl (by rw [hnL]; decide) rfl ?_
          refine kv_lload X 1 dX11_cheapestVariants_62 rfl ?_
          refine kv_lstore_n (lv2 := [(3, .long (mtot (M.2.1 2) (M.2.1 4) (M.2.1 5) (M.2.1 3) (M.2.1 27) (M.2.1 26) (fun r => msumL (fun l => mq (M.2.1 19) (M.2.1 20) (nI l) nW) (fun l => mN (M.2.1 13) (M.2.1 15) cn (fun k => (mI (nI i)) (nm k)) (mdir (M.2.1 13) (M.2.1 15) (M.2.1 9) (M.2.1 3) (M.2.1 11) cn nm mn (mR (nI i)) me (nI r) (-1)) 2 ((mI (nI i)) (li l))) nL) nR nM)), (2, .int (nI i)), (6, .long (mtot (M.2.1 2) (M.2.1 4) (M.2.1 5) (M.2.1 3) (M.2.1 27) (M.2.1 26) (fun r => msumL (fun l => mq (M.2.1 19) (M.2.1 20) (nI l) nW) (fun l => mN (M.2.1 13) (M.2.1 15) cn (fun k => (mI (nI i)) (nm k)) (mdir (M.2.1 13) (M.2.1 15) (M.2.1 9) (M.2.1 3) (M.2.1 11) cn nm mn (mR (nI i)) me (nI r) (-1)) 2 ((mI (nI i)) (li l))) nL) nR nM)), (5, .int (nI i)), (0, .ref (ad 0)), (1, .int (M.1 24))]) X dX11_cheapestVariants_64 rfl (by rw [hnL]; decide) rfl ?_
          refine kv_M ((va_up (va_up M.1 0 0) 24 (nI i)), (va_up M.2.1 30 (mD (M.2.1 13) cn (fun k => (mI (nI i)) (nm k)) nt Da 3)), (va_up (va_up (va_up (va_up (va_up M.2.2 28 (mset B28 (fun r => msumL (fun l => mq (M.2.1 19) (M.2.1 20) (nI l) nW) (fun l => mN (M.2.1 13) (M.2.1 15) cn (fun k => (mI (nI i)) (nm k)) (mdir (M.2.1 13) (M.2.1 15) (M.2.1 9) (M.2.1 3) (M.2.1 11) cn nm mn (mR (nI i)) me (nI r) (-1)) 2 ((mI (nI i)) (li l))) nL) nR)) 29 (mset B29 (mmk (M.2.1 27) (M.2.1 26) (fun b => mkd (M.2.1 2) (mset B28 (fun r => msumL (fun l => mq (M.2.1 19) (M.2.1 20) (nI l) nW) (fun l => mN (M.2.1 13) (M.2.1 15) cn (fun k => (mI (nI i)) (nm k)) (mdir (M.2.1 13) (M.2.1 15) (M.2.1 9) (M.2.1 3) (M.2.1 11) cn nm mn (mR (nI i)) me (nI r) (-1)) 2 ((mI (nI i)) (li l))) nL) nR) (M.2.1 3) (nI b) nR) (mex (mset B28 (fun r => msumL (fun l => mq (M.2.1 19) (M.2.1 20) (nI l) nW) (fun l => mN (M.2.1 13) (M.2.1 15) cn (fun k => (mI (nI i)) (nm k)) (mdir (M.2.1 13) (M.2.1 15) (M.2.1 9) (M.2.1 3) (M.2.1 11) cn nm mn (mR (nI i)) me (nI r) (-1)) 2 ((mI (nI i)) (li l))) nL) nR) (M.2.1 4) (M.2.1 5) (M.2.1 3) nR) nM) nM)) 31 X42) 32 X42y) 33 X42z)) (by show ((va_up (va_up (va_up M.1 0 0) 24 ov) 24 (nI i)), (va_up (va_up M.2.1 30 Da) 30 (mD (M.2.1 13) cn (fun k => (mI (nI i)) (nm k)) nt Da 3)), (va_up (va_up (va_up (va_up (va_up (va_up (va_up (va_up (va_up (va_up (va_up M.2.2 28 B28) 29 B29) 31 B31) 32 B32) 33 B33) 33 X35) 28 (mset B28 (fun r => msumL (fun l => mq (M.2.1 19) (M.2.1 20) (nI l) nW) (fun l => mN (M.2.1 13) (M.2.1 15) cn (fun k => (mI (nI i)) (nm k)) (mdir (M.2.1 13) (M.2.1 15) (M.2.1 9) (M.2.1 3) (M.2.1 11) cn nm mn (mR (nI i)) me (nI r) (-1)) 2 ((mI (nI i)) (li l))) nL) nR)) 29 (mset B29 (mmk (M.2.1 27) (M.2.1 26) (fun b => mkd (M.2.1 2) (mset B28 (fun r => msumL (fun l => mq (M.2.1 19) (M.2.1 20) (nI l) nW) (fun l => mN (M.2.1 13) (M.2.1 15) cn (fun k => (mI (nI i)) (nm k)) (mdir (M.2.1 13) (M.2.1 15) (M.2.1 9) (M.2.1 3) (M.2.1 11) cn nm mn (mR (nI i)) me (nI r) (-1)) 2 ((mI (nI i)) (li l))) nL) nR) (M.2.1 3) (nI b) nR) (mex (mset B28 (fun r => msumL (fun l => mq (M.2.1 19) (M.2.1 20) (nI l) nW) (fun l => mN (M.2.1 13) (M.2.1 15) cn (fun k => (mI (nI i)) (nm k)) (mdir (M.2.1 13) (M.2.1 15) (M.2.1 9) (M.2.1 3) (M.2.1 11) cn nm mn (mR (nI i)) me (nI r) (-1)) 2 ((mI (nI i)) (li l))) nL) nR) (M.2.1 4) (M.2.1 5) (M.2.1 3) nR) nM) nM)) 31 X42) 32 X42y) 33 X42z)) = ((va_up (va_up M.1 0 0) 24 (nI i)), (va_up M.2.1 30 (mD (M.2.1 13) cn (fun k => (mI (nI i)) (nm k)) nt Da 3)), (va_up (va_up (va_up (va_up (va_up M.2.2 28 (mset B28 (fun r => msumL (fun l => mq (M.2.1 19) (M.2.1 20) (nI l) nW) (fun l => mN (M.2.1 13) (M.2.1 15) cn (fun k => (mI (nI i)) (nm k)) (mdir (M.2.1 13) (M.2.1 15) (M.2.1 9) (M.2.1 3) (M.2.1 11) cn nm mn (mR (nI i)) me (nI r) (-1)) 2 ((mI (nI i)) (li l))) nL) nR)) 29 (mset B29 (mmk (M.2.1 27) (M.2.1 26) (fun b => mkd (M.2.1 2) (mset B28 (fun r => msumL (fun l => mq (M.2.1 19) (M.2.1 20) (nI l) nW) (fun l => mN (M.2.1 13) (M.2.1 15) cn (fun k => (mI (nI i)) (nm k)) (mdir (M.2.1 13) (M.2.1 15) (M.2.1 9) (M.2.1 3) (M.2.1 11) cn nm mn (mR (nI i)) me (nI r) (-1)) 2 ((mI (nI i)) (li l))) nL) nR) (M.2.1 3) (nI b) nR) (mex (mset B28 (fun r => msumL (fun l => mq (M.2.1 19) (M.2.1 20) (nI l) nW) (fun l => mN (M.2.1 13) (M.2.1 15) cn (fun k => (mI (nI i)) (nm k)) (mdir (M.2.1 13) (M.2.1 15) (M.2.1 9) (M.2.1 3) (M.2.1 11) cn nm mn (mR (nI i)) me (nI r) (-1)) 2 ((mI (nI i)) (li l))) nL) nR) (M.2.1 4) (M.2.1 5) (M.2.1 3) nR) nM) nM)) 31 X42) 32 X42y) 33 X42z)); exact Prod.ext (by refine funext fun q => ?_; refine (Decidable.em (q = 0)).elim (fun e => by subst e; rfl) (fun e0 => ?_); refine (Decidable.em (q = 24)).elim (fun e => by subst e; rfl) (fun e24 => ?_); simp only [va_up, if_neg e0, if_neg e24]) (Prod.ext (by refine funext fun q => ?_; refine (Decidable.em (q = 30)).elim (fun e => by subst e; rfl) (fun e30 => ?_); simp only [va_up, if_neg e30]) (by refine funext fun q => ?_; refine (Decidable.em (q = 28)).elim (fun e => by subst e; rfl) (fun e28 => ?_); refine (Decidable.em (q = 29)).elim (fun e => by subst e; rfl) (fun e29 => ?_); refine (Decidable.em (q = 31)).elim (fun e => by subst e; rfl) (fun e31 => ?_); refine (Decidable.em (q = 32)).elim (fun e => by subst e; rfl) (fun e32 => ?_); refine (Decidable.em (q = 33)).elim (fun e => by subst e; rfl) (fun e33 => ?_); simp only [va_up, if_neg e28, if_neg e29, if_neg e31, if_neg e32, if_neg e33]))) ?_
          refine kv_iinc (j := 3) (v := (nI (i + 1))) (lv2 := [(5, .int (nI (i + 1))), (3, .long (mtot (M.2.1 2) (M.2.1 4) (M.2.1 5) (M.2.1 3) (M.2.1 27) (M.2.1 26) (fun r => msumL (fun l => mq (M.2.1 19) (M.2.1 20) (nI l) nW) (fun l => mN (M.2.1 13) (M.2.1 15) cn (fun k => (mI (nI i)) (nm k)) (mdir (M.2.1 13) (M.2.1 15) (M.2.1 9) (M.2.1 3) (M.2.1 11) cn nm mn (mR (nI i)) me (nI r) (-1)) 2 ((mI (nI i)) (li l))) nL) nR nM)), (2, .int (nI i)), (6, .long (mtot (M.2.1 2) (M.2.1 4) (M.2.1 5) (M.2.1 3) (M.2.1 27) (M.2.1 26) (fun r => msumL (fun l => mq (M.2.1 19) (M.2.1 20) (nI l) nW) (fun l => mN (M.2.1 13) (M.2.1 15) cn (fun k => (mI (nI i)) (nm k)) (mdir (M.2.1 13) (M.2.1 15) (M.2.1 9) (M.2.1 3) (M.2.1 11) cn nm mn (mR (nI i)) me (nI r) (-1)) 2 ((mI (nI i)) (li l))) nL) nR nM)), (0, .ref (ad 0)), (1, .int (M.1 24))]) X dX11_cheapestVariants_65 rfl (nI_add i 1) (by rw [hnL]; decide) rfl ?_
          refine kv_goto (tgt := 17) X dX11_cheapestVariants_68 (by decide) ?_
          exact kv_lv [0, 1, 2, 4, 5] rfl (ih17 (i + 1) (by omega) (nI i) (mtot (M.2.1 2) (M.2.1 4) (M.2.1 5) (M.2.1 3) (M.2.1 27) (M.2.1 26) (fun r => msumL (fun l => mq (M.2.1 19) (M.2.1 20) (nI l) nW) (fun l => mN (M.2.1 13) (M.2.1 15) cn (fun k => (mI (nI i)) (nm k)) (mdir (M.2.1 13) (M.2.1 15) (M.2.1 9) (M.2.1 3) (M.2.1 11) cn nm mn (mR (nI i)) me (nI r) (-1)) 2 ((mI (nI i)) (li l))) nL) nR nM) (nI i) (mD (M.2.1 13) cn (fun k => (mI (nI i)) (nm k)) nt Da 3) (mset B28 (fun r => msumL (fun l => mq (M.2.1 19) (M.2.1 20) (nI l) nW) (fun l => mN (M.2.1 13) (M.2.1 15) cn (fun k => (mI (nI i)) (nm k)) (mdir (M.2.1 13) (M.2.1 15) (M.2.1 9) (M.2.1 3) (M.2.1 11) cn nm mn (mR (nI i)) me (nI r) (-1)) 2 ((mI (nI i)) (li l))) nL) nR) (mset B29 (mmk (M.2.1 27) (M.2.1 26) (fun b => mkd (M.2.1 2) (mset B28 (fun r => msumL (fun l => mq (M.2.1 19) (M.2.1 20) (nI l) nW) (fun l => mN (M.2.1 13) (M.2.1 15) cn (fun k => (mI (nI i)) (nm k)) (mdir (M.2.1 13) (M.2.1 15) (M.2.1 9) (M.2.1 3) (M.2.1 11) cn nm mn (mR (nI i)) me (nI r) (-1)) 2 ((mI (nI i)) (li l))) nL) nR) (M.2.1 3) (nI b) nR) (mex (mset B28 (fun r => msumL (fun l => mq (M.2.1 19) (M.2.1 20) (nI l) nW) (fun l => mN (M.2.1 13) (M.2.1 15) cn (fun k => (mI (nI i)) (nm k)) (mdir (M.2.1 13) (M.2.1 15) (M.2.1 9) (M.2.1 3) (M.2.1 11) cn nm mn (mR (nI i)) me (nI r) (-1)) 2 ((mI (nI i)) (li l))) nL) nR) (M.2.1 4) (M.2.1 5) (M.2.1 3) nR) nM) nM) X42 X42y X42z ⟨be, le, hB, Or.inl ⟨(al_base (hvG (nI i))).mp h35, by first | exact Or.inl hc49 | exact Or.inr ((lg_cmp_lt _ _).mp (Int32.not_le.mp hc56)), rfl, rfl⟩⟩)
        ·
          refine kv_lload X 0 dX11_cheapestVariants_52 rfl ?_
          refine kv_lload_n X 2 dX11_cheapestVariants_54 rfl rfl ?_
          refine kv_lcmp X dX11_cheapestVariants_55 ?_
          refine kv_if_ge (tgt := 65) X dX11_cheapestVariants_56 (by decide) (fun hc56 => ?_) (fun hc56 => ?_)
          ·
            refine kv_M ((va_up (va_up M.1 0 0) 24 (nI i)), (va_up M.2.1 30 (mD (M.2.1 13) cn (fun k => (mI (nI i)) (nm k)) nt Da 3)), (va_up (va_up (va_up (va_up (va_up M.2.2 28 (mset B28 (fun r => msumL (fun l => mq (M.2.1 19) (M.2.1 20) (nI l) nW) (fun l => mN (M.2.1 13) (M.2.1 15) cn (fun k => (mI (nI i)) (nm k)) (mdir (M.2.1 13) (M.2.1 15) (M.2.1 9) (M.2.1 3) (M.2.1 11) cn nm mn (mR (nI i)) me (nI r) (-1)) 2 ((mI (nI i)) (li l))) nL) nR)) 29 (mset B29 (mmk (M.2.1 27) (M.2.1 26) (fun b => mkd (M.2.1 2) (mset B28 (fun r => msumL (fun l => mq (M.2.1 19) (M.2.1 20) (nI l) nW) (fun l => mN (M.2.1 13) (M.2.1 15) cn (fun k => (mI (nI i)) (nm k)) (mdir (M.2.1 13) (M.2.1 15) (M.2.1 9) (M.2.1 3) (M.2.1 11) cn nm mn (mR (nI i)) me (nI r) (-1)) 2 ((mI (nI i)) (li l))) nL) nR) (M.2.1 3) (nI b) nR) (mex (mset B28 (fun r => msumL (fun l => mq (M.2.1 19) (M.2.1 20) (nI l) nW) (fun l => mN (M.2.1 13) (M.2.1 15) cn (fun k => (mI (nI i)) (nm k)) (mdir (M.2.1 13) (M.2.1 15) (M.2.1 9) (M.2.1 3) (M.2.1 11) cn nm mn (mR (nI i)) me (nI r) (-1)) 2 ((mI (nI i)) (li l))) nL) nR) (M.2.1 4) (M.2.1 5) (M.2.1 3) nR) nM) nM)) 31 X42) 32 X42y) 33 X42z)) (by show ((va_up (va_up (va_up M.1 0 0) 24 ov) 24 (nI i)), (va_up (va_up M.2.1 30 Da) 30 (mD (M.2.1 13) cn (fun k => (mI (nI i)) (nm k)) nt Da 3)), (va_up (va_up (va_up (va_up (va_up (va_up (va_up (va_up (va_up (va_up (va_up M.2.2 28 B28) 29 B29) 31 B31) 32 B32) 33 B33) 33 X35) 28 (mset B28 (fun r => msumL (fun l => mq (M.2.1 19) (M.2.1 20) (nI l) nW) (fun l => mN (M.2.1 13) (M.2.1 15) cn (fun k => (mI (nI i)) (nm k)) (mdir (M.2.1 13) (M.2.1 15) (M.2.1 9) (M.2.1 3) (M.2.1 11) cn nm mn (mR (nI i)) me (nI r) (-1)) 2 ((mI (nI i)) (li l))) nL) nR)) 29 (mset B29 (mmk (M.2.1 27) (M.2.1 26) (fun b => mkd (M.2.1 2) (mset B28 (fun r => msumL (fun l => mq (M.2.1 19) (M.2.1 20) (nI l) nW) (fun l => mN (M.2.1 13) (M.2.1 15) cn (fun k => (mI (nI i)) (nm k)) (mdir (M.2.1 13) (M.2.1 15) (M.2.1 9) (M.2.1 3) (M.2.1 11) cn nm mn (mR (nI i)) me (nI r) (-1)) 2 ((mI (nI i)) (li l))) nL) nR) (M.2.1 3) (nI b) nR) (mex (mset B28 (fun r => msumL (fun l => mq (M.2.1 19) (M.2.1 20) (nI l) nW) (fun l => mN (M.2.1 13) (M.2.1 15) cn (fun k => (mI (nI i)) (nm k)) (mdir (M.2.1 13) (M.2.1 15) (M.2.1 9) (M.2.1 3) (M.2.1 11) cn nm mn (mR (nI i)) me (nI r) (-1)) 2 ((mI (nI i)) (li l))) nL) nR) (M.2.1 4) (M.2.1 5) (M.2.1 3) nR) nM) nM)) 31 X42) 32 X42y) 33 X42z)) = ((va_up (va_up M.1 0 0) 24 (nI i)), (va_up M.2.1 30 (mD (M.2.1 13) cn (fun k => (mI (nI i)) (nm k)) nt Da 3)), (va_up (va_up (va_up (va_up (va_up M.2.2 28 (mset B28 (fun r => msumL (fun l => mq (M.2.1 19) (M.2.1 20) (nI l) nW) (fun l => mN (M.2.1 13) (M.2.1 15) cn (fun k => (mI (nI i)) (nm k)) (mdir (M.2.1 13) (M.2.1 15) (M.2.1 9) (M.2.1 3) (M.2.1 11) cn nm mn (mR (nI i)) me (nI r) (-1)) 2 ((mI (nI i)) (li l))) nL) nR)) 29 (mset B29 (mmk (M.2.1 27) (M.2.1 26) (fun b => mkd (M.2.1 2) (mset B28 (fun r => msumL (fun l => mq (M.2.1 19) (M.2.1 20) (nI l) nW) (fun l => mN (M.2.1 13) (M.2.1 15) cn (fun k => (mI (nI i)) (nm k)) (mdir (M.2.1 13) (M.2.1 15) (M.2.1 9) (M.2.1 3) (M.2.1 11) cn nm mn (mR (nI i)) me (nI r) (-1)) 2 ((mI (nI i)) (li l))) nL) nR) (M.2.1 3) (nI b) nR) (mex (mset B28 (fun r => msumL (fun l => mq (M.2.1 19) (M.2.1 20) (nI l) nW) (fun l => mN (M.2.1 13) (M.2.1 15) cn (fun k => (mI (nI i)) (nm k)) (mdir (M.2.1 13) (M.2.1 15) (M.2.1 9) (M.2.1 3) (M.2.1 11) cn nm mn (mR (nI i)) me (nI r) (-1)) 2 ((mI (nI i)) (li l))) nL) nR) (M.2.1 4) (M.2.1 5) (M.2.1 3) nR) nM) nM)) 31 X42) 32 X42y) 33 X42z)); exact Prod.ext (by refine funext fun q => ?_; refine (Decidable.em (q = 0)).elim (fun e => by subst e; rfl) (fun e0 => ?_); refine (Decidable.em (q = 24)).elim (fun e => by subst e; rfl) (fun e24 => ?_); simp only [va_up, if_neg e0, if_neg e24]) (Prod.ext (by refine funext fun q => ?_; refine (Decidable.em (q = 30)).elim (fun e => by subst e; rfl) (fun e30 => ?_); simp only [va_up, if_neg e30]) (by refine funext fun q => ?_; refine (Decidable.em (q = 28)).elim (fun e => by subst e; rfl) (fun e28 => ?_); refine (Decidable.em (q = 29)).elim (fun e => by subst e; rfl) (fun e29 => ?_); refine (Decidable.em (q = 31)).elim (fun e => by subst e; rfl) (fun e31 => ?_); refine (Decidable.em (q = 32)).elim (fun e => by subst e; rfl) (fun e32 => ?_); refine (Decidable.em (q = 33)).elim (fun e => by subst e; rfl) (fun e33 => ?_); simp only [va_up, if_neg e28, if_neg e29, if_neg e31, if_neg e32, if_neg e33]))) ?_
            refine kv_iinc (j := 1) (v := (nI (i + 1))) (lv2 := [(5, .int (nI (i + 1))), (6, .long (mtot (M.2.1 2) (M.2.1 4) (M.2.1 5) (M.2.1 3) (M.2.1 27) (M.2.1 26) (fun r => msumL (fun l => mq (M.2.1 19) (M.2.1 20) (nI l) nW) (fun l => mN (M.2.1 13) (M.2.1 15) cn (fun k => (mI (nI i)) (nm k)) (mdir (M.2.1 13) (M.2.1 15) (M.2.1 9) (M.2.1 3) (M.2.1 11) cn nm mn (mR (nI i)) me (nI r) (-1)) 2 ((mI (nI i)) (li l))) nL) nR nM)), (3, .long le), (2, .int be), (0, .ref (ad 0)), (1, .int (M.1 24))]) X dX11_cheapestVariants_65 rfl (nI_add i 1) (by rw [hnL]; decide) rfl ?_
            refine kv_goto (tgt := 17) X dX11_cheapestVariants_68 (by decide) ?_
            exact kv_lv [0, 2, 3, 4, 5] rfl (ih17 (i + 1) (by omega) be le (nI i) (mD (M.2.1 13) cn (fun k => (mI (nI i)) (nm k)) nt Da 3) (mset B28 (fun r => msumL (fun l => mq (M.2.1 19) (M.2.1 20) (nI l) nW) (fun l => mN (M.2.1 13) (M.2.1 15) cn (fun k => (mI (nI i)) (nm k)) (mdir (M.2.1 13) (M.2.1 15) (M.2.1 9) (M.2.1 3) (M.2.1 11) cn nm mn (mR (nI i)) me (nI r) (-1)) 2 ((mI (nI i)) (li l))) nL) nR) (mset B29 (mmk (M.2.1 27) (M.2.1 26) (fun b => mkd (M.2.1 2) (mset B28 (fun r => msumL (fun l => mq (M.2.1 19) (M.2.1 20) (nI l) nW) (fun l => mN (M.2.1 13) (M.2.1 15) cn (fun k => (mI (nI i)) (nm k)) (mdir (M.2.1 13) (M.2.1 15) (M.2.1 9) (M.2.1 3) (M.2.1 11) cn nm mn (mR (nI i)) me (nI r) (-1)) 2 ((mI (nI i)) (li l))) nL) nR) (M.2.1 3) (nI b) nR) (mex (mset B28 (fun r => msumL (fun l => mq (M.2.1 19) (M.2.1 20) (nI l) nW) (fun l => mN (M.2.1 13) (M.2.1 15) cn (fun k => (mI (nI i)) (nm k)) (mdir (M.2.1 13) (M.2.1 15) (M.2.1 9) (M.2.1 3) (M.2.1 11) cn nm mn (mR (nI i)) me (nI r) (-1)) 2 ((mI (nI i)) (li l))) nL) nR) (M.2.1 4) (M.2.1 5) (M.2.1 3) nR) nM) nM) X42 X42y X42z ⟨be, le, hB, Or.inr ⟨fun q => by first | exact h35 ((al_base (hvG (nI i))).mp q.1) | exact q.2.elim hc49 (fun y => absurd ((lg_cmp_ge _ _).mp hc56) (Int64.not_le.mpr y)), rfl, rfl⟩⟩)
          ·
            refine kv_iload X 1 dX11_cheapestVariants_59 rfl ?_
            refine kv_istore_n (lv2 := [(2, .int (nI i)), (6, .long (mtot (M.2.1 2) (M.2.1 4) (M.2.1 5) (M.2.1 3) (M.2.1 27) (M.2.1 26) (fun r => msumL (fun l => mq (M.2.1 19) (M.2.1 20) (nI l) nW) (fun l => mN (M.2.1 13) (M.2.1 15) cn (fun k => (mI (nI i)) (nm k)) (mdir (M.2.1 13) (M.2.1 15) (M.2.1 9) (M.2.1 3) (M.2.1 11) cn nm mn (mR (nI i)) me (nI r) (-1)) 2 ((mI (nI i)) (li l))) nL) nR nM)), (5, .int (nI i)), (3, .long le), (0, .ref (ad 0)), (1, .int (M.1 24))]) X dX11_cheapestVariants_61 rfl (by rw [hnL]; decide) rfl ?_
            refine kv_lload X 1 dX11_cheapestVariants_62 rfl ?_
            refine kv_lstore_n (lv2 := [(3, .long (mtot (M.2.1 2) (M.2.1 4) (M.2.1 5) (M.2.1 3) (M.2.1 27) (M.2.1 26) (fun r => msumL (fun l => mq (M.2.1 19) (M.2.1 20) (nI l) nW) (fun l => mN (M.2.1 13) (M.2.1 15) cn (fun k => (mI (nI i)) (nm k)) (mdir (M.2.1 13) (M.2.1 15) (M.2.1 9) (M.2.1 3) (M.2.1 11) cn nm mn (mR (nI i)) me (nI r) (-1)) 2 ((mI (nI i)) (li l))) nL) nR nM)), (2, .int (nI i)), (6, .long (mtot (M.2.1 2) (M.2.1 4) (M.2.1 5) (M.2.1 3) (M.2.1 27) (M.2.1 26) (fun r => msumL (fun l => mq (M.2.1 19) (M.2.1 20) (nI l) nW) (fun l => mN (M.2.1 13) (M.2.1 15) cn (fun k => (mI (nI i)) (nm k)) (mdir (M.2.1 13) (M.2.1 15) (M.2.1 9) (M.2.1 3) (M.2.1 11) cn nm mn (mR (nI i)) me (nI r) (-1)) 2 ((mI (nI i)) (li l))) nL) nR nM)), (5, .int (nI i)), (0, .ref (ad 0)), (1, .int (M.1 24))]) X dX11_cheapestVariants_64 rfl (by rw [hnL]; decide) rfl ?_
            refine kv_M ((va_up (va_up M.1 0 0) 24 (nI i)), (va_up M.2.1 30 (mD (M.2.1 13) cn (fun k => (mI (nI i)) (nm k)) nt Da 3)), (va_up (va_up (va_up (va_up (va_up M.2.2 28 (mset B28 (fun r => msumL (fun l => mq (M.2.1 19) (M.2.1 20) (nI l) nW) (fun l => mN (M.2.1 13) (M.2.1 15) cn (fun k => (mI (nI i)) (nm k)) (mdir (M.2.1 13) (M.2.1 15) (M.2.1 9) (M.2.1 3) (M.2.1 11) cn nm mn (mR (nI i)) me (nI r) (-1)) 2 ((mI (nI i)) (li l))) nL) nR)) 29 (mset B29 (mmk (M.2.1 27) (M.2.1 26) (fun b => mkd (M.2.1 2) (mset B28 (fun r => msumL (fun l => mq (M.2.1 19) (M.2.1 20) (nI l) nW) (fun l => mN (M.2.1 13) (M.2.1 15) cn (fun k => (mI (nI i)) (nm k)) (mdir (M.2.1 13) (M.2.1 15) (M.2.1 9) (M.2.1 3) (M.2.1 11) cn nm mn (mR (nI i)) me (nI r) (-1)) 2 ((mI (nI i)) (li l))) nL) nR) (M.2.1 3) (nI b) nR) (mex (mset B28 (fun r => msumL (fun l => mq (M.2.1 19) (M.2.1 20) (nI l) nW) (fun l => mN (M.2.1 13) (M.2.1 15) cn (fun k => (mI (nI i)) (nm k)) (mdir (M.2.1 13) (M.2.1 15) (M.2.1 9) (M.2.1 3) (M.2.1 11) cn nm mn (mR (nI i)) me (nI r) (-1)) 2 ((mI (nI i)) (li l))) nL) nR) (M.2.1 4) (M.2.1 5) (M.2.1 3) nR) nM) nM)) 31 X42) 32 X42y) 33 X42z)) (by show ((va_up (va_up (va_up M.1 0 0) 24 ov) 24 (nI i)), (va_up (va_up M.2.1 30 Da) 30 (mD (M.2.1 13) cn (fun k => (mI (nI i)) (nm k)) nt Da 3)), (va_up (va_up (va_up (va_up (va_up (va_up (va_up (va_up (va_up (va_up (va_up M.2.2 28 B28) 29 B29) 31 B31) 32 B32) 33 B33) 33 X35) 28 (mset B28 (fun r => msumL (fun l => mq (M.2.1 19) (M.2.1 20) (nI l) nW) (fun l => mN (M.2.1 13) (M.2.1 15) cn (fun k => (mI (nI i)) (nm k)) (mdir (M.2.1 13) (M.2.1 15) (M.2.1 9) (M.2.1 3) (M.2.1 11) cn nm mn (mR (nI i)) me (nI r) (-1)) 2 ((mI (nI i)) (li l))) nL) nR)) 29 (mset B29 (mmk (M.2.1 27) (M.2.1 26) (fun b => mkd (M.2.1 2) (mset B28 (fun r => msumL (fun l => mq (M.2.1 19) (M.2.1 20) (nI l) nW) (fun l => mN (M.2.1 13) (M.2.1 15) cn (fun k => (mI (nI i)) (nm k)) (mdir (M.2.1 13) (M.2.1 15) (M.2.1 9) (M.2.1 3) (M.2.1 11) cn nm mn (mR (nI i)) me (nI r) (-1)) 2 ((mI (nI i)) (li l))) nL) nR) (M.2.1 3) (nI b) nR) (mex (mset B28 (fun r => msumL (fun l => mq (M.2.1 19) (M.2.1 20) (nI l) nW) (fun l => mN (M.2.1 13) (M.2.1 15) cn (fun k => (mI (nI i)) (nm k)) (mdir (M.2.1 13) (M.2.1 15) (M.2.1 9) (M.2.1 3) (M.2.1 11) cn nm mn (mR (nI i)) me (nI r) (-1)) 2 ((mI (nI i)) (li l))) nL) nR) (M.2.1 4) (M.2.1 5) (M.2.1 3) nR) nM) nM)) 31 X42) 32 X42y) 33 X42z)) = ((va_up (va_up M.1 0 0) 24 (nI i)), (va_up M.2.1 30 (mD (M.2.1 13) cn (fun k => (mI (nI i)) (nm k)) nt Da 3)), (va_up (va_up (va_up (va_up (va_up M.2.2 28 (mset B28 (fun r => msumL (fun l => mq (M.2.1 19) (M.2.1 20) (nI l) nW) (fun l => mN (M.2.1 13) (M.2.1 15) cn (fun k => (mI (nI i)) (nm k)) (mdir (M.2.1 13) (M.2.1 15) (M.2.1 9) (M.2.1 3) (M.2.1 11) cn nm mn (mR (nI i)) me (nI r) (-1)) 2 ((mI (nI i)) (li l))) nL) nR)) 29 (mset B29 (mmk (M.2.1 27) (M.2.1 26) (fun b => mkd (M.2.1 2) (mset B28 (fun r => msumL (fun l => mq (M.2.1 19) (M.2.1 20) (nI l) nW) (fun l => mN (M.2.1 13) (M.2.1 15) cn (fun k => (mI (nI i)) (nm k)) (mdir (M.2.1 13) (M.2.1 15) (M.2.1 9) (M.2.1 3) (M.2.1 11) cn nm mn (mR (nI i)) me (nI r) (-1)) 2 ((mI (nI i)) (li l))) nL) nR) (M.2.1 3) (nI b) nR) (mex (mset B28 (fun r => msumL (fun l => mq (M.2.1 19) (M.2.1 20) (nI l) nW) (fun l => mN (M.2.1 13) (M.2.1 15) cn (fun k => (mI (nI i)) (nm k)) (mdir (M.2.1 13) (M.2.1 15) (M.2.1 9) (M.2.1 3) (M.2.1 11) cn nm mn (mR (nI i)) me (nI r) (-1)) 2 ((mI (nI i)) (li l))) nL) nR) (M.2.1 4) (M.2.1 5) (M.2.1 3) nR) nM) nM)) 31 X42) 32 X42y) 33 X42z)); exact Prod.ext (by refine funext fun q => ?_; refine (Decidable.em (q = 0)).elim (fun e => by subst e; rfl) (fun e0 => ?_); refine (Decidable.em (q = 24)).elim (fun e => by subst e; rfl) (fun e24 => ?_); simp only [va_up, if_neg e0, if_neg e24]) (Prod.ext (by refine funext fun q => ?_; refine (Decidable.em (q = 30)).elim (fun e => by subst e; rfl) (fun e30 => ?_); simp only [va_up, if_neg e30]) (by refine funext fun q => ?_; refine (Decidable.em (q = 28)).elim (fun e => by subst e; rfl) (fun e28 => ?_); refine (Decidable.em (q = 29)).elim (fun e => by subst e; rfl) (fun e29 => ?_); refine (Decidable.em (q = 31)).elim (fun e => by subst e; rfl) (fun e31 => ?_); refine (Decidable.em (q = 32)).elim (fun e => by subst e; rfl) (fun e32 => ?_); refine (Decidable.em (q = 33)).elim (fun e => by subst e; rfl) (fun e33 => ?_); simp only [va_up, if_neg e28, if_neg e29, if_neg e31, if_neg e32, if_neg e33]))) ?_
            refine kv_iinc (j := 3) (v := (nI (i + 1))) (lv2 := [(5, .int (nI (i + 1))), (3, .long (mtot (M.2.1 2) (M.2.1 4) (M.2.1 5) (M.2.1 3) (M.2.1 27) (M.2.1 26) (fun r => msumL (fun l => mq (M.2.1 19) (M.2.1 20) (nI l) nW) (fun l => mN (M.2.1 13) (M.2.1 15) cn (fun k => (mI (nI i)) (nm k)) (mdir (M.2.1 13) (M.2.1 15) (M.2.1 9) (M.2.1 3) (M.2.1 11) cn nm mn (mR (nI i)) me (nI r) (-1)) 2 ((mI (nI i)) (li l))) nL) nR nM)), (2, .int (nI i)), (6, .long (mtot (M.2.1 2) (M.2.1 4) (M.2.1 5) (M.2.1 3) (M.2.1 27) (M.2.1 26) (fun r => msumL (fun l => mq (M.2.1 19) (M.2.1 20) (nI l) nW) (fun l => mN (M.2.1 13) (M.2.1 15) cn (fun k => (mI (nI i)) (nm k)) (mdir (M.2.1 13) (M.2.1 15) (M.2.1 9) (M.2.1 3) (M.2.1 11) cn nm mn (mR (nI i)) me (nI r) (-1)) 2 ((mI (nI i)) (li l))) nL) nR nM)), (0, .ref (ad 0)), (1, .int (M.1 24))]) X dX11_cheapestVariants_65 rfl (nI_add i 1) (by rw [hnL]; decide) rfl ?_
            refine kv_goto (tgt := 17) X dX11_cheapestVariants_68 (by decide) ?_
            exact kv_lv [0, 1, 2, 4, 5] rfl (ih17 (i + 1) (by omega) (nI i) (mtot (M.2.1 2) (M.2.1 4) (M.2.1 5) (M.2.1 3) (M.2.1 27) (M.2.1 26) (fun r => msumL (fun l => mq (M.2.1 19) (M.2.1 20) (nI l) nW) (fun l => mN (M.2.1 13) (M.2.1 15) cn (fun k => (mI (nI i)) (nm k)) (mdir (M.2.1 13) (M.2.1 15) (M.2.1 9) (M.2.1 3) (M.2.1 11) cn nm mn (mR (nI i)) me (nI r) (-1)) 2 ((mI (nI i)) (li l))) nL) nR nM) (nI i) (mD (M.2.1 13) cn (fun k => (mI (nI i)) (nm k)) nt Da 3) (mset B28 (fun r => msumL (fun l => mq (M.2.1 19) (M.2.1 20) (nI l) nW) (fun l => mN (M.2.1 13) (M.2.1 15) cn (fun k => (mI (nI i)) (nm k)) (mdir (M.2.1 13) (M.2.1 15) (M.2.1 9) (M.2.1 3) (M.2.1 11) cn nm mn (mR (nI i)) me (nI r) (-1)) 2 ((mI (nI i)) (li l))) nL) nR) (mset B29 (mmk (M.2.1 27) (M.2.1 26) (fun b => mkd (M.2.1 2) (mset B28 (fun r => msumL (fun l => mq (M.2.1 19) (M.2.1 20) (nI l) nW) (fun l => mN (M.2.1 13) (M.2.1 15) cn (fun k => (mI (nI i)) (nm k)) (mdir (M.2.1 13) (M.2.1 15) (M.2.1 9) (M.2.1 3) (M.2.1 11) cn nm mn (mR (nI i)) me (nI r) (-1)) 2 ((mI (nI i)) (li l))) nL) nR) (M.2.1 3) (nI b) nR) (mex (mset B28 (fun r => msumL (fun l => mq (M.2.1 19) (M.2.1 20) (nI l) nW) (fun l => mN (M.2.1 13) (M.2.1 15) cn (fun k => (mI (nI i)) (nm k)) (mdir (M.2.1 13) (M.2.1 15) (M.2.1 9) (M.2.1 3) (M.2.1 11) cn nm mn (mR (nI i)) me (nI r) (-1)) 2 ((mI (nI i)) (li l))) nL) nR) (M.2.1 4) (M.2.1 5) (M.2.1 3) nR) nM) nM) X42 X42y X42z ⟨be, le, hB, Or.inl ⟨(al_base (hvG (nI i))).mp h35, by first | exact Or.inl hc49 | exact Or.inr ((lg_cmp_lt _ _).mp (Int32.not_le.mp hc56)), rfl, rfl⟩⟩)
      ·
        refine kv_if_eq (tgt := 65) X dX11_cheapestVariants_38 (by decide) (fun hc38 => ?_) (fun hc => absurd hc (by decide))
        refine kv_M ((va_up (va_up M.1 0 0) 24 (nI i)), (va_up M.2.1 30 (mD (M.2.1 13) cn (fun k => (mI (nI i)) (nm k)) nt Da 3)), (va_up (va_up (va_up (va_up (va_up M.2.2 28 B28) 29 B29) 31 B31) 32 B32) 33 X35)) (by show ((va_up (va_up (va_up M.1 0 0) 24 ov) 24 (nI i)), (va_up (va_up M.2.1 30 Da) 30 (mD (M.2.1 13) cn (fun k => (mI (nI i)) (nm k)) nt Da 3)), (va_up (va_up (va_up (va_up (va_up (va_up M.2.2 28 B28) 29 B29) 31 B31) 32 B32) 33 B33) 33 X35)) = ((va_up (va_up M.1 0 0) 24 (nI i)), (va_up M.2.1 30 (mD (M.2.1 13) cn (fun k => (mI (nI i)) (nm k)) nt Da 3)), (va_up (va_up (va_up (va_up (va_up M.2.2 28 B28) 29 B29) 31 B31) 32 B32) 33 X35)); exact Prod.ext (by refine funext fun q => ?_; refine (Decidable.em (q = 0)).elim (fun e => by subst e; rfl) (fun e0 => ?_); refine (Decidable.em (q = 24)).elim (fun e => by subst e; rfl) (fun e24 => ?_); simp only [va_up, if_neg e0, if_neg e24]) (Prod.ext (by refine funext fun q => ?_; refine (Decidable.em (q = 30)).elim (fun e => by subst e; rfl) (fun e30 => ?_); simp only [va_up, if_neg e30]) (by refine funext fun q => ?_; refine (Decidable.em (q = 28)).elim (fun e => by subst e; rfl) (fun e28 => ?_); refine (Decidable.em (q = 29)).elim (fun e => by subst e; rfl) (fun e29 => ?_); refine (Decidable.em (q = 31)).elim (fun e => by subst e; rfl) (fun e31 => ?_); refine (Decidable.em (q = 32)).elim (fun e => by subst e; rfl) (fun e32 => ?_); refine (Decidable.em (q = 33)).elim (fun e => by subst e; rfl) (fun e33 => ?_); simp only [va_up, if_neg e28, if_neg e29, if_neg e31, if_neg e32, if_neg e33]))) ?_
        refine kv_iinc (j := 0) (v := (nI (i + 1))) (lv2 := [(5, .int (nI (i + 1))), (3, .long le), (2, .int be), (0, .ref (ad 0)), (1, .int (M.1 24))]) X dX11_cheapestVariants_65 rfl (nI_add i 1) (by rw [hnL]; decide) rfl ?_
        refine kv_goto (tgt := 17) X dX11_cheapestVariants_68 (by decide) ?_
        exact kv_lv [0, 1, 2, 3, 4] rfl (ih17 (i + 1) (by omega) be le (nI i) (mD (M.2.1 13) cn (fun k => (mI (nI i)) (nm k)) nt Da 3) B28 B29 B31 B32 X35 ⟨be, le, hB, Or.inr ⟨fun q => by first | exact h35 ((al_base (hvG (nI i))).mp q.1) | exact q.2.elim hc49 (fun y => absurd ((lg_cmp_ge _ _).mp hc56) (Int64.not_le.mpr y)), rfl, rfl⟩⟩)
  exact kv_lv [0, 1, 2, 4, 3] rfl (L17 (2 ^ nV) 0 (by omega) (-1) 0 (M.1 24) (M.2.1 30) (M.2.2 28) (M.2.2 29) (M.2.2 31) (M.2.2 32) (M.2.2 33) ⟨rfl, rfl⟩)
theorem fp_X11_dearest_86 : kFp wsX11_dearest RX11 86 14 0 .int false := ⟨_, RX11, TX11, 34, tyX11, fun _ h => (List.mem_cons_of_mem _ (List.mem_append_left _ (List.mem_append_left _ (List.mem_append_right _ h)))), tyX11_ok, nmX11, (List.mem_cons_of_mem _ (List.mem_append_left _ (List.mem_append_left _ (List.mem_append_left _ (List.mem_append_left _ (List.mem_of_getElem? (i := 0) rfl)))))), rfl, by decide, rfl, rfl, by decide +kernel, rfl⟩
theorem f_X11_dearest_90 : kF wsX11_dearest RX11 90 14 1 := ⟨_, RX11, TX11, 34, fun _ h => (List.mem_cons_of_mem _ (List.mem_append_left _ (List.mem_append_left _ (List.mem_append_right _ h)))), (List.mem_cons_of_mem _ (List.mem_append_left _ (List.mem_append_left _ (List.mem_append_left _ (List.mem_append_left _ (List.mem_of_getElem? (i := 1) rfl)))))), rfl, by decide, rfl⟩
theorem f_X11_dearest_67 : kF wsX11_dearest RX11 67 14 28 := ⟨_, RX11, TX11, 34, fun _ h => (List.mem_cons_of_mem _ (List.mem_append_left _ (List.mem_append_left _ (List.mem_append_right _ h)))), (List.mem_cons_of_mem _ (List.mem_append_left _ (List.mem_append_left _ (List.mem_append_left _ (List.mem_append_left _ (List.mem_of_getElem? (i := 2) rfl)))))), rfl, by decide, rfl⟩
theorem f_X11_dearest_13 : kF wsX11_dearest RX11 13 14 3 := ⟨_, RX11, TX11, 34, fun _ h => (List.mem_cons_of_mem _ (List.mem_append_left _ (List.mem_append_left _ (List.mem_append_right _ h)))), (List.mem_cons_of_mem _ (List.mem_append_left _ (List.mem_append_left _ (List.mem_append_left _ (List.mem_append_left _ (List.mem_of_getElem? (i := 3) rfl)))))), rfl, by decide, rfl⟩
set_option maxRecDepth 100000 in
set_option maxHeartbeats 4000000 in
theorem c_X11_dearest (l : Launch) (dd : kDD) (ad : Nat → Nat) (M : mS) (v : Int32) (nt : Nat) (hT : M.1 10 = nI nt ∧ nt ≤ 12) (nV : Nat) (hV : M.1 21 = nI nV ∧ nV ≤ 4) (cn : Nat → Nat) (hcn : ∀ i, i < 12 → M.2.1 12 i = nI (cn i) ∧ cn i ≤ 4) (nm : Nat → Nat) (hnm : ∀ k, k < 48 → M.2.1 14 k = nI (nm k) ∧ nm k < 12) (mn : Nat → Nat) (hmn : ∀ i, i < 4 → M.2.1 7 i = nI (mn i) ∧ mn i ≤ 3) (mi : Nat → Nat) (hmi : ∀ j, j < 12 → mnt (M.1 24) (M.2.1 22) j nV 0 = nI (mi j) ∧ mi j < 12) (mr : Nat → Nat) (hmr : ∀ j, j < 12 → mnt (M.1 24) (M.2.1 23) j nV 0 = nI (mr j) ∧ mr j < 12) (me : Nat → Nat) (hme : ∀ q, q < 12 → M.2.1 8 q = nI (me q) ∧ me q < 12) (hs2 : ∀ k, k < 48 → M.2.1 13 k = 2 → nm k < 4) (hval : ∀ i, i < nt → ∀ k, k < cn i → M.2.1 13 (4 * i + k) = 0 → mi (nm (4 * i + k)) < nt) (nL : Nat) (hL : M.1 16 = nI nL ∧ nL ≤ 10) (nW : Nat) (hW : M.1 18 = nI nW ∧ nW ≤ 40) (li : Nat → Nat) (hli : ∀ l, l < 10 → M.2.1 17 l = nI (li l) ∧ li l < 12) (hlv : ∀ l, l < nL → mi (li l) < nt) (nR : Nat) (hR : M.1 1 = nI nR ∧ nR ≤ 12) (nM : Nat) (hM : M.1 25 = nI nM ∧ nM ≤ 4) (hpk : ∀ r, r < nR → 1 ≤ M.2.1 5 r) : kCi l yX11_dearest wsX11_dearest ({ frames := 5, cells := 0, slots := 0, locals := 123 } : Room) 0 0 dd [.ref (ad 0), .int v] (mK, ad, mE dd ad M) (kQi (S := mS) (fun r z => ∃ B, (∃ j, j < nR ∧ (0 < (fun j => (fun r => msumL (fun l => mq (M.2.1 19) (M.2.1 20) (nI l) nW) (fun l => mN (M.2.1 13) (M.2.1 15) cn (fun k => mi (nm k)) (mdir (M.2.1 13) (M.2.1 15) (M.2.1 9) (M.2.1 3) (M.2.1 11) cn nm mn mr me (nI r) (-1)) 2 (mi (li l))) nL) j * (M.2.1 3 j).toInt64) j ∧ mah (fun j => (fun r => msumL (fun l => mq (M.2.1 19) (M.2.1 20) (nI l) nW) (fun l => mN (M.2.1 13) (M.2.1 15) cn (fun k => mi (nm k)) (mdir (M.2.1 13) (M.2.1 15) (M.2.1 9) (M.2.1 3) (M.2.1 11) cn nm mn mr me (nI r) (-1)) 2 (mi (li l))) nL) j * (M.2.1 3 j).toInt64) j nR = v) ∧ (∀ k, k < j → ¬ (0 < (fun j => (fun r => msumL (fun l => mq (M.2.1 19) (M.2.1 20) (nI l) nW) (fun l => mN (M.2.1 13) (M.2.1 15) cn (fun k => mi (nm k)) (mdir (M.2.1 13) (M.2.1 15) (M.2.1 9) (M.2.1 3) (M.2.1 11) cn nm mn mr me (nI r) (-1)) 2 (mi (li l))) nL) j * (M.2.1 3 j).toInt64) k ∧ mah (fun j => (fun r => msumL (fun l => mq (M.2.1 19) (M.2.1 20) (nI l) nW) (fun l => mN (M.2.1 13) (M.2.1 15) cn (fun k => mi (nm k)) (mdir (M.2.1 13) (M.2.1 15) (M.2.1 9) (M.2.1 3) (M.2.1 11) cn nm mn mr me (nI r) (-1)) 2 (mi (li l))) nL) j * (M.2.1 3 j).toInt64) k nR = v)) ∧ (va_up M.1 0 0, M.2.1, B) = z ∧ r = nI j) ∨ ((∀ k, k < nR → ¬ (0 < (fun j => (fun r => msumL (fun l => mq (M.2.1 19) (M.2.1 20) (nI l) nW) (fun l => mN (M.2.1 13) (M.2.1 15) cn (fun k => mi (nm k)) (mdir (M.2.1 13) (M.2.1 15) (M.2.1 9) (M.2.1 3) (M.2.1 11) cn nm mn mr me (nI r) (-1)) 2 (mi (li l))) nL) j * (M.2.1 3 j).toInt64) k ∧ mah (fun j => (fun r => msumL (fun l => mq (M.2.1 19) (M.2.1 20) (nI l) nW) (fun l => mN (M.2.1 13) (M.2.1 15) cn (fun k => mi (nm k)) (mdir (M.2.1 13) (M.2.1 15) (M.2.1 9) (M.2.1 3) (M.2.1 11) cn nm mn mr me (nI r) (-1)) 2 (mi (li l))) nL) j * (M.2.1 3 j).toInt64) k nR = v)) ∧ (va_up (va_up M.1 0 0) 0 1, M.2.1, B) = z ∧ r = 0)) (fun _ => mK) (fun _ => ad) (fun z => mE dd ad z)) := by
  refine kMeti (ws' := _) (cc := cX11_dearest) (maxL := 9) (rt := .int) (by decide) rfl (Nat.le_of_ble_eq_true rfl) (fun g X hr hnL hRR hl0 hkn => ?_)
  show kv dd g 0 0 0 [(0, .ref (ad 0)), (1, .int v)] [] mK ad (mE dd ad M)
  refine kv_aload_n X 0 dX11_dearest_0 rfl rfl ?_
  refine kv_iconst (v := 0) X dX11_dearest_1 (by decide) ?_
  refine km_put X 0 (x := 0) fp_X11_dearest_86 (by decide) dX11_dearest_2 ?_
  refine kv_aload_n X 0 dX11_dearest_5 rfl rfl ?_
  refine kv_callvV (ci := 14) (κ := 0) (r1 := (TX11, 34)) (As := []) [] X (c_X11_look l dd ad ((va_up M.1 0 0), M.2.1, M.2.2) nt hT nV hV cn hcn nm hnm mn hmn mi hmi mr hmr me hme hs2 hval nL hL nW hW li hli hlv nR hR nM hM hpk) hl0 (kCV_of X 0 gX11_dearest_X11_look rfl rfl rfl (by decide +kernel) hRR ⟨Nat.le_of_ble_eq_true rfl, Nat.le_of_ble_eq_true rfl⟩) (by decide) rfl rfl rfl rfl (Nat.le_of_ble_eq_true rfl) hRR ⟨Nat.le_of_ble_eq_true rfl, Nat.le_of_ble_eq_true rfl⟩ dX11_dearest_6 (fun z hp => ?_)
  obtain ⟨X6, X6y, X6z, rfl⟩ := hp
  refine kv_iconst (v := 0) X dX11_dearest_9 (by decide) ?_
  refine kv_istore_n (lv2 := [(2, .int 0), (0, .ref (ad 0)), (1, .int v)]) X dX11_dearest_10 rfl (by rw [hnL]; decide) rfl ?_
  have L11 : ∀ (n i : Nat), i + n = nR → ∀ (_ : Unit) (hno : ∀ k, k < i → ¬ (0 < (fun j => (fun r => msumL (fun l => mq (M.2.1 19) (M.2.1 20) (nI l) nW) (fun l => mN (M.2.1 13) (M.2.1 15) cn (fun k => mi (nm k)) (mdir (M.2.1 13) (M.2.1 15) (M.2.1 9) (M.2.1 3) (M.2.1 11) cn nm mn mr me (nI r) (-1)) 2 (mi (li l))) nL) j * (M.2.1 3 j).toInt64) k ∧ mah (fun j => (fun r => msumL (fun l => mq (M.2.1 19) (M.2.1 20) (nI l) nW) (fun l => mN (M.2.1 13) (M.2.1 15) cn (fun k => mi (nm k)) (mdir (M.2.1 13) (M.2.1 15) (M.2.1 9) (M.2.1 3) (M.2.1 11) cn nm mn mr me (nI r) (-1)) 2 (mi (li l))) nL) j * (M.2.1 3 j).toInt64) k nR = v)), kv dd g 0 0 11 [(2, .int (nI i)), (0, .ref (ad 0)), (1, .int v)] [] mK ad (mE dd ad ((va_up M.1 0 0), M.2.1, (va_up (va_up (va_up (va_up (va_up M.2.2 28 (mset (M.2.2 28) (fun r => msumL (fun l => mq (M.2.1 19) (M.2.1 20) (nI l) nW) (fun l => mN (M.2.1 13) (M.2.1 15) cn (fun k => mi (nm k)) (mdir (M.2.1 13) (M.2.1 15) (M.2.1 9) (M.2.1 3) (M.2.1 11) cn nm mn mr me (nI r) (-1)) 2 (mi (li l))) nL) nR)) 29 (mset (M.2.2 29) (mmk (M.2.1 27) (M.2.1 26) (fun b => mkd (M.2.1 2) (mset (M.2.2 28) (fun r => msumL (fun l => mq (M.2.1 19) (M.2.1 20) (nI l) nW) (fun l => mN (M.2.1 13) (M.2.1 15) cn (fun k => mi (nm k)) (mdir (M.2.1 13) (M.2.1 15) (M.2.1 9) (M.2.1 3) (M.2.1 11) cn nm mn mr me (nI r) (-1)) 2 (mi (li l))) nL) nR) (M.2.1 3) (nI b) nR) (mex (mset (M.2.2 28) (fun r => msumL (fun l => mq (M.2.1 19) (M.2.1 20) (nI l) nW) (fun l => mN (M.2.1 13) (M.2.1 15) cn (fun k => mi (nm k)) (mdir (M.2.1 13) (M.2.1 15) (M.2.1 9) (M.2.1 3) (M.2.1 11) cn nm mn mr me (nI r) (-1)) 2 (mi (li l))) nL) nR) (M.2.1 4) (M.2.1 5) (M.2.1 3) nR) nM) nM)) 31 X6) 32 X6y) 33 X6z))) := by
    intro n
    induction n with
    | zero =>
      intro i hin11 _ hno
      refine kv_iload_n X 0 dX11_dearest_11 rfl rfl ?_
      refine kv_aload_n X 1 dX11_dearest_12 rfl rfl ?_
      refine km_get X 1 (v := .int (M.1 1)) f_X11_dearest_90 rfl dX11_dearest_13 ?_
      refine kv_topi (nI nR) hR.1 ?_
      refine kn_icmp_ge (x := i) (y := nR) (tgt := 123) X (by omega) (by omega) dX11_dearest_16 (by decide) (fun hc16 => ?_) (fun hc16 => absurd hc16 (by omega))
      refine kv_aload_n X 1 dX11_dearest_123 rfl rfl ?_
      refine kv_iconst (v := 1) X dX11_dearest_124 (by decide) ?_
      refine kv_iconst (v := 1) X dX11_dearest_125 (by decide) ?_
      refine kv_calliV (ci := 14) (κ := 0) (r1 := (TX11, 34)) (As := [.int 1, .int 1]) [] X (c_X11_fails1 l dd ad ((va_up M.1 0 0), M.2.1, (va_up (va_up (va_up (va_up (va_up M.2.2 28 (mset (M.2.2 28) (fun r => msumL (fun l => mq (M.2.1 19) (M.2.1 20) (nI l) nW) (fun l => mN (M.2.1 13) (M.2.1 15) cn (fun k => mi (nm k)) (mdir (M.2.1 13) (M.2.1 15) (M.2.1 9) (M.2.1 3) (M.2.1 11) cn nm mn mr me (nI r) (-1)) 2 (mi (li l))) nL) nR)) 29 (mset (M.2.2 29) (mmk (M.2.1 27) (M.2.1 26) (fun b => mkd (M.2.1 2) (mset (M.2.2 28) (fun r => msumL (fun l => mq (M.2.1 19) (M.2.1 20) (nI l) nW) (fun l => mN (M.2.1 13) (M.2.1 15) cn (fun k => mi (nm k)) (mdir (M.2.1 13) (M.2.1 15) (M.2.1 9) (M.2.1 3) (M.2.1 11) cn nm mn mr me (nI r) (-1)) 2 (mi (li l))) nL) nR) (M.2.1 3) (nI b) nR) (mex (mset (M.2.2 28) (fun r => msumL (fun l => mq (M.2.1 19) (M.2.1 20) (nI l) nW) (fun l => mN (M.2.1 13) (M.2.1 15) cn (fun k => mi (nm k)) (mdir (M.2.1 13) (M.2.1 15) (M.2.1 9) (M.2.1 3) (M.2.1 11) cn nm mn mr me (nI r) (-1)) 2 (mi (li l))) nL) nR) (M.2.1 4) (M.2.1 5) (M.2.1 3) nR) nM) nM)) 31 X6) 32 X6y) 33 X6z)) 1 (by decide) rfl) hl0 (kCV_of X 2 gX11_dearest_X11_fails rfl rfl rfl (by decide +kernel) hRR ⟨Nat.le_of_ble_eq_true rfl, Nat.le_of_ble_eq_true rfl⟩) (by decide) rfl rfl rfl rfl (Nat.le_of_ble_eq_true rfl) hRR ⟨Nat.le_of_ble_eq_true rfl, Nat.le_of_ble_eq_true rfl⟩ dX11_dearest_126 (fun r z hp => ?_)
      obtain ⟨rfl, rfl⟩ := hp
      refine kv_pop X dX11_dearest_129 rfl ?_
      refine kv_iconst (v := 0) X dX11_dearest_130 (by decide) ?_
      exact kv_ireturn X hr (by decide) (by decide) ⟨((va_up (va_up M.1 0 0) 0 1), M.2.1, (va_up (va_up (va_up (va_up (va_up M.2.2 28 (mset (M.2.2 28) (fun r => msumL (fun l => mq (M.2.1 19) (M.2.1 20) (nI l) nW) (fun l => mN (M.2.1 13) (M.2.1 15) cn (fun k => mi (nm k)) (mdir (M.2.1 13) (M.2.1 15) (M.2.1 9) (M.2.1 3) (M.2.1 11) cn nm mn mr me (nI r) (-1)) 2 (mi (li l))) nL) nR)) 29 (mset (M.2.2 29) (mmk (M.2.1 27) (M.2.1 26) (fun b => mkd (M.2.1 2) (mset (M.2.2 28) (fun r => msumL (fun l => mq (M.2.1 19) (M.2.1 20) (nI l) nW) (fun l => mN (M.2.1 13) (M.2.1 15) cn (fun k => mi (nm k)) (mdir (M.2.1 13) (M.2.1 15) (M.2.1 9) (M.2.1 3) (M.2.1 11) cn nm mn mr me (nI r) (-1)) 2 (mi (li l))) nL) nR) (M.2.1 3) (nI b) nR) (mex (mset (M.2.2 28) (fun r => msumL (fun l => mq (M.2.1 19) (M.2.1 20) (nI l) nW) (fun l => mN (M.2.1 13) (M.2.1 15) cn (fun k => mi (nm k)) (mdir (M.2.1 13) (M.2.1 15) (M.2.1 9) (M.2.1 3) (M.2.1 11) cn nm mn mr me (nI r) (-1)) 2 (mi (li l))) nL) nR) (M.2.1 4) (M.2.1 5) (M.2.1 3) nR) nM) nM)) 31 X6) 32 X6y) 33 X6z)), ⟨_, Or.inr ⟨fun k hk => hno k (by omega), rfl, rfl⟩⟩, rfl⟩ dX11_dearest_131
    | succ n ih11 =>
      intro i hin11 _ hno
      refine kv_iload_n X 0 dX11_dearest_11 rfl rfl ?_
      refine kv_aload_n X 1 dX11_dearest_12 rfl rfl ?_
      refine km_get X 1 (v := .int (M.1 1)) f_X11_dearest_90 rfl dX11_dearest_13 ?_
      refine kv_topi (nI nR) hR.1 ?_
      refine kn_icmp_ge (x := i) (y := nR) (tgt := 123) X (by omega) (by omega) dX11_dearest_16 (by decide) (fun hc16 => absurd hc16 (by omega)) (fun hc16 => ?_)
      refine kv_aload_n X 1 dX11_dearest_19 rfl rfl ?_
      refine km_get X 28 (v := .ref (ad 28)) f_X11_dearest_67 rfl dX11_dearest_20 ?_
      refine kv_iload_n X 0 dX11_dearest_23 rfl rfl ?_
      refine km_lald X 28 (j := i) (by decide) (by decide) rfl (by show _ < _; simp only [mLen]; omega) (by decide) dX11_dearest_24 ?_
      refine kv_topl ((mset (M.2.2 28) (fun r => msumL (fun l => mq (M.2.1 19) (M.2.1 20) (nI l) nW) (fun l => mN (M.2.1 13) (M.2.1 15) cn (fun k => mi (nm k)) (mdir (M.2.1 13) (M.2.1 15) (M.2.1 9) (M.2.1 3) (M.2.1 11) cn nm mn mr me (nI r) (-1)) 2 (mi (li l))) nL) nR) i) rfl ?_
      refine kv_aload_n X 1 dX11_dearest_25 rfl rfl ?_
      refine km_get X 3 (v := .ref (ad 3)) f_X11_dearest_13 rfl dX11_dearest_26 ?_
      refine kv_iload_n X 0 dX11_dearest_29 rfl rfl ?_
      refine km_iald X 3 (j := i) (by decide) (by decide) rfl (by show _ < _; simp only [mLen]; omega) (by decide) dX11_dearest_30 ?_
      refine kv_topi ((M.2.1 3) i) rfl ?_
      refine kv_i2l X dX11_dearest_31 rfl ?_
      refine kv_lmul X dX11_dearest_32 ?_
      refine kv_topl ((fun j => (fun r => msumL (fun l => mq (M.2.1 19) (M.2.1 20) (nI l) nW) (fun l => mN (M.2.1 13) (M.2.1 15) cn (fun k => mi (nm k)) (mdir (M.2.1 13) (M.2.1 15) (M.2.1 9) (M.2.1 3) (M.2.1 11) cn nm mn mr me (nI r) (-1)) 2 (mi (li l))) nL) j * (M.2.1 3 j).toInt64) i) (congrArg (fun y : Int64 => y * (M.2.1 3 i).toInt64) (mset_in (by omega))) ?_
      refine kv_lstore_n (lv2 := [(3, .long ((fun j => (fun r => msumL (fun l => mq (M.2.1 19) (M.2.1 20) (nI l) nW) (fun l => mN (M.2.1 13) (M.2.1 15) cn (fun k => mi (nm k)) (mdir (M.2.1 13) (M.2.1 15) (M.2.1 9) (M.2.1 3) (M.2.1 11) cn nm mn mr me (nI r) (-1)) 2 (mi (li l))) nL) j * (M.2.1 3 j).toInt64) i)), (2, .int (nI i)), (0, .ref (ad 0)), (1, .int v)]) X dX11_dearest_33 rfl (by rw [hnL]; decide) rfl ?_
      refine kv_iconst (v := 0) X dX11_dearest_34 (by decide) ?_
      refine kv_istore (lv2 := [(5, .int 0), (3, .long ((fun j => (fun r => msumL (fun l => mq (M.2.1 19) (M.2.1 20) (nI l) nW) (fun l => mN (M.2.1 13) (M.2.1 15) cn (fun k => mi (nm k)) (mdir (M.2.1 13) (M.2.1 15) (M.2.1 9) (M.2.1 3) (M.2.1 11) cn nm mn mr me (nI r) (-1)) 2 (mi (li l))) nL) j * (M.2.1 3 j).toInt64) i)), (2, .int (nI i)), (0, .ref (ad 0)), (1, .int v)]) X dX11_dearest_35 (by rw [hnL]; decide) rfl ?_
      refine kv_iconst (v := 0) X dX11_dearest_37 (by decide) ?_
      refine kv_istore (lv2 := [(6, .int 0), (5, .int 0), (3, .long ((fun j => (fun r => msumL (fun l => mq (M.2.1 19) (M.2.1 20) (nI l) nW) (fun l => mN (M.2.1 13) (M.2.1 15) cn (fun k => mi (nm k)) (mdir (M.2.1 13) (M.2.1 15) (M.2.1 9) (M.2.1 3) (M.2.1 11) cn nm mn mr me (nI r) (-1)) 2 (mi (li l))) nL) j * (M.2.1 3 j).toInt64) i)), (2, .int (nI i)), (0, .ref (ad 0)), (1, .int v)]) X dX11_dearest_38 (by rw [hnL]; decide) rfl ?_
      have L40 : ∀ (n2 k2 : Nat), k2 + n2 = nR → ∀ (_ : Unit) , kv dd g 0 0 40 [(6, .int (nI k2)), (5, .int (mah (fun j => (fun r => msumL (fun l => mq (M.2.1 19) (M.2.1 20) (nI l) nW) (fun l => mN (M.2.1 13) (M.2.1 15) cn (fun k => mi (nm k)) (mdir (M.2.1 13) (M.2.1 15) (M.2.1 9) (M.2.1 3) (M.2.1 11) cn nm mn mr me (nI r) (-1)) 2 (mi (li l))) nL) j * (M.2.1 3 j).toInt64) i k2)), (3, .long ((fun j => (fun r => msumL (fun l => mq (M.2.1 19) (M.2.1 20) (nI l) nW) (fun l => mN (M.2.1 13) (M.2.1 15) cn (fun k => mi (nm k)) (mdir (M.2.1 13) (M.2.1 15) (M.2.1 9) (M.2.1 3) (M.2.1 11) cn nm mn mr me (nI r) (-1)) 2 (mi (li l))) nL) j * (M.2.1 3 j).toInt64) i)), (2, .int (nI i)), (0, .ref (ad 0)), (1, .int v)] [] mK ad (mE dd ad ((va_up M.1 0 0), M.2.1, (va_up (va_up (va_up (va_up (va_up M.2.2 28 (mset (M.2.2 28) (fun r => msumL (fun l => mq (M.2.1 19) (M.2.1 20) (nI l) nW) (fun l => mN (M.2.1 13) (M.2.1 15) cn (fun k => mi (nm k)) (mdir (M.2.1 13) (M.2.1 15) (M.2.1 9) (M.2.1 3) (M.2.1 11) cn nm mn mr me (nI r) (-1)) 2 (mi (li l))) nL) nR)) 29 (mset (M.2.2 29) (mmk (M.2.1 27) (M.2.1 26) (fun b => mkd (M.2.1 2) (mset (M.2.2 28) (fun r => msumL (fun l => mq (M.2.1 19) (M.2.1 20) (nI l) nW) (fun l => mN (M.2.1 13) (M.2.1 15) cn (fun k => mi (nm k)) (mdir (M.2.1 13) (M.2.1 15) (M.2.1 9) (M.2.1 3) (M.2.1 11) cn nm mn mr me (nI r) (-1)) 2 (mi (li l))) nL) nR) (M.2.1 3) (nI b) nR) (mex (mset (M.2.2 28) (fun r => msumL (fun l => mq (M.2.1 19) (M.2.1 20) (nI l) nW) (fun l => mN (M.2.1 13) (M.2.1 15) cn (fun k => mi (nm k)) (mdir (M.2.1 13) (M.2.1 15) (M.2.1 9) (M.2.1 3) (M.2.1 11) cn nm mn mr me (nI r) (-1)) 2 (mi (li l))) nL) nR) (M.2.1 4) (M.2.1 5) (M.2.1 3) nR) nM) nM)) 31 X6) 32 X6y) 33 X6z))) := by
        intro n2
        induction n2 with
        | zero =>
          intro k2 hin40 _ 
          refine kv_iload X 0 dX11_dearest_40 rfl ?_
          refine kv_aload_n X 4 dX11_dearest_42 rfl rfl ?_
          refine km_get X 1 (v := .int (M.1 1)) f_X11_dearest_90 rfl dX11_dearest_43 ?_
          refine kv_topi (nI nR) hR.1 ?_
          refine kn_icmp_ge (x := k2) (y := nR) (tgt := 103) X (by omega) (by omega) dX11_dearest_46 (by decide) (fun hc46 => ?_) (fun hc46 => absurd hc46 (by omega))
          refine kv_lload_n X 2 dX11_dearest_103 rfl rfl ?_
          refine kv_lconst (v := 0) X dX11_dearest_104 (by decide) ?_
          refine kv_lcmp X dX11_dearest_105 ?_
          refine kv_if_le (tgt := 117) X dX11_dearest_106 (by decide) (fun hc106 => ?_) (fun hc106 => ?_)
          ·
            refine kv_iinc (j := 3) (v := (nI (i + 1))) (lv2 := [(2, .int (nI (i + 1))), (6, .int (nI k2)), (5, .int (mah (fun j => (fun r => msumL (fun l => mq (M.2.1 19) (M.2.1 20) (nI l) nW) (fun l => mN (M.2.1 13) (M.2.1 15) cn (fun k => mi (nm k)) (mdir (M.2.1 13) (M.2.1 15) (M.2.1 9) (M.2.1 3) (M.2.1 11) cn nm mn mr me (nI r) (-1)) 2 (mi (li l))) nL) j * (M.2.1 3 j).toInt64) i k2)), (3, .long ((fun j => (fun r => msumL (fun l => mq (M.2.1 19) (M.2.1 20) (nI l) nW) (fun l => mN (M.2.1 13) (M.2.1 15) cn (fun k => mi (nm k)) (mdir (M.2.1 13) (M.2.1 15) (M.2.1 9) (M.2.1 3) (M.2.1 11) cn nm mn mr me (nI r) (-1)) 2 (mi (li l))) nL) j * (M.2.1 3 j).toInt64) i)), (0, .ref (ad 0)), (1, .int v)]) X dX11_dearest_117 rfl (nI_add i 1) (by rw [hnL]; decide) rfl ?_
            refine kv_goto (tgt := 11) X dX11_dearest_120 (by decide) ?_
            exact kv_lv [0, 4, 5] rfl (ih11 (i + 1) (by omega) () (fun k hk => by rcases Nat.lt_succ_iff_lt_or_eq.mp hk with q | q; exact hno k q; subst q; exact fun y => by first | exact absurd ((lg_cmp_gt _ _).mpr y.1) (Int32.not_lt.mpr hc106) | exact hc112 (by rw [show k2 = nR by omega]; exact y.2)))
          ·
            refine kv_iload X 1 dX11_dearest_109 rfl ?_
            refine kv_iload_n X 5 dX11_dearest_111 rfl rfl ?_
            refine kv_icmp_ne (tgt := 117) X dX11_dearest_112 (by decide) (fun hc112 => ?_) (fun hc112 => ?_)
            ·
              refine kv_iinc (j := 3) (v := (nI (i + 1))) (lv2 := [(2, .int (nI (i + 1))), (6, .int (nI k2)), (5, .int (mah (fun j => (fun r => msumL (fun l => mq (M.2.1 19) (M.2.1 20) (nI l) nW) (fun l => mN (M.2.1 13) (M.2.1 15) cn (fun k => mi (nm k)) (mdir (M.2.1 13) (M.2.1 15) (M.2.1 9) (M.2.1 3) (M.2.1 11) cn nm mn mr me (nI r) (-1)) 2 (mi (li l))) nL) j * (M.2.1 3 j).toInt64) i k2)), (3, .long ((fun j => (fun r => msumL (fun l => mq (M.2.1 19) (M.2.1 20) (nI l) nW) (fun l => mN (M.2.1 13) (M.2.1 15) cn (fun k => mi (nm k)) (mdir (M.2.1 13) (M.2.1 15) (M.2.1 9) (M.2.1 3) (M.2.1 11) cn nm mn mr me (nI r) (-1)) 2 (mi (li l))) nL) j * (M.2.1 3 j).toInt64) i)), (0, .ref (ad 0)), (1, .int v)]) X dX11_dearest_117 rfl (nI_add i 1) (by rw [hnL]; decide) rfl ?_
              refine kv_goto (tgt := 11) X dX11_dearest_120 (by decide) ?_
              exact kv_lv [0, 4, 5] rfl (ih11 (i + 1) (by omega) () (fun k hk => by rcases Nat.lt_succ_iff_lt_or_eq.mp hk with q | q; exact hno k q; subst q; exact fun y => by first | exact absurd ((lg_cmp_gt _ _).mpr y.1) (Int32.not_lt.mpr hc106) | exact hc112 (by rw [show k2 = nR by omega]; exact y.2)))
            ·
              refine kv_iload_n X 3 dX11_dearest_115 rfl rfl ?_
              exact kv_ireturn X hr (by decide) (by decide) ⟨((va_up M.1 0 0), M.2.1, (va_up (va_up (va_up (va_up (va_up M.2.2 28 (mset (M.2.2 28) (fun r => msumL (fun l => mq (M.2.1 19) (M.2.1 20) (nI l) nW) (fun l => mN (M.2.1 13) (M.2.1 15) cn (fun k => mi (nm k)) (mdir (M.2.1 13) (M.2.1 15) (M.2.1 9) (M.2.1 3) (M.2.1 11) cn nm mn mr me (nI r) (-1)) 2 (mi (li l))) nL) nR)) 29 (mset (M.2.2 29) (mmk (M.2.1 27) (M.2.1 26) (fun b => mkd (M.2.1 2) (mset (M.2.2 28) (fun r => msumL (fun l => mq (M.2.1 19) (M.2.1 20) (nI l) nW) (fun l => mN (M.2.1 13) (M.2.1 15) cn (fun k => mi (nm k)) (mdir (M.2.1 13) (M.2.1 15) (M.2.1 9) (M.2.1 3) (M.2.1 11) cn nm mn mr me (nI r) (-1)) 2 (mi (li l))) nL) nR) (M.2.1 3) (nI b) nR) (mex (mset (M.2.2 28) (fun r => msumL (fun l => mq (M.2.1 19) (M.2.1 20) (nI l) nW) (fun l => mN (M.2.1 13) (M.2.1 15) cn (fun k => mi (nm k)) (mdir (M.2.1 13) (M.2.1 15) (M.2.1 9) (M.2.1 3) (M.2.1 11) cn nm mn mr me (nI r) (-1)) 2 (mi (li l))) nL) nR) (M.2.1 4) (M.2.1 5) (M.2.1 3) nR) nM) nM)) 31 X6) 32 X6y) 33 X6z)), ⟨_, Or.inl ⟨i, by omega, ⟨(lg_cmp_gt _ _).mp (Int32.not_le.mp hc106), by rw [show nR = k2 by omega]; exact hc112⟩, hno, rfl, rfl⟩⟩, rfl⟩ dX11_dearest_116
        | succ n2 ih40 =>
          intro k2 hin40 _ 
          refine kv_iload X 0 dX11_dearest_40 rfl ?_
          refine kv_aload_n X 4 dX11_dearest_42 rfl rfl ?_
          refine km_get X 1 (v := .int (M.1 1)) f_X11_dearest_90 rfl dX11_dearest_43 ?_
          refine kv_topi (nI nR) hR.1 ?_
          refine kn_icmp_ge (x := k2) (y := nR) (tgt := 103) X (by omega) (by omega) dX11_dearest_46 (by decide) (fun hc46 => absurd hc46 (by omega)) (fun hc46 => ?_)
          refine kv_aload_n X 4 dX11_dearest_49 rfl rfl ?_
          refine km_get X 28 (v := .ref (ad 28)) f_X11_dearest_67 rfl dX11_dearest_50 ?_
          refine kv_iload X 0 dX11_dearest_53 rfl ?_
          refine km_lald X 28 (j := k2) (by decide) (by decide) rfl (by show _ < _; simp only [mLen]; omega) (by decide) dX11_dearest_55 ?_
          refine kv_topl ((mset (M.2.2 28) (fun r => msumL (fun l => mq (M.2.1 19) (M.2.1 20) (nI l) nW) (fun l => mN (M.2.1 13) (M.2.1 15) cn (fun k => mi (nm k)) (mdir (M.2.1 13) (M.2.1 15) (M.2.1 9) (M.2.1 3) (M.2.1 11) cn nm mn mr me (nI r) (-1)) 2 (mi (li l))) nL) nR) k2) rfl ?_
          refine kv_aload_n X 4 dX11_dearest_56 rfl rfl ?_
          refine km_get X 3 (v := .ref (ad 3)) f_X11_dearest_13 rfl dX11_dearest_57 ?_
          refine kv_iload X 0 dX11_dearest_60 rfl ?_
          refine km_iald X 3 (j := k2) (by decide) (by decide) rfl (by show _ < _; simp only [mLen]; omega) (by decide) dX11_dearest_62 ?_
          refine kv_topi ((M.2.1 3) k2) rfl ?_
          refine kv_i2l X dX11_dearest_63 rfl ?_
          refine kv_lmul X dX11_dearest_64 ?_
          refine kv_topl ((fun j => (fun r => msumL (fun l => mq (M.2.1 19) (M.2.1 20) (nI l) nW) (fun l => mN (M.2.1 13) (M.2.1 15) cn (fun k => mi (nm k)) (mdir (M.2.1 13) (M.2.1 15) (M.2.1 9) (M.2.1 3) (M.2.1 11) cn nm mn mr me (nI r) (-1)) 2 (mi (li l))) nL) j * (M.2.1 3 j).toInt64) k2) (congrArg (fun y : Int64 => y * (M.2.1 3 k2).toInt64) (mset_in (by omega))) ?_
          refine kv_lstore (lv2 := [(7, .long ((fun j => (fun r => msumL (fun l => mq (M.2.1 19) (M.2.1 20) (nI l) nW) (fun l => mN (M.2.1 13) (M.2.1 15) cn (fun k => mi (nm k)) (mdir (M.2.1 13) (M.2.1 15) (M.2.1 9) (M.2.1 3) (M.2.1 11) cn nm mn mr me (nI r) (-1)) 2 (mi (li l))) nL) j * (M.2.1 3 j).toInt64) k2)), (6, .int (nI k2)), (5, .int (mah (fun j => (fun r => msumL (fun l => mq (M.2.1 19) (M.2.1 20) (nI l) nW) (fun l => mN (M.2.1 13) (M.2.1 15) cn (fun k => mi (nm k)) (mdir (M.2.1 13) (M.2.1 15) (M.2.1 9) (M.2.1 3) (M.2.1 11) cn nm mn mr me (nI r) (-1)) 2 (mi (li l))) nL) j * (M.2.1 3 j).toInt64) i k2)), (3, .long ((fun j => (fun r => msumL (fun l => mq (M.2.1 19) (M.2.1 20) (nI l) nW) (fun l => mN (M.2.1 13) (M.2.1 15) cn (fun k => mi (nm k)) (mdir (M.2.1 13) (M.2.1 15) (M.2.1 9) (M.2.1 3) (M.2.1 11) cn nm mn mr me (nI r) (-1)) 2 (mi (li l))) nL) j * (M.2.1 3 j).toInt64) i)), (2, .int (nI i)), (0, .ref (ad 0)), (1, .int v)]) X dX11_dearest_65 (by rw [hnL]; decide) rfl ?_
          refine kv_iload X 2 dX11_dearest_67 rfl ?_
          refine kv_lload X 0 dX11_dearest_69 rfl ?_
          refine kv_lload_n X 3 dX11_dearest_71 rfl rfl ?_
          refine kv_lcmp X dX11_dearest_72 ?_
          refine kv_if_gt (tgt := 89) X dX11_dearest_73 (by decide) (fun hc73 => ?_) (fun hc73 => ?_)
          ·
            refine kv_iconst (v := 1) X dX11_dearest_89 (by decide) ?_
            refine kv_goto (tgt := 94) X dX11_dearest_90 (by decide) ?_
            refine kv_iadd X dX11_dearest_94 ?_
            refine kv_topi (mah (fun j => (fun r => msumL (fun l => mq (M.2.1 19) (M.2.1 20) (nI l) nW) (fun l => mN (M.2.1 13) (M.2.1 15) cn (fun k => mi (nm k)) (mdir (M.2.1 13) (M.2.1 15) (M.2.1 9) (M.2.1 3) (M.2.1 11) cn nm mn mr me (nI r) (-1)) 2 (mi (li l))) nL) j * (M.2.1 3 j).toInt64) i (k2 + 1)) (by show ((mah (fun j => (fun r => msumL (fun l => mq (M.2.1 19) (M.2.1 20) (nI l) nW) (fun l => mN (M.2.1 13) (M.2.1 15) cn (fun k => mi (nm k)) (mdir (M.2.1 13) (M.2.1 15) (M.2.1 9) (M.2.1 3) (M.2.1 11) cn nm mn mr me (nI r) (-1)) 2 (mi (li l))) nL) j * (M.2.1 3 j).toInt64) i k2) + 1) = (mah (fun j => (fun r => msumL (fun l => mq (M.2.1 19) (M.2.1 20) (nI l) nW) (fun l => mN (M.2.1 13) (M.2.1 15) cn (fun k => mi (nm k)) (mdir (M.2.1 13) (M.2.1 15) (M.2.1 9) (M.2.1 3) (M.2.1 11) cn nm mn mr me (nI r) (-1)) 2 (mi (li l))) nL) j * (M.2.1 3 j).toInt64) i (k2 + 1)); rw [mah]; first | (rw [if_pos (Or.inl ((lg_cmp_gt _ _).mp hc73))]; done) | (rw [if_pos (Or.inr ⟨(lg_cmp_eq _ _).mp hc80, hc86⟩)]; done)) ?_
            refine kv_istore (lv2 := [(5, .int (mah (fun j => (fun r => msumL (fun l => mq (M.2.1 19) (M.2.1 20) (nI l) nW) (fun l => mN (M.2.1 13) (M.2.1 15) cn (fun k => mi (nm k)) (mdir (M.2.1 13) (M.2.1 15) (M.2.1 9) (M.2.1 3) (M.2.1 11) cn nm mn mr me (nI r) (-1)) 2 (mi (li l))) nL) j * (M.2.1 3 j).toInt64) i (k2 + 1))), (7, .long ((fun j => (fun r => msumL (fun l => mq (M.2.1 19) (M.2.1 20) (nI l) nW) (fun l => mN (M.2.1 13) (M.2.1 15) cn (fun k => mi (nm k)) (mdir (M.2.1 13) (M.2.1 15) (M.2.1 9) (M.2.1 3) (M.2.1 11) cn nm mn mr me (nI r) (-1)) 2 (mi (li l))) nL) j * (M.2.1 3 j).toInt64) k2)), (6, .int (nI k2)), (3, .long ((fun j => (fun r => msumL (fun l => mq (M.2.1 19) (M.2.1 20) (nI l) nW) (fun l => mN (M.2.1 13) (M.2.1 15) cn (fun k => mi (nm k)) (mdir (M.2.1 13) (M.2.1 15) (M.2.1 9) (M.2.1 3) (M.2.1 11) cn nm mn mr me (nI r) (-1)) 2 (mi (li l))) nL) j * (M.2.1 3 j).toInt64) i)), (2, .int (nI i)), (0, .ref (ad 0)), (1, .int v)]) X dX11_dearest_95 (by rw [hnL]; decide) rfl ?_
            refine kv_iinc (j := 2) (v := (nI (k2 + 1))) (lv2 := [(6, .int (nI (k2 + 1))), (5, .int (mah (fun j => (fun r => msumL (fun l => mq (M.2.1 19) (M.2.1 20) (nI l) nW) (fun l => mN (M.2.1 13) (M.2.1 15) cn (fun k => mi (nm k)) (mdir (M.2.1 13) (M.2.1 15) (M.2.1 9) (M.2.1 3) (M.2.1 11) cn nm mn mr me (nI r) (-1)) 2 (mi (li l))) nL) j * (M.2.1 3 j).toInt64) i (k2 + 1))), (7, .long ((fun j => (fun r => msumL (fun l => mq (M.2.1 19) (M.2.1 20) (nI l) nW) (fun l => mN (M.2.1 13) (M.2.1 15) cn (fun k => mi (nm k)) (mdir (M.2.1 13) (M.2.1 15) (M.2.1 9) (M.2.1 3) (M.2.1 11) cn nm mn mr me (nI r) (-1)) 2 (mi (li l))) nL) j * (M.2.1 3 j).toInt64) k2)), (3, .long ((fun j => (fun r => msumL (fun l => mq (M.2.1 19) (M.2.1 20) (nI l) nW) (fun l => mN (M.2.1 13) (M.2.1 15) cn (fun k => mi (nm k)) (mdir (M.2.1 13) (M.2.1 15) (M.2.1 9) (M.2.1 3) (M.2.1 11) cn nm mn mr me (nI r) (-1)) 2 (mi (li l))) nL) j * (M.2.1 3 j).toInt64) i)), (2, .int (nI i)), (0, .ref (ad 0)), (1, .int v)]) X dX11_dearest_97 rfl (nI_add k2 1) (by rw [hnL]; decide) rfl ?_
            refine kv_goto (tgt := 40) X dX11_dearest_100 (by decide) ?_
            exact kv_lv [0, 1, 3, 4, 5, 6] rfl (ih40 (k2 + 1) (by omega) ())
          ·
            refine kv_lload X 0 dX11_dearest_76 rfl ?_
            refine kv_lload_n X 3 dX11_dearest_78 rfl rfl ?_
            refine kv_lcmp X dX11_dearest_79 ?_
            refine kv_if_ne (tgt := 93) X dX11_dearest_80 (by decide) (fun hc80 => ?_) (fun hc80 => ?_)
            ·
              refine kv_iconst (v := 0) X dX11_dearest_93 (by decide) ?_
              refine kv_iadd X dX11_dearest_94 ?_
              refine kv_topi (mah (fun j => (fun r => msumL (fun l => mq (M.2.1 19) (M.2.1 20) (nI l) nW) (fun l => mN (M.2.1 13) (M.2.1 15) cn (fun k => mi (nm k)) (mdir (M.2.1 13) (M.2.1 15) (M.2.1 9) (M.2.1 3) (M.2.1 11) cn nm mn mr me (nI r) (-1)) 2 (mi (li l))) nL) j * (M.2.1 3 j).toInt64) i (k2 + 1)) (by show ((mah (fun j => (fun r => msumL (fun l => mq (M.2.1 19) (M.2.1 20) (nI l) nW) (fun l => mN (M.2.1 13) (M.2.1 15) cn (fun k => mi (nm k)) (mdir (M.2.1 13) (M.2.1 15) (M.2.1 9) (M.2.1 3) (M.2.1 11) cn nm mn mr me (nI r) (-1)) 2 (mi (li l))) nL) j * (M.2.1 3 j).toInt64) i k2) + 0) = (mah (fun j => (fun r => msumL (fun l => mq (M.2.1 19) (M.2.1 20) (nI l) nW) (fun l => mN (M.2.1 13) (M.2.1 15) cn (fun k => mi (nm k)) (mdir (M.2.1 13) (M.2.1 15) (M.2.1 9) (M.2.1 3) (M.2.1 11) cn nm mn mr me (nI r) (-1)) 2 (mi (li l))) nL) j * (M.2.1 3 j).toInt64) i (k2 + 1)); rw [mah]; rw [if_neg (fun q => by rcases q with q | q; exact hc73 ((lg_cmp_gt _ _).mpr q); first | exact hc80 ((lg_cmp_eq _ _).mpr q.1) | exact absurd q.2 (Nat.not_lt.mpr hc86))]) ?_
              refine kv_istore (lv2 := [(5, .int (mah (fun j => (fun r => msumL (fun l => mq (M.2.1 19) (M.2.1 20) (nI l) nW) (fun l => mN (M.2.1 13) (M.2.1 15) cn (fun k => mi (nm k)) (mdir (M.2.1 13) (M.2.1 15) (M.2.1 9) (M.2.1 3) (M.2.1 11) cn nm mn mr me (nI r) (-1)) 2 (mi (li l))) nL) j * (M.2.1 3 j).toInt64) i (k2 + 1))), (7, .long ((fun j => (fun r => msumL (fun l => mq (M.2.1 19) (M.2.1 20) (nI l) nW) (fun l => mN (M.2.1 13) (M.2.1 15) cn (fun k => mi (nm k)) (mdir (M.2.1 13) (M.2.1 15) (M.2.1 9) (M.2.1 3) (M.2.1 11) cn nm mn mr me (nI r) (-1)) 2 (mi (li l))) nL) j * (M.2.1 3 j).toInt64) k2)), (6, .int (nI k2)), (3, .long ((fun j => (fun r => msumL (fun l => mq (M.2.1 19) (M.2.1 20) (nI l) nW) (fun l => mN (M.2.1 13) (M.2.1 15) cn (fun k => mi (nm k)) (mdir (M.2.1 13) (M.2.1 15) (M.2.1 9) (M.2.1 3) (M.2.1 11) cn nm mn mr me (nI r) (-1)) 2 (mi (li l))) nL) j * (M.2.1 3 j).toInt64) i)), (2, .int (nI i)), (0, .ref (ad 0)), (1, .int v)]) X dX11_dearest_95 (by rw [hnL]; decide) rfl ?_
              refine kv_iinc (j := 2) (v := (nI (k2 + 1))) (lv2 := [(6, .int (nI (k2 + 1))), (5, .int (mah (fun j => (fun r => msumL (fun l => mq (M.2.1 19) (M.2.1 20) (nI l) nW) (fun l => mN (M.2.1 13) (M.2.1 15) cn (fun k => mi (nm k)) (mdir (M.2.1 13) (M.2.1 15) (M.2.1 9) (M.2.1 3) (M.2.1 11) cn nm mn mr me (nI r) (-1)) 2 (mi (li l))) nL) j * (M.2.1 3 j).toInt64) i (k2 + 1))), (7, .long ((fun j => (fun r => msumL (fun l => mq (M.2.1 19) (M.2.1 20) (nI l) nW) (fun l => mN (M.2.1 13) (M.2.1 15) cn (fun k => mi (nm k)) (mdir (M.2.1 13) (M.2.1 15) (M.2.1 9) (M.2.1 3) (M.2.1 11) cn nm mn mr me (nI r) (-1)) 2 (mi (li l))) nL) j * (M.2.1 3 j).toInt64) k2)), (3, .long ((fun j => (fun r => msumL (fun l => mq (M.2.1 19) (M.2.1 20) (nI l) nW) (fun l => mN (M.2.1 13) (M.2.1 15) cn (fun k => mi (nm k)) (mdir (M.2.1 13) (M.2.1 15) (M.2.1 9) (M.2.1 3) (M.2.1 11) cn nm mn mr me (nI r) (-1)) 2 (mi (li l))) nL) j * (M.2.1 3 j).toInt64) i)), (2, .int (nI i)), (0, .ref (ad 0)), (1, .int v)]) X dX11_dearest_97 rfl (nI_add k2 1) (by rw [hnL]; decide) rfl ?_
              refine kv_goto (tgt := 40) X dX11_dearest_100 (by decide) ?_
              exact kv_lv [0, 1, 3, 4, 5, 6] rfl (ih40 (k2 + 1) (by omega) ())
            ·
              refine kv_iload X 1 dX11_dearest_83 rfl ?_
              refine kv_iload_n X 4 dX11_dearest_85 rfl rfl ?_
              refine kn_icmp_ge (x := k2) (y := i) (tgt := 93) X (by omega) (by omega) dX11_dearest_86 (by decide) (fun hc86 => ?_) (fun hc86 => ?_)
              ·
                refine kv_iconst (v := 0) X dX11_dearest_93 (by decide) ?_
                refine kv_iadd X dX11_dearest_94 ?_
                refine kv_topi (mah (fun j => (fun r => msumL (fun l => mq (M.2.1 19) (M.2.1 20) (nI l) nW) (fun l => mN (M.2.1 13) (M.2.1 15) cn (fun k => mi (nm k)) (mdir (M.2.1 13) (M.2.1 15) (M.2.1 9) (M.2.1 3) (M.2.1 11) cn nm mn mr me (nI r) (-1)) 2 (mi (li l))) nL) j * (M.2.1 3 j).toInt64) i (k2 + 1)) (by show ((mah (fun j => (fun r => msumL (fun l => mq (M.2.1 19) (M.2.1 20) (nI l) nW) (fun l => mN (M.2.1 13) (M.2.1 15) cn (fun k => mi (nm k)) (mdir (M.2.1 13) (M.2.1 15) (M.2.1 9) (M.2.1 3) (M.2.1 11) cn nm mn mr me (nI r) (-1)) 2 (mi (li l))) nL) j * (M.2.1 3 j).toInt64) i k2) + 0) = (mah (fun j => (fun r => msumL (fun l => mq (M.2.1 19) (M.2.1 20) (nI l) nW) (fun l => mN (M.2.1 13) (M.2.1 15) cn (fun k => mi (nm k)) (mdir (M.2.1 13) (M.2.1 15) (M.2.1 9) (M.2.1 3) (M.2.1 11) cn nm mn mr me (nI r) (-1)) 2 (mi (li l))) nL) j * (M.2.1 3 j).toInt64) i (k2 + 1)); rw [mah]; rw [if_neg (fun q => by rcases q with q | q; exact hc73 ((lg_cmp_gt _ _).mpr q); first | exact hc80 ((lg_cmp_eq _ _).mpr q.1) | exact absurd q.2 (Nat.not_lt.mpr hc86))]) ?_
                refine kv_istore (lv2 := [(5, .int (mah (fun j => (fun r => msumL (fun l => mq (M.2.1 19) (M.2.1 20) (nI l) nW) (fun l => mN (M.2.1 13) (M.2.1 15) cn (fun k => mi (nm k)) (mdir (M.2.1 13) (M.2.1 15) (M.2.1 9) (M.2.1 3) (M.2.1 11) cn nm mn mr me (nI r) (-1)) 2 (mi (li l))) nL) j * (M.2.1 3 j).toInt64) i (k2 + 1))), (7, .long ((fun j => (fun r => msumL (fun l => mq (M.2.1 19) (M.2.1 20) (nI l) nW) (fun l => mN (M.2.1 13) (M.2.1 15) cn (fun k => mi (nm k)) (mdir (M.2.1 13) (M.2.1 15) (M.2.1 9) (M.2.1 3) (M.2.1 11) cn nm mn mr me (nI r) (-1)) 2 (mi (li l))) nL) j * (M.2.1 3 j).toInt64) k2)), (6, .int (nI k2)), (3, .long ((fun j => (fun r => msumL (fun l => mq (M.2.1 19) (M.2.1 20) (nI l) nW) (fun l => mN (M.2.1 13) (M.2.1 15) cn (fun k => mi (nm k)) (mdir (M.2.1 13) (M.2.1 15) (M.2.1 9) (M.2.1 3) (M.2.1 11) cn nm mn mr me (nI r) (-1)) 2 (mi (li l))) nL) j * (M.2.1 3 j).toInt64) i)), (2, .int (nI i)), (0, .ref (ad 0)), (1, .int v)]) X dX11_dearest_95 (by rw [hnL]; decide) rfl ?_
                refine kv_iinc (j := 2) (v := (nI (k2 + 1))) (lv2 := [(6, .int (nI (k2 + 1))), (5, .int (mah (fun j => (fun r => msumL (fun l => mq (M.2.1 19) (M.2.1 20) (nI l) nW) (fun l => mN (M.2.1 13) (M.2.1 15) cn (fun k => mi (nm k)) (mdir (M.2.1 13) (M.2.1 15) (M.2.1 9) (M.2.1 3) (M.2.1 11) cn nm mn mr me (nI r) (-1)) 2 (mi (li l))) nL) j * (M.2.1 3 j).toInt64) i (k2 + 1))), (7, .long ((fun j => (fun r => msumL (fun l => mq (M.2.1 19) (M.2.1 20) (nI l) nW) (fun l => mN (M.2.1 13) (M.2.1 15) cn (fun k => mi (nm k)) (mdir (M.2.1 13) (M.2.1 15) (M.2.1 9) (M.2.1 3) (M.2.1 11) cn nm mn mr me (nI r) (-1)) 2 (mi (li l))) nL) j * (M.2.1 3 j).toInt64) k2)), (3, .long ((fun j => (fun r => msumL (fun l => mq (M.2.1 19) (M.2.1 20) (nI l) nW) (fun l => mN (M.2.1 13) (M.2.1 15) cn (fun k => mi (nm k)) (mdir (M.2.1 13) (M.2.1 15) (M.2.1 9) (M.2.1 3) (M.2.1 11) cn nm mn mr me (nI r) (-1)) 2 (mi (li l))) nL) j * (M.2.1 3 j).toInt64) i)), (2, .int (nI i)), (0, .ref (ad 0)), (1, .int v)]) X dX11_dearest_97 rfl (nI_add k2 1) (by rw [hnL]; decide) rfl ?_
                refine kv_goto (tgt := 40) X dX11_dearest_100 (by decide) ?_
                exact kv_lv [0, 1, 3, 4, 5, 6] rfl (ih40 (k2 + 1) (by omega) ())
              ·
                refine kv_iconst (v := 1) X dX11_dearest_89 (by decide) ?_
                refine kv_goto (tgt := 94) X dX11_dearest_90 (by decide) ?_
                refine kv_iadd X dX11_dearest_94 ?_
                refine kv_topi (mah (fun j => (fun r => msumL (fun l => mq (M.2.1 19) (M.2.1 20) (nI l) nW) (fun l => mN (M.2.1 13) (M.2.1 15) cn (fun k => mi (nm k)) (mdir (M.2.1 13) (M.2.1 15) (M.2.1 9) (M.2.1 3) (M.2.1 11) cn nm mn mr me (nI r) (-1)) 2 (mi (li l))) nL) j * (M.2.1 3 j).toInt64) i (k2 + 1)) (by show ((mah (fun j => (fun r => msumL (fun l => mq (M.2.1 19) (M.2.1 20) (nI l) nW) (fun l => mN (M.2.1 13) (M.2.1 15) cn (fun k => mi (nm k)) (mdir (M.2.1 13) (M.2.1 15) (M.2.1 9) (M.2.1 3) (M.2.1 11) cn nm mn mr me (nI r) (-1)) 2 (mi (li l))) nL) j * (M.2.1 3 j).toInt64) i k2) + 1) = (mah (fun j => (fun r => msumL (fun l => mq (M.2.1 19) (M.2.1 20) (nI l) nW) (fun l => mN (M.2.1 13) (M.2.1 15) cn (fun k => mi (nm k)) (mdir (M.2.1 13) (M.2.1 15) (M.2.1 9) (M.2.1 3) (M.2.1 11) cn nm mn mr me (nI r) (-1)) 2 (mi (li l))) nL) j * (M.2.1 3 j).toInt64) i (k2 + 1)); rw [mah]; first | (rw [if_pos (Or.inl ((lg_cmp_gt _ _).mp hc73))]; done) | (rw [if_pos (Or.inr ⟨(lg_cmp_eq _ _).mp hc80, hc86⟩)]; done)) ?_
                refine kv_istore (lv2 := [(5, .int (mah (fun j => (fun r => msumL (fun l => mq (M.2.1 19) (M.2.1 20) (nI l) nW) (fun l => mN (M.2.1 13) (M.2.1 15) cn (fun k => mi (nm k)) (mdir (M.2.1 13) (M.2.1 15) (M.2.1 9) (M.2.1 3) (M.2.1 11) cn nm mn mr me (nI r) (-1)) 2 (mi (li l))) nL) j * (M.2.1 3 j).toInt64) i (k2 + 1))), (7, .long ((fun j => (fun r => msumL (fun l => mq (M.2.1 19) (M.2.1 20) (nI l) nW) (fun l => mN (M.2.1 13) (M.2.1 15) cn (fun k => mi (nm k)) (mdir (M.2.1 13) (M.2.1 15) (M.2.1 9) (M.2.1 3) (M.2.1 11) cn nm mn mr me (nI r) (-1)) 2 (mi (li l))) nL) j * (M.2.1 3 j).toInt64) k2)), (6, .int (nI k2)), (3, .long ((fun j => (fun r => msumL (fun l => mq (M.2.1 19) (M.2.1 20) (nI l) nW) (fun l => mN (M.2.1 13) (M.2.1 15) cn (fun k => mi (nm k)) (mdir (M.2.1 13) (M.2.1 15) (M.2.1 9) (M.2.1 3) (M.2.1 11) cn nm mn mr me (nI r) (-1)) 2 (mi (li l))) nL) j * (M.2.1 3 j).toInt64) i)), (2, .int (nI i)), (0, .ref (ad 0)), (1, .int v)]) X dX11_dearest_95 (by rw [hnL]; decide) rfl ?_
                refine kv_iinc (j := 2) (v := (nI (k2 + 1))) (lv2 := [(6, .int (nI (k2 + 1))), (5, .int (mah (fun j => (fun r => msumL (fun l => mq (M.2.1 19) (M.2.1 20) (nI l) nW) (fun l => mN (M.2.1 13) (M.2.1 15) cn (fun k => mi (nm k)) (mdir (M.2.1 13) (M.2.1 15) (M.2.1 9) (M.2.1 3) (M.2.1 11) cn nm mn mr me (nI r) (-1)) 2 (mi (li l))) nL) j * (M.2.1 3 j).toInt64) i (k2 + 1))), (7, .long ((fun j => (fun r => msumL (fun l => mq (M.2.1 19) (M.2.1 20) (nI l) nW) (fun l => mN (M.2.1 13) (M.2.1 15) cn (fun k => mi (nm k)) (mdir (M.2.1 13) (M.2.1 15) (M.2.1 9) (M.2.1 3) (M.2.1 11) cn nm mn mr me (nI r) (-1)) 2 (mi (li l))) nL) j * (M.2.1 3 j).toInt64) k2)), (3, .long ((fun j => (fun r => msumL (fun l => mq (M.2.1 19) (M.2.1 20) (nI l) nW) (fun l => mN (M.2.1 13) (M.2.1 15) cn (fun k => mi (nm k)) (mdir (M.2.1 13) (M.2.1 15) (M.2.1 9) (M.2.1 3) (M.2.1 11) cn nm mn mr me (nI r) (-1)) 2 (mi (li l))) nL) j * (M.2.1 3 j).toInt64) i)), (2, .int (nI i)), (0, .ref (ad 0)), (1, .int v)]) X dX11_dearest_97 rfl (nI_add k2 1) (by rw [hnL]; decide) rfl ?_
                refine kv_goto (tgt := 40) X dX11_dearest_100 (by decide) ?_
                exact kv_lv [0, 1, 3, 4, 5, 6] rfl (ih40 (k2 + 1) (by omega) ())
      exact kv_lv [0, 1, 2, 3, 4, 5] rfl (L40 nR 0 (by omega) ())
  exact kv_lv [0, 1, 2] rfl (L11 nR 0 (by omega) () (fun k hk => absurd hk (by omega)))

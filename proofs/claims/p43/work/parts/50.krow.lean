/-! the class: members, rows -/
theorem mhas_c {f g : Nat → Int32} {b c n : Nat} {x : Int32} (h : ∀ q, q < n → f (b + q) = g (c + q)) : mhas f b x n ↔ mhas g c x n :=
  ⟨fun ⟨q, hq, e⟩ => ⟨q, hq, by rw [← h q hq]; exact e⟩, fun ⟨q, hq, e⟩ => ⟨q, hq, by rw [h q hq]; exact e⟩⟩
theorem cE_up3 {dd : kDD} {E : Nat → va_E} {e : eS} {a b c : Nat} (ha : ¬ (17 ≤ a ∧ a ≤ 19) ∧ ¬ (22 ≤ a ∧ a ≤ 48)) (hb : ¬ (17 ≤ b ∧ b ≤ 19) ∧ ¬ (22 ≤ b ∧ b ≤ 48)) (hc : ¬ (17 ≤ c ∧ c ≤ 19) ∧ ¬ (22 ≤ c ∧ c ≤ 48)) (x y w : va_E) : ∀ j, va_up (va_up (va_up (cE dd E e) a x) b y) c w j = cE dd (va_up (va_up (va_up E a x) b y) c w) e j := by
  intro j
  rw [funext (cE_upO (dd := dd) (E := E) (e := e) ha x), funext (cE_upO (dd := dd) (E := va_up E a x) (e := e) hb y)]
  exact cE_upO hc w j
theorem cC_set {dd : kDD} {ks : List Nat} {ad : Nat → Nat} {E : Nat → va_E} {M : mS} {nC c x : Nat} {mn me : Nat → Nat} {y : Int32} {f1 f2 : Nat → Int32} (hX : cC dd ks ad E M nC mn me) (hc : c < nC) (hn : mn c < 3) (hf : ∀ q, q < mn c → f1 q = nI (me (3 * c + q)) ∧ f2 q = M.2.1 9 (3 * c + q)) :
    cC dd ks ad (va_up (va_up (va_up E (84 + c) (kI dd 3 (va_up f1 (mn c) (nI x)))) (88 + c) (kI dd 3 (va_up f2 (mn c) y))) (80 + c) (.inr (4, [.ref (ad (84 + c)), .ref (ad (88 + c)), .int (nI (mn c + 1))]))) (M.1, va_up (va_up (va_up M.2.1 8 (upd (M.2.1 8) (3 * c + mn c) (nI x))) 9 (upd (M.2.1 9) (3 * c + mn c) y)) 7 (upd (M.2.1 7) c (nI (mn c + 1))), M.2.2) nC (va_up mn c (mn c + 1)) (va_up me (3 * c + mn c) x) := by
  obtain ⟨h1, h2, h3⟩ := hX
  refine ⟨h1, kLs_frame h2 ⟨h2.1, (va_up_ne _ _ (by omega)).trans ((va_up_ne _ _ (by omega)).trans (va_up_ne _ _ (by omega)))⟩ (fun q => ⟨q, rfl, (va_up_ne _ _ (by omega)).trans ((va_up_ne _ _ (by omega)).trans (va_up_ne _ _ (by omega)))⟩) (fun i hi q => ⟨q, rfl, fun fs hfs => (Decidable.em (i = c)).elim (fun y => ⟨[.ref (ad (84 + c)), .ref (ad (88 + c)), .int (nI (mn c + 1))], by rw [y]; exact va_up_self _ _ _⟩) (fun y => ⟨fs, (va_up_ne _ _ (by omega)).trans ((va_up_ne _ _ (by omega)).trans ((va_up_ne _ _ (by omega)).trans hfs))⟩)⟩), fun w hw => ?_⟩
  obtain ⟨a1, a2, a3, a4, a5, g1, g2, a6, a7, a8⟩ := h3 w hw
  by_cases e : w = c
  · subst e
    rw [va_up_self, va_up_self, va_up_ne _ _ (by omega : 84 + w ≠ 80 + w), va_up_ne _ _ (by omega : 84 + w ≠ 88 + w), va_up_self, va_up_ne _ _ (by omega : 88 + w ≠ 80 + w), va_up_self]
    refine ⟨a1, rfl, by omega, a4, a5, _, _, rfl, rfl, fun q hq => ?_⟩
    show _ ∧ _ = upd (M.2.1 9) (3 * w + mn w) y (3 * w + q)
    rcases Nat.lt_succ_iff_lt_or_eq.mp hq with b | b
    · rw [va_up_ne _ _ (by omega), va_up_ne _ _ (by omega), va_up_ne _ _ (by omega), upd_ne (by omega)]; exact hf q b
    · subst b; rw [va_up_self, va_up_self, va_up_self, upd_at]; exact ⟨rfl, rfl⟩
  · rw [va_up_ne mn _ e, va_up_ne _ _ (by omega : 80 + w ≠ 80 + c), va_up_ne _ _ (by omega : 80 + w ≠ 88 + c), va_up_ne _ _ (by omega : 80 + w ≠ 84 + c), va_up_ne _ _ (by omega : 84 + w ≠ 80 + c), va_up_ne _ _ (by omega : 84 + w ≠ 88 + c), va_up_ne _ _ (by omega : 84 + w ≠ 84 + c), va_up_ne _ _ (by omega : 88 + w ≠ 80 + c), va_up_ne _ _ (by omega : 88 + w ≠ 88 + c), va_up_ne _ _ (by omega : 88 + w ≠ 84 + c)]
    refine ⟨a1, a2, a3, a4, a5, g1, g2, a6, a7, fun q hq => ?_⟩
    show _ ∧ _ = upd (M.2.1 9) (3 * c + mn c) y (3 * w + q)
    rw [va_up_ne _ _ (by omega), upd_ne (by omega)]; exact a8 q hq
theorem cL_set {dd : kDD} {ks : List Nat} {ad : Nat → Nat} {E : Nat → va_E} {M M2 : mS} {nL nW nW2 l : Nat} {li : Nat → Nat} {x : Int32} (hX : cL dd ks ad E M nL nW li) (hl : l < nL) (hx : mq (M2.2.1 19) (M2.2.1 20) (nI l) nW2 = x) (ho : ∀ i, i < nL → i ≠ l → mq (M2.2.1 19) (M2.2.1 20) (nI i) nW2 = mq (M.2.1 19) (M.2.1 20) (nI i) nW) : cL dd ks ad (va_up E (208 + l) (.inr (7, [.int (nI (li l)), .int x]))) M2 nL nW2 li := by
  obtain ⟨h1, h2, h3⟩ := hX
  refine ⟨h1, kLs_set h2 (by omega) (by omega), fun r hr => ⟨(h3 r hr).1, ?_⟩⟩
  by_cases c : r = l
  · subst c; rw [va_up_self, hx]
  · rw [va_up_ne _ _ (by omega), (h3 r hr).2, ho r hr c]
theorem mq_congr {rl ms rl2 ms2 : Nat → Int32} {line : Int32} : ∀ n, (∀ k, k < n → rl k = rl2 k ∧ ms k = ms2 k) → mq rl ms line n = mq rl2 ms2 line n := by
  intro n
  induction n with
  | zero => intro _; rfl
  | succ n ih => intro h; rw [mq, mq, ih (fun k hk => h k (by omega)), (h n (by omega)).1, (h n (by omega)).2]
theorem i_shuf (a x y : Int32) : a + x - y = a - y + x := by grind
/-- row j gone -/
theorem mq_rem {rl ms : Nat → Int32} {line : Int32} {j : Nat} : ∀ n, j ≤ n → mq (mshift rl j n) (mshift ms j n) line n = mq rl ms line (n + 1) - (if rl j = line then ms j else 0) := by
  intro n
  induction n with
  | zero =>
    intro h
    obtain rfl : j = 0 := by omega
    rw [mq, mq, mq]; grind
  | succ n ih =>
    intro h
    rcases Nat.lt_or_ge j (n + 1) with c | c
    · have e := ih (by omega)
      have c1 : mq (mshift rl j (n + 1)) (mshift ms j (n + 1)) line n = mq (mshift rl j n) (mshift ms j n) line n := mq_congr n (fun k hk => by unfold mshift; by_cases q : j ≤ k; (rw [if_pos ⟨q, by omega⟩, if_pos ⟨q, hk⟩, if_pos ⟨q, by omega⟩, if_pos ⟨q, hk⟩]; exact ⟨rfl, rfl⟩); (rw [if_neg (fun y => q y.1), if_neg (fun y => q y.1), if_neg (fun y => q y.1), if_neg (fun y => q y.1)]; exact ⟨rfl, rfl⟩))
      rw [mq, c1, e, show mshift rl j (n + 1) n = rl (n + 1) from if_pos ⟨by omega, by omega⟩, show mshift ms j (n + 1) n = ms (n + 1) from if_pos ⟨by omega, by omega⟩, mq.eq_2 rl ms line (n + 1)]
      grind
    · obtain rfl : j = n + 1 := by omega
      have c1 : mq (mshift rl (n + 1) (n + 1)) (mshift ms (n + 1) (n + 1)) line (n + 1) = mq rl ms line (n + 1) := mq_congr _ (fun k hk => by unfold mshift; rw [if_neg (by omega), if_neg (by omega)]; exact ⟨rfl, rfl⟩)
      rw [c1, mq.eq_2 rl ms line (n + 1)]
      grind
/-- which row lies at place k once row j is gone -/
def rsh (j k : Nat) : Nat := if k < j then k else k + 1
/-- where key k lies, once the rows behind row j have moved up -/
def rky (j n k : Nat) : Nat := if 224 ≤ k ∧ k < 224 + n then 224 + rsh j (k - 224) else k
theorem rky_in {j n k : Nat} (h : k < n) : rky j n (224 + k) = 224 + rsh j k := by unfold rky; rw [if_pos ⟨by omega, by omega⟩, show 224 + k - 224 = k by omega]
theorem rky_ne {j n k : Nat} (h : ¬ (224 ≤ k ∧ k < 224 + n)) : rky j n k = k := by unfold rky; rw [if_neg h]
theorem rsh_le {j k : Nat} : k ≤ rsh j k ∧ rsh j k ≤ k + 1 := by unfold rsh; split <;> omega
theorem rky_inj {j n : Nat} (hj : j ≤ n) : ∀ a b, a ≠ 224 + n → b ≠ 224 + n → rky j n a = rky j n b → a = b := by
  intro a b ha hb h
  unfold rky rsh at h
  split at h <;> split at h <;> (try split at h) <;> (try split at h) <;> omega
theorem cW_rem {dd : kDD} {ks ks2 : List Nat} {ad : Nat → Nat} {E : Nat → va_E} {M : mS} {nW j : Nat} {rl : Nat → Nat} {mc : Int32} {z : kT} (hX : cW dd ks ad E M nW rl) (hj : j < nW) (hw : kGw ks ad E dd 7 14 (nW - 1) (nW - 1) (nW - 1) mc (fun k => some (ad (224 + (if k < j then k else k + 1)))) z) (hk2 : ∀ k, k ∈ ks2 ↔ k ∈ z.1 ∧ k ≠ 224 + (nW - 1)) :
    cW dd ks2 (fun k => z.2.1 (rky j (nW - 1) k)) (fun k => z.2.2 (rky j (nW - 1) k)) (M.1, va_up (va_up M.2.1 19 (mshift (M.2.1 19) j (nW - 1))) 20 (mshift (M.2.1 20) j (nW - 1)), M.2.2) (nW - 1) (fun k => rl (rsh j k)) := by
  obtain ⟨h1, h2, h3⟩ := hX
  have L := kLs_rem h2 hj hw
  have k1 : ∀ i, i ∈ ks → i ∈ z.1 := fun i q => (hw.1 i).mpr (Or.inl q)
  have e7 : rky j (nW - 1) 7 = 7 := rky_ne (by omega)
  have e14 : rky j (nW - 1) 14 = 14 := rky_ne (by omega)
  have lt : ∀ k, k < nW - 1 → rsh j k < nW := fun k hk => by have := rsh_le (j := j) (k := k); omega
  refine ⟨by omega, ?_, fun k hk => ⟨(hk2 _).mpr ⟨?_, by omega⟩, ?_⟩⟩
  · obtain ⟨a1, a2, a3, a4, a5, mc2, a6⟩ := L
    refine ⟨(hk2 _).mpr ⟨a1, by omega⟩, a2, a3, a4, fun i hi => ?_, mc2, ?_⟩
    · obtain ⟨b1, b2, b3, fs, b4⟩ := a5 i hi
      refine ⟨(hk2 (224 + i)).mpr ⟨?_, by omega⟩, (by omega : 224 + i ≠ 7), (by omega : 224 + i ≠ 14), fs, ?_⟩
      · exact k1 (224 + i) (h3 i (Nat.lt_of_lt_of_le hi (Nat.sub_le nW 1))).1
      · show z.2.2 (rky j (nW - 1) (224 + i)) = _
        rw [rky_in hi]; exact b4
    · rcases a6 with ⟨b1, b2⟩ | ⟨cap, f, b1, b2, b3, b4, b5, b6, b7⟩
      · exact Or.inl ⟨b1, by show z.2.2 (rky j (nW - 1) 7) = _; rw [e7]; exact b2⟩
      · refine Or.inr ⟨cap, f, (hk2 _).mpr ⟨b1, by omega⟩, b2, b3, b4, ?_, fun i hi => ?_, ?_⟩
        · show z.2.2 (rky j (nW - 1) 14) = _
          rw [e14]; exact b5
        · show f i = some (z.2.1 (rky j (nW - 1) (224 + i)))
          rw [rky_in hi]; exact b6 i hi
        · show z.2.2 (rky j (nW - 1) 7) = Sum.inr (2, [Value.int mc2, Value.ref (z.2.1 (rky j (nW - 1) 14)), Value.int (nI (nW - 1))])
          rw [e7, e14]; exact b7
  · exact k1 _ (h3 k (by omega)).1
  · show z.2.2 (rky j (nW - 1) (224 + k)) = Sum.inr (11, [Value.int (nI (rl (rsh j k))), Value.int (mshift (M.2.1 20) j (nW - 1) k)])
    have := lt k hk
    rw [rky_in hk, hw.2.2.1 _ (by omega) (by omega), (h3 _ this).2]
    unfold mshift rsh
    by_cases c : k < j
    · rw [if_pos c, if_neg (by omega)]
    · rw [if_neg c, if_pos ⟨by omega, by omega⟩]

theorem f_X10_addMember_10 : kF wsX10_addMember RX10 10 13 0 := ⟨_, RX10, TX10, 3, fun _ h => (List.mem_cons_of_mem _ (List.mem_append_left _ (List.mem_append_left _ (List.mem_append_left _ (List.mem_append_left _ (List.mem_append_left _ (List.mem_append_left _ (List.mem_append_left _ (List.mem_append_left _ (List.mem_append_left _ (List.mem_append_right _ h))))))))))), (List.mem_cons_of_mem _ (List.mem_append_left _ (List.mem_append_left _ (List.mem_append_left _ (List.mem_append_left _ (List.mem_append_left _ (List.mem_append_left _ (List.mem_append_left _ (List.mem_append_left _ (List.mem_append_left _ (List.mem_append_left _ (List.mem_append_left _ (List.mem_of_getElem? (i := 4) rfl))))))))))))), rfl, by decide, rfl⟩
theorem f_X10_addMember_37 : kF wsX10_addMember RX10 37 9 0 := ⟨_, RX6, TX6, 7, fun _ h => (List.mem_cons_of_mem _ (List.mem_append_left _ (List.mem_append_left _ (List.mem_append_left _ (List.mem_append_left _ (List.mem_append_left _ (List.mem_append_left _ (List.mem_append_left _ (List.mem_append_left _ (List.mem_append_right _ h)))))))))), (List.mem_cons_of_mem _ (List.mem_append_left _ (List.mem_append_left _ (List.mem_append_left _ (List.mem_append_left _ (List.mem_append_left _ (List.mem_append_left _ (List.mem_append_left _ (List.mem_append_left _ (List.mem_append_left _ (List.mem_append_left _ (List.mem_append_left _ (List.mem_of_getElem? (i := 5) rfl))))))))))))), rfl, by decide, rfl⟩
theorem f_X10_addMember_79 : kF wsX10_addMember RX10 79 10 0 := ⟨_, RX7, TX7, 4, fun _ h => (List.mem_cons_of_mem _ (List.mem_append_left _ (List.mem_append_left _ (List.mem_append_left _ (List.mem_append_left _ (List.mem_append_left _ (List.mem_append_left _ (List.mem_append_left _ (List.mem_append_right _ h))))))))), (List.mem_cons_of_mem _ (List.mem_append_left _ (List.mem_append_left _ (List.mem_append_left _ (List.mem_append_left _ (List.mem_append_left _ (List.mem_append_left _ (List.mem_append_left _ (List.mem_append_left _ (List.mem_append_left _ (List.mem_append_left _ (List.mem_append_left _ (List.mem_of_getElem? (i := 7) rfl))))))))))))), rfl, by decide, rfl⟩
theorem f_X10_addMember_70 : kF wsX10_addMember RX10 70 9 1 := ⟨_, RX6, TX6, 7, fun _ h => (List.mem_cons_of_mem _ (List.mem_append_left _ (List.mem_append_left _ (List.mem_append_left _ (List.mem_append_left _ (List.mem_append_left _ (List.mem_append_left _ (List.mem_append_left _ (List.mem_append_left _ (List.mem_append_right _ h)))))))))), (List.mem_cons_of_mem _ (List.mem_append_left _ (List.mem_append_left _ (List.mem_append_left _ (List.mem_append_left _ (List.mem_append_left _ (List.mem_append_left _ (List.mem_append_left _ (List.mem_append_left _ (List.mem_append_left _ (List.mem_append_left _ (List.mem_append_left _ (List.mem_of_getElem? (i := 8) rfl))))))))))))), rfl, by decide, rfl⟩
theorem f_X10_addMember_98 : kF wsX10_addMember RX10 98 4 2 := ⟨_, RX1, TX1, 3, fun _ h => (List.mem_cons_of_mem _ (List.mem_append_left _ (List.mem_append_left _ (List.mem_append_left _ (List.mem_append_left _ (List.mem_append_left _ (List.mem_append_left _ (List.mem_append_right _ h)))))))), (List.mem_cons_of_mem _ (List.mem_append_left _ (List.mem_append_left _ (List.mem_append_left _ (List.mem_append_left _ (List.mem_append_left _ (List.mem_append_left _ (List.mem_append_left _ (List.mem_append_left _ (List.mem_append_left _ (List.mem_append_left _ (List.mem_append_left _ (List.mem_of_getElem? (i := 10) rfl))))))))))))), rfl, by decide, rfl⟩
set_option maxRecDepth 100000 in
set_option maxHeartbeats 4000000 in
theorem c_X10_addMember (l : Launch) (dd : kDD) (ks : List Nat) (ad : Nat → Nat) (E : Nat → va_E) (e : eS) (M : mS) (nR nC nt nL nW nV nM : Nat) (cn nm mn me li rl : Nat → Nat) (on : Int32) (hO : cO dd ks ad E on) (hR : cR dd ks ad E M nR) (hC : cC dd ks ad E M nC mn me) (hT : cT dd ks ad E M nt cn nm) (hL : cL dd ks ad E M nL nW li) (hW : cW dd ks ad E M nW rl) (hV : cV dd ks ad E M nV) (hM : cM dd ks ad E M nM) (hB : cB M nR nC nt nL nW nV cn nm mn me li rl) (mI mR : Int32 → Nat → Nat) (hmI : ∀ o j, j < nt → mnt o (M.2.1 22) j nV 0 = nI (mI o j) ∧ mI o j < nt) (hmR : ∀ o j, j < nR → mnt o (M.2.1 23) j nV 0 = nI (mR o j) ∧ mR o j < nR) (hpk : ∀ r, r < nR → 1 ≤ M.2.1 5 r) (v x q : Int32) : kCiX l yX10_addMember wsX10_addMember ({ frames := 7, cells := 6, slots := 36, locals := 122 } : Room) 6 36 dd [.ref (ad 0), .int v, .int x, .int q] (ks, ad, (cE dd E e)) (kQi (S := kT) (fun r z => (∃ j, ∃ j2, (j < nC ∧ j2 < nR ∧ v = nI j ∧ x = nI j2 ∧ (1 ≤ q ∧ q ≤ 9)) ∧ (¬ M.2.1 2 j2 = 0 ∧ ¬ mhas (fun k => nI (me k)) (3 * j) (nI j2) (mn j) ∧ mn j < 3) ∧ (z.2.1 0 = ad 0 ∧ cAll dd (M.1, va_up (va_up (va_up M.2.1 8 (upd (M.2.1 8) (3 * j + mn j) (nI j2))) 9 (upd (M.2.1 9) (3 * j + mn j) q)) 7 (upd (M.2.1 7) j (nI (mn j + 1))), M.2.2) nR nC nt nL nW nV nM cn nm (va_up mn j (mn j + 1)) (va_up me (3 * j + mn j) j2) li rl on z) ∧ r = nI (mn j + 1))) (fun z => z.1) (fun z => z.2.1) (fun z => z.2.2)) (fun X9 u9 => ∃ e9, u9 = (ks, ad, cE dd E e9) ∧ ((X9 = "java/lang/IndexOutOfBoundsException" ∧ ¬ ((∃ j, j < nC ∧ v = nI j) ∧ (∃ j, j < nR ∧ x = nI j))) ∨ (X9 = "java/lang/IllegalArgumentException" ∧ (((∃ j, j < nC ∧ v = nI j) ∧ (∃ j, j < nR ∧ x = nI j)) ∧ ¬ (1 ≤ q ∧ q ≤ 9))) ∨ (X9 = "java/lang/UnsupportedOperationException" ∧ (∃ j, ∃ j2, (j < nC ∧ j2 < nR ∧ v = nI j ∧ x = nI j2 ∧ (1 ≤ q ∧ q ≤ 9)) ∧ M.2.1 2 j2 = 0)) ∨ (X9 = "java/lang/IllegalStateException" ∧ (∃ j, ∃ j2, (j < nC ∧ j2 < nR ∧ v = nI j ∧ x = nI j2 ∧ (1 ≤ q ∧ q ≤ 9)) ∧ ¬ M.2.1 2 j2 = 0 ∧ (mhas (fun k => nI (me k)) (3 * j) (nI j2) (mn j) ∨ mn j = 3))))) := by
  refine kMetiX (ws' := _) (cc := cX10_addMember) (maxL := 5) (rt := .int) (by decide) rfl (Nat.le_of_ble_eq_true rfl) (fun g X hr hRX hnL hRR hl0 hkn => ?_)
  show kv dd g 0 0 0 [(0, .ref (ad 0)), (1, .int v), (2, .int x), (3, .int q)] [] ks ad (cE dd E e)
  have hT12 := hT.1
  have hR12 := hR.1
  have hL10 := hL.1
  have hV4 := hV.1
  have hM4 := hM.1
  have hC4 := hC.1
  have hW40 := hW.1
  obtain ⟨f20, f21, hf20, hf21, hff⟩ := hO.2.2.2.2
  refine kv_aload_n X 0 dX10_addMember_0 rfl rfl ?_
  refine kv_iload_n X 1 dX10_addMember_1 rfl rfl ?_
  refine kv_callvXV (ci := 13) (κ := 0) (r1 := (TX10, 3)) (As := [.int v]) [] X (c_X10_checkCrew l dd ks ad E e M nR nC nt nL nW nV nM cn nm mn me li rl on hO hR hC hT hL hW hV hM hB v) hl0 (kCV_of X 1 gX10_addMember_X10_checkCrew rfl rfl rfl (by decide +kernel) hRR ⟨(Nat.le_of_ble_eq_true rfl), (Nat.le_of_ble_eq_true rfl)⟩) hO.1.1 ((cE_ne (by omega)).trans hO.1.2) rfl hRX ⟨(Nat.le_of_ble_eq_true rfl), (Nat.le_of_ble_eq_true rfl)⟩ (fun _ _ h => ⟨e, h.2.1, (Or.inl (⟨h.1, fun q => h.2.2 q.1⟩))⟩) rfl rfl (Nat.le_of_ble_eq_true rfl) hRR ⟨(Nat.le_of_ble_eq_true rfl), (Nat.le_of_ble_eq_true rfl)⟩ dX10_addMember_2 (fun z hp => ?_)
  obtain ⟨rfl, j2, h2, rfl⟩ := hp
  refine kv_aload_n X 0 dX10_addMember_5 rfl rfl ?_
  refine kv_iload_n X 2 dX10_addMember_6 rfl rfl ?_
  refine kv_callvXV (ci := 13) (κ := 0) (r1 := (TX10, 3)) (As := [.int x]) [] X (c_X10_checkResource l dd ks ad E e M nR nC nt nL nW nV nM cn nm mn me li rl on hO hR hC hT hL hW hV hM hB x) hl0 (kCV_of X 1 gX10_addMember_X10_checkResource rfl rfl rfl (by decide +kernel) hRR ⟨(Nat.le_of_ble_eq_true rfl), (Nat.le_of_ble_eq_true rfl)⟩) hO.1.1 ((cE_ne (by omega)).trans hO.1.2) rfl hRX ⟨(Nat.le_of_ble_eq_true rfl), (Nat.le_of_ble_eq_true rfl)⟩ (fun _ _ h => ⟨e, h.2.1, (Or.inl (⟨h.1, fun q => h.2.2 q.2⟩))⟩) rfl rfl (Nat.le_of_ble_eq_true rfl) hRR ⟨(Nat.le_of_ble_eq_true rfl), (Nat.le_of_ble_eq_true rfl)⟩ dX10_addMember_7 (fun z hp => ?_)
  obtain ⟨rfl, j7, h7, rfl⟩ := hp
  refine kv_iload_n X 3 dX10_addMember_10 rfl rfl ?_
  refine kv_iconst (v := 1) X dX10_addMember_11 (by decide) ?_
  refine kv_bipush (v := 9) X dX10_addMember_12 (by decide) ?_
  refine kv_callvXS (As := [.int q, .int 1, .int 9]) [] X (c_X10_checkRange l dd ks ad (cE dd E e) q 1 9) hl0 (kCS_of X 3 gX10_addMember_X10_checkRange rfl rfl rfl (by decide +kernel) hRR ⟨(Nat.le_of_ble_eq_true rfl), (Nat.le_of_ble_eq_true rfl)⟩) hRX ⟨(Nat.le_of_ble_eq_true rfl), (Nat.le_of_ble_eq_true rfl)⟩ (fun _ _ h => ⟨e, h.2.1, (Or.inr (Or.inl (⟨h.1, ⟨⟨⟨j2, h2, rfl⟩, ⟨j7, h7, rfl⟩⟩, h.2.2⟩⟩)))⟩) rfl rfl (Nat.le_of_ble_eq_true rfl) hRR ⟨(Nat.le_of_ble_eq_true rfl), (Nat.le_of_ble_eq_true rfl)⟩ dX10_addMember_14 (fun z hp => ?_)
  have h14 := hp
  refine kv_aload_n X 0 dX10_addMember_17 rfl rfl ?_
  refine kv_getfield X f_X10_addMember_10 (κ := 0) (fs := [.ref (ad 1), .ref (ad 2), .int on]) (v := .ref (ad 1)) hO.1.1 ((cE_ne (by omega)).trans hO.1.2) rfl dX10_addMember_18 ?_
  refine kv_getfield X f_X10_addMember_37 (κ := 1) (fs := [.ref (ad 3), .ref (ad 4), .ref (ad 5), .ref (ad 6), .ref (ad 7), .ref (ad 8), .ref (ad 9)]) (v := .ref (ad 3)) hO.2.1.1 ((cE_ne (by omega)).trans hO.2.1.2) rfl dX10_addMember_21 ?_
  refine kv_iload_n X 2 dX10_addMember_24 rfl rfl ?_
  obtain ⟨_, _, o25⟩ := kLs_obj (dd := dd) (ks := ks) (ad := ad) (E := (cE dd E e)) (kLs_cE hR.2.1 (by omega) (by omega) (fun i hi => by omega))
  refine kv_callqV (ci := 2) (κ := 3) (r1 := (TJx4a65c, 3)) (As := [.int (nI j7)]) [] X (c_Jx4a65c_get_915e3 l dd ks ad (cE dd E e) (3) (10) (nR) (fun r => 64 + r) 10 (kLs_cE hR.2.1 (by omega) (by omega) (fun i hi => by omega)) j7 (by omega)) hl0 (kCV_of X 1 gX10_addMember_Jx4a65c_get_915e3 rfl rfl rfl (by decide +kernel) hRR ⟨(Nat.le_of_ble_eq_true rfl), (Nat.le_of_ble_eq_true rfl)⟩) hR.2.1.1 o25 rfl rfl rfl (Nat.le_of_ble_eq_true rfl) hRR ⟨(Nat.le_of_ble_eq_true rfl), (Nat.le_of_ble_eq_true rfl)⟩ dX10_addMember_25 (fun r z hp => ?_)
  obtain rfl := hp
  refine kv_topg (.ref (ad (64 + j7))) rfl ?_
  refine kv_cast X (κ := 64 + j7) (ci := 10) (fs := [.int (M.2.1 2 j7), .int (M.2.1 3 j7), .int (M.2.1 4 j7), .int (M.2.1 5 j7)]) (r := (RX7, TX7, 4)) (List.mem_cons_of_mem _ (List.mem_append_left _ (List.mem_append_left _ (List.mem_append_left _ (List.mem_append_left _ (List.mem_append_left _ (List.mem_append_left _ (List.mem_append_left _ (List.mem_append_left _ (List.mem_append_left _ (List.mem_append_left _ (List.mem_append_left _ (List.mem_of_getElem? (i := 6) rfl))))))))))))) (hR.2.2 j7 (by omega)).1 ((cE_ne (by omega)).trans (hR.2.2 j7 (by omega)).2) rfl dX10_addMember_28 ?_
  refine kv_getfield X f_X10_addMember_79 (κ := 64 + j7) (fs := [.int (M.2.1 2 j7), .int (M.2.1 3 j7), .int (M.2.1 4 j7), .int (M.2.1 5 j7)]) (v := .int (M.2.1 2 j7)) (hR.2.2 j7 (by omega)).1 ((cE_ne (by omega)).trans (hR.2.2 j7 (by omega)).2) rfl dX10_addMember_31 ?_
  refine kv_if_ne (tgt := 47) X dX10_addMember_34 (by decide) (fun hc34 => ?_) (fun hc34 => ?_)
  ·
    refine kv_aload_n X 0 dX10_addMember_47 rfl rfl ?_
    refine kv_getfield X f_X10_addMember_10 (κ := 0) (fs := [.ref (ad 1), .ref (ad 2), .int on]) (v := .ref (ad 1)) hO.1.1 ((cE_ne (by omega)).trans hO.1.2) rfl dX10_addMember_48 ?_
    refine kv_getfield X f_X10_addMember_70 (κ := 1) (fs := [.ref (ad 3), .ref (ad 4), .ref (ad 5), .ref (ad 6), .ref (ad 7), .ref (ad 8), .ref (ad 9)]) (v := .ref (ad 4)) hO.2.1.1 ((cE_ne (by omega)).trans hO.2.1.2) rfl dX10_addMember_51 ?_
    refine kv_iload_n X 1 dX10_addMember_54 rfl rfl ?_
    obtain ⟨_, _, o55⟩ := kLs_obj (dd := dd) (ks := ks) (ad := ad) (E := (cE dd E e)) (kLs_cE hC.2.1 (by omega) (by omega) (fun i hi => by omega))
    refine kv_callqV (ci := 2) (κ := 4) (r1 := (TJx4a65c, 3)) (As := [.int (nI j2)]) [] X (c_Jx4a65c_get_915e3 l dd ks ad (cE dd E e) (4) (11) (nC) (fun c => 80 + c) 4 (kLs_cE hC.2.1 (by omega) (by omega) (fun i hi => by omega)) j2 (by omega)) hl0 (kCV_of X 1 gX10_addMember_Jx4a65c_get_915e3 rfl rfl rfl (by decide +kernel) hRR ⟨(Nat.le_of_ble_eq_true rfl), (Nat.le_of_ble_eq_true rfl)⟩) hC.2.1.1 o55 rfl rfl rfl (Nat.le_of_ble_eq_true rfl) hRR ⟨(Nat.le_of_ble_eq_true rfl), (Nat.le_of_ble_eq_true rfl)⟩ dX10_addMember_55 (fun r z hp => ?_)
    obtain rfl := hp
    refine kv_topg (.ref (ad (80 + j2))) rfl ?_
    refine kv_cast X (κ := 80 + j2) (ci := 4) (fs := [.ref (ad (84 + j2)), .ref (ad (88 + j2)), .int (nI (mn j2))]) (r := (RX1, TX1, 3)) (List.mem_cons_of_mem _ (List.mem_append_left _ (List.mem_append_left _ (List.mem_append_left _ (List.mem_append_left _ (List.mem_append_left _ (List.mem_append_left _ (List.mem_append_left _ (List.mem_append_left _ (List.mem_append_left _ (List.mem_append_left _ (List.mem_append_left _ (List.mem_of_getElem? (i := 9) rfl))))))))))))) (hC.2.2 j2 (by omega)).1 ((cE_ne (by omega)).trans (hC.2.2 j2 (by omega)).2.1) rfl dX10_addMember_58 ?_
    obtain ⟨k80, e80, hm3, k84, k88, f1, f2, e84, e88, hff2⟩ := hC.2.2 j2 h2
    have hmh : mhas f1 0 (nI j7) (mn j2) ↔ mhas (fun k => nI (me k)) (3 * j2) (nI j7) (mn j2) := mhas_c (fun q hq => by rw [show 0 + q = q by omega]; exact (hff2 q hq).1)
    refine kv_astore (lv2 := [(4, .ref (ad (80 + j2))), (0, .ref (ad 0)), (1, .int (nI j2)), (2, .int (nI j7)), (3, .int q)]) X dX10_addMember_61 (by rw [hnL]; decide) rfl ?_
    refine kv_aload X 0 dX10_addMember_63 rfl ?_
    refine kv_iload_n X 3 dX10_addMember_65 rfl rfl ?_
    refine kv_calliV (ci := 4) (κ := 80 + j2) (r1 := (TX1, 3)) (As := [.int (nI j7)]) [] X (c_X1_hasMember l dd ks ad (cE dd E e) (80 + j2) (84 + j2) (88 + j2) f1 f2 (mn j2) (by omega) k80 ((cE_ne (by omega)).trans e80) k84 ((cE_ne (by omega)).trans e84) k88 ((cE_ne (by omega)).trans e88) (nI j7)) hl0 (kCV_of X 1 gX10_addMember_X1_hasMember rfl rfl rfl (by decide +kernel) hRR ⟨(Nat.le_of_ble_eq_true rfl), (Nat.le_of_ble_eq_true rfl)⟩) (hC.2.2 j2 (by omega)).1 ((cE_ne (by omega)).trans (hC.2.2 j2 (by omega)).2.1) rfl rfl rfl (Nat.le_of_ble_eq_true rfl) hRR ⟨(Nat.le_of_ble_eq_true rfl), (Nat.le_of_ble_eq_true rfl)⟩ dX10_addMember_66 (fun r z hp => ?_)
    obtain ⟨rfl, hhas⟩ | ⟨rfl, hhas⟩ := hp
    ·
      refine kv_if_eq (tgt := 82) X dX10_addMember_69 (by decide) (fun hc => absurd hc (by decide)) (fun hc69 => ?_)
      exact kv_throw (cls := "java/lang/IllegalStateException") (text := "the resource is a member of the crew") (names := ["java/lang/RuntimeException", "java/lang/Exception"]) (ik := 93) (is := 95) (ic := 97) X hRX tf_ISE (by decide) (List.mem_cons_of_mem _ (List.mem_append_left _ (List.mem_append_left _ (List.mem_append_left _ (List.mem_append_left _ (List.mem_append_left _ (List.mem_append_left _ (List.mem_append_left _ (List.mem_append_left _ (List.mem_append_left _ (List.mem_append_left _ (List.mem_append_left _ (List.mem_of_getElem? (i := 2) rfl))))))))))))) (List.mem_cons_of_mem _ (List.mem_append_left _ (List.mem_append_left _ (List.mem_append_left _ (List.mem_append_left _ (List.mem_append_left _ (List.mem_append_left _ (List.mem_append_left _ (List.mem_append_left _ (List.mem_append_left _ (List.mem_append_left _ (List.mem_append_left _ (List.mem_of_getElem? (i := 3) rfl))))))))))))) (by decide +kernel) (fun _ h => (List.mem_cons_of_mem _ (List.mem_append_left _ (List.mem_append_left _ (List.mem_append_left _ (List.mem_append_right _ h)))))) tb_ISE tg_ISE dX10_addMember_72 dX10_addMember_75 dX10_addMember_76 dX10_addMember_78 dX10_addMember_81 hRR (Nat.le_of_ble_eq_true rfl) ⟨(Nat.le_of_ble_eq_true rfl), (Nat.le_of_ble_eq_true rfl), (Nat.le_of_ble_eq_true rfl), (Nat.le_of_ble_eq_true rfl)⟩ (Nat.le_of_ble_eq_true rfl) (Nat.le_of_ble_eq_true rfl) ⟨e, rfl, (Or.inr (Or.inr (Or.inr (⟨rfl, ⟨j2, j7, ⟨h2, h7, rfl, rfl, h14⟩, hc34, Or.inl (hmh.mp hhas)⟩⟩))))⟩
    ·
      refine kv_if_eq (tgt := 82) X dX10_addMember_69 (by decide) (fun hc69 => ?_) (fun hc => absurd hc (by decide))
      refine kv_aload X 0 dX10_addMember_82 rfl ?_
      refine kv_getfield X f_X10_addMember_98 (κ := 80 + j2) (fs := [.ref (ad (84 + j2)), .ref (ad (88 + j2)), .int (nI (mn j2))]) (v := .int (nI (mn j2))) (hC.2.2 j2 (by omega)).1 ((cE_ne (by omega)).trans (hC.2.2 j2 (by omega)).2.1) rfl dX10_addMember_84 ?_
      refine kv_iconst (v := 3) X dX10_addMember_87 (by decide) ?_
      refine kv_callvXS (As := [.int (nI (mn j2)), .int 3]) [] X (c_X10_checkRoom l dd ks ad (cE dd E e) (mn j2) 3 (by omega) (by omega)) hl0 (kCS_of X 2 gX10_addMember_X10_checkRoom rfl rfl rfl (by decide +kernel) hRR ⟨(Nat.le_of_ble_eq_true rfl), (Nat.le_of_ble_eq_true rfl)⟩) hRX ⟨(Nat.le_of_ble_eq_true rfl), (Nat.le_of_ble_eq_true rfl)⟩ (fun _ _ h => ⟨e, h.2.1, (Or.inr (Or.inr (Or.inr (⟨h.1, ⟨j2, j7, ⟨h2, h7, rfl, rfl, h14⟩, hc34, Or.inr (by have := h.2.2; omega)⟩⟩))))⟩) rfl rfl (Nat.le_of_ble_eq_true rfl) hRR ⟨(Nat.le_of_ble_eq_true rfl), (Nat.le_of_ble_eq_true rfl)⟩ dX10_addMember_88 (fun z hp => ?_)
      have h88 := hp
      refine kv_aload X 0 dX10_addMember_91 rfl ?_
      refine kv_iload_n X 3 dX10_addMember_93 rfl rfl ?_
      refine kv_iload_n X 4 dX10_addMember_94 rfl rfl ?_
      refine kv_callvV (ci := 4) (κ := 80 + j2) (r1 := (TX1, 3)) (As := [.int (nI j7), .int q]) [] X (c_X1_join l dd ks ad (cE dd E e) (80 + j2) (84 + j2) (88 + j2) f1 f2 (mn j2) (by omega) k80 ((cE_ne (by omega)).trans e80) k84 ((cE_ne (by omega)).trans e84) k88 ((cE_ne (by omega)).trans e88) (nI j7) q (by omega) (by omega) (by omega)) hl0 (kCV_of X 2 gX10_addMember_X1_join rfl rfl rfl (by decide +kernel) hRR ⟨(Nat.le_of_ble_eq_true rfl), (Nat.le_of_ble_eq_true rfl)⟩) (hC.2.2 j2 (by omega)).1 ((cE_ne (by omega)).trans (hC.2.2 j2 (by omega)).2.1) rfl rfl rfl (Nat.le_of_ble_eq_true rfl) hRR ⟨(Nat.le_of_ble_eq_true rfl), (Nat.le_of_ble_eq_true rfl)⟩ dX10_addMember_95 (fun z hp => ?_)
      refine kv_E (E2 := cE dd (va_up (va_up (va_up E (84 + j2) (kI dd 3 (va_up f1 (mn j2) (nI j7)))) (88 + j2) (kI dd 3 (va_up f2 (mn j2) q))) (80 + j2) (.inr (4, [.ref (ad (84 + j2)), .ref (ad (88 + j2)), .int (nI (mn j2 + 1))]))) e) (fun j _ => cE_up3 (by omega) (by omega) (by omega) _ _ _ j) ?_
      have hR2 := cR_frame (cAg_up (κ := 80 + j2) (by unfold sR; omega) (.inr (4, [.ref (ad (84 + j2)), .ref (ad (88 + j2)), .int (nI (mn j2 + 1))]))) (cR_frame (cAg_up (κ := 88 + j2) (by unfold sR; omega) (kI dd 3 (va_up f2 (mn j2) q))) (cR_frame (cAg_up (κ := 84 + j2) (by unfold sR; omega) (kI dd 3 (va_up f1 (mn j2) (nI j7)))) hR))
      have hT2 := cT_frame (cAg_up (κ := 80 + j2) (by unfold sT; omega) (.inr (4, [.ref (ad (84 + j2)), .ref (ad (88 + j2)), .int (nI (mn j2 + 1))]))) (cT_frame (cAg_up (κ := 88 + j2) (by unfold sT; omega) (kI dd 3 (va_up f2 (mn j2) q))) (cT_frame (cAg_up (κ := 84 + j2) (by unfold sT; omega) (kI dd 3 (va_up f1 (mn j2) (nI j7)))) hT))
      have hL2 := cL_frame (cAg_up (κ := 80 + j2) (by unfold sL; omega) (.inr (4, [.ref (ad (84 + j2)), .ref (ad (88 + j2)), .int (nI (mn j2 + 1))]))) (cL_frame (cAg_up (κ := 88 + j2) (by unfold sL; omega) (kI dd 3 (va_up f2 (mn j2) q))) (cL_frame (cAg_up (κ := 84 + j2) (by unfold sL; omega) (kI dd 3 (va_up f1 (mn j2) (nI j7)))) hL))
      have hW2 := cW_frame (cAg_up (κ := 80 + j2) (by unfold sW; omega) (.inr (4, [.ref (ad (84 + j2)), .ref (ad (88 + j2)), .int (nI (mn j2 + 1))]))) (cW_frame (cAg_up (κ := 88 + j2) (by unfold sW; omega) (kI dd 3 (va_up f2 (mn j2) q))) (cW_frame (cAg_up (κ := 84 + j2) (by unfold sW; omega) (kI dd 3 (va_up f1 (mn j2) (nI j7)))) hW))
      have hV2 := cV_frame (cAg_up (κ := 80 + j2) (by unfold sV; omega) (.inr (4, [.ref (ad (84 + j2)), .ref (ad (88 + j2)), .int (nI (mn j2 + 1))]))) (cV_frame (cAg_up (κ := 88 + j2) (by unfold sV; omega) (kI dd 3 (va_up f2 (mn j2) q))) (cV_frame (cAg_up (κ := 84 + j2) (by unfold sV; omega) (kI dd 3 (va_up f1 (mn j2) (nI j7)))) hV))
      have hM2 := cM_frame (cAg_up (κ := 80 + j2) (by unfold sM; omega) (.inr (4, [.ref (ad (84 + j2)), .ref (ad (88 + j2)), .int (nI (mn j2 + 1))]))) (cM_frame (cAg_up (κ := 88 + j2) (by unfold sM; omega) (kI dd 3 (va_up f2 (mn j2) q))) (cM_frame (cAg_up (κ := 84 + j2) (by unfold sM; omega) (kI dd 3 (va_up f1 (mn j2) (nI j7)))) hM))
      have hO2 := cO_up (κ := 80 + j2) (cO_up (κ := 88 + j2) (cO_up (κ := 84 + j2) hO (by omega) (kI dd 3 (va_up f1 (mn j2) (nI j7)))) (by omega) (kI dd 3 (va_up f2 (mn j2) q))) (by omega) (.inr (4, [.ref (ad (84 + j2)), .ref (ad (88 + j2)), .int (nI (mn j2 + 1))]))
      have hC2 := cC_set (x := j7) (y := q) hC h2 h88 hff2
      refine kv_aload X 0 dX10_addMember_98 rfl ?_
      refine kv_getfield X f_X10_addMember_98 (κ := 80 + j2) (fs := [.ref (ad (84 + j2)), .ref (ad (88 + j2)), .int (nI (mn j2 + 1))]) (v := .int (nI (mn j2 + 1))) k80 ((cE_ne (by omega)).trans (va_up_self _ _ _)) rfl dX10_addMember_100 ?_
      exact kv_ireturn X hr (Nat.le_of_ble_eq_true rfl) (Nat.le_of_ble_eq_true rfl) ⟨(ks, ad, (cE dd (va_up (va_up (va_up E (84 + j2) (kI dd 3 (va_up f1 (mn j2) (nI j7)))) (88 + j2) (kI dd 3 (va_up f2 (mn j2) q))) (80 + j2) (.inr (4, [.ref (ad (84 + j2)), .ref (ad (88 + j2)), .int (nI (mn j2 + 1))]))) e)), ⟨j2, j7, ⟨h2, h7, rfl, rfl, h14⟩, ⟨hc34, fun q => hhas (hmh.mpr q), h88⟩, ⟨rfl, _, _, rfl, hO2, hR2, hC2, hT2, hL2, hW2, hV2, hM2⟩, rfl⟩, rfl⟩ dX10_addMember_103
  ·
    exact kv_throw (cls := "java/lang/UnsupportedOperationException") (text := "a material is no member of a crew") (names := ["java/lang/RuntimeException", "java/lang/Exception"]) (ik := 82) (is := 84) (ic := 86) X hRX tf_UOE (by decide) (List.mem_cons_of_mem _ (List.mem_append_left _ (List.mem_append_left _ (List.mem_append_left _ (List.mem_append_left _ (List.mem_append_left _ (List.mem_append_left _ (List.mem_append_left _ (List.mem_append_left _ (List.mem_append_left _ (List.mem_append_left _ (List.mem_append_left _ (List.mem_of_getElem? (i := 0) rfl))))))))))))) (List.mem_cons_of_mem _ (List.mem_append_left _ (List.mem_append_left _ (List.mem_append_left _ (List.mem_append_left _ (List.mem_append_left _ (List.mem_append_left _ (List.mem_append_left _ (List.mem_append_left _ (List.mem_append_left _ (List.mem_append_left _ (List.mem_append_left _ (List.mem_of_getElem? (i := 1) rfl))))))))))))) (by decide +kernel) (fun _ h => (List.mem_cons_of_mem _ (List.mem_append_left _ (List.mem_append_left _ (List.mem_append_left _ (List.mem_append_left _ (List.mem_append_right _ h))))))) tb_UOE tg_UOE dX10_addMember_37 dX10_addMember_40 dX10_addMember_41 dX10_addMember_43 dX10_addMember_46 hRR (Nat.le_of_ble_eq_true rfl) ⟨(Nat.le_of_ble_eq_true rfl), (Nat.le_of_ble_eq_true rfl), (Nat.le_of_ble_eq_true rfl), (Nat.le_of_ble_eq_true rfl)⟩ (Nat.le_of_ble_eq_true rfl) (Nat.le_of_ble_eq_true rfl) ⟨e, rfl, (Or.inr (Or.inr (Or.inl (⟨rfl, ⟨j2, j7, ⟨h2, h7, rfl, rfl, h14⟩, hc34⟩⟩))))⟩
theorem f_X10_changeQuantity_10 : kF wsX10_changeQuantity RX10 10 13 0 := ⟨_, RX10, TX10, 3, fun _ h => (List.mem_cons_of_mem _ (List.mem_append_left _ (List.mem_append_left _ (List.mem_append_left _ (List.mem_append_left _ (List.mem_append_right _ h)))))), (List.mem_cons_of_mem _ (List.mem_append_left _ (List.mem_append_left _ (List.mem_append_left _ (List.mem_append_left _ (List.mem_append_left _ (List.mem_append_left _ (List.mem_of_getElem? (i := 2) rfl)))))))), rfl, by decide, rfl⟩
theorem f_X10_changeQuantity_153 : kF wsX10_changeQuantity RX10 153 9 3 := ⟨_, RX6, TX6, 7, fun _ h => (List.mem_cons_of_mem _ (List.mem_append_left _ (List.mem_append_left _ (List.mem_append_left _ (List.mem_append_right _ h))))), (List.mem_cons_of_mem _ (List.mem_append_left _ (List.mem_append_left _ (List.mem_append_left _ (List.mem_append_left _ (List.mem_append_left _ (List.mem_append_left _ (List.mem_of_getElem? (i := 3) rfl)))))))), rfl, by decide, rfl⟩
theorem f_X10_changeQuantity_196 : kF wsX10_changeQuantity RX10 196 7 1 := ⟨_, RX4, TX4, 2, fun _ h => (List.mem_cons_of_mem _ (List.mem_append_left _ (List.mem_append_left _ (List.mem_append_right _ h)))), (List.mem_cons_of_mem _ (List.mem_append_left _ (List.mem_append_left _ (List.mem_append_left _ (List.mem_append_left _ (List.mem_append_left _ (List.mem_append_left _ (List.mem_of_getElem? (i := 5) rfl)))))))), rfl, by decide, rfl⟩
theorem fp_X10_changeQuantity_196 : kFq wsX10_changeQuantity RX10 196 7 1 .int := ⟨_, RX4, TX4, 2, tyX4, fun _ h => (List.mem_cons_of_mem _ (List.mem_append_left _ (List.mem_append_left _ (List.mem_append_right _ h)))), tyX4_ok, nmX4, (List.mem_cons_of_mem _ (List.mem_append_left _ (List.mem_append_left _ (List.mem_append_left _ (List.mem_append_left _ (List.mem_append_left _ (List.mem_append_left _ (List.mem_of_getElem? (i := 5) rfl)))))))), rfl, by decide, rfl, rfl, by decide +kernel⟩
set_option maxRecDepth 100000 in
set_option maxHeartbeats 4000000 in
theorem c_X10_changeQuantity (l : Launch) (dd : kDD) (ks : List Nat) (ad : Nat → Nat) (E : Nat → va_E) (e : eS) (M : mS) (nR nC nt nL nW nV nM : Nat) (cn nm mn me li rl : Nat → Nat) (on : Int32) (hO : cO dd ks ad E on) (hR : cR dd ks ad E M nR) (hC : cC dd ks ad E M nC mn me) (hT : cT dd ks ad E M nt cn nm) (hL : cL dd ks ad E M nL nW li) (hW : cW dd ks ad E M nW rl) (hV : cV dd ks ad E M nV) (hM : cM dd ks ad E M nM) (hB : cB M nR nC nt nL nW nV cn nm mn me li rl) (mI mR : Int32 → Nat → Nat) (hmI : ∀ o j, j < nt → mnt o (M.2.1 22) j nV 0 = nI (mI o j) ∧ mI o j < nt) (hmR : ∀ o j, j < nR → mnt o (M.2.1 23) j nV 0 = nI (mR o j) ∧ mR o j < nR) (hpk : ∀ r, r < nR → 1 ≤ M.2.1 5 r) (l0 : Nat) (x : Int32) (hll : l0 < nL) : kCiX l yX10_changeQuantity wsX10_changeQuantity ({ frames := 6, cells := 1, slots := 6, locals := 100 } : Room) 1 6 dd [.ref (ad 0), .int (nI l0), .int x] (ks, ad, (cE dd E e)) (kQi (S := Unit) (fun r z => (0 ≤ (mq (M.2.1 19) (M.2.1 20) (nI l0) nW + x) ∧ (mq (M.2.1 19) (M.2.1 20) (nI l0) nW + x) ≤ 10000) ∧ r = (mq (M.2.1 19) (M.2.1 20) (nI l0) nW + x)) (fun _ => ks) (fun _ => ad) (fun _ => cE dd (va_up E (208 + l0) (.inr (7, [.int (nI (li l0)), .int (mq (M.2.1 19) (M.2.1 20) (nI l0) nW + x)]))) e)) (fun X9 u9 => ∃ e9, u9 = (ks, ad, cE dd E e9) ∧ ((X9 = "java/lang/ArithmeticException" ∧ ¬ (0 ≤ (mq (M.2.1 19) (M.2.1 20) (nI l0) nW + x) ∧ (mq (M.2.1 19) (M.2.1 20) (nI l0) nW + x) ≤ 10000)))) := by
  refine kMetiX (ws' := _) (cc := cX10_changeQuantity) (maxL := 5) (rt := .int) (by decide) rfl (Nat.le_of_ble_eq_true rfl) (fun g X hr hRX hnL hRR hl0 hkn => ?_)
  show kv dd g 0 0 0 [(0, .ref (ad 0)), (1, .int (nI l0)), (2, .int x)] [] ks ad (cE dd E e)
  have hT12 := hT.1
  have hR12 := hR.1
  have hL10 := hL.1
  have hV4 := hV.1
  have hM4 := hM.1
  have hC4 := hC.1
  have hW40 := hW.1
  obtain ⟨f20, f21, hf20, hf21, hff⟩ := hO.2.2.2.2
  refine kv_aload_n X 0 dX10_changeQuantity_0 rfl rfl ?_
  refine kv_getfield X f_X10_changeQuantity_10 (κ := 0) (fs := [.ref (ad 1), .ref (ad 2), .int on]) (v := .ref (ad 1)) hO.1.1 ((cE_ne (by omega)).trans hO.1.2) rfl dX10_changeQuantity_1 ?_
  refine kv_getfield X f_X10_changeQuantity_153 (κ := 1) (fs := [.ref (ad 3), .ref (ad 4), .ref (ad 5), .ref (ad 6), .ref (ad 7), .ref (ad 8), .ref (ad 9)]) (v := .ref (ad 6)) hO.2.1.1 ((cE_ne (by omega)).trans hO.2.1.2) rfl dX10_changeQuantity_4 ?_
  refine kv_iload_n X 1 dX10_changeQuantity_7 rfl rfl ?_
  obtain ⟨_, _, o8⟩ := kLs_obj (dd := dd) (ks := ks) (ad := ad) (E := (cE dd E e)) (kLs_cE hL.2.1 (by omega) (by omega) (fun i hi => by omega))
  refine kv_callqV (ci := 2) (κ := 6) (r1 := (TJx4a65c, 3)) (As := [.int (nI l0)]) [] X (c_Jx4a65c_get_915e3 l dd ks ad (cE dd E e) (6) (13) (nL) (fun l => 208 + l) 7 (kLs_cE hL.2.1 (by omega) (by omega) (fun i hi => by omega)) l0 (by omega)) hl0 (kCV_of X 1 gX10_changeQuantity_Jx4a65c_get_915e3 rfl rfl rfl (by decide +kernel) hRR ⟨(Nat.le_of_ble_eq_true rfl), (Nat.le_of_ble_eq_true rfl)⟩) hL.2.1.1 o8 rfl rfl rfl (Nat.le_of_ble_eq_true rfl) hRR ⟨(Nat.le_of_ble_eq_true rfl), (Nat.le_of_ble_eq_true rfl)⟩ dX10_changeQuantity_8 (fun r z hp => ?_)
  obtain rfl := hp
  refine kv_topg (.ref (ad (208 + l0))) rfl ?_
  refine kv_cast X (κ := 208 + l0) (ci := 7) (fs := [.int (nI (li l0)), .int (mq (M.2.1 19) (M.2.1 20) (nI l0) nW)]) (r := (RX4, TX4, 2)) (List.mem_cons_of_mem _ (List.mem_append_left _ (List.mem_append_left _ (List.mem_append_left _ (List.mem_append_left _ (List.mem_append_left _ (List.mem_append_left _ (List.mem_of_getElem? (i := 4) rfl)))))))) (hL.2.2 l0 (by omega)).1 ((cE_ne (by omega)).trans (hL.2.2 l0 (by omega)).2) rfl dX10_changeQuantity_11 ?_
  refine kv_astore_n (lv2 := [(3, .ref (ad (208 + l0))), (0, .ref (ad 0)), (1, .int (nI l0)), (2, .int x)]) X dX10_changeQuantity_14 rfl (by rw [hnL]; decide) rfl ?_
  refine kv_aload_n X 0 dX10_changeQuantity_15 rfl rfl ?_
  refine kv_getfield X f_X10_changeQuantity_196 (κ := 208 + l0) (fs := [.int (nI (li l0)), .int (mq (M.2.1 19) (M.2.1 20) (nI l0) nW)]) (v := .int (mq (M.2.1 19) (M.2.1 20) (nI l0) nW)) (hL.2.2 l0 (by omega)).1 ((cE_ne (by omega)).trans (hL.2.2 l0 (by omega)).2) rfl dX10_changeQuantity_16 ?_
  refine kv_iload_n X 3 dX10_changeQuantity_19 rfl rfl ?_
  refine kv_iadd X dX10_changeQuantity_20 ?_
  refine kv_istore (lv2 := [(4, .int ((mq (M.2.1 19) (M.2.1 20) (nI l0) nW) + x)), (3, .ref (ad (208 + l0))), (0, .ref (ad 0)), (1, .int (nI l0)), (2, .int x)]) X dX10_changeQuantity_21 (by rw [hnL]; decide) rfl ?_
  refine kv_iload X 0 dX10_changeQuantity_23 rfl ?_
  refine kv_if_lt (tgt := 36) X dX10_changeQuantity_25 (by decide) (fun hc25 => ?_) (fun hc25 => ?_)
  ·
    exact kv_throwW (cls := "java/lang/ArithmeticException") (text := "the quantity of the line would be out of range") (names := ["java/lang/RuntimeException", "java/lang/Exception"]) (ik := 315) (is := 317) (ic := 319) X hRX tf_AE (by decide) (List.mem_cons_of_mem _ (List.mem_append_left _ (List.mem_append_left _ (List.mem_append_left _ (List.mem_append_left _ (List.mem_append_left _ (List.mem_append_left _ (List.mem_of_getElem? (i := 0) rfl)))))))) (List.mem_cons_of_mem _ (List.mem_append_left _ (List.mem_append_left _ (List.mem_append_left _ (List.mem_append_left _ (List.mem_append_left _ (List.mem_append_left _ (List.mem_of_getElem? (i := 1) rfl)))))))) (by decide +kernel) (fun _ h => (List.mem_cons_of_mem _ (List.mem_append_right _ h))) tb_AE tg_AE dX10_changeQuantity_36 dX10_changeQuantity_39 dX10_changeQuantity_40 dX10_changeQuantity_43 dX10_changeQuantity_46 hRR (Nat.le_of_ble_eq_true rfl) ⟨(Nat.le_of_ble_eq_true rfl), (Nat.le_of_ble_eq_true rfl), (Nat.le_of_ble_eq_true rfl), (Nat.le_of_ble_eq_true rfl)⟩ (Nat.le_of_ble_eq_true rfl) (Nat.le_of_ble_eq_true rfl) ⟨e, rfl, ⟨rfl, (fun q => by first | exact absurd q.1 (Int32.not_le.mpr hc25) | exact hc33 q.2)⟩⟩
  ·
    refine kv_iload X 0 dX10_changeQuantity_28 rfl ?_
    refine kv_sipush (v := 10000) X dX10_changeQuantity_30 (by decide) ?_
    refine kv_icmp_le (tgt := 47) X dX10_changeQuantity_33 (by decide) (fun hc33 => ?_) (fun hc33 => ?_)
    ·
      refine kv_aload_n X 1 dX10_changeQuantity_47 rfl rfl ?_
      refine kv_iload X 0 dX10_changeQuantity_48 rfl ?_
      refine kv_putfieldO X fp_X10_changeQuantity_196 (κ := 208 + l0) (fs := [.int (nI (li l0)), .int (mq (M.2.1 19) (M.2.1 20) (nI l0) nW)]) (hL.2.2 l0 (by omega)).1 ((cE_ne (by omega)).trans (hL.2.2 l0 (by omega)).2) rfl rfl (Nat.le_of_ble_eq_true rfl) dX10_changeQuantity_50 ?_
      refine kv_E (E2 := cE dd (va_up E (208 + l0) (Sum.inr (7, [.int (nI (li l0)), .int ((mq (M.2.1 19) (M.2.1 20) (nI l0) nW) + x)]))) e) (fun j _ => cE_upO (by omega) _ j) ?_
      refine kv_iload X 0 dX10_changeQuantity_53 rfl ?_
      exact kv_ireturn X hr (Nat.le_of_ble_eq_true rfl) (Nat.le_of_ble_eq_true rfl) ⟨(), ⟨⟨Int32.not_lt.mp hc25, hc33⟩, rfl⟩, rfl⟩ dX10_changeQuantity_55
    ·
      exact kv_throwW (cls := "java/lang/ArithmeticException") (text := "the quantity of the line would be out of range") (names := ["java/lang/RuntimeException", "java/lang/Exception"]) (ik := 315) (is := 317) (ic := 319) X hRX tf_AE (by decide) (List.mem_cons_of_mem _ (List.mem_append_left _ (List.mem_append_left _ (List.mem_append_left _ (List.mem_append_left _ (List.mem_append_left _ (List.mem_append_left _ (List.mem_of_getElem? (i := 0) rfl)))))))) (List.mem_cons_of_mem _ (List.mem_append_left _ (List.mem_append_left _ (List.mem_append_left _ (List.mem_append_left _ (List.mem_append_left _ (List.mem_append_left _ (List.mem_of_getElem? (i := 1) rfl)))))))) (by decide +kernel) (fun _ h => (List.mem_cons_of_mem _ (List.mem_append_right _ h))) tb_AE tg_AE dX10_changeQuantity_36 dX10_changeQuantity_39 dX10_changeQuantity_40 dX10_changeQuantity_43 dX10_changeQuantity_46 hRR (Nat.le_of_ble_eq_true rfl) ⟨(Nat.le_of_ble_eq_true rfl), (Nat.le_of_ble_eq_true rfl), (Nat.le_of_ble_eq_true rfl), (Nat.le_of_ble_eq_true rfl)⟩ (Nat.le_of_ble_eq_true rfl) (Nat.le_of_ble_eq_true rfl) ⟨e, rfl, ⟨rfl, (fun q => by first | exact absurd q.1 (Int32.not_le.mpr hc25) | exact hc33 q.2)⟩⟩
theorem f_X10_addRow_10 : kF wsX10_addRow RX10 10 13 0 := ⟨_, RX10, TX10, 3, fun _ h => (List.mem_cons_of_mem _ (List.mem_append_left _ (List.mem_append_left _ (List.mem_append_left _ (List.mem_append_left _ (List.mem_append_left _ (List.mem_append_left _ (List.mem_append_left _ (List.mem_append_left _ (List.mem_append_right _ h)))))))))), (List.mem_cons_of_mem _ (List.mem_append_left _ (List.mem_append_left _ (List.mem_append_left _ (List.mem_append_left _ (List.mem_append_left _ (List.mem_append_left _ (List.mem_append_left _ (List.mem_append_left _ (List.mem_append_left _ (List.mem_append_left _ (List.mem_of_getElem? (i := 0) rfl)))))))))))), rfl, by decide, rfl⟩
theorem f_X10_addRow_169 : kF wsX10_addRow RX10 169 9 4 := ⟨_, RX6, TX6, 7, fun _ h => (List.mem_cons_of_mem _ (List.mem_append_left _ (List.mem_append_left _ (List.mem_append_left _ (List.mem_append_left _ (List.mem_append_left _ (List.mem_append_left _ (List.mem_append_left _ (List.mem_append_right _ h))))))))), (List.mem_cons_of_mem _ (List.mem_append_left _ (List.mem_append_left _ (List.mem_append_left _ (List.mem_append_left _ (List.mem_append_left _ (List.mem_append_left _ (List.mem_append_left _ (List.mem_append_left _ (List.mem_append_left _ (List.mem_append_left _ (List.mem_of_getElem? (i := 1) rfl)))))))))))), rfl, by decide, rfl⟩
set_option maxRecDepth 100000 in
set_option maxHeartbeats 4000000 in
theorem c_X10_addRow (l : Launch) (dd : kDD) (ks : List Nat) (ad : Nat → Nat) (E : Nat → va_E) (e : eS) (M : mS) (nR nC nt nL nW nV nM : Nat) (cn nm mn me li rl : Nat → Nat) (on : Int32) (hO : cO dd ks ad E on) (hR : cR dd ks ad E M nR) (hC : cC dd ks ad E M nC mn me) (hT : cT dd ks ad E M nt cn nm) (hL : cL dd ks ad E M nL nW li) (hW : cW dd ks ad E M nW rl) (hV : cV dd ks ad E M nV) (hM : cM dd ks ad E M nM) (hB : cB M nR nC nt nL nW nV cn nm mn me li rl) (mI mR : Int32 → Nat → Nat) (hmI : ∀ o j, j < nt → mnt o (M.2.1 22) j nV 0 = nI (mI o j) ∧ mI o j < nt) (hmR : ∀ o j, j < nR → mnt o (M.2.1 23) j nV 0 = nI (mR o j) ∧ mR o j < nR) (hpk : ∀ r, r < nR → 1 ≤ M.2.1 5 r) (v s t a b c : Int32) : kCiX l yX10_addRow wsX10_addRow ({ frames := 8, cells := 12, slots := 170, locals := 171 } : Room) 12 170 dd [.ref (ad 0), .int v, .int s, .int t, .int a, .int b, .int c] (ks, ad, (cE dd E e)) (kQi (S := kT) (fun r z => (∃ j, (j < nL ∧ v = nI j ∧ ((s = 110 ∨ s = 108 ∨ s = 114 ∨ s = 116 ∨ s = 112 ∨ s = 118) ∧ (-9 ≤ t ∧ t ≤ 99) ∧ ¬ t = 0 ∧ (0 ≤ a ∧ a ≤ 99) ∧ (0 ≤ b ∧ b ≤ 99) ∧ 0 ≤ c ∧ c ≤ 99)) ∧ nW < 40 ∧ (0 ≤ mq (M.2.1 19) (M.2.1 20) (nI j) nW + t * msh s a b c ∧ mq (M.2.1 19) (M.2.1 20) (nI j) nW + t * msh s a b c ≤ 10000) ∧ (z.2.1 0 = ad 0 ∧ cAll dd (M.1, va_up (va_up M.2.1 19 (upd (M.2.1 19) nW (nI j))) 20 (upd (M.2.1 20) nW (t * msh s a b c)), M.2.2) nR nC nt nL (nW + 1) nV nM cn nm mn me li (va_up rl nW j) on z) ∧ r = mq (M.2.1 19) (M.2.1 20) (nI j) nW + t * msh s a b c)) (fun z => z.1) (fun z => z.2.1) (fun z => z.2.2)) (fun X9 u9 => ∃ e9, u9 = (ks, ad, cE dd E e9) ∧ ((X9 = "java/lang/IndexOutOfBoundsException" ∧ ¬ (∃ j, j < nL ∧ v = nI j)) ∨ (X9 = "java/lang/IllegalArgumentException" ∧ ((∃ j, j < nL ∧ v = nI j) ∧ ¬ ((s = 110 ∨ s = 108 ∨ s = 114 ∨ s = 116 ∨ s = 112 ∨ s = 118) ∧ (-9 ≤ t ∧ t ≤ 99) ∧ ¬ t = 0 ∧ (0 ≤ a ∧ a ≤ 99) ∧ (0 ≤ b ∧ b ≤ 99) ∧ 0 ≤ c ∧ c ≤ 99))) ∨ (X9 = "java/lang/IllegalStateException" ∧ (∃ j, (j < nL ∧ v = nI j ∧ ((s = 110 ∨ s = 108 ∨ s = 114 ∨ s = 116 ∨ s = 112 ∨ s = 118) ∧ (-9 ≤ t ∧ t ≤ 99) ∧ ¬ t = 0 ∧ (0 ≤ a ∧ a ≤ 99) ∧ (0 ≤ b ∧ b ≤ 99) ∧ 0 ≤ c ∧ c ≤ 99)) ∧ nW = 40)) ∨ (X9 = "java/lang/ArithmeticException" ∧ (∃ j, (j < nL ∧ v = nI j ∧ ((s = 110 ∨ s = 108 ∨ s = 114 ∨ s = 116 ∨ s = 112 ∨ s = 118) ∧ (-9 ≤ t ∧ t ≤ 99) ∧ ¬ t = 0 ∧ (0 ≤ a ∧ a ≤ 99) ∧ (0 ≤ b ∧ b ≤ 99) ∧ 0 ≤ c ∧ c ≤ 99)) ∧ nW < 40 ∧ ¬ (0 ≤ mq (M.2.1 19) (M.2.1 20) (nI j) nW + t * msh s a b c ∧ mq (M.2.1 19) (M.2.1 20) (nI j) nW + t * msh s a b c ≤ 10000))))) := by
  refine kMetiX (ws' := _) (cc := cX10_addRow) (maxL := 9) (rt := .int) (by decide) rfl (Nat.le_of_ble_eq_true rfl) (fun g X hr hRX hnL hRR hl0 hkn => ?_)
  show kv dd g 0 0 0 [(0, .ref (ad 0)), (1, .int v), (2, .int s), (3, .int t), (4, .int a), (5, .int b), (6, .int c)] [] ks ad (cE dd E e)
  have hT12 := hT.1
  have hR12 := hR.1
  have hL10 := hL.1
  have hV4 := hV.1
  have hM4 := hM.1
  have hC4 := hC.1
  have hW40 := hW.1
  obtain ⟨f20, f21, hf20, hf21, hff⟩ := hO.2.2.2.2
  refine kv_aload_n X 0 dX10_addRow_0 rfl rfl ?_
  refine kv_iload_n X 1 dX10_addRow_1 rfl rfl ?_
  refine kv_callvXV (ci := 13) (κ := 0) (r1 := (TX10, 3)) (As := [.int v]) [] X (c_X10_checkLine l dd ks ad E e M nR nC nt nL nW nV nM cn nm mn me li rl on hO hR hC hT hL hW hV hM hB v) hl0 (kCV_of X 1 gX10_addRow_X10_checkLine rfl rfl rfl (by decide +kernel) hRR ⟨(Nat.le_of_ble_eq_true rfl), (Nat.le_of_ble_eq_true rfl)⟩) hO.1.1 ((cE_ne (by omega)).trans hO.1.2) rfl hRX ⟨(Nat.le_of_ble_eq_true rfl), (Nat.le_of_ble_eq_true rfl)⟩ (fun _ _ h => ⟨e, h.2.1, (Or.inl (⟨h.1, h.2.2⟩))⟩) rfl rfl (Nat.le_of_ble_eq_true rfl) hRR ⟨(Nat.le_of_ble_eq_true rfl), (Nat.le_of_ble_eq_true rfl)⟩ dX10_addRow_2 (fun z hp => ?_)
  obtain ⟨rfl, j2, h2, rfl⟩ := hp
  refine kv_iload_n X 2 dX10_addRow_5 rfl rfl ?_
  refine kv_callvXS (As := [.int s]) [] X (c_X10_checkShape l dd ks ad (cE dd E e) s) hl0 (kCS_of X 1 gX10_addRow_X10_checkShape rfl rfl rfl (by decide +kernel) hRR ⟨(Nat.le_of_ble_eq_true rfl), (Nat.le_of_ble_eq_true rfl)⟩) hRX ⟨(Nat.le_of_ble_eq_true rfl), (Nat.le_of_ble_eq_true rfl)⟩ (fun _ _ h => ⟨e, h.2.1, (Or.inr (Or.inl (⟨h.1, ⟨⟨j2, h2, rfl⟩, fun q => h.2.2 q.1⟩⟩)))⟩) rfl rfl (Nat.le_of_ble_eq_true rfl) hRR ⟨(Nat.le_of_ble_eq_true rfl), (Nat.le_of_ble_eq_true rfl)⟩ dX10_addRow_6 (fun z hp => ?_)
  have h6 := hp
  refine kv_iload_n X 3 dX10_addRow_9 rfl rfl ?_
  refine kv_callvXS (As := [.int t]) [] X (c_X10_checkTimes l dd ks ad (cE dd E e) t) hl0 (kCS_of X 1 gX10_addRow_X10_checkTimes rfl rfl rfl (by decide +kernel) hRR ⟨(Nat.le_of_ble_eq_true rfl), (Nat.le_of_ble_eq_true rfl)⟩) hRX ⟨(Nat.le_of_ble_eq_true rfl), (Nat.le_of_ble_eq_true rfl)⟩ (fun _ _ h => ⟨e, h.2.1, (Or.inr (Or.inl (⟨h.1, ⟨⟨j2, h2, rfl⟩, fun q => h.2.2 ⟨q.2.1, q.2.2.1⟩⟩⟩)))⟩) rfl rfl (Nat.le_of_ble_eq_true rfl) hRR ⟨(Nat.le_of_ble_eq_true rfl), (Nat.le_of_ble_eq_true rfl)⟩ dX10_addRow_10 (fun z hp => ?_)
  have h10 := hp
  refine kv_iload X 4 dX10_addRow_13 rfl ?_
  refine kv_iconst (v := 0) X dX10_addRow_15 (by decide) ?_
  refine kv_bipush (v := 99) X dX10_addRow_16 (by decide) ?_
  refine kv_callvXS (As := [.int a, .int 0, .int 99]) [] X (c_X10_checkRange l dd ks ad (cE dd E e) a 0 99) hl0 (kCS_of X 3 gX10_addRow_X10_checkRange rfl rfl rfl (by decide +kernel) hRR ⟨(Nat.le_of_ble_eq_true rfl), (Nat.le_of_ble_eq_true rfl)⟩) hRX ⟨(Nat.le_of_ble_eq_true rfl), (Nat.le_of_ble_eq_true rfl)⟩ (fun _ _ h => ⟨e, h.2.1, (Or.inr (Or.inl (⟨h.1, ⟨⟨j2, h2, rfl⟩, fun q => h.2.2 q.2.2.2.1⟩⟩)))⟩) rfl rfl (Nat.le_of_ble_eq_true rfl) hRR ⟨(Nat.le_of_ble_eq_true rfl), (Nat.le_of_ble_eq_true rfl)⟩ dX10_addRow_18 (fun z hp => ?_)
  have h18 := hp
  refine kv_iload X 5 dX10_addRow_21 rfl ?_
  refine kv_iconst (v := 0) X dX10_addRow_23 (by decide) ?_
  refine kv_bipush (v := 99) X dX10_addRow_24 (by decide) ?_
  refine kv_callvXS (As := [.int b, .int 0, .int 99]) [] X (c_X10_checkRange l dd ks ad (cE dd E e) b 0 99) hl0 (kCS_of X 3 gX10_addRow_X10_checkRange rfl rfl rfl (by decide +kernel) hRR ⟨(Nat.le_of_ble_eq_true rfl), (Nat.le_of_ble_eq_true rfl)⟩) hRX ⟨(Nat.le_of_ble_eq_true rfl), (Nat.le_of_ble_eq_true rfl)⟩ (fun _ _ h => ⟨e, h.2.1, (Or.inr (Or.inl (⟨h.1, ⟨⟨j2, h2, rfl⟩, fun q => h.2.2 q.2.2.2.2.1⟩⟩)))⟩) rfl rfl (Nat.le_of_ble_eq_true rfl) hRR ⟨(Nat.le_of_ble_eq_true rfl), (Nat.le_of_ble_eq_true rfl)⟩ dX10_addRow_26 (fun z hp => ?_)
  have h26 := hp
  refine kv_iload X 6 dX10_addRow_29 rfl ?_
  refine kv_iconst (v := 0) X dX10_addRow_31 (by decide) ?_
  refine kv_bipush (v := 99) X dX10_addRow_32 (by decide) ?_
  refine kv_callvXS (As := [.int c, .int 0, .int 99]) [] X (c_X10_checkRange l dd ks ad (cE dd E e) c 0 99) hl0 (kCS_of X 3 gX10_addRow_X10_checkRange rfl rfl rfl (by decide +kernel) hRR ⟨(Nat.le_of_ble_eq_true rfl), (Nat.le_of_ble_eq_true rfl)⟩) hRX ⟨(Nat.le_of_ble_eq_true rfl), (Nat.le_of_ble_eq_true rfl)⟩ (fun _ _ h => ⟨e, h.2.1, (Or.inr (Or.inl (⟨h.1, ⟨⟨j2, h2, rfl⟩, fun q => h.2.2 q.2.2.2.2.2⟩⟩)))⟩) rfl rfl (Nat.le_of_ble_eq_true rfl) hRR ⟨(Nat.le_of_ble_eq_true rfl), (Nat.le_of_ble_eq_true rfl)⟩ dX10_addRow_34 (fun z hp => ?_)
  have h34 := hp
  refine kv_aload_n X 0 dX10_addRow_37 rfl rfl ?_
  refine kv_getfield X f_X10_addRow_10 (κ := 0) (fs := [.ref (ad 1), .ref (ad 2), .int on]) (v := .ref (ad 1)) hO.1.1 ((cE_ne (by omega)).trans hO.1.2) rfl dX10_addRow_38 ?_
  refine kv_getfield X f_X10_addRow_169 (κ := 1) (fs := [.ref (ad 3), .ref (ad 4), .ref (ad 5), .ref (ad 6), .ref (ad 7), .ref (ad 8), .ref (ad 9)]) (v := .ref (ad 7)) hO.2.1.1 ((cE_ne (by omega)).trans hO.2.1.2) rfl dX10_addRow_41 ?_
  obtain ⟨_, _, o44⟩ := kLs_obj (dd := dd) (ks := ks) (ad := ad) (E := (cE dd E e)) (kLs_cE hW.2.1 (by omega) (by omega) (fun i hi => by omega))
  refine kv_calliV (ci := 2) (κ := 7) (r1 := (TJx4a65c, 3)) (As := []) [] X (c_Jx4a65c_size_8abf5 l dd ks ad (cE dd E e) (7) (14) (nW) (fun k => 224 + k) 11 (kLs_cE hW.2.1 (by omega) (by omega) (fun i hi => by omega))) hl0 (kCV_of X 0 gX10_addRow_Jx4a65c_size_8abf5 rfl rfl rfl (by decide +kernel) hRR ⟨(Nat.le_of_ble_eq_true rfl), (Nat.le_of_ble_eq_true rfl)⟩) hW.2.1.1 o44 rfl rfl rfl (Nat.le_of_ble_eq_true rfl) hRR ⟨(Nat.le_of_ble_eq_true rfl), (Nat.le_of_ble_eq_true rfl)⟩ dX10_addRow_44 (fun r z hp => ?_)
  obtain rfl := hp
  refine kv_bipush (v := 40) X dX10_addRow_47 (by decide) ?_
  refine kv_callvXS (As := [.int (nI nW), .int 40]) [] X (c_X10_checkRoom l dd ks ad (cE dd E e) nW 40 (by omega) (by omega)) hl0 (kCS_of X 2 gX10_addRow_X10_checkRoom rfl rfl rfl (by decide +kernel) hRR ⟨(Nat.le_of_ble_eq_true rfl), (Nat.le_of_ble_eq_true rfl)⟩) hRX ⟨(Nat.le_of_ble_eq_true rfl), (Nat.le_of_ble_eq_true rfl)⟩ (fun _ _ h => ⟨e, h.2.1, (Or.inr (Or.inr (Or.inl (⟨h.1, ⟨j2, ⟨h2, rfl, ⟨h6, h10.1, h10.2, h18, h26, h34⟩⟩, by have := h.2.2; omega⟩⟩))))⟩) rfl rfl (Nat.le_of_ble_eq_true rfl) hRR ⟨(Nat.le_of_ble_eq_true rfl), (Nat.le_of_ble_eq_true rfl)⟩ dX10_addRow_49 (fun z hp => ?_)
  have h49 := hp
  refine kv_iload_n X 3 dX10_addRow_52 rfl rfl ?_
  refine kv_iload_n X 2 dX10_addRow_53 rfl rfl ?_
  refine kv_iload X 4 dX10_addRow_54 rfl ?_
  refine kv_iload X 5 dX10_addRow_56 rfl ?_
  refine kv_iload X 6 dX10_addRow_58 rfl ?_
  refine kv_calliS (As := [.int s, .int a, .int b, .int c]) [.int t] X (c_X10_sizeOf l dd ks ad (cE dd E e) s a b c h6) hl0 (kCS_of X 4 gX10_addRow_X10_sizeOf rfl rfl rfl (by decide +kernel) hRR ⟨(Nat.le_of_ble_eq_true rfl), (Nat.le_of_ble_eq_true rfl)⟩) rfl rfl (Nat.le_of_ble_eq_true rfl) hRR ⟨(Nat.le_of_ble_eq_true rfl), (Nat.le_of_ble_eq_true rfl)⟩ dX10_addRow_60 (fun r z hp => ?_)
  obtain rfl := hp
  refine kv_imul X dX10_addRow_63 ?_
  refine kv_istore (lv2 := [(7, .int (t * (msh s a b c))), (0, .ref (ad 0)), (1, .int (nI j2)), (2, .int s), (3, .int t), (4, .int a), (5, .int b), (6, .int c)]) X dX10_addRow_64 (by rw [hnL]; decide) rfl ?_
  refine kv_aload_n X 1 dX10_addRow_66 rfl rfl ?_
  refine kv_iload_n X 2 dX10_addRow_67 rfl rfl ?_
  refine kv_iload X 0 dX10_addRow_68 rfl ?_
  refine kv_calliXV (ci := 13) (κ := 0) (r1 := (TX10, 3)) (As := [.int (nI j2), .int (t * (msh s a b c))]) [] X (c_X10_changeQuantity l dd ks ad E e M nR nC nt nL nW nV nM cn nm mn me li rl on hO hR hC hT hL hW hV hM hB mI mR hmI hmR hpk j2 (t * (msh s a b c)) (by omega)) hl0 (kCV_of X 2 gX10_addRow_X10_changeQuantity rfl rfl rfl (by decide +kernel) hRR ⟨(Nat.le_of_ble_eq_true rfl), (Nat.le_of_ble_eq_true rfl)⟩) hO.1.1 ((cE_ne (by omega)).trans hO.1.2) rfl hRX ⟨(Nat.le_of_ble_eq_true rfl), (Nat.le_of_ble_eq_true rfl)⟩ (fun _ _ h => by obtain ⟨e9, hu, hh⟩ := h; exact ⟨e9, hu, (Or.inr (Or.inr (Or.inr (⟨hh.1, ⟨j2, ⟨h2, rfl, ⟨h6, h10.1, h10.2, h18, h26, h34⟩⟩, h49, hh.2⟩⟩))))⟩) rfl rfl (Nat.le_of_ble_eq_true rfl) hRR ⟨(Nat.le_of_ble_eq_true rfl), (Nat.le_of_ble_eq_true rfl)⟩ dX10_addRow_70 (fun r z hp => ?_)
  obtain ⟨h70, rfl⟩ := hp
  have hR := cR_frame (cAg_up (κ := 208 + j2) (by unfold sR; omega) (.inr (7, [.int (nI (li j2)), .int (mq (M.2.1 19) (M.2.1 20) (nI j2) nW + (t * msh s a b c))]))) hR
  have hC := cC_frame (cAg_up (κ := 208 + j2) (by unfold sC; omega) (.inr (7, [.int (nI (li j2)), .int (mq (M.2.1 19) (M.2.1 20) (nI j2) nW + (t * msh s a b c))]))) hC
  have hT := cT_frame (cAg_up (κ := 208 + j2) (by unfold sT; omega) (.inr (7, [.int (nI (li j2)), .int (mq (M.2.1 19) (M.2.1 20) (nI j2) nW + (t * msh s a b c))]))) hT
  have hW := cW_frame (cAg_up (κ := 208 + j2) (by unfold sW; omega) (.inr (7, [.int (nI (li j2)), .int (mq (M.2.1 19) (M.2.1 20) (nI j2) nW + (t * msh s a b c))]))) hW
  have hV := cV_frame (cAg_up (κ := 208 + j2) (by unfold sV; omega) (.inr (7, [.int (nI (li j2)), .int (mq (M.2.1 19) (M.2.1 20) (nI j2) nW + (t * msh s a b c))]))) hV
  have hM := cM_frame (cAg_up (κ := 208 + j2) (by unfold sM; omega) (.inr (7, [.int (nI (li j2)), .int (mq (M.2.1 19) (M.2.1 20) (nI j2) nW + (t * msh s a b c))]))) hM
  have hO := cO_up (κ := 208 + j2) hO (by omega) (.inr (7, [.int (nI (li j2)), .int (mq (M.2.1 19) (M.2.1 20) (nI j2) nW + (t * msh s a b c))]))
  have hL := cL_set (M2 := (M.1, va_up (va_up M.2.1 19 (upd (M.2.1 19) nW (nI j2))) 20 (upd (M.2.1 20) nW (t * msh s a b c)), M.2.2)) (nW2 := nW + 1) (x := mq (M.2.1 19) (M.2.1 20) (nI j2) nW + (t * msh s a b c)) hL h2 (by show mq (upd (M.2.1 19) nW (nI j2)) (upd (M.2.1 20) nW (t * msh s a b c)) (nI j2) (nW + 1) = _; rw [mq_add, if_pos rfl]) (fun i hi hne => by show mq (upd (M.2.1 19) nW (nI j2)) (upd (M.2.1 20) nW (t * msh s a b c)) (nI i) (nW + 1) = _; rw [mq_add, if_neg (fun q => hne ((nI_eq (by omega) (by omega)).mp q).symm), Int32.add_zero])
  refine kv_istore (lv2 := [(8, .int (mq (M.2.1 19) (M.2.1 20) (nI j2) nW + (t * msh s a b c))), (7, .int (t * (msh s a b c))), (0, .ref (ad 0)), (1, .int (nI j2)), (2, .int s), (3, .int t), (4, .int a), (5, .int b), (6, .int c)]) X dX10_addRow_73 (by rw [hnL]; decide) rfl ?_
  refine kv_aload_n X 2 dX10_addRow_75 rfl rfl ?_
  refine kv_getfield X f_X10_addRow_10 (κ := 0) (fs := [.ref (ad 1), .ref (ad 2), .int on]) (v := .ref (ad 1)) hO.1.1 ((cE_ne (by omega)).trans hO.1.2) rfl dX10_addRow_76 ?_
  refine kv_getfield X f_X10_addRow_169 (κ := 1) (fs := [.ref (ad 3), .ref (ad 4), .ref (ad 5), .ref (ad 6), .ref (ad 7), .ref (ad 8), .ref (ad 9)]) (v := .ref (ad 7)) hO.2.1.1 ((cE_ne (by omega)).trans hO.2.1.2) rfl dX10_addRow_79 ?_
  refine kv_newR X (224 + nW) (⟨RX8, TX8, tyX8, fun _ h => (List.mem_cons_of_mem _ (List.mem_append_left _ (List.mem_append_left _ (List.mem_append_left _ (List.mem_append_left _ (List.mem_append_left _ (List.mem_append_left _ (List.mem_append_right _ h)))))))), tyX8_ok, (List.mem_cons_of_mem _ (List.mem_append_left _ (List.mem_append_left _ (List.mem_append_left _ (List.mem_append_left _ (List.mem_append_left _ (List.mem_append_left _ (List.mem_append_left _ (List.mem_append_left _ (List.mem_append_left _ (List.mem_append_left _ (List.mem_of_getElem? (i := 2) rfl)))))))))))), (List.mem_cons_of_mem _ (List.mem_append_left _ (List.mem_append_left _ (List.mem_append_left _ (List.mem_append_left _ (List.mem_append_left _ (List.mem_append_left _ (List.mem_append_left _ (List.mem_append_left _ (List.mem_append_left _ (List.mem_append_left _ (List.mem_of_getElem? (i := 3) rfl)))))))))))), (List.mem_cons_of_mem _ (List.mem_append_left _ (List.mem_append_left _ (List.mem_append_left _ (List.mem_append_left _ (List.mem_append_left _ (List.mem_append_left _ (List.mem_append_left _ (List.mem_append_left _ (List.mem_append_left _ (List.mem_append_left _ (List.mem_of_getElem? (i := 4) rfl)))))))))))), rfl, by decide⟩ : kN wsX10_addRow RX10 180 11 [.int 0, .int 0] 2) hRR ⟨(Nat.le_of_ble_eq_true rfl), (Nat.le_of_ble_eq_true rfl)⟩ dX10_addRow_82 (fun ks82 ad82 E82 hs82 => ?_)
  refine kv_LS [(8, .int (mq (M.2.1 19) (M.2.1 20) (nI j2) nW + (t * msh s a b c))), (7, .int (t * (msh s a b c))), (0, .ref (ad82 0)), (1, .int (nI j2)), (2, .int s), (3, .int t), (4, .int a), (5, .int b), (6, .int c)] [.ref (ad82 (224 + nW)), .ref (ad82 7)] (by rw [hs82.2.1 (0) (by omega)]) (by rw [hs82.2.1 (7) (by omega)]) ?_
  refine kv_dup X dX10_addRow_85 rfl ?_
  refine kv_iload_n X 3 dX10_addRow_86 rfl rfl ?_
  refine kv_iload X 1 dX10_addRow_87 rfl ?_
  refine kv_callvI (κ := 224 + nW) (As := [.int (nI j2), .int (t * (msh s a b c))]) [.ref (ad82 (224 + nW)), .ref (ad82 7)] X (c_X8_init l dd ks82 ad82 E82 (224 + nW) (nI j2) (t * (msh s a b c)) ((hs82.1 _).mpr (Or.inr rfl)) hs82.2.2.2) hl0 (kCI_of X 2 gX10_addRow_X8_init (List.mem_cons_of_mem _ (List.mem_append_left _ (List.mem_append_left _ (List.mem_append_left _ (List.mem_append_left _ (List.mem_append_left _ (List.mem_append_left _ (List.mem_append_left _ (List.mem_append_left _ (List.mem_append_left _ (List.mem_append_left _ (List.mem_of_getElem? (i := 4) rfl)))))))))))) (List.mem_cons_of_mem _ (List.mem_append_left _ (List.mem_append_left _ (List.mem_append_left _ (List.mem_append_left _ (List.mem_append_left _ (List.mem_append_left _ (List.mem_append_left _ (List.mem_append_left _ (List.mem_append_left _ (List.mem_append_right _ (List.mem_append_right _ (List.mem_append_left _ (List.mem_of_getElem? (i := 18) rfl)))))))))))))) (List.mem_cons_of_mem _ (List.mem_append_left _ (List.mem_append_left _ (List.mem_append_left _ (List.mem_append_left _ (List.mem_append_left _ (List.mem_append_left _ (List.mem_append_left _ (List.mem_append_left _ (List.mem_append_left _ (List.mem_append_right _ (List.mem_append_right _ (List.mem_append_left _ (List.mem_of_getElem? (i := 19) rfl)))))))))))))) rfl rfl rfl rfl (by decide +kernel) hRR ⟨(Nat.le_of_ble_eq_true rfl), (Nat.le_of_ble_eq_true rfl)⟩) rfl rfl (Nat.le_of_ble_eq_true rfl) hRR ⟨(Nat.le_of_ble_eq_true rfl), (Nat.le_of_ble_eq_true rfl)⟩ dX10_addRow_89 (fun z hp => ?_)
  have st89 : cSt dd (fun j => j = 224 + nW) (fun j => j = 224 + nW) ks ad (va_up E (208 + j2) (.inr (7, [.int (nI (li j2)), .int (mq (M.2.1 19) (M.2.1 20) (nI j2) nW + (t * msh s a b c))]))) e ks82 ad82 (va_up E82 (224 + nW) (.inr (11, [.int (nI j2), .int (t * (msh s a b c))]))) := ⟨fun j hj => ⟨fun q => (hs82.1 j).mpr (Or.inl q), hs82.2.1 j hj⟩, fun j hj => (va_up_ne _ _ hj).trans (hs82.2.2.1 j hj)⟩
  refine kv_E (E2 := cE dd (va_up E82 (224 + nW) (.inr (11, [.int (nI j2), .int (t * (msh s a b c))]))) e) (cSt_E' st89 (fun j hj (q : j = 224 + nW) => by omega)) ?_
  have hO := cO_st st89 hO (fun j hj (q : j = 224 + nW) => by unfold vO at hj; omega) ⟨(show ¬ (0 = 224 + nW) by omega), (show ¬ (1 = 224 + nW) by omega), (show ¬ (2 = 224 + nW) by omega), (show ¬ (20 = 224 + nW) by omega), (show ¬ (21 = 224 + nW) by omega)⟩
  have hR := cR_st st89 hR (fun j hj => by unfold vR at hj; exact ⟨fun (q : j = 224 + nW) => by omega, fun (q : j = 224 + nW) => by omega⟩)
  have hC := cC_st st89 hC (fun j hj => by unfold vC at hj; exact ⟨fun (q : j = 224 + nW) => by omega, fun (q : j = 224 + nW) => by omega⟩)
  have hT := cT_st st89 hT (fun j hj => by unfold vT at hj; rcases hj with y | y | y | y | y | ⟨i, k, y1, y2, y3, y4⟩ <;> exact ⟨fun (q : j = 224 + nW) => by omega, fun (q : j = 224 + nW) => by omega⟩)
  have hL := cL_st st89 hL (fun j hj => by unfold vL at hj; exact ⟨fun (q : j = 224 + nW) => by omega, fun (q : j = 224 + nW) => by omega⟩)
  have hW := cW_st st89 hW (fun j hj => by unfold vW at hj; exact ⟨fun (q : j = 224 + nW) => by omega, fun (q : j = 224 + nW) => by omega⟩)
  have hV := cV_st st89 hV (fun j hj => by unfold vV at hj; exact ⟨fun (q : j = 224 + nW) => by omega, fun (q : j = 224 + nW) => by omega⟩)
  have hM := cM_st st89 hM (fun j hj => by unfold vM at hj; exact ⟨fun (q : j = 224 + nW) => by omega, fun (q : j = 224 + nW) => by omega⟩)
  obtain ⟨_, _, o92⟩ := kLs_obj (dd := dd) (ks := ks82) (ad := ad82) (E := (cE dd (va_up E82 (224 + nW) (.inr (11, [.int (nI j2), .int (t * (msh s a b c))]))) e)) (kLs_cE hW.2.1 (by omega) (by omega) (fun i hi => by omega))
  refine kv_calliV (ci := 2) (κ := 7) (r1 := (TJx4a65c, 3)) (As := [.ref (ad82 (224 + nW))]) [] X (c_Jx4a65c_add_9ea2d l dd ks82 ad82 (cE dd (va_up E82 (224 + nW) (.inr (11, [.int (nI j2), .int (t * (msh s a b c))]))) e) (7) (14) (nW) (fun k => 224 + k) 11 _ (kLs_cE hW.2.1 (by omega) (by omega) (fun i hi => by omega)) (by omega) ((hs82.1 _).mpr (Or.inr rfl)) (by omega) (by omega) ((cE_ne (by omega)).trans (va_up_self _ _ _))) hl0 (kCV_of X 1 gX10_addRow_Jx4a65c_add_9ea2d rfl rfl rfl (by decide +kernel) hRR ⟨(Nat.le_of_ble_eq_true rfl), (Nat.le_of_ble_eq_true rfl)⟩) hW.2.1.1 o92 rfl rfl rfl (Nat.le_of_ble_eq_true rfl) hRR ⟨(Nat.le_of_ble_eq_true rfl), (Nat.le_of_ble_eq_true rfl)⟩ dX10_addRow_92 (fun r za hp => ?_)
  obtain ⟨rfl, mc, hw⟩ := hp
  refine kv_LS [(8, .int (mq (M.2.1 19) (M.2.1 20) (nI j2) nW + (t * msh s a b c))), (7, .int (t * (msh s a b c))), (0, .ref (za.2.1 0)), (1, .int (nI j2)), (2, .int s), (3, .int t), (4, .int a), (5, .int b), (6, .int c)] [.int 1] (by rw [hw.2.1 (0) (by omega)]) rfl ?_
  have sw : cSt dd (fun j => j = 14) (fun j => j = 7 ∨ j = 14) ks82 ad82 (va_up E82 (224 + nW) (.inr (11, [.int (nI j2), .int (t * (msh s a b c))]))) e za.1 za.2.1 za.2.2 := ⟨fun j hj => ⟨fun q => (hw.1 j).mpr (Or.inl q), hw.2.1 j hj⟩, fun j hj => hw.2.2.1 j (fun q => hj (Or.inr q)) (fun q => hj (Or.inl q))⟩
  refine kv_E (E2 := cE dd za.2.2 e) (cSt_E' sw (fun j hj (q : j = 7 ∨ j = 14) => by omega)) ?_
  have hW1 := cW_st (cSt_id dd ks82 ad82 (va_up E82 (224 + nW) (.inr (11, [.int (nI j2), .int (t * (msh s a b c))]))) e) hW (fun _ _ => ⟨id, id⟩)
  have hW2 := cW_add (M2 := (M.1, va_up (va_up M.2.1 19 (upd (M.2.1 19) nW (nI j2))) 20 (upd (M.2.1 20) nW (t * msh s a b c)), M.2.2)) (rl2 := va_up rl nW j2) hW1 h49 ((hs82.1 _).mpr (Or.inr rfl)) ((cE_ne (by omega)).trans ((va_up_self _ _ _).trans (by show _ = Sum.inr (11, [Value.int (nI (va_up rl nW j2 nW)), Value.int (upd (M.2.1 20) nW (t * msh s a b c) nW)]); rw [va_up_self, upd_at]))) (fun i hi => by show _ = [Value.int (nI (va_up rl nW j2 i)), Value.int (upd (M.2.1 20) nW (t * msh s a b c) i)]; rw [va_up_ne _ _ (by omega), upd_ne (by omega)]) hw
  have hO := cO_st sw hO (fun j hj (q : j = 14) => by unfold vO at hj; omega) ⟨(show ¬ (0 = 7 ∨ 0 = 14) by omega), (show ¬ (1 = 7 ∨ 1 = 14) by omega), (show ¬ (2 = 7 ∨ 2 = 14) by omega), (show ¬ (20 = 7 ∨ 20 = 14) by omega), (show ¬ (21 = 7 ∨ 21 = 14) by omega)⟩
  have hR := cR_st sw hR (fun j hj => by unfold vR at hj; exact ⟨fun (q : j = 14) => by omega, fun (q : j = 7 ∨ j = 14) => by omega⟩)
  have hC := cC_st sw hC (fun j hj => by unfold vC at hj; exact ⟨fun (q : j = 14) => by omega, fun (q : j = 7 ∨ j = 14) => by omega⟩)
  have hT := cT_st sw hT (fun j hj => by unfold vT at hj; rcases hj with y | y | y | y | y | ⟨i, k, y1, y2, y3, y4⟩ <;> exact ⟨fun (q : j = 14) => by omega, fun (q : j = 7 ∨ j = 14) => by omega⟩)
  have hL := cL_st sw hL (fun j hj => by unfold vL at hj; exact ⟨fun (q : j = 14) => by omega, fun (q : j = 7 ∨ j = 14) => by omega⟩)
  have hW := hW2
  have hV := cV_st sw hV (fun j hj => by unfold vV at hj; exact ⟨fun (q : j = 14) => by omega, fun (q : j = 7 ∨ j = 14) => by omega⟩)
  have hM := cM_st sw hM (fun j hj => by unfold vM at hj; exact ⟨fun (q : j = 14) => by omega, fun (q : j = 7 ∨ j = 14) => by omega⟩)
  refine kv_pop X dX10_addRow_95 rfl ?_
  refine kv_iload X 0 dX10_addRow_96 rfl ?_
  exact kv_ireturn X hr (Nat.le_of_ble_eq_true rfl) (Nat.le_of_ble_eq_true rfl) ⟨(za.1, za.2.1, (cE dd za.2.2 e)), ⟨j2, ⟨h2, rfl, ⟨h6, h10.1, h10.2, h18, h26, h34⟩⟩, h49, h70, ⟨((hw.2.1 0 (by omega)).trans ((hs82.2.1 0 (by omega)).trans rfl)), _, _, rfl, hO, hR, hC, hT, hL, hW, hV, hM⟩, rfl⟩, rfl⟩ dX10_addRow_98
theorem f_X10_dropRow_10 : kF wsX10_dropRow RX10 10 13 0 := ⟨_, RX10, TX10, 3, fun _ h => (List.mem_cons_of_mem _ (List.mem_append_left _ (List.mem_append_left _ (List.mem_append_left _ (List.mem_append_left _ (List.mem_append_left _ (List.mem_append_left _ (List.mem_append_right _ h)))))))), (List.mem_cons_of_mem _ (List.mem_append_left _ (List.mem_append_left _ (List.mem_append_left _ (List.mem_append_left _ (List.mem_append_left _ (List.mem_append_left _ (List.mem_append_left _ (List.mem_append_left _ (List.mem_of_getElem? (i := 0) rfl)))))))))), rfl, by decide, rfl⟩
theorem f_X10_dropRow_169 : kF wsX10_dropRow RX10 169 9 4 := ⟨_, RX6, TX6, 7, fun _ h => (List.mem_cons_of_mem _ (List.mem_append_left _ (List.mem_append_left _ (List.mem_append_left _ (List.mem_append_left _ (List.mem_append_left _ (List.mem_append_right _ h))))))), (List.mem_cons_of_mem _ (List.mem_append_left _ (List.mem_append_left _ (List.mem_append_left _ (List.mem_append_left _ (List.mem_append_left _ (List.mem_append_left _ (List.mem_append_left _ (List.mem_append_left _ (List.mem_of_getElem? (i := 1) rfl)))))))))), rfl, by decide, rfl⟩
theorem f_X10_dropRow_187 : kF wsX10_dropRow RX10 187 11 0 := ⟨_, RX8, TX8, 2, fun _ h => (List.mem_cons_of_mem _ (List.mem_append_left _ (List.mem_append_left _ (List.mem_append_left _ (List.mem_append_left _ (List.mem_append_right _ h)))))), (List.mem_cons_of_mem _ (List.mem_append_left _ (List.mem_append_left _ (List.mem_append_left _ (List.mem_append_left _ (List.mem_append_left _ (List.mem_append_left _ (List.mem_append_left _ (List.mem_append_left _ (List.mem_of_getElem? (i := 3) rfl)))))))))), rfl, by decide, rfl⟩
theorem f_X10_dropRow_190 : kF wsX10_dropRow RX10 190 11 1 := ⟨_, RX8, TX8, 2, fun _ h => (List.mem_cons_of_mem _ (List.mem_append_left _ (List.mem_append_left _ (List.mem_append_left _ (List.mem_append_left _ (List.mem_append_right _ h)))))), (List.mem_cons_of_mem _ (List.mem_append_left _ (List.mem_append_left _ (List.mem_append_left _ (List.mem_append_left _ (List.mem_append_left _ (List.mem_append_left _ (List.mem_append_left _ (List.mem_append_left _ (List.mem_of_getElem? (i := 4) rfl)))))))))), rfl, by decide, rfl⟩
set_option maxRecDepth 100000 in
set_option maxHeartbeats 4000000 in
theorem c_X10_dropRow (l : Launch) (dd : kDD) (ks : List Nat) (ad : Nat → Nat) (E : Nat → va_E) (e : eS) (M : mS) (nR nC nt nL nW nV nM : Nat) (cn nm mn me li rl : Nat → Nat) (on : Int32) (hO : cO dd ks ad E on) (hR : cR dd ks ad E M nR) (hC : cC dd ks ad E M nC mn me) (hT : cT dd ks ad E M nt cn nm) (hL : cL dd ks ad E M nL nW li) (hW : cW dd ks ad E M nW rl) (hV : cV dd ks ad E M nV) (hM : cM dd ks ad E M nM) (hB : cB M nR nC nt nL nW nV cn nm mn me li rl) (mI mR : Int32 → Nat → Nat) (hmI : ∀ o j, j < nt → mnt o (M.2.1 22) j nV 0 = nI (mI o j) ∧ mI o j < nt) (hmR : ∀ o j, j < nR → mnt o (M.2.1 23) j nV 0 = nI (mR o j) ∧ mR o j < nR) (hpk : ∀ r, r < nR → 1 ≤ M.2.1 5 r) (v : Int32) : kCiX l yX10_dropRow wsX10_dropRow ({ frames := 7, cells := 2, slots := 12, locals := 124 } : Room) 2 12 dd [.ref (ad 0), .int v] (ks, ad, (cE dd E e)) (kQi (S := kT) (fun r z => ∃ j, (j < nW ∧ v = nI j) ∧ (0 ≤ mq (M.2.1 19) (M.2.1 20) (M.2.1 19 j) nW - M.2.1 20 j ∧ mq (M.2.1 19) (M.2.1 20) (M.2.1 19 j) nW - M.2.1 20 j ≤ 10000) ∧ (z.2.1 0 = ad 0 ∧ cAll dd (M.1, va_up (va_up M.2.1 19 (mshift (M.2.1 19) j (nW - 1))) 20 (mshift (M.2.1 20) j (nW - 1)), M.2.2) nR nC nt nL (nW - 1) nV nM cn nm mn me li (fun k => rl (rsh j k)) on z) ∧ r = mq (M.2.1 19) (M.2.1 20) (M.2.1 19 j) nW - M.2.1 20 j) (fun z => z.1) (fun z => z.2.1) (fun z => z.2.2)) (fun X9 u9 => ∃ e9, u9 = (ks, ad, cE dd E e9) ∧ ((X9 = "java/lang/IndexOutOfBoundsException" ∧ ¬ (∃ j, j < nW ∧ v = nI j)) ∨ (X9 = "java/lang/ArithmeticException" ∧ (∃ j, (j < nW ∧ v = nI j) ∧ ¬ (0 ≤ mq (M.2.1 19) (M.2.1 20) (M.2.1 19 j) nW - M.2.1 20 j ∧ mq (M.2.1 19) (M.2.1 20) (M.2.1 19 j) nW - M.2.1 20 j ≤ 10000))))) := by
  refine kMetiX (ws' := _) (cc := cX10_dropRow) (maxL := 4) (rt := .int) (by decide) rfl (Nat.le_of_ble_eq_true rfl) (fun g X hr hRX hnL hRR hl0 hkn => ?_)
  show kv dd g 0 0 0 [(0, .ref (ad 0)), (1, .int v)] [] ks ad (cE dd E e)
  have hT12 := hT.1
  have hR12 := hR.1
  have hL10 := hL.1
  have hV4 := hV.1
  have hM4 := hM.1
  have hC4 := hC.1
  have hW40 := hW.1
  obtain ⟨f20, f21, hf20, hf21, hff⟩ := hO.2.2.2.2
  refine kv_aload_n X 0 dX10_dropRow_0 rfl rfl ?_
  refine kv_iload_n X 1 dX10_dropRow_1 rfl rfl ?_
  refine kv_callvXV (ci := 13) (κ := 0) (r1 := (TX10, 3)) (As := [.int v]) [] X (c_X10_checkRow l dd ks ad E e M nR nC nt nL nW nV nM cn nm mn me li rl on hO hR hC hT hL hW hV hM hB v) hl0 (kCV_of X 1 gX10_dropRow_X10_checkRow rfl rfl rfl (by decide +kernel) hRR ⟨(Nat.le_of_ble_eq_true rfl), (Nat.le_of_ble_eq_true rfl)⟩) hO.1.1 ((cE_ne (by omega)).trans hO.1.2) rfl hRX ⟨(Nat.le_of_ble_eq_true rfl), (Nat.le_of_ble_eq_true rfl)⟩ (fun _ _ h => ⟨e, h.2.1, (Or.inl (⟨h.1, h.2.2⟩))⟩) rfl rfl (Nat.le_of_ble_eq_true rfl) hRR ⟨(Nat.le_of_ble_eq_true rfl), (Nat.le_of_ble_eq_true rfl)⟩ dX10_dropRow_2 (fun z hp => ?_)
  obtain ⟨rfl, j2, h2, rfl⟩ := hp
  refine kv_aload_n X 0 dX10_dropRow_5 rfl rfl ?_
  refine kv_getfield X f_X10_dropRow_10 (κ := 0) (fs := [.ref (ad 1), .ref (ad 2), .int on]) (v := .ref (ad 1)) hO.1.1 ((cE_ne (by omega)).trans hO.1.2) rfl dX10_dropRow_6 ?_
  refine kv_getfield X f_X10_dropRow_169 (κ := 1) (fs := [.ref (ad 3), .ref (ad 4), .ref (ad 5), .ref (ad 6), .ref (ad 7), .ref (ad 8), .ref (ad 9)]) (v := .ref (ad 7)) hO.2.1.1 ((cE_ne (by omega)).trans hO.2.1.2) rfl dX10_dropRow_9 ?_
  refine kv_iload_n X 1 dX10_dropRow_12 rfl rfl ?_
  obtain ⟨_, _, o13⟩ := kLs_obj (dd := dd) (ks := ks) (ad := ad) (E := (cE dd E e)) (kLs_cE hW.2.1 (by omega) (by omega) (fun i hi => by omega))
  refine kv_callqV (ci := 2) (κ := 7) (r1 := (TJx4a65c, 3)) (As := [.int (nI j2)]) [] X (c_Jx4a65c_get_915e3 l dd ks ad (cE dd E e) (7) (14) (nW) (fun k => 224 + k) 11 (kLs_cE hW.2.1 (by omega) (by omega) (fun i hi => by omega)) j2 (by omega)) hl0 (kCV_of X 1 gX10_dropRow_Jx4a65c_get_915e3 rfl rfl rfl (by decide +kernel) hRR ⟨(Nat.le_of_ble_eq_true rfl), (Nat.le_of_ble_eq_true rfl)⟩) hW.2.1.1 o13 rfl rfl rfl (Nat.le_of_ble_eq_true rfl) hRR ⟨(Nat.le_of_ble_eq_true rfl), (Nat.le_of_ble_eq_true rfl)⟩ dX10_dropRow_13 (fun r z hp => ?_)
  obtain rfl := hp
  refine kv_topg (.ref (ad (224 + j2))) rfl ?_
  refine kv_cast X (κ := 224 + j2) (ci := 11) (fs := [.int (nI (rl j2)), .int (M.2.1 20 j2)]) (r := (RX8, TX8, 2)) (List.mem_cons_of_mem _ (List.mem_append_left _ (List.mem_append_left _ (List.mem_append_left _ (List.mem_append_left _ (List.mem_append_left _ (List.mem_append_left _ (List.mem_append_left _ (List.mem_append_left _ (List.mem_of_getElem? (i := 2) rfl)))))))))) (hW.2.2 j2 (by omega)).1 ((cE_ne (by omega)).trans (hW.2.2 j2 (by omega)).2) rfl dX10_dropRow_16 ?_
  have hrl := hB.2.2.2.1 j2 h2
  refine kv_astore_n (lv2 := [(2, .ref (ad (224 + j2))), (0, .ref (ad 0)), (1, .int (nI j2))]) X dX10_dropRow_19 rfl (by rw [hnL]; decide) rfl ?_
  refine kv_aload_n X 1 dX10_dropRow_20 rfl rfl ?_
  refine kv_aload_n X 0 dX10_dropRow_21 rfl rfl ?_
  refine kv_getfield X f_X10_dropRow_187 (κ := 224 + j2) (fs := [.int (nI (rl j2)), .int (M.2.1 20 j2)]) (v := .int (nI (rl j2))) (hW.2.2 j2 (by omega)).1 ((cE_ne (by omega)).trans (hW.2.2 j2 (by omega)).2) rfl dX10_dropRow_22 ?_
  refine kv_aload_n X 0 dX10_dropRow_25 rfl rfl ?_
  refine kv_getfield X f_X10_dropRow_190 (κ := 224 + j2) (fs := [.int (nI (rl j2)), .int (M.2.1 20 j2)]) (v := .int (M.2.1 20 j2)) (hW.2.2 j2 (by omega)).1 ((cE_ne (by omega)).trans (hW.2.2 j2 (by omega)).2) rfl dX10_dropRow_26 ?_
  refine kv_ineg X dX10_dropRow_29 ?_
  refine kv_calliXV (ci := 13) (κ := 0) (r1 := (TX10, 3)) (As := [.int (nI (rl j2)), .int (-(M.2.1 20 j2))]) [] X (c_X10_changeQuantity l dd ks ad E e M nR nC nt nL nW nV nM cn nm mn me li rl on hO hR hC hT hL hW hV hM hB mI mR hmI hmR hpk (rl j2) (-(M.2.1 20 j2)) hrl.1) hl0 (kCV_of X 2 gX10_dropRow_X10_changeQuantity rfl rfl rfl (by decide +kernel) hRR ⟨(Nat.le_of_ble_eq_true rfl), (Nat.le_of_ble_eq_true rfl)⟩) hO.1.1 ((cE_ne (by omega)).trans hO.1.2) rfl hRX ⟨(Nat.le_of_ble_eq_true rfl), (Nat.le_of_ble_eq_true rfl)⟩ (fun _ _ h => by obtain ⟨e9, hu, hh⟩ := h; exact ⟨e9, hu, Or.inr ⟨hh.1, j2, ⟨h2, rfl⟩, by have h9 := hh.2; rw [(show mq (M.2.1 19) (M.2.1 20) (nI (rl j2)) nW + -(M.2.1 20 j2) = mq (M.2.1 19) (M.2.1 20) (M.2.1 19 j2) nW - M.2.1 20 j2 by rw [hrl.2]; exact (Int32.sub_eq_add_neg _ _).symm)] at h9; exact h9⟩⟩) rfl rfl (Nat.le_of_ble_eq_true rfl) hRR ⟨(Nat.le_of_ble_eq_true rfl), (Nat.le_of_ble_eq_true rfl)⟩ dX10_dropRow_30 (fun r z hp => ?_)
  obtain ⟨h30, rfl⟩ := hp
  have hR := cR_frame (cAg_up (κ := 208 + (rl j2)) (by unfold sR; omega) (.inr (7, [.int (nI (li (rl j2))), .int (mq (M.2.1 19) (M.2.1 20) (nI (rl j2)) nW + -(M.2.1 20 j2))]))) hR
  have hC := cC_frame (cAg_up (κ := 208 + (rl j2)) (by unfold sC; omega) (.inr (7, [.int (nI (li (rl j2))), .int (mq (M.2.1 19) (M.2.1 20) (nI (rl j2)) nW + -(M.2.1 20 j2))]))) hC
  have hT := cT_frame (cAg_up (κ := 208 + (rl j2)) (by unfold sT; omega) (.inr (7, [.int (nI (li (rl j2))), .int (mq (M.2.1 19) (M.2.1 20) (nI (rl j2)) nW + -(M.2.1 20 j2))]))) hT
  have hW := cW_frame (cAg_up (κ := 208 + (rl j2)) (by unfold sW; omega) (.inr (7, [.int (nI (li (rl j2))), .int (mq (M.2.1 19) (M.2.1 20) (nI (rl j2)) nW + -(M.2.1 20 j2))]))) hW
  have hV := cV_frame (cAg_up (κ := 208 + (rl j2)) (by unfold sV; omega) (.inr (7, [.int (nI (li (rl j2))), .int (mq (M.2.1 19) (M.2.1 20) (nI (rl j2)) nW + -(M.2.1 20 j2))]))) hV
  have hM := cM_frame (cAg_up (κ := 208 + (rl j2)) (by unfold sM; omega) (.inr (7, [.int (nI (li (rl j2))), .int (mq (M.2.1 19) (M.2.1 20) (nI (rl j2)) nW + -(M.2.1 20 j2))]))) hM
  have hO := cO_up (κ := 208 + (rl j2)) hO (by omega) (.inr (7, [.int (nI (li (rl j2))), .int (mq (M.2.1 19) (M.2.1 20) (nI (rl j2)) nW + -(M.2.1 20 j2))]))
  have hL := cL_set (M2 := (M.1, va_up (va_up M.2.1 19 (mshift (M.2.1 19) j2 (nW - 1))) 20 (mshift (M.2.1 20) j2 (nW - 1)), M.2.2)) (nW2 := nW - 1) (x := mq (M.2.1 19) (M.2.1 20) (nI (rl j2)) nW + -(M.2.1 20 j2)) hL hrl.1 (by show mq (mshift (M.2.1 19) j2 (nW - 1)) (mshift (M.2.1 20) j2 (nW - 1)) (nI (rl j2)) (nW - 1) = _; rw [mq_rem (nW - 1) (by omega), show nW - 1 + 1 = nW by omega, if_pos hrl.2]; first | done | exact Int32.sub_eq_add_neg _ _) (fun i hi hne => by show mq (mshift (M.2.1 19) j2 (nW - 1)) (mshift (M.2.1 20) j2 (nW - 1)) (nI i) (nW - 1) = _; rw [mq_rem (nW - 1) (by omega), show nW - 1 + 1 = nW by omega, if_neg (fun q => hne ((nI_eq (by omega) (by omega)).mp (q.symm.trans hrl.2)))]; exact Int32.sub_zero _)
  refine kv_lv (lv2 := [(0, .ref (ad 0)), (1, .int (nI j2))]) [1, 2] rfl ?_
  refine kv_istore_n (lv2 := [(3, .int (mq (M.2.1 19) (M.2.1 20) (nI (rl j2)) nW + -(M.2.1 20 j2))), (0, .ref (ad 0)), (1, .int (nI j2))]) X dX10_dropRow_33 rfl (by rw [hnL]; decide) rfl ?_
  refine kv_aload_n X 1 dX10_dropRow_34 rfl rfl ?_
  refine kv_getfield X f_X10_dropRow_10 (κ := 0) (fs := [.ref (ad 1), .ref (ad 2), .int on]) (v := .ref (ad 1)) hO.1.1 ((cE_ne (by omega)).trans hO.1.2) rfl dX10_dropRow_35 ?_
  refine kv_getfield X f_X10_dropRow_169 (κ := 1) (fs := [.ref (ad 3), .ref (ad 4), .ref (ad 5), .ref (ad 6), .ref (ad 7), .ref (ad 8), .ref (ad 9)]) (v := .ref (ad 7)) hO.2.1.1 ((cE_ne (by omega)).trans hO.2.1.2) rfl dX10_dropRow_38 ?_
  refine kv_iload_n X 2 dX10_dropRow_41 rfl rfl ?_
  obtain ⟨_, _, o42⟩ := kLs_obj (dd := dd) (ks := ks) (ad := ad) (E := (cE dd (va_up E (208 + (rl j2)) (.inr (7, [.int (nI (li (rl j2))), .int (mq (M.2.1 19) (M.2.1 20) (nI (rl j2)) nW + -(M.2.1 20 j2))]))) e)) (kLs_cE hW.2.1 (by omega) (by omega) (fun i hi => by omega))
  refine kv_callqV (ci := 2) (κ := 7) (r1 := (TJx4a65c, 3)) (As := [.int (nI j2)]) [] X (c_Jx4a65c_remove_915e3 l dd ks ad (cE dd (va_up E (208 + (rl j2)) (.inr (7, [.int (nI (li (rl j2))), .int (mq (M.2.1 19) (M.2.1 20) (nI (rl j2)) nW + -(M.2.1 20 j2))]))) e) 7 14 nW (fun k => 224 + k) 11 j2 (kLs_cE hW.2.1 (by omega) (by omega) (fun i hi => by omega)) h2) hl0 (kCV_of X 1 gX10_dropRow_Jx4a65c_remove_915e3 rfl rfl rfl (by decide +kernel) hRR ⟨(Nat.le_of_ble_eq_true rfl), (Nat.le_of_ble_eq_true rfl)⟩) hW.2.1.1 o42 rfl rfl rfl (Nat.le_of_ble_eq_true rfl) hRR ⟨(Nat.le_of_ble_eq_true rfl), (Nat.le_of_ble_eq_true rfl)⟩ dX10_dropRow_42 (fun r z hp => ?_)
  obtain ⟨rfl, ⟨mc, hw⟩, hz1, hz2⟩ := hp
  refine kv_pop X dX10_dropRow_45 rfl ?_
  have hk2 : ∀ k, k ∈ (z.1.filter (fun k => k != 224 + (nW - 1))) ↔ k ∈ z.1 ∧ k ≠ 224 + (nW - 1) := fun k => by rw [List.mem_filter]; simp
  have k1 : ∀ k, k ∈ ks → k ∈ z.1 := fun k q => (hw.1 k).mpr (Or.inl q)
  have hW2 := cW_rem (ks2 := (z.1.filter (fun k => k != 224 + (nW - 1)))) (cW_st (cSt_id dd ks ad (va_up E (208 + (rl j2)) (.inr (7, [.int (nI (li (rl j2))), .int (mq (M.2.1 19) (M.2.1 20) (nI (rl j2)) nW + -(M.2.1 20 j2))]))) e) hW (fun _ _ => ⟨id, id⟩)) h2 hw hk2
  have hw1 := hW2.1
  refine kv_nodup (fun hnd => kv_ren (ks2 := (z.1.filter (fun k => k != 224 + (nW - 1)))) (ad2 := (fun k => z.2.1 (rky j2 (nW - 1) k))) (E2 := (fun k => z.2.2 (rky j2 (nW - 1) k))) (rky j2 (nW - 1)) (hnd.filter _) (fun k hk => ⟨?_, rfl, rfl⟩) (fun a b ha hb h => rky_inj (by omega) a b ((hk2 a).mp ha).2 ((hk2 b).mp hb).2 h) ?_)
  · by_cases c : 224 ≤ k ∧ k < 224 + (nW - 1)
    · have q9 := rsh_le (j := j2) (k := k - 224)
      have q8 := (hW.2.2 (rsh j2 (k - 224)) (by omega)).1
      rw [show rky j2 (nW - 1) k = 224 + rsh j2 (k - 224) from by unfold rky; rw [if_pos c]]; exact k1 _ q8
    · rw [rky_ne c]; exact ((hk2 k).mp hk).1
  have rk0 : rky j2 (nW - 1) 0 = 0 := rky_ne (by omega)
  have ad0 : (fun k => z.2.1 (rky j2 (nW - 1) k)) 0 = ad 0 := by show z.2.1 (rky j2 (nW - 1) 0) = _; rw [rk0]; exact hw.2.1 0 (by omega)
  refine kv_LS [(3, .int (mq (M.2.1 19) (M.2.1 20) (nI (rl j2)) nW + -(M.2.1 20 j2))), (0, .ref ((fun k => z.2.1 (rky j2 (nW - 1) k)) 0)), (1, .int (nI j2))] [] (by rw [ad0]) rfl ?_
  have sw : cSt dd (fun j => (224 ≤ j ∧ j < 264) ∨ j = 14) (fun j => (224 ≤ j ∧ j < 264) ∨ j = 7 ∨ j = 14) ks ad (va_up E (208 + (rl j2)) (.inr (7, [.int (nI (li (rl j2))), .int (mq (M.2.1 19) (M.2.1 20) (nI (rl j2)) nW + -(M.2.1 20 j2))]))) e (z.1.filter (fun k => k != 224 + (nW - 1))) (fun k => z.2.1 (rky j2 (nW - 1) k)) (fun k => z.2.2 (rky j2 (nW - 1) k)) := by
    refine ⟨fun j hj => ?_, fun j hj => ?_⟩
    · have q1 : ¬ ((224 ≤ j ∧ j < 264) ∨ j = 14) := hj
      refine ⟨fun q => (hk2 j).mpr ⟨k1 j q, by omega⟩, ?_⟩
      show z.2.1 (rky j2 (nW - 1) j) = _
      rw [rky_ne (by omega)]; exact hw.2.1 j (by omega)
    · have q1 : ¬ ((224 ≤ j ∧ j < 264) ∨ j = 7 ∨ j = 14) := hj
      show z.2.2 (rky j2 (nW - 1) j) = _
      rw [rky_ne (by omega)]; exact hw.2.2.1 j (by omega) (by omega)
  refine kv_E (E2 := cE dd (fun k => z.2.2 (rky j2 (nW - 1) k)) e) (cSt_E' sw (fun j hj (q : (224 ≤ j ∧ j < 264) ∨ j = 7 ∨ j = 14) => by omega)) ?_
  have hO := cO_st sw hO (fun j hj (q : (224 ≤ j ∧ j < 264) ∨ j = 14) => by unfold vO at hj; omega) ⟨(show ¬ ((224 ≤ 0 ∧ 0 < 264) ∨ 0 = 7 ∨ 0 = 14) by omega), (show ¬ ((224 ≤ 1 ∧ 1 < 264) ∨ 1 = 7 ∨ 1 = 14) by omega), (show ¬ ((224 ≤ 2 ∧ 2 < 264) ∨ 2 = 7 ∨ 2 = 14) by omega), (show ¬ ((224 ≤ 20 ∧ 20 < 264) ∨ 20 = 7 ∨ 20 = 14) by omega), (show ¬ ((224 ≤ 21 ∧ 21 < 264) ∨ 21 = 7 ∨ 21 = 14) by omega)⟩
  have hR := cR_st sw hR (fun j hj => by unfold vR at hj; exact ⟨fun (q : (224 ≤ j ∧ j < 264) ∨ j = 14) => by omega, fun (q : (224 ≤ j ∧ j < 264) ∨ j = 7 ∨ j = 14) => by omega⟩)
  have hC := cC_st sw hC (fun j hj => by unfold vC at hj; exact ⟨fun (q : (224 ≤ j ∧ j < 264) ∨ j = 14) => by omega, fun (q : (224 ≤ j ∧ j < 264) ∨ j = 7 ∨ j = 14) => by omega⟩)
  have hT := cT_st sw hT (fun j hj => by unfold vT at hj; rcases hj with y | y | y | y | y | ⟨i, k, y1, y2, y3, y4⟩ <;> exact ⟨fun (q : (224 ≤ j ∧ j < 264) ∨ j = 14) => by omega, fun (q : (224 ≤ j ∧ j < 264) ∨ j = 7 ∨ j = 14) => by omega⟩)
  have hL := cL_st sw hL (fun j hj => by unfold vL at hj; exact ⟨fun (q : (224 ≤ j ∧ j < 264) ∨ j = 14) => by omega, fun (q : (224 ≤ j ∧ j < 264) ∨ j = 7 ∨ j = 14) => by omega⟩)
  have hV := cV_st sw hV (fun j hj => by unfold vV at hj; exact ⟨fun (q : (224 ≤ j ∧ j < 264) ∨ j = 14) => by omega, fun (q : (224 ≤ j ∧ j < 264) ∨ j = 7 ∨ j = 14) => by omega⟩)
  have hM := cM_st sw hM (fun j hj => by unfold vM at hj; exact ⟨fun (q : (224 ≤ j ∧ j < 264) ∨ j = 14) => by omega, fun (q : (224 ≤ j ∧ j < 264) ∨ j = 7 ∨ j = 14) => by omega⟩)
  refine kv_iload_n X 0 dX10_dropRow_46 rfl rfl ?_
  exact kv_ireturn X hr (Nat.le_of_ble_eq_true rfl) (Nat.le_of_ble_eq_true rfl) ⟨((z.1.filter (fun k => k != 224 + (nW - 1))), (fun k => z.2.1 (rky j2 (nW - 1) k)), (cE dd (fun k => z.2.2 (rky j2 (nW - 1) k)) e)), ⟨j2, ⟨h2, rfl⟩, (by have h9 := h30; rw [(show mq (M.2.1 19) (M.2.1 20) (nI (rl j2)) nW + -(M.2.1 20 j2) = mq (M.2.1 19) (M.2.1 20) (M.2.1 19 j2) nW - M.2.1 20 j2 by rw [hrl.2]; exact (Int32.sub_eq_add_neg _ _).symm)] at h9; exact h9), ⟨ad0, _, _, rfl, hO, hR, hC, hT, hL, hW2, hV, hM⟩, (show mq (M.2.1 19) (M.2.1 20) (nI (rl j2)) nW + -(M.2.1 20 j2) = mq (M.2.1 19) (M.2.1 20) (M.2.1 19 j2) nW - M.2.1 20 j2 by rw [hrl.2]; exact (Int32.sub_eq_add_neg _ _).symm)⟩, rfl⟩ dX10_dropRow_47

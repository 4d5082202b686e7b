/-! THE CLASS. Keys: 0 the object, 1 its plan, 2 its estimate, 3..9 the plan's lists and 10..16 their rows, 17..24 the estimate's rows, 25.. and 37.. the rows of ownNeeds and needs, 64.. resources, 80.. crews (84.., 88.. their rows), 96.. items, 112.. their lists, 128.. those lists' rows, 144.. components, 208.. lines, 224.. rows, 272.. variants (276.., 280.. their rows), 288.. mark-ups. M: the state, as the reference has it -/
abbrev eS : Type := (Nat → Nat → Int32) × (Nat → Nat → Int64)
def eLen (k : Nat) : Nat := if k = 24 then 4 else 12
/-- E with the estimate's rows as e has them -/
def cE (dd : kDD) (E : Nat → va_E) (e : eS) : Nat → va_E := fun k => if 17 ≤ k ∧ k ≤ 19 then kI dd 12 (e.1 k) else if 22 ≤ k ∧ k ≤ 48 then kJ dd (eLen k) (e.2 k) else E k
def cO (dd : kDD) (ks : List Nat) (ad : Nat → Nat) (E : Nat → va_E) (on : Int32) : Prop := (0 ∈ ks ∧ E 0 = .inr (13, [.ref (ad 1), .ref (ad 2), .int on])) ∧ (1 ∈ ks ∧ E 1 = .inr (9, [.ref (ad 3), .ref (ad 4), .ref (ad 5), .ref (ad 6), .ref (ad 7), .ref (ad 8), .ref (ad 9)])) ∧ (2 ∈ ks ∧ E 2 = .inr (5, [.ref (ad 1), .ref (ad 17), .ref (ad 18), .ref (ad 19), .ref (ad 20), .ref (ad 21), .ref (ad 22), .ref (ad 23), .ref (ad 24)])) ∧ (∀ k, 17 ≤ k → k ≤ 48 → k ∈ ks) ∧ ∃ f20 f21, E 20 = kJJ dd 12 f20 ∧ E 21 = kJJ dd 12 f21 ∧ ∀ i, i < 12 → f20 i = some (ad (25 + i)) ∧ f21 i = some (ad (37 + i))
def cR (dd : kDD) (ks : List Nat) (ad : Nat → Nat) (E : Nat → va_E) (M : mS) (nR : Nat) : Prop := nR ≤ 12 ∧ kLs dd ks ad E 3 10 nR (fun r => 64 + r) 10 ∧ ∀ r, r < nR → 64 + r ∈ ks ∧ E (64 + r) = .inr (10, [.int (M.2.1 2 r), .int (M.2.1 3 r), .int (M.2.1 4 r), .int (M.2.1 5 r)])
def cC (dd : kDD) (ks : List Nat) (ad : Nat → Nat) (E : Nat → va_E) (M : mS) (nC : Nat) (mn me : Nat → Nat) : Prop := nC ≤ 4 ∧ kLs dd ks ad E 4 11 nC (fun c => 80 + c) 4 ∧ ∀ c, c < nC → 80 + c ∈ ks ∧ E (80 + c) = .inr (4, [.ref (ad (84 + c)), .ref (ad (88 + c)), .int (nI (mn c))]) ∧ mn c ≤ 3 ∧ 84 + c ∈ ks ∧ 88 + c ∈ ks ∧ ∃ f1 f2, E (84 + c) = kI dd 3 f1 ∧ E (88 + c) = kI dd 3 f2 ∧ ∀ q, q < mn c → f1 q = nI (me (3 * c + q)) ∧ f2 q = M.2.1 9 (3 * c + q)
def cT (dd : kDD) (ks : List Nat) (ad : Nat → Nat) (E : Nat → va_E) (M : mS) (nt : Nat) (cn nm : Nat → Nat) : Prop := nt ≤ 12 ∧ kLs dd ks ad E 5 12 nt (fun i => 96 + i) 6 ∧ ∀ i, i < nt → 96 + i ∈ ks ∧ E (96 + i) = .inr (6, [.int (M.2.1 11 i), .ref (ad (112 + i))]) ∧ cn i ≤ 4 ∧ kLs dd ks ad E (112 + i) (128 + i) (cn i) (fun k => 144 + (4 * i + k)) 3 ∧ ∀ k, k < cn i → 144 + (4 * i + k) ∈ ks ∧ E (144 + (4 * i + k)) = .inr (3, [.int (M.2.1 13 (4 * i + k)), .int (nI (nm (4 * i + k))), .int (M.2.1 15 (4 * i + k))])
def cL (dd : kDD) (ks : List Nat) (ad : Nat → Nat) (E : Nat → va_E) (M : mS) (nL nW : Nat) (li : Nat → Nat) : Prop := nL ≤ 10 ∧ kLs dd ks ad E 6 13 nL (fun l => 208 + l) 7 ∧ ∀ l, l < nL → 208 + l ∈ ks ∧ E (208 + l) = .inr (7, [.int (nI (li l)), .int (mq (M.2.1 19) (M.2.1 20) (nI l) nW)])
def cW (dd : kDD) (ks : List Nat) (ad : Nat → Nat) (E : Nat → va_E) (M : mS) (nW : Nat) (rl : Nat → Nat) : Prop := nW ≤ 40 ∧ kLs dd ks ad E 7 14 nW (fun k => 224 + k) 11 ∧ ∀ k, k < nW → 224 + k ∈ ks ∧ E (224 + k) = .inr (11, [.int (nI (rl k)), .int (M.2.1 20 k)])
def cV (dd : kDD) (ks : List Nat) (ad : Nat → Nat) (E : Nat → va_E) (M : mS) (nV : Nat) : Prop := nV ≤ 4 ∧ kLs dd ks ad E 8 15 nV (fun v => 272 + v) 12 ∧ ∀ v, v < nV → 272 + v ∈ ks ∧ E (272 + v) = .inr (12, [.ref (ad (276 + v)), .ref (ad (280 + v))]) ∧ 276 + v ∈ ks ∧ 280 + v ∈ ks ∧ ∃ f1 f2, E (276 + v) = kI dd 12 f1 ∧ E (280 + v) = kI dd 12 f2 ∧ ∀ k, k < 12 → f1 k = M.2.1 22 (12 * v + k) ∧ f2 k = M.2.1 23 (12 * v + k)
def cM (dd : kDD) (ks : List Nat) (ad : Nat → Nat) (E : Nat → va_E) (M : mS) (nM : Nat) : Prop := nM ≤ 4 ∧ kLs dd ks ad E 9 16 nM (fun m => 288 + m) 8 ∧ ∀ m, m < nM → 288 + m ∈ ks ∧ E (288 + m) = .inr (8, [.int (M.2.1 26 m), .int (M.2.1 27 m)])
/-- the numbers that name things name what is there -/
def cB (M : mS) (nR nC nt nL nW nV : Nat) (cn nm mn me li rl : Nat → Nat) : Prop :=
  (∀ i, i < nt → ∀ k, k < cn i → (M.2.1 13 (4 * i + k) = 0 ∧ nm (4 * i + k) < nt) ∨ (M.2.1 13 (4 * i + k) = 1 ∧ nm (4 * i + k) < nR) ∨ (M.2.1 13 (4 * i + k) = 2 ∧ nm (4 * i + k) < nC)) ∧ (∀ c, c < nC → ∀ q, q < mn c → me (3 * c + q) < nR) ∧ (∀ l, l < nL → li l < nt) ∧ (∀ k, k < nW → rl k < nL ∧ M.2.1 19 k = nI (rl k)) ∧
  (∀ v, v < nV → ∀ k, k < 12 → (M.2.1 22 (12 * v + k) = -1 ∨ ∃ x, x < nt ∧ M.2.1 22 (12 * v + k) = nI x) ∧ (M.2.1 23 (12 * v + k) = -1 ∨ ∃ x, x < nR ∧ M.2.1 23 (12 * v + k) = nI x))
theorem cE_ne {dd : kDD} {E : Nat → va_E} {e : eS} {k : Nat} (h : ¬ (17 ≤ k ∧ k ≤ 19) ∧ ¬ (22 ≤ k ∧ k ≤ 48)) : cE dd E e k = E k := by unfold cE; rw [if_neg h.1, if_neg h.2]
theorem cE_I {dd : kDD} {E : Nat → va_E} {e : eS} {k : Nat} (h : 17 ≤ k ∧ k ≤ 19) : cE dd E e k = kI dd 12 (e.1 k) := by unfold cE; rw [if_pos h]
theorem cE_J {dd : kDD} {E : Nat → va_E} {e : eS} {k : Nat} (h : 22 ≤ k ∧ k ≤ 48) : cE dd E e k = kJ dd (eLen k) (e.2 k) := by unfold cE; rw [if_neg (by omega), if_pos h]
theorem cE_upI {dd : kDD} {E : Nat → va_E} {e : eS} {k : Nat} (h : 17 ≤ k ∧ k ≤ 19) (f : Nat → Int32) : ∀ j, va_up (cE dd E e) k (kI dd 12 f) j = cE dd E (va_up e.1 k f, e.2) j := by
  intro j
  by_cases c : j = k
  · subst c; rw [va_up_self, cE_I h]; show _ = kI dd 12 (va_up e.1 j f j); rw [va_up_self]
  · rw [va_up_ne _ _ c]
    unfold cE
    by_cases c2 : 17 ≤ j ∧ j ≤ 19
    · rw [if_pos c2, if_pos c2]; show _ = kI dd 12 (va_up e.1 k f j); rw [va_up_ne _ _ c]
    · rw [if_neg c2, if_neg c2]
theorem cE_upJ {dd : kDD} {E : Nat → va_E} {e : eS} {k : Nat} (h : 22 ≤ k ∧ k ≤ 48) (f : Nat → Int64) : ∀ j, va_up (cE dd E e) k (kJ dd (eLen k) f) j = cE dd E (e.1, va_up e.2 k f) j := by
  intro j
  by_cases c : j = k
  · subst c; rw [va_up_self, cE_J h]; show _ = kJ dd (eLen j) (va_up e.2 j f j); rw [va_up_self]
  · rw [va_up_ne _ _ c]
    unfold cE
    by_cases c2 : 17 ≤ j ∧ j ≤ 19
    · rw [if_pos c2, if_pos c2]
    · rw [if_neg c2, if_neg c2]
      by_cases c3 : 22 ≤ j ∧ j ≤ 48
      · rw [if_pos c3, if_pos c3]; show _ = kJ dd (eLen j) (va_up e.2 k f j); rw [va_up_ne _ _ c]
      · rw [if_neg c3, if_neg c3]
theorem kLs_cE {dd : kDD} {ks : List Nat} {ad : Nat → Nat} {E : Nat → va_E} {e : eS} {lk ak n : Nat} {ek : Nat → Nat} {ci : Nat} (h : kLs dd ks ad E lk ak n ek ci) (h1 : ¬ (17 ≤ lk ∧ lk ≤ 19) ∧ ¬ (22 ≤ lk ∧ lk ≤ 48)) (h2 : ¬ (17 ≤ ak ∧ ak ≤ 19) ∧ ¬ (22 ≤ ak ∧ ak ≤ 48)) (h3 : ∀ i, i < n → ¬ (17 ≤ ek i ∧ ek i ≤ 19) ∧ ¬ (22 ≤ ek i ∧ ek i ≤ 48)) : kLs dd ks ad (cE dd E e) lk ak n ek ci :=
  kLs_frame h ⟨h.1, cE_ne h1⟩ (fun q => ⟨q, rfl, cE_ne h2⟩) (fun i hi q => ⟨q, rfl, fun fs hfs => ⟨fs, (cE_ne (h3 i hi)).trans hfs⟩⟩)
theorem ke_iald {dd : kDD} {g : kG} {cc : ByteArray} {own : String} {Ts : List Cond} {a b pc : Nat} {lv : List (Nat × Value)} {st : List Value} {ks : List Nat} {ad : Nat → Nat} {E : Nat → va_E} {e : eS} (C : kX dd g cc own Ts) (k : Nat) {j : Nat} (hk : k ∈ ks) (h : 17 ≤ k ∧ k ≤ 19) (hj : j < 12) (d : decode cc pc = .ok (.iaload, 1)) (kk : kv dd g a b (pc + 1) lv (.int (e.1 k j) :: st) ks ad (cE dd E e)) : kv dd g a b pc lv (.int (nI j) :: .ref (ad k) :: st) ks ad (cE dd E e) := kv_iaload C (κ := k) hk (cE_I h) hj (by omega) d kk
theorem ke_iast {dd : kDD} {g : kG} {cc : ByteArray} {own : String} {Ts : List Cond} {a b pc : Nat} {lv : List (Nat × Value)} {st : List Value} {ks : List Nat} {ad : Nat → Nat} {E : Nat → va_E} {e : eS} (C : kX dd g cc own Ts) (k : Nat) {j : Nat} {x : Int32} (hk : k ∈ ks) (h : 17 ≤ k ∧ k ≤ 19) (hj : j < 12) (d : decode cc pc = .ok (.iastore, 1)) (kk : kv dd g a b (pc + 1) lv st ks ad (cE dd E (va_up e.1 k (va_up (e.1 k) j x), e.2))) : kv dd g a b pc lv (.int x :: .int (nI j) :: .ref (ad k) :: st) ks ad (cE dd E e) := kv_iastore C (κ := k) hk (cE_I h) hj (by omega) d (kv_E (fun j2 _ => cE_upI h _ j2) kk)
theorem ke_lald {dd : kDD} {g : kG} {cc : ByteArray} {own : String} {Ts : List Cond} {a b pc : Nat} {lv : List (Nat × Value)} {st : List Value} {ks : List Nat} {ad : Nat → Nat} {E : Nat → va_E} {e : eS} (C : kX dd g cc own Ts) (k : Nat) {j : Nat} (hk : k ∈ ks) (h : 22 ≤ k ∧ k ≤ 48) (hj : j < eLen k) (d : decode cc pc = .ok (.laload, 1)) (kk : kv dd g a b (pc + 1) lv (.long (e.2 k j) :: st) ks ad (cE dd E e)) : kv dd g a b pc lv (.int (nI j) :: .ref (ad k) :: st) ks ad (cE dd E e) := kv_laload C (κ := k) hk (cE_J h) hj (by unfold eLen; split <;> omega) d kk
theorem ke_last {dd : kDD} {g : kG} {cc : ByteArray} {own : String} {Ts : List Cond} {a b pc : Nat} {lv : List (Nat × Value)} {st : List Value} {ks : List Nat} {ad : Nat → Nat} {E : Nat → va_E} {e : eS} (C : kX dd g cc own Ts) (k : Nat) {j : Nat} {x : Int64} (hk : k ∈ ks) (h : 22 ≤ k ∧ k ≤ 48) (hj : j < eLen k) (d : decode cc pc = .ok (.lastore, 1)) (kk : kv dd g a b (pc + 1) lv st ks ad (cE dd E (e.1, va_up e.2 k (va_up (e.2 k) j x)))) : kv dd g a b pc lv (.long x :: .int (nI j) :: .ref (ad k) :: st) ks ad (cE dd E e) := kv_lastore C (κ := k) hk (cE_J h) hj (by unfold eLen; split <;> omega) d (kv_E (fun j2 _ => cE_upJ h _ j2) kk)
theorem va_up_app {α : Type} (f : Nat → Nat → α) (k : Nat) (v : Nat → α) (j : Nat) : va_up f k v k j = v j := congrFun (va_up_self f k v) j
theorem kv_e {dd : kDD} {g : kG} {a b pc : Nat} {lv : List (Nat × Value)} {st : List Value} {ks : List Nat} {ad : Nat → Nat} {E : Nat → va_E} {e : eS} (e2 : eS) (h : e = e2) (kk : kv dd g a b pc lv st ks ad (cE dd E e2)) : kv dd g a b pc lv st ks ad (cE dd E e) := by rw [h]; exact kk

/-! THE REFERENCE: one object (key 0) and its rows (keyed by the slots of the fields that hold them). M.1: the int fields by their slots; M.2.1, M.2.2: the rows of ints, of longs. Slots: 0 thrown, 1 resources, 2 kind, 3 price, 4 waste, 5 pack, 6 crews, 7 members, 8 member, 9 number, 10 items, 11 trade, 12 components, 13 sort, 14 named, 15 much, 16 lines, 17 lineItem, 18 rows, 19 rowLine, 20 measure, 21 variants, 22 itemFor, 23 resourceFor, 24 on, 25 markups, 26 percent, 27 bases, 28 amounts, 29 marks, 30 depths, 31 direct, 32 need, 33 next -/
abbrev mS : Type := (Nat → Int32) × (Nat → Nat → Int32) × (Nat → Nat → Int64)
abbrev mK : List Nat := [0, 2, 3, 4, 5, 7, 8, 9, 11, 12, 13, 14, 15, 17, 19, 20, 22, 23, 26, 27, 28, 29, 30, 31, 32, 33]
def mIsL (k : Nat) : Bool := k == 28 || k == 29 || k == 31 || k == 32 || k == 33
def mInts : List Nat := [0, 1, 6, 10, 16, 18, 21, 24, 25]
def mLen (k : Nat) : Nat := match k with
  | 7 => 4
  | 13 => 48
  | 14 => 48
  | 15 => 48
  | 17 => 10
  | 19 => 40
  | 20 => 40
  | 22 => 48
  | 23 => 48
  | 26 => 4
  | 27 => 4
  | 29 => 4
  | _ => 12
def mObj (ad : Nat → Nat) (F : Nat → Int32) : List Value := [.int (F 0), .int (F 1), .ref (ad 2), .ref (ad 3), .ref (ad 4), .ref (ad 5), .int (F 6), .ref (ad 7), .ref (ad 8), .ref (ad 9), .int (F 10), .ref (ad 11), .ref (ad 12), .ref (ad 13), .ref (ad 14), .ref (ad 15), .int (F 16), .ref (ad 17), .int (F 18), .ref (ad 19), .ref (ad 20), .int (F 21), .ref (ad 22), .ref (ad 23), .int (F 24), .int (F 25), .ref (ad 26), .ref (ad 27), .ref (ad 28), .ref (ad 29), .ref (ad 30), .ref (ad 31), .ref (ad 32), .ref (ad 33)]
def mE (dd : kDD) (ad : Nat → Nat) (M : mS) : Nat → va_E := fun k => if k = 0 then .inr (14, mObj ad M.1) else if mIsL k = true then kJ dd (mLen k) (M.2.2 k) else kI dd (mLen k) (M.2.1 k)
theorem mE_F {dd : kDD} {ad : Nat → Nat} {M : mS} {k : Nat} (hk : k ∈ mInts) (x : Int32) : ∀ j, va_up (mE dd ad M) 0 (.inr (14, (mObj ad M.1).set k (.int x))) j = mE dd ad (va_up M.1 k x, M.2) j := by
  intro j
  by_cases hj : j = 0
  · subst hj
    rw [va_up_self]
    show _ = Sum.inr (14, mObj ad (va_up M.1 k x))
    congr 2
    simp only [mInts, List.mem_cons, List.not_mem_nil, or_false] at hk
    rcases hk with rfl | rfl | rfl | rfl | rfl | rfl | rfl | rfl | rfl <;> rfl
  · rw [va_up_ne _ _ hj]
    simp only [mE, if_neg hj]
theorem mE_A {dd : kDD} {ad : Nat → Nat} {M : mS} {k : Nat} (h0 : k ≠ 0) (hL : mIsL k = false) (f : Nat → Int32) : ∀ j, va_up (mE dd ad M) k (kI dd (mLen k) f) j = mE dd ad (M.1, va_up M.2.1 k f, M.2.2) j := by
  intro j
  by_cases hj : j = k
  · subst hj
    rw [va_up_self]
    simp only [mE, if_neg h0, hL, va_up_self, Bool.false_eq_true, if_false]
  · rw [va_up_ne _ _ hj]
    simp only [mE, va_up_ne _ _ hj]
theorem mE_B {dd : kDD} {ad : Nat → Nat} {M : mS} {k : Nat} (h0 : k ≠ 0) (hL : mIsL k = true) (f : Nat → Int64) : ∀ j, va_up (mE dd ad M) k (kJ dd (mLen k) f) j = mE dd ad (M.1, M.2.1, va_up M.2.2 k f) j := by
  intro j
  by_cases hj : j = k
  · subst hj
    rw [va_up_self]
    simp only [mE, if_neg h0, hL, va_up_self, if_true]
  · rw [va_up_ne _ _ hj]
    simp only [mE, va_up_ne _ _ hj]

theorem km_get {dd : kDD} {g : kG} {cc : ByteArray} {own : String} {Ts : List Cond} {a b pc : Nat} {lv : List (Nat × Value)} {st : List Value} {ad : Nat → Nat} {M : mS} (C : kX dd g cc own Ts) {index : Nat} (k : Nat) {v : Value} (hf : kF Ts own index 14 k) (hv : (mObj ad M.1)[k]? = some v) (d : decode cc pc = .ok (.getfield index, 3)) (kk : kv dd g a b (pc + 3) lv (v :: st) mK ad (mE dd ad M)) : kv dd g a b pc lv (.ref (ad 0) :: st) mK ad (mE dd ad M) := kv_getfield C hf (κ := 0) (by decide) rfl hv d kk
theorem km_put {dd : kDD} {g : kG} {cc : ByteArray} {own : String} {Ts : List Cond} {a b pc : Nat} {lv : List (Nat × Value)} {st : List Value} {ad : Nat → Nat} {M : mS} (C : kX dd g cc own Ts) {index : Nat} (k : Nat) {x : Int32} (hf : kFp Ts own index 14 k .int false) (hk : k ∈ mInts) (d : decode cc pc = .ok (.putfield index, 3)) (kk : kv dd g a b (pc + 3) lv st mK ad (mE dd ad (va_up M.1 k x, M.2))) : kv dd g a b pc lv (.int x :: .ref (ad 0) :: st) mK ad (mE dd ad M) := kv_putfield C hf (κ := 0) (by decide) rfl rfl rfl (by simp only [mInts, List.mem_cons, List.not_mem_nil, or_false] at hk; show k < 34; omega) d (kv_E (fun j _ => mE_F hk x j) kk)
theorem km_iald {dd : kDD} {g : kG} {cc : ByteArray} {own : String} {Ts : List Cond} {a b pc : Nat} {lv : List (Nat × Value)} {st : List Value} {ad : Nat → Nat} {M : mS} (C : kX dd g cc own Ts) (k : Nat) {j : Nat} (hk : k ∈ mK) (h0 : k ≠ 0) (hL : mIsL k = false) (hj : j < mLen k) (hn : mLen k < 2 ^ 31) (d : decode cc pc = .ok (.iaload, 1)) (kk : kv dd g a b (pc + 1) lv (.int (M.2.1 k j) :: st) mK ad (mE dd ad M)) : kv dd g a b pc lv (.int (nI j) :: .ref (ad k) :: st) mK ad (mE dd ad M) := kv_iaload C (κ := k) hk (by show (if k = 0 then _ else if mIsL k = true then _ else _) = _; rw [if_neg h0, hL]; rfl) hj hn d kk
theorem km_iast {dd : kDD} {g : kG} {cc : ByteArray} {own : String} {Ts : List Cond} {a b pc : Nat} {lv : List (Nat × Value)} {st : List Value} {ad : Nat → Nat} {M : mS} (C : kX dd g cc own Ts) (k : Nat) {j : Nat} {x : Int32} (hk : k ∈ mK) (h0 : k ≠ 0) (hL : mIsL k = false) (hj : j < mLen k) (hn : mLen k < 2 ^ 31) (d : decode cc pc = .ok (.iastore, 1)) (kk : kv dd g a b (pc + 1) lv st mK ad (mE dd ad (M.1, va_up M.2.1 k (upd (M.2.1 k) j x), M.2.2))) : kv dd g a b pc lv (.int x :: .int (nI j) :: .ref (ad k) :: st) mK ad (mE dd ad M) := kv_iastore C (κ := k) hk (by show (if k = 0 then _ else if mIsL k = true then _ else _) = _; rw [if_neg h0, hL]; rfl) hj hn d (kv_E (fun j2 _ => mE_A h0 hL _ j2) kk)
theorem km_lald {dd : kDD} {g : kG} {cc : ByteArray} {own : String} {Ts : List Cond} {a b pc : Nat} {lv : List (Nat × Value)} {st : List Value} {ad : Nat → Nat} {M : mS} (C : kX dd g cc own Ts) (k : Nat) {j : Nat} (hk : k ∈ mK) (h0 : k ≠ 0) (hL : mIsL k = true) (hj : j < mLen k) (hn : mLen k < 2 ^ 31) (d : decode cc pc = .ok (.laload, 1)) (kk : kv dd g a b (pc + 1) lv (.long (M.2.2 k j) :: st) mK ad (mE dd ad M)) : kv dd g a b pc lv (.int (nI j) :: .ref (ad k) :: st) mK ad (mE dd ad M) := kv_laload C (κ := k) hk (by show (if k = 0 then _ else if mIsL k = true then _ else _) = _; rw [if_neg h0, hL]; rfl) hj hn d kk
theorem km_last {dd : kDD} {g : kG} {cc : ByteArray} {own : String} {Ts : List Cond} {a b pc : Nat} {lv : List (Nat × Value)} {st : List Value} {ad : Nat → Nat} {M : mS} (C : kX dd g cc own Ts) (k : Nat) {j : Nat} {x : Int64} (hk : k ∈ mK) (h0 : k ≠ 0) (hL : mIsL k = true) (hj : j < mLen k) (hn : mLen k < 2 ^ 31) (d : decode cc pc = .ok (.lastore, 1)) (kk : kv dd g a b (pc + 1) lv st mK ad (mE dd ad (M.1, M.2.1, va_up M.2.2 k (vp_updL (M.2.2 k) j x)))) : kv dd g a b pc lv (.long x :: .int (nI j) :: .ref (ad k) :: st) mK ad (mE dd ad M) := kv_lastore C (κ := k) hk (by show (if k = 0 then _ else if mIsL k = true then _ else _) = _; rw [if_neg h0, hL]; rfl) hj hn d (kv_E (fun j2 _ => mE_B h0 hL _ j2) kk)
theorem kv_M {dd : kDD} {g : kG} {a b pc : Nat} {lv : List (Nat × Value)} {st : List Value} {ad : Nat → Nat} {M : mS} (M2 : mS) (h : M = M2) (kk : kv dd g a b pc lv st mK ad (mE dd ad M2)) : kv dd g a b pc lv st mK ad (mE dd ad M) := by rw [h]; exact kk
theorem kv_L {dd : kDD} {g : kG} {a b pc : Nat} {lv : List (Nat × Value)} {st : List Value} {ks : List Nat} {ad : Nat → Nat} {E : Nat → va_E} (lv2 : List (Nat × Value)) (h : lv2 = lv) (kk : kv dd g a b pc lv2 st ks ad E) : kv dd g a b pc lv st ks ad E := by rw [← h]; exact kk
theorem kn_icmp_eq {dd : kDD} {g : kG} {cc : ByteArray} {own : String} {Ts : List Cond} {a b pc : Nat} {lv : List (Nat × Value)} {st : List Value} {ks : List Nat} {ad : Nat → Nat} {E : Nat → va_E} (C : kX dd g cc own Ts) {x y : Nat} {off : Int} {tgt : Nat} (hx : x < 2 ^ 31) (hy : y < 2 ^ 31) (d : decode cc pc = .ok (.if_icmp .eq off, 3)) (ht : (pc : Int) + off = (tgt : Int)) (kt : x = y → kv dd g a b tgt lv st ks ad E) (kf : x ≠ y → kv dd g a b (pc + 3) lv st ks ad E) : kv dd g a b pc lv (.int (nI y) :: .int (nI x) :: st) ks ad E := kv_icmp_eq C d ht (fun h => kt ((nI_eq hx hy).mp h)) (fun h => kf ((fun q => h ((nI_eq hx hy).mpr q))))
theorem kn_icmp_ne {dd : kDD} {g : kG} {cc : ByteArray} {own : String} {Ts : List Cond} {a b pc : Nat} {lv : List (Nat × Value)} {st : List Value} {ks : List Nat} {ad : Nat → Nat} {E : Nat → va_E} (C : kX dd g cc own Ts) {x y : Nat} {off : Int} {tgt : Nat} (hx : x < 2 ^ 31) (hy : y < 2 ^ 31) (d : decode cc pc = .ok (.if_icmp .ne off, 3)) (ht : (pc : Int) + off = (tgt : Int)) (kt : x ≠ y → kv dd g a b tgt lv st ks ad E) (kf : x = y → kv dd g a b (pc + 3) lv st ks ad E) : kv dd g a b pc lv (.int (nI y) :: .int (nI x) :: st) ks ad E := kv_icmp_ne C d ht (fun h => kt ((fun q => h ((nI_eq hx hy).mpr q)))) (fun h => kf ((nI_eq hx hy).mp h))
theorem kn_icmp_lt {dd : kDD} {g : kG} {cc : ByteArray} {own : String} {Ts : List Cond} {a b pc : Nat} {lv : List (Nat × Value)} {st : List Value} {ks : List Nat} {ad : Nat → Nat} {E : Nat → va_E} (C : kX dd g cc own Ts) {x y : Nat} {off : Int} {tgt : Nat} (hx : x < 2 ^ 31) (hy : y < 2 ^ 31) (d : decode cc pc = .ok (.if_icmp .lt off, 3)) (ht : (pc : Int) + off = (tgt : Int)) (kt : x < y → kv dd g a b tgt lv st ks ad E) (kf : y ≤ x → kv dd g a b (pc + 3) lv st ks ad E) : kv dd g a b pc lv (.int (nI y) :: .int (nI x) :: st) ks ad E := kv_icmp_lt C d ht (fun h => kt ((nI_ltI hx hy).mp h)) (fun h => kf ((Nat.not_lt.mp (fun q => h ((nI_ltI hx hy).mpr q)))))
theorem kn_icmp_ge {dd : kDD} {g : kG} {cc : ByteArray} {own : String} {Ts : List Cond} {a b pc : Nat} {lv : List (Nat × Value)} {st : List Value} {ks : List Nat} {ad : Nat → Nat} {E : Nat → va_E} (C : kX dd g cc own Ts) {x y : Nat} {off : Int} {tgt : Nat} (hx : x < 2 ^ 31) (hy : y < 2 ^ 31) (d : decode cc pc = .ok (.if_icmp .ge off, 3)) (ht : (pc : Int) + off = (tgt : Int)) (kt : y ≤ x → kv dd g a b tgt lv st ks ad E) (kf : x < y → kv dd g a b (pc + 3) lv st ks ad E) : kv dd g a b pc lv (.int (nI y) :: .int (nI x) :: st) ks ad E := kv_icmp_ge C d ht (fun h => kt ((nI_leI hy hx).mp h)) (fun h => kf ((Nat.not_le.mp (fun q => h ((nI_leI hy hx).mpr q)))))
theorem kn_icmp_gt {dd : kDD} {g : kG} {cc : ByteArray} {own : String} {Ts : List Cond} {a b pc : Nat} {lv : List (Nat × Value)} {st : List Value} {ks : List Nat} {ad : Nat → Nat} {E : Nat → va_E} (C : kX dd g cc own Ts) {x y : Nat} {off : Int} {tgt : Nat} (hx : x < 2 ^ 31) (hy : y < 2 ^ 31) (d : decode cc pc = .ok (.if_icmp .gt off, 3)) (ht : (pc : Int) + off = (tgt : Int)) (kt : y < x → kv dd g a b tgt lv st ks ad E) (kf : x ≤ y → kv dd g a b (pc + 3) lv st ks ad E) : kv dd g a b pc lv (.int (nI y) :: .int (nI x) :: st) ks ad E := kv_icmp_gt C d ht (fun h => kt ((nI_ltI hy hx).mp h)) (fun h => kf ((Nat.not_lt.mp (fun q => h ((nI_ltI hy hx).mpr q)))))
theorem kn_icmp_le {dd : kDD} {g : kG} {cc : ByteArray} {own : String} {Ts : List Cond} {a b pc : Nat} {lv : List (Nat × Value)} {st : List Value} {ks : List Nat} {ad : Nat → Nat} {E : Nat → va_E} (C : kX dd g cc own Ts) {x y : Nat} {off : Int} {tgt : Nat} (hx : x < 2 ^ 31) (hy : y < 2 ^ 31) (d : decode cc pc = .ok (.if_icmp .le off, 3)) (ht : (pc : Int) + off = (tgt : Int)) (kt : x ≤ y → kv dd g a b tgt lv st ks ad E) (kf : y < x → kv dd g a b (pc + 3) lv st ks ad E) : kv dd g a b pc lv (.int (nI y) :: .int (nI x) :: st) ks ad E := kv_icmp_le C d ht (fun h => kt ((nI_leI hx hy).mp h)) (fun h => kf ((Nat.not_le.mp (fun q => h ((nI_leI hx hy).mpr q)))))
theorem kn_if_eq {dd : kDD} {g : kG} {cc : ByteArray} {own : String} {Ts : List Cond} {a b pc : Nat} {lv : List (Nat × Value)} {st : List Value} {ks : List Nat} {ad : Nat → Nat} {E : Nat → va_E} (C : kX dd g cc own Ts) {x : Nat} {off : Int} {tgt : Nat} (hx : x < 2 ^ 31) (d : decode cc pc = .ok (.ifCond .eq off, 3)) (ht : (pc : Int) + off = (tgt : Int)) (kt : x = 0 → kv dd g a b tgt lv st ks ad E) (kf : x ≠ 0 → kv dd g a b (pc + 3) lv st ks ad E) : kv dd g a b pc lv (.int (nI x) :: st) ks ad E := kv_if_eq C d ht (fun h => kt ((nI_eq hx (by decide)).mp h)) (fun h => kf ((fun q => h ((nI_eq hx (by decide)).mpr q))))
theorem kn_if_ne {dd : kDD} {g : kG} {cc : ByteArray} {own : String} {Ts : List Cond} {a b pc : Nat} {lv : List (Nat × Value)} {st : List Value} {ks : List Nat} {ad : Nat → Nat} {E : Nat → va_E} (C : kX dd g cc own Ts) {x : Nat} {off : Int} {tgt : Nat} (hx : x < 2 ^ 31) (d : decode cc pc = .ok (.ifCond .ne off, 3)) (ht : (pc : Int) + off = (tgt : Int)) (kt : x ≠ 0 → kv dd g a b tgt lv st ks ad E) (kf : x = 0 → kv dd g a b (pc + 3) lv st ks ad E) : kv dd g a b pc lv (.int (nI x) :: st) ks ad E := kv_if_ne C d ht (fun h => kt ((fun q => h ((nI_eq hx (by decide)).mpr q)))) (fun h => kf ((nI_eq hx (by decide)).mp h))

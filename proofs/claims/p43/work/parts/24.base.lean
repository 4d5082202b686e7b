/-! STEPS between worlds, and lists -/
theorem kv_nodup {dd : kDD} {g : kG} {a b pc : Nat} {lv : List (Nat × Value)} {st : List Value} {ks : List Nat} {ad : Nat → Nat} {E : Nat → va_E} (k : ks.Nodup → kv dd g a b pc lv st ks ad E) : kv dd g a b pc lv st ks ad E := by
  obtain ⟨p, l, e, R, s, m, args, below, meth, c, Q, A, nL⟩ := g
  intro H locs ls hP hD hS hl
  refine k ?_ H locs ls hP hD hS hl
  refine List.pairwise_iff_getElem.mpr (fun i j hi hj hij h => ?_)
  have hx : ks[j]? = some ks[j] := List.getElem?_eq_getElem hj
  have hy : ks[i]? = some ks[j] := by rw [← h]; exact List.getElem?_eq_getElem hi
  have e1 : (kw ks ad E)[i]? = some (ad ks[j], E ks[j]) := by unfold kw; rw [List.getElem?_map, hy]; rfl
  have e2 : (kw ks ad E)[j]? = some (ad ks[j], E ks[j]) := by unfold kw; rw [List.getElem?_map, hx]; rfl
  exact absurd (hD.1 i j _ _ e1 e2 rfl) (by omega)
/-- one key more, or anew -/
def kStp (ks : List Nat) (ad : Nat → Nat) (E : Nat → va_E) (ks2 : List Nat) (ad2 : Nat → Nat) (E2 : Nat → va_E) (κ : Nat) (e : va_E) : Prop := (∀ j, j ∈ ks2 ↔ j ∈ ks ∨ j = κ) ∧ (∀ j, j ≠ κ → ad2 j = ad j) ∧ (∀ j, j ≠ κ → E2 j = E j) ∧ E2 κ = e
theorem kStp_of {ks : List Nat} {ad : Nat → Nat} {E : Nat → va_E} {κ q : Nat} {e : va_E} : kStp ks ad E (ks.filter (fun j => j != κ) ++ [κ]) (va_up ad κ q) (va_up E κ e) κ e := by
  refine ⟨fun j => ?_, fun j hj => va_up_ne _ _ hj, fun j hj => va_up_ne _ _ hj, va_up_self _ _ _⟩
  rw [List.mem_append, List.mem_filter, List.mem_singleton]
  by_cases c : j = κ
  · simp [c]
  · simp [c]
theorem k_fil {ks : List Nat} {κ : Nat} : κ ∉ ks.filter (fun j => j != κ) := by
  rw [List.mem_filter]
  simp
theorem k_sum {l : List Nat} {x : Nat} (h : x ∈ l) : x ≤ l.sum := by
  induction l with
  | nil => exact absurd h List.not_mem_nil
  | cons a l ih =>
    rw [List.sum_cons]
    rcases List.mem_cons.mp h with rfl | h
    · omega
    · have := ih h; omega
theorem k_fresh (ks : List Nat) : ∃ t, t ∉ ks ∧ 1000 ≤ t := by
  refine ⟨ks.sum + 1000, fun h => ?_, by omega⟩
  have : ks.sum + 1000 ≤ ks.sum := k_sum h
  omega
theorem kv_newR {dd : kDD} {g : kG} {cc : ByteArray} {own : String} {Ts : List Cond} {a b pc : Nat} {lv : List (Nat × Value)} {st : List Value} {ks : List Nat} {ad : Nat → Nat} {E : Nat → va_E} (C : kX dd g cc own Ts) {index ci N : Nat} {fs : List Value} {RR : Room} (κ : Nat) (hn : kN Ts own index ci fs N) (hRR : kR g = RR) (hrm : a + 1 ≤ RR.cells ∧ b + N ≤ RR.slots) (d : decode cc pc = .ok (.new index, 3)) (k : ∀ ks2 ad2 E2, kStp ks ad E ks2 ad2 E2 κ (.inr (ci, fs)) → kv dd g (a + 1) (b + N) (pc + 3) lv (.ref (ad2 κ) :: st) ks2 ad2 E2) : kv dd g a b pc lv st ks ad E := by
  refine kv_nodup (fun hnd => kv_keys (ks2 := ks.filter (fun j => j != κ)) (hnd.filter _) (fun j hj => (List.mem_filter.mp hj).1) ?_)
  refine kv_new C κ hn k_fil hRR hrm d (fun q => ?_)
  have z := k _ _ _ (kStp_of (ad := ad) (E := E) (κ := κ) (q := q) (e := .inr (ci, fs)))
  rw [va_up_self] at z
  exact z
theorem kv_newarrIR {dd : kDD} {g : kG} {cc : ByteArray} {own : String} {Ts : List Cond} {a b pc : Nat} {lv : List (Nat × Value)} {st : List Value} {ks : List Nat} {ad : Nat → Nat} {E : Nat → va_E} (C : kX dd g cc own Ts) {N : Nat} {RR : Room} (κ : Nat) (har : Cond.arrayClass .int ∈ Ts) (hN : N < 10000) (hRR : kR g = RR) (hrm : a + 1 ≤ RR.cells ∧ b + N ≤ RR.slots) (d : decode cc pc = .ok (.newarray .int, 2)) (k : ∀ ks2 ad2 E2, kStp ks ad E ks2 ad2 E2 κ (kI dd N (fun _ => 0)) → kv dd g (a + 1) (b + N) (pc + 2) lv (.ref (ad2 κ) :: st) ks2 ad2 E2) : kv dd g a b pc lv (.int (nI N) :: st) ks ad E := by
  refine kv_nodup (fun hnd => kv_keys (ks2 := ks.filter (fun j => j != κ)) (hnd.filter _) (fun j hj => (List.mem_filter.mp hj).1) ?_)
  refine kv_newarrI C κ har k_fil hN hRR hrm d (fun q => ?_)
  have z := k _ _ _ (kStp_of (ad := ad) (E := E) (κ := κ) (q := q) (e := kI dd N (fun _ => 0)))
  rw [va_up_self] at z
  exact z
theorem kv_newarrJR {dd : kDD} {g : kG} {cc : ByteArray} {own : String} {Ts : List Cond} {a b pc : Nat} {lv : List (Nat × Value)} {st : List Value} {ks : List Nat} {ad : Nat → Nat} {E : Nat → va_E} (C : kX dd g cc own Ts) {N : Nat} {RR : Room} (κ : Nat) (har : Cond.arrayClass .long ∈ Ts) (hN : N < 10000) (hRR : kR g = RR) (hrm : a + 1 ≤ RR.cells ∧ b + N ≤ RR.slots) (d : decode cc pc = .ok (.newarray .long, 2)) (k : ∀ ks2 ad2 E2, kStp ks ad E ks2 ad2 E2 κ (kJ dd N (fun _ => 0)) → kv dd g (a + 1) (b + N) (pc + 2) lv (.ref (ad2 κ) :: st) ks2 ad2 E2) : kv dd g a b pc lv (.int (nI N) :: st) ks ad E := by
  refine kv_nodup (fun hnd => kv_keys (ks2 := ks.filter (fun j => j != κ)) (hnd.filter _) (fun j hj => (List.mem_filter.mp hj).1) ?_)
  refine kv_newarrJ C κ har k_fil hN hRR hrm d (fun q => ?_)
  have z := k _ _ _ (kStp_of (ad := ad) (E := E) (κ := κ) (q := q) (e := kJ dd N (fun _ => 0)))
  rw [va_up_self] at z
  exact z
theorem kv_anewOR {dd : kDD} {g : kG} {cc : ByteArray} {own : String} {Ts : List Cond} {a b pc : Nat} {lv : List (Nat × Value)} {st : List Value} {ks : List Nat} {ad : Nat → Nat} {E : Nat → va_E} (C : kX dd g cc own Ts) {index N : Nat} {RR : Room} (κ : Nat) (hcl : Cond.classLink own index "java/lang/Object" ∈ Ts) (hN : N < 10000) (hRR : kR g = RR) (hrm : a + 1 ≤ RR.cells ∧ b + N ≤ RR.slots) (d : decode cc pc = .ok (.anewarray index, 3)) (k : ∀ ks2 ad2 E2, kStp ks ad E ks2 ad2 E2 κ (kO dd N (fun _ => none)) → kv dd g (a + 1) (b + N) (pc + 3) lv (.ref (ad2 κ) :: st) ks2 ad2 E2) : kv dd g a b pc lv (.int (nI N) :: st) ks ad E := by
  refine kv_nodup (fun hnd => kv_keys (ks2 := ks.filter (fun j => j != κ)) (hnd.filter _) (fun j hj => (List.mem_filter.mp hj).1) ?_)
  refine kv_anewO C κ hcl k_fil hN hRR hrm d (fun q => ?_)
  have z := k _ _ _ (kStp_of (ad := ad) (E := E) (κ := κ) (q := q) (e := kO dd N (fun _ => none)))
  rw [va_up_self] at z
  exact z
def kFS (Ts : List Cond) (own : String) (index ci kk : Nat) (ty : FieldType) : Prop := ∃ (ref Cn : String) (T : u_T) (N : Nat) (ty0 : Nat → FieldType), (∀ w ∈ u_ws Cn T N, w ∈ Ts) ∧ (∀ k, k < N → parseFieldDescriptor (T k).2.2.1 = some (ty0 k)) ∧ (∀ a, a < N → ∀ b, b < N → a ≠ b → (T a).2.1 ≠ (T b).2.1) ∧ Cond.fieldLink own index ref (T kk).2.1 (T kk).2.2.1 ∈ Ts ∧ vwCl[ci]? = some (Cn, T, N) ∧ kk < N ∧ Cond.sameField ref (T kk).1 (T kk).2.1 (T kk).2.2.1 ∈ Ts ∧ (T kk).2.2.2 = false ∧ parseFieldDescriptor (T kk).2.2.1 = some ty
theorem kv_getfieldS {dd : kDD} {g : kG} {cc : ByteArray} {own : String} {Ts : List Cond} {a b pc : Nat} {lv : List (Nat × Value)} {st : List Value} {ks : List Nat} {ad : Nat → Nat} {E : Nat → va_E} (C : kX dd g cc own Ts) {index ci kk κ : Nat} {ty : FieldType} {fs : List Value} {v : Value} (hf : kFS Ts own index ci kk ty) (hκ : κ ∈ ks) (hE : E κ = .inr (ci, fs)) (hv : fs[kk]? = some v) (d : decode cc pc = .ok (.getfield index, 3)) (k : kv dd g a b (pc + 3) lv (v :: st) ks ad E) : kv dd g a b pc lv (.ref (ad κ) :: st) ks ad E := by
  obtain ⟨p, l, e, R, s, m, args, below, meth, c, Q, A, nL⟩ := g
  obtain ⟨hx, hb, hown, hts, hK, hA, hml, hZ, hst⟩ := C
  intro H locs ls hP hD hS hl
  obtain ⟨ref, Cn, T, N, ty0, h1, h1b, h1c, h2, h3, h4, h5, h6, h7⟩ := hf
  obtain ⟨i, hi⟩ := kw_get (ad := ad) (E := E) hκ
  rw [hE] at hi
  exact va_get (ref := ref) (C := Cn) (T := T) (N := N) hx hb hts h1 hown hK hP i hi h3 kk h4 (hts _ h2) (fun x h9 => u_same (hts _ h5) x h9) hv d (k H locs ls hP hD hS hl)
theorem kv_putfieldS {dd : kDD} {g : kG} {cc : ByteArray} {own : String} {Ts : List Cond} {a b pc : Nat} {lv : List (Nat × Value)} {st : List Value} {ks : List Nat} {ad : Nat → Nat} {E : Nat → va_E} (C : kX dd g cc own Ts) {index ci kk κ : Nat} {ty : FieldType} {fs : List Value} {v : Value} (hf : kFS Ts own index ci kk ty) (hκ : κ ∈ ks) (hE : E κ = .inr (ci, fs)) (hn : narrow ty v = v) (hfit : fits ty v = true) (hlen : kk < fs.length) (d : decode cc pc = .ok (.putfield index, 3)) (k : kv dd g a b (pc + 3) lv st ks ad (va_up E κ (.inr (ci, fs.set kk v)))) : kv dd g a b pc lv (v :: .ref (ad κ) :: st) ks ad E := by
  obtain ⟨p, l, e, R, s, m, args, below, meth, c, Q, A, nL⟩ := g
  obtain ⟨hx, hb, hown, hts, hK, hA, hml, hZ, hst⟩ := C
  intro H locs ls hP hD hS hl
  obtain ⟨ref, Cn, T, N, ty0, h1, h1b, h1c, h2, h3, h4, h5, h6, h7⟩ := hf
  obtain ⟨i, hi⟩ := kw_get (ad := ad) (E := E) hκ
  have hi2 := hi
  rw [hE] at hi2
  refine va_put (ref := ref) (C := Cn) (T := T) (N := N) hx hb hts h1 ty0 h1b h1c hown hK hP hD hS i hi2 h3 kk h4 (hts _ h2) (fun x h9 => u_same (hts _ h5) x h9) h6 h7 hn hfit hlen d (fun H1 locs1 hP1 hD1 hS1 => k H1 locs1 ls ?_ ?_ hS1 hl)
  · rw [kw_set hD hκ hi] at hP1; exact hP1
  · rw [kw_set hD hκ hi] at hD1; exact hD1
/-- locals and stack by other names -/
theorem kv_LS {dd : kDD} {g : kG} {a b pc : Nat} {lv : List (Nat × Value)} {st : List Value} {ks : List Nat} {ad : Nat → Nat} {E : Nat → va_E} (lv2 : List (Nat × Value)) (st2 : List Value) (h : lv2 = lv) (h2 : st2 = st) (kk : kv dd g a b pc lv2 st2 ks ad E) : kv dd g a b pc lv st ks ad E := by rw [← h, ← h2]; exact kk
/-- a class whose objects lie in lists -/
def kEl (ci : Nat) : Prop := ∃ r : vw_C, vwCl[ci]? = some r ∧ (r.1, "java/lang/Object") ∈ kCst
/-- a list: its object lk, its row ak (once it has one), n elements of class ci: key ek i for the i-th -/
def kLs (dd : kDD) (ks : List Nat) (ad : Nat → Nat) (E : Nat → va_E) (lk ak n : Nat) (ek : Nat → Nat) (ci : Nat) : Prop :=
  lk ∈ ks ∧ lk ≠ ak ∧ kEl ci ∧ n < 60 ∧ (∀ i, i < n → ek i ∈ ks ∧ ek i ≠ lk ∧ ek i ≠ ak ∧ ∃ fs, E (ek i) = .inr (ci, fs)) ∧
  ∃ mc : Int32, (n = 0 ∧ E lk = .inr (2, [.int mc, .ref (ktE dd).1, .int (nI n)])) ∨ (∃ cap f, ak ∈ ks ∧ n ≤ cap ∧ 0 < cap ∧ cap < 100 ∧ E ak = kO dd cap f ∧ (∀ i, i < n → f i = some (ad (ek i))) ∧ E lk = .inr (2, [.int mc, .ref (ad ak), .int (nI n)]))
theorem kLs_obj {dd : kDD} {ks : List Nat} {ad : Nat → Nat} {E : Nat → va_E} {lk ak n : Nat} {ek : Nat → Nat} {ci : Nat} (h : kLs dd ks ad E lk ak n ek ci) : ∃ (mc : Int32) (q : Nat), E lk = .inr (2, [.int mc, .ref q, .int (nI n)]) := by
  obtain ⟨-, -, -, -, -, mc, ⟨-, h⟩ | ⟨cap, f, -, -, -, -, -, -, h⟩⟩ := h
  · exact ⟨mc, _, h⟩
  · exact ⟨mc, _, h⟩
/-- a list stays a list where its keys stay -/
theorem kLs_frame {dd : kDD} {ks ks2 : List Nat} {ad ad2 : Nat → Nat} {E E2 : Nat → va_E} {lk ak n : Nat} {ek : Nat → Nat} {ci : Nat} (h : kLs dd ks ad E lk ak n ek ci) (h1 : lk ∈ ks2 ∧ E2 lk = E lk) (h2 : ak ∈ ks → ak ∈ ks2 ∧ ad2 ak = ad ak ∧ E2 ak = E ak) (h3 : ∀ i, i < n → ek i ∈ ks → ek i ∈ ks2 ∧ ad2 (ek i) = ad (ek i) ∧ (∀ fs, E (ek i) = .inr (ci, fs) → ∃ fs2, E2 (ek i) = .inr (ci, fs2))) : kLs dd ks2 ad2 E2 lk ak n ek ci := by
  obtain ⟨a1, a2, a3, a4, a5, mc, a6⟩ := h
  refine ⟨h1.1, a2, a3, a4, fun i hi => ?_, mc, ?_⟩
  · obtain ⟨b1, b2, b3, fs, b4⟩ := a5 i hi
    obtain ⟨c1, c2, c3⟩ := h3 i hi b1
    exact ⟨c1, b2, b3, c3 fs b4⟩
  · rcases a6 with ⟨b1, b2⟩ | ⟨cap, f, b1, b2, b3, b4, b5, b6, b7⟩
    · exact Or.inl ⟨b1, by rw [h1.2]; exact b2⟩
    · obtain ⟨c1, c2, c3⟩ := h2 b1
      exact Or.inr ⟨cap, f, c1, b2, b3, b4, by rw [c3]; exact b5, fun i hi => by rw [b6 i hi, (h3 i hi (a5 i hi).1).2.1], by rw [h1.2, c2]; exact b7⟩

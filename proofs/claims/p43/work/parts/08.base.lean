/-- what a class's own tables don't say: statics, String constants, castables, links to a nest mate's private members -/
abbrev kStr : List (String × Nat × String) := [("Takeoff", 84, "a material is no member of a crew"), ("Takeoff", 95, "the resource is a member of the crew"), ("Takeoff", 127, "an item would need itself or be too deep"), ("Takeoff", 140, "the item has no components"), ("Takeoff", 210, "both items are the same"), ("Takeoff", 223, "both resources are the same"), ("Takeoff", 225, "the kinds of the resources are different"), ("Takeoff", 247, "a bit is for nothing"), ("Takeoff", 296, "there is no such rank"), ("Takeoff", 317, "the quantity of the line would be out of range"), ("Takeoff", 325, "there is no such resource"), ("Takeoff", 328, "there is no such crew"), ("Takeoff", 330, "there is no such item"), ("Takeoff", 332, "there is no such line"), ("Takeoff", 334, "there is no such row"), ("Takeoff", 336, "there is no such variant"), ("Takeoff", 338, "there is no such mark-up"), ("Takeoff", 340, "there is no such kind"), ("Takeoff", 342, "there is no such shape"), ("Takeoff", 344, "the times are 0"), ("Takeoff", 346, "a number is out of range"), ("Takeoff", 348, "there is no room for one more"), ("Takeoff", 350, "the variant is on"), ("Takeoff", 352, "the net cost is 0")]
abbrev kNsF : List (String × Nat × String × String × String × String) := [("Takeoff", 129, "Takeoff$Estimate", "depths", "[I", "Takeoff"), ("Takeoff", 145, "Takeoff$Estimate", "needs", "[[J", "Takeoff"), ("Takeoff", 262, "Takeoff$Estimate", "amounts", "[J", "Takeoff"), ("Takeoff", 258, "Takeoff$Estimate", "surcharges", "[J", "Takeoff")]
abbrev kNsM : List (String × Nat × MethodName × String) := [("Takeoff", 75, ⟨"Takeoff$Crew", "<init>", "()V"⟩, "Takeoff"), ("Takeoff", 9, ⟨"Takeoff$Plan", "<init>", "()V"⟩, "Takeoff"), ("Takeoff$Estimate", 81, ⟨"Takeoff", "hasBit", "(II)Z"⟩, "Takeoff")]
abbrev kCst : List (String × String) := [("Takeoff$Component", "java/lang/Object"), ("Takeoff$Line", "java/lang/Object"), ("Takeoff$Crew", "java/lang/Object"), ("Takeoff$Item", "java/lang/Object"), ("Takeoff$Resource", "java/lang/Object"), ("Takeoff$Row", "java/lang/Object"), ("Takeoff$Variant", "java/lang/Object"), ("Takeoff$Markup", "java/lang/Object"), ("java/lang/IllegalArgumentException", "java/lang/IllegalArgumentException"), ("java/lang/IllegalStateException", "java/lang/IllegalStateException"), ("java/lang/IndexOutOfBoundsException", "java/lang/IndexOutOfBoundsException"), ("java/lang/UnsupportedOperationException", "java/lang/UnsupportedOperationException"), ("java/lang/ArithmeticException", "java/lang/ArithmeticException"), ("java/util/NoSuchElementException", "java/util/NoSuchElementException")]
/-- of which exceptions none is caught as the other -/
abbrev kNcs : List (String × String) := [("java/lang/IllegalArgumentException", "java/lang/IllegalStateException"), ("java/lang/IllegalArgumentException", "java/lang/IndexOutOfBoundsException"), ("java/lang/IllegalArgumentException", "java/lang/UnsupportedOperationException"), ("java/lang/IllegalArgumentException", "java/lang/ArithmeticException"), ("java/lang/IllegalArgumentException", "java/util/NoSuchElementException"), ("java/lang/IllegalStateException", "java/lang/IllegalArgumentException"), ("java/lang/IllegalStateException", "java/lang/IndexOutOfBoundsException"), ("java/lang/IllegalStateException", "java/lang/UnsupportedOperationException"), ("java/lang/IllegalStateException", "java/lang/ArithmeticException"), ("java/lang/IllegalStateException", "java/util/NoSuchElementException"), ("java/lang/IndexOutOfBoundsException", "java/lang/IllegalArgumentException"), ("java/lang/IndexOutOfBoundsException", "java/lang/IllegalStateException"), ("java/lang/IndexOutOfBoundsException", "java/lang/UnsupportedOperationException"), ("java/lang/IndexOutOfBoundsException", "java/lang/ArithmeticException"), ("java/lang/IndexOutOfBoundsException", "java/util/NoSuchElementException"), ("java/lang/UnsupportedOperationException", "java/lang/IllegalArgumentException"), ("java/lang/UnsupportedOperationException", "java/lang/IllegalStateException"), ("java/lang/UnsupportedOperationException", "java/lang/IndexOutOfBoundsException"), ("java/lang/UnsupportedOperationException", "java/lang/ArithmeticException"), ("java/lang/UnsupportedOperationException", "java/util/NoSuchElementException"), ("java/lang/ArithmeticException", "java/lang/IllegalArgumentException"), ("java/lang/ArithmeticException", "java/lang/IllegalStateException"), ("java/lang/ArithmeticException", "java/lang/IndexOutOfBoundsException"), ("java/lang/ArithmeticException", "java/lang/UnsupportedOperationException"), ("java/lang/ArithmeticException", "java/util/NoSuchElementException"), ("java/util/NoSuchElementException", "java/lang/IllegalArgumentException"), ("java/util/NoSuchElementException", "java/lang/IllegalStateException"), ("java/util/NoSuchElementException", "java/lang/IndexOutOfBoundsException"), ("java/util/NoSuchElementException", "java/lang/UnsupportedOperationException"), ("java/util/NoSuchElementException", "java/lang/ArithmeticException")]
abbrev kDcl : List MethodName := [⟨"java/lang/RuntimeException", "<init>", "(Ljava/lang/String;)V"⟩, ⟨"java/lang/Exception", "<init>", "(Ljava/lang/String;)V"⟩, ⟨"java/lang/Throwable", "<init>", "(Ljava/lang/String;)V"⟩]
theorem kAO_spec {args : Array Value} {first s : State} {o : Option Outcome} {idx : List Nat} {t : FieldType} (h : (Cond.arrayOver (.array t)).holds args first o s idx = true) :
    ∃ comp c k, s.vm.findClass (FieldType.array t).toString = some comp ∧ (s.vm.classes.findIdx? fun x => match x.kind with | .array component _ => component == comp | _ => false) = some c ∧ s.vm.classes[c]? = some k ∧ k.kind = .array comp (.array t) ∧ s.vm.findClass ("[" ++ (FieldType.array t).toString) = some c := by
  simp only [Cond.holds, Cond.value, beq_iff_eq] at h
  cases hc : s.vm.findClass (FieldType.array t).toString with
  | none => simp [hc] at h
  | some comp =>
    simp only [hc, Option.bind_some, Option.bind_eq_some_iff, Option.map_eq_some_iff] at h
    obtain ⟨c, hi, k, hk, hb⟩ := h
    obtain ⟨hlt, hp, -⟩ := Array.findIdx?_eq_some_iff_getElem.mp hi
    have hkk : s.vm.classes[c] = k := (Array.getElem?_eq_some_iff.mp hk).2
    rw [hkk] at hp
    cases hkind : k.kind with
    | array component ty =>
      rw [hkind] at hb hp
      simp at hb hp
      exact ⟨comp, c, k, rfl, hi, hk, by rw [hkind, hp, hb.1], hb.2⟩
    | _ => rw [hkind] at hb; simp at hb
theorem va_AOA.moved {ty : FieldType} {u U : State} (hvm : u.vm.Alike U.vm) (h : va_AOA ty u) : va_AOA ty U := by
  obtain ⟨comp, c, k, hcomp, hidx, hk, hkind, hname⟩ := kAO_spec h
  obtain ⟨k', hk', hek'⟩ := hvm.2.2 _ _ hk
  have hkind' : k'.kind = .array comp (.array ty) := by rw [hek']; exact hkind
  have hname' : U.vm.findClass ("[" ++ (FieldType.array ty).toString) = some c := by rw [hvm.findClass]; exact hname
  have hcomp' : U.vm.findClass (FieldType.array ty).toString = some comp := by rw [hvm.findClass]; exact hcomp
  show (Cond.arrayOver (.array ty)).holds _ _ _ _ _ = true
  simp only [Cond.holds, Cond.value, hcomp', Option.bind_some, beq_iff_eq]
  rw [Option.bind_eq_some_iff]
  refine ⟨c, (hvm.findIdx?_eqK _ (fun _ => rfl)).trans hidx, ?_⟩
  simp [hk', hkind', hname']
def kSt (tE : Nat × Nat) (A : Nat → Prop) (U : State) (H : Heap) : Prop :=
  vx_Zq Bundle.tN "UNASSIGNED_STACK" Bundle.steD A U H ∧ vx_Zq Bundle.tN "SUPPRESSED_SENTINEL" Bundle.listD A U H ∧ va_Z "java/util/ArrayList" "DEFAULTCAPACITY_EMPTY_ELEMENTDATA" "[Ljava/lang/Object;" (.ref tE.1) A U H ∧ va_T (.object "java/lang/Object") tE.1 0 (fun _ => .null) A U H ∧
  (∀ q ∈ kStr, ∃ sa, vk_R q.1 q.2.1 q.2.2 sa U) ∧ (∀ q ∈ kCst, va_Nw (.castable q.1 q.2) U) ∧ (∀ q ∈ kNsF, va_Nw (.fieldLinkNest q.1 q.2.1 q.2.2.1 q.2.2.2.1 q.2.2.2.2.1 q.2.2.2.2.2) U) ∧ (∀ q ∈ kNsM, va_Nw (.methodLinkNest q.1 q.2.1 q.2.2.1 q.2.2.2) U) ∧
  va_AO "java/lang/Object" U ∧ va_AOA .long U ∧ va_Dc U ∧ va_Mi "[Ljava/lang/Object;" tE.2 U ∧ (∀ q ∈ kNcs, va_Nc q.1 q.2 U) ∧ (∀ q ∈ kDcl, va_Nw (.declares q) U)
theorem kSt.kept {tE : Nat × Nat} {A : Nat → Prop} {U : State} {H H1 : Heap} (h : kSt tE A U H) (hq : ∀ a : Nat, a < H.size → ¬ A a → H1[a]? = H[a]?) : kSt tE A U H1 := by
  obtain ⟨h1, h2, h3, h4, h5⟩ := h
  exact ⟨h1.kept hq, h2.kept hq, h3.kept hq, h4.kept hq, h5⟩
theorem kSt.narrow {tE : Nat × Nat} {A B : Nat → Prop} {U : State} {H : Heap} (h : kSt tE A U H) (hAB : ∀ q, B q → A q) : kSt tE B U H := by
  obtain ⟨h1, h2, h3, h4, h5⟩ := h
  exact ⟨h1.narrow hAB, h2.narrow hAB, h3.narrow hAB, h4.narrow hAB, h5⟩
theorem kSt.warm {tE : Nat × Nat} {A : Nat → Prop} {s U : State} {H : Heap} (hW : s.WarmedH U.vm) (h : kSt tE A s H) : kSt tE A U H := by
  obtain ⟨h1, h2, h3, h4, h5, h6, h7, h8, h9, h10, h11, h12, h13, h14⟩ := h
  exact ⟨h1.moved hW.alike, h2.moved hW.alike, h3.moved hW.alike, h4.moved hW.alike, fun q hq => (h5 q hq).imp fun sa h => h.warm hW, fun q hq => (h6 q hq).warmC hW, fun q hq => (h7 q hq).warmF hW, fun q hq => (h8 q hq).warmM hW, h9.moved hW.alike, h10.moved hW.alike, h11.moved hW.alike, h12.moved hW.alike, fun q hq => (h13 q hq).moved hW.alike, fun q hq => (h14 q hq).warmD hW⟩
theorem kSt.same {tE : Nat × Nat} {A : Nat → Prop} {u U : State} {H : Heap} (hv : U.vm = u.vm) (h : kSt tE A u H) : kSt tE A U H := by
  have al : u.vm.Alike U.vm := by rw [hv]; exact Vm.Alike.refl _
  obtain ⟨h1, h2, h3, h4, h5, h6, h7, h8, h9, h10, h11, h12, h13, h14⟩ := h
  exact ⟨h1.moved al, h2.moved al, h3.moved al, h4.moved al, fun q hq => (h5 q hq).imp fun sa h => h.same hv, fun q hq => (h6 q hq).same rfl hv.symm, fun q hq => (h7 q hq).same rfl hv.symm, fun q hq => (h8 q hq).same rfl hv.symm, h9.moved al, h10.moved al, h11.moved al, h12.moved al, fun q hq => (h13 q hq).moved al, fun q hq => (h14 q hq).same rfl hv.symm⟩

/-! A WORLD BY KEYS. ks: the keys that are there; ad: their addresses; E: what each holds. kv: 'from here the method comes to its end', with the heap, its places and the locals' array bound inside. -/
abbrev kT : Type := List Nat × (Nat → Nat) × (Nat → va_E)
abbrev kDD : Type := va_G × ClassId × ClassId × ClassId × ClassId × ClassId × Nat × Nat
abbrev kG : Type := Program × Launch × Env × Room × State × MethodId × Array Value × List Frame × Method × Code × (State → Prop) × (Nat → Prop) × Nat
/-- the array classes: of ints, longs, objects, rows of longs, doubles -/
def kty (dd : kDD) : List (ClassId × FieldType) := [(dd.2.1, .int), (dd.2.2.1, .long), (dd.2.2.2.1, .object "java/lang/Object"), (dd.2.2.2.2.1, .array .long)]
def ktE (dd : kDD) : Nat × Nat := dd.2.2.2.2.2.2
def kI (dd : kDD) (n : Nat) (f : Nat → Int32) : va_E := .inl (dd.2.1, n, .inl f)
def kJ (dd : kDD) (n : Nat) (f : Nat → Int64) : va_E := .inl (dd.2.2.1, n, .inr (.inl f))
def kO (dd : kDD) (n : Nat) (f : Nat → Option Nat) : va_E := .inl (dd.2.2.2.1, n, .inr (.inr (.inr (.inr f))))
def kJJ (dd : kDD) (n : Nat) (f : Nat → Option Nat) : va_E := .inl (dd.2.2.2.2.1, n, .inr (.inr (.inr (.inr f))))
def kDb (dd : kDD) (n : Nat) (f : Nat → UInt64) : va_E := .inl (dd.2.2.2.2.2.1, n, .inr (.inr (.inr (.inl f))))
def kw (ks : List Nat) (ad : Nat → Nat) (E : Nat → va_E) : va_W := ks.map (fun k => (ad k, E k))
theorem kw_get {ks : List Nat} {ad : Nat → Nat} {E : Nat → va_E} {k : Nat} (h : k ∈ ks) : ∃ i : Nat, (kw ks ad E)[i]? = some (ad k, E k) := List.getElem?_of_mem (List.mem_map.mpr ⟨k, h, rfl⟩)
theorem kw_at {ks : List Nat} {ad : Nat → Nat} {E : Nat → va_E} {i : Nat} {q : Nat × va_E} (h : (kw ks ad E)[i]? = some q) : ∃ k : Nat, ks[i]? = some k ∧ k ∈ ks ∧ q = (ad k, E k) := by
  unfold kw at h
  rw [List.getElem?_map] at h
  cases hk : ks[i]? with
  | none => rw [hk] at h; cases h
  | some k =>
    rw [hk] at h
    cases h
    exact ⟨k, rfl, List.mem_of_getElem? hk, rfl⟩
theorem kw_inj {A : Nat → Prop} {ks : List Nat} {ad : Nat → Nat} {E : Nat → va_E} (hD : va_D A (kw ks ad E)) {k j : Nat} (hk : k ∈ ks) (hj : j ∈ ks) (h : ad k = ad j) : k = j := by
  obtain ⟨i1, h1⟩ := List.getElem?_of_mem hk
  obtain ⟨i2, h2⟩ := List.getElem?_of_mem hj
  have e1 : (kw ks ad E)[i1]? = some (ad k, E k) := by unfold kw; rw [List.getElem?_map, h1]; rfl
  have e2 : (kw ks ad E)[i2]? = some (ad j, E j) := by unfold kw; rw [List.getElem?_map, h2]; rfl
  have := hD.1 i1 i2 _ _ e1 e2 h
  subst this
  rw [h1] at h2
  exact Option.some.inj h2
theorem kw_set {A : Nat → Prop} {ks : List Nat} {ad : Nat → Nat} {E : Nat → va_E} {k i : Nat} {e : va_E} (hD : va_D A (kw ks ad E)) (hk : k ∈ ks) (hi : (kw ks ad E)[i]? = some (ad k, E k)) : (kw ks ad E).set i (ad k, e) = kw ks ad (va_up E k e) := by
  apply List.ext_getElem?
  intro j
  have hlen := (List.getElem?_eq_some_iff.mp hi).1
  by_cases hj : j = i
  · subst hj
    rw [List.getElem?_set_self hlen]
    obtain ⟨k', h1, h2, h3⟩ := kw_at hi
    have : k' = k := kw_inj hD h2 hk (by have := congrArg Prod.fst h3; exact this.symm)
    subst this
    unfold kw
    rw [List.getElem?_map, h1]
    simp [va_up]
  · rw [List.getElem?_set_ne (Ne.symm hj)]
    cases hb : ks[j]? with
    | none => unfold kw; rw [List.getElem?_map, List.getElem?_map, hb]; rfl
    | some b =>
      have hbk : b ≠ k := by
        intro e0
        subst e0
        have e2 : (kw ks ad E)[j]? = some (ad b, E b) := by unfold kw; rw [List.getElem?_map, hb]; rfl
        exact hj (hD.1 j i _ _ e2 hi rfl)
      unfold kw
      rw [List.getElem?_map, List.getElem?_map, hb]
      simp [va_up, hbk]
theorem kw_push {ks : List Nat} {ad : Nat → Nat} {E : Nat → va_E} {k q : Nat} {e : va_E} (h : k ∉ ks) : kw ks ad E ++ [(q, e)] = kw (ks ++ [k]) (va_up ad k q) (va_up E k e) := by
  unfold kw
  rw [List.map_append]
  congr 1
  · apply List.map_congr_left
    intro b hb
    have hbk : b ≠ k := fun e0 => h (e0 ▸ hb)
    simp [va_up, hbk]
  · simp [va_up]
theorem kw_congr {ks : List Nat} {ad ad' : Nat → Nat} {E E' : Nat → va_E} (h : ∀ k, k ∈ ks → ad k = ad' k ∧ E k = E' k) : kw ks ad E = kw ks ad' E' := by
  unfold kw
  apply List.map_congr_left
  intro b hb
  rw [(h b hb).1, (h b hb).2]
/-- the world of a launch at a frame -/
def kv (dd : kDD) (g : kG) (a b pc : Nat) (lv : List (Nat × Value)) (st : List Value) (ks : List Nat) (ad : Nat → Nat) (E : Nat → va_E) : Prop := match g with
  | (p, l, e, R, s, m, args, below, meth, c, Q, A, nL) => ∀ (H : Heap) (locs : List Loc) (ls : Array Slot), va_P dd.1 vwCl (kw ks ad E) H → va_D A (kw ks ad E) → va_S A s.heap H locs → lv_has ls nL lv → W p l e R s m args below meth c H locs a b Q (F0 m pc ls st)
def kX (dd : kDD) (g : kG) (cc : ByteArray) (own : String) (Ts : List Cond) : Prop := match g with
  | (p, l, e, R, s, m, args, below, meth, c, Q, A, nL) => p.tables.exec = Jvm.exec ∧ c.code = cc ∧ s.vm.findClass own = some m.cls ∧ (∀ w ∈ Ts, w.before args s = true) ∧ va_K dd.1 vwCl (kty dd) s ∧ (∀ q, s.heap.size ≤ q → A q) ∧ c.maxLocals = nL ∧ kSt (ktE dd) A s s.heap ∧ l.stackTraces = false
def kname (g : kG) : String := g.2.2.2.2.2.2.2.2.1.name
def knL (g : kG) : Nat := g.2.2.2.2.2.2.2.2.2.2.2.2
def kR (g : kG) : Room := g.2.2.2.1

theorem kv_iconst {dd : kDD} {g : kG} {cc : ByteArray} {own : String} {Ts : List Cond} {a b pc : Nat} {lv : List (Nat × Value)} {st : List Value} {ks : List Nat} {ad : Nat → Nat} {E : Nat → va_E} (C : kX dd g cc own Ts) {n : Int} {v : Int32} (d : decode cc pc = .ok (.iconst n, 1)) (hv : Int32.ofInt n = v) (k : kv dd g a b (pc + 1) lv (.int v :: st) ks ad E) : kv dd g a b pc lv st ks ad E := by
  obtain ⟨p, l, e, R, s, m, args, below, meth, c, Q, A, nL⟩ := g
  obtain ⟨hx, hb, hown, hts, hK, hA, hml, hZ, hst⟩ := C
  intro H locs ls hP hD hS hl
  exact lv_iconst hx hb d hv (k H locs ls hP hD hS hl)
theorem kv_bipush {dd : kDD} {g : kG} {cc : ByteArray} {own : String} {Ts : List Cond} {a b pc : Nat} {lv : List (Nat × Value)} {st : List Value} {ks : List Nat} {ad : Nat → Nat} {E : Nat → va_E} (C : kX dd g cc own Ts) {n : Int} {v : Int32} (d : decode cc pc = .ok (.bipush n, 2)) (hv : (Int8.ofInt n).toInt32 = v) (k : kv dd g a b (pc + 2) lv (.int v :: st) ks ad E) : kv dd g a b pc lv st ks ad E := by
  obtain ⟨p, l, e, R, s, m, args, below, meth, c, Q, A, nL⟩ := g
  obtain ⟨hx, hb, hown, hts, hK, hA, hml, hZ, hst⟩ := C
  intro H locs ls hP hD hS hl
  exact lv_bipush hx hb d hv (k H locs ls hP hD hS hl)
theorem kv_sipush {dd : kDD} {g : kG} {cc : ByteArray} {own : String} {Ts : List Cond} {a b pc : Nat} {lv : List (Nat × Value)} {st : List Value} {ks : List Nat} {ad : Nat → Nat} {E : Nat → va_E} (C : kX dd g cc own Ts) {n : Int} {v : Int32} (d : decode cc pc = .ok (.sipush n, 3)) (hv : (Int16.ofInt n).toInt32 = v) (k : kv dd g a b (pc + 3) lv (.int v :: st) ks ad E) : kv dd g a b pc lv st ks ad E := by
  obtain ⟨p, l, e, R, s, m, args, below, meth, c, Q, A, nL⟩ := g
  obtain ⟨hx, hb, hown, hts, hK, hA, hml, hZ, hst⟩ := C
  intro H locs ls hP hD hS hl
  exact lv_sipush hx hb d hv (k H locs ls hP hD hS hl)
theorem kv_lconst {dd : kDD} {g : kG} {cc : ByteArray} {own : String} {Ts : List Cond} {a b pc : Nat} {lv : List (Nat × Value)} {st : List Value} {ks : List Nat} {ad : Nat → Nat} {E : Nat → va_E} (C : kX dd g cc own Ts) {n : Fin 2} {v : Int64} (d : decode cc pc = .ok (.lconst n, 1)) (hv : Int64.ofNat (n : Nat) = v) (k : kv dd g a b (pc + 1) lv (.long v :: st) ks ad E) : kv dd g a b pc lv st ks ad E := by
  obtain ⟨p, l, e, R, s, m, args, below, meth, c, Q, A, nL⟩ := g
  obtain ⟨hx, hb, hown, hts, hK, hA, hml, hZ, hst⟩ := C
  intro H locs ls hP hD hS hl
  exact lv_lconst hx hb d hv (k H locs ls hP hD hS hl)
theorem kv_null {dd : kDD} {g : kG} {cc : ByteArray} {own : String} {Ts : List Cond} {a b pc : Nat} {lv : List (Nat × Value)} {st : List Value} {ks : List Nat} {ad : Nat → Nat} {E : Nat → va_E} (C : kX dd g cc own Ts)  (d : decode cc pc = .ok (.aconst_null, 1))  (k : kv dd g a b (pc + 1) lv (.null :: st) ks ad E) : kv dd g a b pc lv st ks ad E := by
  obtain ⟨p, l, e, R, s, m, args, below, meth, c, Q, A, nL⟩ := g
  obtain ⟨hx, hb, hown, hts, hK, hA, hml, hZ, hst⟩ := C
  intro H locs ls hP hD hS hl
  exact lv_null hx hb d  (k H locs ls hP hD hS hl)
theorem kv_iload_n {dd : kDD} {g : kG} {cc : ByteArray} {own : String} {Ts : List Cond} {a b pc : Nat} {lv : List (Nat × Value)} {st : List Value} {ks : List Nat} {ad : Nat → Nat} {E : Nat → va_E} (C : kX dd g cc own Ts) {n : Fin 4} {i : Nat} {x : Int32} (j : Nat) (d : decode cc pc = .ok (.iload_n n, 1)) (hi : (n : Nat) = i) (h : lv[j]? = some (i, .int x)) (k : kv dd g a b (pc + 1) lv (.int x :: st) ks ad E) : kv dd g a b pc lv st ks ad E := by
  obtain ⟨p, l, e, R, s, m, args, below, meth, c, Q, A, nL⟩ := g
  obtain ⟨hx, hb, hown, hts, hK, hA, hml, hZ, hst⟩ := C
  intro H locs ls hP hD hS hl
  exact lv_iload_n hx hb d hi (lv_at hl j h) (k H locs ls hP hD hS hl)
theorem kv_iload {dd : kDD} {g : kG} {cc : ByteArray} {own : String} {Ts : List Cond} {a b pc : Nat} {lv : List (Nat × Value)} {st : List Value} {ks : List Nat} {ad : Nat → Nat} {E : Nat → va_E} (C : kX dd g cc own Ts) {i : Nat} {x : Int32} (j : Nat) (d : decode cc pc = .ok (.iload i, 2)) (h : lv[j]? = some (i, .int x)) (k : kv dd g a b (pc + 2) lv (.int x :: st) ks ad E) : kv dd g a b pc lv st ks ad E := by
  obtain ⟨p, l, e, R, s, m, args, below, meth, c, Q, A, nL⟩ := g
  obtain ⟨hx, hb, hown, hts, hK, hA, hml, hZ, hst⟩ := C
  intro H locs ls hP hD hS hl
  exact lv_iload hx hb d (lv_at hl j h) (k H locs ls hP hD hS hl)
theorem kv_istore_n {dd : kDD} {g : kG} {cc : ByteArray} {own : String} {Ts : List Cond} {a b pc : Nat} {lv : List (Nat × Value)} {st : List Value} {ks : List Nat} {ad : Nat → Nat} {E : Nat → va_E} (C : kX dd g cc own Ts) {n : Fin 4} {i : Nat} {x : Int32} {lv2 : List (Nat × Value)} (d : decode cc pc = .ok (.istore_n n, 1)) (hi : (n : Nat) = i) (hn : i < knL g) (hv : (i, .int x) :: lv.filter (fun q => !(q.1 == i) && !(q.1 + 1 == i && q.2.category == 2)) = lv2) (k : kv dd g a b (pc + 1) lv2 st ks ad E) : kv dd g a b pc lv (.int x :: st) ks ad E := by
  obtain ⟨p, l, e, R, s, m, args, below, meth, c, Q, A, nL⟩ := g
  obtain ⟨hx, hb, hown, hts, hK, hA, hml, hZ, hst⟩ := C
  intro H locs ls hP hD hS hl
  exact lv_istore_n hx hb d hi hl hn hv (fun ls2 hl2 => k H locs ls2 hP hD hS hl2)
theorem kv_istore {dd : kDD} {g : kG} {cc : ByteArray} {own : String} {Ts : List Cond} {a b pc : Nat} {lv : List (Nat × Value)} {st : List Value} {ks : List Nat} {ad : Nat → Nat} {E : Nat → va_E} (C : kX dd g cc own Ts) {i : Nat} {x : Int32} {lv2 : List (Nat × Value)} (d : decode cc pc = .ok (.istore i, 2)) (hn : i < knL g) (hv : (i, .int x) :: lv.filter (fun q => !(q.1 == i) && !(q.1 + 1 == i && q.2.category == 2)) = lv2) (k : kv dd g a b (pc + 2) lv2 st ks ad E) : kv dd g a b pc lv (.int x :: st) ks ad E := by
  obtain ⟨p, l, e, R, s, m, args, below, meth, c, Q, A, nL⟩ := g
  obtain ⟨hx, hb, hown, hts, hK, hA, hml, hZ, hst⟩ := C
  intro H locs ls hP hD hS hl
  exact lv_istore hx hb d hl hn hv (fun ls2 hl2 => k H locs ls2 hP hD hS hl2)
theorem kv_lload_n {dd : kDD} {g : kG} {cc : ByteArray} {own : String} {Ts : List Cond} {a b pc : Nat} {lv : List (Nat × Value)} {st : List Value} {ks : List Nat} {ad : Nat → Nat} {E : Nat → va_E} (C : kX dd g cc own Ts) {n : Fin 4} {i : Nat} {x : Int64} (j : Nat) (d : decode cc pc = .ok (.lload_n n, 1)) (hi : (n : Nat) = i) (h : lv[j]? = some (i, .long x)) (k : kv dd g a b (pc + 1) lv (.long x :: st) ks ad E) : kv dd g a b pc lv st ks ad E := by
  obtain ⟨p, l, e, R, s, m, args, below, meth, c, Q, A, nL⟩ := g
  obtain ⟨hx, hb, hown, hts, hK, hA, hml, hZ, hst⟩ := C
  intro H locs ls hP hD hS hl
  exact lv_lload_n hx hb d hi (lv_at hl j h) (k H locs ls hP hD hS hl)
theorem kv_lload {dd : kDD} {g : kG} {cc : ByteArray} {own : String} {Ts : List Cond} {a b pc : Nat} {lv : List (Nat × Value)} {st : List Value} {ks : List Nat} {ad : Nat → Nat} {E : Nat → va_E} (C : kX dd g cc own Ts) {i : Nat} {x : Int64} (j : Nat) (d : decode cc pc = .ok (.lload i, 2)) (h : lv[j]? = some (i, .long x)) (k : kv dd g a b (pc + 2) lv (.long x :: st) ks ad E) : kv dd g a b pc lv st ks ad E := by
  obtain ⟨p, l, e, R, s, m, args, below, meth, c, Q, A, nL⟩ := g
  obtain ⟨hx, hb, hown, hts, hK, hA, hml, hZ, hst⟩ := C
  intro H locs ls hP hD hS hl
  exact lv_lload hx hb d (lv_at hl j h) (k H locs ls hP hD hS hl)
theorem kv_lstore_n {dd : kDD} {g : kG} {cc : ByteArray} {own : String} {Ts : List Cond} {a b pc : Nat} {lv : List (Nat × Value)} {st : List Value} {ks : List Nat} {ad : Nat → Nat} {E : Nat → va_E} (C : kX dd g cc own Ts) {n : Fin 4} {i : Nat} {x : Int64} {lv2 : List (Nat × Value)} (d : decode cc pc = .ok (.lstore_n n, 1)) (hi : (n : Nat) = i) (hn : i + 1 < knL g) (hv : (i, .long x) :: lv.filter (fun q => !(q.1 == i) && (!(q.1 == i + 1) && !(q.1 + 1 == i && q.2.category == 2))) = lv2) (k : kv dd g a b (pc + 1) lv2 st ks ad E) : kv dd g a b pc lv (.long x :: st) ks ad E := by
  obtain ⟨p, l, e, R, s, m, args, below, meth, c, Q, A, nL⟩ := g
  obtain ⟨hx, hb, hown, hts, hK, hA, hml, hZ, hst⟩ := C
  intro H locs ls hP hD hS hl
  exact lv_lstore_n hx hb d hi hl hn hv (fun ls2 hl2 => k H locs ls2 hP hD hS hl2)
theorem kv_lstore {dd : kDD} {g : kG} {cc : ByteArray} {own : String} {Ts : List Cond} {a b pc : Nat} {lv : List (Nat × Value)} {st : List Value} {ks : List Nat} {ad : Nat → Nat} {E : Nat → va_E} (C : kX dd g cc own Ts) {i : Nat} {x : Int64} {lv2 : List (Nat × Value)} (d : decode cc pc = .ok (.lstore i, 2)) (hn : i + 1 < knL g) (hv : (i, .long x) :: lv.filter (fun q => !(q.1 == i) && (!(q.1 == i + 1) && !(q.1 + 1 == i && q.2.category == 2))) = lv2) (k : kv dd g a b (pc + 2) lv2 st ks ad E) : kv dd g a b pc lv (.long x :: st) ks ad E := by
  obtain ⟨p, l, e, R, s, m, args, below, meth, c, Q, A, nL⟩ := g
  obtain ⟨hx, hb, hown, hts, hK, hA, hml, hZ, hst⟩ := C
  intro H locs ls hP hD hS hl
  exact lv_lstore hx hb d hl hn hv (fun ls2 hl2 => k H locs ls2 hP hD hS hl2)
theorem kv_aload_n {dd : kDD} {g : kG} {cc : ByteArray} {own : String} {Ts : List Cond} {a b pc : Nat} {lv : List (Nat × Value)} {st : List Value} {ks : List Nat} {ad : Nat → Nat} {E : Nat → va_E} (C : kX dd g cc own Ts) {n : Fin 4} {i : Nat} {x : Nat} (j : Nat) (d : decode cc pc = .ok (.aload_n n, 1)) (hi : (n : Nat) = i) (h : lv[j]? = some (i, .ref x)) (k : kv dd g a b (pc + 1) lv (.ref x :: st) ks ad E) : kv dd g a b pc lv st ks ad E := by
  obtain ⟨p, l, e, R, s, m, args, below, meth, c, Q, A, nL⟩ := g
  obtain ⟨hx, hb, hown, hts, hK, hA, hml, hZ, hst⟩ := C
  intro H locs ls hP hD hS hl
  exact lv_aload_n hx hb d hi (lv_at hl j h) (k H locs ls hP hD hS hl)
theorem kv_aload {dd : kDD} {g : kG} {cc : ByteArray} {own : String} {Ts : List Cond} {a b pc : Nat} {lv : List (Nat × Value)} {st : List Value} {ks : List Nat} {ad : Nat → Nat} {E : Nat → va_E} (C : kX dd g cc own Ts) {i : Nat} {x : Nat} (j : Nat) (d : decode cc pc = .ok (.aload i, 2)) (h : lv[j]? = some (i, .ref x)) (k : kv dd g a b (pc + 2) lv (.ref x :: st) ks ad E) : kv dd g a b pc lv st ks ad E := by
  obtain ⟨p, l, e, R, s, m, args, below, meth, c, Q, A, nL⟩ := g
  obtain ⟨hx, hb, hown, hts, hK, hA, hml, hZ, hst⟩ := C
  intro H locs ls hP hD hS hl
  exact lv_aload hx hb d (lv_at hl j h) (k H locs ls hP hD hS hl)
theorem kv_astore_n {dd : kDD} {g : kG} {cc : ByteArray} {own : String} {Ts : List Cond} {a b pc : Nat} {lv : List (Nat × Value)} {st : List Value} {ks : List Nat} {ad : Nat → Nat} {E : Nat → va_E} (C : kX dd g cc own Ts) {n : Fin 4} {i : Nat} {x : Nat} {lv2 : List (Nat × Value)} (d : decode cc pc = .ok (.astore_n n, 1)) (hi : (n : Nat) = i) (hn : i < knL g) (hv : (i, .ref x) :: lv.filter (fun q => !(q.1 == i) && !(q.1 + 1 == i && q.2.category == 2)) = lv2) (k : kv dd g a b (pc + 1) lv2 st ks ad E) : kv dd g a b pc lv (.ref x :: st) ks ad E := by
  obtain ⟨p, l, e, R, s, m, args, below, meth, c, Q, A, nL⟩ := g
  obtain ⟨hx, hb, hown, hts, hK, hA, hml, hZ, hst⟩ := C
  intro H locs ls hP hD hS hl
  exact lv_astore_n hx hb d hi hl hn hv (fun ls2 hl2 => k H locs ls2 hP hD hS hl2)
theorem kv_astore {dd : kDD} {g : kG} {cc : ByteArray} {own : String} {Ts : List Cond} {a b pc : Nat} {lv : List (Nat × Value)} {st : List Value} {ks : List Nat} {ad : Nat → Nat} {E : Nat → va_E} (C : kX dd g cc own Ts) {i : Nat} {x : Nat} {lv2 : List (Nat × Value)} (d : decode cc pc = .ok (.astore i, 2)) (hn : i < knL g) (hv : (i, .ref x) :: lv.filter (fun q => !(q.1 == i) && !(q.1 + 1 == i && q.2.category == 2)) = lv2) (k : kv dd g a b (pc + 2) lv2 st ks ad E) : kv dd g a b pc lv (.ref x :: st) ks ad E := by
  obtain ⟨p, l, e, R, s, m, args, below, meth, c, Q, A, nL⟩ := g
  obtain ⟨hx, hb, hown, hts, hK, hA, hml, hZ, hst⟩ := C
  intro H locs ls hP hD hS hl
  exact lv_astore hx hb d hl hn hv (fun ls2 hl2 => k H locs ls2 hP hD hS hl2)
theorem kv_dload_n {dd : kDD} {g : kG} {cc : ByteArray} {own : String} {Ts : List Cond} {a b pc : Nat} {lv : List (Nat × Value)} {st : List Value} {ks : List Nat} {ad : Nat → Nat} {E : Nat → va_E} (C : kX dd g cc own Ts) {n : Fin 4} {i : Nat} {x : UInt64} (j : Nat) (d : decode cc pc = .ok (.dload_n n, 1)) (hi : (n : Nat) = i) (h : lv[j]? = some (i, .double x)) (k : kv dd g a b (pc + 1) lv (.double x :: st) ks ad E) : kv dd g a b pc lv st ks ad E := by
  obtain ⟨p, l, e, R, s, m, args, below, meth, c, Q, A, nL⟩ := g
  obtain ⟨hx, hb, hown, hts, hK, hA, hml, hZ, hst⟩ := C
  intro H locs ls hP hD hS hl
  exact lv_dload_n hx hb d hi (lv_at hl j h) (k H locs ls hP hD hS hl)
theorem kv_dload {dd : kDD} {g : kG} {cc : ByteArray} {own : String} {Ts : List Cond} {a b pc : Nat} {lv : List (Nat × Value)} {st : List Value} {ks : List Nat} {ad : Nat → Nat} {E : Nat → va_E} (C : kX dd g cc own Ts) {i : Nat} {x : UInt64} (j : Nat) (d : decode cc pc = .ok (.dload i, 2)) (h : lv[j]? = some (i, .double x)) (k : kv dd g a b (pc + 2) lv (.double x :: st) ks ad E) : kv dd g a b pc lv st ks ad E := by
  obtain ⟨p, l, e, R, s, m, args, below, meth, c, Q, A, nL⟩ := g
  obtain ⟨hx, hb, hown, hts, hK, hA, hml, hZ, hst⟩ := C
  intro H locs ls hP hD hS hl
  exact lv_dload hx hb d (lv_at hl j h) (k H locs ls hP hD hS hl)
theorem kv_dstore_n {dd : kDD} {g : kG} {cc : ByteArray} {own : String} {Ts : List Cond} {a b pc : Nat} {lv : List (Nat × Value)} {st : List Value} {ks : List Nat} {ad : Nat → Nat} {E : Nat → va_E} (C : kX dd g cc own Ts) {n : Fin 4} {i : Nat} {x : UInt64} {lv2 : List (Nat × Value)} (d : decode cc pc = .ok (.dstore_n n, 1)) (hi : (n : Nat) = i) (hn : i + 1 < knL g) (hv : (i, .double x) :: lv.filter (fun q => !(q.1 == i) && (!(q.1 == i + 1) && !(q.1 + 1 == i && q.2.category == 2))) = lv2) (k : kv dd g a b (pc + 1) lv2 st ks ad E) : kv dd g a b pc lv (.double x :: st) ks ad E := by
  obtain ⟨p, l, e, R, s, m, args, below, meth, c, Q, A, nL⟩ := g
  obtain ⟨hx, hb, hown, hts, hK, hA, hml, hZ, hst⟩ := C
  intro H locs ls hP hD hS hl
  exact lv_dstore_n hx hb d hi hl hn hv (fun ls2 hl2 => k H locs ls2 hP hD hS hl2)
theorem kv_dstore {dd : kDD} {g : kG} {cc : ByteArray} {own : String} {Ts : List Cond} {a b pc : Nat} {lv : List (Nat × Value)} {st : List Value} {ks : List Nat} {ad : Nat → Nat} {E : Nat → va_E} (C : kX dd g cc own Ts) {i : Nat} {x : UInt64} {lv2 : List (Nat × Value)} (d : decode cc pc = .ok (.dstore i, 2)) (hn : i + 1 < knL g) (hv : (i, .double x) :: lv.filter (fun q => !(q.1 == i) && (!(q.1 == i + 1) && !(q.1 + 1 == i && q.2.category == 2))) = lv2) (k : kv dd g a b (pc + 2) lv2 st ks ad E) : kv dd g a b pc lv (.double x :: st) ks ad E := by
  obtain ⟨p, l, e, R, s, m, args, below, meth, c, Q, A, nL⟩ := g
  obtain ⟨hx, hb, hown, hts, hK, hA, hml, hZ, hst⟩ := C
  intro H locs ls hP hD hS hl
  exact lv_dstore hx hb d hl hn hv (fun ls2 hl2 => k H locs ls2 hP hD hS hl2)
theorem kv_fload_n {dd : kDD} {g : kG} {cc : ByteArray} {own : String} {Ts : List Cond} {a b pc : Nat} {lv : List (Nat × Value)} {st : List Value} {ks : List Nat} {ad : Nat → Nat} {E : Nat → va_E} (C : kX dd g cc own Ts) {n : Fin 4} {i : Nat} {x : UInt32} (j : Nat) (d : decode cc pc = .ok (.fload_n n, 1)) (hi : (n : Nat) = i) (h : lv[j]? = some (i, .float x)) (k : kv dd g a b (pc + 1) lv (.float x :: st) ks ad E) : kv dd g a b pc lv st ks ad E := by
  obtain ⟨p, l, e, R, s, m, args, below, meth, c, Q, A, nL⟩ := g
  obtain ⟨hx, hb, hown, hts, hK, hA, hml, hZ, hst⟩ := C
  intro H locs ls hP hD hS hl
  exact lv_fload_n hx hb d hi (lv_at hl j h) (k H locs ls hP hD hS hl)
theorem kv_fload {dd : kDD} {g : kG} {cc : ByteArray} {own : String} {Ts : List Cond} {a b pc : Nat} {lv : List (Nat × Value)} {st : List Value} {ks : List Nat} {ad : Nat → Nat} {E : Nat → va_E} (C : kX dd g cc own Ts) {i : Nat} {x : UInt32} (j : Nat) (d : decode cc pc = .ok (.fload i, 2)) (h : lv[j]? = some (i, .float x)) (k : kv dd g a b (pc + 2) lv (.float x :: st) ks ad E) : kv dd g a b pc lv st ks ad E := by
  obtain ⟨p, l, e, R, s, m, args, below, meth, c, Q, A, nL⟩ := g
  obtain ⟨hx, hb, hown, hts, hK, hA, hml, hZ, hst⟩ := C
  intro H locs ls hP hD hS hl
  exact lv_fload hx hb d (lv_at hl j h) (k H locs ls hP hD hS hl)
theorem kv_fstore_n {dd : kDD} {g : kG} {cc : ByteArray} {own : String} {Ts : List Cond} {a b pc : Nat} {lv : List (Nat × Value)} {st : List Value} {ks : List Nat} {ad : Nat → Nat} {E : Nat → va_E} (C : kX dd g cc own Ts) {n : Fin 4} {i : Nat} {x : UInt32} {lv2 : List (Nat × Value)} (d : decode cc pc = .ok (.fstore_n n, 1)) (hi : (n : Nat) = i) (hn : i < knL g) (hv : (i, .float x) :: lv.filter (fun q => !(q.1 == i) && !(q.1 + 1 == i && q.2.category == 2)) = lv2) (k : kv dd g a b (pc + 1) lv2 st ks ad E) : kv dd g a b pc lv (.float x :: st) ks ad E := by
  obtain ⟨p, l, e, R, s, m, args, below, meth, c, Q, A, nL⟩ := g
  obtain ⟨hx, hb, hown, hts, hK, hA, hml, hZ, hst⟩ := C
  intro H locs ls hP hD hS hl
  exact lv_fstore_n hx hb d hi hl hn hv (fun ls2 hl2 => k H locs ls2 hP hD hS hl2)
theorem kv_fstore {dd : kDD} {g : kG} {cc : ByteArray} {own : String} {Ts : List Cond} {a b pc : Nat} {lv : List (Nat × Value)} {st : List Value} {ks : List Nat} {ad : Nat → Nat} {E : Nat → va_E} (C : kX dd g cc own Ts) {i : Nat} {x : UInt32} {lv2 : List (Nat × Value)} (d : decode cc pc = .ok (.fstore i, 2)) (hn : i < knL g) (hv : (i, .float x) :: lv.filter (fun q => !(q.1 == i) && !(q.1 + 1 == i && q.2.category == 2)) = lv2) (k : kv dd g a b (pc + 2) lv2 st ks ad E) : kv dd g a b pc lv (.float x :: st) ks ad E := by
  obtain ⟨p, l, e, R, s, m, args, below, meth, c, Q, A, nL⟩ := g
  obtain ⟨hx, hb, hown, hts, hK, hA, hml, hZ, hst⟩ := C
  intro H locs ls hP hD hS hl
  exact lv_fstore hx hb d hl hn hv (fun ls2 hl2 => k H locs ls2 hP hD hS hl2)
theorem kv_iinc {dd : kDD} {g : kG} {cc : ByteArray} {own : String} {Ts : List Cond} {a b pc : Nat} {lv : List (Nat × Value)} {st : List Value} {ks : List Nat} {ad : Nat → Nat} {E : Nat → va_E} (C : kX dd g cc own Ts) {i j : Nat} {n : Int} {x v : Int32} {lv2 : List (Nat × Value)} (d : decode cc pc = .ok (.iinc i n, 3)) (hk : lv[j]? = some (i, .int x)) (hv : x + Int32.ofInt n = v) (hn : i < knL g) (hl2 : (i, .int v) :: lv.filter (fun q => !(q.1 == i) && !(q.1 + 1 == i && q.2.category == 2)) = lv2) (k : kv dd g a b (pc + 3) lv2 st ks ad E) : kv dd g a b pc lv st ks ad E := by
  obtain ⟨p, l, e, R, s, m, args, below, meth, c, Q, A, nL⟩ := g
  obtain ⟨hx, hb, hown, hts, hK, hA, hml, hZ, hst⟩ := C
  intro H locs ls hP hD hS hl
  exact lv_iinc hx hb d hl hk hv hn hl2 (fun ls2 hl2 => k H locs ls2 hP hD hS hl2)
theorem kv_iadd {dd : kDD} {g : kG} {cc : ByteArray} {own : String} {Ts : List Cond} {a b pc : Nat} {lv : List (Nat × Value)} {st : List Value} {ks : List Nat} {ad : Nat → Nat} {E : Nat → va_E} (C : kX dd g cc own Ts) {x y : Int32} (d : decode cc pc = .ok (.iadd, 1))  (k : kv dd g a b (pc + 1) lv (.int (x + y) :: st) ks ad E) : kv dd g a b pc lv (.int y :: .int x :: st) ks ad E := by
  obtain ⟨p, l, e, R, s, m, args, below, meth, c, Q, A, nL⟩ := g
  obtain ⟨hx, hb, hown, hts, hK, hA, hml, hZ, hst⟩ := C
  intro H locs ls hP hD hS hl
  exact lv_iadd hx hb d  (k H locs ls hP hD hS hl)
theorem kv_isub {dd : kDD} {g : kG} {cc : ByteArray} {own : String} {Ts : List Cond} {a b pc : Nat} {lv : List (Nat × Value)} {st : List Value} {ks : List Nat} {ad : Nat → Nat} {E : Nat → va_E} (C : kX dd g cc own Ts) {x y : Int32} (d : decode cc pc = .ok (.isub, 1))  (k : kv dd g a b (pc + 1) lv (.int (x - y) :: st) ks ad E) : kv dd g a b pc lv (.int y :: .int x :: st) ks ad E := by
  obtain ⟨p, l, e, R, s, m, args, below, meth, c, Q, A, nL⟩ := g
  obtain ⟨hx, hb, hown, hts, hK, hA, hml, hZ, hst⟩ := C
  intro H locs ls hP hD hS hl
  exact lv_isub hx hb d  (k H locs ls hP hD hS hl)
theorem kv_imul {dd : kDD} {g : kG} {cc : ByteArray} {own : String} {Ts : List Cond} {a b pc : Nat} {lv : List (Nat × Value)} {st : List Value} {ks : List Nat} {ad : Nat → Nat} {E : Nat → va_E} (C : kX dd g cc own Ts) {x y : Int32} (d : decode cc pc = .ok (.imul, 1))  (k : kv dd g a b (pc + 1) lv (.int (x * y) :: st) ks ad E) : kv dd g a b pc lv (.int y :: .int x :: st) ks ad E := by
  obtain ⟨p, l, e, R, s, m, args, below, meth, c, Q, A, nL⟩ := g
  obtain ⟨hx, hb, hown, hts, hK, hA, hml, hZ, hst⟩ := C
  intro H locs ls hP hD hS hl
  exact lv_imul hx hb d  (k H locs ls hP hD hS hl)
theorem kv_iand {dd : kDD} {g : kG} {cc : ByteArray} {own : String} {Ts : List Cond} {a b pc : Nat} {lv : List (Nat × Value)} {st : List Value} {ks : List Nat} {ad : Nat → Nat} {E : Nat → va_E} (C : kX dd g cc own Ts) {x y : Int32} (d : decode cc pc = .ok (.iand, 1))  (k : kv dd g a b (pc + 1) lv (.int (x &&& y) :: st) ks ad E) : kv dd g a b pc lv (.int y :: .int x :: st) ks ad E := by
  obtain ⟨p, l, e, R, s, m, args, below, meth, c, Q, A, nL⟩ := g
  obtain ⟨hx, hb, hown, hts, hK, hA, hml, hZ, hst⟩ := C
  intro H locs ls hP hD hS hl
  exact lv_iand hx hb d  (k H locs ls hP hD hS hl)
theorem kv_ior {dd : kDD} {g : kG} {cc : ByteArray} {own : String} {Ts : List Cond} {a b pc : Nat} {lv : List (Nat × Value)} {st : List Value} {ks : List Nat} {ad : Nat → Nat} {E : Nat → va_E} (C : kX dd g cc own Ts) {x y : Int32} (d : decode cc pc = .ok (.ior, 1))  (k : kv dd g a b (pc + 1) lv (.int (x ||| y) :: st) ks ad E) : kv dd g a b pc lv (.int y :: .int x :: st) ks ad E := by
  obtain ⟨p, l, e, R, s, m, args, below, meth, c, Q, A, nL⟩ := g
  obtain ⟨hx, hb, hown, hts, hK, hA, hml, hZ, hst⟩ := C
  intro H locs ls hP hD hS hl
  exact lv_ior hx hb d  (k H locs ls hP hD hS hl)
theorem kv_ixor {dd : kDD} {g : kG} {cc : ByteArray} {own : String} {Ts : List Cond} {a b pc : Nat} {lv : List (Nat × Value)} {st : List Value} {ks : List Nat} {ad : Nat → Nat} {E : Nat → va_E} (C : kX dd g cc own Ts) {x y : Int32} (d : decode cc pc = .ok (.ixor, 1))  (k : kv dd g a b (pc + 1) lv (.int (x ^^^ y) :: st) ks ad E) : kv dd g a b pc lv (.int y :: .int x :: st) ks ad E := by
  obtain ⟨p, l, e, R, s, m, args, below, meth, c, Q, A, nL⟩ := g
  obtain ⟨hx, hb, hown, hts, hK, hA, hml, hZ, hst⟩ := C
  intro H locs ls hP hD hS hl
  exact lv_ixor hx hb d  (k H locs ls hP hD hS hl)
theorem kv_ladd {dd : kDD} {g : kG} {cc : ByteArray} {own : String} {Ts : List Cond} {a b pc : Nat} {lv : List (Nat × Value)} {st : List Value} {ks : List Nat} {ad : Nat → Nat} {E : Nat → va_E} (C : kX dd g cc own Ts) {x y : Int64} (d : decode cc pc = .ok (.ladd, 1))  (k : kv dd g a b (pc + 1) lv (.long (x + y) :: st) ks ad E) : kv dd g a b pc lv (.long y :: .long x :: st) ks ad E := by
  obtain ⟨p, l, e, R, s, m, args, below, meth, c, Q, A, nL⟩ := g
  obtain ⟨hx, hb, hown, hts, hK, hA, hml, hZ, hst⟩ := C
  intro H locs ls hP hD hS hl
  exact lv_ladd hx hb d  (k H locs ls hP hD hS hl)
theorem kv_lsub {dd : kDD} {g : kG} {cc : ByteArray} {own : String} {Ts : List Cond} {a b pc : Nat} {lv : List (Nat × Value)} {st : List Value} {ks : List Nat} {ad : Nat → Nat} {E : Nat → va_E} (C : kX dd g cc own Ts) {x y : Int64} (d : decode cc pc = .ok (.lsub, 1))  (k : kv dd g a b (pc + 1) lv (.long (x - y) :: st) ks ad E) : kv dd g a b pc lv (.long y :: .long x :: st) ks ad E := by
  obtain ⟨p, l, e, R, s, m, args, below, meth, c, Q, A, nL⟩ := g
  obtain ⟨hx, hb, hown, hts, hK, hA, hml, hZ, hst⟩ := C
  intro H locs ls hP hD hS hl
  exact lv_lsub hx hb d  (k H locs ls hP hD hS hl)
theorem kv_lmul {dd : kDD} {g : kG} {cc : ByteArray} {own : String} {Ts : List Cond} {a b pc : Nat} {lv : List (Nat × Value)} {st : List Value} {ks : List Nat} {ad : Nat → Nat} {E : Nat → va_E} (C : kX dd g cc own Ts) {x y : Int64} (d : decode cc pc = .ok (.lmul, 1))  (k : kv dd g a b (pc + 1) lv (.long (x * y) :: st) ks ad E) : kv dd g a b pc lv (.long y :: .long x :: st) ks ad E := by
  obtain ⟨p, l, e, R, s, m, args, below, meth, c, Q, A, nL⟩ := g
  obtain ⟨hx, hb, hown, hts, hK, hA, hml, hZ, hst⟩ := C
  intro H locs ls hP hD hS hl
  exact lv_lmul hx hb d  (k H locs ls hP hD hS hl)
theorem kv_idiv {dd : kDD} {g : kG} {cc : ByteArray} {own : String} {Ts : List Cond} {a b pc : Nat} {lv : List (Nat × Value)} {st : List Value} {ks : List Nat} {ad : Nat → Nat} {E : Nat → va_E} (C : kX dd g cc own Ts) {x y : Int32} (d : decode cc pc = .ok (.idiv, 1)) (hne : ¬ y = 0) (k : kv dd g a b (pc + 1) lv (.int (x / y) :: st) ks ad E) : kv dd g a b pc lv (.int y :: .int x :: st) ks ad E := by
  obtain ⟨p, l, e, R, s, m, args, below, meth, c, Q, A, nL⟩ := g
  obtain ⟨hx, hb, hown, hts, hK, hA, hml, hZ, hst⟩ := C
  intro H locs ls hP hD hS hl
  exact lv_idiv hx hb d hne (k H locs ls hP hD hS hl)
theorem kv_ldiv {dd : kDD} {g : kG} {cc : ByteArray} {own : String} {Ts : List Cond} {a b pc : Nat} {lv : List (Nat × Value)} {st : List Value} {ks : List Nat} {ad : Nat → Nat} {E : Nat → va_E} (C : kX dd g cc own Ts) {x y : Int64} (d : decode cc pc = .ok (.ldiv, 1)) (hne : ¬ y = 0) (k : kv dd g a b (pc + 1) lv (.long (x / y) :: st) ks ad E) : kv dd g a b pc lv (.long y :: .long x :: st) ks ad E := by
  obtain ⟨p, l, e, R, s, m, args, below, meth, c, Q, A, nL⟩ := g
  obtain ⟨hx, hb, hown, hts, hK, hA, hml, hZ, hst⟩ := C
  intro H locs ls hP hD hS hl
  exact lv_ldiv hx hb d hne (k H locs ls hP hD hS hl)
theorem kv_ishl {dd : kDD} {g : kG} {cc : ByteArray} {own : String} {Ts : List Cond} {a b pc : Nat} {lv : List (Nat × Value)} {st : List Value} {ks : List Nat} {ad : Nat → Nat} {E : Nat → va_E} (C : kX dd g cc own Ts) {x y : Int32} (d : decode cc pc = .ok (.ishl, 1))  (k : kv dd g a b (pc + 1) lv (.int (x <<< (y &&& 31)) :: st) ks ad E) : kv dd g a b pc lv (.int y :: .int x :: st) ks ad E := by
  obtain ⟨p, l, e, R, s, m, args, below, meth, c, Q, A, nL⟩ := g
  obtain ⟨hx, hb, hown, hts, hK, hA, hml, hZ, hst⟩ := C
  intro H locs ls hP hD hS hl
  exact lv_ishl hx hb d  (k H locs ls hP hD hS hl)
theorem kv_ishr {dd : kDD} {g : kG} {cc : ByteArray} {own : String} {Ts : List Cond} {a b pc : Nat} {lv : List (Nat × Value)} {st : List Value} {ks : List Nat} {ad : Nat → Nat} {E : Nat → va_E} (C : kX dd g cc own Ts) {x y : Int32} (d : decode cc pc = .ok (.ishr, 1))  (k : kv dd g a b (pc + 1) lv (.int (x >>> (y &&& 31)) :: st) ks ad E) : kv dd g a b pc lv (.int y :: .int x :: st) ks ad E := by
  obtain ⟨p, l, e, R, s, m, args, below, meth, c, Q, A, nL⟩ := g
  obtain ⟨hx, hb, hown, hts, hK, hA, hml, hZ, hst⟩ := C
  intro H locs ls hP hD hS hl
  exact lv_ishr hx hb d  (k H locs ls hP hD hS hl)
theorem kv_ineg {dd : kDD} {g : kG} {cc : ByteArray} {own : String} {Ts : List Cond} {a b pc : Nat} {lv : List (Nat × Value)} {st : List Value} {ks : List Nat} {ad : Nat → Nat} {E : Nat → va_E} (C : kX dd g cc own Ts) {x : Int32} (d : decode cc pc = .ok (.ineg, 1))  (k : kv dd g a b (pc + 1) lv (.int (-x) :: st) ks ad E) : kv dd g a b pc lv (.int x :: st) ks ad E := by
  obtain ⟨p, l, e, R, s, m, args, below, meth, c, Q, A, nL⟩ := g
  obtain ⟨hx, hb, hown, hts, hK, hA, hml, hZ, hst⟩ := C
  intro H locs ls hP hD hS hl
  exact lv_ineg hx hb d  (k H locs ls hP hD hS hl)
theorem kv_i2l {dd : kDD} {g : kG} {cc : ByteArray} {own : String} {Ts : List Cond} {a b pc : Nat} {lv : List (Nat × Value)} {st : List Value} {ks : List Nat} {ad : Nat → Nat} {E : Nat → va_E} (C : kX dd g cc own Ts) {x : Int32} {v : Int64} (d : decode cc pc = .ok (.i2l, 1)) (hv : x.toInt64 = v) (k : kv dd g a b (pc + 1) lv (.long v :: st) ks ad E) : kv dd g a b pc lv (.int x :: st) ks ad E := by
  obtain ⟨p, l, e, R, s, m, args, below, meth, c, Q, A, nL⟩ := g
  obtain ⟨hx, hb, hown, hts, hK, hA, hml, hZ, hst⟩ := C
  intro H locs ls hP hD hS hl
  exact lv_i2l hx hb d hv (k H locs ls hP hD hS hl)
theorem kv_l2i {dd : kDD} {g : kG} {cc : ByteArray} {own : String} {Ts : List Cond} {a b pc : Nat} {lv : List (Nat × Value)} {st : List Value} {ks : List Nat} {ad : Nat → Nat} {E : Nat → va_E} (C : kX dd g cc own Ts) {x : Int64} {v : Int32} (d : decode cc pc = .ok (.l2i, 1)) (hv : x.toInt32 = v) (k : kv dd g a b (pc + 1) lv (.int v :: st) ks ad E) : kv dd g a b pc lv (.long x :: st) ks ad E := by
  obtain ⟨p, l, e, R, s, m, args, below, meth, c, Q, A, nL⟩ := g
  obtain ⟨hx, hb, hown, hts, hK, hA, hml, hZ, hst⟩ := C
  intro H locs ls hP hD hS hl
  exact lv_l2i hx hb d hv (k H locs ls hP hD hS hl)
theorem kv_i2c {dd : kDD} {g : kG} {cc : ByteArray} {own : String} {Ts : List Cond} {a b pc : Nat} {lv : List (Nat × Value)} {st : List Value} {ks : List Nat} {ad : Nat → Nat} {E : Nat → va_E} (C : kX dd g cc own Ts) {x v : Int32} (d : decode cc pc = .ok (.i2c, 1)) (hv : (x.toUInt32 % 65536).toInt32 = v) (k : kv dd g a b (pc + 1) lv (.int v :: st) ks ad E) : kv dd g a b pc lv (.int x :: st) ks ad E := by
  obtain ⟨p, l, e, R, s, m, args, below, meth, c, Q, A, nL⟩ := g
  obtain ⟨hx, hb, hown, hts, hK, hA, hml, hZ, hst⟩ := C
  intro H locs ls hP hD hS hl
  exact lv_i2c hx hb d hv (k H locs ls hP hD hS hl)
theorem kv_dup {dd : kDD} {g : kG} {cc : ByteArray} {own : String} {Ts : List Cond} {a b pc : Nat} {lv : List (Nat × Value)} {st : List Value} {ks : List Nat} {ad : Nat → Nat} {E : Nat → va_E} (C : kX dd g cc own Ts) {v : Value} (d : decode cc pc = .ok (.dup, 1)) (h : v.category = 1) (k : kv dd g a b (pc + 1) lv (v :: v :: st) ks ad E) : kv dd g a b pc lv (v :: st) ks ad E := by
  obtain ⟨p, l, e, R, s, m, args, below, meth, c, Q, A, nL⟩ := g
  obtain ⟨hx, hb, hown, hts, hK, hA, hml, hZ, hst⟩ := C
  intro H locs ls hP hD hS hl
  exact lv_dup hx hb d h (k H locs ls hP hD hS hl)
theorem kv_pop {dd : kDD} {g : kG} {cc : ByteArray} {own : String} {Ts : List Cond} {a b pc : Nat} {lv : List (Nat × Value)} {st : List Value} {ks : List Nat} {ad : Nat → Nat} {E : Nat → va_E} (C : kX dd g cc own Ts) {v : Value} (d : decode cc pc = .ok (.pop, 1)) (h : v.category = 1) (k : kv dd g a b (pc + 1) lv st ks ad E) : kv dd g a b pc lv (v :: st) ks ad E := by
  obtain ⟨p, l, e, R, s, m, args, below, meth, c, Q, A, nL⟩ := g
  obtain ⟨hx, hb, hown, hts, hK, hA, hml, hZ, hst⟩ := C
  intro H locs ls hP hD hS hl
  exact lv_pop hx hb d h (k H locs ls hP hD hS hl)
theorem kv_dup_x1 {dd : kDD} {g : kG} {cc : ByteArray} {own : String} {Ts : List Cond} {a b pc : Nat} {lv : List (Nat × Value)} {st : List Value} {ks : List Nat} {ad : Nat → Nat} {E : Nat → va_E} (C : kX dd g cc own Ts) {v u : Value} (d : decode cc pc = .ok (.dup_x1, 1)) (h : v.category = 1) (h2 : u.category = 1) (k : kv dd g a b (pc + 1) lv (v :: u :: v :: st) ks ad E) : kv dd g a b pc lv (v :: u :: st) ks ad E := by
  obtain ⟨p, l, e, R, s, m, args, below, meth, c, Q, A, nL⟩ := g
  obtain ⟨hx, hb, hown, hts, hK, hA, hml, hZ, hst⟩ := C
  intro H locs ls hP hD hS hl
  exact lv_dup_x1 hx hb d h h2 (k H locs ls hP hD hS hl)
theorem kv_dup2_11 {dd : kDD} {g : kG} {cc : ByteArray} {own : String} {Ts : List Cond} {a b pc : Nat} {lv : List (Nat × Value)} {st : List Value} {ks : List Nat} {ad : Nat → Nat} {E : Nat → va_E} (C : kX dd g cc own Ts) {v u : Value} (d : decode cc pc = .ok (.dup2, 1)) (h : v.category = 1) (h2 : u.category = 1) (k : kv dd g a b (pc + 1) lv (v :: u :: v :: u :: st) ks ad E) : kv dd g a b pc lv (v :: u :: st) ks ad E := by
  obtain ⟨p, l, e, R, s, m, args, below, meth, c, Q, A, nL⟩ := g
  obtain ⟨hx, hb, hown, hts, hK, hA, hml, hZ, hst⟩ := C
  intro H locs ls hP hD hS hl
  exact lv_dup2_11 hx hb d h h2 (k H locs ls hP hD hS hl)
theorem kv_if_eq {dd : kDD} {g : kG} {cc : ByteArray} {own : String} {Ts : List Cond} {a b pc : Nat} {lv : List (Nat × Value)} {st : List Value} {ks : List Nat} {ad : Nat → Nat} {E : Nat → va_E} (C : kX dd g cc own Ts) {x : Int32} {off : Int} {tgt : Nat} (d : decode cc pc = .ok (.ifCond .eq off, 3)) (ht : (pc : Int) + off = (tgt : Int)) (kt : x = 0 → kv dd g a b tgt lv st ks ad E) (kf : ¬ x = 0 → kv dd g a b (pc + 3) lv st ks ad E) : kv dd g a b pc lv (.int x :: st) ks ad E := by
  obtain ⟨p, l, e, R, s, m, args, below, meth, c, Q, A, nL⟩ := g
  obtain ⟨hx, hb, hown, hts, hK, hA, hml, hZ, hst⟩ := C
  intro H locs ls hP hD hS hl
  exact lv_if_eq hx hb d ht (fun h => kt h H locs ls hP hD hS hl) (fun h => kf h H locs ls hP hD hS hl)
theorem kv_if_ne {dd : kDD} {g : kG} {cc : ByteArray} {own : String} {Ts : List Cond} {a b pc : Nat} {lv : List (Nat × Value)} {st : List Value} {ks : List Nat} {ad : Nat → Nat} {E : Nat → va_E} (C : kX dd g cc own Ts) {x : Int32} {off : Int} {tgt : Nat} (d : decode cc pc = .ok (.ifCond .ne off, 3)) (ht : (pc : Int) + off = (tgt : Int)) (kt : ¬ x = 0 → kv dd g a b tgt lv st ks ad E) (kf : x = 0 → kv dd g a b (pc + 3) lv st ks ad E) : kv dd g a b pc lv (.int x :: st) ks ad E := by
  obtain ⟨p, l, e, R, s, m, args, below, meth, c, Q, A, nL⟩ := g
  obtain ⟨hx, hb, hown, hts, hK, hA, hml, hZ, hst⟩ := C
  intro H locs ls hP hD hS hl
  exact lv_if_ne hx hb d ht (fun h => kt h H locs ls hP hD hS hl) (fun h => kf h H locs ls hP hD hS hl)
theorem kv_if_lt {dd : kDD} {g : kG} {cc : ByteArray} {own : String} {Ts : List Cond} {a b pc : Nat} {lv : List (Nat × Value)} {st : List Value} {ks : List Nat} {ad : Nat → Nat} {E : Nat → va_E} (C : kX dd g cc own Ts) {x : Int32} {off : Int} {tgt : Nat} (d : decode cc pc = .ok (.ifCond .lt off, 3)) (ht : (pc : Int) + off = (tgt : Int)) (kt : x < 0 → kv dd g a b tgt lv st ks ad E) (kf : ¬ x < 0 → kv dd g a b (pc + 3) lv st ks ad E) : kv dd g a b pc lv (.int x :: st) ks ad E := by
  obtain ⟨p, l, e, R, s, m, args, below, meth, c, Q, A, nL⟩ := g
  obtain ⟨hx, hb, hown, hts, hK, hA, hml, hZ, hst⟩ := C
  intro H locs ls hP hD hS hl
  exact lv_if_lt hx hb d ht (fun h => kt h H locs ls hP hD hS hl) (fun h => kf h H locs ls hP hD hS hl)
theorem kv_if_ge {dd : kDD} {g : kG} {cc : ByteArray} {own : String} {Ts : List Cond} {a b pc : Nat} {lv : List (Nat × Value)} {st : List Value} {ks : List Nat} {ad : Nat → Nat} {E : Nat → va_E} (C : kX dd g cc own Ts) {x : Int32} {off : Int} {tgt : Nat} (d : decode cc pc = .ok (.ifCond .ge off, 3)) (ht : (pc : Int) + off = (tgt : Int)) (kt : 0 ≤ x → kv dd g a b tgt lv st ks ad E) (kf : ¬ 0 ≤ x → kv dd g a b (pc + 3) lv st ks ad E) : kv dd g a b pc lv (.int x :: st) ks ad E := by
  obtain ⟨p, l, e, R, s, m, args, below, meth, c, Q, A, nL⟩ := g
  obtain ⟨hx, hb, hown, hts, hK, hA, hml, hZ, hst⟩ := C
  intro H locs ls hP hD hS hl
  exact lv_if_ge hx hb d ht (fun h => kt h H locs ls hP hD hS hl) (fun h => kf h H locs ls hP hD hS hl)
theorem kv_if_gt {dd : kDD} {g : kG} {cc : ByteArray} {own : String} {Ts : List Cond} {a b pc : Nat} {lv : List (Nat × Value)} {st : List Value} {ks : List Nat} {ad : Nat → Nat} {E : Nat → va_E} (C : kX dd g cc own Ts) {x : Int32} {off : Int} {tgt : Nat} (d : decode cc pc = .ok (.ifCond .gt off, 3)) (ht : (pc : Int) + off = (tgt : Int)) (kt : 0 < x → kv dd g a b tgt lv st ks ad E) (kf : ¬ 0 < x → kv dd g a b (pc + 3) lv st ks ad E) : kv dd g a b pc lv (.int x :: st) ks ad E := by
  obtain ⟨p, l, e, R, s, m, args, below, meth, c, Q, A, nL⟩ := g
  obtain ⟨hx, hb, hown, hts, hK, hA, hml, hZ, hst⟩ := C
  intro H locs ls hP hD hS hl
  exact lv_if_gt hx hb d ht (fun h => kt h H locs ls hP hD hS hl) (fun h => kf h H locs ls hP hD hS hl)
theorem kv_if_le {dd : kDD} {g : kG} {cc : ByteArray} {own : String} {Ts : List Cond} {a b pc : Nat} {lv : List (Nat × Value)} {st : List Value} {ks : List Nat} {ad : Nat → Nat} {E : Nat → va_E} (C : kX dd g cc own Ts) {x : Int32} {off : Int} {tgt : Nat} (d : decode cc pc = .ok (.ifCond .le off, 3)) (ht : (pc : Int) + off = (tgt : Int)) (kt : x ≤ 0 → kv dd g a b tgt lv st ks ad E) (kf : ¬ x ≤ 0 → kv dd g a b (pc + 3) lv st ks ad E) : kv dd g a b pc lv (.int x :: st) ks ad E := by
  obtain ⟨p, l, e, R, s, m, args, below, meth, c, Q, A, nL⟩ := g
  obtain ⟨hx, hb, hown, hts, hK, hA, hml, hZ, hst⟩ := C
  intro H locs ls hP hD hS hl
  exact lv_if_le hx hb d ht (fun h => kt h H locs ls hP hD hS hl) (fun h => kf h H locs ls hP hD hS hl)
theorem kv_icmp_eq {dd : kDD} {g : kG} {cc : ByteArray} {own : String} {Ts : List Cond} {a b pc : Nat} {lv : List (Nat × Value)} {st : List Value} {ks : List Nat} {ad : Nat → Nat} {E : Nat → va_E} (C : kX dd g cc own Ts) {x y : Int32} {off : Int} {tgt : Nat} (d : decode cc pc = .ok (.if_icmp .eq off, 3)) (ht : (pc : Int) + off = (tgt : Int)) (kt : x = y → kv dd g a b tgt lv st ks ad E) (kf : ¬ x = y → kv dd g a b (pc + 3) lv st ks ad E) : kv dd g a b pc lv (.int y :: .int x :: st) ks ad E := by
  obtain ⟨p, l, e, R, s, m, args, below, meth, c, Q, A, nL⟩ := g
  obtain ⟨hx, hb, hown, hts, hK, hA, hml, hZ, hst⟩ := C
  intro H locs ls hP hD hS hl
  exact lv_icmp_eq hx hb d ht (fun h => kt h H locs ls hP hD hS hl) (fun h => kf h H locs ls hP hD hS hl)
theorem kv_icmp_ne {dd : kDD} {g : kG} {cc : ByteArray} {own : String} {Ts : List Cond} {a b pc : Nat} {lv : List (Nat × Value)} {st : List Value} {ks : List Nat} {ad : Nat → Nat} {E : Nat → va_E} (C : kX dd g cc own Ts) {x y : Int32} {off : Int} {tgt : Nat} (d : decode cc pc = .ok (.if_icmp .ne off, 3)) (ht : (pc : Int) + off = (tgt : Int)) (kt : ¬ x = y → kv dd g a b tgt lv st ks ad E) (kf : x = y → kv dd g a b (pc + 3) lv st ks ad E) : kv dd g a b pc lv (.int y :: .int x :: st) ks ad E := by
  obtain ⟨p, l, e, R, s, m, args, below, meth, c, Q, A, nL⟩ := g
  obtain ⟨hx, hb, hown, hts, hK, hA, hml, hZ, hst⟩ := C
  intro H locs ls hP hD hS hl
  exact lv_icmp_ne hx hb d ht (fun h => kt h H locs ls hP hD hS hl) (fun h => kf h H locs ls hP hD hS hl)
theorem kv_icmp_lt {dd : kDD} {g : kG} {cc : ByteArray} {own : String} {Ts : List Cond} {a b pc : Nat} {lv : List (Nat × Value)} {st : List Value} {ks : List Nat} {ad : Nat → Nat} {E : Nat → va_E} (C : kX dd g cc own Ts) {x y : Int32} {off : Int} {tgt : Nat} (d : decode cc pc = .ok (.if_icmp .lt off, 3)) (ht : (pc : Int) + off = (tgt : Int)) (kt : x < y → kv dd g a b tgt lv st ks ad E) (kf : ¬ x < y → kv dd g a b (pc + 3) lv st ks ad E) : kv dd g a b pc lv (.int y :: .int x :: st) ks ad E := by
  obtain ⟨p, l, e, R, s, m, args, below, meth, c, Q, A, nL⟩ := g
  obtain ⟨hx, hb, hown, hts, hK, hA, hml, hZ, hst⟩ := C
  intro H locs ls hP hD hS hl
  exact lv_icmp_lt hx hb d ht (fun h => kt h H locs ls hP hD hS hl) (fun h => kf h H locs ls hP hD hS hl)
theorem kv_icmp_ge {dd : kDD} {g : kG} {cc : ByteArray} {own : String} {Ts : List Cond} {a b pc : Nat} {lv : List (Nat × Value)} {st : List Value} {ks : List Nat} {ad : Nat → Nat} {E : Nat → va_E} (C : kX dd g cc own Ts) {x y : Int32} {off : Int} {tgt : Nat} (d : decode cc pc = .ok (.if_icmp .ge off, 3)) (ht : (pc : Int) + off = (tgt : Int)) (kt : y ≤ x → kv dd g a b tgt lv st ks ad E) (kf : ¬ y ≤ x → kv dd g a b (pc + 3) lv st ks ad E) : kv dd g a b pc lv (.int y :: .int x :: st) ks ad E := by
  obtain ⟨p, l, e, R, s, m, args, below, meth, c, Q, A, nL⟩ := g
  obtain ⟨hx, hb, hown, hts, hK, hA, hml, hZ, hst⟩ := C
  intro H locs ls hP hD hS hl
  exact lv_icmp_ge hx hb d ht (fun h => kt h H locs ls hP hD hS hl) (fun h => kf h H locs ls hP hD hS hl)
theorem kv_icmp_gt {dd : kDD} {g : kG} {cc : ByteArray} {own : String} {Ts : List Cond} {a b pc : Nat} {lv : List (Nat × Value)} {st : List Value} {ks : List Nat} {ad : Nat → Nat} {E : Nat → va_E} (C : kX dd g cc own Ts) {x y : Int32} {off : Int} {tgt : Nat} (d : decode cc pc = .ok (.if_icmp .gt off, 3)) (ht : (pc : Int) + off = (tgt : Int)) (kt : y < x → kv dd g a b tgt lv st ks ad E) (kf : ¬ y < x → kv dd g a b (pc + 3) lv st ks ad E) : kv dd g a b pc lv (.int y :: .int x :: st) ks ad E := by
  obtain ⟨p, l, e, R, s, m, args, below, meth, c, Q, A, nL⟩ := g
  obtain ⟨hx, hb, hown, hts, hK, hA, hml, hZ, hst⟩ := C
  intro H locs ls hP hD hS hl
  exact lv_icmp_gt hx hb d ht (fun h => kt h H locs ls hP hD hS hl) (fun h => kf h H locs ls hP hD hS hl)
theorem kv_icmp_le {dd : kDD} {g : kG} {cc : ByteArray} {own : String} {Ts : List Cond} {a b pc : Nat} {lv : List (Nat × Value)} {st : List Value} {ks : List Nat} {ad : Nat → Nat} {E : Nat → va_E} (C : kX dd g cc own Ts) {x y : Int32} {off : Int} {tgt : Nat} (d : decode cc pc = .ok (.if_icmp .le off, 3)) (ht : (pc : Int) + off = (tgt : Int)) (kt : x ≤ y → kv dd g a b tgt lv st ks ad E) (kf : ¬ x ≤ y → kv dd g a b (pc + 3) lv st ks ad E) : kv dd g a b pc lv (.int y :: .int x :: st) ks ad E := by
  obtain ⟨p, l, e, R, s, m, args, below, meth, c, Q, A, nL⟩ := g
  obtain ⟨hx, hb, hown, hts, hK, hA, hml, hZ, hst⟩ := C
  intro H locs ls hP hD hS hl
  exact lv_icmp_le hx hb d ht (fun h => kt h H locs ls hP hD hS hl) (fun h => kf h H locs ls hP hD hS hl)
theorem kv_acmp_eq {dd : kDD} {g : kG} {cc : ByteArray} {own : String} {Ts : List Cond} {a b pc : Nat} {lv : List (Nat × Value)} {st : List Value} {ks : List Nat} {ad : Nat → Nat} {E : Nat → va_E} (C : kX dd g cc own Ts) {rx ry : Option Nat} {off : Int} {tgt : Nat} (d : decode cc pc = .ok (.if_acmp .eq off, 3)) (ht : (pc : Int) + off = (tgt : Int)) (kt : rx = ry → kv dd g a b tgt lv st ks ad E) (kf : ¬ rx = ry → kv dd g a b (pc + 3) lv st ks ad E) : kv dd g a b pc lv (va_rf ry :: va_rf rx :: st) ks ad E := by
  obtain ⟨p, l, e, R, s, m, args, below, meth, c, Q, A, nL⟩ := g
  obtain ⟨hx, hb, hown, hts, hK, hA, hml, hZ, hst⟩ := C
  intro H locs ls hP hD hS hl
  exact lv_acmp_eq hx hb d ht (fun h => kt h H locs ls hP hD hS hl) (fun h => kf h H locs ls hP hD hS hl)
theorem kv_acmp_ne {dd : kDD} {g : kG} {cc : ByteArray} {own : String} {Ts : List Cond} {a b pc : Nat} {lv : List (Nat × Value)} {st : List Value} {ks : List Nat} {ad : Nat → Nat} {E : Nat → va_E} (C : kX dd g cc own Ts) {rx ry : Option Nat} {off : Int} {tgt : Nat} (d : decode cc pc = .ok (.if_acmp .ne off, 3)) (ht : (pc : Int) + off = (tgt : Int)) (kt : ¬ rx = ry → kv dd g a b tgt lv st ks ad E) (kf : rx = ry → kv dd g a b (pc + 3) lv st ks ad E) : kv dd g a b pc lv (va_rf ry :: va_rf rx :: st) ks ad E := by
  obtain ⟨p, l, e, R, s, m, args, below, meth, c, Q, A, nL⟩ := g
  obtain ⟨hx, hb, hown, hts, hK, hA, hml, hZ, hst⟩ := C
  intro H locs ls hP hD hS hl
  exact lv_acmp_ne hx hb d ht (fun h => kt h H locs ls hP hD hS hl) (fun h => kf h H locs ls hP hD hS hl)
theorem kv_goto {dd : kDD} {g : kG} {cc : ByteArray} {own : String} {Ts : List Cond} {a b pc : Nat} {lv : List (Nat × Value)} {st : List Value} {ks : List Nat} {ad : Nat → Nat} {E : Nat → va_E} (C : kX dd g cc own Ts) {off : Int} {tgt : Nat} (d : decode cc pc = .ok (.goto off, 3)) (ht : (pc : Int) + off = (tgt : Int)) (k : kv dd g a b tgt lv st ks ad E) : kv dd g a b pc lv st ks ad E := by
  obtain ⟨p, l, e, R, s, m, args, below, meth, c, Q, A, nL⟩ := g
  obtain ⟨hx, hb, hown, hts, hK, hA, hml, hZ, hst⟩ := C
  intro H locs ls hP hD hS hl
  exact lv_goto hx hb d ht (k H locs ls hP hD hS hl)
theorem kv_lcmp {dd : kDD} {g : kG} {cc : ByteArray} {own : String} {Ts : List Cond} {a b pc : Nat} {lv : List (Nat × Value)} {st : List Value} {ks : List Nat} {ad : Nat → Nat} {E : Nat → va_E} (C : kX dd g cc own Ts) {x y : Int64} (d : decode cc pc = .ok (.lcmp, 1)) (k : kv dd g a b (pc + 1) lv (.int (lg_cmp x y) :: st) ks ad E) : kv dd g a b pc lv (.long y :: .long x :: st) ks ad E := by
  obtain ⟨p, l, e, R, s, m, args, below, meth, c, Q, A, nL⟩ := g
  obtain ⟨hx, hb, hown, hts, hK, hA, hml, hZ, hst⟩ := C
  intro H locs ls hP hD hS hl
  exact W.lcmp hx hb d (k H locs ls hP hD hS hl)
theorem kv_ldc {dd : kDD} {g : kG} {cc : ByteArray} {own : String} {Ts : List Cond} {a b pc : Nat} {lv : List (Nat × Value)} {st : List Value} {ks : List Nat} {ad : Nat → Nat} {E : Nat → va_E} (C : kX dd g cc own Ts) {index : Nat} {v : Int32} (d : decode cc pc = .ok (.ldc index, 2)) (hw : Jvm.Cond.constant own index v ∈ Ts) (k : kv dd g a b (pc + 2) lv (.int v :: st) ks ad E) : kv dd g a b pc lv st ks ad E := by
  obtain ⟨p, l, e, R, s, m, args, below, meth, c, Q, A, nL⟩ := g
  obtain ⟨hx, hb, hown, hts, hK, hA, hml, hZ, hst⟩ := C
  intro H locs ls hP hD hS hl
  exact lv_ldc hx hb hown (hts _ hw) d (k H locs ls hP hD hS hl)
theorem kv_ldc2 {dd : kDD} {g : kG} {cc : ByteArray} {own : String} {Ts : List Cond} {a b pc : Nat} {lv : List (Nat × Value)} {st : List Value} {ks : List Nat} {ad : Nat → Nat} {E : Nat → va_E} (C : kX dd g cc own Ts) {index : Nat} {v : Int64} (d : decode cc pc = .ok (.ldc2_w index, 3)) (hw : Jvm.Cond.constantLong own index v ∈ Ts) (k : kv dd g a b (pc + 3) lv (.long v :: st) ks ad E) : kv dd g a b pc lv st ks ad E := by
  obtain ⟨p, l, e, R, s, m, args, below, meth, c, Q, A, nL⟩ := g
  obtain ⟨hx, hb, hown, hts, hK, hA, hml, hZ, hst⟩ := C
  intro H locs ls hP hD hS hl
  exact lv_ldc2 hx hb hown (hts _ hw) d (k H locs ls hP hD hS hl)
/-- the top of the stack by another name -/
theorem kv_topi {dd : kDD} {g : kG} {a b pc : Nat} {lv : List (Nat × Value)} {st : List Value} {ks : List Nat} {ad : Nat → Nat} {E : Nat → va_E} {x : Int32} (y : Int32) (h : x = y) (k : kv dd g a b pc lv (.int y :: st) ks ad E) : kv dd g a b pc lv (.int x :: st) ks ad E := by rw [h]; exact k
theorem kv_topl {dd : kDD} {g : kG} {a b pc : Nat} {lv : List (Nat × Value)} {st : List Value} {ks : List Nat} {ad : Nat → Nat} {E : Nat → va_E} {x : Int64} (y : Int64) (h : x = y) (k : kv dd g a b pc lv (.long y :: st) ks ad E) : kv dd g a b pc lv (.long x :: st) ks ad E := by rw [h]; exact k
theorem kv_topg {dd : kDD} {g : kG} {a b pc : Nat} {lv : List (Nat × Value)} {st : List Value} {ks : List Nat} {ad : Nat → Nat} {E : Nat → va_E} {x : Value} (y : Value) (h : x = y) (k : kv dd g a b pc lv (y :: st) ks ad E) : kv dd g a b pc lv (x :: st) ks ad E := by rw [h]; exact k
/-- fewer locals, in another order -/
theorem kv_lv {dd : kDD} {g : kG} {a b pc : Nat} {lv lv2 : List (Nat × Value)} {st : List Value} {ks : List Nat} {ad : Nat → Nat} {E : Nat → va_E} (is : List Nat) (h : lv_pick lv is = lv2) (k : kv dd g a b pc lv2 st ks ad E) : kv dd g a b pc lv st ks ad E := by
  obtain ⟨p, l, e, R, s, m, args, below, meth, c, Q, A, nL⟩ := g
  intro H locs ls hP hD hS hl
  exact k H locs ls hP hD hS (lv_sub hl is h)
/-- another word for the world -/
theorem kv_E {dd : kDD} {g : kG} {a b pc : Nat} {lv : List (Nat × Value)} {st : List Value} {ks : List Nat} {ad : Nat → Nat} {E E2 : Nat → va_E} (h : ∀ j, j ∈ ks → E j = E2 j) (k : kv dd g a b pc lv st ks ad E2) : kv dd g a b pc lv st ks ad E := by
  obtain ⟨p, l, e, R, s, m, args, below, meth, c, Q, A, nL⟩ := g
  intro H locs ls hP hD hS hl
  have e1 : kw ks ad E = kw ks ad E2 := kw_congr (fun j hj => ⟨rfl, h j hj⟩)
  rw [e1] at hP hD
  exact k H locs ls hP hD hS hl
theorem k_nodup {l : List Nat} (hn : l.Nodup) {i j a : Nat} (h1 : l[i]? = some a) (h2 : l[j]? = some a) : i = j := by
  induction l generalizing i j with
  | nil => simp at h1
  | cons b l ih =>
    obtain ⟨hb, hn⟩ := List.nodup_cons.mp hn
    cases i with
    | zero =>
      cases j with
      | zero => rfl
      | succ j =>
        simp at h1 h2
        exact absurd (List.mem_of_getElem? h2) (h1 ▸ hb)
    | succ i =>
      cases j with
      | zero =>
        simp at h1 h2
        exact absurd (List.mem_of_getElem? h1) (h2 ▸ hb)
      | succ j =>
        simp at h1 h2
        rw [ih hn h1 h2]
/-- fewer keys -/
theorem kv_keys {dd : kDD} {g : kG} {a b pc : Nat} {lv : List (Nat × Value)} {st : List Value} {ks ks2 : List Nat} {ad : Nat → Nat} {E : Nat → va_E} (hn : ks2.Nodup) (h : ∀ j, j ∈ ks2 → j ∈ ks) (k : kv dd g a b pc lv st ks2 ad E) : kv dd g a b pc lv st ks ad E := by
  obtain ⟨p, l, e, R, s, m, args, below, meth, c, Q, A, nL⟩ := g
  intro H locs ls hP hD hS hl
  refine k H locs ls (fun i q hq => ?_) ⟨fun i j x y hx hy hxy => ?_, fun i q hq => ?_⟩ hS hl
  · obtain ⟨k1, -, h2, rfl⟩ := kw_at hq
    obtain ⟨i2, h3⟩ := kw_get (ad := ad) (E := E) (h k1 h2)
    exact hP i2 _ h3
  · obtain ⟨k1, h1, h2, rfl⟩ := kw_at hx
    obtain ⟨k2, h3, h4, rfl⟩ := kw_at hy
    have := kw_inj hD (h k1 h2) (h k2 h4) hxy
    subst this
    exact k_nodup hn h1 h3
  · obtain ⟨k1, -, h2, rfl⟩ := kw_at hq
    obtain ⟨i2, h3⟩ := kw_get (ad := ad) (E := E) (h k1 h2)
    exact hD.2 i2 _ h3
theorem kv_widen {dd : kDD} {g : kG} {a b a2 b2 pc : Nat} {lv : List (Nat × Value)} {st : List Value} {ks : List Nat} {ad : Nat → Nat} {E : Nat → va_E} (h1 : a ≤ a2) (h2 : b ≤ b2) (k : kv dd g a2 b2 pc lv st ks ad E) : kv dd g a b pc lv st ks ad E := by
  obtain ⟨p, l, e, R, s, m, args, below, meth, c, Q, A, nL⟩ := g
  intro H locs ls hP hD hS hl
  exact W.widen h1 h2 (k H locs ls hP hD hS hl)

/-- a link to a field: field kk of class ci, by entry 'index' of own's pool -/
def kF (Ts : List Cond) (own : String) (index ci kk : Nat) : Prop := ∃ (ref Cn : String) (T : u_T) (N : Nat), (∀ w ∈ u_ws Cn T N, w ∈ Ts) ∧ Cond.fieldLink own index ref (T kk).2.1 (T kk).2.2.1 ∈ Ts ∧ vwCl[ci]? = some (Cn, T, N) ∧ kk < N ∧ ref = (T kk).1
/-- the same, for a store: its type, whether it is final -/
def kFp (Ts : List Cond) (own : String) (index ci kk : Nat) (ty : FieldType) (fin : Bool) : Prop := ∃ (ref Cn : String) (T : u_T) (N : Nat) (ty0 : Nat → FieldType), (∀ w ∈ u_ws Cn T N, w ∈ Ts) ∧ (∀ k, k < N → parseFieldDescriptor (T k).2.2.1 = some (ty0 k)) ∧ (∀ a, a < N → ∀ b, b < N → a ≠ b → (T a).2.1 ≠ (T b).2.1) ∧ Cond.fieldLink own index ref (T kk).2.1 (T kk).2.2.1 ∈ Ts ∧ vwCl[ci]? = some (Cn, T, N) ∧ kk < N ∧ ref = (T kk).1 ∧ (T kk).2.2.2 = fin ∧ parseFieldDescriptor (T kk).2.2.1 = some ty ∧ (T kk).1 = own

theorem kv_getfield {dd : kDD} {g : kG} {cc : ByteArray} {own : String} {Ts : List Cond} {a b pc : Nat} {lv : List (Nat × Value)} {st : List Value} {ks : List Nat} {ad : Nat → Nat} {E : Nat → va_E} (C : kX dd g cc own Ts) {index ci kk κ : Nat} {fs : List Value} {v : Value} (hf : kF Ts own index ci kk) (hκ : κ ∈ ks) (hE : E κ = .inr (ci, fs)) (hv : fs[kk]? = some v) (d : decode cc pc = .ok (.getfield index, 3)) (k : kv dd g a b (pc + 3) lv (v :: st) ks ad E) : kv dd g a b pc lv (.ref (ad κ) :: st) ks ad E := by
  obtain ⟨p, l, e, R, s, m, args, below, meth, c, Q, A, nL⟩ := g
  obtain ⟨hx, hb, hown, hts, hK, hA, hml, hZ, hst⟩ := C
  intro H locs ls hP hD hS hl
  obtain ⟨ref, Cn, T, N, h1, h2, h3, h4, h5⟩ := hf
  obtain ⟨i, hi⟩ := kw_get (ad := ad) (E := E) hκ
  rw [hE] at hi
  exact va_get (ref := ref) (C := Cn) (T := T) (N := N) hx hb hts h1 hown hK hP i hi h3 kk h4 (hts _ h2) (fun _ h9 => by rw [h5]; exact h9) hv d (k H locs ls hP hD hS hl)
theorem kv_putfield {dd : kDD} {g : kG} {cc : ByteArray} {own : String} {Ts : List Cond} {a b pc : Nat} {lv : List (Nat × Value)} {st : List Value} {ks : List Nat} {ad : Nat → Nat} {E : Nat → va_E} (C : kX dd g cc own Ts) {index ci kk κ : Nat} {ty : FieldType} {fs : List Value} {v : Value} (hf : kFp Ts own index ci kk ty false) (hκ : κ ∈ ks) (hE : E κ = .inr (ci, fs)) (hn : narrow ty v = v) (hfit : fits ty v = true) (hlen : kk < fs.length) (d : decode cc pc = .ok (.putfield index, 3)) (k : kv dd g a b (pc + 3) lv st ks ad (va_up E κ (.inr (ci, fs.set kk v)))) : kv dd g a b pc lv (v :: .ref (ad κ) :: st) ks ad E := by
  obtain ⟨p, l, e, R, s, m, args, below, meth, c, Q, A, nL⟩ := g
  obtain ⟨hx, hb, hown, hts, hK, hA, hml, hZ, hst⟩ := C
  intro H locs ls hP hD hS hl
  obtain ⟨ref, Cn, T, N, ty0, h1, h1b, h1c, h2, h3, h4, h5, h6, h7, h8⟩ := hf
  obtain ⟨i, hi⟩ := kw_get (ad := ad) (E := E) hκ
  have hi2 := hi
  rw [hE] at hi2
  refine va_put (ref := ref) (C := Cn) (T := T) (N := N) hx hb hts h1 ty0 h1b h1c hown hK hP hD hS i hi2 h3 kk h4 (hts _ h2) (fun _ h9 => by rw [h5]; exact h9) h6 h7 hn hfit hlen d (fun H1 locs1 hP1 hD1 hS1 => k H1 locs1 ls ?_ ?_ hS1 hl)
  · rw [kw_set hD hκ hi] at hP1; exact hP1
  · rw [kw_set hD hκ hi] at hD1; exact hD1
theorem kv_putfieldF {dd : kDD} {g : kG} {cc : ByteArray} {own : String} {Ts : List Cond} {a b pc : Nat} {lv : List (Nat × Value)} {st : List Value} {ks : List Nat} {ad : Nat → Nat} {E : Nat → va_E} (C : kX dd g cc own Ts) {index ci kk κ : Nat} {ty : FieldType} {fs : List Value} {v : Value} (hf : kFp Ts own index ci kk ty true) (hnm : kname g = "<init>") (hκ : κ ∈ ks) (hE : E κ = .inr (ci, fs)) (hn : narrow ty v = v) (hfit : fits ty v = true) (hlen : kk < fs.length) (d : decode cc pc = .ok (.putfield index, 3)) (k : kv dd g a b (pc + 3) lv st ks ad (va_up E κ (.inr (ci, fs.set kk v)))) : kv dd g a b pc lv (v :: .ref (ad κ) :: st) ks ad E := by
  obtain ⟨p, l, e, R, s, m, args, below, meth, c, Q, A, nL⟩ := g
  obtain ⟨hx, hb, hown, hts, hK, hA, hml, hZ, hst⟩ := C
  intro H locs ls hP hD hS hl
  obtain ⟨ref, Cn, T, N, ty0, h1, h1b, h1c, h2, h3, h4, h5, h6, h7, h8⟩ := hf
  obtain ⟨i, hi⟩ := kw_get (ad := ad) (E := E) hκ
  have hi2 := hi
  rw [hE] at hi2
  refine va_putF (ref := ref) (C := Cn) (T := T) (N := N) hx hb hts h1 ty0 h1b h1c hown hK hP hD hS i hi2 h3 kk h4 (hts _ h2) (fun _ h9 => by rw [h5]; exact h9) h6 hnm h8 h7 hn hfit hlen d (fun H1 locs1 hP1 hD1 hS1 => k H1 locs1 ls ?_ ?_ hS1 hl)
  · rw [kw_set hD hκ hi] at hP1; exact hP1
  · rw [kw_set hD hκ hi] at hD1; exact hD1
theorem kv_iaload {dd : kDD} {g : kG} {cc : ByteArray} {own : String} {Ts : List Cond} {a b pc : Nat} {lv : List (Nat × Value)} {st : List Value} {ks : List Nat} {ad : Nat → Nat} {E : Nat → va_E} (C : kX dd g cc own Ts) {κ n j : Nat} {f : Nat → Int32} (hκ : κ ∈ ks) (hE : E κ = kI dd n f) (hj : j < n) (hn : n < 2 ^ 31) (d : decode cc pc = .ok (.iaload, 1)) (k : kv dd g a b (pc + 1) lv (.int (f j) :: st) ks ad E) : kv dd g a b pc lv (.int (nI j) :: .ref (ad κ) :: st) ks ad E := by
  obtain ⟨p, l, e, R, s, m, args, below, meth, c, Q, A, nL⟩ := g
  obtain ⟨hx, hb, hown, hts, hK, hA, hml, hZ, hst⟩ := C
  intro H locs ls hP hD hS hl
  obtain ⟨i, hi⟩ := kw_get (ad := ad) (E := E) hκ
  rw [hE] at hi
  refine va_iald hx hb hK hP i 0 hi rfl (vp_in_nI hj hn) d ?_
  rw [nI_clamp (Nat.lt_trans hj hn)]
  exact (k H locs ls hP hD hS hl)
theorem kv_laload {dd : kDD} {g : kG} {cc : ByteArray} {own : String} {Ts : List Cond} {a b pc : Nat} {lv : List (Nat × Value)} {st : List Value} {ks : List Nat} {ad : Nat → Nat} {E : Nat → va_E} (C : kX dd g cc own Ts) {κ n j : Nat} {f : Nat → Int64} (hκ : κ ∈ ks) (hE : E κ = kJ dd n f) (hj : j < n) (hn : n < 2 ^ 31) (d : decode cc pc = .ok (.laload, 1)) (k : kv dd g a b (pc + 1) lv (.long (f j) :: st) ks ad E) : kv dd g a b pc lv (.int (nI j) :: .ref (ad κ) :: st) ks ad E := by
  obtain ⟨p, l, e, R, s, m, args, below, meth, c, Q, A, nL⟩ := g
  obtain ⟨hx, hb, hown, hts, hK, hA, hml, hZ, hst⟩ := C
  intro H locs ls hP hD hS hl
  obtain ⟨i, hi⟩ := kw_get (ad := ad) (E := E) hκ
  rw [hE] at hi
  refine va_lald hx hb hK hP i 1 hi rfl (vp_in_nI hj hn) d ?_
  rw [nI_clamp (Nat.lt_trans hj hn)]
  exact (k H locs ls hP hD hS hl)
theorem kv_iastore {dd : kDD} {g : kG} {cc : ByteArray} {own : String} {Ts : List Cond} {a b pc : Nat} {lv : List (Nat × Value)} {st : List Value} {ks : List Nat} {ad : Nat → Nat} {E : Nat → va_E} (C : kX dd g cc own Ts) {κ n j : Nat} {f : Nat → Int32} {x : Int32} (hκ : κ ∈ ks) (hE : E κ = kI dd n f) (hj : j < n) (hn : n < 2 ^ 31) (d : decode cc pc = .ok (.iastore, 1)) (k : kv dd g a b (pc + 1) lv st ks ad (va_up E κ (kI dd n (va_up f j x)))) : kv dd g a b pc lv (.int x :: .int (nI j) :: .ref (ad κ) :: st) ks ad E := by
  obtain ⟨p, l, e, R, s, m, args, below, meth, c, Q, A, nL⟩ := g
  obtain ⟨hx, hb, hown, hts, hK, hA, hml, hZ, hst⟩ := C
  intro H locs ls hP hD hS hl
  obtain ⟨i, hi⟩ := kw_get (ad := ad) (E := E) hκ
  have hi2 := hi
  rw [hE] at hi2
  refine va_iast hx hb hK hP hD hS i 0 hi2 rfl (vp_in_nI hj hn) d (fun H1 locs1 hP1 hD1 hS1 => ?_)
  rw [kw_set hD hκ hi, nI_clamp (Nat.lt_trans hj hn)] at hP1 hD1
  exact k H1 locs1 ls hP1 hD1 hS1 hl
theorem kv_lastore {dd : kDD} {g : kG} {cc : ByteArray} {own : String} {Ts : List Cond} {a b pc : Nat} {lv : List (Nat × Value)} {st : List Value} {ks : List Nat} {ad : Nat → Nat} {E : Nat → va_E} (C : kX dd g cc own Ts) {κ n j : Nat} {f : Nat → Int64} {x : Int64} (hκ : κ ∈ ks) (hE : E κ = kJ dd n f) (hj : j < n) (hn : n < 2 ^ 31) (d : decode cc pc = .ok (.lastore, 1)) (k : kv dd g a b (pc + 1) lv st ks ad (va_up E κ (kJ dd n (va_up f j x)))) : kv dd g a b pc lv (.long x :: .int (nI j) :: .ref (ad κ) :: st) ks ad E := by
  obtain ⟨p, l, e, R, s, m, args, below, meth, c, Q, A, nL⟩ := g
  obtain ⟨hx, hb, hown, hts, hK, hA, hml, hZ, hst⟩ := C
  intro H locs ls hP hD hS hl
  obtain ⟨i, hi⟩ := kw_get (ad := ad) (E := E) hκ
  have hi2 := hi
  rw [hE] at hi2
  refine va_last hx hb hK hP hD hS i 1 hi2 rfl (vp_in_nI hj hn) d (fun H1 locs1 hP1 hD1 hS1 => ?_)
  rw [kw_set hD hκ hi, nI_clamp (Nat.lt_trans hj hn)] at hP1 hD1
  exact k H1 locs1 ls hP1 hD1 hS1 hl
theorem kv_aaload {dd : kDD} {g : kG} {cc : ByteArray} {own : String} {Ts : List Cond} {a b pc : Nat} {lv : List (Nat × Value)} {st : List Value} {ks : List Nat} {ad : Nat → Nat} {E : Nat → va_E} (C : kX dd g cc own Ts) {κ n j : Nat} {f : Nat → Option Nat} (hκ : κ ∈ ks) (hE : E κ = kO dd n f) (hj : j < n) (hn : n < 2 ^ 31) (d : decode cc pc = .ok (.aaload, 1)) (k : kv dd g a b (pc + 1) lv (va_rf (f j) :: st) ks ad E) : kv dd g a b pc lv (.int (nI j) :: .ref (ad κ) :: st) ks ad E := by
  obtain ⟨p, l, e, R, s, m, args, below, meth, c, Q, A, nL⟩ := g
  obtain ⟨hx, hb, hown, hts, hK, hA, hml, hZ, hst⟩ := C
  intro H locs ls hP hD hS hl
  obtain ⟨i, hi⟩ := kw_get (ad := ad) (E := E) hκ
  rw [hE] at hi
  refine va_aldq hx hb hK hP i 2 hi rfl (vp_in_nI hj hn) d ?_
  rw [nI_clamp (Nat.lt_trans hj hn)]
  exact (k H locs ls hP hD hS hl)
theorem kv_aaloadJ {dd : kDD} {g : kG} {cc : ByteArray} {own : String} {Ts : List Cond} {a b pc : Nat} {lv : List (Nat × Value)} {st : List Value} {ks : List Nat} {ad : Nat → Nat} {E : Nat → va_E} (C : kX dd g cc own Ts) {κ n j : Nat} {f : Nat → Option Nat} (hκ : κ ∈ ks) (hE : E κ = kJJ dd n f) (hj : j < n) (hn : n < 2 ^ 31) (d : decode cc pc = .ok (.aaload, 1)) (k : kv dd g a b (pc + 1) lv (va_rf (f j) :: st) ks ad E) : kv dd g a b pc lv (.int (nI j) :: .ref (ad κ) :: st) ks ad E := by
  obtain ⟨p, l, e, R, s, m, args, below, meth, c, Q, A, nL⟩ := g
  obtain ⟨hx, hb, hown, hts, hK, hA, hml, hZ, hst⟩ := C
  intro H locs ls hP hD hS hl
  obtain ⟨i, hi⟩ := kw_get (ad := ad) (E := E) hκ
  rw [hE] at hi
  have hlt : (nI j).toNatClampNeg < n := by rw [nI_clamp (Nat.lt_trans hj hn)]; exact hj
  refine W.aald (v := va_rf (f j)) (ty := .array .long) hx hb (hP i _ hi) ((hK.2 3 _ rfl).1 n (fun j => va_rf (f j))) rfl (fun q => by cases q) (by show ¬ ((nI j) < 0 ∨ (arrV _ _ _).slots.size ≤ _); rw [arrV_size]; exact vp_in_nI hj hn) (by show (arrV _ _ _).slots[_]? = _; rw [arrV_read _ _ hlt, nI_clamp (Nat.lt_trans hj hn)]) rfl rfl d (k H locs ls hP hD hS hl)
theorem kv_alenI {dd : kDD} {g : kG} {cc : ByteArray} {own : String} {Ts : List Cond} {a b pc : Nat} {lv : List (Nat × Value)} {st : List Value} {ks : List Nat} {ad : Nat → Nat} {E : Nat → va_E} (C : kX dd g cc own Ts) {κ n : Nat} {f : Nat → Int32} (hκ : κ ∈ ks) (hE : E κ = kI dd n f) (d : decode cc pc = .ok (.arraylength, 1)) (k : kv dd g a b (pc + 1) lv (.int (nI n) :: st) ks ad E) : kv dd g a b pc lv (.ref (ad κ) :: st) ks ad E := by
  obtain ⟨p, l, e, R, s, m, args, below, meth, c, Q, A, nL⟩ := g
  obtain ⟨hx, hb, hown, hts, hK, hA, hml, hZ, hst⟩ := C
  intro H locs ls hP hD hS hl
  obtain ⟨i, hi⟩ := kw_get (ad := ad) (E := E) hκ
  rw [hE] at hi
  exact va_alen hx hb hK hP i 0 hi rfl rfl d (k H locs ls hP hD hS hl)
theorem kv_alenJ {dd : kDD} {g : kG} {cc : ByteArray} {own : String} {Ts : List Cond} {a b pc : Nat} {lv : List (Nat × Value)} {st : List Value} {ks : List Nat} {ad : Nat → Nat} {E : Nat → va_E} (C : kX dd g cc own Ts) {κ n : Nat} {f : Nat → Int64} (hκ : κ ∈ ks) (hE : E κ = kJ dd n f) (d : decode cc pc = .ok (.arraylength, 1)) (k : kv dd g a b (pc + 1) lv (.int (nI n) :: st) ks ad E) : kv dd g a b pc lv (.ref (ad κ) :: st) ks ad E := by
  obtain ⟨p, l, e, R, s, m, args, below, meth, c, Q, A, nL⟩ := g
  obtain ⟨hx, hb, hown, hts, hK, hA, hml, hZ, hst⟩ := C
  intro H locs ls hP hD hS hl
  obtain ⟨i, hi⟩ := kw_get (ad := ad) (E := E) hκ
  rw [hE] at hi
  exact va_alen hx hb hK hP i 1 hi rfl rfl d (k H locs ls hP hD hS hl)
theorem kv_alenO {dd : kDD} {g : kG} {cc : ByteArray} {own : String} {Ts : List Cond} {a b pc : Nat} {lv : List (Nat × Value)} {st : List Value} {ks : List Nat} {ad : Nat → Nat} {E : Nat → va_E} (C : kX dd g cc own Ts) {κ n : Nat} {f : Nat → Option Nat} (hκ : κ ∈ ks) (hE : E κ = kO dd n f) (d : decode cc pc = .ok (.arraylength, 1)) (k : kv dd g a b (pc + 1) lv (.int (nI n) :: st) ks ad E) : kv dd g a b pc lv (.ref (ad κ) :: st) ks ad E := by
  obtain ⟨p, l, e, R, s, m, args, below, meth, c, Q, A, nL⟩ := g
  obtain ⟨hx, hb, hown, hts, hK, hA, hml, hZ, hst⟩ := C
  intro H locs ls hP hD hS hl
  obtain ⟨i, hi⟩ := kw_get (ad := ad) (E := E) hκ
  rw [hE] at hi
  exact va_alen hx hb hK hP i 2 hi rfl rfl d (k H locs ls hP hD hS hl)
theorem kv_alenJJ {dd : kDD} {g : kG} {cc : ByteArray} {own : String} {Ts : List Cond} {a b pc : Nat} {lv : List (Nat × Value)} {st : List Value} {ks : List Nat} {ad : Nat → Nat} {E : Nat → va_E} (C : kX dd g cc own Ts) {κ n : Nat} {f : Nat → Option Nat} (hκ : κ ∈ ks) (hE : E κ = kJJ dd n f) (d : decode cc pc = .ok (.arraylength, 1)) (k : kv dd g a b (pc + 1) lv (.int (nI n) :: st) ks ad E) : kv dd g a b pc lv (.ref (ad κ) :: st) ks ad E := by
  obtain ⟨p, l, e, R, s, m, args, below, meth, c, Q, A, nL⟩ := g
  obtain ⟨hx, hb, hown, hts, hK, hA, hml, hZ, hst⟩ := C
  intro H locs ls hP hD hS hl
  obtain ⟨i, hi⟩ := kw_get (ad := ad) (E := E) hκ
  rw [hE] at hi
  exact va_alen hx hb hK hP i 3 hi rfl rfl d (k H locs ls hP hD hS hl)
/-- the world behind a method -/
def kAt (dd : kDD) (A : Nat → Prop) (u : kT) (t : State) : Prop := va_P dd.1 vwCl (kw u.1 u.2.1 u.2.2) t.heap ∧ va_K dd.1 vwCl (kty dd) t ∧ va_D A (kw u.1 u.2.1 u.2.2)
/-- the world ahead of a method -/
def kPre (dd : kDD) (u : kT) (sz : Nat) (U : State) : Prop := U.heap.size = sz ∧ va_P dd.1 vwCl (kw u.1 u.2.1 u.2.2) U.heap ∧ va_K dd.1 vwCl (kty dd) U ∧ va_D (fun _ => True) (kw u.1 u.2.1 u.2.2) ∧ kSt (ktE dd) (va_A (kw u.1 u.2.1 u.2.2) sz) U U.heap
theorem kPre_blind {dd : kDD} {u : kT} {sz : Nat} {vs : List Value} : FrameBlind (va_Pc vs (kPre dd u sz)) := fun a U g mk q => by
  obtain ⟨h0, h1, h2, h3, h4, h5⟩ := q
  exact ⟨h0, h1, h2, va_K.moved (u := U) (U := U.calling g mk a) (Vm.Alike.refl U.vm) h3, h4, kSt.same (u := U) (U := U.calling g mk a) rfl h5⟩
def kL (g : kG) : Launch := g.2.1
abbrev kA (u : kT) (sz : Nat) : Nat → Prop := va_A (kw u.1 u.2.1 u.2.2) sz

def kCi (l : Launch) (y : MethodName) (ws : List Cond) (rm : Room) (mc ms : Nat) (dd : kDD) (vs : List Value) (u : kT) (post : Int32 → kT → Prop) : Prop := l.stackTraces = false → ∀ sz, Met l y ws rm (va_Pc vs (kPre dd u sz)) (va_Qi post (kAt dd (kA u sz)) (kA u sz)) mc ms (kA u sz)
def kRi (dd : kDD) (g : kG) (rt : FieldType) (post : Int32 → kT → Prop) (mc ms : Nat) : Prop := match g with
  | (p, l, e, R, s, m, args, below, meth, c, Q, A, nL) => (∀ (H : Heap) (locs : List Loc) (f : JFrame), W p l e R s m args below meth c H locs mc ms (MQ below (va_Qi post (kAt dd A) A) args s mc ms A) f → W p l e R s m args below meth c H locs mc ms Q f) ∧ meth.sig.returnType = some rt ∧ meth.locks = false
def kCl (l : Launch) (y : MethodName) (ws : List Cond) (rm : Room) (mc ms : Nat) (dd : kDD) (vs : List Value) (u : kT) (post : Int64 → kT → Prop) : Prop := l.stackTraces = false → ∀ sz, Met l y ws rm (va_Pc vs (kPre dd u sz)) (va_Ql post (kAt dd (kA u sz)) (kA u sz)) mc ms (kA u sz)
def kRl (dd : kDD) (g : kG) (rt : FieldType) (post : Int64 → kT → Prop) (mc ms : Nat) : Prop := match g with
  | (p, l, e, R, s, m, args, below, meth, c, Q, A, nL) => (∀ (H : Heap) (locs : List Loc) (f : JFrame), W p l e R s m args below meth c H locs mc ms (MQ below (va_Ql post (kAt dd A) A) args s mc ms A) f → W p l e R s m args below meth c H locs mc ms Q f) ∧ meth.sig.returnType = some rt ∧ meth.locks = false
def kCv (l : Launch) (y : MethodName) (ws : List Cond) (rm : Room) (mc ms : Nat) (dd : kDD) (vs : List Value) (u : kT) (post : kT → Prop) : Prop := l.stackTraces = false → ∀ sz, Met l y ws rm (va_Pc vs (kPre dd u sz)) (va_Qv post (kAt dd (kA u sz)) (kA u sz)) mc ms (kA u sz)
def kRv (dd : kDD) (g : kG) (post : kT → Prop) (mc ms : Nat) : Prop := match g with
  | (p, l, e, R, s, m, args, below, meth, c, Q, A, nL) => (∀ (H : Heap) (locs : List Loc) (f : JFrame), W p l e R s m args below meth c H locs mc ms (MQ below (va_Qv post (kAt dd A) A) args s mc ms A) f → W p l e R s m args below meth c H locs mc ms Q f) ∧ meth.sig.returnType = none ∧ meth.locks = false
theorem kv_ireturn {dd : kDD} {g : kG} {cc : ByteArray} {own : String} {Ts : List Cond} {a b pc : Nat} {lv : List (Nat × Value)} {ks : List Nat} {ad : Nat → Nat} {E : Nat → va_E} (C : kX dd g cc own Ts) {post : Int32 → kT → Prop} {mc ms : Nat} {v : Int32} (hr : kRi dd g .int post mc ms) (hc : a ≤ mc) (hs : b ≤ ms) (hp : post v (ks, ad, E)) (d : decode cc pc = .ok (.ireturn, 1))  : kv dd g a b pc lv [.int v] ks ad E := by
  obtain ⟨p, l, e, R, s, m, args, below, meth, c, Q, A, nL⟩ := g
  obtain ⟨hx, hb, hown, hts, hK, hA, hml, hZ, hst⟩ := C
  intro H locs ls hP hD hS hl
  obtain ⟨h1, h2, h3⟩ := hr
  refine W.widen hc hs (h1 H locs _ ?_)
  exact W.iret hx hb h2 (fun t ht hW => ⟨⟨v, (ks, ad, E), rfl, hp, by rw [ht]; exact hP, va_K.moved hW.alike hK, hD⟩, hS.F ht⟩) hS.2.2 d h3
theorem kv_zreturn {dd : kDD} {g : kG} {cc : ByteArray} {own : String} {Ts : List Cond} {a b pc : Nat} {lv : List (Nat × Value)} {ks : List Nat} {ad : Nat → Nat} {E : Nat → va_E} (C : kX dd g cc own Ts) {post : Int32 → kT → Prop} {mc ms : Nat} {v : Int32} (hr : kRi dd g .boolean post mc ms) (hn : narrow .boolean (.int v) = .int v) (hc : a ≤ mc) (hs : b ≤ ms) (hp : post v (ks, ad, E)) (d : decode cc pc = .ok (.ireturn, 1))  : kv dd g a b pc lv [.int v] ks ad E := by
  obtain ⟨p, l, e, R, s, m, args, below, meth, c, Q, A, nL⟩ := g
  obtain ⟨hx, hb, hown, hts, hK, hA, hml, hZ, hst⟩ := C
  intro H locs ls hP hD hS hl
  obtain ⟨h1, h2, h3⟩ := hr
  refine W.widen hc hs (h1 H locs _ ?_)
  exact W.zret hx hb h2 hn (fun t ht hW => ⟨⟨v, (ks, ad, E), rfl, hp, by rw [ht]; exact hP, va_K.moved hW.alike hK, hD⟩, hS.F ht⟩) hS.2.2 d h3
theorem kv_lreturn {dd : kDD} {g : kG} {cc : ByteArray} {own : String} {Ts : List Cond} {a b pc : Nat} {lv : List (Nat × Value)} {ks : List Nat} {ad : Nat → Nat} {E : Nat → va_E} (C : kX dd g cc own Ts) {post : Int64 → kT → Prop} {mc ms : Nat} {v : Int64} (hr : kRl dd g .long post mc ms) (hc : a ≤ mc) (hs : b ≤ ms) (hp : post v (ks, ad, E)) (d : decode cc pc = .ok (.lreturn, 1))  : kv dd g a b pc lv [.long v] ks ad E := by
  obtain ⟨p, l, e, R, s, m, args, below, meth, c, Q, A, nL⟩ := g
  obtain ⟨hx, hb, hown, hts, hK, hA, hml, hZ, hst⟩ := C
  intro H locs ls hP hD hS hl
  obtain ⟨h1, h2, h3⟩ := hr
  refine W.widen hc hs (h1 H locs _ ?_)
  exact W.lret hx hb h2 (fun t ht hW => ⟨⟨v, (ks, ad, E), rfl, hp, by rw [ht]; exact hP, va_K.moved hW.alike hK, hD⟩, hS.F ht⟩) hS.2.2 d h3
theorem kv_return {dd : kDD} {g : kG} {cc : ByteArray} {own : String} {Ts : List Cond} {a b pc : Nat} {lv : List (Nat × Value)} {ks : List Nat} {ad : Nat → Nat} {E : Nat → va_E} (C : kX dd g cc own Ts) {post : kT → Prop} {mc ms : Nat} (hr : kRv dd g post mc ms) (hc : a ≤ mc) (hs : b ≤ ms) (hp : post (ks, ad, E)) (d : decode cc pc = .ok (.return_, 1))  : kv dd g a b pc lv [] ks ad E := by
  obtain ⟨p, l, e, R, s, m, args, below, meth, c, Q, A, nL⟩ := g
  obtain ⟨hx, hb, hown, hts, hK, hA, hml, hZ, hst⟩ := C
  intro H locs ls hP hD hS hl
  obtain ⟨h1, h2, h3⟩ := hr
  refine W.widen hc hs (h1 H locs _ ?_)
  exact W.vret hx hb h2 (fun t ht hW => ⟨⟨(ks, ad, E), rfl, hp, by rw [ht]; exact hP, va_K.moved hW.alike hK, hD⟩, hS.F ht⟩) hS.2.2 d h3
/-- an answer and a world that a z gives -/
def kQi {S : Type} (P : Int32 → S → Prop) (ks2 : S → List Nat) (ad2 : S → Nat → Nat) (E2 : S → Nat → va_E) : Int32 → kT → Prop := fun r u => ∃ z, P r z ∧ u = (ks2 z, ad2 z, E2 z)
def kQl {S : Type} (P : Int64 → S → Prop) (ks2 : S → List Nat) (ad2 : S → Nat → Nat) (E2 : S → Nat → va_E) : Int64 → kT → Prop := fun r u => ∃ z, P r z ∧ u = (ks2 z, ad2 z, E2 z)
def kQv {S : Type} (P : S → Prop) (ks2 : S → List Nat) (ad2 : S → Nat → Nat) (E2 : S → Nat → va_E) : kT → Prop := fun u => ∃ z, P z ∧ u = (ks2 z, ad2 z, E2 z)
theorem kMeti {l : Launch} {y : MethodName} {ws ws' : List Cond} {rm : Room} {mc ms maxL : Nat} {cc : ByteArray} {rt : FieldType} {dd : kDD} {vs : List Value} {u : kT} {post : Int32 → kT → Prop} (hy : plainName y.cls = true) (hw : ws = Cond.code y cc maxL (some rt) :: ws') (hl : (lg_sl vs).length ≤ maxL) (body : ∀ g : kG, kX dd g cc y.cls ws → kRi dd g rt post mc ms → knL g = maxL → kR g = rm → kL g = l → kname g = y.name → kv dd g 0 0 0 (lv_args 0 vs) [] u.1 u.2.1 u.2.2) : kCi l y ws rm mc ms dd vs u post := by
  intro hst sz
  refine Met.ofW (cc := cc) (maxL := maxL) (ret := (some rt)) hy hw ?_
  intro p e s m args below meth c s₁ B hml hv
  obtain ⟨rfl, hsz, hP, hK, hD0, hZ⟩ := hv
  have hown : s.vm.findClass y.cls = some m.cls := findClass_of_methodNamed B.named
  subst hsz
  have hD := hD0.self (sz := s.heap.size)
  have K := body (p, l, e, (headSpec ws rm).room, s, m, vs.toArray, below, meth, c, _, kA u s.heap.size, maxL) ⟨B.exec, B.bytes, hown, atoms_spec (ws := ws) B.pre, hK, (fun q h => Or.inr h), hml, hZ, hst⟩ ⟨fun H locs f k => k, B.returns, B.notSynchronized⟩ rfl rfl rfl (name_of_methodNamed B.named B.method).1
  have hl0 := lv_entry vs (n := maxL) hl
  rw [lg_entry_eq]
  exact K s.heap [] _ hP hD va_S.rf hl0
theorem kMetl {l : Launch} {y : MethodName} {ws ws' : List Cond} {rm : Room} {mc ms maxL : Nat} {cc : ByteArray} {rt : FieldType} {dd : kDD} {vs : List Value} {u : kT} {post : Int64 → kT → Prop} (hy : plainName y.cls = true) (hw : ws = Cond.code y cc maxL (some rt) :: ws') (hl : (lg_sl vs).length ≤ maxL) (body : ∀ g : kG, kX dd g cc y.cls ws → kRl dd g rt post mc ms → knL g = maxL → kR g = rm → kL g = l → kname g = y.name → kv dd g 0 0 0 (lv_args 0 vs) [] u.1 u.2.1 u.2.2) : kCl l y ws rm mc ms dd vs u post := by
  intro hst sz
  refine Met.ofW (cc := cc) (maxL := maxL) (ret := (some rt)) hy hw ?_
  intro p e s m args below meth c s₁ B hml hv
  obtain ⟨rfl, hsz, hP, hK, hD0, hZ⟩ := hv
  have hown : s.vm.findClass y.cls = some m.cls := findClass_of_methodNamed B.named
  subst hsz
  have hD := hD0.self (sz := s.heap.size)
  have K := body (p, l, e, (headSpec ws rm).room, s, m, vs.toArray, below, meth, c, _, kA u s.heap.size, maxL) ⟨B.exec, B.bytes, hown, atoms_spec (ws := ws) B.pre, hK, (fun q h => Or.inr h), hml, hZ, hst⟩ ⟨fun H locs f k => k, B.returns, B.notSynchronized⟩ rfl rfl rfl (name_of_methodNamed B.named B.method).1
  have hl0 := lv_entry vs (n := maxL) hl
  rw [lg_entry_eq]
  exact K s.heap [] _ hP hD va_S.rf hl0
theorem kMetv {l : Launch} {y : MethodName} {ws ws' : List Cond} {rm : Room} {mc ms maxL : Nat} {cc : ByteArray} {dd : kDD} {vs : List Value} {u : kT} {post : kT → Prop} (hy : plainName y.cls = true) (hw : ws = Cond.code y cc maxL none :: ws') (hl : (lg_sl vs).length ≤ maxL) (body : ∀ g : kG, kX dd g cc y.cls ws → kRv dd g post mc ms → knL g = maxL → kR g = rm → kL g = l → kname g = y.name → kv dd g 0 0 0 (lv_args 0 vs) [] u.1 u.2.1 u.2.2) : kCv l y ws rm mc ms dd vs u post := by
  intro hst sz
  refine Met.ofW (cc := cc) (maxL := maxL) (ret := none) hy hw ?_
  intro p e s m args below meth c s₁ B hml hv
  obtain ⟨rfl, hsz, hP, hK, hD0, hZ⟩ := hv
  have hown : s.vm.findClass y.cls = some m.cls := findClass_of_methodNamed B.named
  subst hsz
  have hD := hD0.self (sz := s.heap.size)
  have K := body (p, l, e, (headSpec ws rm).room, s, m, vs.toArray, below, meth, c, _, kA u s.heap.size, maxL) ⟨B.exec, B.bytes, hown, atoms_spec (ws := ws) B.pre, hK, (fun q h => Or.inr h), hml, hZ, hst⟩ ⟨fun H locs f k => k, B.returns, B.notSynchronized⟩ rfl rfl rfl (name_of_methodNamed B.named B.method).1
  have hl0 := lv_entry vs (n := maxL) hl
  rw [lg_entry_eq]
  exact K s.heap [] _ hP hD va_S.rf hl0

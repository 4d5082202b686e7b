/-! ROWS, third half: throws, new things, arrays of references -/
def kBad : List Cond := kDcl.map (fun y => Cond.declares y) ++ kCst.map (fun q => Cond.castable q.1 q.2)
theorem kBad_ok {tE : Nat × Nat} {A : Nat → Prop} {s : State} {H : Heap} {args : Array Value} (h : kSt tE A s H) : ∀ w ∈ kBad, w.before args s = true := by
  intro w hw
  rcases List.mem_append.mp hw with hw | hw
  · obtain ⟨y, hy, rfl⟩ := List.mem_map.mp hw
    exact (h.2.2.2.2.2.2.2.2.2.2.2.2.2 y hy).use rfl
  · obtain ⟨q, hq, rfl⟩ := List.mem_map.mp hw
    exact (h.2.2.2.2.2.1 q hq).use rfl
theorem kv_throw {dd : kDD} {g : kG} {cc : ByteArray} {own : String} {Ts : List Cond} {a b pc : Nat} {lv : List (Nat × Value)} {st : List Value} {ks : List Nat} {ad : Nat → Nat} {E : Nat → va_E} (C : kX dd g cc own Ts) {xp : String → kT → Prop} {mc ms : Nat} {cls text : String} {names : List String} {ik is ic : Nat} {RR : Room} (hRX : kRX dd g xp mc ms) (hcls : Bundle.fit cls = true) (hnames : ∀ n ∈ names, Bundle.fit n = true) (hk : Cond.classLink own ik cls ∈ Ts) (hini : Cond.initialized cls ∈ Ts) (hstr : (own, is, text) ∈ kStr) (hat : ∀ w ∈ (vx_atS own ic cls names).filter goodWord, w ∈ Ts) (hbad : ∀ w ∈ (vx_atS own ic cls names).filter (fun w => !goodWord w), w ∈ kBad) (hgood : ∀ w ∈ Cond.classLink own ik cls :: Cond.initialized cls :: vx_atS own ic cls names, vx_ot w = true) (d0 : decode cc pc = .ok (.new ik, 3)) (d3 : decode cc (pc + 3) = .ok (.dup, 1)) (d4 : decode cc (pc + 4) = .ok (.ldc is, 2)) (d6 : decode cc (pc + 6) = .ok (.invokespecial ic, 3)) (d9 : decode cc (pc + 9) = .ok (.athrow, 1)) (hRR : kR g = RR) (hw : (st.map fun v => v.category).sum ≤ 8) (hrm : names.length + 3 < RR.frames ∧ 8 + (13 * (names.length + 1) + 43) ≤ RR.locals ∧ a + 1 ≤ RR.cells ∧ b + 6 ≤ RR.slots) (hc : a + 1 ≤ mc) (hs : b + 6 ≤ ms) (hp : xp cls (ks, ad, E))  : kv dd g a b pc lv st ks ad E := by
  obtain ⟨p, l, e, R, s, m, args, below, meth, c, Q, A, nL⟩ := g
  obtain ⟨hx, hb, hown, hts, hK, hA, hml, hZ, hst⟩ := C
  intro H locs ls hP hD hS hl
  subst hRR
  obtain ⟨Qc, r1x, r2x, r3x, r4x⟩ := hRX
  obtain ⟨sa, hsa⟩ := hZ.2.2.2.2.1 _ hstr
  refine r1x H locs _ _ _ (vx_throwS (sa := sa) (A := A) (text := text) (names := names) hx hb hst hown hcls hnames (hts _ hk) (hts _ hini) hsa (vx_hat (fun w hw => hts w (hat w hw)) hbad (kBad_ok hZ)) hgood hZ.1 hZ.2.1 hS (hl.1.trans hml.symm) d0 d3 d4 d6 d9 (fun z hz => (r4x z hz).elim) hrm.1 (Nat.le_trans (Nat.add_le_add_right hw _) hrm.2.1) hrm.2.2.1 hrm.2.2.2 r3x (fun t hvm hz hk2 => ⟨(ks, ad, E), trivial, ⟨hp, hP.kept (fun k9 x hx9 => hk2 x.1 ((hP k9 x hx9).lt)), va_K.moved hvm hK, hD⟩, ⟨Nat.le_trans hS.1 hz, fun q h1 h2 => (hk2 q (Nat.lt_of_lt_of_le h1 hS.1)).trans (hS.2.1 q h1 h2)⟩⟩) hS.2.2 hc hs)
theorem kv_throwW {dd : kDD} {g : kG} {cc : ByteArray} {own : String} {Ts : List Cond} {a b pc : Nat} {lv : List (Nat × Value)} {st : List Value} {ks : List Nat} {ad : Nat → Nat} {E : Nat → va_E} (C : kX dd g cc own Ts) {xp : String → kT → Prop} {mc ms : Nat} {cls text : String} {names : List String} {ik is ic : Nat} {RR : Room} (hRX : kRX dd g xp mc ms) (hcls : Bundle.fit cls = true) (hnames : ∀ n ∈ names, Bundle.fit n = true) (hk : Cond.classLink own ik cls ∈ Ts) (hini : Cond.initialized cls ∈ Ts) (hstr : (own, is, text) ∈ kStr) (hat : ∀ w ∈ (vx_atS own ic cls names).filter goodWord, w ∈ Ts) (hbad : ∀ w ∈ (vx_atS own ic cls names).filter (fun w => !goodWord w), w ∈ kBad) (hgood : ∀ w ∈ Cond.classLink own ik cls :: Cond.initialized cls :: vx_atS own ic cls names, vx_ot w = true) (d0 : decode cc pc = .ok (.new ik, 3)) (d3 : decode cc (pc + 3) = .ok (.dup, 1)) (d4 : decode cc (pc + 4) = .ok (.ldc_w is, 3)) (d6 : decode cc (pc + 7) = .ok (.invokespecial ic, 3)) (d9 : decode cc (pc + 10) = .ok (.athrow, 1)) (hRR : kR g = RR) (hw : (st.map fun v => v.category).sum ≤ 8) (hrm : names.length + 3 < RR.frames ∧ 8 + (13 * (names.length + 1) + 43) ≤ RR.locals ∧ a + 1 ≤ RR.cells ∧ b + 6 ≤ RR.slots) (hc : a + 1 ≤ mc) (hs : b + 6 ≤ ms) (hp : xp cls (ks, ad, E))  : kv dd g a b pc lv st ks ad E := by
  obtain ⟨p, l, e, R, s, m, args, below, meth, c, Q, A, nL⟩ := g
  obtain ⟨hx, hb, hown, hts, hK, hA, hml, hZ, hst⟩ := C
  intro H locs ls hP hD hS hl
  subst hRR
  obtain ⟨Qc, r1x, r2x, r3x, r4x⟩ := hRX
  obtain ⟨sa, hsa⟩ := hZ.2.2.2.2.1 _ hstr
  refine r1x H locs _ _ _ (vx_throwSW (sa := sa) (A := A) (text := text) (names := names) hx hb hst hown hcls hnames (hts _ hk) (hts _ hini) hsa (vx_hat (fun w hw => hts w (hat w hw)) hbad (kBad_ok hZ)) hgood hZ.1 hZ.2.1 hS (hl.1.trans hml.symm) d0 d3 d4 d6 d9 (fun z hz => (r4x z hz).elim) hrm.1 (Nat.le_trans (Nat.add_le_add_right hw _) hrm.2.1) hrm.2.2.1 hrm.2.2.2 r3x (fun t hvm hz hk2 => ⟨(ks, ad, E), trivial, ⟨hp, hP.kept (fun k9 x hx9 => hk2 x.1 ((hP k9 x hx9).lt)), va_K.moved hvm hK, hD⟩, ⟨Nat.le_trans hS.1 hz, fun q h1 h2 => (hk2 q (Nat.lt_of_lt_of_le h1 hS.1)).trans (hS.2.1 q h1 h2)⟩⟩) hS.2.2 hc hs)
/-- a link to a class of which an object is made, with its fields' first values -/
def kN (Ts : List Cond) (own : String) (index ci : Nat) (fs : List Value) (N : Nat) : Prop := ∃ (Cn : String) (T : u_T) (ty : Nat → FieldType), (∀ w ∈ u_ws Cn T N, w ∈ Ts) ∧ (∀ k, k < N → parseFieldDescriptor (T k).2.2.1 = some (ty k)) ∧ Cond.classLink own index Cn ∈ Ts ∧ Cond.instantiable Cn N ∈ Ts ∧ Cond.initialized Cn ∈ Ts ∧ vwCl[ci]? = some (Cn, T, N) ∧ ∀ j, j < N → defaultValue (ty j) = vp_V fs j
theorem kv_new {dd : kDD} {g : kG} {cc : ByteArray} {own : String} {Ts : List Cond} {a b pc : Nat} {lv : List (Nat × Value)} {st : List Value} {ks : List Nat} {ad : Nat → Nat} {E : Nat → va_E} (C : kX dd g cc own Ts) {index ci N : Nat} {fs : List Value} {RR : Room} (κ : Nat) (hn : kN Ts own index ci fs N) (hk : κ ∉ ks) (hRR : kR g = RR) (hrm : a + 1 ≤ RR.cells ∧ b + N ≤ RR.slots) (d : decode cc pc = .ok (.new index, 3)) (k : ∀ q : Nat, kv dd g (a + 1) (b + N) (pc + 3) lv (.ref q :: st) (ks ++ [κ]) (va_up ad κ q) (va_up E κ (.inr (ci, fs)))) : kv dd g a b pc lv st ks ad E := by
  obtain ⟨p, l, e, R, s, m, args, below, meth, c, Q, A, nL⟩ := g
  obtain ⟨hx, hb, hown, hts, hK, hA, hml, hZ, hst⟩ := C
  intro H locs ls hP hD hS hl
  subst hRR
  obtain ⟨Cn, T, ty, h1, h2, h3, h4, h5, h6, h7⟩ := hn
  refine va_new hx hb hts h1 ty h2 hown (hts _ h3) (hts _ h4) (hts _ h5) hK hP hD hS hA h6 h7 hrm.1 hrm.2 d (fun q H1 hP1 hD1 hS1 => ?_)
  rw [kw_push hk] at hP1 hD1
  exact k q H1 locs ls hP1 hD1 hS1 hl
theorem kK_at {D : va_G} {cl : List vw_C} {tys : List (ClassId × FieldType)} {s : State} {c1 c2 : ClassId} {ty : FieldType} (hty : ∀ C, ty ≠ .object C) (h : va_K D cl (tys ++ [(c1, ty)]) s) {i : Nat} (hi : tys[i]? = some (c2, ty)) : c1 = c2 := by
  have h1 := (h.2 tys.length (c1, ty) (by rw [List.getElem?_append_right (Nat.le_refl _), Nat.sub_self]; rfl)).2
  have h2 := (h.2 i (c2, ty) (by rw [List.getElem?_append_left (List.getElem?_eq_some_iff.mp hi).1]; exact hi)).2
  cases ty <;> first | exact absurd rfl (hty _) | exact Option.some.inj (h1.symm.trans h2)
theorem kK_atO {D : va_G} {cl : List vw_C} {tys : List (ClassId × FieldType)} {s : State} {c1 c2 : ClassId} {C : String} (h : va_K D cl (tys ++ [(c1, .object C)]) s) {i : Nat} (hi : tys[i]? = some (c2, .object C)) : c1 = c2 := by
  obtain ⟨k1, p1, a1, a2, a3, a4⟩ := (h.2 tys.length (c1, .object C) (by rw [List.getElem?_append_right (Nat.le_refl _), Nat.sub_self]; rfl)).2
  obtain ⟨k2, p2, b1, b2, b3, b4⟩ := (h.2 i (c2, .object C) (by rw [List.getElem?_append_left (List.getElem?_eq_some_iff.mp hi).1]; exact hi)).2
  exact Option.some.inj (a4.symm.trans b4)
theorem kv_newarrI {dd : kDD} {g : kG} {cc : ByteArray} {own : String} {Ts : List Cond} {a b pc : Nat} {lv : List (Nat × Value)} {st : List Value} {ks : List Nat} {ad : Nat → Nat} {E : Nat → va_E} (C : kX dd g cc own Ts) {N : Nat} {RR : Room} (κ : Nat) (har : Cond.arrayClass .int ∈ Ts) (hk : κ ∉ ks) (hN : N < 10000) (hRR : kR g = RR) (hrm : a + 1 ≤ RR.cells ∧ b + N ≤ RR.slots) (d : decode cc pc = .ok (.newarray .int, 2)) (k : ∀ q : Nat, kv dd g (a + 1) (b + N) (pc + 2) lv (.ref q :: st) (ks ++ [κ]) (va_up ad κ q) (va_up E κ (kI dd N (fun _ => 0)))) : kv dd g a b pc lv (.int (nI N) :: st) ks ad E := by
  obtain ⟨p, l, e, R, s, m, args, below, meth, c, Q, A, nL⟩ := g
  obtain ⟨hx, hb, hown, hts, hK, hA, hml, hZ, hst⟩ := C
  intro H locs ls hP hD hS hl
  subst hRR
  refine va_newa (atype := .int) (ty := .int) (N' := N) (a0 := (N, .inl (fun _ => 0))) hx hb (hts _ har) rfl hK hP hD hS hA (fun cA => rfl) (by rw [i_lt, nI_toInt (by omega)]; show ¬ (N : Int) < 0; omega) (nI_clamp (by omega)) (by show N * _ ≤ _; simp only [componentBytes]; omega) hrm.1 hrm.2 d (fun q cA H1 hK1 hP1 hD1 hS1 => ?_)
  have e := kK_at (fun C h => by cases h) hK1 (i := 0) (c2 := dd.2.1) rfl
  subst e
  rw [kw_push hk] at hP1 hD1
  exact k q H1 locs ls hP1 hD1 hS1 hl
theorem kv_newarrJ {dd : kDD} {g : kG} {cc : ByteArray} {own : String} {Ts : List Cond} {a b pc : Nat} {lv : List (Nat × Value)} {st : List Value} {ks : List Nat} {ad : Nat → Nat} {E : Nat → va_E} (C : kX dd g cc own Ts) {N : Nat} {RR : Room} (κ : Nat) (har : Cond.arrayClass .long ∈ Ts) (hk : κ ∉ ks) (hN : N < 10000) (hRR : kR g = RR) (hrm : a + 1 ≤ RR.cells ∧ b + N ≤ RR.slots) (d : decode cc pc = .ok (.newarray .long, 2)) (k : ∀ q : Nat, kv dd g (a + 1) (b + N) (pc + 2) lv (.ref q :: st) (ks ++ [κ]) (va_up ad κ q) (va_up E κ (kJ dd N (fun _ => 0)))) : kv dd g a b pc lv (.int (nI N) :: st) ks ad E := by
  obtain ⟨p, l, e, R, s, m, args, below, meth, c, Q, A, nL⟩ := g
  obtain ⟨hx, hb, hown, hts, hK, hA, hml, hZ, hst⟩ := C
  intro H locs ls hP hD hS hl
  subst hRR
  refine va_newa (atype := .long) (ty := .long) (N' := N) (a0 := (N, .inr (.inl (fun _ => 0)))) hx hb (hts _ har) rfl hK hP hD hS hA (fun cA => rfl) (by rw [i_lt, nI_toInt (by omega)]; show ¬ (N : Int) < 0; omega) (nI_clamp (by omega)) (by show N * _ ≤ _; simp only [componentBytes]; omega) hrm.1 hrm.2 d (fun q cA H1 hK1 hP1 hD1 hS1 => ?_)
  have e := kK_at (fun C h => by cases h) hK1 (i := 1) (c2 := dd.2.2.1) rfl
  subst e
  rw [kw_push hk] at hP1 hD1
  exact k q H1 locs ls hP1 hD1 hS1 hl
theorem kv_anewO {dd : kDD} {g : kG} {cc : ByteArray} {own : String} {Ts : List Cond} {a b pc : Nat} {lv : List (Nat × Value)} {st : List Value} {ks : List Nat} {ad : Nat → Nat} {E : Nat → va_E} (C : kX dd g cc own Ts) {index N : Nat} {RR : Room} (κ : Nat) (hcl : Cond.classLink own index "java/lang/Object" ∈ Ts) (hk : κ ∉ ks) (hN : N < 10000) (hRR : kR g = RR) (hrm : a + 1 ≤ RR.cells ∧ b + N ≤ RR.slots) (d : decode cc pc = .ok (.anewarray index, 3)) (k : ∀ q : Nat, kv dd g (a + 1) (b + N) (pc + 3) lv (.ref q :: st) (ks ++ [κ]) (va_up ad κ q) (va_up E κ (kO dd N (fun _ => none)))) : kv dd g a b pc lv (.int (nI N) :: st) ks ad E := by
  obtain ⟨p, l, e, R, s, m, args, below, meth, c, Q, A, nL⟩ := g
  obtain ⟨hx, hb, hown, hts, hK, hA, hml, hZ, hst⟩ := C
  intro H locs ls hP hD hS hl
  subst hRR
  refine va_newq (N' := N) (C := "java/lang/Object") hx hb hown (hts _ hcl) hZ.2.2.2.2.2.2.2.2.1 hK hP hD hS hA (by rw [i_lt, nI_toInt (by omega)]; show ¬ (N : Int) < 0; omega) (nI_clamp (by omega)) (by omega) hrm.1 hrm.2 d (fun q cA H1 hK1 hP1 hD1 hS1 => ?_)
  have e := kK_atO hK1 (i := 2) (c2 := dd.2.2.2.1) rfl
  subst e
  rw [kw_push hk] at hP1 hD1
  exact k q H1 locs ls hP1 hD1 hS1 hl
theorem kv_ad {dd : kDD} {g : kG} {a b pc : Nat} {lv : List (Nat × Value)} {st : List Value} {ks : List Nat} {ad ad2 : Nat → Nat} {E : Nat → va_E} (h : ∀ j, j ∈ ks → ad j = ad2 j) (k : kv dd g a b pc lv st ks ad2 E) : kv dd g a b pc lv st ks ad E := by
  obtain ⟨p, l, e, R, s, m, args, below, meth, c, Q, A, nL⟩ := g
  intro H locs ls hP hD hS hl
  have e1 : kw ks ad E = kw ks ad2 E := kw_congr (fun j hj => ⟨h j hj, rfl⟩)
  rw [e1] at hP hD
  exact k H locs ls hP hD hS hl
/-- keys renamed, and fewer of them -/
theorem kv_ren {dd : kDD} {g : kG} {a b pc : Nat} {lv : List (Nat × Value)} {st : List Value} {ks ks2 : List Nat} {ad ad2 : Nat → Nat} {E E2 : Nat → va_E} (f : Nat → Nat) (hn : ks2.Nodup) (h : ∀ j, j ∈ ks2 → f j ∈ ks ∧ ad (f j) = ad2 j ∧ E (f j) = E2 j) (hf : ∀ i j, i ∈ ks2 → j ∈ ks2 → f i = f j → i = j) (k : kv dd g a b pc lv st ks2 ad2 E2) : kv dd g a b pc lv st ks ad E := by
  obtain ⟨p, l, e, R, s, m, args, below, meth, c, Q, A, nL⟩ := g
  intro H locs ls hP hD hS hl
  refine k H locs ls (fun i q hq => ?_) ⟨fun i j x y hx hy hxy => ?_, fun i q hq => ?_⟩ hS hl
  · obtain ⟨k1, -, h2, rfl⟩ := kw_at hq
    obtain ⟨h3, h4, h5⟩ := h k1 h2
    obtain ⟨i2, h6⟩ := kw_get (ad := ad) (E := E) h3
    rw [h4, h5] at h6
    exact hP i2 _ h6
  · obtain ⟨k1, h1, h2, rfl⟩ := kw_at hx
    obtain ⟨k2, h3, h4, rfl⟩ := kw_at hy
    obtain ⟨a1, a2, a3⟩ := h k1 h2
    obtain ⟨b1, b2, b3⟩ := h k2 h4
    have e1 : ad2 k1 = ad2 k2 := hxy
    rw [← a2, ← b2] at e1
    have := hf k1 k2 h2 h4 (kw_inj hD a1 b1 e1)
    subst this
    exact k_nodup hn h1 h3
  · obtain ⟨k1, -, h2, rfl⟩ := kw_at hq
    obtain ⟨h3, h4, h5⟩ := h k1 h2
    obtain ⟨i2, h6⟩ := kw_get (ad := ad) (E := E) h3
    have := hD.2 i2 _ h6
    show A (ad2 k1)
    rw [← h4]
    exact this
/-- two keys of a world have two addresses -/
theorem kv_apart {dd : kDD} {g : kG} {a b pc : Nat} {lv : List (Nat × Value)} {st : List Value} {ks : List Nat} {ad : Nat → Nat} {E : Nat → va_E} {i j : Nat} (hi : i ∈ ks) (hj : j ∈ ks) (h : i ≠ j) (k : ad i ≠ ad j → kv dd g a b pc lv st ks ad E) : kv dd g a b pc lv st ks ad E := by
  obtain ⟨p, l, e, R, s, m, args, below, meth, c, Q, A, nL⟩ := g
  intro H locs ls hP hD hS hl
  exact k (fun e => h (kw_inj hD hi hj e)) H locs ls hP hD hS hl
/-- the JDK's empty row lies outside the world -/
theorem kv_apartE {dd : kDD} {g : kG} {cc : ByteArray} {own : String} {Ts : List Cond} (C : kX dd g cc own Ts) {a b pc : Nat} {lv : List (Nat × Value)} {st : List Value} {ks : List Nat} {ad : Nat → Nat} {E : Nat → va_E} {i : Nat} (hi : i ∈ ks) (k : ad i ≠ (ktE dd).1 → kv dd g a b pc lv st ks ad E) : kv dd g a b pc lv st ks ad E := by
  obtain ⟨p, l, e, R, s, m, args, below, meth, c, Q, A, nL⟩ := g
  obtain ⟨hx, hb, hown, hts, hK, hA, hml, hZ, hst⟩ := C
  intro H locs ls hP hD hS hl
  refine k (fun e9 => ?_) H locs ls hP hD hS hl
  obtain ⟨i2, h6⟩ := kw_get (ad := ad) (E := E) hi
  have h1 := hD.2 i2 _ h6
  obtain ⟨cell, -, -, -, -, -, -, h2⟩ := hZ.2.2.2.1
  exact h2 (e9 ▸ h1)
theorem kAny {dd : kDD} {s : State} {tE : Nat × Nat} {A : Nat → Prop} {H0 H : Heap} {ks : List Nat} {ad : Nat → Nat} {E : Nat → va_E} {κ ci : Nat} {fs : List Value} {r : vw_C} (hK : va_K dd.1 vwCl (kty dd) s) (hP : va_P dd.1 vwCl (kw ks ad E) H) (hZ : kSt tE A s H0) (hκ : κ ∈ ks) (hE : E κ = .inr (ci, fs)) (hc : vwCl[ci]? = some r) (hcst : (r.1, "java/lang/Object") ∈ kCst) : va_Any "java/lang/Object" s H (ad κ) := by
  obtain ⟨i, hi⟩ := kw_get (ad := ad) (E := E) hκ
  rw [hE] at hi
  refine va_rAny hK hP hi hc (fun comp c0 h1 h2 => ?_)
  obtain ⟨c3, c4, h3, h4, h5⟩ := Cond.castable_spec (hZ.2.2.2.2.2.1 _ hcst)
  cases Option.some.inj (h3.symm.trans h2)
  cases Option.some.inj (h4.symm.trans h1)
  exact h5
theorem kv_aastO {dd : kDD} {g : kG} {cc : ByteArray} {own : String} {Ts : List Cond} {a b pc : Nat} {lv : List (Nat × Value)} {st : List Value} {ks : List Nat} {ad : Nat → Nat} {E : Nat → va_E} (C : kX dd g cc own Ts) {κ n j κv ci : Nat} {f : Nat → Option Nat} {fs : List Value} {r : vw_C} (hκ : κ ∈ ks) (hE : E κ = kO dd n f) (hj : j < n) (hn : n < 2 ^ 31) (hκv : κv ∈ ks) (hEv : E κv = .inr (ci, fs)) (hc : vwCl[ci]? = some r) (hcst : (r.1, "java/lang/Object") ∈ kCst) (d : decode cc pc = .ok (.aastore, 1)) (k : kv dd g a b (pc + 1) lv st ks ad (va_up E κ (kO dd n (va_up f j (some (ad κv)))))) : kv dd g a b pc lv (.ref (ad κv) :: .int (nI j) :: .ref (ad κ) :: st) ks ad E := by
  obtain ⟨p, l, e, R, s, m, args, below, meth, c, Q, A, nL⟩ := g
  obtain ⟨hx, hb, hown, hts, hK, hA, hml, hZ, hst⟩ := C
  intro H locs ls hP hD hS hl
  obtain ⟨i, hi⟩ := kw_get (ad := ad) (E := E) hκ
  have hi2 := hi
  rw [hE] at hi2
  refine va_astqM hx hb hK hP hD hS i 2 hi2 rfl (kAny hK hP hZ hκv hEv hc hcst) (vp_in_nI hj hn) d (fun H1 locs1 hP1 hD1 hS1 => ?_)
  rw [kw_set hD hκ hi, nI_clamp (Nat.lt_trans hj hn)] at hP1 hD1
  exact k H1 locs1 ls hP1 hD1 hS1 hl
theorem kv_aastN {dd : kDD} {g : kG} {cc : ByteArray} {own : String} {Ts : List Cond} {a b pc : Nat} {lv : List (Nat × Value)} {st : List Value} {ks : List Nat} {ad : Nat → Nat} {E : Nat → va_E} (C : kX dd g cc own Ts) {κ n j : Nat} {f : Nat → Option Nat} (hκ : κ ∈ ks) (hE : E κ = kO dd n f) (hj : j < n) (hn : n < 2 ^ 31) (d : decode cc pc = .ok (.aastore, 1)) (k : kv dd g a b (pc + 1) lv st ks ad (va_up E κ (kO dd n (va_up f j none)))) : kv dd g a b pc lv (.null :: .int (nI j) :: .ref (ad κ) :: st) ks ad E := by
  obtain ⟨p, l, e, R, s, m, args, below, meth, c, Q, A, nL⟩ := g
  obtain ⟨hx, hb, hown, hts, hK, hA, hml, hZ, hst⟩ := C
  intro H locs ls hP hD hS hl
  obtain ⟨i, hi⟩ := kw_get (ad := ad) (E := E) hκ
  have hi2 := hi
  rw [hE] at hi2
  refine va_astqN hx hb hK hP hD hS i 2 hi2 rfl (vp_in_nI hj hn) d (fun H1 locs1 hP1 hD1 hS1 => ?_)
  rw [kw_set hD hκ hi, nI_clamp (Nat.lt_trans hj hn)] at hP1 hD1
  exact k H1 locs1 ls hP1 hD1 hS1 hl
theorem kv_copyO {dd : kDD} {g : kG} {cc : ByteArray} {own : String} {Ts : List Cond} {a b pc : Nat} {lv : List (Nat × Value)} {st : List Value} {ks : List Nat} {ad : Nat → Nat} {E : Nat → va_E} (C : kX dd g cc own Ts) {index κ0 κ1 n0 n1 sp dp n : Nat} {f f1 : Nat → Option Nat} {RR : Room} (hlink : Cond.methodLink own index arraycopyName ∈ Ts) (hnat : Cond.native arraycopyName ∈ Ts) (hstat : Cond.static arraycopyName ∈ Ts) (hini : Cond.initialized "java/lang/System" ∈ Ts) (hκ0 : κ0 ∈ ks) (hE0 : E κ0 = kO dd n0 f) (hκ1 : κ1 ∈ ks) (hE1 : E κ1 = kO dd n1 f1) (h4 : sp + n ≤ n0) (h5 : dp + n ≤ n1) (hb0 : n0 < 10000) (hb1 : n1 < 10000) (hel : ∀ i, i < n → ∀ y, f (sp + i) = some y → ∃ κv ci fs r, κv ∈ ks ∧ y = ad κv ∧ E κv = .inr (ci, fs) ∧ vwCl[ci]? = some r ∧ (r.1, "java/lang/Object") ∈ kCst) (hRR : kR g = RR) (hw : (st.map fun v => v.category).sum ≤ 8) (hrm : 1 ≤ RR.frames ∧ 8 + (nativeFrameWords "java/lang/System" "arraycopy" 5 + 11) ≤ RR.locals) (d : decode cc pc = .ok (.invokestatic index, 3)) (k : kv dd g a b (pc + 3) lv st ks ad (va_up E κ1 (kO dd n1 (va_cpy f f1 sp dp n)))) : kv dd g a b pc lv (.int (nI n) :: .int (nI dp) :: .ref (ad κ1) :: .int (nI sp) :: .ref (ad κ0) :: st) ks ad E := by
  obtain ⟨p, l, e, R, s, m, args, below, meth, c, Q, A, nL⟩ := g
  obtain ⟨hx, hb, hown, hts, hK, hA, hml, hZ, hst⟩ := C
  intro H locs ls hP hD hS hl
  subst hRR
  obtain ⟨i0, hi0⟩ := kw_get (ad := ad) (E := E) hκ0
  rw [hE0] at hi0
  obtain ⟨i1, hi1⟩ := kw_get (ad := ad) (E := E) hκ1
  have hi2 := hi1
  rw [hE1] at hi2
  have nn : ∀ x : Nat, x < 10000 → ¬ nI x < 0 := fun x hx => by rw [i_lt, nI_toInt (by omega)]; show ¬ (x : Int) < 0; omega
  have e1 : (nI sp).toNatClampNeg = sp := nI_clamp (by omega)
  have e2 : (nI dp).toNatClampNeg = dp := nI_clamp (by omega)
  have e3 : (nI n).toNatClampNeg = n := nI_clamp (by omega)
  refine va_copyM hx hb (hml.trans hl.1.symm) hown (hts _ hlink) (hts _ hnat) (hts _ hstat) (hts _ hini) hK hP hD hS i0 i1 2 2 hi0 hi2 rfl rfl (nn _ (by omega)) (nn _ (by omega)) (nn _ (by omega)) (by rw [e1, e3]; exact h4) (by rw [e2, e3]; exact h5) (fun i hi y hy => ?_) hrm.1 (Nat.le_trans (Nat.add_le_add_right hw _) hrm.2) d (fun H1 locs1 hP1 hD1 hS1 => ?_)
  · rw [e3] at hi
    rw [e1] at hy
    obtain ⟨κv, ci, fs, r, q1, rfl, q3, q4, q5⟩ := hel i hi y hy
    exact kAny hK hP hZ q1 q3 q4 q5
  · rw [kw_set hD hκ1 hi1, e1, e2, e3] at hP1 hD1
    exact k H1 locs1 ls hP1 hD1 hS1 hl
theorem kv_getsE {dd : kDD} {g : kG} {cc : ByteArray} {own : String} {Ts : List Cond} {a b pc : Nat} {lv : List (Nat × Value)} {st : List Value} {ks : List Nat} {ad : Nat → Nat} {E : Nat → va_E} (C : kX dd g cc own Ts) {index : Nat} (hlink : Cond.fieldLink own index "java/util/ArrayList" "DEFAULTCAPACITY_EMPTY_ELEMENTDATA" "[Ljava/lang/Object;" ∈ Ts) (d : decode cc pc = .ok (.getstatic index, 3)) (k : kv dd g a b (pc + 3) lv (.ref (ktE dd).1 :: st) ks ad E) : kv dd g a b pc lv st ks ad E := by
  obtain ⟨p, l, e, R, s, m, args, below, meth, c, Q, A, nL⟩ := g
  obtain ⟨hx, hb, hown, hts, hK, hA, hml, hZ, hst⟩ := C
  intro H locs ls hP hD hS hl
  exact va_gets hx hb hZ.2.2.1 hS hown (hts _ hlink) (fun _ h => h) d (k H locs ls hP hD hS hl)
theorem kv_alenT {dd : kDD} {g : kG} {cc : ByteArray} {own : String} {Ts : List Cond} {a b pc : Nat} {lv : List (Nat × Value)} {st : List Value} {ks : List Nat} {ad : Nat → Nat} {E : Nat → va_E} (C : kX dd g cc own Ts)  (d : decode cc pc = .ok (.arraylength, 1)) (k : kv dd g a b (pc + 1) lv (.int (nI 0) :: st) ks ad E) : kv dd g a b pc lv (.ref (ktE dd).1 :: st) ks ad E := by
  obtain ⟨p, l, e, R, s, m, args, below, meth, c, Q, A, nL⟩ := g
  obtain ⟨hx, hb, hown, hts, hK, hA, hml, hZ, hst⟩ := C
  intro H locs ls hP hD hS hl
  exact va_tlen hx hb hZ.2.2.2.1 hS rfl d (k H locs ls hP hD hS hl)
theorem kv_cast {dd : kDD} {g : kG} {cc : ByteArray} {own : String} {Ts : List Cond} {a b pc : Nat} {lv : List (Nat × Value)} {st : List Value} {ks : List Nat} {ad : Nat → Nat} {E : Nat → va_E} (C : kX dd g cc own Ts) {index κ ci : Nat} {fs : List Value} {r : vw_C} (hlink : Cond.classLink own index r.1 ∈ Ts) (hκ : κ ∈ ks) (hE : E κ = .inr (ci, fs)) (hc : vwCl[ci]? = some r) (d : decode cc pc = .ok (.checkcast index, 3)) (k : kv dd g a b (pc + 3) lv (.ref (ad κ) :: st) ks ad E) : kv dd g a b pc lv (.ref (ad κ) :: st) ks ad E := by
  obtain ⟨p, l, e, R, s, m, args, below, meth, c, Q, A, nL⟩ := g
  obtain ⟨hx, hb, hown, hts, hK, hA, hml, hZ, hst⟩ := C
  intro H locs ls hP hD hS hl
  obtain ⟨i, hi⟩ := kw_get (ad := ad) (E := E) hκ
  rw [hE] at hi
  exact va_castS hx hb hown (hts _ hlink) (hK.1 ci r hc).2 (va_recv hK hP hc hi) d (k H locs ls hP hD hS hl)
theorem kv_objInit {dd : kDD} {g : kG} {cc : ByteArray} {own : String} {Ts : List Cond} {a b pc : Nat} {lv : List (Nat × Value)} {st : List Value} {ks : List Nat} {ad : Nat → Nat} {E : Nat → va_E} (C : kX dd g cc own Ts) {idx κ : Nat} {RR : Room} (hlink : Cond.methodLink own idx Lib.objectInit ∈ Ts) (hinst : Cond.instanceMethod Lib.objectInit ∈ Ts) (hcode : Cond.code Lib.objectInit ⟨#[0xb1]⟩ 1 none ∈ Ts) (hRR : kR g = RR) (hw : (st.map fun v => v.category).sum ≤ 8) (hrm : 1 ≤ RR.frames ∧ 20 ≤ RR.locals) (d : decode cc pc = .ok (.invokespecial idx, 3)) (k : kv dd g a b (pc + 3) lv st ks ad E) : kv dd g a b pc lv (.ref (ad κ) :: st) ks ad E := by
  obtain ⟨p, l, e, R, s, m, args, below, meth, c, Q, A, nL⟩ := g
  obtain ⟨hx, hb, hown, hts, hK, hA, hml, hZ, hst⟩ := C
  intro H locs ls hP hD hS hl
  subst hRR
  exact W.objInit hx hb hown (hts _ hlink) (hts _ hinst) (hts _ hcode) rfl (hl.1.trans hml.symm) rfl d hrm.1 (by show 2 * 0 + _ + 12 ≤ _; have h9 : R.locals = (kR (p, l, e, R, s, m, args, below, meth, c, Q, A, nL)).locals := rfl; omega) (k H locs ls hP hD hS hl)
theorem kv_ldcM {dd : kDD} {g : kG} {cc : ByteArray} {own : String} {Ts : List Cond} {a b pc : Nat} {lv : List (Nat × Value)} {st : List Value} {ks : List Nat} {ad : Nat → Nat} {E : Nat → va_E} (C : kX dd g cc own Ts) {index : Nat} (hlink : Cond.classLink own index "[Ljava/lang/Object;" ∈ Ts) (d : decode cc pc = .ok (.ldc index, 2)) (k : kv dd g a b (pc + 2) lv (.ref (ktE dd).2 :: st) ks ad E) : kv dd g a b pc lv st ks ad E := by
  obtain ⟨p, l, e, R, s, m, args, below, meth, c, Q, A, nL⟩ := g
  obtain ⟨hx, hb, hown, hts, hK, hA, hml, hZ, hst⟩ := C
  intro H locs ls hP hD hS hl
  exact va_ldcM hx hb hown (hts _ hlink) hZ.2.2.2.2.2.2.2.2.2.2.2.1 d (k H locs ls hP hD hS hl)
theorem kv_getC {dd : kDD} {g : kG} {cc : ByteArray} {own : String} {Ts : List Cond} {a b pc : Nat} {lv : List (Nat × Value)} {st : List Value} {ks : List Nat} {ad : Nat → Nat} {E : Nat → va_E} (C : kX dd g cc own Ts) {index κ n : Nat} {f : Nat → Option Nat} {RR : Room} (hlink : Cond.methodLink own index ⟨"java/lang/Object", "getClass", "()Ljava/lang/Class;"⟩ ∈ Ts) (hsel : Cond.selects "[Ljava/lang/Object;" ⟨"java/lang/Object", "getClass", "()Ljava/lang/Class;"⟩ ⟨"java/lang/Object", "getClass", "()Ljava/lang/Class;"⟩ ∈ Ts) (hinst : Cond.instanceMethod ⟨"java/lang/Object", "getClass", "()Ljava/lang/Class;"⟩ ∈ Ts) (hnat : Cond.native ⟨"java/lang/Object", "getClass", "()Ljava/lang/Class;"⟩ ∈ Ts) (hκ : κ ∈ ks) (hE : E κ = kO dd n f) (hRR : kR g = RR) (hw : (st.map fun v => v.category).sum ≤ 8) (hrm : 1 ≤ RR.frames ∧ 22 ≤ RR.locals) (d : decode cc pc = .ok (.invokevirtual index, 3)) (k : kv dd g a b (pc + 3) lv (.ref (ktE dd).2 :: st) ks ad E) : kv dd g a b pc lv (.ref (ad κ) :: st) ks ad E := by
  obtain ⟨p, l, e, R, s, m, args, below, meth, c, Q, A, nL⟩ := g
  obtain ⟨hx, hb, hown, hts, hK, hA, hml, hZ, hst⟩ := C
  intro H locs ls hP hD hS hl
  subst hRR
  obtain ⟨i, hi⟩ := kw_get (ad := ad) (E := E) hκ
  rw [hE] at hi
  obtain ⟨kA, comp, q1, q2, q3, q4⟩ := (hK.2 2 _ rfl).2
  exact va_getC hx hb (hml.trans hl.1.symm) hown (hts _ hlink) (va_Dc.use hZ.2.2.2.2.2.2.2.2.2.2.1) (hts _ hsel) (hts _ hinst) (hts _ hnat) hZ.2.2.2.2.2.2.2.2.2.2.2.1 ⟨_, hP i _ hi, rfl, q4⟩ hrm.1 (by have h9 : R.locals = (kR (p, l, e, R, s, m, args, below, meth, c, Q, A, nL)).locals := rfl; omega) d (k H locs ls hP hD hS hl)
theorem kv_mmax {dd : kDD} {g : kG} {cc : ByteArray} {own : String} {Ts : List Cond} {a b pc : Nat} {lv : List (Nat × Value)} {st : List Value} {ks : List Nat} {ad : Nat → Nat} {E : Nat → va_E} (C : kX dd g cc own Ts) {index : Nat} {x y : Int32} {RR : Room} (hlink : Cond.methodLink own index Lib.Math.max.name ∈ Ts) (hstat : Cond.static Lib.Math.max.name ∈ Ts) (hini : Cond.initialized "java/lang/Math" ∈ Ts) (hcode : Cond.code Lib.Math.max.name Lib.Math.max.code 2 (some .int) ∈ Ts) (hRR : kR g = RR) (hw : (st.map fun v => v.category).sum ≤ 8) (hrm : 1 ≤ RR.frames ∧ 21 ≤ RR.locals ∧ a ≤ RR.cells ∧ b ≤ RR.slots) (d : decode cc pc = .ok (.invokestatic index, 3)) (k : kv dd g a b (pc + 3) lv (.int (if x < y then y else x) :: st) ks ad E) : kv dd g a b pc lv (.int y :: .int x :: st) ks ad E := by
  obtain ⟨p, l, e, R, s, m, args, below, meth, c, Q, A, nL⟩ := g
  obtain ⟨hx, hb, hown, hts, hK, hA, hml, hZ, hst⟩ := C
  intro H locs ls hP hD hS hl
  subst hRR
  exact va_mmax hx hb (hml.trans hl.1.symm) hown (hts _ hlink) (hts _ hstat) (hts _ hini) (hts _ hcode) hrm.1 (by have h9 : R.locals = (kR (p, l, e, R, s, m, args, below, meth, c, Q, A, nL)).locals := rfl; omega) hrm.2.2.1 hrm.2.2.2 d (k H locs ls hP hD hS hl)
theorem kv_mmin {dd : kDD} {g : kG} {cc : ByteArray} {own : String} {Ts : List Cond} {a b pc : Nat} {lv : List (Nat × Value)} {st : List Value} {ks : List Nat} {ad : Nat → Nat} {E : Nat → va_E} (C : kX dd g cc own Ts) {index : Nat} {x y : Int32} {RR : Room} (hlink : Cond.methodLink own index Lib.Math.min.name ∈ Ts) (hstat : Cond.static Lib.Math.min.name ∈ Ts) (hini : Cond.initialized "java/lang/Math" ∈ Ts) (hcode : Cond.code Lib.Math.min.name Lib.Math.min.code 2 (some .int) ∈ Ts) (hRR : kR g = RR) (hw : (st.map fun v => v.category).sum ≤ 8) (hrm : 1 ≤ RR.frames ∧ 21 ≤ RR.locals ∧ a ≤ RR.cells ∧ b ≤ RR.slots) (d : decode cc pc = .ok (.invokestatic index, 3)) (k : kv dd g a b (pc + 3) lv (.int (if y < x then y else x) :: st) ks ad E) : kv dd g a b pc lv (.int y :: .int x :: st) ks ad E := by
  obtain ⟨p, l, e, R, s, m, args, below, meth, c, Q, A, nL⟩ := g
  obtain ⟨hx, hb, hown, hts, hK, hA, hml, hZ, hst⟩ := C
  intro H locs ls hP hD hS hl
  subst hRR
  exact va_mmin hx hb (hml.trans hl.1.symm) hown (hts _ hlink) (hts _ hstat) (hts _ hini) (hts _ hcode) hrm.1 (by have h9 : R.locals = (kR (p, l, e, R, s, m, args, below, meth, c, Q, A, nL)).locals := rfl; omega) hrm.2.2.1 hrm.2.2.2 d (k H locs ls hP hD hS hl)
theorem kv_tableOut {dd : kDD} {g : kG} {cc : ByteArray} {own : String} {Ts : List Cond} {a b pc : Nat} {lv : List (Nat × Value)} {st : List Value} {ks : List Nat} {ad : Nat → Nat} {E : Nat → va_E} (C : kX dd g cc own Ts) {dflt lo hi : Int} {offs : Array Int} {len : Nat} {x : Int32} {tgt : Nat} (d : decode cc pc = .ok (.tableswitch dflt lo hi offs, len)) (h : x.toInt < lo ∨ hi < x.toInt) (ht : (pc : Int) + dflt = (tgt : Int)) (k : kv dd g a b tgt lv st ks ad E) : kv dd g a b pc lv (.int x :: st) ks ad E := by
  obtain ⟨p, l, e, R, s, m, args, below, meth, c, Q, A, nL⟩ := g
  obtain ⟨hx, hb, hown, hts, hK, hA, hml, hZ, hst⟩ := C
  intro H locs ls hP hD hS hl
  exact lv_tableOut hx hb d h ht (k H locs ls hP hD hS hl)
theorem kv_tableIn {dd : kDD} {g : kG} {cc : ByteArray} {own : String} {Ts : List Cond} {a b pc : Nat} {lv : List (Nat × Value)} {st : List Value} {ks : List Nat} {ad : Nat → Nat} {E : Nat → va_E} (C : kX dd g cc own Ts) {dflt lo hi : Int} {offs : Array Int} {len : Nat} {x : Int32} {off : Int} {tgt : Nat} (d : decode cc pc = .ok (.tableswitch dflt lo hi offs, len)) (h1 : ¬ x.toInt < lo) (h2 : ¬ hi < x.toInt) (ho : offs[(x.toInt - lo).toNat]? = some off) (ht : (pc : Int) + off = (tgt : Int)) (k : kv dd g a b tgt lv st ks ad E) : kv dd g a b pc lv (.int x :: st) ks ad E := by
  obtain ⟨p, l, e, R, s, m, args, below, meth, c, Q, A, nL⟩ := g
  obtain ⟨hx, hb, hown, hts, hK, hA, hml, hZ, hst⟩ := C
  intro H locs ls hP hD hS hl
  exact lv_tableIn hx hb d h1 h2 ho ht (k H locs ls hP hD hS hl)
theorem kv_getfieldN {dd : kDD} {g : kG} {cc : ByteArray} {own : String} {Ts : List Cond} {a b pc : Nat} {lv : List (Nat × Value)} {st : List Value} {ks : List Nat} {ad : Nat → Nat} {E : Nat → va_E} (C : kX dd g cc own Ts) {index κ ci kk : Nat} {ref Cn host : String} {T : u_T} {N : Nat} {fs : List Value} {v : Value} (hl1 : (own, index, ref, (T kk).2.1, (T kk).2.2.1, host) ∈ kNsF) (hin : ∀ w ∈ u_ws Cn T N, w ∈ Ts) (hci : vwCl[ci]? = some (Cn, T, N)) (hkk : kk < N) (href : ref = (T kk).1) (hκ : κ ∈ ks) (hE : E κ = .inr (ci, fs)) (hv : fs[kk]? = some v) (d : decode cc pc = .ok (.getfield index, 3)) (k : kv dd g a b (pc + 3) lv (v :: st) ks ad E) : kv dd g a b pc lv (.ref (ad κ) :: st) ks ad E := by
  obtain ⟨p, l, e, R, s, m, args, below, meth, c, Q, A, nL⟩ := g
  obtain ⟨hx, hb, hown, hts, hK, hA, hml, hZ, hst⟩ := C
  intro H locs ls hP hD hS hl
  obtain ⟨i, hi⟩ := kw_get (ad := ad) (E := E) hκ
  rw [hE] at hi
  exact va_getN (ref := ref) (C := Cn) (T := T) (N := N) (host := host) hx hb hts hin hown hK hP i hi hci kk hkk ((hZ.2.2.2.2.2.2.1 _ hl1).use rfl) (fun _ h9 => by rw [href]; exact h9) hv d (k H locs ls hP hD hS hl)

/-! P43: ROWS THAT ITS LAW NEEDS -/

theorem kv_irem {dd : kDD} {g : kG} {cc : ByteArray} {own : String} {Ts : List Cond} {a b pc : Nat} {lv : List (Nat × Value)} {st : List Value} {ks : List Nat} {ad : Nat → Nat} {E : Nat → va_E} (C : kX dd g cc own Ts) {x y : Int32} (d : decode cc pc = .ok (.irem, 1)) (hne : ¬ y = 0) (k : kv dd g a b (pc + 1) lv (.int (x - x / y * y) :: st) ks ad E) : kv dd g a b pc lv (.int y :: .int x :: st) ks ad E := by
  obtain ⟨p, l, e, R, s, m, args, below, meth, c, Q, A, nL⟩ := g
  obtain ⟨hx, hb, hown, hts, hK, hA, hml, hZ, hst⟩ := C
  intro H locs ls hP hD hS hl
  exact lv_irem hx hb d hne (k H locs ls hP hD hS hl)

theorem kv_iushr {dd : kDD} {g : kG} {cc : ByteArray} {own : String} {Ts : List Cond} {a b pc : Nat} {lv : List (Nat × Value)} {st : List Value} {ks : List Nat} {ad : Nat → Nat} {E : Nat → va_E} (C : kX dd g cc own Ts) {x y v : Int32} (d : decode cc pc = .ok (.iushr, 1)) (hv : (x.toUInt32 >>> (y.toUInt32 &&& Int32.toUInt32 31)).toInt32 = v) (k : kv dd g a b (pc + 1) lv (.int v :: st) ks ad E) : kv dd g a b pc lv (.int y :: .int x :: st) ks ad E := by
  obtain ⟨p, l, e, R, s, m, args, below, meth, c, Q, A, nL⟩ := g
  obtain ⟨hx, hb, hown, hts, hK, hA, hml, hZ, hst⟩ := C
  intro H locs ls hP hD hS hl
  exact lv_iushr hx hb d hv (k H locs ls hP hD hS hl)

theorem kv_fcmp {dd : kDD} {g : kG} {cc : ByteArray} {own : String} {Ts : List Cond} {a b pc : Nat} {lv : List (Nat × Value)} {st : List Value} {ks : List Nat} {ad : Nat → Nat} {E : Nat → va_E} (C : kX dd g cc own Ts) {x y : UInt32} {op : CmpOp} (d : decode cc pc = .ok (.fcmp op, 1))  (k : kv dd g a b (pc + 1) lv (.int (Op.cmpValue (FP.fcmp x y) op) :: st) ks ad E) : kv dd g a b pc lv (.float y :: .float x :: st) ks ad E := by
  obtain ⟨p, l, e, R, s, m, args, below, meth, c, Q, A, nL⟩ := g
  obtain ⟨hx, hb, hown, hts, hK, hA, hml, hZ, hst⟩ := C
  intro H locs ls hP hD hS hl
  exact lv_fcmp hx hb d (k H locs ls hP hD hS hl)

theorem kv_lneg {dd : kDD} {g : kG} {cc : ByteArray} {own : String} {Ts : List Cond} {a b pc : Nat} {lv : List (Nat × Value)} {st : List Value} {ks : List Nat} {ad : Nat → Nat} {E : Nat → va_E} (C : kX dd g cc own Ts) {x : Int64} (d : decode cc pc = .ok (.lneg, 1))  (k : kv dd g a b (pc + 1) lv (.long (-x) :: st) ks ad E) : kv dd g a b pc lv (.long x :: st) ks ad E := by
  obtain ⟨p, l, e, R, s, m, args, below, meth, c, Q, A, nL⟩ := g
  obtain ⟨hx, hb, hown, hts, hK, hA, hml, hZ, hst⟩ := C
  intro H locs ls hP hD hS hl
  exact lv_lneg hx hb d (k H locs ls hP hD hS hl)

theorem kv_nreturn {dd : kDD} {g : kG} {cc : ByteArray} {own : String} {Ts : List Cond} {a b pc : Nat} {lv : List (Nat × Value)} {ks : List Nat} {ad : Nat → Nat} {E : Nat → va_E} (C : kX dd g cc own Ts) {post : Int32 → kT → Prop} {mc ms : Nat} {v : Int32} {ty : FieldType} (hr : kRi dd g ty post mc ms) (hn : narrow ty (.int v) = .int v) (hc : a ≤ mc) (hs : b ≤ ms) (hp : post v (ks, ad, E)) (d : decode cc pc = .ok (.ireturn, 1))  : kv dd g a b pc lv [.int v] ks ad E := by
  obtain ⟨p, l, e, R, s, m, args, below, meth, c, Q, A, nL⟩ := g
  obtain ⟨hx, hb, hown, hts, hK, hA, hml, hZ, hst⟩ := C
  intro H locs ls hP hD hS hl
  obtain ⟨h1, h2, h3⟩ := hr
  refine W.widen hc hs (h1 H locs _ ?_)
  exact W.zret hx hb h2 hn (fun t ht hW => ⟨⟨v, (ks, ad, E), rfl, hp, by rw [ht]; exact hP, va_K.moved hW.alike hK, hD⟩, hS.F ht⟩) hS.2.2 d h3

theorem kv_calliXSc {dd : kDD} {g : kG} {cc : ByteArray} {own : String} {Ts : List Cond} {a b pc : Nat} {lv : List (Nat × Value)} (st : List Value) {ks : List Nat} {ad : Nat → Nat} {E : Nat → va_E} (C : kX dd g cc own Ts) {S : Type} {l9 : Launch} {index maxL mc ms n : Nat} {y : MethodName} {bytes : ByteArray} {ret : Option FieldType} {wsY : List Cond} {rm : Room} {As st0 : List Value} {P : Int32 → S → Prop} {ks2 : S → List Nat} {ad2 : S → Nat → Nat} {E2 : S → Nat → va_E} {RR : Room} {xp0 : String → kT → Prop} (hM : kCiX l9 y wsY rm mc ms dd As (ks, ad, E) (kQi P ks2 ad2 E2) xp0) (hl0 : kL g = l9) (cw : kCS g own index y bytes maxL ret wsY rm mc ms n) (hst0 : st0 = As.reverse ++ st) (hn : As.length = n) (hw : (st.map fun v => v.category).sum ≤ 8) (hRR : kR g = RR) (hrm : a + mc ≤ RR.cells ∧ b + ms ≤ RR.slots) (d : decode cc pc = .ok (.invokestatic index, 3)) (kx : ∀ (X9 : String) (u : kT), xp0 X9 u → kvx dd g (a + mc) (b + ms) pc lv st X9 u.1 u.2.1 u.2.2) (k : ∀ (r : Int32) (z : S), P r z → kv dd g (a + mc) (b + ms) (pc + 3) lv (.int r :: st) (ks2 z) (ad2 z) (E2 z)) : kv dd g a b pc lv st0 ks ad E := by
  obtain ⟨p, l, e, R, s, m, args, below, meth, c, Q, A, nL⟩ := g
  obtain ⟨hx0, hb, hown, hts, hK, hA, hml, hZ, hst⟩ := C
  intro H locs ls hP hD hS hl
  subst hRR
  subst hst0
  subst hl0
  have hF := kA_in (u := (ks, ad, E)) hD hS hA
  refine vx_calli (vx_runS (As := As) (rest := st) ⟨hx0, hb, hml, hown, hts⟩ (hM hst H.size) cw ⟨kPre_blind, fun U hU hW => ⟨rfl, by rw [hU], by rw [hU]; exact hP, va_K.moved hW.alike hK, hD.weaken (fun _ _ _ _ => trivial), by rw [hU]; exact (kSt_in hZ hS hF).warm hW⟩⟩ rfl hn hl.1 rfl (lv_room hw) d hrm) hS (fun q _ h => hF q h) hF (fun q _ h => hF q h) (fun E3 ce q9 u t H1 locs1 ht hvm hpx hBX hz1 hk1 hS1 hce hcv hcl => ?_) (fun r u t H1 locs1 ht hvm hp hB hz1 hk1 hS1 => ?_)
  · obtain ⟨⟨hxp, hP1, hK1, hD1⟩, -⟩ := (⟨hBX, trivial⟩ : _ ∧ True)
    rw [ht] at hP1
    exact kx E3 u hxp H1 locs1 ls q9 ce hP1 (hD1.weaken (fun _ _ _ h => hF _ h)) hS1 hl hce hcv hcl
  · obtain ⟨z, hp, rfl⟩ := hp
    obtain ⟨hP1, hK1, hD1⟩ := hB
    rw [ht] at hP1
    exact k r z hp H1 locs1 ls hP1 (hD1.weaken (fun _ _ _ h => hF _ h)) hS1 hl

theorem kv_calllXSc {dd : kDD} {g : kG} {cc : ByteArray} {own : String} {Ts : List Cond} {a b pc : Nat} {lv : List (Nat × Value)} (st : List Value) {ks : List Nat} {ad : Nat → Nat} {E : Nat → va_E} (C : kX dd g cc own Ts) {S : Type} {l9 : Launch} {index maxL mc ms n : Nat} {y : MethodName} {bytes : ByteArray} {ret : Option FieldType} {wsY : List Cond} {rm : Room} {As st0 : List Value} {P : Int64 → S → Prop} {ks2 : S → List Nat} {ad2 : S → Nat → Nat} {E2 : S → Nat → va_E} {RR : Room} {xp0 : String → kT → Prop} (hM : kClX l9 y wsY rm mc ms dd As (ks, ad, E) (kQl P ks2 ad2 E2) xp0) (hl0 : kL g = l9) (cw : kCS g own index y bytes maxL ret wsY rm mc ms n) (hst0 : st0 = As.reverse ++ st) (hn : As.length = n) (hw : (st.map fun v => v.category).sum ≤ 8) (hRR : kR g = RR) (hrm : a + mc ≤ RR.cells ∧ b + ms ≤ RR.slots) (d : decode cc pc = .ok (.invokestatic index, 3)) (kx : ∀ (X9 : String) (u : kT), xp0 X9 u → kvx dd g (a + mc) (b + ms) pc lv st X9 u.1 u.2.1 u.2.2) (k : ∀ (r : Int64) (z : S), P r z → kv dd g (a + mc) (b + ms) (pc + 3) lv (.long r :: st) (ks2 z) (ad2 z) (E2 z)) : kv dd g a b pc lv st0 ks ad E := by
  obtain ⟨p, l, e, R, s, m, args, below, meth, c, Q, A, nL⟩ := g
  obtain ⟨hx0, hb, hown, hts, hK, hA, hml, hZ, hst⟩ := C
  intro H locs ls hP hD hS hl
  subst hRR
  subst hst0
  subst hl0
  have hF := kA_in (u := (ks, ad, E)) hD hS hA
  refine vx_calll (vx_runS (As := As) (rest := st) ⟨hx0, hb, hml, hown, hts⟩ (hM hst H.size) cw ⟨kPre_blind, fun U hU hW => ⟨rfl, by rw [hU], by rw [hU]; exact hP, va_K.moved hW.alike hK, hD.weaken (fun _ _ _ _ => trivial), by rw [hU]; exact (kSt_in hZ hS hF).warm hW⟩⟩ rfl hn hl.1 rfl (lv_room hw) d hrm) hS (fun q _ h => hF q h) hF (fun q _ h => hF q h) (fun E3 ce q9 u t H1 locs1 ht hvm hpx hBX hz1 hk1 hS1 hce hcv hcl => ?_) (fun r u t H1 locs1 ht hvm hp hB hz1 hk1 hS1 => ?_)
  · obtain ⟨⟨hxp, hP1, hK1, hD1⟩, -⟩ := (⟨hBX, trivial⟩ : _ ∧ True)
    rw [ht] at hP1
    exact kx E3 u hxp H1 locs1 ls q9 ce hP1 (hD1.weaken (fun _ _ _ h => hF _ h)) hS1 hl hce hcv hcl
  · obtain ⟨z, hp, rfl⟩ := hp
    obtain ⟨hP1, hK1, hD1⟩ := hB
    rw [ht] at hP1
    exact k r z hp H1 locs1 ls hP1 (hD1.weaken (fun _ _ _ h => hF _ h)) hS1 hl

theorem kMetlW {l : Launch} {y : MethodName} {ws ws' : List Cond} {rm : Room} {mc ms maxL : Nat} {cc : ByteArray} {rt : FieldType} {hh : List (Nat × Nat × Nat × Nat)} {dd : kDD} {vs : List Value} {u : kT} {post : Int64 → kT → Prop} (hy : plainName y.cls = true) (hw : ws = Cond.codeWith y cc maxL (some rt) hh :: ws') (hl : (lg_sl vs).length ≤ maxL) (body : ∀ g : kG, kX dd g cc y.cls ws → kRl dd g rt post mc ms → kTb g (tableOf hh) → knL g = maxL → kR g = rm → kL g = l → kv dd g 0 0 0 (lv_args 0 vs) [] u.1 u.2.1 u.2.2) : kCl l y ws rm mc ms dd vs u post := by
  intro hst sz
  have h : vx_Met l y ws rm (va_Pc vs (kPre dd u sz)) (va_Ql post (kAt dd (kA u sz)) (kA u sz)) (fun _ _ _ => False) mc ms (kA u sz) := by
    refine vx_ofWH (cc := cc) (maxL := maxL) (ret := (some rt)) hy hw ?_
    intro p e s m args below meth c s₁ B hml hv
    obtain ⟨rfl, hsz, hP, hK, hD0, hZ⟩ := hv
    have hown : s.vm.findClass y.cls = some m.cls := findClass_of_methodNamed B.named
    subst hsz
    have hD := hD0.self (sz := s.heap.size)
    have hat := atoms_spec (ws := ws) B.pre
    have htb := vx_table (x := y) B (hat _ (by rw [hw]; exact List.mem_cons_self))
    have Kb := body (p, l, e, (headSpec ws rm).room, s, m, vs.toArray, below, meth, c, vx_MQ below (va_Ql post (kAt dd (kA u s.heap.size)) (kA u s.heap.size)) (fun _ _ _ => False) vs.toArray s mc ms (kA u s.heap.size), kA u s.heap.size, maxL) ⟨B.exec, B.bytes, hown, hat, hK, (fun q h => Or.inr h), hml, hZ, hst⟩ ⟨fun H locs f k => vx_ret k, B.returns, B.notSynchronized⟩ htb rfl rfl rfl
    have hl0 := lv_entry vs (n := maxL) hl
    rw [lg_entry_eq]
    exact Kb s.heap [] _ hP hD va_S.rf hl0
  intro p e ha hc hk s m args below hf happ hP hK
  obtain ⟨n, o, h1, h2, h3, h4⟩ := h p e ha hc hk s m args below hf happ hP hK
  rcases h4 with h4 | ⟨q, -, X9, ce, L, hF, -⟩
  · exact ⟨n, o, h1, h2, h3, h4⟩
  · exact hF.elim

theorem kv_calllSW {dd : kDD} {g : kG} {cc : ByteArray} {own : String} {Ts : List Cond} {a b pc : Nat} {lv : List (Nat × Value)} (st : List Value) {ks : List Nat} {ad : Nat → Nat} {E : Nat → va_E} (C : kX dd g cc own Ts) {S : Type} {l9 : Launch} {index maxL mc ms n : Nat} {y : MethodName} {bytes : ByteArray} {ret : Option FieldType} {hh : List (Nat × Nat × Nat × Nat)} {wsY : List Cond} {rm : Room} {As st0 : List Value} {P : Int64 → S → Prop} {ks2 : S → List Nat} {ad2 : S → Nat → Nat} {E2 : S → Nat → va_E} {RR : Room} (hM : kCl l9 y wsY rm mc ms dd As (ks, ad, E) (kQl P ks2 ad2 E2)) (hl0 : kL g = l9) (cw : kCSW g own index y bytes maxL ret hh wsY rm mc ms n) (hst0 : st0 = As.reverse ++ st) (hn : As.length = n) (hw : (st.map fun v => v.category).sum ≤ 8) (hRR : kR g = RR) (hrm : a + mc ≤ RR.cells ∧ b + ms ≤ RR.slots) (d : decode cc pc = .ok (.invokestatic index, 3)) (k : ∀ (r : Int64) (z : S), P r z → kv dd g (a + mc) (b + ms) (pc + 3) lv (.long r :: st) (ks2 z) (ad2 z) (E2 z)) : kv dd g a b pc lv st0 ks ad E := by
  obtain ⟨p, l, e, R, s, m, args, below, meth, c, Q, A, nL⟩ := g
  obtain ⟨hx0, hb, hown, hts, hK, hA, hml, hZ, hst⟩ := C
  intro H locs ls hP hD hS hl
  subst hRR
  subst hst0
  subst hl0
  have hF := kA_in (u := (ks, ad, E)) hD hS hA
  refine va_calll (vx_runSW (As := As) (rest := st) ⟨hx0, hb, hml, hown, hts⟩ (hM hst H.size) cw ⟨kPre_blind, fun U hU hW => ⟨rfl, by rw [hU], by rw [hU]; exact hP, va_K.moved hW.alike hK, hD.weaken (fun _ _ _ _ => trivial), by rw [hU]; exact (kSt_in hZ hS hF).warm hW⟩⟩ rfl hn hl.1 rfl (lv_room hw) d hrm) hS (fun q _ h => hF q h) hF (fun r u t H1 locs1 ht hvm hp hB hz1 hk1 hS1 => ?_)
  obtain ⟨z, hp, rfl⟩ := hp
  obtain ⟨hP1, hK1, hD1⟩ := hB
  rw [ht] at hP1
  exact k r z hp H1 locs1 ls hP1 (hD1.weaken (fun _ _ _ h => hF _ h)) hS1 hl

/-- a contract's start where a script lies beside the world -/
def kPreS (dd : kDD) (u : kT) (sz sc L : Nat) (xs : Nat → Int32) (U : State) : Prop := kPre dd u sz U ∧ va_X sc L xs U U.heap ∧ sc < U.heap.size ∧ ¬ kA u sz sc
theorem kPreS_blind {dd : kDD} {u : kT} {sz sc L : Nat} {xs : Nat → Int32} {vs : List Value} : FrameBlind (va_Pc vs (kPreS dd u sz sc L xs)) := fun a U g mk q => by
  obtain ⟨h0, h1, h2, h3, h4⟩ := q
  have h := kPre_blind (dd := dd) (u := u) (sz := sz) (vs := vs) a U g mk ⟨h0, h1⟩
  exact ⟨h.1, h.2, va_X.moved (u := U) (U := U.calling g mk a) (Vm.Alike.refl U.vm) h2, h3, h4⟩
def kCiS (l : Launch) (y : MethodName) (ws : List Cond) (rm : Room) (mc ms : Nat) (dd : kDD) (vs : List Value) (u : kT) (sc L : Nat) (xs : Nat → Int32) (post : Int32 → kT → Prop) : Prop := l.stackTraces = false → ∀ sz, Met l y ws rm (va_Pc vs (kPreS dd u sz sc L xs)) (va_Qi post (kAt dd (kA u sz)) (kA u sz)) mc ms (kA u sz)

theorem kMetiS {l : Launch} {y : MethodName} {ws ws' : List Cond} {rm : Room} {mc ms maxL : Nat} {cc : ByteArray} {rt : FieldType} {dd : kDD} {vs : List Value} {u : kT} {sc L : Nat} {xs : Nat → Int32} {post : Int32 → kT → Prop} (hy : plainName y.cls = true) (hw : ws = Cond.code y cc maxL (some rt) :: ws') (hl : (lg_sl vs).length ≤ maxL) (body : ∀ g : kG, kX dd g cc y.cls ws → kRi dd g rt post mc ms → kScr g sc L xs → knL g = maxL → kR g = rm → kL g = l → kname g = y.name → kv dd g 0 0 0 (lv_args 0 vs) [] u.1 u.2.1 u.2.2) : kCiS l y ws rm mc ms dd vs u sc L xs post := by
  intro hst sz
  refine Met.ofW (cc := cc) (maxL := maxL) (ret := (some rt)) hy hw ?_
  intro p e s m args below meth c s₁ B hml hv
  obtain ⟨rfl, ⟨hsz, hP, hK, hD0, hZ⟩, hX⟩ := hv
  have hown : s.vm.findClass y.cls = some m.cls := findClass_of_methodNamed B.named
  subst hsz
  have hD := hD0.self (sz := s.heap.size)
  have K := body (p, l, e, (headSpec ws rm).room, s, m, vs.toArray, below, meth, c, _, kA u s.heap.size, maxL) ⟨B.exec, B.bytes, hown, atoms_spec (ws := ws) B.pre, hK, (fun q h => Or.inr h), hml, hZ, hst⟩ ⟨fun H locs f k => k, B.returns, B.notSynchronized⟩ hX rfl rfl rfl (name_of_methodNamed B.named B.method).1
  have hl0 := lv_entry vs (n := maxL) hl
  rw [lg_entry_eq]
  exact K s.heap [] _ hP hD va_S.rf hl0

theorem kv_calliSs {dd : kDD} {g : kG} {cc : ByteArray} {own : String} {Ts : List Cond} {a b pc : Nat} {lv : List (Nat × Value)} (st : List Value) {ks : List Nat} {ad : Nat → Nat} {E : Nat → va_E} (C : kX dd g cc own Ts) {S : Type} {l9 : Launch} {index maxL mc ms n : Nat} {y : MethodName} {bytes : ByteArray} {ret : Option FieldType} {wsY : List Cond} {rm : Room} {As st0 : List Value} {P : Int32 → S → Prop} {ks2 : S → List Nat} {ad2 : S → Nat → Nat} {E2 : S → Nat → va_E} {RR : Room} {sc L : Nat} {xs : Nat → Int32} (hs : kScr g sc L xs) (hM : kCiS l9 y wsY rm mc ms dd As (ks, ad, E) sc L xs (kQi P ks2 ad2 E2)) (hl0 : kL g = l9) (cw : kCS g own index y bytes maxL ret wsY rm mc ms n) (hst0 : st0 = As.reverse ++ st) (hn : As.length = n) (hw : (st.map fun v => v.category).sum ≤ 8) (hRR : kR g = RR) (hrm : a + mc ≤ RR.cells ∧ b + ms ≤ RR.slots) (d : decode cc pc = .ok (.invokestatic index, 3)) (k : ∀ (r : Int32) (z : S), P r z → kv dd g (a + mc) (b + ms) (pc + 3) lv (.int r :: st) (ks2 z) (ad2 z) (E2 z)) : kv dd g a b pc lv st0 ks ad E := by
  obtain ⟨p, l, e, R, s, m, args, below, meth, c, Q, A, nL⟩ := g
  obtain ⟨hx, hb, hown, hts, hK, hA, hml, hZ, hst⟩ := C
  intro H locs ls hP hD hS hl
  subst hRR
  subst hst0
  subst hl0
  have hF := kA_in (u := (ks, ad, E)) hD hS hA
  refine va_calli (va_runS (As := As) (rest := st) ⟨hx, hb, hml, hown, hts⟩ (hM hst H.size) cw ⟨kPreS_blind, fun U hU hW => ⟨rfl, ⟨by rw [hU], by rw [hU]; exact hP, va_K.moved hW.alike hK, hD.weaken (fun _ _ _ _ => trivial), by rw [hU]; exact (kSt_in hZ hS hF).warm hW⟩, by rw [hU]; exact (va_X.kept hs.1 (hS.2.1 sc hs.2.1 hs.2.2)).moved hW.alike, by rw [hU]; exact Nat.lt_of_lt_of_le hs.2.1 hS.1, fun q => hs.2.2 (hF sc q)⟩⟩ rfl hn hl.1 rfl (lv_room hw) d hrm) hS (fun q _ h => hF q h) hF (fun r u t H1 locs1 ht hvm hp hB hz1 hk1 hS1 => ?_)
  obtain ⟨z, hp, rfl⟩ := hp
  obtain ⟨hP1, hK1, hD1⟩ := hB
  rw [ht] at hP1
  exact k r z hp H1 locs1 ls hP1 (hD1.weaken (fun _ _ _ h => hF _ h)) hS1 hl

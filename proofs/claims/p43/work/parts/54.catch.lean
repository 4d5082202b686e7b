/-! METHODS WITH HANDLERS, and doubles in arrays -/
/-- the table of the method that is walked -/
def kTb (g : kG) (T : List ExceptionTableEntry) : Prop := match g with
  | (p, l, e, R, s, m, args, below, meth, c, Q, A, nL) => c.exceptionTable.toList = T
/-- an exception of class X9 has come up at pc -/
def kvx (dd : kDD) (g : kG) (a b pc : Nat) (lv : List (Nat × Value)) (st : List Value) (X9 : String) (ks : List Nat) (ad : Nat → Nat) (E : Nat → va_E) : Prop := match g with
  | (p, l, e, R, s, m, args, below, meth, c, Q, A, nL) => ∀ (H : Heap) (locs : List Loc) (ls : Array Slot) (q9 : Addr) (ce : Cell), va_P dd.1 vwCl (kw ks ad E) H → va_D A (kw ks ad E) → va_S A s.heap H locs → lv_has ls nL lv → H[q9]? = some ce → ce.vm = .none → s.vm.findClass X9 = some ce.cls → vx_W p l e R s m args below meth c H locs a b Q (F0 m pc ls st) q9
theorem kMetiW {l : Launch} {y : MethodName} {ws ws' : List Cond} {rm : Room} {mc ms maxL : Nat} {cc : ByteArray} {rt : FieldType} {hh : List (Nat × Nat × Nat × Nat)} {dd : kDD} {vs : List Value} {u : kT} {post : Int32 → kT → Prop} (hy : plainName y.cls = true) (hw : ws = Cond.codeWith y cc maxL (some rt) hh :: ws') (hl : (lg_sl vs).length ≤ maxL) (body : ∀ g : kG, kX dd g cc y.cls ws → kRi dd g rt post mc ms → kTb g (tableOf hh) → knL g = maxL → kR g = rm → kL g = l → kv dd g 0 0 0 (lv_args 0 vs) [] u.1 u.2.1 u.2.2) : kCi l y ws rm mc ms dd vs u post := by
  intro hst sz
  have h : vx_Met l y ws rm (va_Pc vs (kPre dd u sz)) (va_Qi post (kAt dd (kA u sz)) (kA u sz)) (fun _ _ _ => False) mc ms (kA u sz) := by
    refine vx_ofWH (cc := cc) (maxL := maxL) (ret := (some rt)) hy hw ?_
    intro p e s m args below meth c s₁ B hml hv
    obtain ⟨rfl, hsz, hP, hK, hD0, hZ⟩ := hv
    have hown : s.vm.findClass y.cls = some m.cls := findClass_of_methodNamed B.named
    subst hsz
    have hD := hD0.self (sz := s.heap.size)
    have hat := atoms_spec (ws := ws) B.pre
    have htb := vx_table (x := y) B (hat _ (by rw [hw]; exact List.mem_cons_self))
    have Kb := body (p, l, e, (headSpec ws rm).room, s, m, vs.toArray, below, meth, c, vx_MQ below (va_Qi post (kAt dd (kA u s.heap.size)) (kA u s.heap.size)) (fun _ _ _ => False) vs.toArray s mc ms (kA u s.heap.size), kA u s.heap.size, maxL) ⟨B.exec, B.bytes, hown, hat, hK, (fun q h => Or.inr h), hml, hZ, hst⟩ ⟨fun H locs f k => vx_ret k, B.returns, B.notSynchronized⟩ htb rfl rfl rfl
    have hl0 := lv_entry vs (n := maxL) hl
    rw [lg_entry_eq]
    exact Kb s.heap [] _ hP hD va_S.rf hl0
  intro p e ha hc hk s m args below hf happ hP hK
  obtain ⟨n, o, h1, h2, h3, h4⟩ := h p e ha hc hk s m args below hf happ hP hK
  rcases h4 with h4 | ⟨q, -, X9, ce, L, hF, -⟩
  · exact ⟨n, o, h1, h2, h3, h4⟩
  · exact hF.elim
theorem kv_calliXVc {dd : kDD} {g : kG} {cc : ByteArray} {own : String} {Ts : List Cond} {a b pc : Nat} {lv : List (Nat × Value)} (st : List Value) {ks : List Nat} {ad : Nat → Nat} {E : Nat → va_E} (C : kX dd g cc own Ts) {S : Type} {l9 : Launch} {Cn : String} {index maxL mc ms n κ ci : Nat} {y : MethodName} {bytes : ByteArray} {ret : Option FieldType} {wsY : List Cond} {rm : Room} {As st0 : List Value} {fs : List Value} {P : Int32 → S → Prop} {ks2 : S → List Nat} {ad2 : S → Nat → Nat} {E2 : S → Nat → va_E} {r1 : u_T × Nat} {RR : Room} {xp0 : String → kT → Prop} (hM : kCiX l9 y wsY rm mc ms dd (.ref (ad κ) :: As) (ks, ad, E) (kQi P ks2 ad2 E2) xp0) (hl0 : kL g = l9) (cw : kCV g own Cn index y bytes maxL ret wsY rm mc ms n) (hκ : κ ∈ ks) (hE : E κ = .inr (ci, fs)) (hci : vwCl[ci]? = some (Cn, r1.1, r1.2)) (hst0 : st0 = As.reverse ++ .ref (ad κ) :: st) (hn : As.length = n) (hw : (st.map fun v => v.category).sum ≤ 8) (hRR : kR g = RR) (hrm : a + mc ≤ RR.cells ∧ b + ms ≤ RR.slots) (d : decode cc pc = .ok (.invokevirtual index, 3)) (kx : ∀ (X9 : String) (u : kT), xp0 X9 u → kvx dd g (a + mc) (b + ms) pc lv st X9 u.1 u.2.1 u.2.2) (k : ∀ (r : Int32) (z : S), P r z → kv dd g (a + mc) (b + ms) (pc + 3) lv (.int r :: st) (ks2 z) (ad2 z) (E2 z)) : kv dd g a b pc lv st0 ks ad E := by
  obtain ⟨p, l, e, R, s, m, args, below, meth, c, Q, A, nL⟩ := g
  obtain ⟨hx0, hb, hown, hts, hK, hA, hml, hZ, hst⟩ := C
  intro H locs ls hP hD hS hl
  obtain ⟨i, hi⟩ := kw_get (ad := ad) (E := E) hκ
  rw [hE] at hi
  subst hRR
  subst hst0
  subst hl0
  have hF := kA_in (u := (ks, ad, E)) hD hS hA
  refine vx_calli (vx_runV (As := As) (rest := st) ⟨hx0, hb, hml, hown, hts⟩ (hM hst H.size) cw ⟨kPre_blind, va_recv hK hP (ci := ci) (q0 := i) hci hi, fun U hU hW => ⟨rfl, by rw [hU], by rw [hU]; exact hP, va_K.moved hW.alike hK, hD.weaken (fun _ _ _ _ => trivial), by rw [hU]; exact (kSt_in hZ hS hF).warm hW⟩⟩ rfl hn hl.1 rfl (lv_room hw) d hrm) hS (fun q _ h => hF q h) hF (fun q _ h => hF q h) (fun E3 ce q9 u t H1 locs1 ht hvm hpx hBX hz1 hk1 hS1 hce hcv hcl => ?_) (fun r u t H1 locs1 ht hvm hp hB hz1 hk1 hS1 => ?_)
  · obtain ⟨⟨hxp, hP1, hK1, hD1⟩, -⟩ := (⟨hBX, trivial⟩ : _ ∧ True)
    rw [ht] at hP1
    exact kx E3 u hxp H1 locs1 ls q9 ce hP1 (hD1.weaken (fun _ _ _ h => hF _ h)) hS1 hl hce hcv hcl
  · obtain ⟨z, hp, rfl⟩ := hp
    obtain ⟨hP1, hK1, hD1⟩ := hB
    rw [ht] at hP1
    exact k r z hp H1 locs1 ls hP1 (hD1.weaken (fun _ _ _ h => hF _ h)) hS1 hl
theorem kv_calllXVc {dd : kDD} {g : kG} {cc : ByteArray} {own : String} {Ts : List Cond} {a b pc : Nat} {lv : List (Nat × Value)} (st : List Value) {ks : List Nat} {ad : Nat → Nat} {E : Nat → va_E} (C : kX dd g cc own Ts) {S : Type} {l9 : Launch} {Cn : String} {index maxL mc ms n κ ci : Nat} {y : MethodName} {bytes : ByteArray} {ret : Option FieldType} {wsY : List Cond} {rm : Room} {As st0 : List Value} {fs : List Value} {P : Int64 → S → Prop} {ks2 : S → List Nat} {ad2 : S → Nat → Nat} {E2 : S → Nat → va_E} {r1 : u_T × Nat} {RR : Room} {xp0 : String → kT → Prop} (hM : kClX l9 y wsY rm mc ms dd (.ref (ad κ) :: As) (ks, ad, E) (kQl P ks2 ad2 E2) xp0) (hl0 : kL g = l9) (cw : kCV g own Cn index y bytes maxL ret wsY rm mc ms n) (hκ : κ ∈ ks) (hE : E κ = .inr (ci, fs)) (hci : vwCl[ci]? = some (Cn, r1.1, r1.2)) (hst0 : st0 = As.reverse ++ .ref (ad κ) :: st) (hn : As.length = n) (hw : (st.map fun v => v.category).sum ≤ 8) (hRR : kR g = RR) (hrm : a + mc ≤ RR.cells ∧ b + ms ≤ RR.slots) (d : decode cc pc = .ok (.invokevirtual index, 3)) (kx : ∀ (X9 : String) (u : kT), xp0 X9 u → kvx dd g (a + mc) (b + ms) pc lv st X9 u.1 u.2.1 u.2.2) (k : ∀ (r : Int64) (z : S), P r z → kv dd g (a + mc) (b + ms) (pc + 3) lv (.long r :: st) (ks2 z) (ad2 z) (E2 z)) : kv dd g a b pc lv st0 ks ad E := by
  obtain ⟨p, l, e, R, s, m, args, below, meth, c, Q, A, nL⟩ := g
  obtain ⟨hx0, hb, hown, hts, hK, hA, hml, hZ, hst⟩ := C
  intro H locs ls hP hD hS hl
  obtain ⟨i, hi⟩ := kw_get (ad := ad) (E := E) hκ
  rw [hE] at hi
  subst hRR
  subst hst0
  subst hl0
  have hF := kA_in (u := (ks, ad, E)) hD hS hA
  refine vx_calll (vx_runV (As := As) (rest := st) ⟨hx0, hb, hml, hown, hts⟩ (hM hst H.size) cw ⟨kPre_blind, va_recv hK hP (ci := ci) (q0 := i) hci hi, fun U hU hW => ⟨rfl, by rw [hU], by rw [hU]; exact hP, va_K.moved hW.alike hK, hD.weaken (fun _ _ _ _ => trivial), by rw [hU]; exact (kSt_in hZ hS hF).warm hW⟩⟩ rfl hn hl.1 rfl (lv_room hw) d hrm) hS (fun q _ h => hF q h) hF (fun q _ h => hF q h) (fun E3 ce q9 u t H1 locs1 ht hvm hpx hBX hz1 hk1 hS1 hce hcv hcl => ?_) (fun r u t H1 locs1 ht hvm hp hB hz1 hk1 hS1 => ?_)
  · obtain ⟨⟨hxp, hP1, hK1, hD1⟩, -⟩ := (⟨hBX, trivial⟩ : _ ∧ True)
    rw [ht] at hP1
    exact kx E3 u hxp H1 locs1 ls q9 ce hP1 (hD1.weaken (fun _ _ _ h => hF _ h)) hS1 hl hce hcv hcl
  · obtain ⟨z, hp, rfl⟩ := hp
    obtain ⟨hP1, hK1, hD1⟩ := hB
    rw [ht] at hP1
    exact k r z hp H1 locs1 ls hP1 (hD1.weaken (fun _ _ _ h => hF _ h)) hS1 hl
theorem kv_callfXVc {dd : kDD} {g : kG} {cc : ByteArray} {own : String} {Ts : List Cond} {a b pc : Nat} {lv : List (Nat × Value)} (st : List Value) {ks : List Nat} {ad : Nat → Nat} {E : Nat → va_E} (C : kX dd g cc own Ts) {S : Type} {l9 : Launch} {Cn : String} {index maxL mc ms n κ ci : Nat} {y : MethodName} {bytes : ByteArray} {ret : Option FieldType} {wsY : List Cond} {rm : Room} {As st0 : List Value} {fs : List Value} {P : UInt32 → S → Prop} {ks2 : S → List Nat} {ad2 : S → Nat → Nat} {E2 : S → Nat → va_E} {r1 : u_T × Nat} {RR : Room} {xp0 : String → kT → Prop} (hM : kCfX l9 y wsY rm mc ms dd (.ref (ad κ) :: As) (ks, ad, E) (kQf P ks2 ad2 E2) xp0) (hl0 : kL g = l9) (cw : kCV g own Cn index y bytes maxL ret wsY rm mc ms n) (hκ : κ ∈ ks) (hE : E κ = .inr (ci, fs)) (hci : vwCl[ci]? = some (Cn, r1.1, r1.2)) (hst0 : st0 = As.reverse ++ .ref (ad κ) :: st) (hn : As.length = n) (hw : (st.map fun v => v.category).sum ≤ 8) (hRR : kR g = RR) (hrm : a + mc ≤ RR.cells ∧ b + ms ≤ RR.slots) (d : decode cc pc = .ok (.invokevirtual index, 3)) (kx : ∀ (X9 : String) (u : kT), xp0 X9 u → kvx dd g (a + mc) (b + ms) pc lv st X9 u.1 u.2.1 u.2.2) (k : ∀ (r : UInt32) (z : S), P r z → kv dd g (a + mc) (b + ms) (pc + 3) lv (.float r :: st) (ks2 z) (ad2 z) (E2 z)) : kv dd g a b pc lv st0 ks ad E := by
  obtain ⟨p, l, e, R, s, m, args, below, meth, c, Q, A, nL⟩ := g
  obtain ⟨hx0, hb, hown, hts, hK, hA, hml, hZ, hst⟩ := C
  intro H locs ls hP hD hS hl
  obtain ⟨i, hi⟩ := kw_get (ad := ad) (E := E) hκ
  rw [hE] at hi
  subst hRR
  subst hst0
  subst hl0
  have hF := kA_in (u := (ks, ad, E)) hD hS hA
  refine vx_callf (vx_runV (As := As) (rest := st) ⟨hx0, hb, hml, hown, hts⟩ (hM hst H.size) cw ⟨kPre_blind, va_recv hK hP (ci := ci) (q0 := i) hci hi, fun U hU hW => ⟨rfl, by rw [hU], by rw [hU]; exact hP, va_K.moved hW.alike hK, hD.weaken (fun _ _ _ _ => trivial), by rw [hU]; exact (kSt_in hZ hS hF).warm hW⟩⟩ rfl hn hl.1 rfl (lv_room hw) d hrm) hS (fun q _ h => hF q h) hF (fun q _ h => hF q h) (fun E3 ce q9 u t H1 locs1 ht hvm hpx hBX hz1 hk1 hS1 hce hcv hcl => ?_) (fun r u t H1 locs1 ht hvm hp hB hz1 hk1 hS1 => ?_)
  · obtain ⟨⟨hxp, hP1, hK1, hD1⟩, -⟩ := (⟨hBX, trivial⟩ : _ ∧ True)
    rw [ht] at hP1
    exact kx E3 u hxp H1 locs1 ls q9 ce hP1 (hD1.weaken (fun _ _ _ h => hF _ h)) hS1 hl hce hcv hcl
  · obtain ⟨z, hp, rfl⟩ := hp
    obtain ⟨hP1, hK1, hD1⟩ := hB
    rw [ht] at hP1
    exact k r z hp H1 locs1 ls hP1 (hD1.weaken (fun _ _ _ h => hF _ h)) hS1 hl
theorem kv_calldXVc {dd : kDD} {g : kG} {cc : ByteArray} {own : String} {Ts : List Cond} {a b pc : Nat} {lv : List (Nat × Value)} (st : List Value) {ks : List Nat} {ad : Nat → Nat} {E : Nat → va_E} (C : kX dd g cc own Ts) {S : Type} {l9 : Launch} {Cn : String} {index maxL mc ms n κ ci : Nat} {y : MethodName} {bytes : ByteArray} {ret : Option FieldType} {wsY : List Cond} {rm : Room} {As st0 : List Value} {fs : List Value} {P : UInt64 → S → Prop} {ks2 : S → List Nat} {ad2 : S → Nat → Nat} {E2 : S → Nat → va_E} {r1 : u_T × Nat} {RR : Room} {xp0 : String → kT → Prop} (hM : kCdX l9 y wsY rm mc ms dd (.ref (ad κ) :: As) (ks, ad, E) (kQd P ks2 ad2 E2) xp0) (hl0 : kL g = l9) (cw : kCV g own Cn index y bytes maxL ret wsY rm mc ms n) (hκ : κ ∈ ks) (hE : E κ = .inr (ci, fs)) (hci : vwCl[ci]? = some (Cn, r1.1, r1.2)) (hst0 : st0 = As.reverse ++ .ref (ad κ) :: st) (hn : As.length = n) (hw : (st.map fun v => v.category).sum ≤ 8) (hRR : kR g = RR) (hrm : a + mc ≤ RR.cells ∧ b + ms ≤ RR.slots) (d : decode cc pc = .ok (.invokevirtual index, 3)) (kx : ∀ (X9 : String) (u : kT), xp0 X9 u → kvx dd g (a + mc) (b + ms) pc lv st X9 u.1 u.2.1 u.2.2) (k : ∀ (r : UInt64) (z : S), P r z → kv dd g (a + mc) (b + ms) (pc + 3) lv (.double r :: st) (ks2 z) (ad2 z) (E2 z)) : kv dd g a b pc lv st0 ks ad E := by
  obtain ⟨p, l, e, R, s, m, args, below, meth, c, Q, A, nL⟩ := g
  obtain ⟨hx0, hb, hown, hts, hK, hA, hml, hZ, hst⟩ := C
  intro H locs ls hP hD hS hl
  obtain ⟨i, hi⟩ := kw_get (ad := ad) (E := E) hκ
  rw [hE] at hi
  subst hRR
  subst hst0
  subst hl0
  have hF := kA_in (u := (ks, ad, E)) hD hS hA
  refine vx_calld (vx_runV (As := As) (rest := st) ⟨hx0, hb, hml, hown, hts⟩ (hM hst H.size) cw ⟨kPre_blind, va_recv hK hP (ci := ci) (q0 := i) hci hi, fun U hU hW => ⟨rfl, by rw [hU], by rw [hU]; exact hP, va_K.moved hW.alike hK, hD.weaken (fun _ _ _ _ => trivial), by rw [hU]; exact (kSt_in hZ hS hF).warm hW⟩⟩ rfl hn hl.1 rfl (lv_room hw) d hrm) hS (fun q _ h => hF q h) hF (fun q _ h => hF q h) (fun E3 ce q9 u t H1 locs1 ht hvm hpx hBX hz1 hk1 hS1 hce hcv hcl => ?_) (fun r u t H1 locs1 ht hvm hp hB hz1 hk1 hS1 => ?_)
  · obtain ⟨⟨hxp, hP1, hK1, hD1⟩, -⟩ := (⟨hBX, trivial⟩ : _ ∧ True)
    rw [ht] at hP1
    exact kx E3 u hxp H1 locs1 ls q9 ce hP1 (hD1.weaken (fun _ _ _ h => hF _ h)) hS1 hl hce hcv hcl
  · obtain ⟨z, hp, rfl⟩ := hp
    obtain ⟨hP1, hK1, hD1⟩ := hB
    rw [ht] at hP1
    exact k r z hp H1 locs1 ls hP1 (hD1.weaken (fun _ _ _ h => hF _ h)) hS1 hl
/-- caught by row x of the table; the rows ahead don't take it -/
theorem kvx_catch {dd : kDD} {g : kG} {cc : ByteArray} {own : String} {Ts : List Cond} {a b pc : Nat} {lv : List (Nat × Value)} {st : List Value} {ks : List Nat} {ad : Nat → Nat} {E : Nat → va_E} {X9 nm : String} {T : List ExceptionTableEntry} (C : kX dd g cc own Ts) (hT : kTb g T) (pre : List ExceptionTableEntry) (x : ExceptionTableEntry) (suf : List ExceptionTableEntry) (hsplit : T = pre ++ x :: suf)
    (hpass : ∀ z ∈ pre, z.catchType ≠ 0 ∧ ∃ nz : String, Cond.classLink own z.catchType nz ∈ Ts ∧ (X9, nz) ∈ kNcs) (hx : covers x pc = true) (h0 : x.catchType ≠ 0) (hlink : Cond.classLink own x.catchType nm ∈ Ts) (hcast : (X9, nm) ∈ kCst) (k : ∀ q : Nat, kv dd g a b x.handlerPc lv [.ref q] ks ad E) : kvx dd g a b pc lv st X9 ks ad E := by
  obtain ⟨p, l, e, R, s, m, args, below, meth, c, Q, A, nL⟩ := g
  obtain ⟨hx0, hb, hown, hts, hK, hA, hml, hZ, hst⟩ := C
  intro H locs ls q9 ce hP hD hS hl hce hcv hcl
  exact vx_catch hown pre x suf ((show c.exceptionTable.toList = T from hT).trans hsplit) (fun z hz => Or.inr ⟨(hpass z hz).1, (hpass z hz).2.choose, hts _ (hpass z hz).2.choose_spec.1, hZ.2.2.2.2.2.2.2.2.2.2.2.2.1 _ (hpass z hz).2.choose_spec.2⟩) hx h0 (hts _ hlink) ((hZ.2.2.2.2.2.1 _ hcast).use rfl) hce hcv hcl (k q9 H locs ls hP hD hS hl)
def kCSW (g : kG) (own : String) (index : Nat) (y : MethodName) (bytes : ByteArray) (maxL : Nat) (ret : Option FieldType) (hh : List (Nat × Nat × Nat × Nat)) (ws : List Cond) (rm : Room) (mc ms n : Nat) : Prop := match g with
  | (p, l, e, R, s, m, args, below, meth, c, Q, A, nL) => vx_CSW R s args own index y bytes maxL ret hh ws rm mc ms n
theorem kCSW_of {dd : kDD} {g : kG} {cc : ByteArray} {own : String} {Ts ws ws' : List Cond} {index maxL mc ms : Nat} {y : MethodName} {bytes : ByteArray} {ret : Option FieldType} {hh : List (Nat × Nat × Nat × Nat)} {rm : Room} (X : kX dd g cc own Ts) (n : Nat) (hT : GoodIn Ts (va_wsS own index y ws)) (hw : ws = Cond.codeWith y bytes maxL ret hh :: ws') (hrc : rm.cells = mc) (hrs : rm.slots = ms)
    (hd : y.cls ≠ "java/lang/invoke/MethodHandle" ∧ y.cls ≠ "java/lang/invoke/VarHandle" ∧ (parseMethodDescriptor y.desc).map (fun d => d.parameters.length) = some n) {RR : Room} (hRR : kR g = RR) (hR : rm.frames + 1 ≤ RR.frames ∧ 8 + (maxL + 11) + rm.locals ≤ RR.locals) : kCSW g own index y bytes maxL ret hh ws rm mc ms n := by
  obtain ⟨p, l, e, R, s, m, args, below, meth, c, Q, A, nL⟩ := g
  obtain ⟨hx, hb, hown, hts, -⟩ := X
  subst hRR
  exact vx_cwSW n hts hT hw hrc hrs hd hR
theorem kv_calliSW {dd : kDD} {g : kG} {cc : ByteArray} {own : String} {Ts : List Cond} {a b pc : Nat} {lv : List (Nat × Value)} (st : List Value) {ks : List Nat} {ad : Nat → Nat} {E : Nat → va_E} (C : kX dd g cc own Ts) {S : Type} {l9 : Launch} {index maxL mc ms n : Nat} {y : MethodName} {bytes : ByteArray} {ret : Option FieldType} {hh : List (Nat × Nat × Nat × Nat)} {wsY : List Cond} {rm : Room} {As st0 : List Value} {P : Int32 → S → Prop} {ks2 : S → List Nat} {ad2 : S → Nat → Nat} {E2 : S → Nat → va_E} {RR : Room} (hM : kCi l9 y wsY rm mc ms dd As (ks, ad, E) (kQi P ks2 ad2 E2)) (hl0 : kL g = l9) (cw : kCSW g own index y bytes maxL ret hh wsY rm mc ms n) (hst0 : st0 = As.reverse ++ st) (hn : As.length = n) (hw : (st.map fun v => v.category).sum ≤ 8) (hRR : kR g = RR) (hrm : a + mc ≤ RR.cells ∧ b + ms ≤ RR.slots) (d : decode cc pc = .ok (.invokestatic index, 3)) (k : ∀ (r : Int32) (z : S), P r z → kv dd g (a + mc) (b + ms) (pc + 3) lv (.int r :: st) (ks2 z) (ad2 z) (E2 z)) : kv dd g a b pc lv st0 ks ad E := by
  obtain ⟨p, l, e, R, s, m, args, below, meth, c, Q, A, nL⟩ := g
  obtain ⟨hx0, hb, hown, hts, hK, hA, hml, hZ, hst⟩ := C
  intro H locs ls hP hD hS hl
  subst hRR
  subst hst0
  subst hl0
  have hF := kA_in (u := (ks, ad, E)) hD hS hA
  refine va_calli (vx_runSW (As := As) (rest := st) ⟨hx0, hb, hml, hown, hts⟩ (hM hst H.size) cw ⟨kPre_blind, fun U hU hW => ⟨rfl, by rw [hU], by rw [hU]; exact hP, va_K.moved hW.alike hK, hD.weaken (fun _ _ _ _ => trivial), by rw [hU]; exact (kSt_in hZ hS hF).warm hW⟩⟩ rfl hn hl.1 rfl (lv_room hw) d hrm) hS (fun q _ h => hF q h) hF (fun r u t H1 locs1 ht hvm hp hB hz1 hk1 hS1 => ?_)
  obtain ⟨z, hp, rfl⟩ := hp
  obtain ⟨hP1, hK1, hD1⟩ := hB
  rw [ht] at hP1
  exact k r z hp H1 locs1 ls hP1 (hD1.weaken (fun _ _ _ h => hF _ h)) hS1 hl
theorem kv_dcmp {dd : kDD} {g : kG} {cc : ByteArray} {own : String} {Ts : List Cond} {a b pc : Nat} {lv : List (Nat × Value)} {st : List Value} {ks : List Nat} {ad : Nat → Nat} {E : Nat → va_E} (C : kX dd g cc own Ts) {x y : UInt64} {op : CmpOp} (d : decode cc pc = .ok (.dcmp op, 1)) (k : kv dd g a b (pc + 1) lv (.int (Op.cmpValue (FP.dcmp x y) op) :: st) ks ad E) : kv dd g a b pc lv (.double y :: .double x :: st) ks ad E := by
  obtain ⟨p, l, e, R, s, m, args, below, meth, c, Q, A, nL⟩ := g
  obtain ⟨hx, hb, hown, hts, hK, hA, hml, hZ, hst⟩ := C
  intro H locs ls hP hD hS hl
  exact lv_dcmp hx hb d (k H locs ls hP hD hS hl)
/-- the script: its cell is none that the law may change -/
def kScr (g : kG) (sc L : Nat) (xs : Nat → Int32) : Prop := match g with
  | (p, l, e, R, s, m, args, below, meth, c, Q, A, nL) => va_X sc L xs s s.heap ∧ sc < s.heap.size ∧ ¬ A sc
theorem kv_sld {dd : kDD} {g : kG} {cc : ByteArray} {own : String} {Ts : List Cond} {a b pc : Nat} {lv : List (Nat × Value)} {st : List Value} {ks : List Nat} {ad : Nat → Nat} {E : Nat → va_E} (C : kX dd g cc own Ts) {sc L j : Nat} {xs : Nat → Int32} (hs : kScr g sc L xs) (hj : j < L) (hL : L < 2 ^ 31) (d : decode cc pc = .ok (.iaload, 1)) (k : kv dd g a b (pc + 1) lv (.int (xs j) :: st) ks ad E) : kv dd g a b pc lv (.int (nI j) :: .ref sc :: st) ks ad E := by
  obtain ⟨p, l, e, R, s, m, args, below, meth, c, Q, A, nL⟩ := g
  obtain ⟨hx, hb, hown, hts, hK, hA, hml, hZ, hst⟩ := C
  intro H locs ls hP hD hS hl
  refine va_sld hx hb hs.1 hs.2.1 hs.2.2 hS (vp_in_nI hj hL) d ?_
  rw [nI_clamp (Nat.lt_trans hj hL)]
  exact (k H locs ls hP hD hS hl)
theorem kv_slen {dd : kDD} {g : kG} {cc : ByteArray} {own : String} {Ts : List Cond} {a b pc : Nat} {lv : List (Nat × Value)} {st : List Value} {ks : List Nat} {ad : Nat → Nat} {E : Nat → va_E} (C : kX dd g cc own Ts) {sc L : Nat} {xs : Nat → Int32} (hs : kScr g sc L xs) (d : decode cc pc = .ok (.arraylength, 1)) (k : kv dd g a b (pc + 1) lv (.int (nI L) :: st) ks ad E) : kv dd g a b pc lv (.ref sc :: st) ks ad E := by
  obtain ⟨p, l, e, R, s, m, args, below, meth, c, Q, A, nL⟩ := g
  obtain ⟨hx, hb, hown, hts, hK, hA, hml, hZ, hst⟩ := C
  intro H locs ls hP hD hS hl
  exact va_slen hx hb hs.1 hs.2.1 hs.2.2 hS d (k H locs ls hP hD hS hl)

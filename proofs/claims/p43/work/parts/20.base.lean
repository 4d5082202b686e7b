/-! ROWS, second half: floats, doubles, references, new things, exceptions -/
theorem kv_fconst0 {dd : kDD} {g : kG} {cc : ByteArray} {own : String} {Ts : List Cond} {a b pc : Nat} {lv : List (Nat × Value)} {st : List Value} {ks : List Nat} {ad : Nat → Nat} {E : Nat → va_E} (C : kX dd g cc own Ts)  (d : decode cc pc = .ok (.fconst 0, 1))  (k : kv dd g a b (pc + 1) lv (.float FP.fconst0 :: st) ks ad E) : kv dd g a b pc lv st ks ad E := by
  obtain ⟨p, l, e, R, s, m, args, below, meth, c, Q, A, nL⟩ := g
  obtain ⟨hx, hb, hown, hts, hK, hA, hml, hZ, hst⟩ := C
  intro H locs ls hP hD hS hl
  exact lv_fconst0 hx hb d  (k H locs ls hP hD hS hl)
theorem kv_dconst0 {dd : kDD} {g : kG} {cc : ByteArray} {own : String} {Ts : List Cond} {a b pc : Nat} {lv : List (Nat × Value)} {st : List Value} {ks : List Nat} {ad : Nat → Nat} {E : Nat → va_E} (C : kX dd g cc own Ts)  (d : decode cc pc = .ok (.dconst 0, 1))  (k : kv dd g a b (pc + 1) lv (.double FP.dconst0 :: st) ks ad E) : kv dd g a b pc lv st ks ad E := by
  obtain ⟨p, l, e, R, s, m, args, below, meth, c, Q, A, nL⟩ := g
  obtain ⟨hx, hb, hown, hts, hK, hA, hml, hZ, hst⟩ := C
  intro H locs ls hP hD hS hl
  exact lv_dconst0 hx hb d  (k H locs ls hP hD hS hl)
theorem kv_l2f {dd : kDD} {g : kG} {cc : ByteArray} {own : String} {Ts : List Cond} {a b pc : Nat} {lv : List (Nat × Value)} {st : List Value} {ks : List Nat} {ad : Nat → Nat} {E : Nat → va_E} (C : kX dd g cc own Ts) {x : Int64} (d : decode cc pc = .ok (.l2f, 1))  (k : kv dd g a b (pc + 1) lv (.float (FP.l2f x) :: st) ks ad E) : kv dd g a b pc lv (.long x :: st) ks ad E := by
  obtain ⟨p, l, e, R, s, m, args, below, meth, c, Q, A, nL⟩ := g
  obtain ⟨hx, hb, hown, hts, hK, hA, hml, hZ, hst⟩ := C
  intro H locs ls hP hD hS hl
  exact lv_l2f hx hb d  (k H locs ls hP hD hS hl)
theorem kv_l2d {dd : kDD} {g : kG} {cc : ByteArray} {own : String} {Ts : List Cond} {a b pc : Nat} {lv : List (Nat × Value)} {st : List Value} {ks : List Nat} {ad : Nat → Nat} {E : Nat → va_E} (C : kX dd g cc own Ts) {x : Int64} (d : decode cc pc = .ok (.l2d, 1))  (k : kv dd g a b (pc + 1) lv (.double (FP.l2d x) :: st) ks ad E) : kv dd g a b pc lv (.long x :: st) ks ad E := by
  obtain ⟨p, l, e, R, s, m, args, below, meth, c, Q, A, nL⟩ := g
  obtain ⟨hx, hb, hown, hts, hK, hA, hml, hZ, hst⟩ := C
  intro H locs ls hP hD hS hl
  exact lv_l2d hx hb d  (k H locs ls hP hD hS hl)
theorem kv_fdiv {dd : kDD} {g : kG} {cc : ByteArray} {own : String} {Ts : List Cond} {a b pc : Nat} {lv : List (Nat × Value)} {st : List Value} {ks : List Nat} {ad : Nat → Nat} {E : Nat → va_E} (C : kX dd g cc own Ts) {x y : UInt32} (d : decode cc pc = .ok (.fdiv, 1)) (hne : vf_n32 (FP.fdiv x y)) (k : kv dd g a b (pc + 1) lv (.float (FP.fdiv x y) :: st) ks ad E) : kv dd g a b pc lv (.float y :: .float x :: st) ks ad E := by
  obtain ⟨p, l, e, R, s, m, args, below, meth, c, Q, A, nL⟩ := g
  obtain ⟨hx, hb, hown, hts, hK, hA, hml, hZ, hst⟩ := C
  intro H locs ls hP hD hS hl
  exact lv_fdiv hx hb d hne (k H locs ls hP hD hS hl)
theorem kv_ddiv {dd : kDD} {g : kG} {cc : ByteArray} {own : String} {Ts : List Cond} {a b pc : Nat} {lv : List (Nat × Value)} {st : List Value} {ks : List Nat} {ad : Nat → Nat} {E : Nat → va_E} (C : kX dd g cc own Ts) {x y : UInt64} (d : decode cc pc = .ok (.ddiv, 1)) (hne : vf_n64 (FP.ddiv x y)) (k : kv dd g a b (pc + 1) lv (.double (FP.ddiv x y) :: st) ks ad E) : kv dd g a b pc lv (.double y :: .double x :: st) ks ad E := by
  obtain ⟨p, l, e, R, s, m, args, below, meth, c, Q, A, nL⟩ := g
  obtain ⟨hx, hb, hown, hts, hK, hA, hml, hZ, hst⟩ := C
  intro H locs ls hP hD hS hl
  exact lv_ddiv hx hb d hne (k H locs ls hP hD hS hl)
theorem kv_f2d {dd : kDD} {g : kG} {cc : ByteArray} {own : String} {Ts : List Cond} {a b pc : Nat} {lv : List (Nat × Value)} {st : List Value} {ks : List Nat} {ad : Nat → Nat} {E : Nat → va_E} (C : kX dd g cc own Ts) {x : UInt32} (d : decode cc pc = .ok (.f2d, 1)) (hne : vf_n64 (FP.f2d x)) (k : kv dd g a b (pc + 1) lv (.double (FP.f2d x) :: st) ks ad E) : kv dd g a b pc lv (.float x :: st) ks ad E := by
  obtain ⟨p, l, e, R, s, m, args, below, meth, c, Q, A, nL⟩ := g
  obtain ⟨hx, hb, hown, hts, hK, hA, hml, hZ, hst⟩ := C
  intro H locs ls hP hD hS hl
  exact lv_f2d hx hb d hne (k H locs ls hP hD hS hl)
theorem W.qret {p : Program} {l : Launch} {e : Env} {R : Room} {s : State} {m : MethodId} {args : Array Value} {below : List Frame} {meth : Method} {c : Code} {H : Heap} {locs : List Loc} {cells slots : Nat} {cc : ByteArray} {Qc : Array Value → State → Outcome → State → Prop} {free : Addr → Prop} {v : Option Nat} {ty : FieldType} (hexec : p.tables.exec = Jvm.exec) (hb : c.code = cc) (hr : meth.sig.returnType = some ty) (hty : (∃ n, ty = .object n) ∨ ∃ t, ty = .array t)
    (hq : ∀ t : State, t.heap = H → s.WarmedH t.vm → Qc args s (.returned (some (va_rf v))) t) (hf : ∀ q ∈ locs, free q.base)
    {pc : Nat} {ls : Array Slot} (hdg : decode cc pc = .ok (.areturn, 1)) (hlocks : meth.locks = false) : W p l e R s m args below meth c H locs cells slots (MQ below Qc args s cells slots free) (F0 m pc ls [va_rf v]) := by
  exact W.aret hexec hb hr hty (va_rf_or v) hq hf hdg hlocks
def kCf (l : Launch) (y : MethodName) (ws : List Cond) (rm : Room) (mc ms : Nat) (dd : kDD) (vs : List Value) (u : kT) (post : UInt32 → kT → Prop) : Prop := l.stackTraces = false → ∀ sz, Met l y ws rm (va_Pc vs (kPre dd u sz)) (va_Qf post (kAt dd (kA u sz)) (kA u sz)) mc ms (kA u sz)
def kRf (dd : kDD) (g : kG) (rt : FieldType) (post : UInt32 → kT → Prop) (mc ms : Nat) : Prop := match g with
  | (p, l, e, R, s, m, args, below, meth, c, Q, A, nL) => (∀ (H : Heap) (locs : List Loc) (f : JFrame), W p l e R s m args below meth c H locs mc ms (MQ below (va_Qf post (kAt dd A) A) args s mc ms A) f → W p l e R s m args below meth c H locs mc ms Q f) ∧ meth.sig.returnType = some rt ∧ meth.locks = false
def kQf {S : Type} (P : UInt32 → S → Prop) (ks2 : S → List Nat) (ad2 : S → Nat → Nat) (E2 : S → Nat → va_E) : UInt32 → kT → Prop := fun r u => ∃ z, P r z ∧ u = (ks2 z, ad2 z, E2 z)
def kCd (l : Launch) (y : MethodName) (ws : List Cond) (rm : Room) (mc ms : Nat) (dd : kDD) (vs : List Value) (u : kT) (post : UInt64 → kT → Prop) : Prop := l.stackTraces = false → ∀ sz, Met l y ws rm (va_Pc vs (kPre dd u sz)) (va_Qd post (kAt dd (kA u sz)) (kA u sz)) mc ms (kA u sz)
def kRd (dd : kDD) (g : kG) (rt : FieldType) (post : UInt64 → kT → Prop) (mc ms : Nat) : Prop := match g with
  | (p, l, e, R, s, m, args, below, meth, c, Q, A, nL) => (∀ (H : Heap) (locs : List Loc) (f : JFrame), W p l e R s m args below meth c H locs mc ms (MQ below (va_Qd post (kAt dd A) A) args s mc ms A) f → W p l e R s m args below meth c H locs mc ms Q f) ∧ meth.sig.returnType = some rt ∧ meth.locks = false
def kQd {S : Type} (P : UInt64 → S → Prop) (ks2 : S → List Nat) (ad2 : S → Nat → Nat) (E2 : S → Nat → va_E) : UInt64 → kT → Prop := fun r u => ∃ z, P r z ∧ u = (ks2 z, ad2 z, E2 z)
def kCq (l : Launch) (y : MethodName) (ws : List Cond) (rm : Room) (mc ms : Nat) (dd : kDD) (vs : List Value) (u : kT) (post : Option Nat → kT → Prop) : Prop := l.stackTraces = false → ∀ sz, Met l y ws rm (va_Pc vs (kPre dd u sz)) (va_Qq post (kAt dd (kA u sz)) (kA u sz)) mc ms (kA u sz)
def kRq (dd : kDD) (g : kG) (rt : FieldType) (post : Option Nat → kT → Prop) (mc ms : Nat) : Prop := match g with
  | (p, l, e, R, s, m, args, below, meth, c, Q, A, nL) => (∀ (H : Heap) (locs : List Loc) (f : JFrame), W p l e R s m args below meth c H locs mc ms (MQ below (va_Qq post (kAt dd A) A) args s mc ms A) f → W p l e R s m args below meth c H locs mc ms Q f) ∧ meth.sig.returnType = some rt ∧ meth.locks = false
def kQq {S : Type} (P : Option Nat → S → Prop) (ks2 : S → List Nat) (ad2 : S → Nat → Nat) (E2 : S → Nat → va_E) : Option Nat → kT → Prop := fun r u => ∃ z, P r z ∧ u = (ks2 z, ad2 z, E2 z)
/-- the world behind a throw -/
def kXC (dd : kDD) (A : Nat → Prop) (xp : String → kT → Prop) : String → State → State → Prop := vx_X (S := kT) (fun _ => True) (fun E u t => xp E u ∧ kAt dd A u t) A
/-- what a body that may throw has at its throws -/
def kRX (dd : kDD) (g : kG) (xp : String → kT → Prop) (mc ms : Nat) : Prop := match g with
  | (p, l, e, R, s, m, args, below, meth, c, Q, A, nL) => ∃ Qc : Array Value → State → Outcome → State → Prop, (∀ (H : Heap) (locs : List Loc) (a b : Nat) (f : JFrame), W p l e R s m args below meth c H locs a b (vx_MQ below Qc (kXC dd A xp) args s mc ms A) f → W p l e R s m args below meth c H locs a b Q f) ∧ (∀ (H : Heap) (locs : List Loc) (a b : Nat) (f : JFrame) (q : Addr), vx_W p l e R s m args below meth c H locs a b (vx_MQ below Qc (kXC dd A xp) args s mc ms A) f q → vx_W p l e R s m args below meth c H locs a b Q f q) ∧ meth.locks = false ∧ (∀ x ∈ c.exceptionTable.toList, False)
def kCiX (l : Launch) (y : MethodName) (ws : List Cond) (rm : Room) (mc ms : Nat) (dd : kDD) (vs : List Value) (u : kT) (post : Int32 → kT → Prop) (xp : String → kT → Prop) : Prop := l.stackTraces = false → ∀ sz, vx_Met l y ws rm (va_Pc vs (kPre dd u sz)) (va_Qi post (kAt dd (kA u sz)) (kA u sz)) (kXC dd (kA u sz) xp) mc ms (kA u sz)
def kClX (l : Launch) (y : MethodName) (ws : List Cond) (rm : Room) (mc ms : Nat) (dd : kDD) (vs : List Value) (u : kT) (post : Int64 → kT → Prop) (xp : String → kT → Prop) : Prop := l.stackTraces = false → ∀ sz, vx_Met l y ws rm (va_Pc vs (kPre dd u sz)) (va_Ql post (kAt dd (kA u sz)) (kA u sz)) (kXC dd (kA u sz) xp) mc ms (kA u sz)
def kCfX (l : Launch) (y : MethodName) (ws : List Cond) (rm : Room) (mc ms : Nat) (dd : kDD) (vs : List Value) (u : kT) (post : UInt32 → kT → Prop) (xp : String → kT → Prop) : Prop := l.stackTraces = false → ∀ sz, vx_Met l y ws rm (va_Pc vs (kPre dd u sz)) (va_Qf post (kAt dd (kA u sz)) (kA u sz)) (kXC dd (kA u sz) xp) mc ms (kA u sz)
def kCdX (l : Launch) (y : MethodName) (ws : List Cond) (rm : Room) (mc ms : Nat) (dd : kDD) (vs : List Value) (u : kT) (post : UInt64 → kT → Prop) (xp : String → kT → Prop) : Prop := l.stackTraces = false → ∀ sz, vx_Met l y ws rm (va_Pc vs (kPre dd u sz)) (va_Qd post (kAt dd (kA u sz)) (kA u sz)) (kXC dd (kA u sz) xp) mc ms (kA u sz)
def kCvX (l : Launch) (y : MethodName) (ws : List Cond) (rm : Room) (mc ms : Nat) (dd : kDD) (vs : List Value) (u : kT) (post : kT → Prop) (xp : String → kT → Prop) : Prop := l.stackTraces = false → ∀ sz, vx_Met l y ws rm (va_Pc vs (kPre dd u sz)) (va_Qv post (kAt dd (kA u sz)) (kA u sz)) (kXC dd (kA u sz) xp) mc ms (kA u sz)
theorem kMetiX {l : Launch} {y : MethodName} {ws ws' : List Cond} {rm : Room} {mc ms maxL : Nat} {cc : ByteArray} {rt : FieldType} {dd : kDD} {vs : List Value} {u : kT} {post : Int32 → kT → Prop} {xp : String → kT → Prop} (hy : plainName y.cls = true) (hw : ws = Cond.code y cc maxL (some rt) :: ws') (hl : (lg_sl vs).length ≤ maxL) (body : ∀ g : kG, kX dd g cc y.cls ws → kRi dd g rt post mc ms → kRX dd g xp mc ms → knL g = maxL → kR g = rm → kL g = l → kname g = y.name → kv dd g 0 0 0 (lv_args 0 vs) [] u.1 u.2.1 u.2.2) : kCiX l y ws rm mc ms dd vs u post xp := by
  intro hst sz
  refine vx_ofW (cc := cc) (maxL := maxL) (ret := (some rt)) hy hw ?_
  intro p e s m args below meth c s₁ B hml hnt hv
  obtain ⟨rfl, hsz, hP, hK, hD0, hZ⟩ := hv
  have hown : s.vm.findClass y.cls = some m.cls := findClass_of_methodNamed B.named
  subst hsz
  have hD := hD0.self (sz := s.heap.size)
  have K := body (p, l, e, (headSpec ws rm).room, s, m, vs.toArray, below, meth, c, _, kA u s.heap.size, maxL) ⟨B.exec, B.bytes, hown, atoms_spec (ws := ws) B.pre, hK, (fun q h => Or.inr h), hml, hZ, hst⟩ ⟨fun H locs f k => vx_ret k, B.returns, B.notSynchronized⟩ ⟨_, fun H locs a b f k => k, fun H locs a b f q k => k, B.notSynchronized, hnt⟩ rfl rfl rfl (name_of_methodNamed B.named B.method).1
  have hl0 := lv_entry vs (n := maxL) hl
  rw [lg_entry_eq]
  exact K s.heap [] _ hP hD va_S.rf hl0
theorem kMetlX {l : Launch} {y : MethodName} {ws ws' : List Cond} {rm : Room} {mc ms maxL : Nat} {cc : ByteArray} {rt : FieldType} {dd : kDD} {vs : List Value} {u : kT} {post : Int64 → kT → Prop} {xp : String → kT → Prop} (hy : plainName y.cls = true) (hw : ws = Cond.code y cc maxL (some rt) :: ws') (hl : (lg_sl vs).length ≤ maxL) (body : ∀ g : kG, kX dd g cc y.cls ws → kRl dd g rt post mc ms → kRX dd g xp mc ms → knL g = maxL → kR g = rm → kL g = l → kname g = y.name → kv dd g 0 0 0 (lv_args 0 vs) [] u.1 u.2.1 u.2.2) : kClX l y ws rm mc ms dd vs u post xp := by
  intro hst sz
  refine vx_ofW (cc := cc) (maxL := maxL) (ret := (some rt)) hy hw ?_
  intro p e s m args below meth c s₁ B hml hnt hv
  obtain ⟨rfl, hsz, hP, hK, hD0, hZ⟩ := hv
  have hown : s.vm.findClass y.cls = some m.cls := findClass_of_methodNamed B.named
  subst hsz
  have hD := hD0.self (sz := s.heap.size)
  have K := body (p, l, e, (headSpec ws rm).room, s, m, vs.toArray, below, meth, c, _, kA u s.heap.size, maxL) ⟨B.exec, B.bytes, hown, atoms_spec (ws := ws) B.pre, hK, (fun q h => Or.inr h), hml, hZ, hst⟩ ⟨fun H locs f k => vx_ret k, B.returns, B.notSynchronized⟩ ⟨_, fun H locs a b f k => k, fun H locs a b f q k => k, B.notSynchronized, hnt⟩ rfl rfl rfl (name_of_methodNamed B.named B.method).1
  have hl0 := lv_entry vs (n := maxL) hl
  rw [lg_entry_eq]
  exact K s.heap [] _ hP hD va_S.rf hl0
theorem kMetf {l : Launch} {y : MethodName} {ws ws' : List Cond} {rm : Room} {mc ms maxL : Nat} {cc : ByteArray} {rt : FieldType} {dd : kDD} {vs : List Value} {u : kT} {post : UInt32 → kT → Prop} (hy : plainName y.cls = true) (hw : ws = Cond.code y cc maxL (some rt) :: ws') (hl : (lg_sl vs).length ≤ maxL) (body : ∀ g : kG, kX dd g cc y.cls ws → kRf dd g rt post mc ms → knL g = maxL → kR g = rm → kL g = l → kname g = y.name → kv dd g 0 0 0 (lv_args 0 vs) [] u.1 u.2.1 u.2.2) : kCf l y ws rm mc ms dd vs u post := by
  intro hst sz
  refine Met.ofW (cc := cc) (maxL := maxL) (ret := (some rt)) hy hw ?_
  intro p e s m args below meth c s₁ B hml hv
  obtain ⟨rfl, hsz, hP, hK, hD0, hZ⟩ := hv
  have hown : s.vm.findClass y.cls = some m.cls := findClass_of_methodNamed B.named
  subst hsz
  have hD := hD0.self (sz := s.heap.size)
  have K := body (p, l, e, (headSpec ws rm).room, s, m, vs.toArray, below, meth, c, _, kA u s.heap.size, maxL) ⟨B.exec, B.bytes, hown, atoms_spec (ws := ws) B.pre, hK, (fun q h => Or.inr h), hml, hZ, hst⟩ ⟨fun H locs f k => k, B.returns, B.notSynchronized⟩ rfl rfl rfl (name_of_methodNamed B.named B.method).1
  have hl0 := lv_entry vs (n := maxL) hl
  rw [lg_entry_eq]
  exact K s.heap [] _ hP hD va_S.rf hl0
theorem kMetfX {l : Launch} {y : MethodName} {ws ws' : List Cond} {rm : Room} {mc ms maxL : Nat} {cc : ByteArray} {rt : FieldType} {dd : kDD} {vs : List Value} {u : kT} {post : UInt32 → kT → Prop} {xp : String → kT → Prop} (hy : plainName y.cls = true) (hw : ws = Cond.code y cc maxL (some rt) :: ws') (hl : (lg_sl vs).length ≤ maxL) (body : ∀ g : kG, kX dd g cc y.cls ws → kRf dd g rt post mc ms → kRX dd g xp mc ms → knL g = maxL → kR g = rm → kL g = l → kname g = y.name → kv dd g 0 0 0 (lv_args 0 vs) [] u.1 u.2.1 u.2.2) : kCfX l y ws rm mc ms dd vs u post xp := by
  intro hst sz
  refine vx_ofW (cc := cc) (maxL := maxL) (ret := (some rt)) hy hw ?_
  intro p e s m args below meth c s₁ B hml hnt hv
  obtain ⟨rfl, hsz, hP, hK, hD0, hZ⟩ := hv
  have hown : s.vm.findClass y.cls = some m.cls := findClass_of_methodNamed B.named
  subst hsz
  have hD := hD0.self (sz := s.heap.size)
  have K := body (p, l, e, (headSpec ws rm).room, s, m, vs.toArray, below, meth, c, _, kA u s.heap.size, maxL) ⟨B.exec, B.bytes, hown, atoms_spec (ws := ws) B.pre, hK, (fun q h => Or.inr h), hml, hZ, hst⟩ ⟨fun H locs f k => vx_ret k, B.returns, B.notSynchronized⟩ ⟨_, fun H locs a b f k => k, fun H locs a b f q k => k, B.notSynchronized, hnt⟩ rfl rfl rfl (name_of_methodNamed B.named B.method).1
  have hl0 := lv_entry vs (n := maxL) hl
  rw [lg_entry_eq]
  exact K s.heap [] _ hP hD va_S.rf hl0
theorem kMetd {l : Launch} {y : MethodName} {ws ws' : List Cond} {rm : Room} {mc ms maxL : Nat} {cc : ByteArray} {rt : FieldType} {dd : kDD} {vs : List Value} {u : kT} {post : UInt64 → kT → Prop} (hy : plainName y.cls = true) (hw : ws = Cond.code y cc maxL (some rt) :: ws') (hl : (lg_sl vs).length ≤ maxL) (body : ∀ g : kG, kX dd g cc y.cls ws → kRd dd g rt post mc ms → knL g = maxL → kR g = rm → kL g = l → kname g = y.name → kv dd g 0 0 0 (lv_args 0 vs) [] u.1 u.2.1 u.2.2) : kCd l y ws rm mc ms dd vs u post := by
  intro hst sz
  refine Met.ofW (cc := cc) (maxL := maxL) (ret := (some rt)) hy hw ?_
  intro p e s m args below meth c s₁ B hml hv
  obtain ⟨rfl, hsz, hP, hK, hD0, hZ⟩ := hv
  have hown : s.vm.findClass y.cls = some m.cls := findClass_of_methodNamed B.named
  subst hsz
  have hD := hD0.self (sz := s.heap.size)
  have K := body (p, l, e, (headSpec ws rm).room, s, m, vs.toArray, below, meth, c, _, kA u s.heap.size, maxL) ⟨B.exec, B.bytes, hown, atoms_spec (ws := ws) B.pre, hK, (fun q h => Or.inr h), hml, hZ, hst⟩ ⟨fun H locs f k => k, B.returns, B.notSynchronized⟩ rfl rfl rfl (name_of_methodNamed B.named B.method).1
  have hl0 := lv_entry vs (n := maxL) hl
  rw [lg_entry_eq]
  exact K s.heap [] _ hP hD va_S.rf hl0
theorem kMetdX {l : Launch} {y : MethodName} {ws ws' : List Cond} {rm : Room} {mc ms maxL : Nat} {cc : ByteArray} {rt : FieldType} {dd : kDD} {vs : List Value} {u : kT} {post : UInt64 → kT → Prop} {xp : String → kT → Prop} (hy : plainName y.cls = true) (hw : ws = Cond.code y cc maxL (some rt) :: ws') (hl : (lg_sl vs).length ≤ maxL) (body : ∀ g : kG, kX dd g cc y.cls ws → kRd dd g rt post mc ms → kRX dd g xp mc ms → knL g = maxL → kR g = rm → kL g = l → kname g = y.name → kv dd g 0 0 0 (lv_args 0 vs) [] u.1 u.2.1 u.2.2) : kCdX l y ws rm mc ms dd vs u post xp := by
  intro hst sz
  refine vx_ofW (cc := cc) (maxL := maxL) (ret := (some rt)) hy hw ?_
  intro p e s m args below meth c s₁ B hml hnt hv
  obtain ⟨rfl, hsz, hP, hK, hD0, hZ⟩ := hv
  have hown : s.vm.findClass y.cls = some m.cls := findClass_of_methodNamed B.named
  subst hsz
  have hD := hD0.self (sz := s.heap.size)
  have K := body (p, l, e, (headSpec ws rm).room, s, m, vs.toArray, below, meth, c, _, kA u s.heap.size, maxL) ⟨B.exec, B.bytes, hown, atoms_spec (ws := ws) B.pre, hK, (fun q h => Or.inr h), hml, hZ, hst⟩ ⟨fun H locs f k => vx_ret k, B.returns, B.notSynchronized⟩ ⟨_, fun H locs a b f k => k, fun H locs a b f q k => k, B.notSynchronized, hnt⟩ rfl rfl rfl (name_of_methodNamed B.named B.method).1
  have hl0 := lv_entry vs (n := maxL) hl
  rw [lg_entry_eq]
  exact K s.heap [] _ hP hD va_S.rf hl0
theorem kMetq {l : Launch} {y : MethodName} {ws ws' : List Cond} {rm : Room} {mc ms maxL : Nat} {cc : ByteArray} {rt : FieldType} {dd : kDD} {vs : List Value} {u : kT} {post : Option Nat → kT → Prop} (hy : plainName y.cls = true) (hw : ws = Cond.code y cc maxL (some rt) :: ws') (hl : (lg_sl vs).length ≤ maxL) (body : ∀ g : kG, kX dd g cc y.cls ws → kRq dd g rt post mc ms → knL g = maxL → kR g = rm → kL g = l → kname g = y.name → kv dd g 0 0 0 (lv_args 0 vs) [] u.1 u.2.1 u.2.2) : kCq l y ws rm mc ms dd vs u post := by
  intro hst sz
  refine Met.ofW (cc := cc) (maxL := maxL) (ret := (some rt)) hy hw ?_
  intro p e s m args below meth c s₁ B hml hv
  obtain ⟨rfl, hsz, hP, hK, hD0, hZ⟩ := hv
  have hown : s.vm.findClass y.cls = some m.cls := findClass_of_methodNamed B.named
  subst hsz
  have hD := hD0.self (sz := s.heap.size)
  have K := body (p, l, e, (headSpec ws rm).room, s, m, vs.toArray, below, meth, c, _, kA u s.heap.size, maxL) ⟨B.exec, B.bytes, hown, atoms_spec (ws := ws) B.pre, hK, (fun q h => Or.inr h), hml, hZ, hst⟩ ⟨fun H locs f k => k, B.returns, B.notSynchronized⟩ rfl rfl rfl (name_of_methodNamed B.named B.method).1
  have hl0 := lv_entry vs (n := maxL) hl
  rw [lg_entry_eq]
  exact K s.heap [] _ hP hD va_S.rf hl0
theorem kMetvX {l : Launch} {y : MethodName} {ws ws' : List Cond} {rm : Room} {mc ms maxL : Nat} {cc : ByteArray} {dd : kDD} {vs : List Value} {u : kT} {post : kT → Prop} {xp : String → kT → Prop} (hy : plainName y.cls = true) (hw : ws = Cond.code y cc maxL none :: ws') (hl : (lg_sl vs).length ≤ maxL) (body : ∀ g : kG, kX dd g cc y.cls ws → kRv dd g post mc ms → kRX dd g xp mc ms → knL g = maxL → kR g = rm → kL g = l → kname g = y.name → kv dd g 0 0 0 (lv_args 0 vs) [] u.1 u.2.1 u.2.2) : kCvX l y ws rm mc ms dd vs u post xp := by
  intro hst sz
  refine vx_ofW (cc := cc) (maxL := maxL) (ret := none) hy hw ?_
  intro p e s m args below meth c s₁ B hml hnt hv
  obtain ⟨rfl, hsz, hP, hK, hD0, hZ⟩ := hv
  have hown : s.vm.findClass y.cls = some m.cls := findClass_of_methodNamed B.named
  subst hsz
  have hD := hD0.self (sz := s.heap.size)
  have K := body (p, l, e, (headSpec ws rm).room, s, m, vs.toArray, below, meth, c, _, kA u s.heap.size, maxL) ⟨B.exec, B.bytes, hown, atoms_spec (ws := ws) B.pre, hK, (fun q h => Or.inr h), hml, hZ, hst⟩ ⟨fun H locs f k => vx_ret k, B.returns, B.notSynchronized⟩ ⟨_, fun H locs a b f k => k, fun H locs a b f q k => k, B.notSynchronized, hnt⟩ rfl rfl rfl (name_of_methodNamed B.named B.method).1
  have hl0 := lv_entry vs (n := maxL) hl
  rw [lg_entry_eq]
  exact K s.heap [] _ hP hD va_S.rf hl0
theorem kv_freturn {dd : kDD} {g : kG} {cc : ByteArray} {own : String} {Ts : List Cond} {a b pc : Nat} {lv : List (Nat × Value)} {ks : List Nat} {ad : Nat → Nat} {E : Nat → va_E} (C : kX dd g cc own Ts) {post : UInt32 → kT → Prop} {mc ms : Nat} {v : UInt32} (hr : kRf dd g .float post mc ms) (hc : a ≤ mc) (hs : b ≤ ms) (hp : post v (ks, ad, E)) (d : decode cc pc = .ok (.freturn, 1))  : kv dd g a b pc lv [.float v] ks ad E := by
  obtain ⟨p, l, e, R, s, m, args, below, meth, c, Q, A, nL⟩ := g
  obtain ⟨hx, hb, hown, hts, hK, hA, hml, hZ, hst⟩ := C
  intro H locs ls hP hD hS hl
  obtain ⟨h1, h2, h3⟩ := hr
  refine W.widen hc hs (h1 H locs _ ?_)
  exact W.fret hx hb h2 (fun t ht hW => ⟨⟨v, (ks, ad, E), rfl, hp, by rw [ht]; exact hP, va_K.moved hW.alike hK, hD⟩, hS.F ht⟩) hS.2.2 d h3
theorem kv_dreturn {dd : kDD} {g : kG} {cc : ByteArray} {own : String} {Ts : List Cond} {a b pc : Nat} {lv : List (Nat × Value)} {ks : List Nat} {ad : Nat → Nat} {E : Nat → va_E} (C : kX dd g cc own Ts) {post : UInt64 → kT → Prop} {mc ms : Nat} {v : UInt64} (hr : kRd dd g .double post mc ms) (hc : a ≤ mc) (hs : b ≤ ms) (hp : post v (ks, ad, E)) (d : decode cc pc = .ok (.dreturn, 1))  : kv dd g a b pc lv [.double v] ks ad E := by
  obtain ⟨p, l, e, R, s, m, args, below, meth, c, Q, A, nL⟩ := g
  obtain ⟨hx, hb, hown, hts, hK, hA, hml, hZ, hst⟩ := C
  intro H locs ls hP hD hS hl
  obtain ⟨h1, h2, h3⟩ := hr
  refine W.widen hc hs (h1 H locs _ ?_)
  exact W.dret hx hb h2 (fun t ht hW => ⟨⟨v, (ks, ad, E), rfl, hp, by rw [ht]; exact hP, va_K.moved hW.alike hK, hD⟩, hS.F ht⟩) hS.2.2 d h3
theorem kv_areturn {dd : kDD} {g : kG} {cc : ByteArray} {own : String} {Ts : List Cond} {a b pc : Nat} {lv : List (Nat × Value)} {ks : List Nat} {ad : Nat → Nat} {E : Nat → va_E} (C : kX dd g cc own Ts) {post : Option Nat → kT → Prop} {mc ms : Nat} {v : Option Nat} {rt : FieldType} (hr : kRq dd g rt post mc ms) (hrt : (∃ n, rt = .object n) ∨ ∃ t, rt = .array t) (hc : a ≤ mc) (hs : b ≤ ms) (hp : post v (ks, ad, E)) (d : decode cc pc = .ok (.areturn, 1))  : kv dd g a b pc lv [va_rf v] ks ad E := by
  obtain ⟨p, l, e, R, s, m, args, below, meth, c, Q, A, nL⟩ := g
  obtain ⟨hx, hb, hown, hts, hK, hA, hml, hZ, hst⟩ := C
  intro H locs ls hP hD hS hl
  obtain ⟨h1, h2, h3⟩ := hr
  refine W.widen hc hs (h1 H locs _ ?_)
  exact W.qret hx hb h2 hrt (fun t ht hW => ⟨⟨v, (ks, ad, E), rfl, hp, by rw [ht]; exact hP, va_K.moved hW.alike hK, hD⟩, hS.F ht⟩) hS.2.2 d h3
def kCI (g : kG) (own : String) (index : Nat) (y : MethodName) (bytes : ByteArray) (maxL : Nat) (ws : List Cond) (rm : Room) (mc ms n : Nat) : Prop := match g with
  | (p, l, e, R, s, m, args, below, meth, c, Q, A, nL) => CallB R s args own index y bytes maxL none ws rm mc ms n ∧ y.name = "<init>" ∧ (Cond.instanceMethod y).before args s = true
def kCIN (g : kG) (own : String) (index : Nat) (y : MethodName) (host : String) (bytes : ByteArray) (maxL : Nat) (ws : List Cond) (rm : Room) (mc ms n : Nat) : Prop := match g with
  | (p, l, e, R, s, m, args, below, meth, c, Q, A, nL) => va_CN R s args own index y host bytes maxL none ws rm mc ms n ∧ y.name = "<init>" ∧ (Cond.instanceMethod y).before args s = true
def kCSN (g : kG) (own : String) (index : Nat) (y : MethodName) (host : String) (bytes : ByteArray) (maxL : Nat) (ret : Option FieldType) (ws : List Cond) (rm : Room) (mc ms n : Nat) : Prop := match g with
  | (p, l, e, R, s, m, args, below, meth, c, Q, A, nL) => va_CN R s args own index y host bytes maxL ret ws rm mc ms n ∧ (Cond.static y).before args s = true ∧ True
theorem kCI_of {dd : kDD} {g : kG} {cc : ByteArray} {own : String} {Ts ws ws' : List Cond} {index maxL mc ms : Nat} {y : MethodName} {bytes : ByteArray} {rm : Room} (X : kX dd g cc own Ts) (n : Nat) (hT : GoodIn Ts ws) (h1 : Cond.initialized y.cls ∈ Ts) (h2 : Cond.methodLink own index y ∈ Ts) (h3 : Cond.instanceMethod y ∈ Ts) (hy : y.name = "<init>") (hw : ws = Cond.code y bytes maxL none :: ws') (hrc : rm.cells = mc) (hrs : rm.slots = ms)
    (hd : y.cls ≠ "java/lang/invoke/MethodHandle" ∧ y.cls ≠ "java/lang/invoke/VarHandle" ∧ (parseMethodDescriptor y.desc).map (fun d => d.parameters.length) = some n) {RR : Room} (hRR : kR g = RR) (hR : rm.frames + 1 ≤ RR.frames ∧ 8 + (maxL + 11) + rm.locals ≤ RR.locals) : kCI g own index y bytes maxL ws rm mc ms n := by
  obtain ⟨p, l, e, R, s, m, args, below, meth, c, Q, A, nL⟩ := g
  obtain ⟨hx, hb, hown, hts, -⟩ := X
  subst hRR
  exact cwI n hts hT hw hrc hrs (hts _ h1) (hts _ h2) (hts _ h3) hy hd hR
theorem kCIN_of {dd : kDD} {g : kG} {cc : ByteArray} {own host : String} {Ts ws ws' : List Cond} {index maxL mc ms : Nat} {y : MethodName} {bytes : ByteArray} {rm : Room} (X : kX dd g cc own Ts) (n : Nat) (hT : GoodIn Ts ws) (h1 : Cond.initialized y.cls ∈ Ts) (h2 : (own, index, y, host) ∈ kNsM) (h3 : Cond.instanceMethod y ∈ Ts) (hy : y.name = "<init>") (hw : ws = Cond.code y bytes maxL none :: ws') (hrc : rm.cells = mc) (hrs : rm.slots = ms)
    (hd : y.cls ≠ "java/lang/invoke/MethodHandle" ∧ y.cls ≠ "java/lang/invoke/VarHandle" ∧ (parseMethodDescriptor y.desc).map (fun d => d.parameters.length) = some n) {RR : Room} (hRR : kR g = RR) (hR : rm.frames + 1 ≤ RR.frames ∧ 8 + (maxL + 11) + rm.locals ≤ RR.locals) : kCIN g own index y host bytes maxL ws rm mc ms n := by
  obtain ⟨p, l, e, R, s, m, args, below, meth, c, Q, A, nL⟩ := g
  obtain ⟨hx, hb, hown, hts, hK, hA, hml, hZ, hst⟩ := X
  subst hRR
  exact ⟨va_cnB n hts hT hw hrc hrs (hZ.2.2.2.2.2.2.2.1 _ h2) (hts _ h1) hd hR, hy, hts _ h3⟩
theorem kCSN_of {dd : kDD} {g : kG} {cc : ByteArray} {own host : String} {Ts ws ws' : List Cond} {index maxL mc ms : Nat} {y : MethodName} {bytes : ByteArray} {ret : Option FieldType} {rm : Room} (X : kX dd g cc own Ts) (n : Nat) (hT : GoodIn Ts ws) (h1 : Cond.initialized y.cls ∈ Ts) (h2 : (own, index, y, host) ∈ kNsM) (h3 : Cond.static y ∈ Ts) (hw : ws = Cond.code y bytes maxL ret :: ws') (hrc : rm.cells = mc) (hrs : rm.slots = ms)
    (hd : y.cls ≠ "java/lang/invoke/MethodHandle" ∧ y.cls ≠ "java/lang/invoke/VarHandle" ∧ (parseMethodDescriptor y.desc).map (fun d => d.parameters.length) = some n) {RR : Room} (hRR : kR g = RR) (hR : rm.frames + 1 ≤ RR.frames ∧ 8 + (maxL + 11) + rm.locals ≤ RR.locals) : kCSN g own index y host bytes maxL ret ws rm mc ms n := by
  obtain ⟨p, l, e, R, s, m, args, below, meth, c, Q, A, nL⟩ := g
  obtain ⟨hx, hb, hown, hts, hK, hA, hml, hZ, hst⟩ := X
  subst hRR
  exact ⟨va_cnB n hts hT hw hrc hrs (hZ.2.2.2.2.2.2.2.1 _ h2) (hts _ h1) hd hR, hts _ h3, trivial⟩
theorem kv_callfV {dd : kDD} {g : kG} {cc : ByteArray} {own : String} {Ts : List Cond} {a b pc : Nat} {lv : List (Nat × Value)} (st : List Value) {ks : List Nat} {ad : Nat → Nat} {E : Nat → va_E} (C : kX dd g cc own Ts) {S : Type} {l9 : Launch} {Cn : String} {index maxL mc ms n κ ci : Nat} {y : MethodName} {bytes : ByteArray} {ret : Option FieldType} {wsY : List Cond} {rm : Room} {As st0 : List Value} {fs : List Value} {P : UInt32 → S → Prop} {ks2 : S → List Nat} {ad2 : S → Nat → Nat} {E2 : S → Nat → va_E} {r1 : u_T × Nat} {RR : Room} (hM : kCf l9 y wsY rm mc ms dd (.ref (ad κ) :: As) (ks, ad, E) (kQf P ks2 ad2 E2)) (hl0 : kL g = l9) (cw : kCV g own Cn index y bytes maxL ret wsY rm mc ms n) (hκ : κ ∈ ks) (hE : E κ = .inr (ci, fs)) (hci : vwCl[ci]? = some (Cn, r1.1, r1.2)) (hst0 : st0 = As.reverse ++ .ref (ad κ) :: st) (hn : As.length = n) (hw : (st.map fun v => v.category).sum ≤ 8) (hRR : kR g = RR) (hrm : a + mc ≤ RR.cells ∧ b + ms ≤ RR.slots) (d : decode cc pc = .ok (.invokevirtual index, 3)) (k : ∀ (r : UInt32) (z : S), P r z → kv dd g (a + mc) (b + ms) (pc + 3) lv (.float r :: st) (ks2 z) (ad2 z) (E2 z)) : kv dd g a b pc lv st0 ks ad E := by
  obtain ⟨p, l, e, R, s, m, args, below, meth, c, Q, A, nL⟩ := g
  obtain ⟨hx0, hb, hown, hts, hK, hA, hml, hZ, hst⟩ := C
  intro H locs ls hP hD hS hl
  obtain ⟨i, hi⟩ := kw_get (ad := ad) (E := E) hκ
  rw [hE] at hi
  subst hRR
  subst hst0
  subst hl0
  have hF := kA_in (u := (ks, ad, E)) hD hS hA
  refine va_callf (va_runV (As := As) (rest := st) ⟨hx0, hb, hml, hown, hts⟩ (hM hst H.size) cw ⟨kPre_blind, va_recv hK hP (ci := ci) (q0 := i) hci hi, fun U hU hW => ⟨rfl, by rw [hU], by rw [hU]; exact hP, va_K.moved hW.alike hK, hD.weaken (fun _ _ _ _ => trivial), by rw [hU]; exact (kSt_in hZ hS hF).warm hW⟩⟩ rfl hn hl.1 rfl (lv_room hw) d hrm) hS (fun q _ h => hF q h) hF (fun r u t H1 locs1 ht hvm hp hB hz1 hk1 hS1 => ?_)
  obtain ⟨z, hp, rfl⟩ := hp
  obtain ⟨hP1, hK1, hD1⟩ := hB
  rw [ht] at hP1
  exact k r z hp H1 locs1 ls hP1 (hD1.weaken (fun _ _ _ h => hF _ h)) hS1 hl
theorem kv_callfS {dd : kDD} {g : kG} {cc : ByteArray} {own : String} {Ts : List Cond} {a b pc : Nat} {lv : List (Nat × Value)} (st : List Value) {ks : List Nat} {ad : Nat → Nat} {E : Nat → va_E} (C : kX dd g cc own Ts) {S : Type} {l9 : Launch} {index maxL mc ms n : Nat} {y : MethodName} {bytes : ByteArray} {ret : Option FieldType} {wsY : List Cond} {rm : Room} {As st0 : List Value} {P : UInt32 → S → Prop} {ks2 : S → List Nat} {ad2 : S → Nat → Nat} {E2 : S → Nat → va_E} {RR : Room} (hM : kCf l9 y wsY rm mc ms dd As (ks, ad, E) (kQf P ks2 ad2 E2)) (hl0 : kL g = l9) (cw : kCS g own index y bytes maxL ret wsY rm mc ms n) (hst0 : st0 = As.reverse ++ st) (hn : As.length = n) (hw : (st.map fun v => v.category).sum ≤ 8) (hRR : kR g = RR) (hrm : a + mc ≤ RR.cells ∧ b + ms ≤ RR.slots) (d : decode cc pc = .ok (.invokestatic index, 3)) (k : ∀ (r : UInt32) (z : S), P r z → kv dd g (a + mc) (b + ms) (pc + 3) lv (.float r :: st) (ks2 z) (ad2 z) (E2 z)) : kv dd g a b pc lv st0 ks ad E := by
  obtain ⟨p, l, e, R, s, m, args, below, meth, c, Q, A, nL⟩ := g
  obtain ⟨hx0, hb, hown, hts, hK, hA, hml, hZ, hst⟩ := C
  intro H locs ls hP hD hS hl
  subst hRR
  subst hst0
  subst hl0
  have hF := kA_in (u := (ks, ad, E)) hD hS hA
  refine va_callf (va_runS (As := As) (rest := st) ⟨hx0, hb, hml, hown, hts⟩ (hM hst H.size) cw ⟨kPre_blind, fun U hU hW => ⟨rfl, by rw [hU], by rw [hU]; exact hP, va_K.moved hW.alike hK, hD.weaken (fun _ _ _ _ => trivial), by rw [hU]; exact (kSt_in hZ hS hF).warm hW⟩⟩ rfl hn hl.1 rfl (lv_room hw) d hrm) hS (fun q _ h => hF q h) hF (fun r u t H1 locs1 ht hvm hp hB hz1 hk1 hS1 => ?_)
  obtain ⟨z, hp, rfl⟩ := hp
  obtain ⟨hP1, hK1, hD1⟩ := hB
  rw [ht] at hP1
  exact k r z hp H1 locs1 ls hP1 (hD1.weaken (fun _ _ _ h => hF _ h)) hS1 hl
theorem kv_calldV {dd : kDD} {g : kG} {cc : ByteArray} {own : String} {Ts : List Cond} {a b pc : Nat} {lv : List (Nat × Value)} (st : List Value) {ks : List Nat} {ad : Nat → Nat} {E : Nat → va_E} (C : kX dd g cc own Ts) {S : Type} {l9 : Launch} {Cn : String} {index maxL mc ms n κ ci : Nat} {y : MethodName} {bytes : ByteArray} {ret : Option FieldType} {wsY : List Cond} {rm : Room} {As st0 : List Value} {fs : List Value} {P : UInt64 → S → Prop} {ks2 : S → List Nat} {ad2 : S → Nat → Nat} {E2 : S → Nat → va_E} {r1 : u_T × Nat} {RR : Room} (hM : kCd l9 y wsY rm mc ms dd (.ref (ad κ) :: As) (ks, ad, E) (kQd P ks2 ad2 E2)) (hl0 : kL g = l9) (cw : kCV g own Cn index y bytes maxL ret wsY rm mc ms n) (hκ : κ ∈ ks) (hE : E κ = .inr (ci, fs)) (hci : vwCl[ci]? = some (Cn, r1.1, r1.2)) (hst0 : st0 = As.reverse ++ .ref (ad κ) :: st) (hn : As.length = n) (hw : (st.map fun v => v.category).sum ≤ 8) (hRR : kR g = RR) (hrm : a + mc ≤ RR.cells ∧ b + ms ≤ RR.slots) (d : decode cc pc = .ok (.invokevirtual index, 3)) (k : ∀ (r : UInt64) (z : S), P r z → kv dd g (a + mc) (b + ms) (pc + 3) lv (.double r :: st) (ks2 z) (ad2 z) (E2 z)) : kv dd g a b pc lv st0 ks ad E := by
  obtain ⟨p, l, e, R, s, m, args, below, meth, c, Q, A, nL⟩ := g
  obtain ⟨hx0, hb, hown, hts, hK, hA, hml, hZ, hst⟩ := C
  intro H locs ls hP hD hS hl
  obtain ⟨i, hi⟩ := kw_get (ad := ad) (E := E) hκ
  rw [hE] at hi
  subst hRR
  subst hst0
  subst hl0
  have hF := kA_in (u := (ks, ad, E)) hD hS hA
  refine va_calld (va_runV (As := As) (rest := st) ⟨hx0, hb, hml, hown, hts⟩ (hM hst H.size) cw ⟨kPre_blind, va_recv hK hP (ci := ci) (q0 := i) hci hi, fun U hU hW => ⟨rfl, by rw [hU], by rw [hU]; exact hP, va_K.moved hW.alike hK, hD.weaken (fun _ _ _ _ => trivial), by rw [hU]; exact (kSt_in hZ hS hF).warm hW⟩⟩ rfl hn hl.1 rfl (lv_room hw) d hrm) hS (fun q _ h => hF q h) hF (fun r u t H1 locs1 ht hvm hp hB hz1 hk1 hS1 => ?_)
  obtain ⟨z, hp, rfl⟩ := hp
  obtain ⟨hP1, hK1, hD1⟩ := hB
  rw [ht] at hP1
  exact k r z hp H1 locs1 ls hP1 (hD1.weaken (fun _ _ _ h => hF _ h)) hS1 hl
theorem kv_calldS {dd : kDD} {g : kG} {cc : ByteArray} {own : String} {Ts : List Cond} {a b pc : Nat} {lv : List (Nat × Value)} (st : List Value) {ks : List Nat} {ad : Nat → Nat} {E : Nat → va_E} (C : kX dd g cc own Ts) {S : Type} {l9 : Launch} {index maxL mc ms n : Nat} {y : MethodName} {bytes : ByteArray} {ret : Option FieldType} {wsY : List Cond} {rm : Room} {As st0 : List Value} {P : UInt64 → S → Prop} {ks2 : S → List Nat} {ad2 : S → Nat → Nat} {E2 : S → Nat → va_E} {RR : Room} (hM : kCd l9 y wsY rm mc ms dd As (ks, ad, E) (kQd P ks2 ad2 E2)) (hl0 : kL g = l9) (cw : kCS g own index y bytes maxL ret wsY rm mc ms n) (hst0 : st0 = As.reverse ++ st) (hn : As.length = n) (hw : (st.map fun v => v.category).sum ≤ 8) (hRR : kR g = RR) (hrm : a + mc ≤ RR.cells ∧ b + ms ≤ RR.slots) (d : decode cc pc = .ok (.invokestatic index, 3)) (k : ∀ (r : UInt64) (z : S), P r z → kv dd g (a + mc) (b + ms) (pc + 3) lv (.double r :: st) (ks2 z) (ad2 z) (E2 z)) : kv dd g a b pc lv st0 ks ad E := by
  obtain ⟨p, l, e, R, s, m, args, below, meth, c, Q, A, nL⟩ := g
  obtain ⟨hx0, hb, hown, hts, hK, hA, hml, hZ, hst⟩ := C
  intro H locs ls hP hD hS hl
  subst hRR
  subst hst0
  subst hl0
  have hF := kA_in (u := (ks, ad, E)) hD hS hA
  refine va_calld (va_runS (As := As) (rest := st) ⟨hx0, hb, hml, hown, hts⟩ (hM hst H.size) cw ⟨kPre_blind, fun U hU hW => ⟨rfl, by rw [hU], by rw [hU]; exact hP, va_K.moved hW.alike hK, hD.weaken (fun _ _ _ _ => trivial), by rw [hU]; exact (kSt_in hZ hS hF).warm hW⟩⟩ rfl hn hl.1 rfl (lv_room hw) d hrm) hS (fun q _ h => hF q h) hF (fun r u t H1 locs1 ht hvm hp hB hz1 hk1 hS1 => ?_)
  obtain ⟨z, hp, rfl⟩ := hp
  obtain ⟨hP1, hK1, hD1⟩ := hB
  rw [ht] at hP1
  exact k r z hp H1 locs1 ls hP1 (hD1.weaken (fun _ _ _ h => hF _ h)) hS1 hl
theorem kv_callqV {dd : kDD} {g : kG} {cc : ByteArray} {own : String} {Ts : List Cond} {a b pc : Nat} {lv : List (Nat × Value)} (st : List Value) {ks : List Nat} {ad : Nat → Nat} {E : Nat → va_E} (C : kX dd g cc own Ts) {S : Type} {l9 : Launch} {Cn : String} {index maxL mc ms n κ ci : Nat} {y : MethodName} {bytes : ByteArray} {ret : Option FieldType} {wsY : List Cond} {rm : Room} {As st0 : List Value} {fs : List Value} {P : Option Nat → S → Prop} {ks2 : S → List Nat} {ad2 : S → Nat → Nat} {E2 : S → Nat → va_E} {r1 : u_T × Nat} {RR : Room} (hM : kCq l9 y wsY rm mc ms dd (.ref (ad κ) :: As) (ks, ad, E) (kQq P ks2 ad2 E2)) (hl0 : kL g = l9) (cw : kCV g own Cn index y bytes maxL ret wsY rm mc ms n) (hκ : κ ∈ ks) (hE : E κ = .inr (ci, fs)) (hci : vwCl[ci]? = some (Cn, r1.1, r1.2)) (hst0 : st0 = As.reverse ++ .ref (ad κ) :: st) (hn : As.length = n) (hw : (st.map fun v => v.category).sum ≤ 8) (hRR : kR g = RR) (hrm : a + mc ≤ RR.cells ∧ b + ms ≤ RR.slots) (d : decode cc pc = .ok (.invokevirtual index, 3)) (k : ∀ (r : Option Nat) (z : S), P r z → kv dd g (a + mc) (b + ms) (pc + 3) lv (va_rf r :: st) (ks2 z) (ad2 z) (E2 z)) : kv dd g a b pc lv st0 ks ad E := by
  obtain ⟨p, l, e, R, s, m, args, below, meth, c, Q, A, nL⟩ := g
  obtain ⟨hx0, hb, hown, hts, hK, hA, hml, hZ, hst⟩ := C
  intro H locs ls hP hD hS hl
  obtain ⟨i, hi⟩ := kw_get (ad := ad) (E := E) hκ
  rw [hE] at hi
  subst hRR
  subst hst0
  subst hl0
  have hF := kA_in (u := (ks, ad, E)) hD hS hA
  refine va_callq (va_runV (As := As) (rest := st) ⟨hx0, hb, hml, hown, hts⟩ (hM hst H.size) cw ⟨kPre_blind, va_recv hK hP (ci := ci) (q0 := i) hci hi, fun U hU hW => ⟨rfl, by rw [hU], by rw [hU]; exact hP, va_K.moved hW.alike hK, hD.weaken (fun _ _ _ _ => trivial), by rw [hU]; exact (kSt_in hZ hS hF).warm hW⟩⟩ rfl hn hl.1 rfl (lv_room hw) d hrm) hS (fun q _ h => hF q h) hF (fun r u t H1 locs1 ht hvm hp hB hz1 hk1 hS1 => ?_)
  obtain ⟨z, hp, rfl⟩ := hp
  obtain ⟨hP1, hK1, hD1⟩ := hB
  rw [ht] at hP1
  exact k r z hp H1 locs1 ls hP1 (hD1.weaken (fun _ _ _ h => hF _ h)) hS1 hl
theorem kv_callqS {dd : kDD} {g : kG} {cc : ByteArray} {own : String} {Ts : List Cond} {a b pc : Nat} {lv : List (Nat × Value)} (st : List Value) {ks : List Nat} {ad : Nat → Nat} {E : Nat → va_E} (C : kX dd g cc own Ts) {S : Type} {l9 : Launch} {index maxL mc ms n : Nat} {y : MethodName} {bytes : ByteArray} {ret : Option FieldType} {wsY : List Cond} {rm : Room} {As st0 : List Value} {P : Option Nat → S → Prop} {ks2 : S → List Nat} {ad2 : S → Nat → Nat} {E2 : S → Nat → va_E} {RR : Room} (hM : kCq l9 y wsY rm mc ms dd As (ks, ad, E) (kQq P ks2 ad2 E2)) (hl0 : kL g = l9) (cw : kCS g own index y bytes maxL ret wsY rm mc ms n) (hst0 : st0 = As.reverse ++ st) (hn : As.length = n) (hw : (st.map fun v => v.category).sum ≤ 8) (hRR : kR g = RR) (hrm : a + mc ≤ RR.cells ∧ b + ms ≤ RR.slots) (d : decode cc pc = .ok (.invokestatic index, 3)) (k : ∀ (r : Option Nat) (z : S), P r z → kv dd g (a + mc) (b + ms) (pc + 3) lv (va_rf r :: st) (ks2 z) (ad2 z) (E2 z)) : kv dd g a b pc lv st0 ks ad E := by
  obtain ⟨p, l, e, R, s, m, args, below, meth, c, Q, A, nL⟩ := g
  obtain ⟨hx0, hb, hown, hts, hK, hA, hml, hZ, hst⟩ := C
  intro H locs ls hP hD hS hl
  subst hRR
  subst hst0
  subst hl0
  have hF := kA_in (u := (ks, ad, E)) hD hS hA
  refine va_callq (va_runS (As := As) (rest := st) ⟨hx0, hb, hml, hown, hts⟩ (hM hst H.size) cw ⟨kPre_blind, fun U hU hW => ⟨rfl, by rw [hU], by rw [hU]; exact hP, va_K.moved hW.alike hK, hD.weaken (fun _ _ _ _ => trivial), by rw [hU]; exact (kSt_in hZ hS hF).warm hW⟩⟩ rfl hn hl.1 rfl (lv_room hw) d hrm) hS (fun q _ h => hF q h) hF (fun r u t H1 locs1 ht hvm hp hB hz1 hk1 hS1 => ?_)
  obtain ⟨z, hp, rfl⟩ := hp
  obtain ⟨hP1, hK1, hD1⟩ := hB
  rw [ht] at hP1
  exact k r z hp H1 locs1 ls hP1 (hD1.weaken (fun _ _ _ h => hF _ h)) hS1 hl
theorem kv_callvI {dd : kDD} {g : kG} {cc : ByteArray} {own : String} {Ts : List Cond} {a b pc : Nat} {lv : List (Nat × Value)} (st : List Value) {ks : List Nat} {ad : Nat → Nat} {E : Nat → va_E} (C : kX dd g cc own Ts) {S : Type} {l9 : Launch} {index maxL mc ms n κ : Nat} {y : MethodName} {bytes : ByteArray} {wsY : List Cond} {rm : Room} {As st0 : List Value} {P : S → Prop} {ks2 : S → List Nat} {ad2 : S → Nat → Nat} {E2 : S → Nat → va_E} {RR : Room} (hM : kCv l9 y wsY rm mc ms dd (.ref (ad κ) :: As) (ks, ad, E) (kQv P ks2 ad2 E2)) (hl0 : kL g = l9) (cw : kCI g own index y bytes maxL wsY rm mc ms n) (hst0 : st0 = As.reverse ++ .ref (ad κ) :: st) (hn : As.length = n) (hw : (st.map fun v => v.category).sum ≤ 8) (hRR : kR g = RR) (hrm : a + mc ≤ RR.cells ∧ b + ms ≤ RR.slots) (d : decode cc pc = .ok (.invokespecial index, 3)) (k : ∀ (z : S), P z → kv dd g (a + mc) (b + ms) (pc + 3) lv (st) (ks2 z) (ad2 z) (E2 z)) : kv dd g a b pc lv st0 ks ad E := by
  obtain ⟨p, l, e, R, s, m, args, below, meth, c, Q, A, nL⟩ := g
  obtain ⟨hx0, hb, hown, hts, hK, hA, hml, hZ, hst⟩ := C
  intro H locs ls hP hD hS hl
  subst hRR
  subst hst0
  subst hl0
  have hF := kA_in (u := (ks, ad, E)) hD hS hA
  refine va_callv (va_runI (As := As) (rest := st) ⟨hx0, hb, hml, hown, hts⟩ (hM hst H.size) cw ⟨kPre_blind, fun U hU hW => ⟨rfl, by rw [hU], by rw [hU]; exact hP, va_K.moved hW.alike hK, hD.weaken (fun _ _ _ _ => trivial), by rw [hU]; exact (kSt_in hZ hS hF).warm hW⟩⟩ rfl hn hl.1 rfl (lv_room hw) d hrm) hS (fun q _ h => hF q h) hF (fun u t H1 locs1 ht hvm hp hB hz1 hk1 hS1 => ?_)
  obtain ⟨z, hp, rfl⟩ := hp
  obtain ⟨hP1, hK1, hD1⟩ := hB
  rw [ht] at hP1
  exact k z hp H1 locs1 ls hP1 (hD1.weaken (fun _ _ _ h => hF _ h)) hS1 hl
theorem kv_callvIN {dd : kDD} {g : kG} {cc : ByteArray} {own : String} {Ts : List Cond} {a b pc : Nat} {lv : List (Nat × Value)} (st : List Value) {ks : List Nat} {ad : Nat → Nat} {E : Nat → va_E} (C : kX dd g cc own Ts) {S : Type} {l9 : Launch} {host : String} {index maxL mc ms n κ : Nat} {y : MethodName} {bytes : ByteArray} {wsY : List Cond} {rm : Room} {As st0 : List Value} {P : S → Prop} {ks2 : S → List Nat} {ad2 : S → Nat → Nat} {E2 : S → Nat → va_E} {RR : Room} (hM : kCv l9 y wsY rm mc ms dd (.ref (ad κ) :: As) (ks, ad, E) (kQv P ks2 ad2 E2)) (hl0 : kL g = l9) (cw : kCIN g own index y host bytes maxL wsY rm mc ms n) (hst0 : st0 = As.reverse ++ .ref (ad κ) :: st) (hn : As.length = n) (hw : (st.map fun v => v.category).sum ≤ 8) (hRR : kR g = RR) (hrm : a + mc ≤ RR.cells ∧ b + ms ≤ RR.slots) (d : decode cc pc = .ok (.invokespecial index, 3)) (k : ∀ (z : S), P z → kv dd g (a + mc) (b + ms) (pc + 3) lv (st) (ks2 z) (ad2 z) (E2 z)) : kv dd g a b pc lv st0 ks ad E := by
  obtain ⟨p, l, e, R, s, m, args, below, meth, c, Q, A, nL⟩ := g
  obtain ⟨hx0, hb, hown, hts, hK, hA, hml, hZ, hst⟩ := C
  intro H locs ls hP hD hS hl
  subst hRR
  subst hst0
  subst hl0
  have hF := kA_in (u := (ks, ad, E)) hD hS hA
  refine va_callv (va_runIN (As := As) (rest := st) ⟨hx0, hb, hml, hown, hts⟩ (hM hst H.size) cw ⟨kPre_blind, fun U hU hW => ⟨rfl, by rw [hU], by rw [hU]; exact hP, va_K.moved hW.alike hK, hD.weaken (fun _ _ _ _ => trivial), by rw [hU]; exact (kSt_in hZ hS hF).warm hW⟩⟩ rfl hn hl.1 rfl (lv_room hw) d hrm) hS (fun q _ h => hF q h) hF (fun u t H1 locs1 ht hvm hp hB hz1 hk1 hS1 => ?_)
  obtain ⟨z, hp, rfl⟩ := hp
  obtain ⟨hP1, hK1, hD1⟩ := hB
  rw [ht] at hP1
  exact k z hp H1 locs1 ls hP1 (hD1.weaken (fun _ _ _ h => hF _ h)) hS1 hl
theorem kv_calliSN {dd : kDD} {g : kG} {cc : ByteArray} {own : String} {Ts : List Cond} {a b pc : Nat} {lv : List (Nat × Value)} (st : List Value) {ks : List Nat} {ad : Nat → Nat} {E : Nat → va_E} (C : kX dd g cc own Ts) {S : Type} {l9 : Launch} {host : String} {index maxL mc ms n : Nat} {y : MethodName} {bytes : ByteArray} {ret : Option FieldType} {wsY : List Cond} {rm : Room} {As st0 : List Value} {P : Int32 → S → Prop} {ks2 : S → List Nat} {ad2 : S → Nat → Nat} {E2 : S → Nat → va_E} {RR : Room} (hM : kCi l9 y wsY rm mc ms dd As (ks, ad, E) (kQi P ks2 ad2 E2)) (hl0 : kL g = l9) (cw : kCSN g own index y host bytes maxL ret wsY rm mc ms n) (hst0 : st0 = As.reverse ++ st) (hn : As.length = n) (hw : (st.map fun v => v.category).sum ≤ 8) (hRR : kR g = RR) (hrm : a + mc ≤ RR.cells ∧ b + ms ≤ RR.slots) (d : decode cc pc = .ok (.invokestatic index, 3)) (k : ∀ (r : Int32) (z : S), P r z → kv dd g (a + mc) (b + ms) (pc + 3) lv (.int r :: st) (ks2 z) (ad2 z) (E2 z)) : kv dd g a b pc lv st0 ks ad E := by
  obtain ⟨p, l, e, R, s, m, args, below, meth, c, Q, A, nL⟩ := g
  obtain ⟨hx0, hb, hown, hts, hK, hA, hml, hZ, hst⟩ := C
  intro H locs ls hP hD hS hl
  subst hRR
  subst hst0
  subst hl0
  have hF := kA_in (u := (ks, ad, E)) hD hS hA
  refine va_calli (va_runSN (As := As) (rest := st) ⟨hx0, hb, hml, hown, hts⟩ (hM hst H.size) cw ⟨kPre_blind, fun U hU hW => ⟨rfl, by rw [hU], by rw [hU]; exact hP, va_K.moved hW.alike hK, hD.weaken (fun _ _ _ _ => trivial), by rw [hU]; exact (kSt_in hZ hS hF).warm hW⟩⟩ rfl hn hl.1 rfl (lv_room hw) d hrm) hS (fun q _ h => hF q h) hF (fun r u t H1 locs1 ht hvm hp hB hz1 hk1 hS1 => ?_)
  obtain ⟨z, hp, rfl⟩ := hp
  obtain ⟨hP1, hK1, hD1⟩ := hB
  rw [ht] at hP1
  exact k r z hp H1 locs1 ls hP1 (hD1.weaken (fun _ _ _ h => hF _ h)) hS1 hl
theorem kv_calliXV {dd : kDD} {g : kG} {cc : ByteArray} {own : String} {Ts : List Cond} {a b pc : Nat} {lv : List (Nat × Value)} (st : List Value) {ks : List Nat} {ad : Nat → Nat} {E : Nat → va_E} (C : kX dd g cc own Ts) {S : Type} {l9 : Launch} {Cn : String} {index maxL mc ms n κ ci : Nat} {y : MethodName} {bytes : ByteArray} {ret : Option FieldType} {wsY : List Cond} {rm : Room} {As st0 : List Value} {fs : List Value} {P : Int32 → S → Prop} {ks2 : S → List Nat} {ad2 : S → Nat → Nat} {E2 : S → Nat → va_E} {r1 : u_T × Nat} {RR : Room} {xp0 xp : String → kT → Prop} {MC MS : Nat} (hM : kCiX l9 y wsY rm mc ms dd (.ref (ad κ) :: As) (ks, ad, E) (kQi P ks2 ad2 E2) xp0) (hl0 : kL g = l9) (cw : kCV g own Cn index y bytes maxL ret wsY rm mc ms n) (hκ : κ ∈ ks) (hE : E κ = .inr (ci, fs)) (hci : vwCl[ci]? = some (Cn, r1.1, r1.2)) (hRX : kRX dd g xp MC MS) (hxc : a + mc ≤ MC ∧ b + ms ≤ MS) (hx : ∀ E2 u, xp0 E2 u → xp E2 u) (hst0 : st0 = As.reverse ++ .ref (ad κ) :: st) (hn : As.length = n) (hw : (st.map fun v => v.category).sum ≤ 8) (hRR : kR g = RR) (hrm : a + mc ≤ RR.cells ∧ b + ms ≤ RR.slots) (d : decode cc pc = .ok (.invokevirtual index, 3)) (k : ∀ (r : Int32) (z : S), P r z → kv dd g (a + mc) (b + ms) (pc + 3) lv (.int r :: st) (ks2 z) (ad2 z) (E2 z)) : kv dd g a b pc lv st0 ks ad E := by
  obtain ⟨p, l, e, R, s, m, args, below, meth, c, Q, A, nL⟩ := g
  obtain ⟨hx0, hb, hown, hts, hK, hA, hml, hZ, hst⟩ := C
  intro H locs ls hP hD hS hl
  obtain ⟨i, hi⟩ := kw_get (ad := ad) (E := E) hκ
  rw [hE] at hi
  subst hRR
  subst hst0
  subst hl0
  have hF := kA_in (u := (ks, ad, E)) hD hS hA
  obtain ⟨Qc, r1x, r2x, r3x, r4x⟩ := hRX
  refine vx_calli (vx_runV (As := As) (rest := st) ⟨hx0, hb, hml, hown, hts⟩ (hM hst H.size) cw ⟨kPre_blind, va_recv hK hP (ci := ci) (q0 := i) hci hi, fun U hU hW => ⟨rfl, by rw [hU], by rw [hU]; exact hP, va_K.moved hW.alike hK, hD.weaken (fun _ _ _ _ => trivial), by rw [hU]; exact (kSt_in hZ hS hF).warm hW⟩⟩ rfl hn hl.1 rfl (lv_room hw) d hrm) hS (fun q _ h => hF q h) hF (fun q _ h => hF q h) (fun E3 ce q9 u t H1 locs1 ht hvm hpx hBX hz1 hk1 hS1 hce hcv hcl => ?_) (fun r u t H1 locs1 ht hvm hp hB hz1 hk1 hS1 => ?_)
  · obtain ⟨⟨hxp, hP1, hK1, hD1⟩, -⟩ := (⟨hBX, trivial⟩ : _ ∧ True)
    rw [ht] at hP1
    exact r2x H1 locs1 _ _ _ _ (vx_outP hown r3x (fun z hz => (r4x z hz).elim) hce hcv hcl (fun t2 ht2 hvm2 => ⟨u, trivial, ⟨hx E3 u hxp, by rw [ht2]; exact hP1, va_K.moved hvm2 hK, hD1.weaken (fun _ _ _ h => hF _ h)⟩, hS1.F ht2⟩) hS1.2.2 hxc.1 hxc.2)
  · obtain ⟨z, hp, rfl⟩ := hp
    obtain ⟨hP1, hK1, hD1⟩ := hB
    rw [ht] at hP1
    exact k r z hp H1 locs1 ls hP1 (hD1.weaken (fun _ _ _ h => hF _ h)) hS1 hl
theorem kv_calliXS {dd : kDD} {g : kG} {cc : ByteArray} {own : String} {Ts : List Cond} {a b pc : Nat} {lv : List (Nat × Value)} (st : List Value) {ks : List Nat} {ad : Nat → Nat} {E : Nat → va_E} (C : kX dd g cc own Ts) {S : Type} {l9 : Launch} {index maxL mc ms n : Nat} {y : MethodName} {bytes : ByteArray} {ret : Option FieldType} {wsY : List Cond} {rm : Room} {As st0 : List Value} {P : Int32 → S → Prop} {ks2 : S → List Nat} {ad2 : S → Nat → Nat} {E2 : S → Nat → va_E} {RR : Room} {xp0 xp : String → kT → Prop} {MC MS : Nat} (hM : kCiX l9 y wsY rm mc ms dd As (ks, ad, E) (kQi P ks2 ad2 E2) xp0) (hl0 : kL g = l9) (cw : kCS g own index y bytes maxL ret wsY rm mc ms n) (hRX : kRX dd g xp MC MS) (hxc : a + mc ≤ MC ∧ b + ms ≤ MS) (hx : ∀ E2 u, xp0 E2 u → xp E2 u) (hst0 : st0 = As.reverse ++ st) (hn : As.length = n) (hw : (st.map fun v => v.category).sum ≤ 8) (hRR : kR g = RR) (hrm : a + mc ≤ RR.cells ∧ b + ms ≤ RR.slots) (d : decode cc pc = .ok (.invokestatic index, 3)) (k : ∀ (r : Int32) (z : S), P r z → kv dd g (a + mc) (b + ms) (pc + 3) lv (.int r :: st) (ks2 z) (ad2 z) (E2 z)) : kv dd g a b pc lv st0 ks ad E := by
  obtain ⟨p, l, e, R, s, m, args, below, meth, c, Q, A, nL⟩ := g
  obtain ⟨hx0, hb, hown, hts, hK, hA, hml, hZ, hst⟩ := C
  intro H locs ls hP hD hS hl
  subst hRR
  subst hst0
  subst hl0
  have hF := kA_in (u := (ks, ad, E)) hD hS hA
  obtain ⟨Qc, r1x, r2x, r3x, r4x⟩ := hRX
  refine vx_calli (vx_runS (As := As) (rest := st) ⟨hx0, hb, hml, hown, hts⟩ (hM hst H.size) cw ⟨kPre_blind, fun U hU hW => ⟨rfl, by rw [hU], by rw [hU]; exact hP, va_K.moved hW.alike hK, hD.weaken (fun _ _ _ _ => trivial), by rw [hU]; exact (kSt_in hZ hS hF).warm hW⟩⟩ rfl hn hl.1 rfl (lv_room hw) d hrm) hS (fun q _ h => hF q h) hF (fun q _ h => hF q h) (fun E3 ce q9 u t H1 locs1 ht hvm hpx hBX hz1 hk1 hS1 hce hcv hcl => ?_) (fun r u t H1 locs1 ht hvm hp hB hz1 hk1 hS1 => ?_)
  · obtain ⟨⟨hxp, hP1, hK1, hD1⟩, -⟩ := (⟨hBX, trivial⟩ : _ ∧ True)
    rw [ht] at hP1
    exact r2x H1 locs1 _ _ _ _ (vx_outP hown r3x (fun z hz => (r4x z hz).elim) hce hcv hcl (fun t2 ht2 hvm2 => ⟨u, trivial, ⟨hx E3 u hxp, by rw [ht2]; exact hP1, va_K.moved hvm2 hK, hD1.weaken (fun _ _ _ h => hF _ h)⟩, hS1.F ht2⟩) hS1.2.2 hxc.1 hxc.2)
  · obtain ⟨z, hp, rfl⟩ := hp
    obtain ⟨hP1, hK1, hD1⟩ := hB
    rw [ht] at hP1
    exact k r z hp H1 locs1 ls hP1 (hD1.weaken (fun _ _ _ h => hF _ h)) hS1 hl
theorem kv_calllXV {dd : kDD} {g : kG} {cc : ByteArray} {own : String} {Ts : List Cond} {a b pc : Nat} {lv : List (Nat × Value)} (st : List Value) {ks : List Nat} {ad : Nat → Nat} {E : Nat → va_E} (C : kX dd g cc own Ts) {S : Type} {l9 : Launch} {Cn : String} {index maxL mc ms n κ ci : Nat} {y : MethodName} {bytes : ByteArray} {ret : Option FieldType} {wsY : List Cond} {rm : Room} {As st0 : List Value} {fs : List Value} {P : Int64 → S → Prop} {ks2 : S → List Nat} {ad2 : S → Nat → Nat} {E2 : S → Nat → va_E} {r1 : u_T × Nat} {RR : Room} {xp0 xp : String → kT → Prop} {MC MS : Nat} (hM : kClX l9 y wsY rm mc ms dd (.ref (ad κ) :: As) (ks, ad, E) (kQl P ks2 ad2 E2) xp0) (hl0 : kL g = l9) (cw : kCV g own Cn index y bytes maxL ret wsY rm mc ms n) (hκ : κ ∈ ks) (hE : E κ = .inr (ci, fs)) (hci : vwCl[ci]? = some (Cn, r1.1, r1.2)) (hRX : kRX dd g xp MC MS) (hxc : a + mc ≤ MC ∧ b + ms ≤ MS) (hx : ∀ E2 u, xp0 E2 u → xp E2 u) (hst0 : st0 = As.reverse ++ .ref (ad κ) :: st) (hn : As.length = n) (hw : (st.map fun v => v.category).sum ≤ 8) (hRR : kR g = RR) (hrm : a + mc ≤ RR.cells ∧ b + ms ≤ RR.slots) (d : decode cc pc = .ok (.invokevirtual index, 3)) (k : ∀ (r : Int64) (z : S), P r z → kv dd g (a + mc) (b + ms) (pc + 3) lv (.long r :: st) (ks2 z) (ad2 z) (E2 z)) : kv dd g a b pc lv st0 ks ad E := by
  obtain ⟨p, l, e, R, s, m, args, below, meth, c, Q, A, nL⟩ := g
  obtain ⟨hx0, hb, hown, hts, hK, hA, hml, hZ, hst⟩ := C
  intro H locs ls hP hD hS hl
  obtain ⟨i, hi⟩ := kw_get (ad := ad) (E := E) hκ
  rw [hE] at hi
  subst hRR
  subst hst0
  subst hl0
  have hF := kA_in (u := (ks, ad, E)) hD hS hA
  obtain ⟨Qc, r1x, r2x, r3x, r4x⟩ := hRX
  refine vx_calll (vx_runV (As := As) (rest := st) ⟨hx0, hb, hml, hown, hts⟩ (hM hst H.size) cw ⟨kPre_blind, va_recv hK hP (ci := ci) (q0 := i) hci hi, fun U hU hW => ⟨rfl, by rw [hU], by rw [hU]; exact hP, va_K.moved hW.alike hK, hD.weaken (fun _ _ _ _ => trivial), by rw [hU]; exact (kSt_in hZ hS hF).warm hW⟩⟩ rfl hn hl.1 rfl (lv_room hw) d hrm) hS (fun q _ h => hF q h) hF (fun q _ h => hF q h) (fun E3 ce q9 u t H1 locs1 ht hvm hpx hBX hz1 hk1 hS1 hce hcv hcl => ?_) (fun r u t H1 locs1 ht hvm hp hB hz1 hk1 hS1 => ?_)
  · obtain ⟨⟨hxp, hP1, hK1, hD1⟩, -⟩ := (⟨hBX, trivial⟩ : _ ∧ True)
    rw [ht] at hP1
    exact r2x H1 locs1 _ _ _ _ (vx_outP hown r3x (fun z hz => (r4x z hz).elim) hce hcv hcl (fun t2 ht2 hvm2 => ⟨u, trivial, ⟨hx E3 u hxp, by rw [ht2]; exact hP1, va_K.moved hvm2 hK, hD1.weaken (fun _ _ _ h => hF _ h)⟩, hS1.F ht2⟩) hS1.2.2 hxc.1 hxc.2)
  · obtain ⟨z, hp, rfl⟩ := hp
    obtain ⟨hP1, hK1, hD1⟩ := hB
    rw [ht] at hP1
    exact k r z hp H1 locs1 ls hP1 (hD1.weaken (fun _ _ _ h => hF _ h)) hS1 hl
theorem kv_calllXS {dd : kDD} {g : kG} {cc : ByteArray} {own : String} {Ts : List Cond} {a b pc : Nat} {lv : List (Nat × Value)} (st : List Value) {ks : List Nat} {ad : Nat → Nat} {E : Nat → va_E} (C : kX dd g cc own Ts) {S : Type} {l9 : Launch} {index maxL mc ms n : Nat} {y : MethodName} {bytes : ByteArray} {ret : Option FieldType} {wsY : List Cond} {rm : Room} {As st0 : List Value} {P : Int64 → S → Prop} {ks2 : S → List Nat} {ad2 : S → Nat → Nat} {E2 : S → Nat → va_E} {RR : Room} {xp0 xp : String → kT → Prop} {MC MS : Nat} (hM : kClX l9 y wsY rm mc ms dd As (ks, ad, E) (kQl P ks2 ad2 E2) xp0) (hl0 : kL g = l9) (cw : kCS g own index y bytes maxL ret wsY rm mc ms n) (hRX : kRX dd g xp MC MS) (hxc : a + mc ≤ MC ∧ b + ms ≤ MS) (hx : ∀ E2 u, xp0 E2 u → xp E2 u) (hst0 : st0 = As.reverse ++ st) (hn : As.length = n) (hw : (st.map fun v => v.category).sum ≤ 8) (hRR : kR g = RR) (hrm : a + mc ≤ RR.cells ∧ b + ms ≤ RR.slots) (d : decode cc pc = .ok (.invokestatic index, 3)) (k : ∀ (r : Int64) (z : S), P r z → kv dd g (a + mc) (b + ms) (pc + 3) lv (.long r :: st) (ks2 z) (ad2 z) (E2 z)) : kv dd g a b pc lv st0 ks ad E := by
  obtain ⟨p, l, e, R, s, m, args, below, meth, c, Q, A, nL⟩ := g
  obtain ⟨hx0, hb, hown, hts, hK, hA, hml, hZ, hst⟩ := C
  intro H locs ls hP hD hS hl
  subst hRR
  subst hst0
  subst hl0
  have hF := kA_in (u := (ks, ad, E)) hD hS hA
  obtain ⟨Qc, r1x, r2x, r3x, r4x⟩ := hRX
  refine vx_calll (vx_runS (As := As) (rest := st) ⟨hx0, hb, hml, hown, hts⟩ (hM hst H.size) cw ⟨kPre_blind, fun U hU hW => ⟨rfl, by rw [hU], by rw [hU]; exact hP, va_K.moved hW.alike hK, hD.weaken (fun _ _ _ _ => trivial), by rw [hU]; exact (kSt_in hZ hS hF).warm hW⟩⟩ rfl hn hl.1 rfl (lv_room hw) d hrm) hS (fun q _ h => hF q h) hF (fun q _ h => hF q h) (fun E3 ce q9 u t H1 locs1 ht hvm hpx hBX hz1 hk1 hS1 hce hcv hcl => ?_) (fun r u t H1 locs1 ht hvm hp hB hz1 hk1 hS1 => ?_)
  · obtain ⟨⟨hxp, hP1, hK1, hD1⟩, -⟩ := (⟨hBX, trivial⟩ : _ ∧ True)
    rw [ht] at hP1
    exact r2x H1 locs1 _ _ _ _ (vx_outP hown r3x (fun z hz => (r4x z hz).elim) hce hcv hcl (fun t2 ht2 hvm2 => ⟨u, trivial, ⟨hx E3 u hxp, by rw [ht2]; exact hP1, va_K.moved hvm2 hK, hD1.weaken (fun _ _ _ h => hF _ h)⟩, hS1.F ht2⟩) hS1.2.2 hxc.1 hxc.2)
  · obtain ⟨z, hp, rfl⟩ := hp
    obtain ⟨hP1, hK1, hD1⟩ := hB
    rw [ht] at hP1
    exact k r z hp H1 locs1 ls hP1 (hD1.weaken (fun _ _ _ h => hF _ h)) hS1 hl
theorem kv_callfXV {dd : kDD} {g : kG} {cc : ByteArray} {own : String} {Ts : List Cond} {a b pc : Nat} {lv : List (Nat × Value)} (st : List Value) {ks : List Nat} {ad : Nat → Nat} {E : Nat → va_E} (C : kX dd g cc own Ts) {S : Type} {l9 : Launch} {Cn : String} {index maxL mc ms n κ ci : Nat} {y : MethodName} {bytes : ByteArray} {ret : Option FieldType} {wsY : List Cond} {rm : Room} {As st0 : List Value} {fs : List Value} {P : UInt32 → S → Prop} {ks2 : S → List Nat} {ad2 : S → Nat → Nat} {E2 : S → Nat → va_E} {r1 : u_T × Nat} {RR : Room} {xp0 xp : String → kT → Prop} {MC MS : Nat} (hM : kCfX l9 y wsY rm mc ms dd (.ref (ad κ) :: As) (ks, ad, E) (kQf P ks2 ad2 E2) xp0) (hl0 : kL g = l9) (cw : kCV g own Cn index y bytes maxL ret wsY rm mc ms n) (hκ : κ ∈ ks) (hE : E κ = .inr (ci, fs)) (hci : vwCl[ci]? = some (Cn, r1.1, r1.2)) (hRX : kRX dd g xp MC MS) (hxc : a + mc ≤ MC ∧ b + ms ≤ MS) (hx : ∀ E2 u, xp0 E2 u → xp E2 u) (hst0 : st0 = As.reverse ++ .ref (ad κ) :: st) (hn : As.length = n) (hw : (st.map fun v => v.category).sum ≤ 8) (hRR : kR g = RR) (hrm : a + mc ≤ RR.cells ∧ b + ms ≤ RR.slots) (d : decode cc pc = .ok (.invokevirtual index, 3)) (k : ∀ (r : UInt32) (z : S), P r z → kv dd g (a + mc) (b + ms) (pc + 3) lv (.float r :: st) (ks2 z) (ad2 z) (E2 z)) : kv dd g a b pc lv st0 ks ad E := by
  obtain ⟨p, l, e, R, s, m, args, below, meth, c, Q, A, nL⟩ := g
  obtain ⟨hx0, hb, hown, hts, hK, hA, hml, hZ, hst⟩ := C
  intro H locs ls hP hD hS hl
  obtain ⟨i, hi⟩ := kw_get (ad := ad) (E := E) hκ
  rw [hE] at hi
  subst hRR
  subst hst0
  subst hl0
  have hF := kA_in (u := (ks, ad, E)) hD hS hA
  obtain ⟨Qc, r1x, r2x, r3x, r4x⟩ := hRX
  refine vx_callf (vx_runV (As := As) (rest := st) ⟨hx0, hb, hml, hown, hts⟩ (hM hst H.size) cw ⟨kPre_blind, va_recv hK hP (ci := ci) (q0 := i) hci hi, fun U hU hW => ⟨rfl, by rw [hU], by rw [hU]; exact hP, va_K.moved hW.alike hK, hD.weaken (fun _ _ _ _ => trivial), by rw [hU]; exact (kSt_in hZ hS hF).warm hW⟩⟩ rfl hn hl.1 rfl (lv_room hw) d hrm) hS (fun q _ h => hF q h) hF (fun q _ h => hF q h) (fun E3 ce q9 u t H1 locs1 ht hvm hpx hBX hz1 hk1 hS1 hce hcv hcl => ?_) (fun r u t H1 locs1 ht hvm hp hB hz1 hk1 hS1 => ?_)
  · obtain ⟨⟨hxp, hP1, hK1, hD1⟩, -⟩ := (⟨hBX, trivial⟩ : _ ∧ True)
    rw [ht] at hP1
    exact r2x H1 locs1 _ _ _ _ (vx_outP hown r3x (fun z hz => (r4x z hz).elim) hce hcv hcl (fun t2 ht2 hvm2 => ⟨u, trivial, ⟨hx E3 u hxp, by rw [ht2]; exact hP1, va_K.moved hvm2 hK, hD1.weaken (fun _ _ _ h => hF _ h)⟩, hS1.F ht2⟩) hS1.2.2 hxc.1 hxc.2)
  · obtain ⟨z, hp, rfl⟩ := hp
    obtain ⟨hP1, hK1, hD1⟩ := hB
    rw [ht] at hP1
    exact k r z hp H1 locs1 ls hP1 (hD1.weaken (fun _ _ _ h => hF _ h)) hS1 hl
theorem kv_callfXS {dd : kDD} {g : kG} {cc : ByteArray} {own : String} {Ts : List Cond} {a b pc : Nat} {lv : List (Nat × Value)} (st : List Value) {ks : List Nat} {ad : Nat → Nat} {E : Nat → va_E} (C : kX dd g cc own Ts) {S : Type} {l9 : Launch} {index maxL mc ms n : Nat} {y : MethodName} {bytes : ByteArray} {ret : Option FieldType} {wsY : List Cond} {rm : Room} {As st0 : List Value} {P : UInt32 → S → Prop} {ks2 : S → List Nat} {ad2 : S → Nat → Nat} {E2 : S → Nat → va_E} {RR : Room} {xp0 xp : String → kT → Prop} {MC MS : Nat} (hM : kCfX l9 y wsY rm mc ms dd As (ks, ad, E) (kQf P ks2 ad2 E2) xp0) (hl0 : kL g = l9) (cw : kCS g own index y bytes maxL ret wsY rm mc ms n) (hRX : kRX dd g xp MC MS) (hxc : a + mc ≤ MC ∧ b + ms ≤ MS) (hx : ∀ E2 u, xp0 E2 u → xp E2 u) (hst0 : st0 = As.reverse ++ st) (hn : As.length = n) (hw : (st.map fun v => v.category).sum ≤ 8) (hRR : kR g = RR) (hrm : a + mc ≤ RR.cells ∧ b + ms ≤ RR.slots) (d : decode cc pc = .ok (.invokestatic index, 3)) (k : ∀ (r : UInt32) (z : S), P r z → kv dd g (a + mc) (b + ms) (pc + 3) lv (.float r :: st) (ks2 z) (ad2 z) (E2 z)) : kv dd g a b pc lv st0 ks ad E := by
  obtain ⟨p, l, e, R, s, m, args, below, meth, c, Q, A, nL⟩ := g
  obtain ⟨hx0, hb, hown, hts, hK, hA, hml, hZ, hst⟩ := C
  intro H locs ls hP hD hS hl
  subst hRR
  subst hst0
  subst hl0
  have hF := kA_in (u := (ks, ad, E)) hD hS hA
  obtain ⟨Qc, r1x, r2x, r3x, r4x⟩ := hRX
  refine vx_callf (vx_runS (As := As) (rest := st) ⟨hx0, hb, hml, hown, hts⟩ (hM hst H.size) cw ⟨kPre_blind, fun U hU hW => ⟨rfl, by rw [hU], by rw [hU]; exact hP, va_K.moved hW.alike hK, hD.weaken (fun _ _ _ _ => trivial), by rw [hU]; exact (kSt_in hZ hS hF).warm hW⟩⟩ rfl hn hl.1 rfl (lv_room hw) d hrm) hS (fun q _ h => hF q h) hF (fun q _ h => hF q h) (fun E3 ce q9 u t H1 locs1 ht hvm hpx hBX hz1 hk1 hS1 hce hcv hcl => ?_) (fun r u t H1 locs1 ht hvm hp hB hz1 hk1 hS1 => ?_)
  · obtain ⟨⟨hxp, hP1, hK1, hD1⟩, -⟩ := (⟨hBX, trivial⟩ : _ ∧ True)
    rw [ht] at hP1
    exact r2x H1 locs1 _ _ _ _ (vx_outP hown r3x (fun z hz => (r4x z hz).elim) hce hcv hcl (fun t2 ht2 hvm2 => ⟨u, trivial, ⟨hx E3 u hxp, by rw [ht2]; exact hP1, va_K.moved hvm2 hK, hD1.weaken (fun _ _ _ h => hF _ h)⟩, hS1.F ht2⟩) hS1.2.2 hxc.1 hxc.2)
  · obtain ⟨z, hp, rfl⟩ := hp
    obtain ⟨hP1, hK1, hD1⟩ := hB
    rw [ht] at hP1
    exact k r z hp H1 locs1 ls hP1 (hD1.weaken (fun _ _ _ h => hF _ h)) hS1 hl
theorem kv_calldXV {dd : kDD} {g : kG} {cc : ByteArray} {own : String} {Ts : List Cond} {a b pc : Nat} {lv : List (Nat × Value)} (st : List Value) {ks : List Nat} {ad : Nat → Nat} {E : Nat → va_E} (C : kX dd g cc own Ts) {S : Type} {l9 : Launch} {Cn : String} {index maxL mc ms n κ ci : Nat} {y : MethodName} {bytes : ByteArray} {ret : Option FieldType} {wsY : List Cond} {rm : Room} {As st0 : List Value} {fs : List Value} {P : UInt64 → S → Prop} {ks2 : S → List Nat} {ad2 : S → Nat → Nat} {E2 : S → Nat → va_E} {r1 : u_T × Nat} {RR : Room} {xp0 xp : String → kT → Prop} {MC MS : Nat} (hM : kCdX l9 y wsY rm mc ms dd (.ref (ad κ) :: As) (ks, ad, E) (kQd P ks2 ad2 E2) xp0) (hl0 : kL g = l9) (cw : kCV g own Cn index y bytes maxL ret wsY rm mc ms n) (hκ : κ ∈ ks) (hE : E κ = .inr (ci, fs)) (hci : vwCl[ci]? = some (Cn, r1.1, r1.2)) (hRX : kRX dd g xp MC MS) (hxc : a + mc ≤ MC ∧ b + ms ≤ MS) (hx : ∀ E2 u, xp0 E2 u → xp E2 u) (hst0 : st0 = As.reverse ++ .ref (ad κ) :: st) (hn : As.length = n) (hw : (st.map fun v => v.category).sum ≤ 8) (hRR : kR g = RR) (hrm : a + mc ≤ RR.cells ∧ b + ms ≤ RR.slots) (d : decode cc pc = .ok (.invokevirtual index, 3)) (k : ∀ (r : UInt64) (z : S), P r z → kv dd g (a + mc) (b + ms) (pc + 3) lv (.double r :: st) (ks2 z) (ad2 z) (E2 z)) : kv dd g a b pc lv st0 ks ad E := by
  obtain ⟨p, l, e, R, s, m, args, below, meth, c, Q, A, nL⟩ := g
  obtain ⟨hx0, hb, hown, hts, hK, hA, hml, hZ, hst⟩ := C
  intro H locs ls hP hD hS hl
  obtain ⟨i, hi⟩ := kw_get (ad := ad) (E := E) hκ
  rw [hE] at hi
  subst hRR
  subst hst0
  subst hl0
  have hF := kA_in (u := (ks, ad, E)) hD hS hA
  obtain ⟨Qc, r1x, r2x, r3x, r4x⟩ := hRX
  refine vx_calld (vx_runV (As := As) (rest := st) ⟨hx0, hb, hml, hown, hts⟩ (hM hst H.size) cw ⟨kPre_blind, va_recv hK hP (ci := ci) (q0 := i) hci hi, fun U hU hW => ⟨rfl, by rw [hU], by rw [hU]; exact hP, va_K.moved hW.alike hK, hD.weaken (fun _ _ _ _ => trivial), by rw [hU]; exact (kSt_in hZ hS hF).warm hW⟩⟩ rfl hn hl.1 rfl (lv_room hw) d hrm) hS (fun q _ h => hF q h) hF (fun q _ h => hF q h) (fun E3 ce q9 u t H1 locs1 ht hvm hpx hBX hz1 hk1 hS1 hce hcv hcl => ?_) (fun r u t H1 locs1 ht hvm hp hB hz1 hk1 hS1 => ?_)
  · obtain ⟨⟨hxp, hP1, hK1, hD1⟩, -⟩ := (⟨hBX, trivial⟩ : _ ∧ True)
    rw [ht] at hP1
    exact r2x H1 locs1 _ _ _ _ (vx_outP hown r3x (fun z hz => (r4x z hz).elim) hce hcv hcl (fun t2 ht2 hvm2 => ⟨u, trivial, ⟨hx E3 u hxp, by rw [ht2]; exact hP1, va_K.moved hvm2 hK, hD1.weaken (fun _ _ _ h => hF _ h)⟩, hS1.F ht2⟩) hS1.2.2 hxc.1 hxc.2)
  · obtain ⟨z, hp, rfl⟩ := hp
    obtain ⟨hP1, hK1, hD1⟩ := hB
    rw [ht] at hP1
    exact k r z hp H1 locs1 ls hP1 (hD1.weaken (fun _ _ _ h => hF _ h)) hS1 hl
theorem kv_calldXS {dd : kDD} {g : kG} {cc : ByteArray} {own : String} {Ts : List Cond} {a b pc : Nat} {lv : List (Nat × Value)} (st : List Value) {ks : List Nat} {ad : Nat → Nat} {E : Nat → va_E} (C : kX dd g cc own Ts) {S : Type} {l9 : Launch} {index maxL mc ms n : Nat} {y : MethodName} {bytes : ByteArray} {ret : Option FieldType} {wsY : List Cond} {rm : Room} {As st0 : List Value} {P : UInt64 → S → Prop} {ks2 : S → List Nat} {ad2 : S → Nat → Nat} {E2 : S → Nat → va_E} {RR : Room} {xp0 xp : String → kT → Prop} {MC MS : Nat} (hM : kCdX l9 y wsY rm mc ms dd As (ks, ad, E) (kQd P ks2 ad2 E2) xp0) (hl0 : kL g = l9) (cw : kCS g own index y bytes maxL ret wsY rm mc ms n) (hRX : kRX dd g xp MC MS) (hxc : a + mc ≤ MC ∧ b + ms ≤ MS) (hx : ∀ E2 u, xp0 E2 u → xp E2 u) (hst0 : st0 = As.reverse ++ st) (hn : As.length = n) (hw : (st.map fun v => v.category).sum ≤ 8) (hRR : kR g = RR) (hrm : a + mc ≤ RR.cells ∧ b + ms ≤ RR.slots) (d : decode cc pc = .ok (.invokestatic index, 3)) (k : ∀ (r : UInt64) (z : S), P r z → kv dd g (a + mc) (b + ms) (pc + 3) lv (.double r :: st) (ks2 z) (ad2 z) (E2 z)) : kv dd g a b pc lv st0 ks ad E := by
  obtain ⟨p, l, e, R, s, m, args, below, meth, c, Q, A, nL⟩ := g
  obtain ⟨hx0, hb, hown, hts, hK, hA, hml, hZ, hst⟩ := C
  intro H locs ls hP hD hS hl
  subst hRR
  subst hst0
  subst hl0
  have hF := kA_in (u := (ks, ad, E)) hD hS hA
  obtain ⟨Qc, r1x, r2x, r3x, r4x⟩ := hRX
  refine vx_calld (vx_runS (As := As) (rest := st) ⟨hx0, hb, hml, hown, hts⟩ (hM hst H.size) cw ⟨kPre_blind, fun U hU hW => ⟨rfl, by rw [hU], by rw [hU]; exact hP, va_K.moved hW.alike hK, hD.weaken (fun _ _ _ _ => trivial), by rw [hU]; exact (kSt_in hZ hS hF).warm hW⟩⟩ rfl hn hl.1 rfl (lv_room hw) d hrm) hS (fun q _ h => hF q h) hF (fun q _ h => hF q h) (fun E3 ce q9 u t H1 locs1 ht hvm hpx hBX hz1 hk1 hS1 hce hcv hcl => ?_) (fun r u t H1 locs1 ht hvm hp hB hz1 hk1 hS1 => ?_)
  · obtain ⟨⟨hxp, hP1, hK1, hD1⟩, -⟩ := (⟨hBX, trivial⟩ : _ ∧ True)
    rw [ht] at hP1
    exact r2x H1 locs1 _ _ _ _ (vx_outP hown r3x (fun z hz => (r4x z hz).elim) hce hcv hcl (fun t2 ht2 hvm2 => ⟨u, trivial, ⟨hx E3 u hxp, by rw [ht2]; exact hP1, va_K.moved hvm2 hK, hD1.weaken (fun _ _ _ h => hF _ h)⟩, hS1.F ht2⟩) hS1.2.2 hxc.1 hxc.2)
  · obtain ⟨z, hp, rfl⟩ := hp
    obtain ⟨hP1, hK1, hD1⟩ := hB
    rw [ht] at hP1
    exact k r z hp H1 locs1 ls hP1 (hD1.weaken (fun _ _ _ h => hF _ h)) hS1 hl
theorem kv_callvXV {dd : kDD} {g : kG} {cc : ByteArray} {own : String} {Ts : List Cond} {a b pc : Nat} {lv : List (Nat × Value)} (st : List Value) {ks : List Nat} {ad : Nat → Nat} {E : Nat → va_E} (C : kX dd g cc own Ts) {S : Type} {l9 : Launch} {Cn : String} {index maxL mc ms n κ ci : Nat} {y : MethodName} {bytes : ByteArray} {ret : Option FieldType} {wsY : List Cond} {rm : Room} {As st0 : List Value} {fs : List Value} {P : S → Prop} {ks2 : S → List Nat} {ad2 : S → Nat → Nat} {E2 : S → Nat → va_E} {r1 : u_T × Nat} {RR : Room} {xp0 xp : String → kT → Prop} {MC MS : Nat} (hM : kCvX l9 y wsY rm mc ms dd (.ref (ad κ) :: As) (ks, ad, E) (kQv P ks2 ad2 E2) xp0) (hl0 : kL g = l9) (cw : kCV g own Cn index y bytes maxL ret wsY rm mc ms n) (hκ : κ ∈ ks) (hE : E κ = .inr (ci, fs)) (hci : vwCl[ci]? = some (Cn, r1.1, r1.2)) (hRX : kRX dd g xp MC MS) (hxc : a + mc ≤ MC ∧ b + ms ≤ MS) (hx : ∀ E2 u, xp0 E2 u → xp E2 u) (hst0 : st0 = As.reverse ++ .ref (ad κ) :: st) (hn : As.length = n) (hw : (st.map fun v => v.category).sum ≤ 8) (hRR : kR g = RR) (hrm : a + mc ≤ RR.cells ∧ b + ms ≤ RR.slots) (d : decode cc pc = .ok (.invokevirtual index, 3)) (k : ∀ (z : S), P z → kv dd g (a + mc) (b + ms) (pc + 3) lv (st) (ks2 z) (ad2 z) (E2 z)) : kv dd g a b pc lv st0 ks ad E := by
  obtain ⟨p, l, e, R, s, m, args, below, meth, c, Q, A, nL⟩ := g
  obtain ⟨hx0, hb, hown, hts, hK, hA, hml, hZ, hst⟩ := C
  intro H locs ls hP hD hS hl
  obtain ⟨i, hi⟩ := kw_get (ad := ad) (E := E) hκ
  rw [hE] at hi
  subst hRR
  subst hst0
  subst hl0
  have hF := kA_in (u := (ks, ad, E)) hD hS hA
  obtain ⟨Qc, r1x, r2x, r3x, r4x⟩ := hRX
  refine vx_callv (vx_runV (As := As) (rest := st) ⟨hx0, hb, hml, hown, hts⟩ (hM hst H.size) cw ⟨kPre_blind, va_recv hK hP (ci := ci) (q0 := i) hci hi, fun U hU hW => ⟨rfl, by rw [hU], by rw [hU]; exact hP, va_K.moved hW.alike hK, hD.weaken (fun _ _ _ _ => trivial), by rw [hU]; exact (kSt_in hZ hS hF).warm hW⟩⟩ rfl hn hl.1 rfl (lv_room hw) d hrm) hS (fun q _ h => hF q h) hF (fun q _ h => hF q h) (fun E3 ce q9 u t H1 locs1 ht hvm hpx hBX hz1 hk1 hS1 hce hcv hcl => ?_) (fun u t H1 locs1 ht hvm hp hB hz1 hk1 hS1 => ?_)
  · obtain ⟨⟨hxp, hP1, hK1, hD1⟩, -⟩ := (⟨hBX, trivial⟩ : _ ∧ True)
    rw [ht] at hP1
    exact r2x H1 locs1 _ _ _ _ (vx_outP hown r3x (fun z hz => (r4x z hz).elim) hce hcv hcl (fun t2 ht2 hvm2 => ⟨u, trivial, ⟨hx E3 u hxp, by rw [ht2]; exact hP1, va_K.moved hvm2 hK, hD1.weaken (fun _ _ _ h => hF _ h)⟩, hS1.F ht2⟩) hS1.2.2 hxc.1 hxc.2)
  · obtain ⟨z, hp, rfl⟩ := hp
    obtain ⟨hP1, hK1, hD1⟩ := hB
    rw [ht] at hP1
    exact k z hp H1 locs1 ls hP1 (hD1.weaken (fun _ _ _ h => hF _ h)) hS1 hl
theorem kv_callvXS {dd : kDD} {g : kG} {cc : ByteArray} {own : String} {Ts : List Cond} {a b pc : Nat} {lv : List (Nat × Value)} (st : List Value) {ks : List Nat} {ad : Nat → Nat} {E : Nat → va_E} (C : kX dd g cc own Ts) {S : Type} {l9 : Launch} {index maxL mc ms n : Nat} {y : MethodName} {bytes : ByteArray} {ret : Option FieldType} {wsY : List Cond} {rm : Room} {As st0 : List Value} {P : S → Prop} {ks2 : S → List Nat} {ad2 : S → Nat → Nat} {E2 : S → Nat → va_E} {RR : Room} {xp0 xp : String → kT → Prop} {MC MS : Nat} (hM : kCvX l9 y wsY rm mc ms dd As (ks, ad, E) (kQv P ks2 ad2 E2) xp0) (hl0 : kL g = l9) (cw : kCS g own index y bytes maxL ret wsY rm mc ms n) (hRX : kRX dd g xp MC MS) (hxc : a + mc ≤ MC ∧ b + ms ≤ MS) (hx : ∀ E2 u, xp0 E2 u → xp E2 u) (hst0 : st0 = As.reverse ++ st) (hn : As.length = n) (hw : (st.map fun v => v.category).sum ≤ 8) (hRR : kR g = RR) (hrm : a + mc ≤ RR.cells ∧ b + ms ≤ RR.slots) (d : decode cc pc = .ok (.invokestatic index, 3)) (k : ∀ (z : S), P z → kv dd g (a + mc) (b + ms) (pc + 3) lv (st) (ks2 z) (ad2 z) (E2 z)) : kv dd g a b pc lv st0 ks ad E := by
  obtain ⟨p, l, e, R, s, m, args, below, meth, c, Q, A, nL⟩ := g
  obtain ⟨hx0, hb, hown, hts, hK, hA, hml, hZ, hst⟩ := C
  intro H locs ls hP hD hS hl
  subst hRR
  subst hst0
  subst hl0
  have hF := kA_in (u := (ks, ad, E)) hD hS hA
  obtain ⟨Qc, r1x, r2x, r3x, r4x⟩ := hRX
  refine vx_callv (vx_runS (As := As) (rest := st) ⟨hx0, hb, hml, hown, hts⟩ (hM hst H.size) cw ⟨kPre_blind, fun U hU hW => ⟨rfl, by rw [hU], by rw [hU]; exact hP, va_K.moved hW.alike hK, hD.weaken (fun _ _ _ _ => trivial), by rw [hU]; exact (kSt_in hZ hS hF).warm hW⟩⟩ rfl hn hl.1 rfl (lv_room hw) d hrm) hS (fun q _ h => hF q h) hF (fun q _ h => hF q h) (fun E3 ce q9 u t H1 locs1 ht hvm hpx hBX hz1 hk1 hS1 hce hcv hcl => ?_) (fun u t H1 locs1 ht hvm hp hB hz1 hk1 hS1 => ?_)
  · obtain ⟨⟨hxp, hP1, hK1, hD1⟩, -⟩ := (⟨hBX, trivial⟩ : _ ∧ True)
    rw [ht] at hP1
    exact r2x H1 locs1 _ _ _ _ (vx_outP hown r3x (fun z hz => (r4x z hz).elim) hce hcv hcl (fun t2 ht2 hvm2 => ⟨u, trivial, ⟨hx E3 u hxp, by rw [ht2]; exact hP1, va_K.moved hvm2 hK, hD1.weaken (fun _ _ _ h => hF _ h)⟩, hS1.F ht2⟩) hS1.2.2 hxc.1 hxc.2)
  · obtain ⟨z, hp, rfl⟩ := hp
    obtain ⟨hP1, hK1, hD1⟩ := hB
    rw [ht] at hP1
    exact k z hp H1 locs1 ls hP1 (hD1.weaken (fun _ _ _ h => hF _ h)) hS1 hl

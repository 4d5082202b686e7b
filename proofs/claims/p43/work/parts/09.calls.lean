/-! CALLS. A callee's contract over the caller's whole world (kv_call..), or over a part of its keys (kv_sub..). -/
/-- what a call needs of the caller's words and room, a virtual one -/
def kCV (g : kG) (own C : String) (index : Nat) (y : MethodName) (bytes : ByteArray) (maxL : Nat) (ret : Option FieldType) (ws : List Cond) (rm : Room) (mc ms n : Nat) : Prop := match g with
  | (p, l, e, R, s, m, args, below, meth, c, Q, A, nL) => CallW R s args own C index y bytes maxL ret ws rm mc ms n
def kCS (g : kG) (own : String) (index : Nat) (y : MethodName) (bytes : ByteArray) (maxL : Nat) (ret : Option FieldType) (ws : List Cond) (rm : Room) (mc ms n : Nat) : Prop := match g with
  | (p, l, e, R, s, m, args, below, meth, c, Q, A, nL) => CallB R s args own index y bytes maxL ret ws rm mc ms n ∧ (Cond.static y).before args s = true
theorem kCV_of {dd : kDD} {g : kG} {cc : ByteArray} {own C : String} {Ts ws ws' : List Cond} {index maxL mc ms : Nat} {y : MethodName} {bytes : ByteArray} {ret : Option FieldType} {rm : Room} (X : kX dd g cc own Ts) (n : Nat) (hT : GoodIn Ts (wsV own index C y ws)) (hw : ws = Cond.code y bytes maxL ret :: ws') (hrc : rm.cells = mc) (hrs : rm.slots = ms)
    (hd : y.cls = C ∧ y.cls ≠ "java/lang/invoke/MethodHandle" ∧ y.cls ≠ "java/lang/invoke/VarHandle" ∧ (parseMethodDescriptor y.desc).map (fun d => d.parameters.length) = some n) {RR : Room} (hRR : kR g = RR) (hR : rm.frames + 1 ≤ RR.frames ∧ 8 + (maxL + 11) + rm.locals ≤ RR.locals) : kCV g own C index y bytes maxL ret ws rm mc ms n := by
  obtain ⟨p, l, e, R, s, m, args, below, meth, c, Q, A, nL⟩ := g
  obtain ⟨hx, hb, hown, hts, -⟩ := X
  subst hRR
  exact cwV n hts hT hw hrc hrs hd hR
theorem kCS_of {dd : kDD} {g : kG} {cc : ByteArray} {own : String} {Ts ws ws' : List Cond} {index maxL mc ms : Nat} {y : MethodName} {bytes : ByteArray} {ret : Option FieldType} {rm : Room} (X : kX dd g cc own Ts) (n : Nat) (hT : GoodIn Ts (va_wsS own index y ws)) (hw : ws = Cond.code y bytes maxL ret :: ws') (hrc : rm.cells = mc) (hrs : rm.slots = ms)
    (hd : y.cls ≠ "java/lang/invoke/MethodHandle" ∧ y.cls ≠ "java/lang/invoke/VarHandle" ∧ (parseMethodDescriptor y.desc).map (fun d => d.parameters.length) = some n) {RR : Room} (hRR : kR g = RR) (hR : rm.frames + 1 ≤ RR.frames ∧ 8 + (maxL + 11) + rm.locals ≤ RR.locals) : kCS g own index y bytes maxL ret ws rm mc ms n := by
  obtain ⟨p, l, e, R, s, m, args, below, meth, c, Q, A, nL⟩ := g
  obtain ⟨hx, hb, hown, hts, -⟩ := X
  subst hRR
  exact va_cwS n hts hT hw hrc hrs hd hR
/-- the place of the new world: what a callee gives back lies where the caller may write -/
theorem kA_in {A : Nat → Prop} {H0 H : Heap} {locs : List Loc} {u : kT} (hD : va_D A (kw u.1 u.2.1 u.2.2)) (hS : va_S A H0 H locs) (hA : ∀ q, H0.size ≤ q → A q) : ∀ q, kA u H.size q → A q := by
  intro q hq
  rcases hq with ⟨k, e, hk⟩ | hq
  · exact hD.2 k _ hk
  · exact hA q (Nat.le_trans hS.1 hq)
theorem kSt_in {tE : Nat × Nat} {A B : Nat → Prop} {s : State} {H : Heap} {locs : List Loc} (h : kSt tE A s s.heap) (hS : va_S A s.heap H locs) (hB : ∀ q, B q → A q) : kSt tE B s H := (h.kept (fun a h1 h2 => hS.2.1 a h1 h2)).narrow hB
/-- keys of a part of a world: the part's cells are the world's -/
theorem kw_part {D : va_G} {cl : List vw_C} {A : Nat → Prop} {ks ks1 : List Nat} {ad : Nat → Nat} {E : Nat → va_E} {H : Heap} (hP : va_P D cl (kw ks ad E) H) (hD : va_D A (kw ks ad E)) (hn : ks1.Nodup) (h : ∀ j, j ∈ ks1 → j ∈ ks) : va_P D cl (kw ks1 ad E) H ∧ va_D A (kw ks1 ad E) := by
  refine ⟨fun i q hq => ?_, fun i j x y hx hy hxy => ?_, fun i q hq => ?_⟩
  · obtain ⟨k1, -, h2, rfl⟩ := kw_at hq
    obtain ⟨i2, h3⟩ := kw_get (ad := ad) (E := E) (h k1 h2)
    exact hP i2 _ h3
  · obtain ⟨k1, h1, h2, rfl⟩ := kw_at hx
    obtain ⟨k2, h3, h4, rfl⟩ := kw_at hy
    have := kw_inj hD (h k1 h2) (h k2 h4) hxy
    subst this
    exact k_nodup hn h1 h3
  · obtain ⟨k1, -, h2, rfl⟩ := kw_at hq
    obtain ⟨i2, h3⟩ := kw_get (ad := ad) (E := E) (h k1 h2)
    exact hD.2 i2 _ h3

theorem kv_calliV {dd : kDD} {g : kG} {cc : ByteArray} {own : String} {Ts : List Cond} {a b pc : Nat} {lv : List (Nat × Value)} (st : List Value) {ks : List Nat} {ad : Nat → Nat} {E : Nat → va_E} (C : kX dd g cc own Ts) {S : Type} {l9 : Launch} {Cn : String} {index maxL mc ms n κ ci : Nat} {y : MethodName} {bytes : ByteArray} {ret : Option FieldType} {wsY : List Cond} {rm : Room} {As st0 : List Value} {fs : List Value} {P : Int32 → S → Prop} {ks2 : S → List Nat} {ad2 : S → Nat → Nat} {E2 : S → Nat → va_E} {r1 : u_T × Nat} {RR : Room} (hM : kCi l9 y wsY rm mc ms dd (.ref (ad κ) :: As) (ks, ad, E) (kQi P ks2 ad2 E2)) (hl0 : kL g = l9) (cw : kCV g own Cn index y bytes maxL ret wsY rm mc ms n) (hκ : κ ∈ ks) (hE : E κ = .inr (ci, fs)) (hci : vwCl[ci]? = some (Cn, r1.1, r1.2)) (hst0 : st0 = As.reverse ++ .ref (ad κ) :: st) (hn : As.length = n) (hw : (st.map fun v => v.category).sum ≤ 8) (hRR : kR g = RR) (hrm : a + mc ≤ RR.cells ∧ b + ms ≤ RR.slots) (d : decode cc pc = .ok (.invokevirtual index, 3)) (k : ∀ (r : Int32) (z : S), P r z → kv dd g (a + mc) (b + ms) (pc + 3) lv (.int r :: st) (ks2 z) (ad2 z) (E2 z)) : kv dd g a b pc lv st0 ks ad E := by
  obtain ⟨p, l, e, R, s, m, args, below, meth, c, Q, A, nL⟩ := g
  obtain ⟨hx, hb, hown, hts, hK, hA, hml, hZ, hst⟩ := C
  intro H locs ls hP hD hS hl
  obtain ⟨i, hi⟩ := kw_get (ad := ad) (E := E) hκ
  rw [hE] at hi
  subst hRR
  subst hst0
  subst hl0
  have hF := kA_in (u := (ks, ad, E)) hD hS hA
  refine va_calli (va_runV (As := As) (rest := st) ⟨hx, hb, hml, hown, hts⟩ (hM hst H.size) cw ⟨kPre_blind, va_recv hK hP (ci := ci) (q0 := i) hci hi, fun U hU hW => ⟨rfl, by rw [hU], by rw [hU]; exact hP, va_K.moved hW.alike hK, hD.weaken (fun _ _ _ _ => trivial), by rw [hU]; exact (kSt_in hZ hS hF).warm hW⟩⟩ rfl hn hl.1 rfl (lv_room hw) d hrm) hS (fun q _ h => hF q h) hF (fun r u t H1 locs1 ht hvm hp hB hz1 hk1 hS1 => ?_)
  obtain ⟨z, hp, rfl⟩ := hp
  obtain ⟨hP1, hK1, hD1⟩ := hB
  rw [ht] at hP1
  exact k r z hp H1 locs1 ls hP1 (hD1.weaken (fun _ _ _ h => hF _ h)) hS1 hl
theorem kv_sameiV {dd : kDD} {g : kG} {cc : ByteArray} {own : String} {Ts : List Cond} {a b pc : Nat} {lv : List (Nat × Value)} (st : List Value) {ks : List Nat} {ad : Nat → Nat} {E : Nat → va_E} (C : kX dd g cc own Ts) {l9 : Launch} {Cn : String} {index maxL mc ms n κ ci : Nat} {y : MethodName} {bytes : ByteArray} {ret : Option FieldType} {wsY : List Cond} {rm : Room} {As st0 : List Value} {fs : List Value} {P : Int32 → Prop} {r1 : u_T × Nat} {RR : Room} (ks1 : List Nat) (hn1 : ks1.Nodup) (hs1 : ∀ j, j ∈ ks1 → j ∈ ks) (hM : kCi l9 y wsY rm mc ms dd (.ref (ad κ) :: As) (ks1, ad, E) (fun r u => P r ∧ u = (ks1, ad, E))) (hl0 : kL g = l9) (cw : kCV g own Cn index y bytes maxL ret wsY rm mc ms n) (hκ : κ ∈ ks) (hE : E κ = .inr (ci, fs)) (hci : vwCl[ci]? = some (Cn, r1.1, r1.2)) (hst0 : st0 = As.reverse ++ .ref (ad κ) :: st) (hn : As.length = n) (hw : (st.map fun v => v.category).sum ≤ 8) (hRR : kR g = RR) (hrm : a + mc ≤ RR.cells ∧ b + ms ≤ RR.slots) (d : decode cc pc = .ok (.invokevirtual index, 3)) (k : ∀ r : Int32, P r → kv dd g (a + mc) (b + ms) (pc + 3) lv (.int r :: st) ks ad E) : kv dd g a b pc lv st0 ks ad E := by
  obtain ⟨p, l, e, R, s, m, args, below, meth, c, Q, A, nL⟩ := g
  obtain ⟨hx, hb, hown, hts, hK, hA, hml, hZ, hst⟩ := C
  intro H locs ls hP hD hS hl
  obtain ⟨i, hi⟩ := kw_get (ad := ad) (E := E) hκ
  rw [hE] at hi
  subst hRR
  subst hst0
  subst hl0
  obtain ⟨hPc, hDc⟩ := kw_part hP hD hn1 hs1
  have hF := kA_in (u := (ks1, ad, E)) hDc hS hA
  refine va_calli (va_runV (As := As) (rest := st) ⟨hx, hb, hml, hown, hts⟩ (hM hst H.size) cw ⟨kPre_blind, va_recv hK hP (ci := ci) (q0 := i) hci hi, fun U hU hW => ⟨rfl, by rw [hU], by rw [hU]; exact hPc, va_K.moved hW.alike hK, hDc.weaken (fun _ _ _ _ => trivial), by rw [hU]; exact (kSt_in hZ hS hF).warm hW⟩⟩ rfl hn hl.1 rfl (lv_room hw) d hrm) hS (fun q _ h => hF q h) hF (fun r u t H1 locs1 ht hvm hp hB hz1 hk1 hS1 => ?_)
  obtain ⟨hp, rfl⟩ := hp
  obtain ⟨hP1, hK1, hD1⟩ := hB
  rw [ht] at hP1
  refine k r hp H1 locs1 ls (fun i q hq => ?_) hD hS1 hl
  obtain ⟨j, h1, h2, rfl⟩ := kw_at hq
  by_cases hj : j ∈ ks1
  · obtain ⟨i2, h3⟩ := kw_get (ad := ad) (E := E) hj
    exact hP1 i2 _ h3
  · have hq0 := hP i _ hq
    refine hq0.kept (hk1 _ hq0.lt (fun hq9 => ?_))
    rcases hq9 with ⟨k9, e9, h9⟩ | h9
    · obtain ⟨j9, -, h10, h11⟩ := kw_at h9
      have h12 : ad j = ad j9 := congrArg Prod.fst h11
      exact hj (kw_inj hD h2 (hs1 _ h10) h12 ▸ h10)
    · exact absurd hq0.lt (Nat.not_lt.mpr h9)
theorem kv_calliS {dd : kDD} {g : kG} {cc : ByteArray} {own : String} {Ts : List Cond} {a b pc : Nat} {lv : List (Nat × Value)} (st : List Value) {ks : List Nat} {ad : Nat → Nat} {E : Nat → va_E} (C : kX dd g cc own Ts) {S : Type} {l9 : Launch} {index maxL mc ms n : Nat} {y : MethodName} {bytes : ByteArray} {ret : Option FieldType} {wsY : List Cond} {rm : Room} {As st0 : List Value} {P : Int32 → S → Prop} {ks2 : S → List Nat} {ad2 : S → Nat → Nat} {E2 : S → Nat → va_E} {RR : Room} (hM : kCi l9 y wsY rm mc ms dd As (ks, ad, E) (kQi P ks2 ad2 E2)) (hl0 : kL g = l9) (cw : kCS g own index y bytes maxL ret wsY rm mc ms n) (hst0 : st0 = As.reverse ++ st) (hn : As.length = n) (hw : (st.map fun v => v.category).sum ≤ 8) (hRR : kR g = RR) (hrm : a + mc ≤ RR.cells ∧ b + ms ≤ RR.slots) (d : decode cc pc = .ok (.invokestatic index, 3)) (k : ∀ (r : Int32) (z : S), P r z → kv dd g (a + mc) (b + ms) (pc + 3) lv (.int r :: st) (ks2 z) (ad2 z) (E2 z)) : kv dd g a b pc lv st0 ks ad E := by
  obtain ⟨p, l, e, R, s, m, args, below, meth, c, Q, A, nL⟩ := g
  obtain ⟨hx, hb, hown, hts, hK, hA, hml, hZ, hst⟩ := C
  intro H locs ls hP hD hS hl
  subst hRR
  subst hst0
  subst hl0
  have hF := kA_in (u := (ks, ad, E)) hD hS hA
  refine va_calli (va_runS (As := As) (rest := st) ⟨hx, hb, hml, hown, hts⟩ (hM hst H.size) cw ⟨kPre_blind, fun U hU hW => ⟨rfl, by rw [hU], by rw [hU]; exact hP, va_K.moved hW.alike hK, hD.weaken (fun _ _ _ _ => trivial), by rw [hU]; exact (kSt_in hZ hS hF).warm hW⟩⟩ rfl hn hl.1 rfl (lv_room hw) d hrm) hS (fun q _ h => hF q h) hF (fun r u t H1 locs1 ht hvm hp hB hz1 hk1 hS1 => ?_)
  obtain ⟨z, hp, rfl⟩ := hp
  obtain ⟨hP1, hK1, hD1⟩ := hB
  rw [ht] at hP1
  exact k r z hp H1 locs1 ls hP1 (hD1.weaken (fun _ _ _ h => hF _ h)) hS1 hl
theorem kv_sameiS {dd : kDD} {g : kG} {cc : ByteArray} {own : String} {Ts : List Cond} {a b pc : Nat} {lv : List (Nat × Value)} (st : List Value) {ks : List Nat} {ad : Nat → Nat} {E : Nat → va_E} (C : kX dd g cc own Ts) {l9 : Launch} {index maxL mc ms n : Nat} {y : MethodName} {bytes : ByteArray} {ret : Option FieldType} {wsY : List Cond} {rm : Room} {As st0 : List Value} {P : Int32 → Prop} {RR : Room} (ks1 : List Nat) (hn1 : ks1.Nodup) (hs1 : ∀ j, j ∈ ks1 → j ∈ ks) (hM : kCi l9 y wsY rm mc ms dd As (ks1, ad, E) (fun r u => P r ∧ u = (ks1, ad, E))) (hl0 : kL g = l9) (cw : kCS g own index y bytes maxL ret wsY rm mc ms n) (hst0 : st0 = As.reverse ++ st) (hn : As.length = n) (hw : (st.map fun v => v.category).sum ≤ 8) (hRR : kR g = RR) (hrm : a + mc ≤ RR.cells ∧ b + ms ≤ RR.slots) (d : decode cc pc = .ok (.invokestatic index, 3)) (k : ∀ r : Int32, P r → kv dd g (a + mc) (b + ms) (pc + 3) lv (.int r :: st) ks ad E) : kv dd g a b pc lv st0 ks ad E := by
  obtain ⟨p, l, e, R, s, m, args, below, meth, c, Q, A, nL⟩ := g
  obtain ⟨hx, hb, hown, hts, hK, hA, hml, hZ, hst⟩ := C
  intro H locs ls hP hD hS hl
  subst hRR
  subst hst0
  subst hl0
  obtain ⟨hPc, hDc⟩ := kw_part hP hD hn1 hs1
  have hF := kA_in (u := (ks1, ad, E)) hDc hS hA
  refine va_calli (va_runS (As := As) (rest := st) ⟨hx, hb, hml, hown, hts⟩ (hM hst H.size) cw ⟨kPre_blind, fun U hU hW => ⟨rfl, by rw [hU], by rw [hU]; exact hPc, va_K.moved hW.alike hK, hDc.weaken (fun _ _ _ _ => trivial), by rw [hU]; exact (kSt_in hZ hS hF).warm hW⟩⟩ rfl hn hl.1 rfl (lv_room hw) d hrm) hS (fun q _ h => hF q h) hF (fun r u t H1 locs1 ht hvm hp hB hz1 hk1 hS1 => ?_)
  obtain ⟨hp, rfl⟩ := hp
  obtain ⟨hP1, hK1, hD1⟩ := hB
  rw [ht] at hP1
  refine k r hp H1 locs1 ls (fun i q hq => ?_) hD hS1 hl
  obtain ⟨j, h1, h2, rfl⟩ := kw_at hq
  by_cases hj : j ∈ ks1
  · obtain ⟨i2, h3⟩ := kw_get (ad := ad) (E := E) hj
    exact hP1 i2 _ h3
  · have hq0 := hP i _ hq
    refine hq0.kept (hk1 _ hq0.lt (fun hq9 => ?_))
    rcases hq9 with ⟨k9, e9, h9⟩ | h9
    · obtain ⟨j9, -, h10, h11⟩ := kw_at h9
      have h12 : ad j = ad j9 := congrArg Prod.fst h11
      exact hj (kw_inj hD h2 (hs1 _ h10) h12 ▸ h10)
    · exact absurd hq0.lt (Nat.not_lt.mpr h9)
theorem kv_calllV {dd : kDD} {g : kG} {cc : ByteArray} {own : String} {Ts : List Cond} {a b pc : Nat} {lv : List (Nat × Value)} (st : List Value) {ks : List Nat} {ad : Nat → Nat} {E : Nat → va_E} (C : kX dd g cc own Ts) {S : Type} {l9 : Launch} {Cn : String} {index maxL mc ms n κ ci : Nat} {y : MethodName} {bytes : ByteArray} {ret : Option FieldType} {wsY : List Cond} {rm : Room} {As st0 : List Value} {fs : List Value} {P : Int64 → S → Prop} {ks2 : S → List Nat} {ad2 : S → Nat → Nat} {E2 : S → Nat → va_E} {r1 : u_T × Nat} {RR : Room} (hM : kCl l9 y wsY rm mc ms dd (.ref (ad κ) :: As) (ks, ad, E) (kQl P ks2 ad2 E2)) (hl0 : kL g = l9) (cw : kCV g own Cn index y bytes maxL ret wsY rm mc ms n) (hκ : κ ∈ ks) (hE : E κ = .inr (ci, fs)) (hci : vwCl[ci]? = some (Cn, r1.1, r1.2)) (hst0 : st0 = As.reverse ++ .ref (ad κ) :: st) (hn : As.length = n) (hw : (st.map fun v => v.category).sum ≤ 8) (hRR : kR g = RR) (hrm : a + mc ≤ RR.cells ∧ b + ms ≤ RR.slots) (d : decode cc pc = .ok (.invokevirtual index, 3)) (k : ∀ (r : Int64) (z : S), P r z → kv dd g (a + mc) (b + ms) (pc + 3) lv (.long r :: st) (ks2 z) (ad2 z) (E2 z)) : kv dd g a b pc lv st0 ks ad E := by
  obtain ⟨p, l, e, R, s, m, args, below, meth, c, Q, A, nL⟩ := g
  obtain ⟨hx, hb, hown, hts, hK, hA, hml, hZ, hst⟩ := C
  intro H locs ls hP hD hS hl
  obtain ⟨i, hi⟩ := kw_get (ad := ad) (E := E) hκ
  rw [hE] at hi
  subst hRR
  subst hst0
  subst hl0
  have hF := kA_in (u := (ks, ad, E)) hD hS hA
  refine va_calll (va_runV (As := As) (rest := st) ⟨hx, hb, hml, hown, hts⟩ (hM hst H.size) cw ⟨kPre_blind, va_recv hK hP (ci := ci) (q0 := i) hci hi, fun U hU hW => ⟨rfl, by rw [hU], by rw [hU]; exact hP, va_K.moved hW.alike hK, hD.weaken (fun _ _ _ _ => trivial), by rw [hU]; exact (kSt_in hZ hS hF).warm hW⟩⟩ rfl hn hl.1 rfl (lv_room hw) d hrm) hS (fun q _ h => hF q h) hF (fun r u t H1 locs1 ht hvm hp hB hz1 hk1 hS1 => ?_)
  obtain ⟨z, hp, rfl⟩ := hp
  obtain ⟨hP1, hK1, hD1⟩ := hB
  rw [ht] at hP1
  exact k r z hp H1 locs1 ls hP1 (hD1.weaken (fun _ _ _ h => hF _ h)) hS1 hl
theorem kv_samelV {dd : kDD} {g : kG} {cc : ByteArray} {own : String} {Ts : List Cond} {a b pc : Nat} {lv : List (Nat × Value)} (st : List Value) {ks : List Nat} {ad : Nat → Nat} {E : Nat → va_E} (C : kX dd g cc own Ts) {l9 : Launch} {Cn : String} {index maxL mc ms n κ ci : Nat} {y : MethodName} {bytes : ByteArray} {ret : Option FieldType} {wsY : List Cond} {rm : Room} {As st0 : List Value} {fs : List Value} {P : Int64 → Prop} {r1 : u_T × Nat} {RR : Room} (ks1 : List Nat) (hn1 : ks1.Nodup) (hs1 : ∀ j, j ∈ ks1 → j ∈ ks) (hM : kCl l9 y wsY rm mc ms dd (.ref (ad κ) :: As) (ks1, ad, E) (fun r u => P r ∧ u = (ks1, ad, E))) (hl0 : kL g = l9) (cw : kCV g own Cn index y bytes maxL ret wsY rm mc ms n) (hκ : κ ∈ ks) (hE : E κ = .inr (ci, fs)) (hci : vwCl[ci]? = some (Cn, r1.1, r1.2)) (hst0 : st0 = As.reverse ++ .ref (ad κ) :: st) (hn : As.length = n) (hw : (st.map fun v => v.category).sum ≤ 8) (hRR : kR g = RR) (hrm : a + mc ≤ RR.cells ∧ b + ms ≤ RR.slots) (d : decode cc pc = .ok (.invokevirtual index, 3)) (k : ∀ r : Int64, P r → kv dd g (a + mc) (b + ms) (pc + 3) lv (.long r :: st) ks ad E) : kv dd g a b pc lv st0 ks ad E := by
  obtain ⟨p, l, e, R, s, m, args, below, meth, c, Q, A, nL⟩ := g
  obtain ⟨hx, hb, hown, hts, hK, hA, hml, hZ, hst⟩ := C
  intro H locs ls hP hD hS hl
  obtain ⟨i, hi⟩ := kw_get (ad := ad) (E := E) hκ
  rw [hE] at hi
  subst hRR
  subst hst0
  subst hl0
  obtain ⟨hPc, hDc⟩ := kw_part hP hD hn1 hs1
  have hF := kA_in (u := (ks1, ad, E)) hDc hS hA
  refine va_calll (va_runV (As := As) (rest := st) ⟨hx, hb, hml, hown, hts⟩ (hM hst H.size) cw ⟨kPre_blind, va_recv hK hP (ci := ci) (q0 := i) hci hi, fun U hU hW => ⟨rfl, by rw [hU], by rw [hU]; exact hPc, va_K.moved hW.alike hK, hDc.weaken (fun _ _ _ _ => trivial), by rw [hU]; exact (kSt_in hZ hS hF).warm hW⟩⟩ rfl hn hl.1 rfl (lv_room hw) d hrm) hS (fun q _ h => hF q h) hF (fun r u t H1 locs1 ht hvm hp hB hz1 hk1 hS1 => ?_)
  obtain ⟨hp, rfl⟩ := hp
  obtain ⟨hP1, hK1, hD1⟩ := hB
  rw [ht] at hP1
  refine k r hp H1 locs1 ls (fun i q hq => ?_) hD hS1 hl
  obtain ⟨j, h1, h2, rfl⟩ := kw_at hq
  by_cases hj : j ∈ ks1
  · obtain ⟨i2, h3⟩ := kw_get (ad := ad) (E := E) hj
    exact hP1 i2 _ h3
  · have hq0 := hP i _ hq
    refine hq0.kept (hk1 _ hq0.lt (fun hq9 => ?_))
    rcases hq9 with ⟨k9, e9, h9⟩ | h9
    · obtain ⟨j9, -, h10, h11⟩ := kw_at h9
      have h12 : ad j = ad j9 := congrArg Prod.fst h11
      exact hj (kw_inj hD h2 (hs1 _ h10) h12 ▸ h10)
    · exact absurd hq0.lt (Nat.not_lt.mpr h9)
theorem kv_calllS {dd : kDD} {g : kG} {cc : ByteArray} {own : String} {Ts : List Cond} {a b pc : Nat} {lv : List (Nat × Value)} (st : List Value) {ks : List Nat} {ad : Nat → Nat} {E : Nat → va_E} (C : kX dd g cc own Ts) {S : Type} {l9 : Launch} {index maxL mc ms n : Nat} {y : MethodName} {bytes : ByteArray} {ret : Option FieldType} {wsY : List Cond} {rm : Room} {As st0 : List Value} {P : Int64 → S → Prop} {ks2 : S → List Nat} {ad2 : S → Nat → Nat} {E2 : S → Nat → va_E} {RR : Room} (hM : kCl l9 y wsY rm mc ms dd As (ks, ad, E) (kQl P ks2 ad2 E2)) (hl0 : kL g = l9) (cw : kCS g own index y bytes maxL ret wsY rm mc ms n) (hst0 : st0 = As.reverse ++ st) (hn : As.length = n) (hw : (st.map fun v => v.category).sum ≤ 8) (hRR : kR g = RR) (hrm : a + mc ≤ RR.cells ∧ b + ms ≤ RR.slots) (d : decode cc pc = .ok (.invokestatic index, 3)) (k : ∀ (r : Int64) (z : S), P r z → kv dd g (a + mc) (b + ms) (pc + 3) lv (.long r :: st) (ks2 z) (ad2 z) (E2 z)) : kv dd g a b pc lv st0 ks ad E := by
  obtain ⟨p, l, e, R, s, m, args, below, meth, c, Q, A, nL⟩ := g
  obtain ⟨hx, hb, hown, hts, hK, hA, hml, hZ, hst⟩ := C
  intro H locs ls hP hD hS hl
  subst hRR
  subst hst0
  subst hl0
  have hF := kA_in (u := (ks, ad, E)) hD hS hA
  refine va_calll (va_runS (As := As) (rest := st) ⟨hx, hb, hml, hown, hts⟩ (hM hst H.size) cw ⟨kPre_blind, fun U hU hW => ⟨rfl, by rw [hU], by rw [hU]; exact hP, va_K.moved hW.alike hK, hD.weaken (fun _ _ _ _ => trivial), by rw [hU]; exact (kSt_in hZ hS hF).warm hW⟩⟩ rfl hn hl.1 rfl (lv_room hw) d hrm) hS (fun q _ h => hF q h) hF (fun r u t H1 locs1 ht hvm hp hB hz1 hk1 hS1 => ?_)
  obtain ⟨z, hp, rfl⟩ := hp
  obtain ⟨hP1, hK1, hD1⟩ := hB
  rw [ht] at hP1
  exact k r z hp H1 locs1 ls hP1 (hD1.weaken (fun _ _ _ h => hF _ h)) hS1 hl
theorem kv_samelS {dd : kDD} {g : kG} {cc : ByteArray} {own : String} {Ts : List Cond} {a b pc : Nat} {lv : List (Nat × Value)} (st : List Value) {ks : List Nat} {ad : Nat → Nat} {E : Nat → va_E} (C : kX dd g cc own Ts) {l9 : Launch} {index maxL mc ms n : Nat} {y : MethodName} {bytes : ByteArray} {ret : Option FieldType} {wsY : List Cond} {rm : Room} {As st0 : List Value} {P : Int64 → Prop} {RR : Room} (ks1 : List Nat) (hn1 : ks1.Nodup) (hs1 : ∀ j, j ∈ ks1 → j ∈ ks) (hM : kCl l9 y wsY rm mc ms dd As (ks1, ad, E) (fun r u => P r ∧ u = (ks1, ad, E))) (hl0 : kL g = l9) (cw : kCS g own index y bytes maxL ret wsY rm mc ms n) (hst0 : st0 = As.reverse ++ st) (hn : As.length = n) (hw : (st.map fun v => v.category).sum ≤ 8) (hRR : kR g = RR) (hrm : a + mc ≤ RR.cells ∧ b + ms ≤ RR.slots) (d : decode cc pc = .ok (.invokestatic index, 3)) (k : ∀ r : Int64, P r → kv dd g (a + mc) (b + ms) (pc + 3) lv (.long r :: st) ks ad E) : kv dd g a b pc lv st0 ks ad E := by
  obtain ⟨p, l, e, R, s, m, args, below, meth, c, Q, A, nL⟩ := g
  obtain ⟨hx, hb, hown, hts, hK, hA, hml, hZ, hst⟩ := C
  intro H locs ls hP hD hS hl
  subst hRR
  subst hst0
  subst hl0
  obtain ⟨hPc, hDc⟩ := kw_part hP hD hn1 hs1
  have hF := kA_in (u := (ks1, ad, E)) hDc hS hA
  refine va_calll (va_runS (As := As) (rest := st) ⟨hx, hb, hml, hown, hts⟩ (hM hst H.size) cw ⟨kPre_blind, fun U hU hW => ⟨rfl, by rw [hU], by rw [hU]; exact hPc, va_K.moved hW.alike hK, hDc.weaken (fun _ _ _ _ => trivial), by rw [hU]; exact (kSt_in hZ hS hF).warm hW⟩⟩ rfl hn hl.1 rfl (lv_room hw) d hrm) hS (fun q _ h => hF q h) hF (fun r u t H1 locs1 ht hvm hp hB hz1 hk1 hS1 => ?_)
  obtain ⟨hp, rfl⟩ := hp
  obtain ⟨hP1, hK1, hD1⟩ := hB
  rw [ht] at hP1
  refine k r hp H1 locs1 ls (fun i q hq => ?_) hD hS1 hl
  obtain ⟨j, h1, h2, rfl⟩ := kw_at hq
  by_cases hj : j ∈ ks1
  · obtain ⟨i2, h3⟩ := kw_get (ad := ad) (E := E) hj
    exact hP1 i2 _ h3
  · have hq0 := hP i _ hq
    refine hq0.kept (hk1 _ hq0.lt (fun hq9 => ?_))
    rcases hq9 with ⟨k9, e9, h9⟩ | h9
    · obtain ⟨j9, -, h10, h11⟩ := kw_at h9
      have h12 : ad j = ad j9 := congrArg Prod.fst h11
      exact hj (kw_inj hD h2 (hs1 _ h10) h12 ▸ h10)
    · exact absurd hq0.lt (Nat.not_lt.mpr h9)
theorem kv_callvV {dd : kDD} {g : kG} {cc : ByteArray} {own : String} {Ts : List Cond} {a b pc : Nat} {lv : List (Nat × Value)} (st : List Value) {ks : List Nat} {ad : Nat → Nat} {E : Nat → va_E} (C : kX dd g cc own Ts) {S : Type} {l9 : Launch} {Cn : String} {index maxL mc ms n κ ci : Nat} {y : MethodName} {bytes : ByteArray} {ret : Option FieldType} {wsY : List Cond} {rm : Room} {As st0 : List Value} {fs : List Value} {P : S → Prop} {ks2 : S → List Nat} {ad2 : S → Nat → Nat} {E2 : S → Nat → va_E} {r1 : u_T × Nat} {RR : Room} (hM : kCv l9 y wsY rm mc ms dd (.ref (ad κ) :: As) (ks, ad, E) (kQv P ks2 ad2 E2)) (hl0 : kL g = l9) (cw : kCV g own Cn index y bytes maxL ret wsY rm mc ms n) (hκ : κ ∈ ks) (hE : E κ = .inr (ci, fs)) (hci : vwCl[ci]? = some (Cn, r1.1, r1.2)) (hst0 : st0 = As.reverse ++ .ref (ad κ) :: st) (hn : As.length = n) (hw : (st.map fun v => v.category).sum ≤ 8) (hRR : kR g = RR) (hrm : a + mc ≤ RR.cells ∧ b + ms ≤ RR.slots) (d : decode cc pc = .ok (.invokevirtual index, 3)) (k : ∀ (z : S), P z → kv dd g (a + mc) (b + ms) (pc + 3) lv (st) (ks2 z) (ad2 z) (E2 z)) : kv dd g a b pc lv st0 ks ad E := by
  obtain ⟨p, l, e, R, s, m, args, below, meth, c, Q, A, nL⟩ := g
  obtain ⟨hx, hb, hown, hts, hK, hA, hml, hZ, hst⟩ := C
  intro H locs ls hP hD hS hl
  obtain ⟨i, hi⟩ := kw_get (ad := ad) (E := E) hκ
  rw [hE] at hi
  subst hRR
  subst hst0
  subst hl0
  have hF := kA_in (u := (ks, ad, E)) hD hS hA
  refine va_callv (va_runV (As := As) (rest := st) ⟨hx, hb, hml, hown, hts⟩ (hM hst H.size) cw ⟨kPre_blind, va_recv hK hP (ci := ci) (q0 := i) hci hi, fun U hU hW => ⟨rfl, by rw [hU], by rw [hU]; exact hP, va_K.moved hW.alike hK, hD.weaken (fun _ _ _ _ => trivial), by rw [hU]; exact (kSt_in hZ hS hF).warm hW⟩⟩ rfl hn hl.1 rfl (lv_room hw) d hrm) hS (fun q _ h => hF q h) hF (fun u t H1 locs1 ht hvm hp hB hz1 hk1 hS1 => ?_)
  obtain ⟨z, hp, rfl⟩ := hp
  obtain ⟨hP1, hK1, hD1⟩ := hB
  rw [ht] at hP1
  exact k z hp H1 locs1 ls hP1 (hD1.weaken (fun _ _ _ h => hF _ h)) hS1 hl
theorem kv_samevV {dd : kDD} {g : kG} {cc : ByteArray} {own : String} {Ts : List Cond} {a b pc : Nat} {lv : List (Nat × Value)} (st : List Value) {ks : List Nat} {ad : Nat → Nat} {E : Nat → va_E} (C : kX dd g cc own Ts) {l9 : Launch} {Cn : String} {index maxL mc ms n κ ci : Nat} {y : MethodName} {bytes : ByteArray} {ret : Option FieldType} {wsY : List Cond} {rm : Room} {As st0 : List Value} {fs : List Value} {P : Prop} {r1 : u_T × Nat} {RR : Room} (ks1 : List Nat) (hn1 : ks1.Nodup) (hs1 : ∀ j, j ∈ ks1 → j ∈ ks) (hM : kCv l9 y wsY rm mc ms dd (.ref (ad κ) :: As) (ks1, ad, E) (fun u => P ∧ u = (ks1, ad, E))) (hl0 : kL g = l9) (cw : kCV g own Cn index y bytes maxL ret wsY rm mc ms n) (hκ : κ ∈ ks) (hE : E κ = .inr (ci, fs)) (hci : vwCl[ci]? = some (Cn, r1.1, r1.2)) (hst0 : st0 = As.reverse ++ .ref (ad κ) :: st) (hn : As.length = n) (hw : (st.map fun v => v.category).sum ≤ 8) (hRR : kR g = RR) (hrm : a + mc ≤ RR.cells ∧ b + ms ≤ RR.slots) (d : decode cc pc = .ok (.invokevirtual index, 3)) (k : P → kv dd g (a + mc) (b + ms) (pc + 3) lv (st) ks ad E) : kv dd g a b pc lv st0 ks ad E := by
  obtain ⟨p, l, e, R, s, m, args, below, meth, c, Q, A, nL⟩ := g
  obtain ⟨hx, hb, hown, hts, hK, hA, hml, hZ, hst⟩ := C
  intro H locs ls hP hD hS hl
  obtain ⟨i, hi⟩ := kw_get (ad := ad) (E := E) hκ
  rw [hE] at hi
  subst hRR
  subst hst0
  subst hl0
  obtain ⟨hPc, hDc⟩ := kw_part hP hD hn1 hs1
  have hF := kA_in (u := (ks1, ad, E)) hDc hS hA
  refine va_callv (va_runV (As := As) (rest := st) ⟨hx, hb, hml, hown, hts⟩ (hM hst H.size) cw ⟨kPre_blind, va_recv hK hP (ci := ci) (q0 := i) hci hi, fun U hU hW => ⟨rfl, by rw [hU], by rw [hU]; exact hPc, va_K.moved hW.alike hK, hDc.weaken (fun _ _ _ _ => trivial), by rw [hU]; exact (kSt_in hZ hS hF).warm hW⟩⟩ rfl hn hl.1 rfl (lv_room hw) d hrm) hS (fun q _ h => hF q h) hF (fun u t H1 locs1 ht hvm hp hB hz1 hk1 hS1 => ?_)
  obtain ⟨hp, rfl⟩ := hp
  obtain ⟨hP1, hK1, hD1⟩ := hB
  rw [ht] at hP1
  refine k hp H1 locs1 ls (fun i q hq => ?_) hD hS1 hl
  obtain ⟨j, h1, h2, rfl⟩ := kw_at hq
  by_cases hj : j ∈ ks1
  · obtain ⟨i2, h3⟩ := kw_get (ad := ad) (E := E) hj
    exact hP1 i2 _ h3
  · have hq0 := hP i _ hq
    refine hq0.kept (hk1 _ hq0.lt (fun hq9 => ?_))
    rcases hq9 with ⟨k9, e9, h9⟩ | h9
    · obtain ⟨j9, -, h10, h11⟩ := kw_at h9
      have h12 : ad j = ad j9 := congrArg Prod.fst h11
      exact hj (kw_inj hD h2 (hs1 _ h10) h12 ▸ h10)
    · exact absurd hq0.lt (Nat.not_lt.mpr h9)
theorem kv_callvS {dd : kDD} {g : kG} {cc : ByteArray} {own : String} {Ts : List Cond} {a b pc : Nat} {lv : List (Nat × Value)} (st : List Value) {ks : List Nat} {ad : Nat → Nat} {E : Nat → va_E} (C : kX dd g cc own Ts) {S : Type} {l9 : Launch} {index maxL mc ms n : Nat} {y : MethodName} {bytes : ByteArray} {ret : Option FieldType} {wsY : List Cond} {rm : Room} {As st0 : List Value} {P : S → Prop} {ks2 : S → List Nat} {ad2 : S → Nat → Nat} {E2 : S → Nat → va_E} {RR : Room} (hM : kCv l9 y wsY rm mc ms dd As (ks, ad, E) (kQv P ks2 ad2 E2)) (hl0 : kL g = l9) (cw : kCS g own index y bytes maxL ret wsY rm mc ms n) (hst0 : st0 = As.reverse ++ st) (hn : As.length = n) (hw : (st.map fun v => v.category).sum ≤ 8) (hRR : kR g = RR) (hrm : a + mc ≤ RR.cells ∧ b + ms ≤ RR.slots) (d : decode cc pc = .ok (.invokestatic index, 3)) (k : ∀ (z : S), P z → kv dd g (a + mc) (b + ms) (pc + 3) lv (st) (ks2 z) (ad2 z) (E2 z)) : kv dd g a b pc lv st0 ks ad E := by
  obtain ⟨p, l, e, R, s, m, args, below, meth, c, Q, A, nL⟩ := g
  obtain ⟨hx, hb, hown, hts, hK, hA, hml, hZ, hst⟩ := C
  intro H locs ls hP hD hS hl
  subst hRR
  subst hst0
  subst hl0
  have hF := kA_in (u := (ks, ad, E)) hD hS hA
  refine va_callv (va_runS (As := As) (rest := st) ⟨hx, hb, hml, hown, hts⟩ (hM hst H.size) cw ⟨kPre_blind, fun U hU hW => ⟨rfl, by rw [hU], by rw [hU]; exact hP, va_K.moved hW.alike hK, hD.weaken (fun _ _ _ _ => trivial), by rw [hU]; exact (kSt_in hZ hS hF).warm hW⟩⟩ rfl hn hl.1 rfl (lv_room hw) d hrm) hS (fun q _ h => hF q h) hF (fun u t H1 locs1 ht hvm hp hB hz1 hk1 hS1 => ?_)
  obtain ⟨z, hp, rfl⟩ := hp
  obtain ⟨hP1, hK1, hD1⟩ := hB
  rw [ht] at hP1
  exact k z hp H1 locs1 ls hP1 (hD1.weaken (fun _ _ _ h => hF _ h)) hS1 hl
theorem kv_samevS {dd : kDD} {g : kG} {cc : ByteArray} {own : String} {Ts : List Cond} {a b pc : Nat} {lv : List (Nat × Value)} (st : List Value) {ks : List Nat} {ad : Nat → Nat} {E : Nat → va_E} (C : kX dd g cc own Ts) {l9 : Launch} {index maxL mc ms n : Nat} {y : MethodName} {bytes : ByteArray} {ret : Option FieldType} {wsY : List Cond} {rm : Room} {As st0 : List Value} {P : Prop} {RR : Room} (ks1 : List Nat) (hn1 : ks1.Nodup) (hs1 : ∀ j, j ∈ ks1 → j ∈ ks) (hM : kCv l9 y wsY rm mc ms dd As (ks1, ad, E) (fun u => P ∧ u = (ks1, ad, E))) (hl0 : kL g = l9) (cw : kCS g own index y bytes maxL ret wsY rm mc ms n) (hst0 : st0 = As.reverse ++ st) (hn : As.length = n) (hw : (st.map fun v => v.category).sum ≤ 8) (hRR : kR g = RR) (hrm : a + mc ≤ RR.cells ∧ b + ms ≤ RR.slots) (d : decode cc pc = .ok (.invokestatic index, 3)) (k : P → kv dd g (a + mc) (b + ms) (pc + 3) lv (st) ks ad E) : kv dd g a b pc lv st0 ks ad E := by
  obtain ⟨p, l, e, R, s, m, args, below, meth, c, Q, A, nL⟩ := g
  obtain ⟨hx, hb, hown, hts, hK, hA, hml, hZ, hst⟩ := C
  intro H locs ls hP hD hS hl
  subst hRR
  subst hst0
  subst hl0
  obtain ⟨hPc, hDc⟩ := kw_part hP hD hn1 hs1
  have hF := kA_in (u := (ks1, ad, E)) hDc hS hA
  refine va_callv (va_runS (As := As) (rest := st) ⟨hx, hb, hml, hown, hts⟩ (hM hst H.size) cw ⟨kPre_blind, fun U hU hW => ⟨rfl, by rw [hU], by rw [hU]; exact hPc, va_K.moved hW.alike hK, hDc.weaken (fun _ _ _ _ => trivial), by rw [hU]; exact (kSt_in hZ hS hF).warm hW⟩⟩ rfl hn hl.1 rfl (lv_room hw) d hrm) hS (fun q _ h => hF q h) hF (fun u t H1 locs1 ht hvm hp hB hz1 hk1 hS1 => ?_)
  obtain ⟨hp, rfl⟩ := hp
  obtain ⟨hP1, hK1, hD1⟩ := hB
  rw [ht] at hP1
  refine k hp H1 locs1 ls (fun i q hq => ?_) hD hS1 hl
  obtain ⟨j, h1, h2, rfl⟩ := kw_at hq
  by_cases hj : j ∈ ks1
  · obtain ⟨i2, h3⟩ := kw_get (ad := ad) (E := E) hj
    exact hP1 i2 _ h3
  · have hq0 := hP i _ hq
    refine hq0.kept (hk1 _ hq0.lt (fun hq9 => ?_))
    rcases hq9 with ⟨k9, e9, h9⟩ | h9
    · obtain ⟨j9, -, h10, h11⟩ := kw_at h9
      have h12 : ad j = ad j9 := congrArg Prod.fst h11
      exact hj (kw_inj hD h2 (hs1 _ h10) h12 ▸ h10)
    · exact absurd hq0.lt (Nat.not_lt.mpr h9)

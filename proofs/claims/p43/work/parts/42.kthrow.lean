/-! NoSuchElementException -/
abbrev kx_C : String := "java/util/NoSuchElementException"
abbrev kx_N : List String := ["java/lang/RuntimeException", "java/lang/Exception"]
def kx_rx : ByteArray := ⟨#[0x2a, 0x2b, 0xb7, 0x00, 0x0d, 0xb1]⟩
/-- the words of the throw, those of the heap too -/
def kx_all : List Cond := (Bundle.ownAtoms RX10 298 kx_C kx_N).map kx_fix
def kx_own : List Cond := Bundle.throwableAtoms ++ Bundle.throwableSAtoms ++ (Bundle.passSAtoms kx_C "java/lang/RuntimeException" 13 kx_rx ++ Bundle.chainSAtoms "java/lang/RuntimeException" ["java/lang/Exception"])
def kx_more : List Cond := [.methodLink RX10 298 (Bundle.initS kx_C), .instantiable kx_C 6, .selects kx_C Bundle.tFill0 Bundle.tFill0, .selects kx_C Bundle.tFill Bundle.tFill, .lays kx_C Bundle.tN "cause" "Ljava/lang/Throwable;", .lays kx_C Bundle.tN "stackTrace" Bundle.steD, .lays kx_C Bundle.tN "suppressedExceptions" Bundle.listD, .lays kx_C Bundle.tN "detailMessage" "Ljava/lang/String;", .isRef (.static Bundle.tN "UNASSIGNED_STACK" Bundle.steD), .isRef (.static Bundle.tN "SUPPRESSED_SENTINEL" Bundle.listD), .fieldLink Bundle.tN 198 Bundle.tN "backtrace" "Ljava/lang/Object;", .lays Bundle.tN Bundle.tN "backtrace" "Ljava/lang/Object;", .lays kx_C Bundle.tN "backtrace" "Ljava/lang/Object;"]
theorem kx_in1 : ∀ w ∈ kx_own, w ∈ kx_all := by decide +kernel
theorem kx_in2 : ∀ w ∈ kx_more, w ∈ kx_all := by decide +kernel
theorem kx_4 : ∀ w ∈ kx_all, vx_no w = false ∨ w ∈ kx_atN := by decide +kernel
theorem kx_here {args : Array Value} {s : State} (h1 : ∀ w ∈ kx_atN, w.before args s = true)
    (hU : (Cond.isRef (.static Bundle.tN "UNASSIGNED_STACK" Bundle.steD)).before args s = true) (hN : (Cond.isRef (.static Bundle.tN "SUPPRESSED_SENTINEL" Bundle.listD)).before args s = true)
    (lU : (Cond.laysStatic Bundle.tN "UNASSIGNED_STACK" Bundle.steD).before args s = true) (lN : (Cond.laysStatic Bundle.tN "SUPPRESSED_SENTINEL" Bundle.listD).before args s = true) : ∀ w ∈ kx_all, w.before args s = true := by
  refine vx_own (fun w hw => ?_) hU hN lU lN
  obtain ⟨hw1, hw2⟩ := List.mem_filter.mp hw
  rcases kx_4 w hw1 with h | h
  · rw [h] at hw2; exact absurd hw2 (by decide)
  · exact h1 w h
section
variable {p : Program} {l : Launch} {e : Env} {R : Room} {s : State} {m₀ : MethodId} {args : Array Value} {below : List Frame} {meth : Method} {c : Code} {W : State} {locs : List Loc} {cells slots : Nat}
theorem kx_pass {pl : Platform} (hpl : pl.magicAccessors = ({} : Platform).magicAccessors) {top : MethodId} (htop : s.methodNamed? (Bundle.initS Bundle.tN) = some top) (h : ∀ w ∈ kx_own, w.before args s = true) :
    ∃ (P1 : PassC) (Ps : List PassC), Ps.length = 2 ∧ P1.LinksS pl s ∧ (∀ P, P ∈ Ps → P.LinksS pl s) ∧ s.methodNamed? (Bundle.initS kx_C) = some P1.m ∧ P1.sup = firstOf top (Ps.map (·.toPassT)) ∧ PassesOn top (Ps.map (·.toPassT)) := by
  obtain ⟨P, L, hm, hs⟩ := PassC.ofS_atoms (args := args) (s := s) hpl (X := kx_C) (Y := "java/lang/RuntimeException") (index := 13) (bytes := kx_rx) (by decide) (by decide) (by decide +kernel) (by decide +kernel) (by decide +kernel) (by decide +kernel)
    (fun w hw => h w (List.mem_append_right _ (List.mem_append_left _ hw)))
  obtain ⟨P', Ps, hlen, L', hL, hm', hsup, hpass⟩ := Bundle.chainS (args := args) hpl htop ["java/lang/Exception"] "java/lang/RuntimeException" (by decide) (by decide) (fun w hw => h w (List.mem_append_right _ (List.mem_append_right _ hw)))
  exact ⟨P, P' :: Ps, by rw [List.length_cons, hlen]; rfl, L, fun Q hQ => (List.mem_cons.mp hQ).elim (fun q => by rw [q]; exact L') (hL Q), hm, Option.some.inj (hs.symm.trans hm'), hsup, hpass⟩
set_option maxHeartbeats 1000000 in
theorem kx_ctor (X : Stand p l e R s m₀ args below meth c W locs cells slots) (hexec : p.tables.exec = Jvm.exec) (htr : e.platform.stackTraces = false) (hown : s.vm.findClass RX10 = some m₀.cls) (h : ∀ w ∈ kx_all, w.before args s = true)
    (hlocs : ∀ x ∈ locs, ∀ cell, s.heap[x.base]? = some cell → cell.vm.isStatics = false)
    {a : Addr} {cX : ClassId} {kX : Class} (hfX : s.vm.findClass kx_C = some cX) (hkX : s.vm.classes[cX]? = some kX) (hcell : W.heap[a]? = some (freshCell cX kX)) (hnew : s.heap.size ≤ a) {msg : Value} (hmsg : msg.isRef = true)
    {g : JFrame} (hg : g.method = m₀) (hsize : g.locals.size = c.maxLocals) (hlocked : g.locked = none) (hentered : g.entered = []) {rest : List Value} (hstack : g.stack = msg :: .ref a :: .ref a :: rest)
    (hd6 : decode c.code g.pc = .ok (.invokespecial 298, 3)) (hd9 : decode c.code (g.pc + 3) = .ok (.athrow, 1)) (hout : ∀ x ∈ c.exceptionTable.toList, covers x (g.pc + 3) = false)
    (hRf : 5 < R.frames) (hRl : 2 * g.monitorRoom + ((Value.ref a :: rest).map fun v => v.category).sum + 81 ≤ R.locals) (hlocks : meth.locks = false) :
    ∃ U : State, Steps p.tables e below (W.setTop g) U ∧ U.status = .running ∧ Ended U below (.threw a) ∧ s.WarmedH U.vm ∧ s.sameButNew ({ U with vm := s.vm } : State) locs cells slots ∧ ∃ ce, U.heap[a]? = some ce ∧ s.vm.findClass kx_C = some ce.cls ∧ ce.vm = .none := by
  have hpf := X.admits.platform
  have hpl : e.platform.magicAccessors = ({} : Platform).magicAccessors := by rw [hpf]
  have ho : ∀ w ∈ kx_own, w.before args s = true := fun w hw => h w (kx_in1 w hw)
  have hm : ∀ {w}, w ∈ kx_more → w.before args s = true := fun hw => h _ (kx_in2 _ hw)
  have at_ : ∀ {w}, w ∈ kx_more → w.holds args s none s [] = true := fun hw => hm hw
  obtain ⟨T, Z0, L, -, Y⟩ := ThrowableC.of_atoms (args := args) (by rw [hpf]) (by rw [hpf]) hpl (fun w hw => ho w (List.mem_append_left _ (List.mem_append_left _ hw)))
  obtain ⟨Z, M, LZ, LM, hnZ⟩ := Init0T.ofS_atoms (args := args) hpl L Y (fun w hw => ho w (List.mem_append_left _ (List.mem_append_right _ hw)))
  obtain ⟨P1, Ps, hlen, L1, hL, hPm, hl1, hl2⟩ := kx_pass (args := args) hpl hnZ ho
  have hf : s.vm.findClass kx_C = some P1.m.cls := findClass_of_methodNamed hPm
  obtain rfl : cX = P1.m.cls := Option.some.inj (hfX.symm.trans hf)
  obtain ⟨c1, k1, hc1, hk, hord, -, -, -⟩ := Cond.instantiable_spec (at_ (w := .instantiable kx_C 6) (by decide +kernel))
  obtain rfl : c1 = P1.m.cls := Option.some.inj (hc1.symm.trans hf)
  obtain rfl : kX = k1 := Option.some.inj (hkX.symm.trans hk)
  have hsel : ∀ {t tm}, Cond.selects kx_C t t ∈ kx_more → s.methodNamed? t = some tm → s.methodFound? t.cls t.name t.desc = some tm → selectMethod e.platform s.vm P1.m.cls tm = .method tm := by
    intro t tm ht hn hfd
    obtain ⟨c2, r2, m2, q1, q2, q3, q4, -⟩ := Cond.selects_spec (at_ ht)
    obtain rfl : c2 = P1.m.cls := Option.some.inj (q1.symm.trans hf)
    obtain rfl : r2 = tm := Option.some.inj (q2.symm.trans hfd)
    obtain rfl : m2 = r2 := Option.some.inj (q3.symm.trans hn)
    rw [Launch.admits_selectMethod X.admits]; exact q4
  have hsel0 := hsel (t := Bundle.tFill0) (by decide +kernel) Y.fill0 (State.methodFound?_of_named Y.fill0 (by decide))
  have hselF := hsel (t := Bundle.tFill) (by decide +kernel) Y.fill (State.methodFound?_of_named Y.fill (by decide))
  obtain ⟨cS0, hcS0, hiss⟩ := Y.statics
  obtain ⟨u0, hu0⟩ := Cond.staticRefV Y.unassigned L.unassignedStatic L.statics hcS0 hiss (at_ (w := .isRef (.static Bundle.tN "UNASSIGNED_STACK" Bundle.steD)) (by decide +kernel))
  obtain ⟨sen, hsen⟩ := Cond.staticRefV Y.sentinel L.sentinelStatic L.statics hcS0 hiss (at_ (w := .isRef (.static Bundle.tN "SUPPRESSED_SENTINEL" Bundle.listD)) (by decide +kernel))
  obtain ⟨cB, iB, fB, hkB, hgB, haB, hsB, -, hnB, htB, hffB⟩ := Cond.ownField (t := .object "java/lang/Object") Y.found L.cls (by decide +kernel) (at_ (w := .fieldLink Bundle.tN 198 Bundle.tN "backtrace" "Ljava/lang/Object;") (by decide +kernel)) (at_ (w := .lays Bundle.tN Bundle.tN "backtrace" "Ljava/lang/Object;") (by decide +kernel)) e.platform hpl
  obtain ⟨cS, hcS, heS, -, hkeep⟩ := X.same.2.2.2.2.2 T.aS cS0 hcS0
  have hno : ∀ i, (⟨T.aS, i⟩ : Loc) ∉ locs := fun i hi => by have h9 := hlocs _ hi cS0 hcS0; rw [hiss] at h9; cases h9
  have hkn : cS.vm ≠ .unknown := by
    rw [heS]
    intro hu
    rw [show cS0.vm = .unknown from hu] at hiss
    cases hiss
  have hne : T.aS ≠ a := Nat.ne_of_lt (Nat.lt_of_lt_of_le (Array.getElem?_eq_some_iff.mp hcS0).1 hnew)
  obtain ⟨iM, hffM⟩ := Y.msg
  obtain ⟨tC, dC, eC, nC⟩ := Cond.laysAt hf hk Y.cause (at_ (w := .lays kx_C Bundle.tN "cause" "Ljava/lang/Throwable;") (by decide +kernel))
  obtain ⟨tS, dS, eS, nS⟩ := Cond.laysAt hf hk Y.stack (at_ (w := .lays kx_C Bundle.tN "stackTrace" Bundle.steD) (by decide +kernel))
  obtain ⟨tP, dP, eP, nP⟩ := Cond.laysAt hf hk Y.supp (at_ (w := .lays kx_C Bundle.tN "suppressedExceptions" Bundle.listD) (by decide +kernel))
  obtain ⟨tM, dM, eM, nM⟩ := Cond.laysAt hf hk hffM (at_ (w := .lays kx_C Bundle.tN "detailMessage" "Ljava/lang/String;") (by decide +kernel))
  obtain ⟨tB, dB, eB, nB⟩ := Cond.laysAt hf hk hffB (at_ (w := .lays kx_C Bundle.tN "backtrace" "Ljava/lang/Object;") (by decide +kernel))
  have bC := Cond.laysApart eB eC nB nC (by rw [hnB, Y.causeName]; decide)
  have bS := Cond.laysApart eB eS nB nS (by rw [hnB, Y.stackName]; decide)
  have bP := Cond.laysApart eB eP nB nP (by rw [hnB, Y.suppName]; decide)
  have hskip : SkipFacts T e.platform s (fun u => u) u0 ((preparedCellV T.toThrowableT (freshCell P1.m.cls kX) a u0 sen).withEntry W.cur) := ⟨{ ci198 := cB, i198 := iB, fBack := fB }, ⟨hkB, hgB, haB, hsB⟩, by
    have h9 := fresh_default (c := P1.m.cls) tB
    rw [htB] at h9
    simpa [preparedCellV, Cell.setSlot, Cell.withEntry, Array.getElem?_setIfInBounds, bC, bS, bP, bC.symm, bS.symm, bP.symm, defaultValue] using h9, fun _ _ => rfl⟩
  obtain ⟨tm, mC, cdC, kC, vm₁, hn1, -, -, -, -, -, -, -, hW₁, st1⟩ := Steps.initColdS (tb := p.tables) (e := e) (below := below) (s := s) (U := W) X.here hexec X.warmed hpl hown (t := Bundle.initS kx_C) rfl rfl (by decide)
    (at_ (w := .methodLink RX10 298 (Bundle.initS kx_C)) (by decide +kernel)) (ho (.instanceMethod (Bundle.initS kx_C)) (by decide +kernel)) (bytes := kx_rx) (maxL := 2) (ho (.code (Bundle.initS kx_C) kx_rx 2 none) (by decide +kernel))
    (f := g) hg (a := a) (msg := msg) (rest := .ref a :: rest) hstack hd6
  obtain rfl : tm = P1.m := Option.some.inj (hn1.symm.trans hPm)
  obtain ⟨vm₂, X₂, st2⟩ := (X.noted hW₁).ctorMessageOffV hexec (g := { g with stack := .ref a :: rest }) hg hsize T L Z LZ M LM (P1 :: Ps)
    (fun P hP => (List.mem_cons.mp hP).elim (fun q => by rw [q]; exact L1) (hL P)) ⟨hl1, hl2⟩ (u0 := u0) (sen := sen) (self := a) hmsg (cell := freshCell P1.m.cls kX) (cellS := cS)
    hcell (fun _ => by simp) (by simp) rfl rfl hsel0 hselF hcS hne hkn (by rw [hkeep _ (hno _)]; exact hu0) (by rw [hkeep _ (hno _)]; exact hsen)
    (Takes.of_laid hk hord tC (by rw [Y.causeType]; rfl)) (Takes.of_laid hk hord tS (by rw [Y.stackType]; exact fits_refV_array _ u0)) (Takes.of_laid hk hord tP (by rw [Y.suppType]; exact fits_refV_object _ sen))
    (Takes.of_laid hk hord tM (by rw [Y.msgType]; exact fits_refV_object _ ⟨msg, hmsg⟩)) Y.objLocals hskip htr [] hd6
    (by simp only [List.length_cons, hlen]; omega) (by simp only [List.length_cons, hlen]; exact hRl)
  obtain ⟨hwalk, hrun, hended, hWU, hsame⟩ := X₂.athrowLeaves hexec (g := { g with stack := .ref a :: rest, pc := g.pc + 3 }) hg hlocked hentered hout (a := a) (rest := rest) rfl hd9
  have hlt : a < ((W.setVm vm₁).setVm vm₂).heap.size := (Array.getElem?_eq_some_iff.mp hcell).1
  refine ⟨_, st1 _ (fun acts => by rw [doInvoke_state]; exact st2 _ hwalk), hrun, hended, hWU, hsame.weaken (fun y hy hlt' => (List.mem_append.mp hy).elim id (fun h1 => ?_)) (Nat.le_refl _) (Nat.le_refl _), _, heapAt_setCell_self (s := (W.setVm vm₁).setVm vm₂) (plainBareV T.toThrowableT (freshCell P1.m.cls kX) a u0 sen msg) hlt, hf, rfl⟩
  have hb : y.base = a := by
    simp only [List.mem_cons, List.not_mem_nil, or_false] at h1
    rcases h1 with rfl | rfl | rfl | rfl | rfl <;> rfl
  rw [hb] at hlt'
  exact absurd hnew (Nat.not_le.mpr hlt')
end
section
variable {p : Program} {l : Launch} {e : Env} {R : Room} {s : State} {m : MethodId} {args : Array Value} {below : List Frame} {meth : Method} {c : Code} {H : Heap} {locs : List Loc} {cells slots : Nat} {ls : Array Slot} {rest : List Value}
variable {Qc : Array Value → State → Outcome → State → Prop} {XC : String → State → State → Prop} {free : Addr → Prop}
/-- 'throw new NoSuchElementException(text)', the text by a wide index: as vx_throwSW -/
theorem kx_throw {cc : ByteArray} {pc : Nat} (hexec : p.tables.exec = Jvm.exec) (hb : c.code = cc) (hl : l.stackTraces = false) {text : String} {ik is mc ms sa : Nat} {A : Nat → Prop}
    (hown : s.vm.findClass RX10 = some m.cls) (hk : (Cond.classLink RX10 ik kx_C).before args s = true) (hini : (Cond.initialized kx_C).before args s = true) (hstr : vk_R RX10 is text sa s) (hat : ∀ w ∈ kx_atN, w.before args s = true)
    (hgood : ∀ w ∈ Cond.classLink RX10 ik kx_C :: Cond.initialized kx_C :: kx_atN, vx_ot w = true)
    (hU : vx_Zq Bundle.tN "UNASSIGNED_STACK" Bundle.steD A s s.heap) (hN : vx_Zq Bundle.tN "SUPPRESSED_SENTINEL" Bundle.listD A s s.heap) (hS : va_S A s.heap H locs) (hsize : ls.size = c.maxLocals)
    (d0 : decode cc pc = .ok (.new ik, 3)) (d3 : decode cc (pc + 3) = .ok (.dup, 1)) (d4 : decode cc (pc + 4) = .ok (.ldc_w is, 3)) (d7 : decode cc (pc + 7) = .ok (.invokespecial 298, 3)) (d10 : decode cc (pc + 10) = .ok (.athrow, 1))
    (hout : ∀ x ∈ c.exceptionTable.toList, covers x (pc + 10) = false)
    (hRf : 5 < R.frames) (hRl : (rest.map fun v => v.category).sum + 82 ≤ R.locals) (hRc : cells + 1 ≤ R.cells) (hRs : slots + 6 ≤ R.slots) (hlocks : meth.locks = false)
    (hx : ∀ t : State, s.vm.Alike t.vm → H.size ≤ t.heap.size → (∀ q : Nat, q < H.size → t.heap[q]? = H[q]?) → XC kx_C s t)
    (hf : ∀ z ∈ locs, free z.base) (hc : cells + 1 ≤ mc) (hs : slots + 6 ≤ ms) :
    W p l e R s m args below meth c H locs cells slots (vx_MQ below Qc XC args s mc ms free) (F0 m pc ls rest) := by
  intro T hT X
  have htr : e.platform.stackTraces = false := (show e.platform.stackTraces = l.stackTraces by rw [X.admits.platform]).trans hl
  have Y := vx_rebase X (R' := { frames := R.frames, locals := R.locals, cells := 1, slots := 6 }) (Nat.le_refl _) (Nat.le_refl _) hRc hRs
  obtain ⟨s', hA⟩ : ∃ z, z = (T.setVm s.vm).setFrames (.invoking m args :: below) := ⟨_, rfl⟩
  rw [← hA] at Y
  have hvm : s'.vm = s.vm := by rw [hA]; rfl
  have hhp : s'.heap = H := by rw [hA]; exact hT
  have hW0 : s.WarmedH s'.vm := by rw [hvm]; exact State.WarmedH.refl s
  have ot : ∀ {w}, w ∈ Cond.classLink RX10 ik kx_C :: Cond.initialized kx_C :: kx_atN → w.before args s = true → w.before args s' = true := fun hw hq => vx_ot_at hW0 hvm.symm (hgood _ hw) hq
  have hU' : vx_Zq Bundle.tN "UNASSIGNED_STACK" Bundle.steD A s' s'.heap := by rw [hhp]; exact vx_Zq.moved hW0.alike (hU.kept hS.2.1)
  have hN' : vx_Zq Bundle.tN "SUPPRESSED_SENTINEL" Bundle.listD A s' s'.heap := by rw [hhp]; exact vx_Zq.moved hW0.alike (hN.kept hS.2.1)
  have h := kx_here (fun w hw => ot (List.mem_cons_of_mem _ (List.mem_cons_of_mem _ hw)) (hat w hw)) (vx_isRefq hU'.1) (vx_isRefq hN'.1) hU'.2.word hN'.2.word
  have hown' : s'.vm.findClass RX10 = some m.cls := by rw [hvm]; exact hown
  obtain ⟨vm₁, cX, kX, hfX, hkX, -, -, X₁, st1⟩ := Y.newCold hexec (own := RX10) (C := kx_C) (index := ik) (n := 6) hown' (ot List.mem_cons_self hk) (h _ (kx_in2 (.instantiable kx_C 6) (by decide +kernel))) (ot (List.mem_cons_of_mem _ List.mem_cons_self) hini)
    (g := F0 m pc ls rest) rfl (by rw [hb]; exact d0) (Nat.le_refl _) (Nat.le_refl _)
  generalize hT1 : (T.setVm vm₁).pushCell { cls := cX, slots := kX.instanceTypes.map defaultValue, vm := .none } = T1 at X₁ st1
  have hcat : (Value.ref T.heap.size).category = 1 := rfl
  have hcellA : T1.heap[T.heap.size]? = some (freshCell cX kX) := by rw [← hT1]; exact State.heap_pushCell_size _ _
  have d3' : decode c.code (pc + 3) = .ok (.dup, 1) := by rw [hb]; exact d3
  have hstr' : vk_R RX10 is text sa s' := vk_R.warm hW0 hstr
  obtain ⟨U, hsteps, hrun, hend, hW, hsame, ce, hce, hcl0, hvmn⟩ := kx_ctor X₁ hexec htr hown' h (fun x hx => nomatch hx) hfX hkX hcellA (by rw [hhp, hT]; exact Nat.le_refl _) (msg := .ref sa) rfl
    (g := { method := m, pc := pc + 7, locals := ls, stack := .ref sa :: .ref T.heap.size :: .ref T.heap.size :: rest, locked := none }) rfl hsize rfl rfl (rest := rest) rfl
    (by rw [hb]; exact d7) (by rw [hb]; exact d10) hout hRf (by simp only [List.map_cons, List.sum_cons, hcat]; omega) hlocks
  obtain ⟨f1, f2⟩ := vx_frame hsame
  rw [hhp] at f1 f2
  rw [hvm] at hcl0
  have hWs : s.WarmedH U.vm := State.WarmedH.trans hW0 hW
  have hall : s.sameButNew ({ U with vm := s.vm } : State) locs mc ms := by
    subst hA
    obtain ⟨e1, e2⟩ := hsame
    rw [State.setFrames_setFrames] at e1
    have h3 := X.same.trans (show (T.setVm s.vm).sameButNew ({ U with vm := s.vm } : State) [] (0 + 1) (0 + 6) from ⟨e1, e2⟩)
    rw [List.append_nil] at h3
    exact h3.mono hc hs
  refine ⟨U, st1 _ ?_, .threw T.heap.size, hrun, hend, Or.inr ⟨T.heap.size, rfl, kx_C, ce, locs, hx U hWs.alike f1 (fun q hq => f2 q hq (fun z hz => nomatch hz)), hce, hvmn, hcl0, hWs, hall, hf⟩⟩
  show Steps p.tables e below (T1.setTop { method := m, pc := pc + 3, locals := ls, stack := .ref T.heap.size :: rest, locked := none }) _
  jvm_step X₁.here [X₁.here.top, hexec, d3', Value.category]
  exact X₁.ldcStringW hexec (own := RX10) (text := text) (index := is) (a := sa) hown' hstr'.1 hstr'.2
    (g := { method := m, pc := pc + 4, locals := ls, stack := .ref T.heap.size :: .ref T.heap.size :: rest, locked := none }) rfl (by rw [hb]; exact d4) _ hsteps
end
theorem kx_bad : ∀ w ∈ kx_atN.filter (fun w => !goodWord w), w ∈ kBad := by decide +kernel
theorem kx_good : ∀ w ∈ Cond.classLink RX10 294 kx_C :: Cond.initialized kx_C :: kx_atN, vx_ot w = true := by decide +kernel
theorem kv_throwN {dd : kDD} {g : kG} {cc : ByteArray} {own : String} {Ts : List Cond} {a b pc : Nat} {lv : List (Nat × Value)} {st : List Value} {ks : List Nat} {ad : Nat → Nat} {E : Nat → va_E} (C : kX dd g cc own Ts) {xp : String → kT → Prop} {mc ms : Nat} {text : String} {is : Nat} {RR : Room} (hRX : kRX dd g xp mc ms) (ho : own = RX10) (hk : Cond.classLink RX10 294 kx_C ∈ Ts) (hini : Cond.initialized kx_C ∈ Ts) (hstr : (RX10, is, text) ∈ kStr) (hat : ∀ w ∈ kx_atN.filter goodWord, w ∈ Ts) (d0 : decode cc pc = .ok (.new 294, 3)) (d3 : decode cc (pc + 3) = .ok (.dup, 1)) (d4 : decode cc (pc + 4) = .ok (.ldc_w is, 3)) (d6 : decode cc (pc + 7) = .ok (.invokespecial 298, 3)) (d9 : decode cc (pc + 10) = .ok (.athrow, 1)) (hRR : kR g = RR) (hw : (st.map fun v => v.category).sum ≤ 8) (hrm : 5 < RR.frames ∧ 90 ≤ RR.locals ∧ a + 1 ≤ RR.cells ∧ b + 6 ≤ RR.slots) (hc : a + 1 ≤ mc) (hs : b + 6 ≤ ms) (hp : xp kx_C (ks, ad, E))  : kv dd g a b pc lv st ks ad E := by
  obtain ⟨p, l, e, R, s, m, args, below, meth, c, Q, A, nL⟩ := g
  obtain ⟨hx, hb, hown, hts, hK, hA, hml, hZ, hst⟩ := C
  intro H locs ls hP hD hS hl
  subst hRR
  subst ho
  obtain ⟨Qc, r1x, r2x, r3x, r4x⟩ := hRX
  obtain ⟨sa, hsa⟩ := hZ.2.2.2.2.1 _ hstr
  refine r1x H locs _ _ _ (kx_throw (sa := sa) (A := A) (text := text) hx hb hst hown (hts _ hk) (hts _ hini) hsa (vx_hat (fun w hw => hts w (hat w hw)) kx_bad (kBad_ok hZ)) kx_good hZ.1 hZ.2.1 hS (hl.1.trans hml.symm) d0 d3 d4 d6 d9 (fun z hz => (r4x z hz).elim) hrm.1 (Nat.le_trans (Nat.add_le_add_right hw _) hrm.2.1) hrm.2.2.1 hrm.2.2.2 r3x (fun t hvm hz hk2 => ⟨(ks, ad, E), trivial, ⟨hp, hP.kept (fun k9 x hx9 => hk2 x.1 ((hP k9 x hx9).lt)), va_K.moved hvm hK, hD⟩, ⟨Nat.le_trans hS.1 hz, fun q h1 h2 => (hk2 q (Nat.lt_of_lt_of_le h1 hS.1)).trans (hS.2.1 q h1 h2)⟩⟩) hS.2.2 hc hs)
def kFq (Ts : List Cond) (own : String) (index ci kk : Nat) (ty : FieldType) : Prop := ∃ (ref Cn : String) (T : u_T) (N : Nat) (ty0 : Nat → FieldType), (∀ w ∈ u_ws Cn T N, w ∈ Ts) ∧ (∀ k, k < N → parseFieldDescriptor (T k).2.2.1 = some (ty0 k)) ∧ (∀ a, a < N → ∀ b, b < N → a ≠ b → (T a).2.1 ≠ (T b).2.1) ∧ Cond.fieldLink own index ref (T kk).2.1 (T kk).2.2.1 ∈ Ts ∧ vwCl[ci]? = some (Cn, T, N) ∧ kk < N ∧ ref = (T kk).1 ∧ (T kk).2.2.2 = false ∧ parseFieldDescriptor (T kk).2.2.1 = some ty
theorem kv_putfieldO {dd : kDD} {g : kG} {cc : ByteArray} {own : String} {Ts : List Cond} {a b pc : Nat} {lv : List (Nat × Value)} {st : List Value} {ks : List Nat} {ad : Nat → Nat} {E : Nat → va_E} (C : kX dd g cc own Ts) {index ci kk κ : Nat} {ty : FieldType} {fs : List Value} {v : Value} (hf : kFq Ts own index ci kk ty) (hκ : κ ∈ ks) (hE : E κ = .inr (ci, fs)) (hn : narrow ty v = v) (hfit : fits ty v = true) (hlen : kk < fs.length) (d : decode cc pc = .ok (.putfield index, 3)) (k : kv dd g a b (pc + 3) lv st ks ad (va_up E κ (.inr (ci, fs.set kk v)))) : kv dd g a b pc lv (v :: .ref (ad κ) :: st) ks ad E := by
  obtain ⟨p, l, e, R, s, m, args, below, meth, c, Q, A, nL⟩ := g
  obtain ⟨hx, hb, hown, hts, hK, hA, hml, hZ, hst⟩ := C
  intro H locs ls hP hD hS hl
  obtain ⟨ref, Cn, T, N, ty0, h1, h1b, h1c, h2, h3, h4, h5, h6, h7⟩ := hf
  obtain ⟨i, hi⟩ := kw_get (ad := ad) (E := E) hκ
  have hi2 := hi
  rw [hE] at hi2
  refine va_put (ref := ref) (C := Cn) (T := T) (N := N) hx hb hts h1 ty0 h1b h1c hown hK hP hD hS i hi2 h3 kk h4 (hts _ h2) (fun _ h9 => by rw [h5]; exact h9) h6 h7 hn hfit hlen d (fun H1 locs1 hP1 hD1 hS1 => k H1 locs1 ls ?_ ?_ hS1 hl)
  · rw [kw_set hD hκ hi] at hP1; exact hP1
  · rw [kw_set hD hκ hi] at hD1; exact hD1

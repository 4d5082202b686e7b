/-! WHAT THE ENTRY GIVES -/
set_option maxRecDepth 100000 in
set_option maxHeartbeats 4000000 in
theorem kHp_in : ∀ w ∈ kHp, w ∈ lw_tbl := by decide +kernel
set_option maxRecDepth 100000 in
set_option maxHeartbeats 4000000 in
theorem wsLaw_in : ∀ w ∈ wsLaw, w ∈ lw_tbl := fun w h => (List.mem_append.mp h).elim (wsL_law_in w) (kHp_in w)
set_option maxRecDepth 100000 in
set_option maxHeartbeats 4000000 in
abbrev lw_G : Cond := Jvm.Cond.and given_1 narrow_1
set_option maxRecDepth 100000 in
set_option maxHeartbeats 4000000 in
theorem en_w {b : Nat} {s : State} (hts : ∀ w ∈ lw_tbl, w.before #[Value.ref b] s = true) (w : Cond) (h : w ∈ lw_tbl) (ho : w.onTables = true) : va_Nw w s := va_Nw.of ho (hts w h)
set_option maxRecDepth 100000 in
set_option maxHeartbeats 4000000 in
theorem en_c0 {b : Nat} {s : State} (hts : ∀ w ∈ lw_tbl, w.before #[Value.ref b] s = true) : ∃ cC iS, u_Kn s RJ0 TJ0 2 cC iS := u_known (n := 4) hts inJ0 (hts (.instantiable RJ0 4) (by decide +kernel))
set_option maxRecDepth 100000 in
set_option maxHeartbeats 4000000 in
theorem en_c1 {b : Nat} {s : State} (hts : ∀ w ∈ lw_tbl, w.before #[Value.ref b] s = true) : ∃ cC iS, u_Kn s RJx00060 TJx00060 6 cC iS := u_known (n := 6) hts inJx00060 (hts (.instantiable RJx00060 6) (by decide +kernel))
set_option maxRecDepth 100000 in
set_option maxHeartbeats 4000000 in
theorem en_c2 {b : Nat} {s : State} (hts : ∀ w ∈ lw_tbl, w.before #[Value.ref b] s = true) : ∃ cC iS, u_Kn s RJx4a65c TJx4a65c 3 cC iS := u_known (n := 3) hts inJx4a65c (hts (.instantiable RJx4a65c 3) (by decide +kernel))
set_option maxRecDepth 100000 in
set_option maxHeartbeats 4000000 in
theorem en_c3 {b : Nat} {s : State} (hts : ∀ w ∈ lw_tbl, w.before #[Value.ref b] s = true) : ∃ cC iS, u_Kn s RX0 TX0 3 cC iS := u_known (n := 3) hts inX0 (hts (.instantiable RX0 3) (by decide +kernel))
set_option maxRecDepth 100000 in
set_option maxHeartbeats 4000000 in
theorem en_c4 {b : Nat} {s : State} (hts : ∀ w ∈ lw_tbl, w.before #[Value.ref b] s = true) : ∃ cC iS, u_Kn s RX1 TX1 3 cC iS := u_known (n := 3) hts inX1 (hts (.instantiable RX1 3) (by decide +kernel))
set_option maxRecDepth 100000 in
set_option maxHeartbeats 4000000 in
theorem en_c5 {b : Nat} {s : State} (hts : ∀ w ∈ lw_tbl, w.before #[Value.ref b] s = true) : ∃ cC iS, u_Kn s RX2 TX2 9 cC iS := u_known (n := 9) hts inX2 (hts (.instantiable RX2 9) (by decide +kernel))
set_option maxRecDepth 100000 in
set_option maxHeartbeats 4000000 in
theorem en_c6 {b : Nat} {s : State} (hts : ∀ w ∈ lw_tbl, w.before #[Value.ref b] s = true) : ∃ cC iS, u_Kn s RX3 TX3 2 cC iS := u_known (n := 2) hts inX3 (hts (.instantiable RX3 2) (by decide +kernel))
set_option maxRecDepth 100000 in
set_option maxHeartbeats 4000000 in
theorem en_c7 {b : Nat} {s : State} (hts : ∀ w ∈ lw_tbl, w.before #[Value.ref b] s = true) : ∃ cC iS, u_Kn s RX4 TX4 2 cC iS := u_known (n := 2) hts inX4 (hts (.instantiable RX4 2) (by decide +kernel))
set_option maxRecDepth 100000 in
set_option maxHeartbeats 4000000 in
theorem en_c8 {b : Nat} {s : State} (hts : ∀ w ∈ lw_tbl, w.before #[Value.ref b] s = true) : ∃ cC iS, u_Kn s RX5 TX5 2 cC iS := u_known (n := 2) hts inX5 (hts (.instantiable RX5 2) (by decide +kernel))
set_option maxRecDepth 100000 in
set_option maxHeartbeats 4000000 in
theorem en_c9 {b : Nat} {s : State} (hts : ∀ w ∈ lw_tbl, w.before #[Value.ref b] s = true) : ∃ cC iS, u_Kn s RX6 TX6 7 cC iS := u_known (n := 7) hts inX6 (hts (.instantiable RX6 7) (by decide +kernel))
set_option maxRecDepth 100000 in
set_option maxHeartbeats 4000000 in
theorem en_c10 {b : Nat} {s : State} (hts : ∀ w ∈ lw_tbl, w.before #[Value.ref b] s = true) : ∃ cC iS, u_Kn s RX7 TX7 4 cC iS := u_known (n := 4) hts inX7 (hts (.instantiable RX7 4) (by decide +kernel))
set_option maxRecDepth 100000 in
set_option maxHeartbeats 4000000 in
theorem en_c11 {b : Nat} {s : State} (hts : ∀ w ∈ lw_tbl, w.before #[Value.ref b] s = true) : ∃ cC iS, u_Kn s RX8 TX8 2 cC iS := u_known (n := 2) hts inX8 (hts (.instantiable RX8 2) (by decide +kernel))
set_option maxRecDepth 100000 in
set_option maxHeartbeats 4000000 in
theorem en_c12 {b : Nat} {s : State} (hts : ∀ w ∈ lw_tbl, w.before #[Value.ref b] s = true) : ∃ cC iS, u_Kn s RX9 TX9 2 cC iS := u_known (n := 2) hts inX9 (hts (.instantiable RX9 2) (by decide +kernel))
set_option maxRecDepth 100000 in
set_option maxHeartbeats 4000000 in
theorem en_c13 {b : Nat} {s : State} (hts : ∀ w ∈ lw_tbl, w.before #[Value.ref b] s = true) : ∃ cC iS, u_Kn s RX10 TX10 3 cC iS := u_known (n := 3) hts inX10 (hts (.instantiable RX10 3) (by decide +kernel))
set_option maxRecDepth 100000 in
set_option maxHeartbeats 4000000 in
theorem en_tI {b : Nat} {s : State} (hts : ∀ w ∈ lw_tbl, w.before #[Value.ref b] s = true) : ∃ c : ClassId, ArrOfT s c .int ∧ va_RA s c .int := by
  obtain ⟨c, k, comp, h1, h2, h3⟩ := Cond.arrayClass_spec (hts (.arrayClass .int) (by decide +kernel))
  exact ⟨c, fun n z => ⟨(fun k h => by cases h), k, h2, comp, h3⟩, h1⟩
set_option maxRecDepth 100000 in
set_option maxHeartbeats 4000000 in
theorem en_tJ {b : Nat} {s : State} (hts : ∀ w ∈ lw_tbl, w.before #[Value.ref b] s = true) : ∃ c : ClassId, ArrOfT s c .long ∧ va_RA s c .long := by
  obtain ⟨c, k, comp, h1, h2, h3⟩ := Cond.arrayClass_spec (hts (.arrayClass .long) (by decide +kernel))
  exact ⟨c, fun n z => ⟨(fun k h => by cases h), k, h2, comp, h3⟩, h1⟩
set_option maxRecDepth 100000 in
set_option maxHeartbeats 4000000 in
theorem en_tO {b : Nat} {s : State} (hts : ∀ w ∈ lw_tbl, w.before #[Value.ref b] s = true) : ∃ c : ClassId, ArrOfT s c (.object "java/lang/Object") ∧ va_RA s c (.object "java/lang/Object") := by
  obtain ⟨comp, c, k, h1, h2, h3, h4, h5⟩ := Cond.arrayOver_spec (hts (.arrayOver (.object "java/lang/Object")) (by decide +kernel))
  exact ⟨c, fun n z => ⟨(fun k h => by cases h), k, h3, comp, h4⟩, k, comp, h3, h4, h1, h5⟩
set_option maxRecDepth 100000 in
set_option maxHeartbeats 4000000 in
theorem en_tA {b : Nat} {s : State} (hts : ∀ w ∈ lw_tbl, w.before #[Value.ref b] s = true) : ∃ c : ClassId, ArrOfT s c (.array .long) ∧ va_RA s c (.array .long) := by
  obtain ⟨comp, c, k, h1, h2, h3, h4, h5⟩ := kAO_spec (hts (.arrayOver (.array .long)) (by decide +kernel))
  exact ⟨c, fun n z => ⟨(fun k h => by cases h), k, h3, comp, h4⟩, h5⟩
set_option maxRecDepth 100000 in
set_option maxHeartbeats 4000000 in
theorem en_hA {s : State} : ∀ a : Nat, a < s.heap.size → ¬ (fun q : Nat => s.heap.size ≤ q) a := fun _ h => Nat.not_le.mpr h
set_option maxRecDepth 100000 in
set_option maxHeartbeats 4000000 in
theorem en_f {b : Nat} {s : State} (hgv : lw_G.before #[Value.ref b] s = true) (w : Cond) (h : w ∈ flatC lw_G) : w.before #[Value.ref b] s = true := flat_of_before _ hgv w h
set_option maxRecDepth 100000 in
set_option maxHeartbeats 4000000 in
theorem en_zu {b : Nat} {s : State} (hts : ∀ w ∈ lw_tbl, w.before #[Value.ref b] s = true) (hgv : lw_G.before #[Value.ref b] s = true) : vx_Zq Bundle.tN "UNASSIGNED_STACK" Bundle.steD (fun q : Nat => s.heap.size ≤ q) s s.heap := vx_Zqof (hts (.laysStatic Bundle.tN "UNASSIGNED_STACK" Bundle.steD) (by decide +kernel)) (hts (.initialized Bundle.tN) (by decide +kernel)) (en_f hgv (.isRef (.static Bundle.tN "UNASSIGNED_STACK" Bundle.steD)) (by decide +kernel)) en_hA
set_option maxRecDepth 100000 in
set_option maxHeartbeats 4000000 in
theorem en_zs {b : Nat} {s : State} (hts : ∀ w ∈ lw_tbl, w.before #[Value.ref b] s = true) (hgv : lw_G.before #[Value.ref b] s = true) : vx_Zq Bundle.tN "SUPPRESSED_SENTINEL" Bundle.listD (fun q : Nat => s.heap.size ≤ q) s s.heap := vx_Zqof (hts (.laysStatic Bundle.tN "SUPPRESSED_SENTINEL" Bundle.listD) (by decide +kernel)) (hts (.initialized Bundle.tN) (by decide +kernel)) (en_f hgv (.isRef (.static Bundle.tN "SUPPRESSED_SENTINEL" Bundle.listD)) (by decide +kernel)) en_hA
set_option maxRecDepth 100000 in
set_option maxHeartbeats 4000000 in
theorem en_e {b : Nat} {s : State} (hts : ∀ w ∈ lw_tbl, w.before #[Value.ref b] s = true) (hgv : lw_G.before #[Value.ref b] s = true) : ∃ t : Nat, va_Z "java/util/ArrayList" "DEFAULTCAPACITY_EMPTY_ELEMENTDATA" "[Ljava/lang/Object;" (.ref t) (fun q : Nat => s.heap.size ≤ q) s s.heap ∧ va_T (.object "java/lang/Object") t 0 (fun _ => .null) (fun q : Nat => s.heap.size ≤ q) s s.heap := by
  obtain ⟨t, h1, h2⟩ := va_Tof (tm := (.static "java/util/ArrayList" "DEFAULTCAPACITY_EMPTY_ELEMENTDATA" "[Ljava/lang/Object;")) (ty := .object "java/lang/Object") (N := 0) (f := fun _ => .null) (A := (fun q : Nat => s.heap.size ≤ q)) (by decide) (en_f hgv (.arrayOf (.static "java/util/ArrayList" "DEFAULTCAPACITY_EMPTY_ELEMENTDATA" "[Ljava/lang/Object;") (.object "java/lang/Object")) (by decide +kernel)) (va_eqt (en_f hgv (.eq (.length (.static "java/util/ArrayList" "DEFAULTCAPACITY_EMPTY_ELEMENTDATA" "[Ljava/lang/Object;")) (.int 0)) (by decide +kernel))) (fun j hj => absurd hj (Nat.not_lt_zero j)) en_hA
  exact ⟨t, va_Zof (hts (.laysStatic "java/util/ArrayList" "DEFAULTCAPACITY_EMPTY_ELEMENTDATA" "[Ljava/lang/Object;") (by decide +kernel)) (hts (.initialized "java/util/ArrayList") (by decide +kernel)) h1 en_hA, h2⟩
set_option maxRecDepth 100000 in
set_option maxHeartbeats 4000000 in
theorem en_s1 : ∀ q ∈ kStr, Cond.stringRef q.1 q.2.1 q.2.2 ∈ lw_tbl := by decide +kernel
set_option maxRecDepth 100000 in
set_option maxHeartbeats 4000000 in
theorem en_s2 : ∀ q ∈ kStr, Cond.exactly (.string q.1 q.2.1) "java/lang/String" ∈ flatC lw_G := by decide +kernel
set_option maxRecDepth 100000 in
set_option maxHeartbeats 4000000 in
theorem en_s {b : Nat} {s : State} (hts : ∀ w ∈ lw_tbl, w.before #[Value.ref b] s = true) (hgv : lw_G.before #[Value.ref b] s = true) : ∀ q ∈ kStr, ∃ sa, vk_R q.1 q.2.1 q.2.2 sa s := by
  intro q hq
  obtain ⟨a, c, cA, kA, q1, -⟩ := Cond.exactly_spec (args := #[Value.ref b]) (first := s) (o := none) (s := s) (idx := []) (t := .string q.1 q.2.1) (cls := "java/lang/String") (en_f hgv _ (en_s2 q hq))
  exact ⟨a, vk_R.of (hts _ (en_s1 q hq)) q1⟩
set_option maxRecDepth 100000 in
set_option maxHeartbeats 4000000 in
theorem en_k1 : ∀ q ∈ kCst, Cond.castable q.1 q.2 ∈ lw_tbl ∧ (Cond.castable q.1 q.2).onTables = true := by decide +kernel
set_option maxRecDepth 100000 in
set_option maxHeartbeats 4000000 in
theorem en_k2 : ∀ q ∈ kNsF, Cond.fieldLinkNest q.1 q.2.1 q.2.2.1 q.2.2.2.1 q.2.2.2.2.1 q.2.2.2.2.2 ∈ lw_tbl ∧ (Cond.fieldLinkNest q.1 q.2.1 q.2.2.1 q.2.2.2.1 q.2.2.2.2.1 q.2.2.2.2.2).onTables = true := by decide +kernel
set_option maxRecDepth 100000 in
set_option maxHeartbeats 4000000 in
theorem en_k3 : ∀ q ∈ kNsM, Cond.methodLinkNest q.1 q.2.1 q.2.2.1 q.2.2.2 ∈ lw_tbl ∧ (Cond.methodLinkNest q.1 q.2.1 q.2.2.1 q.2.2.2).onTables = true := by decide +kernel
set_option maxRecDepth 100000 in
set_option maxHeartbeats 4000000 in
theorem en_k4 : ∀ q ∈ kNcs, Cond.not (Cond.castable q.1 q.2) ∈ flatC lw_G := by decide +kernel
set_option maxRecDepth 100000 in
set_option maxHeartbeats 4000000 in
theorem en_k5 : ∀ q ∈ kDcl, Cond.declares q ∈ lw_tbl ∧ (Cond.declares q).onTables = true := by decide +kernel
set_option maxRecDepth 100000 in
set_option maxHeartbeats 4000000 in
theorem en_st {b : Nat} {s : State} (hts : ∀ w ∈ lw_tbl, w.before #[Value.ref b] s = true) (hgv : lw_G.before #[Value.ref b] s = true) : ∃ tE : Nat × Nat, kSt tE (fun q : Nat => s.heap.size ≤ q) s s.heap := by
  obtain ⟨t, h1, h2⟩ := en_e hts hgv
  obtain ⟨mi, h3⟩ := va_Mi.of (C := "[Ljava/lang/Object;") (en_f hgv (.isRef (.mirror "[Ljava/lang/Object;")) (by decide +kernel))
  refine ⟨(t, mi), en_zu hts hgv, en_zs hts hgv, h1, h2, en_s hts hgv, fun q hq => en_w hts _ (en_k1 q hq).1 (en_k1 q hq).2, fun q hq => en_w hts _ (en_k2 q hq).1 (en_k2 q hq).2, fun q hq => en_w hts _ (en_k3 q hq).1 (en_k3 q hq).2, va_AO.of (hts (.arrayOver (.object "java/lang/Object")) (by decide +kernel)), va_AOA.of (hts (.arrayOver (.array .long)) (by decide +kernel)), va_Dc.of (hts (.declares ⟨"java/lang/Object", "getClass", "()Ljava/lang/Class;"⟩) (by decide +kernel)), h3, fun q hq => va_Nc.of (en_f hgv _ (en_k4 q hq)), fun q hq => en_w hts _ (en_k5 q hq).1 (en_k5 q hq).2⟩
set_option maxRecDepth 100000 in
set_option maxHeartbeats 4000000 in
theorem en_K {b : Nat} {s : State} (hts : ∀ w ∈ lw_tbl, w.before #[Value.ref b] s = true) (m : Nat × Nat) : ∃ dd : kDD, va_K dd.1 vwCl (kty dd) s ∧ ktE dd = m := by
  obtain ⟨c0, i0, h0⟩ := en_c0 hts
  obtain ⟨c1, i1, h1⟩ := en_c1 hts
  obtain ⟨c2, i2, h2⟩ := en_c2 hts
  obtain ⟨c3, i3, h3⟩ := en_c3 hts
  obtain ⟨c4, i4, h4⟩ := en_c4 hts
  obtain ⟨c5, i5, h5⟩ := en_c5 hts
  obtain ⟨c6, i6, h6⟩ := en_c6 hts
  obtain ⟨c7, i7, h7⟩ := en_c7 hts
  obtain ⟨c8, i8, h8⟩ := en_c8 hts
  obtain ⟨c9, i9, h9⟩ := en_c9 hts
  obtain ⟨c10, i10, h10⟩ := en_c10 hts
  obtain ⟨c11, i11, h11⟩ := en_c11 hts
  obtain ⟨c12, i12, h12⟩ := en_c12 hts
  obtain ⟨c13, i13, h13⟩ := en_c13 hts
  obtain ⟨tI, hI1, hI2⟩ := en_tI hts
  obtain ⟨tJ, hJ1, hJ2⟩ := en_tJ hts
  obtain ⟨tO, hO1, hO2⟩ := en_tO hts
  obtain ⟨tA, hA1, hA2⟩ := en_tA hts
  refine ⟨((fun k => if k = 0 then c0 else if k = 1 then c1 else if k = 2 then c2 else if k = 3 then c3 else if k = 4 then c4 else if k = 5 then c5 else if k = 6 then c6 else if k = 7 then c7 else if k = 8 then c8 else if k = 9 then c9 else if k = 10 then c10 else if k = 11 then c11 else if k = 12 then c12 else c13, fun k => if k = 0 then i0 else if k = 1 then i1 else if k = 2 then i2 else if k = 3 then i3 else if k = 4 then i4 else if k = 5 then i5 else if k = 6 then i6 else if k = 7 then i7 else if k = 8 then i8 else if k = 9 then i9 else if k = 10 then i10 else if k = 11 then i11 else if k = 12 then i12 else i13), tI, tJ, tO, tA, tI, m), ⟨fun k q hq => ?_, fun k q hq => ?_⟩, rfl⟩
  · match k, hq with
    | 0, hq => cases hq; exact h0
    | 1, hq => cases hq; exact h1
    | 2, hq => cases hq; exact h2
    | 3, hq => cases hq; exact h3
    | 4, hq => cases hq; exact h4
    | 5, hq => cases hq; exact h5
    | 6, hq => cases hq; exact h6
    | 7, hq => cases hq; exact h7
    | 8, hq => cases hq; exact h8
    | 9, hq => cases hq; exact h9
    | 10, hq => cases hq; exact h10
    | 11, hq => cases hq; exact h11
    | 12, hq => cases hq; exact h12
    | 13, hq => cases hq; exact h13
    | k + 14, hq => simp [vwCl] at hq
  · match k, hq with
    | 0, hq => cases hq; exact ⟨hI1, hI2⟩
    | 1, hq => cases hq; exact ⟨hJ1, hJ2⟩
    | 2, hq => cases hq; exact ⟨hO1, hO2⟩
    | 3, hq => cases hq; exact ⟨hA1, hA2⟩
    | k + 4, hq => simp [kty] at hq

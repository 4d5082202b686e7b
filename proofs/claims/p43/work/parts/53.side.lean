/-! WORLDS SIDE BY SIDE: c the class's (keys below 1000), r the reference's (from 1000 on), x the law's own (from 2000 on) -/
def cf (u : kT) : kT := (u.1.filter (fun j => decide (j < 1000)), u.2.1, u.2.2)
def jk (c r x : kT) : List Nat := (cf c).1 ++ ((cf r).1.map (fun j => j + 1000) ++ (cf x).1.map (fun j => j + 2000))
def jd (c r x : kT) : Nat → Nat := fun j => if j < 1000 then c.2.1 j else if j < 2000 then r.2.1 (j - 1000) else x.2.1 (j - 2000)
def jE (c r x : kT) : Nat → va_E := fun j => if j < 1000 then c.2.2 j else if j < 2000 then r.2.2 (j - 1000) else x.2.2 (j - 2000)
theorem cf_mem {u : kT} {j : Nat} : j ∈ (cf u).1 ↔ j ∈ u.1 ∧ j < 1000 := by
  show j ∈ u.1.filter _ ↔ _
  rw [List.mem_filter, decide_eq_true_iff]
abbrev kwu (u : kT) : va_W := kw u.1 u.2.1 u.2.2
theorem j_kw {c r x : kT} : kw (jk c r x) (jd c r x) (jE c r x) = kwu (cf c) ++ (kwu (cf r) ++ kwu (cf x)) := by
  have e1 : (cf c).1.map (fun k => (jd c r x k, jE c r x k)) = kwu (cf c) := List.map_congr_left (fun j hj => by
    have h := (cf_mem.mp hj).2
    show (jd c r x j, jE c r x j) = (c.2.1 j, c.2.2 j)
    unfold jd jE
    rw [if_pos h, if_pos h])
  have e2 : ((cf r).1.map (fun j => j + 1000)).map (fun k => (jd c r x k, jE c r x k)) = kwu (cf r) := by
    rw [List.map_map]
    exact List.map_congr_left (fun j hj => by
      have h := (cf_mem.mp hj).2
      show (jd c r x (j + 1000), jE c r x (j + 1000)) = (r.2.1 j, r.2.2 j)
      unfold jd jE
      rw [if_neg (show ¬ j + 1000 < 1000 by omega), if_neg (show ¬ j + 1000 < 1000 by omega), if_pos (show j + 1000 < 2000 by omega), if_pos (show j + 1000 < 2000 by omega), show j + 1000 - 1000 = j by omega])
  have e3 : ((cf x).1.map (fun j => j + 2000)).map (fun k => (jd c r x k, jE c r x k)) = kwu (cf x) := by
    rw [List.map_map]
    exact List.map_congr_left (fun j hj => by
      have h := (cf_mem.mp hj).2
      show (jd c r x (j + 2000), jE c r x (j + 2000)) = (x.2.1 j, x.2.2 j)
      unfold jd jE
      rw [if_neg (show ¬ j + 2000 < 1000 by omega), if_neg (show ¬ j + 2000 < 1000 by omega), if_neg (show ¬ j + 2000 < 2000 by omega), if_neg (show ¬ j + 2000 < 2000 by omega), show j + 2000 - 2000 = j by omega])
  unfold kw jk
  rw [List.map_append, List.map_append, e1, e2, e3]
theorem va_Pl {D : va_G} {cl : List vw_C} {w1 w2 : va_W} {H : Heap} (h : va_P D cl (w1 ++ w2) H) : va_P D cl w1 H ∧ va_P D cl w2 H := by
  refine ⟨fun k q hk => h k q ?_, fun k q hk => h (w1.length + k) q ?_⟩
  · rw [List.getElem?_append_left (List.getElem?_eq_some_iff.mp hk).1]; exact hk
  · rw [List.getElem?_append_right (by omega), show w1.length + k - w1.length = k by omega]; exact hk
theorem va_Dl {A : Nat → Prop} {w1 w2 : va_W} (h : va_D A (w1 ++ w2)) : va_D A w1 ∧ va_D A w2 ∧ ∀ (i j : Nat) (p q : Nat × va_E), w1[i]? = some p → w2[j]? = some q → p.1 ≠ q.1 := by
  have l : ∀ (k : Nat) (q : Nat × va_E), w1[k]? = some q → (w1 ++ w2)[k]? = some q := fun k q hk => by rw [List.getElem?_append_left (List.getElem?_eq_some_iff.mp hk).1]; exact hk
  have r : ∀ (k : Nat) (q : Nat × va_E), w2[k]? = some q → (w1 ++ w2)[w1.length + k]? = some q := fun k q hk => by rw [List.getElem?_append_right (by omega), show w1.length + k - w1.length = k by omega]; exact hk
  refine ⟨⟨fun i j p q hi hj hpq => h.1 i j p q (l i p hi) (l j q hj) hpq, fun k q hk => h.2 k q (l k q hk)⟩, ⟨fun i j p q hi hj hpq => ?_, fun k q hk => h.2 _ q (r k q hk)⟩, fun i j p q hi hj hpq => ?_⟩
  · have := h.1 _ _ p q (r i p hi) (r j q hj) hpq
    omega
  · have := h.1 _ _ p q (l i p hi) (r j q hj) hpq
    have := (List.getElem?_eq_some_iff.mp hi).1
    omega
theorem kw_nd {A : Nat → Prop} {ks : List Nat} {ad : Nat → Nat} {E : Nat → va_E} (hD : va_D A (kw ks ad E)) : ks.Nodup := by
  refine List.pairwise_iff_getElem.mpr (fun i j hi hj hij h => ?_)
  have hx : ks[j]? = some ks[j] := List.getElem?_eq_getElem hj
  have hy : ks[i]? = some ks[j] := by rw [← h]; exact List.getElem?_eq_getElem hi
  have e1 : (kw ks ad E)[i]? = some (ad ks[j], E ks[j]) := by unfold kw; rw [List.getElem?_map, hy]; rfl
  have e2 : (kw ks ad E)[j]? = some (ad ks[j], E ks[j]) := by unfold kw; rw [List.getElem?_map, hx]; rfl
  exact absurd (hD.1 i j _ _ e1 e2 rfl) (by omega)
theorem kC_core {dd : kDD} {sz : Nat} {u0 w0 : kT} {s : State} {P1 P2 : va_W} (e0 : kwu w0 = P1 ++ (kwu u0 ++ P2)) (hpre : kPre dd w0 sz s) :
    kPre dd u0 sz s ∧ (∀ q, kA u0 sz q → kA w0 sz q) ∧ ∀ (t : State) (u1 w1 : kT), kwu w1 = P1 ++ (kwu (cf u1) ++ P2) → kAt dd (kA u0 sz) u1 t → va_F (kA u0 sz) s t → kAt dd (kA w0 sz) w1 t ∧ va_F (kA w0 sz) s t := by
  obtain ⟨h0, hP, hK, hD, hS⟩ := hpre
  have sub : ∀ q, kA u0 sz q → kA w0 sz q := by
    rintro q (⟨k, e, hk⟩ | hq)
    · left
      show ∃ (k : Nat) (e : va_E), (kwu w0)[k]? = some (q, e)
      rw [e0]
      have h1 : (q, e) ∈ P1 ++ (kwu u0 ++ P2) := List.mem_append_right _ (List.mem_append_left _ (List.mem_of_getElem? hk))
      obtain ⟨k2, hk2⟩ := List.getElem?_of_mem h1
      exact ⟨k2, e, hk2⟩
    · exact Or.inr hq
  have inP : ∀ (x : Nat × va_E), (x ∈ P1 ∨ x ∈ P2) → kA w0 sz x.1 := by
    intro x hx
    left
    show ∃ (k : Nat) (e : va_E), (kwu w0)[k]? = some (x.1, e)
    rw [e0]
    have h1 : x ∈ P1 ++ (kwu u0 ++ P2) := hx.elim (fun h => List.mem_append_left _ h) (fun h => List.mem_append_right _ (List.mem_append_right _ h))
    obtain ⟨k2, hk2⟩ := List.getElem?_of_mem h1
    exact ⟨k2, x.2, hk2⟩
  have hP' : va_P dd.1 vwCl (P1 ++ (kwu u0 ++ P2)) s.heap := by rw [← e0]; exact hP
  have hD' : va_D (fun _ => True) (P1 ++ (kwu u0 ++ P2)) := by rw [← e0]; exact hD
  obtain ⟨p1, p23⟩ := va_Pl hP'
  obtain ⟨p2, p3⟩ := va_Pl p23
  obtain ⟨d1, d23, x1⟩ := va_Dl hD'
  obtain ⟨d2, d3, x2⟩ := va_Dl d23
  refine ⟨⟨h0, p2, hK, d2, hS.narrow sub⟩, sub, fun t u1 w1 e1 hB hF => ?_⟩
  obtain ⟨b1, b2, b3⟩ := hB
  have nd := kw_nd b3
  obtain ⟨c1, c2⟩ := kw_part (ks1 := (cf u1).1) b1 b3 (nd.filter _) (fun j hj => (cf_mem.mp hj).1)
  -- the other parts' cells are none that the callee may touch
  have o1 : ∀ (k : Nat) (q : Nat × va_E), P1[k]? = some q → ¬ kA u0 sz q.1 := by
    rintro k q hk (⟨k2, e, hk2⟩ | hq)
    · exact x1 k k2 q (q.1, e) hk (by rw [List.getElem?_append_left (List.getElem?_eq_some_iff.mp hk2).1]; exact hk2) rfl
    · have := (p1 k q hk).lt
      omega
  have o2 : ∀ (k : Nat) (q : Nat × va_E), P2[k]? = some q → ¬ kA u0 sz q.1 := by
    rintro k q hk (⟨k2, e, hk2⟩ | hq)
    · exact x2 k2 k (q.1, e) q hk2 hk rfl
    · have := (p3 k q hk).lt
      omega
  have q1 : va_P dd.1 vwCl P1 t.heap := p1.kept (fun k q hk => hF.2 q.1 ((p1 k q hk).lt) (o1 k q hk))
  have q3 : va_P dd.1 vwCl P2 t.heap := p3.kept (fun k q hk => hF.2 q.1 ((p3 k q hk).lt) (o2 k q hk))
  refine ⟨⟨?_, b2, ?_⟩, hF.1, fun q h1 h2 => hF.2 q h1 (fun h => h2 (sub q h))⟩
  · show va_P dd.1 vwCl (kwu w1) t.heap
    rw [e1]
    exact q1.app (c1.app q3)
  · show va_D (kA w0 sz) (kwu w1)
    rw [e1]
    have y1 : va_D (kA w0 sz) P1 := d1.weaken (fun k q hk _ => inP q (Or.inl (List.mem_of_getElem? hk)))
    have y3 : va_D (kA w0 sz) P2 := d3.weaken (fun k q hk _ => inP q (Or.inr (List.mem_of_getElem? hk)))
    have y2 : va_D (kA w0 sz) (kwu (cf u1)) := c2.weaken (fun k q _ h => sub _ h)
    refine y1.app (y2.app y3 (fun i j p q hi hj hpq => o2 j q hj (hpq ▸ c2.2 i p hi))) (fun i j p q hi hj hpq => ?_)
    rcases List.mem_append.mp (List.mem_of_getElem? hj) with h | h
    · obtain ⟨k, hk⟩ := List.getElem?_of_mem h
      exact o1 i p hi (hpq ▸ c2.2 k q hk)
    · obtain ⟨k, hk⟩ := List.getElem?_of_mem h
      exact x1 i (k + (kwu u0).length) p q hi (by rw [List.getElem?_append_right (by omega), show k + (kwu u0).length - (kwu u0).length = k by omega]; exact hk) hpq
theorem kCi_frC {l : Launch} {y : MethodName} {ws : List Cond} {rm : Room} {mc ms : Nat} {dd : kDD} {vs : List Value} {S : Type} {P : Int32 → S → Prop} {ks2 : S → List Nat} {ad2 : S → Nat → Nat} {E2 : S → Nat → va_E} {c r x : kT} (h : kCi l y ws rm mc ms dd vs (cf c) (kQi P ks2 ad2 E2)) : kCi l y ws rm mc ms dd vs (jk c r x, jd c r x, jE c r x) (kQi P (fun z => jk (ks2 z, ad2 z, E2 z) r x) (fun z => jd (ks2 z, ad2 z, E2 z) r x) (fun z => jE (ks2 z, ad2 z, E2 z) r x)) := by
  intro hst sz p e ha hc hk s m args below hf happ hP hK
  obtain ⟨g0, sub, g1⟩ := kC_core (u0 := cf c) (w0 := (jk c r x, jd c r x, jE c r x)) (P1 := []) (P2 := kwu (cf r) ++ kwu (cf x)) j_kw hP.2
  obtain ⟨n, o, a1, a2, a3, ⟨⟨r9, u, q1, ⟨z, hp, rfl⟩, hB⟩, hF⟩, L, a5, a6⟩ := h hst sz p e ha hc hk s m args below hf happ ⟨hP.1, g0⟩ hK
  obtain ⟨f1, f2⟩ := g1 _ (ks2 z, ad2 z, E2 z) (jk (ks2 z, ad2 z, E2 z) r x, jd (ks2 z, ad2 z, E2 z) r x, jE (ks2 z, ad2 z, E2 z) r x) j_kw hB hF
  exact ⟨n, o, a1, a2, a3, ⟨⟨r9, _, q1, ⟨z, hp, rfl⟩, f1⟩, f2⟩, L, a5, fun q hq => sub _ (a6 q hq)⟩
theorem kCiX_frC {l : Launch} {y : MethodName} {ws : List Cond} {rm : Room} {mc ms : Nat} {dd : kDD} {vs : List Value} {S : Type} {P : Int32 → S → Prop} {ks2 : S → List Nat} {ad2 : S → Nat → Nat} {E2 : S → Nat → va_E} {c r x : kT} {xp : String → kT → Prop} (h : kCiX l y ws rm mc ms dd vs (cf c) (kQi P ks2 ad2 E2) xp) : kCiX l y ws rm mc ms dd vs (jk c r x, jd c r x, jE c r x) (kQi P (fun z => jk (ks2 z, ad2 z, E2 z) r x) (fun z => jd (ks2 z, ad2 z, E2 z) r x) (fun z => jE (ks2 z, ad2 z, E2 z) r x)) (fun X9 u9 => ∃ u1, xp X9 u1 ∧ u9 = (jk u1 r x, jd u1 r x, jE u1 r x)) := by
  intro hst sz p e ha hc hk s m args below hf happ hP hK
  obtain ⟨g0, sub, g1⟩ := kC_core (u0 := cf c) (w0 := (jk c r x, jd c r x, jE c r x)) (P1 := []) (P2 := kwu (cf r) ++ kwu (cf x)) j_kw hP.2
  obtain ⟨n, o, a1, a2, a3, hq⟩ := h hst sz p e ha hc hk s m args below hf happ ⟨hP.1, g0⟩ hK
  rcases hq with ⟨⟨⟨r9, u, q1, ⟨z, hp, rfl⟩, hB⟩, hF⟩, L, a5, a6⟩ | ⟨q, hq1, X9, ce, L, ⟨u1, -, ⟨hx, hB⟩, hF⟩, t2, t3, t4, t5, t6, t7⟩
  · obtain ⟨f1, f2⟩ := g1 _ (ks2 z, ad2 z, E2 z) (jk (ks2 z, ad2 z, E2 z) r x, jd (ks2 z, ad2 z, E2 z) r x, jE (ks2 z, ad2 z, E2 z) r x) j_kw hB hF
    exact ⟨n, o, a1, a2, a3, Or.inl ⟨⟨⟨r9, _, q1, ⟨z, hp, rfl⟩, f1⟩, f2⟩, L, a5, fun q hq => sub _ (a6 q hq)⟩⟩
  · obtain ⟨f1, f2⟩ := g1 _ u1 (jk u1 r x, jd u1 r x, jE u1 r x) j_kw hB hF
    exact ⟨n, o, a1, a2, a3, Or.inr ⟨q, hq1, X9, ce, L, ⟨_, trivial, ⟨⟨u1, hx, rfl⟩, f1⟩, f2⟩, t2, t3, t4, t5, t6, fun z hz => sub _ (t7 z hz)⟩⟩
theorem kCl_frC {l : Launch} {y : MethodName} {ws : List Cond} {rm : Room} {mc ms : Nat} {dd : kDD} {vs : List Value} {S : Type} {P : Int64 → S → Prop} {ks2 : S → List Nat} {ad2 : S → Nat → Nat} {E2 : S → Nat → va_E} {c r x : kT} (h : kCl l y ws rm mc ms dd vs (cf c) (kQl P ks2 ad2 E2)) : kCl l y ws rm mc ms dd vs (jk c r x, jd c r x, jE c r x) (kQl P (fun z => jk (ks2 z, ad2 z, E2 z) r x) (fun z => jd (ks2 z, ad2 z, E2 z) r x) (fun z => jE (ks2 z, ad2 z, E2 z) r x)) := by
  intro hst sz p e ha hc hk s m args below hf happ hP hK
  obtain ⟨g0, sub, g1⟩ := kC_core (u0 := cf c) (w0 := (jk c r x, jd c r x, jE c r x)) (P1 := []) (P2 := kwu (cf r) ++ kwu (cf x)) j_kw hP.2
  obtain ⟨n, o, a1, a2, a3, ⟨⟨r9, u, q1, ⟨z, hp, rfl⟩, hB⟩, hF⟩, L, a5, a6⟩ := h hst sz p e ha hc hk s m args below hf happ ⟨hP.1, g0⟩ hK
  obtain ⟨f1, f2⟩ := g1 _ (ks2 z, ad2 z, E2 z) (jk (ks2 z, ad2 z, E2 z) r x, jd (ks2 z, ad2 z, E2 z) r x, jE (ks2 z, ad2 z, E2 z) r x) j_kw hB hF
  exact ⟨n, o, a1, a2, a3, ⟨⟨r9, _, q1, ⟨z, hp, rfl⟩, f1⟩, f2⟩, L, a5, fun q hq => sub _ (a6 q hq)⟩
theorem kClX_frC {l : Launch} {y : MethodName} {ws : List Cond} {rm : Room} {mc ms : Nat} {dd : kDD} {vs : List Value} {S : Type} {P : Int64 → S → Prop} {ks2 : S → List Nat} {ad2 : S → Nat → Nat} {E2 : S → Nat → va_E} {c r x : kT} {xp : String → kT → Prop} (h : kClX l y ws rm mc ms dd vs (cf c) (kQl P ks2 ad2 E2) xp) : kClX l y ws rm mc ms dd vs (jk c r x, jd c r x, jE c r x) (kQl P (fun z => jk (ks2 z, ad2 z, E2 z) r x) (fun z => jd (ks2 z, ad2 z, E2 z) r x) (fun z => jE (ks2 z, ad2 z, E2 z) r x)) (fun X9 u9 => ∃ u1, xp X9 u1 ∧ u9 = (jk u1 r x, jd u1 r x, jE u1 r x)) := by
  intro hst sz p e ha hc hk s m args below hf happ hP hK
  obtain ⟨g0, sub, g1⟩ := kC_core (u0 := cf c) (w0 := (jk c r x, jd c r x, jE c r x)) (P1 := []) (P2 := kwu (cf r) ++ kwu (cf x)) j_kw hP.2
  obtain ⟨n, o, a1, a2, a3, hq⟩ := h hst sz p e ha hc hk s m args below hf happ ⟨hP.1, g0⟩ hK
  rcases hq with ⟨⟨⟨r9, u, q1, ⟨z, hp, rfl⟩, hB⟩, hF⟩, L, a5, a6⟩ | ⟨q, hq1, X9, ce, L, ⟨u1, -, ⟨hx, hB⟩, hF⟩, t2, t3, t4, t5, t6, t7⟩
  · obtain ⟨f1, f2⟩ := g1 _ (ks2 z, ad2 z, E2 z) (jk (ks2 z, ad2 z, E2 z) r x, jd (ks2 z, ad2 z, E2 z) r x, jE (ks2 z, ad2 z, E2 z) r x) j_kw hB hF
    exact ⟨n, o, a1, a2, a3, Or.inl ⟨⟨⟨r9, _, q1, ⟨z, hp, rfl⟩, f1⟩, f2⟩, L, a5, fun q hq => sub _ (a6 q hq)⟩⟩
  · obtain ⟨f1, f2⟩ := g1 _ u1 (jk u1 r x, jd u1 r x, jE u1 r x) j_kw hB hF
    exact ⟨n, o, a1, a2, a3, Or.inr ⟨q, hq1, X9, ce, L, ⟨_, trivial, ⟨⟨u1, hx, rfl⟩, f1⟩, f2⟩, t2, t3, t4, t5, t6, fun z hz => sub _ (t7 z hz)⟩⟩
theorem kCf_frC {l : Launch} {y : MethodName} {ws : List Cond} {rm : Room} {mc ms : Nat} {dd : kDD} {vs : List Value} {S : Type} {P : UInt32 → S → Prop} {ks2 : S → List Nat} {ad2 : S → Nat → Nat} {E2 : S → Nat → va_E} {c r x : kT} (h : kCf l y ws rm mc ms dd vs (cf c) (kQf P ks2 ad2 E2)) : kCf l y ws rm mc ms dd vs (jk c r x, jd c r x, jE c r x) (kQf P (fun z => jk (ks2 z, ad2 z, E2 z) r x) (fun z => jd (ks2 z, ad2 z, E2 z) r x) (fun z => jE (ks2 z, ad2 z, E2 z) r x)) := by
  intro hst sz p e ha hc hk s m args below hf happ hP hK
  obtain ⟨g0, sub, g1⟩ := kC_core (u0 := cf c) (w0 := (jk c r x, jd c r x, jE c r x)) (P1 := []) (P2 := kwu (cf r) ++ kwu (cf x)) j_kw hP.2
  obtain ⟨n, o, a1, a2, a3, ⟨⟨r9, u, q1, ⟨z, hp, rfl⟩, hB⟩, hF⟩, L, a5, a6⟩ := h hst sz p e ha hc hk s m args below hf happ ⟨hP.1, g0⟩ hK
  obtain ⟨f1, f2⟩ := g1 _ (ks2 z, ad2 z, E2 z) (jk (ks2 z, ad2 z, E2 z) r x, jd (ks2 z, ad2 z, E2 z) r x, jE (ks2 z, ad2 z, E2 z) r x) j_kw hB hF
  exact ⟨n, o, a1, a2, a3, ⟨⟨r9, _, q1, ⟨z, hp, rfl⟩, f1⟩, f2⟩, L, a5, fun q hq => sub _ (a6 q hq)⟩
theorem kCfX_frC {l : Launch} {y : MethodName} {ws : List Cond} {rm : Room} {mc ms : Nat} {dd : kDD} {vs : List Value} {S : Type} {P : UInt32 → S → Prop} {ks2 : S → List Nat} {ad2 : S → Nat → Nat} {E2 : S → Nat → va_E} {c r x : kT} {xp : String → kT → Prop} (h : kCfX l y ws rm mc ms dd vs (cf c) (kQf P ks2 ad2 E2) xp) : kCfX l y ws rm mc ms dd vs (jk c r x, jd c r x, jE c r x) (kQf P (fun z => jk (ks2 z, ad2 z, E2 z) r x) (fun z => jd (ks2 z, ad2 z, E2 z) r x) (fun z => jE (ks2 z, ad2 z, E2 z) r x)) (fun X9 u9 => ∃ u1, xp X9 u1 ∧ u9 = (jk u1 r x, jd u1 r x, jE u1 r x)) := by
  intro hst sz p e ha hc hk s m args below hf happ hP hK
  obtain ⟨g0, sub, g1⟩ := kC_core (u0 := cf c) (w0 := (jk c r x, jd c r x, jE c r x)) (P1 := []) (P2 := kwu (cf r) ++ kwu (cf x)) j_kw hP.2
  obtain ⟨n, o, a1, a2, a3, hq⟩ := h hst sz p e ha hc hk s m args below hf happ ⟨hP.1, g0⟩ hK
  rcases hq with ⟨⟨⟨r9, u, q1, ⟨z, hp, rfl⟩, hB⟩, hF⟩, L, a5, a6⟩ | ⟨q, hq1, X9, ce, L, ⟨u1, -, ⟨hx, hB⟩, hF⟩, t2, t3, t4, t5, t6, t7⟩
  · obtain ⟨f1, f2⟩ := g1 _ (ks2 z, ad2 z, E2 z) (jk (ks2 z, ad2 z, E2 z) r x, jd (ks2 z, ad2 z, E2 z) r x, jE (ks2 z, ad2 z, E2 z) r x) j_kw hB hF
    exact ⟨n, o, a1, a2, a3, Or.inl ⟨⟨⟨r9, _, q1, ⟨z, hp, rfl⟩, f1⟩, f2⟩, L, a5, fun q hq => sub _ (a6 q hq)⟩⟩
  · obtain ⟨f1, f2⟩ := g1 _ u1 (jk u1 r x, jd u1 r x, jE u1 r x) j_kw hB hF
    exact ⟨n, o, a1, a2, a3, Or.inr ⟨q, hq1, X9, ce, L, ⟨_, trivial, ⟨⟨u1, hx, rfl⟩, f1⟩, f2⟩, t2, t3, t4, t5, t6, fun z hz => sub _ (t7 z hz)⟩⟩
theorem kCd_frC {l : Launch} {y : MethodName} {ws : List Cond} {rm : Room} {mc ms : Nat} {dd : kDD} {vs : List Value} {S : Type} {P : UInt64 → S → Prop} {ks2 : S → List Nat} {ad2 : S → Nat → Nat} {E2 : S → Nat → va_E} {c r x : kT} (h : kCd l y ws rm mc ms dd vs (cf c) (kQd P ks2 ad2 E2)) : kCd l y ws rm mc ms dd vs (jk c r x, jd c r x, jE c r x) (kQd P (fun z => jk (ks2 z, ad2 z, E2 z) r x) (fun z => jd (ks2 z, ad2 z, E2 z) r x) (fun z => jE (ks2 z, ad2 z, E2 z) r x)) := by
  intro hst sz p e ha hc hk s m args below hf happ hP hK
  obtain ⟨g0, sub, g1⟩ := kC_core (u0 := cf c) (w0 := (jk c r x, jd c r x, jE c r x)) (P1 := []) (P2 := kwu (cf r) ++ kwu (cf x)) j_kw hP.2
  obtain ⟨n, o, a1, a2, a3, ⟨⟨r9, u, q1, ⟨z, hp, rfl⟩, hB⟩, hF⟩, L, a5, a6⟩ := h hst sz p e ha hc hk s m args below hf happ ⟨hP.1, g0⟩ hK
  obtain ⟨f1, f2⟩ := g1 _ (ks2 z, ad2 z, E2 z) (jk (ks2 z, ad2 z, E2 z) r x, jd (ks2 z, ad2 z, E2 z) r x, jE (ks2 z, ad2 z, E2 z) r x) j_kw hB hF
  exact ⟨n, o, a1, a2, a3, ⟨⟨r9, _, q1, ⟨z, hp, rfl⟩, f1⟩, f2⟩, L, a5, fun q hq => sub _ (a6 q hq)⟩
theorem kCdX_frC {l : Launch} {y : MethodName} {ws : List Cond} {rm : Room} {mc ms : Nat} {dd : kDD} {vs : List Value} {S : Type} {P : UInt64 → S → Prop} {ks2 : S → List Nat} {ad2 : S → Nat → Nat} {E2 : S → Nat → va_E} {c r x : kT} {xp : String → kT → Prop} (h : kCdX l y ws rm mc ms dd vs (cf c) (kQd P ks2 ad2 E2) xp) : kCdX l y ws rm mc ms dd vs (jk c r x, jd c r x, jE c r x) (kQd P (fun z => jk (ks2 z, ad2 z, E2 z) r x) (fun z => jd (ks2 z, ad2 z, E2 z) r x) (fun z => jE (ks2 z, ad2 z, E2 z) r x)) (fun X9 u9 => ∃ u1, xp X9 u1 ∧ u9 = (jk u1 r x, jd u1 r x, jE u1 r x)) := by
  intro hst sz p e ha hc hk s m args below hf happ hP hK
  obtain ⟨g0, sub, g1⟩ := kC_core (u0 := cf c) (w0 := (jk c r x, jd c r x, jE c r x)) (P1 := []) (P2 := kwu (cf r) ++ kwu (cf x)) j_kw hP.2
  obtain ⟨n, o, a1, a2, a3, hq⟩ := h hst sz p e ha hc hk s m args below hf happ ⟨hP.1, g0⟩ hK
  rcases hq with ⟨⟨⟨r9, u, q1, ⟨z, hp, rfl⟩, hB⟩, hF⟩, L, a5, a6⟩ | ⟨q, hq1, X9, ce, L, ⟨u1, -, ⟨hx, hB⟩, hF⟩, t2, t3, t4, t5, t6, t7⟩
  · obtain ⟨f1, f2⟩ := g1 _ (ks2 z, ad2 z, E2 z) (jk (ks2 z, ad2 z, E2 z) r x, jd (ks2 z, ad2 z, E2 z) r x, jE (ks2 z, ad2 z, E2 z) r x) j_kw hB hF
    exact ⟨n, o, a1, a2, a3, Or.inl ⟨⟨⟨r9, _, q1, ⟨z, hp, rfl⟩, f1⟩, f2⟩, L, a5, fun q hq => sub _ (a6 q hq)⟩⟩
  · obtain ⟨f1, f2⟩ := g1 _ u1 (jk u1 r x, jd u1 r x, jE u1 r x) j_kw hB hF
    exact ⟨n, o, a1, a2, a3, Or.inr ⟨q, hq1, X9, ce, L, ⟨_, trivial, ⟨⟨u1, hx, rfl⟩, f1⟩, f2⟩, t2, t3, t4, t5, t6, fun z hz => sub _ (t7 z hz)⟩⟩
theorem kCv_frC {l : Launch} {y : MethodName} {ws : List Cond} {rm : Room} {mc ms : Nat} {dd : kDD} {vs : List Value} {S : Type} {P : S → Prop} {ks2 : S → List Nat} {ad2 : S → Nat → Nat} {E2 : S → Nat → va_E} {c r x : kT} (h : kCv l y ws rm mc ms dd vs (cf c) (kQv P ks2 ad2 E2)) : kCv l y ws rm mc ms dd vs (jk c r x, jd c r x, jE c r x) (kQv P (fun z => jk (ks2 z, ad2 z, E2 z) r x) (fun z => jd (ks2 z, ad2 z, E2 z) r x) (fun z => jE (ks2 z, ad2 z, E2 z) r x)) := by
  intro hst sz p e ha hc hk s m args below hf happ hP hK
  obtain ⟨g0, sub, g1⟩ := kC_core (u0 := cf c) (w0 := (jk c r x, jd c r x, jE c r x)) (P1 := []) (P2 := kwu (cf r) ++ kwu (cf x)) j_kw hP.2
  obtain ⟨n, o, a1, a2, a3, ⟨⟨u, q1, ⟨z, hp, rfl⟩, hB⟩, hF⟩, L, a5, a6⟩ := h hst sz p e ha hc hk s m args below hf happ ⟨hP.1, g0⟩ hK
  obtain ⟨f1, f2⟩ := g1 _ (ks2 z, ad2 z, E2 z) (jk (ks2 z, ad2 z, E2 z) r x, jd (ks2 z, ad2 z, E2 z) r x, jE (ks2 z, ad2 z, E2 z) r x) j_kw hB hF
  exact ⟨n, o, a1, a2, a3, ⟨⟨_, q1, ⟨z, hp, rfl⟩, f1⟩, f2⟩, L, a5, fun q hq => sub _ (a6 q hq)⟩
theorem kCvX_frC {l : Launch} {y : MethodName} {ws : List Cond} {rm : Room} {mc ms : Nat} {dd : kDD} {vs : List Value} {S : Type} {P : S → Prop} {ks2 : S → List Nat} {ad2 : S → Nat → Nat} {E2 : S → Nat → va_E} {c r x : kT} {xp : String → kT → Prop} (h : kCvX l y ws rm mc ms dd vs (cf c) (kQv P ks2 ad2 E2) xp) : kCvX l y ws rm mc ms dd vs (jk c r x, jd c r x, jE c r x) (kQv P (fun z => jk (ks2 z, ad2 z, E2 z) r x) (fun z => jd (ks2 z, ad2 z, E2 z) r x) (fun z => jE (ks2 z, ad2 z, E2 z) r x)) (fun X9 u9 => ∃ u1, xp X9 u1 ∧ u9 = (jk u1 r x, jd u1 r x, jE u1 r x)) := by
  intro hst sz p e ha hc hk s m args below hf happ hP hK
  obtain ⟨g0, sub, g1⟩ := kC_core (u0 := cf c) (w0 := (jk c r x, jd c r x, jE c r x)) (P1 := []) (P2 := kwu (cf r) ++ kwu (cf x)) j_kw hP.2
  obtain ⟨n, o, a1, a2, a3, hq⟩ := h hst sz p e ha hc hk s m args below hf happ ⟨hP.1, g0⟩ hK
  rcases hq with ⟨⟨⟨u, q1, ⟨z, hp, rfl⟩, hB⟩, hF⟩, L, a5, a6⟩ | ⟨q, hq1, X9, ce, L, ⟨u1, -, ⟨hx, hB⟩, hF⟩, t2, t3, t4, t5, t6, t7⟩
  · obtain ⟨f1, f2⟩ := g1 _ (ks2 z, ad2 z, E2 z) (jk (ks2 z, ad2 z, E2 z) r x, jd (ks2 z, ad2 z, E2 z) r x, jE (ks2 z, ad2 z, E2 z) r x) j_kw hB hF
    exact ⟨n, o, a1, a2, a3, Or.inl ⟨⟨⟨_, q1, ⟨z, hp, rfl⟩, f1⟩, f2⟩, L, a5, fun q hq => sub _ (a6 q hq)⟩⟩
  · obtain ⟨f1, f2⟩ := g1 _ u1 (jk u1 r x, jd u1 r x, jE u1 r x) j_kw hB hF
    exact ⟨n, o, a1, a2, a3, Or.inr ⟨q, hq1, X9, ce, L, ⟨_, trivial, ⟨⟨u1, hx, rfl⟩, f1⟩, f2⟩, t2, t3, t4, t5, t6, fun z hz => sub _ (t7 z hz)⟩⟩
theorem kCi_frR {l : Launch} {y : MethodName} {ws : List Cond} {rm : Room} {mc ms : Nat} {dd : kDD} {vs : List Value} {S : Type} {P : Int32 → S → Prop} {ks2 : S → List Nat} {ad2 : S → Nat → Nat} {E2 : S → Nat → va_E} {c r x : kT} (h : kCi l y ws rm mc ms dd vs (cf r) (kQi P ks2 ad2 E2)) : kCi l y ws rm mc ms dd vs (jk c r x, jd c r x, jE c r x) (kQi P (fun z => jk c (ks2 z, ad2 z, E2 z) x) (fun z => jd c (ks2 z, ad2 z, E2 z) x) (fun z => jE c (ks2 z, ad2 z, E2 z) x)) := by
  intro hst sz p e ha hc hk s m args below hf happ hP hK
  obtain ⟨g0, sub, g1⟩ := kC_core (u0 := cf r) (w0 := (jk c r x, jd c r x, jE c r x)) (P1 := kwu (cf c)) (P2 := kwu (cf x)) j_kw hP.2
  obtain ⟨n, o, a1, a2, a3, ⟨⟨r9, u, q1, ⟨z, hp, rfl⟩, hB⟩, hF⟩, L, a5, a6⟩ := h hst sz p e ha hc hk s m args below hf happ ⟨hP.1, g0⟩ hK
  obtain ⟨f1, f2⟩ := g1 _ (ks2 z, ad2 z, E2 z) (jk c (ks2 z, ad2 z, E2 z) x, jd c (ks2 z, ad2 z, E2 z) x, jE c (ks2 z, ad2 z, E2 z) x) j_kw hB hF
  exact ⟨n, o, a1, a2, a3, ⟨⟨r9, _, q1, ⟨z, hp, rfl⟩, f1⟩, f2⟩, L, a5, fun q hq => sub _ (a6 q hq)⟩
theorem kCl_frR {l : Launch} {y : MethodName} {ws : List Cond} {rm : Room} {mc ms : Nat} {dd : kDD} {vs : List Value} {S : Type} {P : Int64 → S → Prop} {ks2 : S → List Nat} {ad2 : S → Nat → Nat} {E2 : S → Nat → va_E} {c r x : kT} (h : kCl l y ws rm mc ms dd vs (cf r) (kQl P ks2 ad2 E2)) : kCl l y ws rm mc ms dd vs (jk c r x, jd c r x, jE c r x) (kQl P (fun z => jk c (ks2 z, ad2 z, E2 z) x) (fun z => jd c (ks2 z, ad2 z, E2 z) x) (fun z => jE c (ks2 z, ad2 z, E2 z) x)) := by
  intro hst sz p e ha hc hk s m args below hf happ hP hK
  obtain ⟨g0, sub, g1⟩ := kC_core (u0 := cf r) (w0 := (jk c r x, jd c r x, jE c r x)) (P1 := kwu (cf c)) (P2 := kwu (cf x)) j_kw hP.2
  obtain ⟨n, o, a1, a2, a3, ⟨⟨r9, u, q1, ⟨z, hp, rfl⟩, hB⟩, hF⟩, L, a5, a6⟩ := h hst sz p e ha hc hk s m args below hf happ ⟨hP.1, g0⟩ hK
  obtain ⟨f1, f2⟩ := g1 _ (ks2 z, ad2 z, E2 z) (jk c (ks2 z, ad2 z, E2 z) x, jd c (ks2 z, ad2 z, E2 z) x, jE c (ks2 z, ad2 z, E2 z) x) j_kw hB hF
  exact ⟨n, o, a1, a2, a3, ⟨⟨r9, _, q1, ⟨z, hp, rfl⟩, f1⟩, f2⟩, L, a5, fun q hq => sub _ (a6 q hq)⟩
theorem kCf_frR {l : Launch} {y : MethodName} {ws : List Cond} {rm : Room} {mc ms : Nat} {dd : kDD} {vs : List Value} {S : Type} {P : UInt32 → S → Prop} {ks2 : S → List Nat} {ad2 : S → Nat → Nat} {E2 : S → Nat → va_E} {c r x : kT} (h : kCf l y ws rm mc ms dd vs (cf r) (kQf P ks2 ad2 E2)) : kCf l y ws rm mc ms dd vs (jk c r x, jd c r x, jE c r x) (kQf P (fun z => jk c (ks2 z, ad2 z, E2 z) x) (fun z => jd c (ks2 z, ad2 z, E2 z) x) (fun z => jE c (ks2 z, ad2 z, E2 z) x)) := by
  intro hst sz p e ha hc hk s m args below hf happ hP hK
  obtain ⟨g0, sub, g1⟩ := kC_core (u0 := cf r) (w0 := (jk c r x, jd c r x, jE c r x)) (P1 := kwu (cf c)) (P2 := kwu (cf x)) j_kw hP.2
  obtain ⟨n, o, a1, a2, a3, ⟨⟨r9, u, q1, ⟨z, hp, rfl⟩, hB⟩, hF⟩, L, a5, a6⟩ := h hst sz p e ha hc hk s m args below hf happ ⟨hP.1, g0⟩ hK
  obtain ⟨f1, f2⟩ := g1 _ (ks2 z, ad2 z, E2 z) (jk c (ks2 z, ad2 z, E2 z) x, jd c (ks2 z, ad2 z, E2 z) x, jE c (ks2 z, ad2 z, E2 z) x) j_kw hB hF
  exact ⟨n, o, a1, a2, a3, ⟨⟨r9, _, q1, ⟨z, hp, rfl⟩, f1⟩, f2⟩, L, a5, fun q hq => sub _ (a6 q hq)⟩
theorem kCd_frR {l : Launch} {y : MethodName} {ws : List Cond} {rm : Room} {mc ms : Nat} {dd : kDD} {vs : List Value} {S : Type} {P : UInt64 → S → Prop} {ks2 : S → List Nat} {ad2 : S → Nat → Nat} {E2 : S → Nat → va_E} {c r x : kT} (h : kCd l y ws rm mc ms dd vs (cf r) (kQd P ks2 ad2 E2)) : kCd l y ws rm mc ms dd vs (jk c r x, jd c r x, jE c r x) (kQd P (fun z => jk c (ks2 z, ad2 z, E2 z) x) (fun z => jd c (ks2 z, ad2 z, E2 z) x) (fun z => jE c (ks2 z, ad2 z, E2 z) x)) := by
  intro hst sz p e ha hc hk s m args below hf happ hP hK
  obtain ⟨g0, sub, g1⟩ := kC_core (u0 := cf r) (w0 := (jk c r x, jd c r x, jE c r x)) (P1 := kwu (cf c)) (P2 := kwu (cf x)) j_kw hP.2
  obtain ⟨n, o, a1, a2, a3, ⟨⟨r9, u, q1, ⟨z, hp, rfl⟩, hB⟩, hF⟩, L, a5, a6⟩ := h hst sz p e ha hc hk s m args below hf happ ⟨hP.1, g0⟩ hK
  obtain ⟨f1, f2⟩ := g1 _ (ks2 z, ad2 z, E2 z) (jk c (ks2 z, ad2 z, E2 z) x, jd c (ks2 z, ad2 z, E2 z) x, jE c (ks2 z, ad2 z, E2 z) x) j_kw hB hF
  exact ⟨n, o, a1, a2, a3, ⟨⟨r9, _, q1, ⟨z, hp, rfl⟩, f1⟩, f2⟩, L, a5, fun q hq => sub _ (a6 q hq)⟩
theorem kCv_frR {l : Launch} {y : MethodName} {ws : List Cond} {rm : Room} {mc ms : Nat} {dd : kDD} {vs : List Value} {S : Type} {P : S → Prop} {ks2 : S → List Nat} {ad2 : S → Nat → Nat} {E2 : S → Nat → va_E} {c r x : kT} (h : kCv l y ws rm mc ms dd vs (cf r) (kQv P ks2 ad2 E2)) : kCv l y ws rm mc ms dd vs (jk c r x, jd c r x, jE c r x) (kQv P (fun z => jk c (ks2 z, ad2 z, E2 z) x) (fun z => jd c (ks2 z, ad2 z, E2 z) x) (fun z => jE c (ks2 z, ad2 z, E2 z) x)) := by
  intro hst sz p e ha hc hk s m args below hf happ hP hK
  obtain ⟨g0, sub, g1⟩ := kC_core (u0 := cf r) (w0 := (jk c r x, jd c r x, jE c r x)) (P1 := kwu (cf c)) (P2 := kwu (cf x)) j_kw hP.2
  obtain ⟨n, o, a1, a2, a3, ⟨⟨u, q1, ⟨z, hp, rfl⟩, hB⟩, hF⟩, L, a5, a6⟩ := h hst sz p e ha hc hk s m args below hf happ ⟨hP.1, g0⟩ hK
  obtain ⟨f1, f2⟩ := g1 _ (ks2 z, ad2 z, E2 z) (jk c (ks2 z, ad2 z, E2 z) x, jd c (ks2 z, ad2 z, E2 z) x, jE c (ks2 z, ad2 z, E2 z) x) j_kw hB hF
  exact ⟨n, o, a1, a2, a3, ⟨⟨_, q1, ⟨z, hp, rfl⟩, f1⟩, f2⟩, L, a5, fun q hq => sub _ (a6 q hq)⟩
theorem j_c {c r x : kT} {j : Nat} (h : j < 1000) : (j ∈ jk c r x ↔ j ∈ c.1) ∧ jd c r x j = c.2.1 j ∧ jE c r x j = c.2.2 j := by
  refine ⟨?_, if_pos h, if_pos h⟩
  unfold jk
  rw [List.mem_append, List.mem_append, cf_mem, List.mem_map, List.mem_map]
  constructor
  · rintro (q | ⟨i, -, q⟩ | ⟨i, -, q⟩)
    · exact q.1
    · omega
    · omega
  · intro q; exact Or.inl ⟨q, h⟩
theorem j_r {c r x : kT} {j : Nat} (h : j < 1000) : (j + 1000 ∈ jk c r x ↔ j ∈ r.1) ∧ jd c r x (j + 1000) = r.2.1 j ∧ jE c r x (j + 1000) = r.2.2 j := by
  refine ⟨?_, ?_, ?_⟩
  · unfold jk
    rw [List.mem_append, List.mem_append, cf_mem, List.mem_map, List.mem_map]
    constructor
    · rintro (q | ⟨i, q0, q⟩ | ⟨i, -, q⟩)
      · omega
      · have q2 := cf_mem.mp q0
        rw [show j = i by omega]; exact q2.1
      · omega
    · intro q; exact Or.inr (Or.inl ⟨j, cf_mem.mpr ⟨q, h⟩, rfl⟩)
  · unfold jd; rw [if_neg (by omega), if_pos (by omega), show j + 1000 - 1000 = j by omega]
  · unfold jE; rw [if_neg (by omega), if_pos (by omega), show j + 1000 - 1000 = j by omega]
theorem j_x {c r x : kT} {j : Nat} (h : j < 1000) : (j + 2000 ∈ jk c r x ↔ j ∈ x.1) ∧ jd c r x (j + 2000) = x.2.1 j ∧ jE c r x (j + 2000) = x.2.2 j := by
  refine ⟨?_, ?_, ?_⟩
  · unfold jk
    rw [List.mem_append, List.mem_append, cf_mem, List.mem_map, List.mem_map]
    constructor
    · rintro (q | ⟨i, q0, q⟩ | ⟨i, q0, q⟩)
      · omega
      · have q2 := cf_mem.mp q0
        omega
      · have q2 := cf_mem.mp q0
        rw [show j = i by omega]; exact q2.1
    · intro q; exact Or.inr (Or.inr ⟨j, cf_mem.mpr ⟨q, h⟩, rfl⟩)
  · unfold jd; rw [if_neg (by omega), if_neg (by omega), show j + 2000 - 2000 = j by omega]
  · unfold jE; rw [if_neg (by omega), if_neg (by omega), show j + 2000 - 2000 = j by omega]
set_option maxRecDepth 20000 in
/-- a change of the law's own part -/
theorem jE_up {c r x : kT} {j : Nat} {e : va_E} : ∀ i, va_up (jE c r x) (j + 2000) e i = jE c r (x.1, x.2.1, va_up x.2.2 j e) i := by
  intro i
  show va_up (jE c r x) (j + 2000) e i = (if i < 1000 then c.2.2 i else if i < 2000 then r.2.2 (i - 1000) else va_up x.2.2 j e (i - 2000))
  by_cases q : i = j + 2000
  · rw [if_neg (show ¬ i < 1000 by omega), if_neg (show ¬ i < 2000 by omega), show i - 2000 = j by omega, va_up_self, q, va_up_self]
  · rw [va_up_ne _ _ q]
    show (if i < 1000 then c.2.2 i else if i < 2000 then r.2.2 (i - 1000) else x.2.2 (i - 2000)) = _
    by_cases a : i < 1000
    · rw [if_pos a, if_pos a]
    · by_cases b : i < 2000
      · rw [if_neg a, if_neg a, if_pos b, if_pos b]
      · rw [if_neg a, if_neg a, if_neg b, if_neg b]; exact (va_up_ne _ _ (by omega)).symm
theorem jd_up {c r x : kT} {e : Nat → va_E} : jd c r (x.1, x.2.1, e) = jd c r x := rfl
theorem jk_up {c r x : kT} {e : Nat → va_E} : jk c r (x.1, x.2.1, e) = jk c r x := rfl
/-- the class's state on the class's part -/
theorem cAll_cf {dd : kDD} {M : mS} {nR nC nt nL nW nV nM : Nat} {cn nm mn me li rl : Nat → Nat} {on : Int32} {u : kT} (h : cAll dd M nR nC nt nL nW nV nM cn nm mn me li rl on u) : cAll dd M nR nC nt nL nW nV nM cn nm mn me li rl on (cf u) := by
  obtain ⟨F, e, hz, hO, hR, hC, hT, hL, hW, hV, hM⟩ := h
  have st : cSt dd (fun j => 1000 ≤ j) (fun j => (17 ≤ j ∧ j ≤ 19) ∨ (22 ≤ j ∧ j ≤ 48)) u.1 u.2.1 F e (cf u).1 (cf u).2.1 F := ⟨fun j hj => ⟨fun q => cf_mem.mpr ⟨q, Nat.lt_of_not_le hj⟩, rfl⟩, fun j hj => (cE_ne ⟨fun q => hj (Or.inl q), fun q => hj (Or.inr q)⟩).symm⟩
  have b1 := hR.1
  have b2 := hC.1
  have b3 := hT.1
  have b4 := hL.1
  have b5 := hW.1
  have b6 := hV.1
  have b7 := hM.1
  exact ⟨F, e, hz, cO_st st hO (fun j hj (q : 1000 ≤ j) => by unfold vO at hj; omega) ⟨(show ¬ ((17 ≤ 0 ∧ 0 ≤ 19) ∨ (22 ≤ 0 ∧ 0 ≤ 48)) by omega), (show ¬ ((17 ≤ 1 ∧ 1 ≤ 19) ∨ (22 ≤ 1 ∧ 1 ≤ 48)) by omega), (show ¬ ((17 ≤ 2 ∧ 2 ≤ 19) ∨ (22 ≤ 2 ∧ 2 ≤ 48)) by omega), (show ¬ ((17 ≤ 20 ∧ 20 ≤ 19) ∨ (22 ≤ 20 ∧ 20 ≤ 48)) by omega), (show ¬ ((17 ≤ 21 ∧ 21 ≤ 19) ∨ (22 ≤ 21 ∧ 21 ≤ 48)) by omega)⟩,
    cR_st st hR (fun j hj => by unfold vR at hj; exact ⟨fun (q : 1000 ≤ j) => by omega, fun (q : (17 ≤ j ∧ j ≤ 19) ∨ (22 ≤ j ∧ j ≤ 48)) => by omega⟩), cC_st st hC (fun j hj => by unfold vC at hj; exact ⟨fun (q : 1000 ≤ j) => by omega, fun (q : (17 ≤ j ∧ j ≤ 19) ∨ (22 ≤ j ∧ j ≤ 48)) => by omega⟩), cT_st st hT (fun j hj => by unfold vT at hj; rcases hj with y | y | y | y | y | ⟨i, k, y1, y2, y3, y4⟩ <;> exact ⟨fun (q : 1000 ≤ j) => by omega, fun (q : (17 ≤ j ∧ j ≤ 19) ∨ (22 ≤ j ∧ j ≤ 48)) => by omega⟩), cL_st st hL (fun j hj => by unfold vL at hj; exact ⟨fun (q : 1000 ≤ j) => by omega, fun (q : (17 ≤ j ∧ j ≤ 19) ∨ (22 ≤ j ∧ j ≤ 48)) => by omega⟩), cW_st st hW (fun j hj => by unfold vW at hj; exact ⟨fun (q : 1000 ≤ j) => by omega, fun (q : (17 ≤ j ∧ j ≤ 19) ∨ (22 ≤ j ∧ j ≤ 48)) => by omega⟩), cV_st st hV (fun j hj => by unfold vV at hj; exact ⟨fun (q : 1000 ≤ j) => by omega, fun (q : (17 ≤ j ∧ j ≤ 19) ∨ (22 ≤ j ∧ j ≤ 48)) => by omega⟩), cM_st st hM (fun j hj => by unfold vM at hj; exact ⟨fun (q : 1000 ≤ j) => by omega, fun (q : (17 ≤ j ∧ j ≤ 19) ∨ (22 ≤ j ∧ j ≤ 48)) => by omega⟩)⟩

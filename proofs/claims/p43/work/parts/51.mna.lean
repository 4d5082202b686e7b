/-! ARRAYS OF ARRAYS, made anew -/
/-- keys and addresses of N things from key B on -/
def kmF {α : Type} (K B N : Nat) (x : α) (r : Nat → α) (ad : Nat → α) : Nat → α := fun j => if j = K then x else if B ≤ j ∧ j < B + N then r (j - B) else ad j
theorem kmF_K {α : Type} {K B N : Nat} {x : α} {r ad : Nat → α} : kmF K B N x r ad K = x := if_pos rfl
theorem kmF_B {α : Type} {K B N : Nat} {x : α} {r ad : Nat → α} (h : ¬ (B ≤ K ∧ K < B + N)) {i : Nat} (hi : i < N) : kmF K B N x r ad (B + i) = r i := by
  unfold kmF
  rw [if_neg (fun q => h ⟨by omega, by omega⟩), if_pos ⟨by omega, by omega⟩, show B + i - B = i by omega]
theorem kmF_ne {α : Type} {K B N : Nat} {x : α} {r ad : Nat → α} {j : Nat} (h : ¬ (j = K ∨ (B ≤ j ∧ j < B + N))) : kmF K B N x r ad j = ad j := by
  unfold kmF
  rw [if_neg (fun q => h (Or.inl q)), if_neg (fun q => h (Or.inr q))]
theorem kmF_kw {ks : List Nat} {ad : Nat → Nat} {E : Nat → va_E} {K B N q : Nat} {r : Nat → Nat} {x y : va_E} (hK : K ∉ ks) (hB : ∀ i, i < N → B + i ∉ ks) (hKB : ¬ (B ≤ K ∧ K < B + N)) : kw (ks ++ [K] ++ (List.range N).map (fun i => B + i)) (kmF K B N q r ad) (kmF K B N x (fun _ => y) E) = (kw ks ad E ++ [(q, x)]) ++ ((List.range N).map r).map (fun a => (a, y)) := by
  unfold kw
  rw [List.map_append, List.map_append, List.map_map, List.map_map]
  congr 1
  · congr 1
    · refine List.map_congr_left (fun j hj => ?_)
      have h : ¬ (j = K ∨ (B ≤ j ∧ j < B + N)) := by
        rintro (h | h)
        · exact hK (h ▸ hj)
        · exact hB (j - B) (by omega) (by rw [show B + (j - B) = j by omega]; exact hj)
      rw [kmF_ne h, kmF_ne h]
    · rw [List.map_cons, List.map_nil, kmF_K, kmF_K]
  · refine List.map_congr_left (fun i hi => ?_)
    have := List.mem_range.mp hi
    show (kmF K B N q r ad (B + i), kmF K B N x (fun _ => y) E (B + i)) = (r i, y)
    rw [kmF_B hKB this, kmF_B hKB this]
theorem kv_mnaJ {dd : kDD} {g : kG} {cc : ByteArray} {own : String} {Ts : List Cond} {a b pc : Nat} {lv : List (Nat × Value)} {st : List Value} {ks : List Nat} {ad : Nat → Nat} {E : Nat → va_E} (C : kX dd g cc own Ts) {index N M2 : Nat} {RR : Room} (K B : Nat) (hcl : Cond.classLink own index ("[" ++ (FieldType.array .long).toString) ∈ Ts) (har : Cond.arrayClass .long ∈ Ts) (hKn : K ∉ ks) (hB : ∀ i, i < N → B + i ∉ ks) (hKB : ¬ (B ≤ K ∧ K < B + N)) (hN : N < 10000) (hM : M2 < 10000) (hRR : kR g = RR) (hrm : a + (1 + N) ≤ RR.cells ∧ b + (N + N * M2) ≤ RR.slots) (d : decode cc pc = .ok (.multianewarray index 2, 4)) (k : ∀ (q : Nat) (r : Nat → Nat), kv dd g (a + 1 + N) (b + N + N * M2) (pc + 4) lv (.ref q :: st) (ks ++ [K] ++ (List.range N).map (fun i => B + i)) (kmF K B N q r ad) (kmF K B N (kJJ dd N (fun i => if i < N then some (r i) else none)) (fun _ => kJ dd M2 (fun _ => 0)) E)) : kv dd g a b pc lv (.int (nI M2) :: .int (nI N) :: st) ks ad E := by
  obtain ⟨p, l, e, R, s, m, args, below, meth, c, Q, A, nL⟩ := g
  obtain ⟨hx, hb, hown, hts, hK, hA, hml, hZ, hst⟩ := C
  intro H locs ls hP hD hS hl
  subst hRR
  have hc := va_nm_long (hK.2 1 (dd.2.2.1, .long) rfl).2
  have e0 : ∀ f : Nat → va_E, kw ks ad E ++ va_pl [] f = kw ks ad E := fun f => List.append_nil _
  refine va_mna (X := kw ks ad E) (L := []) (f := fun _ => kJ dd 0 (fun _ => 0)) (ty := .long) (cy := dd.2.2.1) (N' := N) (K' := M2) (z := (M2, .inr (.inl (fun _ => 0)))) hx hb hown (hts _ hcl) hZ.2.2.2.2.2.2.2.2.2.1 (hts _ har) hc hK (by rw [e0]; exact hP) (by rw [e0]; exact hD) hS hA (by rw [i_lt, nI_toInt (by omega)]; show ¬ (N : Int) < 0; omega) (by rw [i_lt, nI_toInt (by omega)]; show ¬ (M2 : Int) < 0; omega) (nI_clamp (by omega)) (nI_clamp (by omega)) (by omega) (by show M2 * _ ≤ _; simp only [componentBytes]; omega) (by omega) rfl rfl hrm.1 hrm.2 (fun c => by show _ = arrV c M2 (fun _ => .long 0); rw [← arrV_new]; rfl) d (fun q r cA H1 hr1 hr2 hK1 hP1 hD1 hS1 => ?_)
  have e := kK_at (fun C h => by cases h) hK1 (i := 3) (c2 := dd.2.2.2.2.1) rfl
  subst e
  have e1 : ((kw ks ad E ++ [(q, .inl (dd.2.2.2.2.1, N, .inr (.inr (.inr (.inr (fun i => if i < N then some (r i) else none))))))]) ++ va_pl ([] ++ (List.range N).map r) (vr_up (fun _ => kJ dd 0 (fun _ => 0)) ((List.range N).map r) (.inl (dd.2.2.1, (M2, .inr (.inl (fun _ => 0))))))) = kw (ks ++ [K] ++ (List.range N).map (fun i => B + i)) (kmF K B N q r ad) (kmF K B N (kJJ dd N (fun i => if i < N then some (r i) else none)) (fun _ => kJ dd M2 (fun _ => 0)) E) := by
    rw [kmF_kw hKn hB hKB, ← vr_rows (L := []) (fun _ _ h => nomatch h)]
    rfl
  rw [e1] at hP1 hD1
  exact k q r H1 locs ls hP1 hD1 hS1 hl
/-- N rows more, and the row of rows -/
def kMna (dd : kDD) (ks : List Nat) (ad : Nat → Nat) (E : Nat → va_E) (ks2 : List Nat) (ad2 : Nat → Nat) (E2 : Nat → va_E) (K B N M2 : Nat) : Prop := (∀ j, j ∈ ks2 ↔ j ∈ ks ∨ j = K ∨ (B ≤ j ∧ j < B + N)) ∧ (∀ j, ¬ (j = K ∨ (B ≤ j ∧ j < B + N)) → ad2 j = ad j ∧ E2 j = E j) ∧ (∃ f, E2 K = kJJ dd N f ∧ ∀ i, i < N → f i = some (ad2 (B + i))) ∧ ∀ i, i < N → E2 (B + i) = kJ dd M2 (fun _ => 0)
theorem kv_mnaR {dd : kDD} {g : kG} {cc : ByteArray} {own : String} {Ts : List Cond} {a b pc : Nat} {lv : List (Nat × Value)} {st : List Value} {ks : List Nat} {ad : Nat → Nat} {E : Nat → va_E} (C : kX dd g cc own Ts) {index N M2 : Nat} {RR : Room} (K B : Nat) (hcl : Cond.classLink own index ("[" ++ (FieldType.array .long).toString) ∈ Ts) (har : Cond.arrayClass .long ∈ Ts) (hKB : ¬ (B ≤ K ∧ K < B + N)) (hN : N < 10000) (hM : M2 < 10000) (hRR : kR g = RR) (hrm : a + (1 + N) ≤ RR.cells ∧ b + (N + N * M2) ≤ RR.slots) (d : decode cc pc = .ok (.multianewarray index 2, 4)) (k : ∀ ks2 ad2 E2, kMna dd ks ad E ks2 ad2 E2 K B N M2 → kv dd g (a + 1 + N) (b + N + N * M2) (pc + 4) lv (.ref (ad2 K) :: st) ks2 ad2 E2) : kv dd g a b pc lv (.int (nI M2) :: .int (nI N) :: st) ks ad E := by
  refine kv_nodup (fun hnd => kv_keys (ks2 := ks.filter (fun j => j != K && !(decide (B ≤ j) && decide (j < B + N)))) (hnd.filter _) (fun j hj => (List.mem_filter.mp hj).1) ?_)
  have hm : ∀ j, j ∈ ks.filter (fun j => j != K && !(decide (B ≤ j) && decide (j < B + N))) ↔ j ∈ ks ∧ ¬ (j = K ∨ (B ≤ j ∧ j < B + N)) := fun j => by
    rw [List.mem_filter]
    constructor
    · rintro ⟨q1, q2⟩
      refine ⟨q1, fun q => ?_⟩
      rcases q with q | ⟨q, q3⟩
      · rw [q] at q2; simp at q2
      · simp [q, q3] at q2
    · rintro ⟨q1, q2⟩
      refine ⟨q1, ?_⟩
      have n1 : j ≠ K := fun q => q2 (Or.inl q)
      by_cases c : B ≤ j
      · have n2 : ¬ j < B + N := fun q => q2 (Or.inr ⟨c, q⟩)
        simp [n1, n2]
      · simp [n1, c]
  refine kv_mnaJ C K B hcl har (fun q => ((hm K).mp q).2 (Or.inl rfl)) (fun i hi q => ((hm _).mp q).2 (Or.inr ⟨by omega, by omega⟩)) hKB hN hM hRR hrm d (fun q r => ?_)
  have z := k (ks.filter (fun j => j != K && !(decide (B ≤ j) && decide (j < B + N))) ++ [K] ++ (List.range N).map (fun i => B + i)) (kmF K B N q r ad) (kmF K B N (kJJ dd N (fun i => if i < N then some (r i) else none)) (fun _ => kJ dd M2 (fun _ => 0)) E) ⟨fun j => ?_, fun j hj => ⟨kmF_ne hj, kmF_ne hj⟩, ⟨_, kmF_K, fun i hi => ?_⟩, fun i hi => kmF_B hKB hi⟩
  · rw [kmF_K] at z; exact z
  · rw [List.mem_append, List.mem_append, hm, List.mem_singleton, List.mem_map]
    constructor
    · rintro ((q | q) | ⟨i, q, rfl⟩)
      · exact Or.inl q.1
      · exact Or.inr (Or.inl q)
      · have := List.mem_range.mp q; exact Or.inr (Or.inr ⟨by omega, by omega⟩)
    · intro q
      by_cases c : j = K ∨ (B ≤ j ∧ j < B + N)
      · rcases c with c | c
        · exact Or.inl (Or.inr c)
        · exact Or.inr ⟨j - B, List.mem_range.mpr (by omega), by omega⟩
      · rcases q with q | q | q
        · exact Or.inl (Or.inl ⟨q, c⟩)
        · exact absurd (Or.inl q) c
        · exact absurd (Or.inr q) c
  · show (if i < N then some (r i) else none) = some (kmF K B N q r ad (B + i))
    rw [if_pos hi, kmF_B hKB hi]

/-! P43: THE CHEAPEST SET -/
/-- the sets below t that have been reached, the best of them, and whether C is one -/
def chI (al : Nat → Prop) (T : Nat → Int64) (C t : Nat) (least : Int64) (best isR : Int32) : Prop := ∃ R : Nat → Prop, (∀ s, R s → s < t ∧ al s) ∧ ((best = -1 ∧ least = 9223372036854775807 ∧ ∀ s, ¬ R s) ∨ ∃ b, R b ∧ best = nI b ∧ least = T b ∧ (∀ s, R s → (T b).toInt ≤ (T s).toInt) ∧ ∀ s, s < b → R s → (T b).toInt < (T s).toInt) ∧ ((isR = 1 ∧ R C) ∨ (isR = 0 ∧ ¬ R C))
section
variable {al : Nat → Prop} {T : Nat → Int64} {C t : Nat} {least : Int64} {best isR : Int32}
theorem chI_0 : chI al T C 0 9223372036854775807 (-1) 0 := ⟨fun _ => False, fun _ h => h.elim, Or.inl ⟨rfl, rfl, fun _ h => h⟩, Or.inr ⟨rfl, fun h => h⟩⟩
/-- a set that isn't reached -/
theorem chI_no (h : chI al T C t least best isR) : chI al T C (t + 1) least best isR := by
  obtain ⟨R, h1, h2, h3⟩ := h
  exact ⟨R, fun s q => ⟨by have := (h1 s q).1; omega, (h1 s q).2⟩, h2, h3⟩
theorem chI_isR (h : chI al T C t least best isR) : isR = 0 ∨ isR = 1 := by
  obtain ⟨R, -, -, ⟨h, -⟩ | ⟨h, -⟩⟩ := h
  · exact Or.inr h
  · exact Or.inl h
/-- a set that is reached: whether t is C -/
theorem chI_r (h : chI al T C t least best isR) (ha : al t) (hT : T t < 9223372036854775807) (r2 : Int32) (hr : (r2 = 1 ∧ (isR = 1 ∨ t = C)) ∨ (r2 = 0 ∧ isR = 0 ∧ t ≠ C)) : (T t < least → chI al T C (t + 1) (T t) (nI t) r2) ∧ (¬ T t < least → chI al T C (t + 1) least best r2) := by
  obtain ⟨R, h1, h2, h3⟩ := h
  have hm : (9223372036854775807 : Int64).toInt = 9223372036854775807 := by decide
  have q3 : ((r2 = 1 ∧ (R C ∨ C = t)) ∨ (r2 = 0 ∧ ¬ (R C ∨ C = t))) := by
    rcases hr with ⟨e, q⟩ | ⟨e, q1, q2⟩
    · refine Or.inl ⟨e, ?_⟩
      rcases q with q | q
      · rcases h3 with ⟨-, w⟩ | ⟨w, -⟩
        · exact Or.inl w
        · rw [w] at q; exact absurd q (by decide)
      · exact Or.inr q.symm
    · refine Or.inr ⟨e, ?_⟩
      rintro (w | w)
      · rcases h3 with ⟨w2, -⟩ | ⟨-, w2⟩
        · rw [w2] at q1; exact absurd q1 (by decide)
        · exact w2 w
      · exact q2 w.symm
  have q1 : ∀ s, (R s ∨ s = t) → s < t + 1 ∧ al s := by
    rintro s (w | w)
    · exact ⟨by have := (h1 s w).1; omega, (h1 s w).2⟩
    · subst w; exact ⟨by omega, ha⟩
  refine ⟨fun lt => ⟨fun s => R s ∨ s = t, q1, Or.inr ⟨t, Or.inr rfl, rfl, rfl, ?_, ?_⟩, q3⟩, fun nl => ⟨fun s => R s ∨ s = t, q1, ?_, q3⟩⟩
  · rintro s (w | w)
    · rcases h2 with ⟨-, -, w2⟩ | ⟨b, -, -, e, w2, -⟩
      · exact absurd w (w2 s)
      · rw [e] at lt; have := Int64.lt_iff_toInt_lt.mp lt; have := w2 s w; omega
    · exact Int.le_of_eq (by rw [w])
  · rintro s hs (w | w)
    · rcases h2 with ⟨-, -, w2⟩ | ⟨b, -, -, e, w2, -⟩
      · exact absurd w (w2 s)
      · rw [e] at lt; have := Int64.lt_iff_toInt_lt.mp lt; have := w2 s w; omega
    · omega
  · rcases h2 with ⟨-, e, -⟩ | ⟨b, b1, b2, b3, b4, b5⟩
    · rw [e] at nl; exact absurd hT nl
    · rw [b3] at nl
      have nl2 : ¬ (T t).toInt < (T b).toInt := fun w => nl (Int64.lt_iff_toInt_lt.mpr w)
      refine Or.inr ⟨b, Or.inl b1, b2, b3, ?_, ?_⟩
      · rintro s (w | w)
        · exact b4 s w
        · rw [w]; omega
      · rintro s hs (w | w)
        · exact b5 s hs w
        · have := (h1 b b1).1; omega
/-- at the end -/
theorem chI_end (h : chI al T C t least best isR) (hi : isR = 1) (hmin : ∀ k, k < t → al k → (T C).toInt ≤ (T k).toInt) (hfst : ∀ k, k < C → al k → (T C).toInt < (T k).toInt) : best = nI C := by
  obtain ⟨R, h1, h2, h3⟩ := h
  have hC : R C := by
    rcases h3 with ⟨-, w⟩ | ⟨w, -⟩
    · exact w
    · rw [w] at hi; exact absurd hi (by decide)
  rcases h2 with ⟨-, -, w⟩ | ⟨b, b1, b2, b3, b4, b5⟩
  · exact absurd hC (w C)
  · have e1 := b4 C hC
    have e2 := hmin b (h1 b b1).1 (h1 b b1).2
    rcases Nat.lt_trichotomy b C with w | w | w
    · have := hfst b w (h1 b b1).2; omega
    · rw [b2, w]
    · have := b5 C w hC; omega
end
theorem sh_n : ∀ V : Fin 5, (1 : Int32) <<< (nI V.1 &&& 31) = nI (2 ^ V.1) := by decide +kernel
theorem bit_p : ∀ (s : Fin 16) (j : Fin 4), nI s.1 >>> (nI j.1 &&& 31) &&& 1 = 0 ∨ nI s.1 >>> (nI j.1 &&& 31) &&& 1 = 1 := by decide +kernel
theorem bit_x : ∀ (o : Fin 16) (j i : Fin 4), i.1 ≠ j.1 → (nI o.1 ^^^ ((1 : Int32) <<< (nI j.1 &&& 31))) >>> (nI i.1 &&& 31) &&& 1 = nI o.1 >>> (nI i.1 &&& 31) &&& 1 := by decide +kernel
theorem bit_y : ∀ (o : Fin 16) (j : Fin 4), ((nI o.1 >>> (nI j.1 &&& 31) &&& 1 = 1 → (nI o.1 ^^^ ((1 : Int32) <<< (nI j.1 &&& 31))) >>> (nI j.1 &&& 31) &&& 1 = 0) ∧ (¬ nI o.1 >>> (nI j.1 &&& 31) &&& 1 = 1 → (nI o.1 ^^^ ((1 : Int32) <<< (nI j.1 &&& 31))) >>> (nI j.1 &&& 31) &&& 1 = 1)) := by decide +kernel
theorem bit_all : ∀ (V : Fin 5) (o s : Fin 16), o.1 < 2 ^ V.1 → s.1 < 2 ^ V.1 → (∀ i : Fin 4, i.1 < V.1 → nI o.1 >>> (nI i.1 &&& 31) &&& 1 = nI s.1 >>> (nI i.1 &&& 31) &&& 1) → o.1 = s.1 := by decide +kernel
theorem p2 : ∀ V : Fin 5, 2 ^ V.1 ≤ 16 := by decide
/-- the bits below v are those of s -/
def bEq (o : Int32) (s v : Nat) : Prop := ∀ i, i < v → o >>> (nI i &&& 31) &&& 1 = nI s >>> (nI i &&& 31) &&& 1
theorem bEq_s {o : Int32} {s v : Nat} (h : bEq o s v) (h1 : o >>> (nI v &&& 31) &&& 1 = nI s >>> (nI v &&& 31) &&& 1) : bEq o s (v + 1) := by
  intro i hi
  by_cases c : i = v
  · rw [c]; exact h1
  · exact h i (by omega)
theorem bEq_x {o s v : Nat} (h : bEq (nI o) s v) (ho : o < 16) (hs : s < 16) (hv : v < 4) (hne : ¬ nI o >>> (nI v &&& 31) &&& 1 = nI s >>> (nI v &&& 31) &&& 1) : bEq (nI o ^^^ ((1 : Int32) <<< (nI v &&& 31))) s (v + 1) := by
  refine bEq_s (fun i hi => ?_) ?_
  · rw [bit_x ⟨o, ho⟩ ⟨v, hv⟩ ⟨i, by omega⟩ (by show i ≠ v; omega)]; exact h i hi
  · by_cases c : nI o >>> (nI v &&& 31) &&& 1 = 1
    · rw [(bit_y ⟨o, ho⟩ ⟨v, hv⟩).1 c]
      rcases bit_p ⟨s, hs⟩ ⟨v, hv⟩ with q | q
      · exact q.symm
      · exact absurd (c.trans q.symm) hne
    · rw [(bit_y ⟨o, ho⟩ ⟨v, hv⟩).2 c]
      rcases bit_p ⟨s, hs⟩ ⟨v, hv⟩ with q | q
      · rcases bit_p ⟨o, ho⟩ ⟨v, hv⟩ with w | w
        · exact absurd (w.trans q.symm) hne
        · exact absurd w c
      · exact q.symm

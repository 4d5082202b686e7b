/-! the reference: share, factor, its constructor -/
theorem net_clean {ki pr : Nat → Int32} {f am : Nat → Int64} {n : Nat} : mkd ki (mset f am n) pr 0 n + mkd ki (mset f am n) pr 1 n + mkd ki (mset f am n) pr 2 n = mkd ki am pr 0 n + mkd ki am pr 1 n + mkd ki am pr 2 n := by
  rw [mkd_set (Nat.le_refl _), mkd_set (Nat.le_refl _), mkd_set (Nat.le_refl _)]
/-- the reference's first state -/
def mZ : mS := (fun _ => 0, fun _ _ => 0, fun _ _ => 0)

def kZ14 : List Value := [.int 0, .int 0, .null, .null, .null, .null, .int 0, .null, .null, .null, .int 0, .null, .null, .null, .null, .null, .int 0, .null, .int 0, .null, .null, .int 0, .null, .null, .int 0, .int 0, .null, .null, .null, .null, .null, .null, .null, .null]
/-- the constructor under way: which rows are there -/
def kIni (dd : kDD) (ks : List Nat) (ad : Nat → Nat) (E : Nat → va_E) : Prop := (∃ fs, E 0 = .inr (14, fs) ∧ fs.length = 34 ∧ ∀ j, j < 34 → fs[j]? = some (if mInts.contains j = true then .int 0 else if ks.contains j = true then .ref (ad j) else .null)) ∧ ∀ j, j ∈ ks → j ≠ 0 → E j = mE dd ad mZ j
theorem kIni_0 {dd : kDD} {ad : Nat → Nat} : kIni dd [0] ad (fun _ => Sum.inr (14, kZ14)) := by
  refine ⟨⟨kZ14, rfl, rfl, fun j hj => ?_⟩, fun j hj h0 => absurd (List.mem_singleton.mp hj) h0⟩
  have : ∀ j : Fin 34, kZ14[j.1]? = some (if mInts.contains j.1 = true then .int 0 else if [0].contains j.1 = true then .ref (ad j.1) else .null) := by
    intro j
    have h : j.1 ≠ 0 → [0].contains j.1 = false := by intro h; simp [h]
    by_cases c : j.1 = 0
    · rw [c]; rfl
    · rw [h c]
      revert j
      exact fun j h c => (by decide : ∀ j : Fin 34, kZ14[j.1]? = some (if mInts.contains j.1 = true then .int 0 else if false = true then .ref 0 else .null)) j ▸ rfl
  exact this ⟨j, hj⟩
theorem kIni_end {dd : kDD} {ad : Nat → Nat} {E : Nat → va_E} (h : kIni dd mK ad E) : ∀ j, j ∈ mK → E j = mE dd ad mZ j := by
  intro j hj
  by_cases c : j = 0
  · subst c
    obtain ⟨⟨fs, e0, e1, e2⟩, -⟩ := h
    rw [e0]
    show Sum.inr (14, fs) = Sum.inr (14, mObj ad (fun _ => 0))
    congr 2
    apply List.ext_getElem?
    intro i
    by_cases hi : i < 34
    · rw [e2 i hi]
      have : ∀ i : Fin 34, (mObj ad (fun _ => 0))[i.1]? = some (if mInts.contains i.1 = true then .int 0 else if mK.contains i.1 = true then .ref (ad i.1) else .null) := by
        intro i
        rcases i with ⟨i, hi⟩
        match i, hi with
        | 0, _ => rfl
        | 1, _ => rfl
        | 2, _ => rfl
        | 3, _ => rfl
        | 4, _ => rfl
        | 5, _ => rfl
        | 6, _ => rfl
        | 7, _ => rfl
        | 8, _ => rfl
        | 9, _ => rfl
        | 10, _ => rfl
        | 11, _ => rfl
        | 12, _ => rfl
        | 13, _ => rfl
        | 14, _ => rfl
        | 15, _ => rfl
        | 16, _ => rfl
        | 17, _ => rfl
        | 18, _ => rfl
        | 19, _ => rfl
        | 20, _ => rfl
        | 21, _ => rfl
        | 22, _ => rfl
        | 23, _ => rfl
        | 24, _ => rfl
        | 25, _ => rfl
        | 26, _ => rfl
        | 27, _ => rfl
        | 28, _ => rfl
        | 29, _ => rfl
        | 30, _ => rfl
        | 31, _ => rfl
        | 32, _ => rfl
        | 33, _ => rfl
        | n + 34, h => exact absurd h (by omega)
      exact (this ⟨i, hi⟩).symm
    · rw [List.getElem?_eq_none (by omega), List.getElem?_eq_none (by show 34 ≤ i; omega)]
  · exact h.2 j hj c
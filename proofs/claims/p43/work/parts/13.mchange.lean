/-! the reference's methods that change crews, items, variants, mark-ups, rows -/
/-- one of n places behind b holds r -/
def mhas (f : Nat → Int32) (b : Nat) (r : Int32) (n : Nat) : Prop := ∃ x, x < n ∧ f (b + x) = r
theorem mhas_s {f : Nat → Int32} {b n : Nat} {r : Int32} : mhas f b r (n + 1) ↔ mhas f b r n ∨ f (b + n) = r := by
  constructor
  · rintro ⟨x, hx, e⟩
    by_cases c : x = n
    · exact Or.inr (c ▸ e)
    · exact Or.inl ⟨x, by omega, e⟩
  · rintro (⟨x, hx, e⟩ | e)
    · exact ⟨x, by omega, e⟩
    · exact ⟨n, by omega, e⟩
/-- rows behind 'row' come one place nearer: the first i of them -/
def mshift (f : Nat → Int32) (row i : Nat) : Nat → Int32 := fun k => if row ≤ k ∧ k < i then f (k + 1) else f k
theorem mshift_s {f : Nat → Int32} {row i : Nat} (h : row ≤ i) : upd (mshift f row i) i (f (i + 1)) = mshift f row (i + 1) := by
  funext k
  unfold upd mshift
  by_cases c : k = i
  · subst c
    rw [if_pos rfl, if_pos ⟨h, by omega⟩]
  · rw [if_neg c]
    by_cases c2 : row ≤ k ∧ k < i
    · rw [if_pos c2, if_pos ⟨c2.1, by omega⟩]
    · rw [if_neg c2, if_neg (by omega)]
theorem mshift_at {f : Nat → Int32} {row i k : Nat} (h : i ≤ k) : mshift f row i k = f k := if_neg (by omega)
theorem mshift_0 {f : Nat → Int32} {row : Nat} : mshift f row row = f := funext fun k => if_neg (by omega)
/-- n places behind b are filled with -1 -/
def mfill (f : Nat → Int32) (b n : Nat) : Nat → Int32 := fun k => if b ≤ k ∧ k < b + n then -1 else f k
theorem mfill_s {f : Nat → Int32} {b n : Nat} : upd (mfill f b n) (b + n) (-1) = mfill f b (n + 1) := by
  funext k
  unfold upd mfill
  by_cases c : k = b + n
  · subst c
    rw [if_pos rfl, if_pos ⟨by omega, by omega⟩]
  · rw [if_neg c]
    by_cases c2 : b ≤ k ∧ k < b + n
    · rw [if_pos c2, if_pos ⟨c2.1, by omega⟩]
    · rw [if_neg c2, if_neg (by omega)]
theorem va_up_abab {α : Type} (A : Nat → α) (a b : Nat) (f g f1 g1 : α) : va_up (va_up (va_up (va_up A a f) b g) a f1) b g1 = va_up (va_up A a f1) b g1 := by
  funext k
  unfold va_up
  by_cases hb : k = b <;> by_cases ha : k = a <;> simp [hb, ha]
theorem va_up_id {α : Type} (A : Nat → α) (a : Nat) : va_up A a (A a) = A := by
  funext k
  unfold va_up
  by_cases ha : k = a <;> simp [ha]
theorem mfill_0 {f : Nat → Int32} {b : Nat} : mfill f b 0 = f := funext fun k => if_neg (by omega)

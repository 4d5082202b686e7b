/-! what the reference computes, and its small methods (2) -/
/-- the thrown field behind a refused call, behind another -/
def mT (M : mS) (k : Int32) : mS := (va_up (va_up M.1 0 0) 0 k, M.2)
def mT0 (M : mS) : mS := (va_up M.1 0 0, M.2)
/-- the sum of the measures of a line's rows, the first n rows looked at -/
def mq (rl ms : Nat → Int32) (line : Int32) : Nat → Int32
  | 0 => 0
  | n + 1 => mq rl ms line n + (if rl n = line then ms n else 0)
/-- what is meant by number j, from variant v on, k variants left; w: how many numbers a variant has -/
def mnt (on : Int32) (tab : Nat → Int32) (j : Nat) : Nat → Nat → Int32
  | 0, _ => nI j
  | k + 1, v => if on >>> (nI v &&& 31) &&& 1 = 1 ∧ ¬ tab (12 * v + j) = -1 then tab (12 * v + j) else mnt on tab j k (v + 1)
/-- how many of the first n behind 'fr' are not -1 -/
def tld (tab : Nat → Int32) (fr : Nat) : Nat → Int32
  | 0 => 0
  | n + 1 => tld tab fr n + (if tab (fr + n) = -1 then 0 else 1)
theorem mnt_in {on : Int32} {tab : Nat → Int32} {j : Nat} (hj : j < 12) {m : Nat} (hm : m ≤ 4) (h : ∀ q, q < 12 * m → tab q = -1 ∨ ∃ x, x < 12 ∧ tab q = nI x) : ∀ k v, v + k ≤ m → ∃ x, x < 12 ∧ mnt on tab j k v = nI x := by
  intro k
  induction k with
  | zero => intro v _; exact ⟨j, hj, rfl⟩
  | succ k ih =>
    intro v hv
    rw [mnt]
    by_cases c : on >>> (nI v &&& 31) &&& 1 = 1 ∧ ¬ tab (12 * v + j) = -1
    · rw [if_pos c]
      rcases h (12 * v + j) (by omega) with q | q
      · exact absurd q c.2
      · exact q
    · rw [if_neg c]
      exact ih (v + 1) (by omega)

/-! the reference's depths -/
def mset {α : Type} (f g : Nat → α) (i : Nat) : Nat → α := fun j => if j < i then g j else f j
theorem mset_0 {α : Type} {f g : Nat → α} : mset f g 0 = f := funext fun _ => if_neg (by omega)
theorem mset_upd {f g : Nat → Int32} {i : Nat} {x : Int32} (h : x = g i) : upd (mset f g i) i x = mset f g (i + 1) := by
  funext k
  unfold upd mset
  by_cases c : k = i
  · subst c; rw [if_pos rfl, if_pos (by omega), h]
  · rw [if_neg c]
    by_cases c2 : k < i
    · rw [if_pos c2, if_pos (by omega)]
    · rw [if_neg c2, if_neg (by omega)]
theorem mset_updL {f g : Nat → Int64} {i : Nat} {x : Int64} (h : x = g i) : vp_updL (mset f g i) i x = mset f g (i + 1) := by
  funext k
  unfold vp_updL mset
  by_cases c : k = i
  · subst c; rw [if_pos rfl, if_pos (by omega), h]
  · rw [if_neg c]
    by_cases c2 : k < i
    · rw [if_pos c2, if_pos (by omega)]
    · rw [if_neg c2, if_neg (by omega)]
theorem mset_in {α : Type} {f g : Nat → α} {i j : Nat} (h : j < i) : mset f g i j = g j := if_pos h
theorem mset_out {α : Type} {f g : Nat → α} {i j : Nat} (h : i ≤ j) : mset f g i j = f j := if_neg (by omega)
theorem mset_mset {α : Type} {f g h : Nat → α} {n : Nat} : mset (mset f g n) h n = mset f h n := by
  funext k
  unfold mset
  by_cases c : k < n
  · rw [if_pos c, if_pos c]
  · rw [if_neg c, if_neg c, if_neg c]
theorem updL_twice (f : Nat → Int64) (i : Nat) (x y : Int64) : vp_updL (vp_updL f i x) i y = vp_updL f i y := by
  funext k
  unfold vp_updL
  by_cases c : k = i
  · rw [if_pos c, if_pos c]
  · rw [if_neg c, if_neg c, if_neg c]
theorem va_up_up {α : Type} (f : Nat → α) (k : Nat) (v w : α) : va_up (va_up f k v) k w = va_up f k w := by
  funext j
  unfold va_up
  by_cases c : j = k
  · rw [if_pos c, if_pos c]
  · rw [if_neg c, if_neg c, if_neg c]
/-- the greatest of 1 and 1 plus what the parts among n places behind b have -/
def mdmx (so f : Nat → Int32) (b : Nat) : Nat → Int64
  | 0 => 1
  | n + 1 => if mdmx so f b n < (if so (b + n) = 0 then 1 + f (b + n) else 1 : Int32).toInt64 then (if so (b + n) = 0 then 1 + f (b + n) else 1 : Int32).toInt64 else mdmx so f b n
/-- the depths behind t rounds; nx k: the number that is meant at place k -/
def mD (so : Nat → Int32) (cn nx : Nat → Nat) (nt : Nat) (A0 : Nat → Int32) : Nat → Nat → Int32
  | 0 => mset A0 (fun _ => 1) nt
  | t + 1 => mset A0 (fun i => (mdmx so (fun k => mD so cn nx nt A0 t (nx k)) (4 * i) (cn i)).toInt32) nt
theorem mD_set {so : Nat → Int32} {cn nx : Nat → Nat} {nt : Nat} {A0 : Nat → Int32} (t : Nat) {h : Nat → Int32} : mset (mD so cn nx nt A0 t) h nt = mset A0 h nt := by
  cases t <;> exact mset_mset

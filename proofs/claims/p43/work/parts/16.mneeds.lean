/-! the reference: needs -/
/-- what n components from place b on add to s0 -/
def mstep (so mu : Nat → Int32) (nx : Nat → Nat) (need : Nat → Int64) (s0 : Int64) (b : Nat) : Nat → Int64
  | 0 => s0
  | n + 1 => mstep so mu nx need s0 b n + (if so (b + n) = 0 then (mu (b + n)).toInt64 * need (nx (b + n)) else 0)
/-- needs behind t rounds -/
def mN (so mu : Nat → Int32) (cn nx : Nat → Nat) (dir : Nat → Int64) : Nat → Nat → Int64
  | 0 => dir
  | t + 1 => fun i => mstep so mu nx (mN so mu cn nx dir t) (dir i) (4 * i) (cn i)
/-- what one unit of an item needs by its own, for items of a trade -/
def mdir (so mu nu pr tr : Nat → Int32) (cn nm mn mr me : Nat → Nat) (r td : Int32) (i : Nat) : Int64 :=
  if td = -1 ∨ tr i = td then mown so mu nu nm mn (fun x => mun pr (mr x) r) (fun x => mun pr (mr (me x)) r) (4 * i) (cn i) else 0

theorem va_up_abc {α : Type} (A : Nat → α) (f g h f1 : α) : va_up (va_up (va_up (va_up A 31 f) 32 g) 33 h) 32 f1 = va_up (va_up (va_up A 31 f) 32 f1) 33 h := by
  funext k
  unfold va_up
  by_cases hb : k = 32 <;> by_cases ha : k = 33 <;> simp [hb, ha]
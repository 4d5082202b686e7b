/-! the reference: amounts, kinds, packs, extra, look, total -/
/-- the lines' quantities times what their items need, n lines -/
def msumL (q : Nat → Int32) (nd : Nat → Int64) : Nat → Int64
  | 0 => 0
  | n + 1 => msumL q nd n + (q n).toInt64 * nd n
/-- packs that are bought, of an amount, with a waste and a pack size -/
def mpk (a : Int64) (w p : Int32) : Int64 := (a + (a * w.toInt64 + 99) / 100 + p.toInt64 - 1) / p.toInt64
/-- the costs of a kind, n resources -/
def mkd (ki : Nat → Int32) (am : Nat → Int64) (pr : Nat → Int32) (its : Int32) : Nat → Int64
  | 0 => 0
  | n + 1 => mkd ki am pr its n + (if ki n = its then am n * (pr n).toInt64 else 0)
/-- the extra cost, n resources -/
def mex (am : Nat → Int64) (wa pa pr : Nat → Int32) : Nat → Int64
  | 0 => 0
  | n + 1 => mex am wa pa pr n + (mpk (am n) (wa n) (pa n) * (pa n).toInt64 - am n) * (pr n).toInt64
/-- the sum of bases, n of them -/
def msb (bs : Int32) (f : Nat → Int64) : Nat → Int64
  | 0 => 0
  | n + 1 => msb bs f n + (if bs >>> (nI n &&& 31) &&& 1 = 1 then f n else 0)
/-- the mark-ups, n of them found -/
def mmk (bs pc : Nat → Int32) (kd : Nat → Int64) (ex : Int64) : Nat → Nat → Int64
  | 0, _ => 0
  | n + 1, j => if j < n then mmk bs pc kd ex n j else msb (bs n) (fun b => if b < 3 then kd b else if b = 3 then ex else mmk bs pc kd ex n (b - 4)) (4 + n) * (pc n).toInt64 / 100
/-- a sum of longs behind s0 -/
def msumJ (f : Nat → Int64) (s0 : Int64) : Nat → Int64
  | 0 => s0
  | n + 1 => msumJ f s0 n + f n
theorem mmk_set {f : Nat → Int64} {bs pc : Nat → Int32} {kd : Nat → Int64} {ex : Int64} {n : Nat} {x : Int64} (h : x = msb (bs n) (fun b => if b < 3 then kd b else if b = 3 then ex else mmk bs pc kd ex n (b - 4)) (4 + n) * (pc n).toInt64 / 100) : vp_updL (mset f (mmk bs pc kd ex n) n) n x = mset f (mmk bs pc kd ex (n + 1)) (n + 1) := by
  funext k
  unfold vp_updL mset
  by_cases c : k = n
  · subst c; rw [if_pos rfl, if_pos (by omega), mmk, if_neg (by omega), h]
  · rw [if_neg c]
    by_cases c2 : k < n
    · rw [if_pos c2, if_pos (by omega), mmk, if_pos c2]
    · rw [if_neg c2, if_neg (by omega)]
theorem i32_n0 {x : Int32} (h : 1 ≤ x) : ¬ x = 0 := by intro c; rw [c] at h; exact absurd h (by decide)
theorem i64_ne {x : Int32} (h : ¬ x = 0) : ¬ x.toInt64 = 0 := by
  intro q
  apply h
  have := congrArg Int64.toInt q
  rw [Int32.toInt_toInt64] at this
  apply Int32.toInt_inj.mp
  exact this

theorem scr_id (b : Nat → Nat → Int64) : va_up (va_up (va_up b 31 (b 31)) 32 (b 32)) 33 (b 33) = b := by
  funext k
  simp only [va_up]
  split
  · rename_i h; rw [h]
  · split
    · rename_i h; rw [h]
    · split
      · rename_i h; rw [h]
      · rfl
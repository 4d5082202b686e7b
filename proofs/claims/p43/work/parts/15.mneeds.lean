/-! the reference: allowed, own, needs -/
/-- what a unit of resource j counts: its price (r = -1), or 1 if it is r -/
def mun (pr : Nat → Int32) (j : Nat) (r : Int32) : Int64 := if r = -1 then (pr j).toInt64 else if nI j = r then 1 else 0
/-- a crew's work: n members from place b on, behind s0 -/
def mcrew (mu : Int32) (nu : Nat → Int32) (f : Nat → Int64) (b : Nat) (s0 : Int64) : Nat → Int64
  | 0 => s0
  | n + 1 => mcrew mu nu f b s0 n + (mu * nu (b + n)).toInt64 * f (b + n)
/-- one component's own need, behind s0 -/
def mone (so mu nu : Nat → Int32) (nm mn : Nat → Nat) (fu fm : Nat → Int64) (k : Nat) (s0 : Int64) : Int64 :=
  if so k = 2 then mcrew (mu k) nu fm (3 * nm k) (if so k = 1 then s0 + (mu k).toInt64 * fu (nm k) else s0) (mn (nm k)) else if so k = 1 then s0 + (mu k).toInt64 * fu (nm k) else s0
/-- what n components from place b on need by their own -/
def mown (so mu nu : Nat → Int32) (nm mn : Nat → Nat) (fu fm : Nat → Int64) (b : Nat) : Nat → Int64
  | 0 => 0
  | n + 1 => mone so mu nu nm mn fu fm (b + n) (mown so mu nu nm mn fu fm b n)

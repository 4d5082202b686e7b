/-! the reference: the last methods -/
/-- size of one of a row's shape -/
def msh (s a b c : Int32) : Int32 := if s = 110 then 1 else if s = 108 then a else if s = 114 then a * b else if s = 116 then a * b / 2 else if s = 112 then 2 * (a + b) else a * b * c
/-- the total, out of amounts -/
def mtot (ki wa pa pr bs pc : Nat → Int32) (am : Nat → Int64) (nR nM : Nat) : Int64 := msumJ (mmk bs pc (fun b => mkd ki am pr (nI b) nR) (mex am wa pa pr nR) nM) (mkd ki am pr 0 nR + mkd ki am pr 1 nR + mkd ki am pr 2 nR + mex am wa pa pr nR) nM
theorem mkd_set {ki pr : Nat → Int32} {f am : Nat → Int64} {its : Int32} {n : Nat} : ∀ {m : Nat}, m ≤ n → mkd ki (mset f am n) pr its m = mkd ki am pr its m := by
  intro m
  induction m with
  | zero => intro _; rfl
  | succ m ih => intro h; rw [mkd, mkd, ih (by omega), mset_in (by omega)]
theorem mex_set {wa pa pr : Nat → Int32} {f am : Nat → Int64} {n : Nat} : ∀ {m : Nat}, m ≤ n → mex (mset f am n) wa pa pr m = mex am wa pa pr m := by
  intro m
  induction m with
  | zero => intro _; rfl
  | succ m ih => intro h; rw [mex, mex, ih (by omega), mset_in (by omega)]
theorem msumJ_set {f am : Nat → Int64} {s0 : Int64} {n : Nat} : ∀ {m : Nat}, m ≤ n → msumJ (mset f am n) s0 m = msumJ am s0 m := by
  intro m
  induction m with
  | zero => intro _; rfl
  | succ m ih => intro h; rw [msumJ, msumJ, ih (by omega), mset_in (by omega)]
theorem tot_clean {ki wa pa pr bs pc : Nat → Int32} {f g am : Nat → Int64} {nR nM : Nat} : msumJ (mset g (mmk bs pc (fun b => mkd ki (mset f am nR) pr (nI b) nR) (mex (mset f am nR) wa pa pr nR) nM) nM) (mkd ki (mset f am nR) pr 0 nR + mkd ki (mset f am nR) pr 1 nR + mkd ki (mset f am nR) pr 2 nR + mex (mset f am nR) wa pa pr nR) nM = mtot ki wa pa pr bs pc am nR nM := by
  simp only [mtot, msumJ_set (Nat.le_refl _), mkd_set (Nat.le_refl _), mex_set (Nat.le_refl _)]
/-- the cheapest of the first n sets: f their totals, al which are allowed -/
def mB (al : Nat → Prop) (f : Nat → Int64) : Nat → Int32 → Int64 → Prop
  | 0, b, l => b = -1 ∧ l = 0
  | n + 1, b, l => ∃ b0 l0, mB al f n b0 l0 ∧ ((al n ∧ (b0 = -1 ∨ f n < l0) ∧ b = nI n ∧ l = f n) ∨ (¬ (al n ∧ (b0 = -1 ∨ f n < l0)) ∧ b = b0 ∧ l = l0))
/-- how many of the first n are ahead of j -/
def mah (f : Nat → Int64) (j : Nat) : Nat → Int32
  | 0 => 0
  | n + 1 => mah f j n + (if f j < f n ∨ (f n = f j ∧ n < j) then 1 else 0)
theorem k_upc {f : Nat → Int32} {c : Nat → Nat} {j N B : Nat} (h : ∀ i, i < N → f i = nI (c i) ∧ c i ≤ B) (hb : c j + 1 ≤ B) : ∀ i, i < N → upd f j (nI (c j + 1)) i = nI (va_up c j (c j + 1) i) ∧ va_up c j (c j + 1) i ≤ B := by
  intro i hi
  unfold upd va_up
  by_cases c2 : i = j
  · rw [if_pos c2, if_pos c2]; exact ⟨rfl, hb⟩
  · rw [if_neg c2, if_neg c2]; exact h i hi
theorem k_upn {f : Nat → Int32} {c : Nat → Nat} {j N B x : Nat} (h : ∀ i, i < N → f i = nI (c i) ∧ c i < B) (hb : x < B) : ∀ i, i < N → upd f j (nI x) i = nI (va_up c j x i) ∧ va_up c j x i < B := by
  intro i hi
  unfold upd va_up
  by_cases c2 : i = j
  · rw [if_pos c2, if_pos c2]; exact ⟨rfl, hb⟩
  · rw [if_neg c2, if_neg c2]; exact h i hi
theorem mdmx_congr {so f g : Nat → Int32} {b : Nat} : ∀ {n : Nat}, (∀ k, k < n → so (b + k) = 0 → f (b + k) = g (b + k)) → mdmx so f b n = mdmx so g b n := by
  intro n
  induction n with
  | zero => intro _; rfl
  | succ n ih =>
    intro h
    have e : (if so (b + n) = 0 then 1 + f (b + n) else 1 : Int32) = (if so (b + n) = 0 then 1 + g (b + n) else 1) := by
      by_cases c : so (b + n) = 0
      · rw [if_pos c, if_pos c, h n (by omega) c]
      · rw [if_neg c, if_neg c]
    rw [mdmx, mdmx, ih (fun k hk => h k (by omega)), e]
theorem mD_base {so : Nat → Int32} {cn nx : Nat → Nat} {nt : Nat} {A B : Nat → Int32} (h : ∀ i, i < nt → ∀ k, k < cn i → so (4 * i + k) = 0 → nx (4 * i + k) < nt) : ∀ t i, i < nt → mD so cn nx nt A t i = mD so cn nx nt B t i := by
  intro t
  induction t with
  | zero => intro i hi; rw [mD, mD, mset_in hi, mset_in hi]
  | succ t ih =>
    intro i hi
    rw [mD, mD, mset_in hi, mset_in hi, mdmx_congr (g := fun k => mD so cn nx nt B t (nx k)) (fun k hk hs => ih (nx (4 * i + k)) (h i hi k hk hs))]
theorem al_base {so : Nat → Int32} {cn nx : Nat → Nat} {nt : Nat} {A B : Nat → Int32} (h : ∀ i, i < nt → ∀ k, k < cn i → so (4 * i + k) = 0 → nx (4 * i + k) < nt) : (∀ k, k < nt → mD so cn nx nt A 3 k ≤ 3) ↔ (∀ k, k < nt → mD so cn nx nt B 3 k ≤ 3) := by
  constructor
  · intro q k hk; rw [mD_base h 3 k hk (A := B) (B := A)]; exact q k hk
  · intro q k hk; rw [mD_base h 3 k hk (A := A) (B := B)]; exact q k hk
theorem k_pow {n : Nat} (h : n ≤ 4) : (1 : Int32) <<< (nI n &&& 31) = nI (2 ^ n) := by
  rcases (by omega : n = 0 ∨ n = 1 ∨ n = 2 ∨ n = 3 ∨ n = 4) with rfl | rfl | rfl | rfl | rfl <;> decide
theorem k_pow_le {n : Nat} (h : n ≤ 4) : 2 ^ n ≤ 16 := by
  rcases (by omega : n = 0 ∨ n = 1 ∨ n = 2 ∨ n = 3 ∨ n = 4) with rfl | rfl | rfl | rfl | rfl <;> decide

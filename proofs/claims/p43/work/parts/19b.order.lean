/-! RANKS, AND THE CHEAPEST SET -/
def ct (P : Nat → Bool) : Nat → Nat
  | 0 => 0
  | n + 1 => ct P n + (if P n = true then 1 else 0)
theorem ct_le {P Q : Nat → Bool} : ∀ n, (∀ o, o < n → P o = true → Q o = true) → ct P n ≤ ct Q n := by
  intro n
  induction n with
  | zero => intro _; exact Nat.le_refl 0
  | succ n ih =>
    intro h
    have := ih (fun o ho => h o (by omega))
    rw [ct, ct]
    by_cases c : P n = true
    · rw [if_pos c, if_pos (h n (by omega) c)]; omega
    · rw [if_neg c]; split <;> omega
theorem ct_lt {P Q : Nat → Bool} : ∀ n, (∀ o, o < n → P o = true → Q o = true) → (∃ x, x < n ∧ Q x = true ∧ ¬ P x = true) → ct P n < ct Q n := by
  intro n
  induction n with
  | zero => rintro _ ⟨x, hx, _⟩; omega
  | succ n ih =>
    rintro h ⟨x, hx, hq, hp⟩
    have le := ct_le n (fun o ho => h o (by omega))
    rw [ct, ct]
    by_cases e : x = n
    · subst e
      rw [if_neg hp, if_pos hq]; omega
    · have lt := ih (fun o ho => h o (by omega)) ⟨x, by omega, hq, hp⟩
      by_cases c : P n = true
      · rw [if_pos c, if_pos (h n (by omega) c)]; omega
      · rw [if_neg c]; split <;> omega
theorem ct_n {P : Nat → Bool} : ∀ n, ct P n ≤ n := by
  intro n
  induction n with
  | zero => exact Nat.le_refl 0
  | succ n ih => rw [ct]; split <;> omega
/-- o comes ahead of j -/
def pr (f : Nat → Int64) (j o : Nat) : Bool := decide ((f j).toInt < (f o).toInt ∨ ((f o).toInt = (f j).toInt ∧ o < j))
def po (f : Nat → Int64) (r : Nat) : Bool := decide (0 < (f r).toInt)
theorem pr_iff {f : Nat → Int64} {j o : Nat} : pr f j o = true ↔ ((f j).toInt < (f o).toInt ∨ ((f o).toInt = (f j).toInt ∧ o < j)) := by unfold pr; exact decide_eq_true_iff
theorem po_iff {f : Nat → Int64} {r : Nat} : po f r = true ↔ 0 < (f r).toInt := by unfold po; exact decide_eq_true_iff
theorem mah_ct {f : Nat → Int64} {j : Nat} : ∀ n, mah f j n = nI (ct (pr f j) n) := by
  intro n
  induction n with
  | zero => rfl
  | succ n ih =>
    rw [mah, ct, ih]
    have e : (f j < f n ∨ (f n = f j ∧ n < j)) ↔ pr f j n = true := by
      rw [pr_iff, Int64.lt_iff_toInt_lt, Int64.toInt_inj]
    by_cases c : pr f j n = true
    · rw [if_pos (e.mpr c), if_pos c]; exact nI_add _ 1
    · rw [if_neg (fun q => c (e.mp q)), if_neg c, Int32.add_zero, Nat.add_zero]
theorem rk_lt {f : Nat → Int64} {i j n : Nat} (hi : i < n) (h : pr f j i = true) : ct (pr f i) n < ct (pr f j) n := by
  refine ct_lt n (fun o ho q => ?_) ⟨i, hi, h, fun q => ?_⟩
  · rw [pr_iff] at q h ⊢; omega
  · rw [pr_iff] at q; omega
theorem rk_dn {f : Nat → Int64} {j n : Nat} (hj : j < n) (h : 0 < (f j).toInt) : ct (pr f j) n < ct (po f) n := by
  refine ct_lt n (fun o ho q => ?_) ⟨j, hj, po_iff.mpr h, fun q => ?_⟩
  · rw [pr_iff] at q; rw [po_iff]; omega
  · rw [pr_iff] at q; omega
/-- each rank below the number of dear ones is there -/
theorem rk_ex {f : Nat → Int64} : ∀ n k, k < ct (po f) n → ∃ r, r < n ∧ 0 < (f r).toInt ∧ ct (pr f r) n = k := by
  intro n
  induction n with
  | zero => intro k hk; exact absurd hk (Nat.not_lt_zero k)
  | succ n ih =>
    intro k hk
    rw [ct] at hk
    by_cases c : po f n = true
    · rw [if_pos c] at hk
      have c0 := po_iff.mp c
      have pn : ¬ pr f n n = true := by rw [pr_iff]; omega
      have eN : ct (pr f n) (n + 1) = ct (pr f n) n := by rw [ct, if_neg pn, Nat.add_zero]
      have pd : ct (pr f n) n ≤ ct (po f) n := ct_le n (fun o ho q => by rw [pr_iff] at q; rw [po_iff]; omega)
      rcases Nat.lt_trichotomy k (ct (pr f n) n) with h | h | h
      · obtain ⟨r, h1, h2, h3⟩ := ih k (by omega)
        refine ⟨r, by omega, h2, ?_⟩
        have : ¬ pr f r n = true := by
          intro q
          rw [pr_iff] at q
          have := ct_le (P := pr f n) (Q := pr f r) n (fun o ho w => by rw [pr_iff] at w ⊢; omega)
          omega
        rw [ct, if_neg this]; omega
      · exact ⟨n, by omega, c0, by rw [eN]; exact h.symm⟩
      · obtain ⟨r, h1, h2, h3⟩ := ih (k - 1) (by omega)
        refine ⟨r, by omega, h2, ?_⟩
        have : pr f r n = true := by
          rw [pr_iff]
          rcases Int.lt_or_le (f r).toInt (f n).toInt with q | q
          · exact Or.inl q
          · exfalso
            have := ct_lt (P := pr f r) (Q := pr f n) n (fun o ho w => by rw [pr_iff] at w ⊢; omega) ⟨r, h1, by rw [pr_iff]; omega, by rw [pr_iff]; omega⟩
            omega
        rw [ct, if_pos this]; omega
    · rw [if_neg c] at hk
      obtain ⟨r, h1, h2, h3⟩ := ih k (by omega)
      refine ⟨r, by omega, h2, ?_⟩
      have : ¬ pr f r n = true := by
        have : ¬ 0 < (f n).toInt := fun q => c (po_iff.mpr q)
        rw [pr_iff]; omega
      rw [ct, if_neg this]; omega
/-- the first of the least -/
theorem mB_min {al : Nat → Prop} {f : Nat → Int64} : ∀ (n : Nat) (b : Int32) (l : Int64), n < 1000 → mB al f n b l → (b = -1 ∧ ∀ k, k < n → ¬ al k) ∨ ∃ c, c < n ∧ b = nI c ∧ al c ∧ l = f c ∧ (∀ k, k < n → al k → (f c).toInt ≤ (f k).toInt) ∧ ∀ k, k < c → al k → (f c).toInt < (f k).toInt := by
  intro n
  induction n with
  | zero => intro b l _ h; exact Or.inl ⟨h.1, fun k hk => absurd hk (Nat.not_lt_zero k)⟩
  | succ n ih =>
    intro b l hn h
    obtain ⟨b0, l0, h0, h1⟩ := h
    have m1 : ∀ c, c < 1000 → ¬ nI c = -1 := by
      intro c hc q
      have := congrArg Int32.toInt q
      rw [nI_toInt (by omega)] at this
      exact absurd this (by show ¬ (c : Int) = -1; omega)
    rcases ih b0 l0 (by omega) h0 with ⟨e1, e2⟩ | ⟨c, c1, c2, c3, c4, c5, c6⟩
    · rcases h1 with ⟨a1, a2, a3, a4⟩ | ⟨a1, a3, a4⟩
      · refine Or.inr ⟨n, by omega, a3, a1, a4, fun k hk hal => ?_, fun k hk hal => absurd hal (e2 k hk)⟩
        by_cases q : k = n
        · exact Int.le_of_eq (by rw [q])
        · exact absurd hal (e2 k (by omega))
      · refine Or.inl ⟨a3.trans e1, fun k hk hal => ?_⟩
        by_cases q : k = n
        · exact a1 ⟨q ▸ hal, Or.inl e1⟩
        · exact e2 k (by omega) hal
    · have hb0 : ¬ b0 = -1 := by rw [c2]; exact m1 c (by omega)
      rcases h1 with ⟨a1, a2, a3, a4⟩ | ⟨a1, a3, a4⟩
      · have lt : (f n).toInt < (f c).toInt := by
          rcases a2 with q | q
          · exact absurd q hb0
          · rw [c4] at q; exact Int64.lt_iff_toInt_lt.mp q
        refine Or.inr ⟨n, by omega, a3, a1, a4, fun k hk hal => ?_, fun k hk hal => ?_⟩
        · by_cases q : k = n
          · exact Int.le_of_eq (by rw [q])
          · have := c5 k (by omega) hal; omega
        · have := c5 k hk hal; omega
      · refine Or.inr ⟨c, by omega, a3.trans c2, c3, a4.trans c4, fun k hk hal => ?_, c6⟩
        by_cases q : k = n
        · rcases Int.lt_or_le (f n).toInt (f c).toInt with w | w
          · exact absurd ⟨q ▸ hal, Or.inr (by rw [c4]; exact Int64.lt_iff_toInt_lt.mpr w)⟩ a1
          · rw [q]; exact w
        · exact c5 k (by omega) hal

/-! the reference's small methods -/
theorem i_lt (a b : Int32) : a < b ↔ a.toInt < b.toInt := Int32.lt_iff_toInt_lt
theorem i_le (a b : Int32) : a ≤ b ↔ a.toInt ≤ b.toInt := Int32.le_iff_toInt_le
theorem k_rng {v : Int32} {n : Nat} (hn : n < 2 ^ 30) : (0 ≤ v ∧ v ≤ nI n - 1) ↔ ∃ j, j < n ∧ v = nI j := by
  have e2 : (nI n - 1).toInt = (n : Int) - 1 := pk_sub_toInt (a := n) (b := 1) hn (by decide)
  have e0 : (0 : Int32).toInt = 0 := rfl
  constructor
  · rintro ⟨h0, h1⟩
    obtain ⟨j, hj, rfl⟩ := nI_of (x := v) (by rw [i_lt]; rw [i_le] at h0; omega)
    refine ⟨j, ?_, rfl⟩
    rw [i_le, nI_toInt hj] at h1
    omega
  · rintro ⟨j, hj, rfl⟩
    rw [i_le, i_le, nI_toInt (by omega)]
    omega


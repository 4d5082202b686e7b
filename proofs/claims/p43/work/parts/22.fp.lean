/-! floats and doubles: what is no NaN -/
def fpOk (f : FP.Core.Fmt) : FP.Core.Datum → Prop
  | .nan => False
  | .inf _ => True
  | .fin _ c q => c < 2 ^ f.p ∧ q ≤ f.qmax
theorem fp_rr {f : FP.Core.Fmt} (hp : f.tails < 2 ^ f.p) (hq : f.qmin ≤ f.qmax) (s : Bool) (num den : Nat) (e : Int) : fpOk f (FP.Core.roundRatio f s num den e) := by
  unfold FP.Core.roundRatio
  split
  · exact ⟨Nat.lt_of_le_of_lt (Nat.zero_le _) hp, hq⟩
  · unfold FP.Core.roundAt FP.Core.settle FP.Core.bound
    split
    · rename_i h
      split
      · rename_i h2; exact ⟨h, h2⟩
      · trivial
    · split
      · rename_i h2; exact ⟨hp, h2⟩
      · trivial
theorem fp_log {n k : Nat} (h0 : n ≠ 0) (h : n ≤ 2 ^ k) : n.log2 ≤ k := by
  by_cases c : n.log2 ≤ k
  · exact c
  · have h1 : 2 ^ n.log2 ≤ n := Nat.log2_self_le h0
    have h2 : 2 ^ (k + 1) ≤ 2 ^ n.log2 := Nat.pow_le_pow_right (by decide) (by omega)
    have h3 : 2 ^ (k + 1) = 2 * 2 ^ k := by rw [Nat.pow_succ, Nat.mul_comm]
    have h4 : 0 < 2 ^ k := Nat.pow_pos (by decide)
    omega
theorem fp_near {a b : Nat} (hb : 0 < b) (h : b ≤ a) : 1 ≤ FP.Core.nearest a b := by
  have h1 : 1 ≤ a / b := (Nat.le_div_iff_mul_le hb).mpr (by omega)
  unfold FP.Core.nearest
  split
  · exact h1
  · split <;> omega
theorem fp_lead {n : Nat} (h : n ≠ 0) : FP.Core.leading n 1 = (n.log2 : Int) := by
  have h1 : (1 : Nat).log2 = 0 := by decide
  have h2 : 2 ^ n.log2 ≤ n := Nat.log2_self_le h
  unfold FP.Core.leading
  simp only [h1]
  rw [if_pos]
  · omega
  · have e1 : ((n.log2 : Int) - ((0 : Nat) : Int)).toNat = n.log2 := by omega
    have e2 : (-((n.log2 : Int) - ((0 : Nat) : Int))).toNat = 0 := by omega
    rw [e1, e2]
    omega
theorem fp_kb32 : FP.Core.b32.tails = 8388608 ∧ FP.Core.b32.exps = 256 ∧ FP.Core.b32.qmin = -149 ∧ FP.Core.b32.qmax = 104 ∧ FP.Core.b32.p = 24 ∧ 2 ^ FP.Core.b32.p = 16777216 := by decide
theorem fp_efb32 (s : Bool) (c : Nat) (q : Int) : FP.Core.encode FP.Core.b32 (.fin s c q) = if c < FP.Core.b32.tails then (s.toNat * FP.Core.b32.exps + 0) * FP.Core.b32.tails + c else (s.toNat * FP.Core.b32.exps + ((q - FP.Core.b32.qmin).toNat + 1)) * FP.Core.b32.tails + (c - FP.Core.b32.tails) := rfl
theorem fp_encb32 {d : FP.Core.Datum} (h : fpOk FP.Core.b32 d) : FP.Core.encode FP.Core.b32 d % 2147483648 ≤ 2139095040 := by
  obtain ⟨k1, k2, k3, k4, k5, k6⟩ := fp_kb32
  cases d with
  | nan => exact h.elim
  | inf s => unfold FP.Core.encode FP.Core.assemble; rw [k1, k2]; cases s <;> decide
  | fin s c q =>
    obtain ⟨h1, h2⟩ := h
    rw [k6] at h1
    rw [k4] at h2
    rw [fp_efb32, k1, k2, k3]
    have hsn := Bool.toNat_lt s
    split <;> omega
theorem fp_decb32 {n : Nat} (h : n % 2147483648 < 2139095040) : ∃ s c q, FP.Core.decode FP.Core.b32 n = .fin s c q ∧ (n % 2147483648 ≠ 0 → c ≠ 0) := by
  obtain ⟨k1, k2, k3, k4, k5, k6⟩ := fp_kb32
  unfold FP.Core.decode FP.Core.fieldE FP.Core.fieldT
  rw [k1, k2]
  rw [if_neg (by omega)]
  split
  · exact ⟨_, _, _, rfl, by omega⟩
  · exact ⟨_, _, _, rfl, by omega⟩
theorem fp_vfb32 {n : Nat} (h : n % 2147483648 ≤ 2139095040) : vf_n32 (UInt32.ofNat n) := by
  unfold vf_n32
  rw [UInt32.le_iff_toNat_le, UInt32.toNat_and]
  have e1 : (UInt32.ofNat n).toNat = n % 2 ^ 32 := UInt32.toNat_ofNat'
  have e2 : (0x7fffffff : UInt32).toNat = 2 ^ 31 - 1 := by decide
  rw [e1, e2, Nat.and_two_pow_sub_one_eq_mod]
  show n % 4294967296 % 2147483648 ≤ 2139095040
  omega
theorem fp_fvb32 {x : UInt32} (h : vf_n32 x) : x.toNat % 2147483648 ≤ 2139095040 := by
  unfold vf_n32 at h
  rw [UInt32.le_iff_toNat_le, UInt32.toNat_and] at h
  have e2 : (0x7fffffff : UInt32).toNat = 2 ^ 31 - 1 := by decide
  rw [e2, Nat.and_two_pow_sub_one_eq_mod] at h
  exact h
theorem fp_nnb32 {n : Nat} (h : n % 2147483648 ≤ 2139095040) : FP.Core.decode FP.Core.b32 n ≠ .nan := by
  obtain ⟨k1, k2, k3, k4, k5, k6⟩ := fp_kb32
  unfold FP.Core.decode FP.Core.fieldE FP.Core.fieldT
  rw [k1, k2]
  split
  · rw [if_pos (by omega)]
    intro q; cases q
  · split <;> (intro q; cases q)
theorem fp_intb32 {i : Int} (h : i.natAbs ≤ 2 ^ 63) : FP.Core.fromInt FP.Core.b32 i % 2147483648 < 2139095040 ∧ (i ≠ 0 → FP.Core.fromInt FP.Core.b32 i % 2147483648 ≠ 0) := by
  obtain ⟨k1, k2, k3, k4, k5, k6⟩ := fp_kb32
  unfold FP.Core.fromInt FP.Core.ofInt
  show FP.Core.encode FP.Core.b32 (FP.Core.roundRatio FP.Core.b32 (decide (i < 0)) i.natAbs 1 0) % 2147483648 < 2139095040 ∧ (i ≠ 0 → FP.Core.encode FP.Core.b32 (FP.Core.roundRatio FP.Core.b32 (decide (i < 0)) i.natAbs 1 0) % 2147483648 ≠ 0)
  generalize decide (i < 0) = s
  unfold FP.Core.roundRatio
  by_cases h0 : i.natAbs = 0
  · rw [if_pos h0]
    refine ⟨?_, fun q => absurd (by omega) q⟩
    unfold FP.Core.encode FP.Core.assemble
    rw [k1, k2]
    cases s <;> decide
  · rw [if_neg h0]
    have hl := fp_log h0 h
    have hq : FP.Core.quantum FP.Core.b32 i.natAbs 1 0 = (i.natAbs.log2 : Int) - 23 := by
      unfold FP.Core.quantum
      rw [fp_lead h0, k3, k5]
      show max _ ((i.natAbs.log2 : Int) + 0 - ((24 : Nat) - 1 : Int)) = _
      rw [Int.max_def]
      split <;> omega
    rw [hq]
    have hn : 1 ≤ FP.Core.nearest (FP.Core.unitsNum i.natAbs 0 ((i.natAbs.log2 : Int) - 23)) (FP.Core.unitsDen 1 0 ((i.natAbs.log2 : Int) - 23)) := by
      refine fp_near (by unfold FP.Core.unitsDen; exact Nat.mul_pos (by decide) (Nat.pow_pos (by decide))) ?_
      unfold FP.Core.unitsDen FP.Core.unitsNum
      rw [Nat.one_mul]
      have h2 : 2 ^ i.natAbs.log2 ≤ i.natAbs := Nat.log2_self_le h0
      have h3 : 2 ^ ((i.natAbs.log2 : Int) - 23 - 0).toNat ≤ 2 ^ i.natAbs.log2 := Nat.pow_le_pow_right (by decide) (by omega)
      have h4 : 0 < 2 ^ (0 - ((i.natAbs.log2 : Int) - 23)).toNat := Nat.pow_pos (by decide)
      exact Nat.le_trans (Nat.le_trans h3 h2) (Nat.le_mul_of_pos_right _ h4)
    unfold FP.Core.roundAt
    generalize FP.Core.nearest _ _ = c at hn
    unfold FP.Core.settle FP.Core.bound
    rw [k6, k4, k1]
    rw [if_pos (show (i.natAbs.log2 : Int) - 23 ≤ 104 by omega), if_pos (show (i.natAbs.log2 : Int) - 23 + 1 ≤ 104 by omega)]
    have hsn := Bool.toNat_lt s
    split <;> rw [fp_efb32, k1, k2, k3] <;> split <;> omega
theorem fp_quob32 {x y : Nat} (hx : x % 2147483648 < 2139095040) (hy : y % 2147483648 < 2139095040) (hy0 : y % 2147483648 ≠ 0) : FP.Core.div FP.Core.b32 x y % 2147483648 ≤ 2139095040 := by
  obtain ⟨s, c, q, e1, -⟩ := fp_decb32 hx
  obtain ⟨t, d, r, e2, h2⟩ := fp_decb32 hy
  unfold FP.Core.div
  rw [e1, e2]
  refine fp_encb32 ?_
  show fpOk FP.Core.b32 (if d = 0 then _ else _)
  rw [if_neg (h2 hy0)]
  exact fp_rr (by decide) (by decide) _ _ _ _
theorem fp_kb64 : FP.Core.b64.tails = 4503599627370496 ∧ FP.Core.b64.exps = 2048 ∧ FP.Core.b64.qmin = -1074 ∧ FP.Core.b64.qmax = 971 ∧ FP.Core.b64.p = 53 ∧ 2 ^ FP.Core.b64.p = 9007199254740992 := by decide
theorem fp_efb64 (s : Bool) (c : Nat) (q : Int) : FP.Core.encode FP.Core.b64 (.fin s c q) = if c < FP.Core.b64.tails then (s.toNat * FP.Core.b64.exps + 0) * FP.Core.b64.tails + c else (s.toNat * FP.Core.b64.exps + ((q - FP.Core.b64.qmin).toNat + 1)) * FP.Core.b64.tails + (c - FP.Core.b64.tails) := rfl
theorem fp_encb64 {d : FP.Core.Datum} (h : fpOk FP.Core.b64 d) : FP.Core.encode FP.Core.b64 d % 9223372036854775808 ≤ 9218868437227405312 := by
  obtain ⟨k1, k2, k3, k4, k5, k6⟩ := fp_kb64
  cases d with
  | nan => exact h.elim
  | inf s => unfold FP.Core.encode FP.Core.assemble; rw [k1, k2]; cases s <;> decide
  | fin s c q =>
    obtain ⟨h1, h2⟩ := h
    rw [k6] at h1
    rw [k4] at h2
    rw [fp_efb64, k1, k2, k3]
    have hsn := Bool.toNat_lt s
    split <;> omega
theorem fp_decb64 {n : Nat} (h : n % 9223372036854775808 < 9218868437227405312) : ∃ s c q, FP.Core.decode FP.Core.b64 n = .fin s c q ∧ (n % 9223372036854775808 ≠ 0 → c ≠ 0) := by
  obtain ⟨k1, k2, k3, k4, k5, k6⟩ := fp_kb64
  unfold FP.Core.decode FP.Core.fieldE FP.Core.fieldT
  rw [k1, k2]
  rw [if_neg (by omega)]
  split
  · exact ⟨_, _, _, rfl, by omega⟩
  · exact ⟨_, _, _, rfl, by omega⟩
theorem fp_vfb64 {n : Nat} (h : n % 9223372036854775808 ≤ 9218868437227405312) : vf_n64 (UInt64.ofNat n) := by
  unfold vf_n64
  rw [UInt64.le_iff_toNat_le, UInt64.toNat_and]
  have e1 : (UInt64.ofNat n).toNat = n % 2 ^ 64 := UInt64.toNat_ofNat'
  have e2 : (0x7fffffffffffffff : UInt64).toNat = 2 ^ 63 - 1 := by decide
  rw [e1, e2, Nat.and_two_pow_sub_one_eq_mod]
  show n % 18446744073709551616 % 9223372036854775808 ≤ 9218868437227405312
  omega
theorem fp_fvb64 {x : UInt64} (h : vf_n64 x) : x.toNat % 9223372036854775808 ≤ 9218868437227405312 := by
  unfold vf_n64 at h
  rw [UInt64.le_iff_toNat_le, UInt64.toNat_and] at h
  have e2 : (0x7fffffffffffffff : UInt64).toNat = 2 ^ 63 - 1 := by decide
  rw [e2, Nat.and_two_pow_sub_one_eq_mod] at h
  exact h
theorem fp_nnb64 {n : Nat} (h : n % 9223372036854775808 ≤ 9218868437227405312) : FP.Core.decode FP.Core.b64 n ≠ .nan := by
  obtain ⟨k1, k2, k3, k4, k5, k6⟩ := fp_kb64
  unfold FP.Core.decode FP.Core.fieldE FP.Core.fieldT
  rw [k1, k2]
  split
  · rw [if_pos (by omega)]
    intro q; cases q
  · split <;> (intro q; cases q)
theorem fp_intb64 {i : Int} (h : i.natAbs ≤ 2 ^ 63) : FP.Core.fromInt FP.Core.b64 i % 9223372036854775808 < 9218868437227405312 ∧ (i ≠ 0 → FP.Core.fromInt FP.Core.b64 i % 9223372036854775808 ≠ 0) := by
  obtain ⟨k1, k2, k3, k4, k5, k6⟩ := fp_kb64
  unfold FP.Core.fromInt FP.Core.ofInt
  show FP.Core.encode FP.Core.b64 (FP.Core.roundRatio FP.Core.b64 (decide (i < 0)) i.natAbs 1 0) % 9223372036854775808 < 9218868437227405312 ∧ (i ≠ 0 → FP.Core.encode FP.Core.b64 (FP.Core.roundRatio FP.Core.b64 (decide (i < 0)) i.natAbs 1 0) % 9223372036854775808 ≠ 0)
  generalize decide (i < 0) = s
  unfold FP.Core.roundRatio
  by_cases h0 : i.natAbs = 0
  · rw [if_pos h0]
    refine ⟨?_, fun q => absurd (by omega) q⟩
    unfold FP.Core.encode FP.Core.assemble
    rw [k1, k2]
    cases s <;> decide
  · rw [if_neg h0]
    have hl := fp_log h0 h
    have hq : FP.Core.quantum FP.Core.b64 i.natAbs 1 0 = (i.natAbs.log2 : Int) - 52 := by
      unfold FP.Core.quantum
      rw [fp_lead h0, k3, k5]
      show max _ ((i.natAbs.log2 : Int) + 0 - ((53 : Nat) - 1 : Int)) = _
      rw [Int.max_def]
      split <;> omega
    rw [hq]
    have hn : 1 ≤ FP.Core.nearest (FP.Core.unitsNum i.natAbs 0 ((i.natAbs.log2 : Int) - 52)) (FP.Core.unitsDen 1 0 ((i.natAbs.log2 : Int) - 52)) := by
      refine fp_near (by unfold FP.Core.unitsDen; exact Nat.mul_pos (by decide) (Nat.pow_pos (by decide))) ?_
      unfold FP.Core.unitsDen FP.Core.unitsNum
      rw [Nat.one_mul]
      have h2 : 2 ^ i.natAbs.log2 ≤ i.natAbs := Nat.log2_self_le h0
      have h3 : 2 ^ ((i.natAbs.log2 : Int) - 52 - 0).toNat ≤ 2 ^ i.natAbs.log2 := Nat.pow_le_pow_right (by decide) (by omega)
      have h4 : 0 < 2 ^ (0 - ((i.natAbs.log2 : Int) - 52)).toNat := Nat.pow_pos (by decide)
      exact Nat.le_trans (Nat.le_trans h3 h2) (Nat.le_mul_of_pos_right _ h4)
    unfold FP.Core.roundAt
    generalize FP.Core.nearest _ _ = c at hn
    unfold FP.Core.settle FP.Core.bound
    rw [k6, k4, k1]
    rw [if_pos (show (i.natAbs.log2 : Int) - 52 ≤ 971 by omega), if_pos (show (i.natAbs.log2 : Int) - 52 + 1 ≤ 971 by omega)]
    have hsn := Bool.toNat_lt s
    split <;> rw [fp_efb64, k1, k2, k3] <;> split <;> omega
theorem fp_quob64 {x y : Nat} (hx : x % 9223372036854775808 < 9218868437227405312) (hy : y % 9223372036854775808 < 9218868437227405312) (hy0 : y % 9223372036854775808 ≠ 0) : FP.Core.div FP.Core.b64 x y % 9223372036854775808 ≤ 9218868437227405312 := by
  obtain ⟨s, c, q, e1, -⟩ := fp_decb64 hx
  obtain ⟨t, d, r, e2, h2⟩ := fp_decb64 hy
  unfold FP.Core.div
  rw [e1, e2]
  refine fp_encb64 ?_
  show fpOk FP.Core.b64 (if d = 0 then _ else _)
  rw [if_neg (h2 hy0)]
  exact fp_rr (by decide) (by decide) _ _ _ _
theorem fp_abs (x : Int64) : x.toInt.natAbs ≤ 2 ^ 63 := by
  have h1 := x.toInt_lt
  have h2 := x.le_toInt
  omega
theorem fp_ne {x : Int64} (h : x ≠ 0) : x.toInt ≠ 0 := fun q => h (Int64.toInt_inj.mp (by rw [q]; rfl))
theorem fp_div32 {x y : Int64} (h : y ≠ 0) : vf_n32 (FP.fdiv (FP.l2f x) (FP.l2f y)) := by
  have h1 := (fp_intb32 (fp_abs x)).1
  have h2 := fp_intb32 (fp_abs y)
  refine fp_vfb32 (fp_quob32 ?_ ?_ ?_)
  · show (UInt32.ofNat _).toNat % _ < _
    rw [UInt32.toNat_ofNat']; omega
  · show (UInt32.ofNat _).toNat % _ < _
    rw [UInt32.toNat_ofNat']; omega
  · show (UInt32.ofNat _).toNat % _ ≠ _
    rw [UInt32.toNat_ofNat']
    have := h2.2 (fp_ne h)
    omega
theorem fp_div64 {x y : Int64} (h : y ≠ 0) : vf_n64 (FP.ddiv (FP.l2d x) (FP.l2d y)) := by
  have h1 := (fp_intb64 (fp_abs x)).1
  have h2 := fp_intb64 (fp_abs y)
  refine fp_vfb64 (fp_quob64 ?_ ?_ ?_)
  · show (UInt64.ofNat _).toNat % _ < _
    rw [UInt64.toNat_ofNat']; omega
  · show (UInt64.ofNat _).toNat % _ < _
    rw [UInt64.toNat_ofNat']; omega
  · show (UInt64.ofNat _).toNat % _ ≠ _
    rw [UInt64.toNat_ofNat']
    have := h2.2 (fp_ne h)
    omega
theorem fp_f2d {x : UInt32} (h : vf_n32 x) : vf_n64 (FP.f2d x) := by
  have hn := fp_nnb32 (fp_fvb32 h)
  have e : FP.f2d x = Jvm.FP.Core.f2d x := by
    unfold Jvm.FP.f2d
    rw [if_neg]
    unfold FP.Core.fIsNaN FP.Core.isNaN
    simp [hn]
  rw [e]
  refine fp_vfb64 (fp_encb64 ?_)
  cases hd : FP.Core.decode FP.Core.b32 x.toNat with
  | nan => exact absurd hd hn
  | inf s => trivial
  | fin s c q => exact fp_rr (by decide) (by decide) _ _ _ _
theorem fp_cmp {x : UInt64} (h : vf_n64 x) : FP.dcmp x x = some .eq := by
  have hn := fp_nnb64 (fp_fvb64 h)
  show FP.Core.order (FP.Core.decode FP.Core.b64 x.toNat) (FP.Core.decode FP.Core.b64 x.toNat) = _
  cases hd : FP.Core.decode FP.Core.b64 x.toNat with
  | nan => exact absurd hd hn
  | inf s => cases s <;> decide
  | fin s c q =>
    show some (compareOfLessAndEq _ _) = _
    unfold compareOfLessAndEq
    rw [if_neg (Int.lt_irrefl _), if_pos rfl]

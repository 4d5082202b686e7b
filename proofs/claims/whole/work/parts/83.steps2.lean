/-! THE LAW'S STEPS: what changes -/
section
variable {dd : kDD} {M M0 M1 M2 : mS} {nR nC nt nL nW nV nM : Nat} {cn nm mn me li rl : Nat → Nat} {c : kT} {on : Int32} {xa : Nat}
theorem cAll_same2 (h : cAll dd M nR nC nt nL nW nV nM cn nm mn me li rl on c) (h2 : ∀ k, k ≠ 30 → k ≠ 12 → M2.2.1 k = M.2.1 k) : cAll dd M2 nR nC nt nL nW nV nM cn nm mn me li rl on c := by
  unfold cAll cR cC cT cL cW cV cM at h ⊢
  rw [h2 2 (by decide) (by decide), h2 3 (by decide) (by decide), h2 4 (by decide) (by decide), h2 5 (by decide) (by decide), h2 9 (by decide) (by decide), h2 11 (by decide) (by decide), h2 13 (by decide) (by decide), h2 15 (by decide) (by decide), h2 19 (by decide) (by decide), h2 20 (by decide) (by decide), h2 22 (by decide) (by decide), h2 23 (by decide) (by decide), h2 26 (by decide) (by decide), h2 27 (by decide) (by decide)]
  exact h
theorem LWS_any (hI : rI M1 nR nC nt nL nW nV nM cn nm mn me li rl on) (h24 : M1.1 24 = on) (hA : cAll dd M0 nR nC nt nL nW nV nM cn nm mn me li rl on c) (h0 : c.2.1 0 = xa) (h3 : ∀ k, k ≠ 30 → k ≠ 12 → M1.2.1 k = M0.2.1 k) (h1 : ∀ k, k ≠ 0 → M2.1 k = M1.1 k) (h2 : ∀ k, k ≠ 30 → M2.2.1 k = M1.2.1 k) : LWS dd c M2 xa := by
  subst h24
  exact LWS_same hI (cAll_same2 hA h3) h0 h1 h2
theorem LWS_new (hI : rI M2 nR nC nt nL nW nV nM cn nm mn me li rl on) (h24 : M2.1 24 = on) (hA : cAll dd M0 nR nC nt nL nW nV nM cn nm mn me li rl on c) (h0 : c.2.1 0 = xa) (h3 : ∀ k, k ≠ 30 → k ≠ 12 → M2.2.1 k = M0.2.1 k) : LWS dd c M2 xa := LWS_any hI h24 hA h0 h3 (fun _ _ => rfl) (fun _ _ => rfl)
theorem rI_mn (hI : rI M nR nC nt nL nW nV nM cn nm mn me li rl (M.1 24)) {j : Nat} (hj : j < 4) : mn j ≤ 3 := by
  obtain ⟨⟨iR, bR⟩, ⟨iC, bC⟩, ⟨iT, bT⟩, ⟨iL, bL⟩, ⟨iW, bW⟩, ⟨iV, bV⟩, ⟨iM, bM⟩, ⟨-, on9, hon, eon⟩, hcn, hnm, hmn, hm0, hme, hs2, hli, hB, hpk, hki, htr, hun, hnu, hfx⟩ := hI
  exact (hmn j hj).2
theorem rI_mh (hI : rI M nR nC nt nL nW nV nM cn nm mn me li rl (M.1 24)) {j : Nat} (hj : j < 4) {x : Int32} : mhas (M.2.1 8) (3 * j) x (mn j) ↔ mhas (fun k => nI (me k)) (3 * j) x (mn j) := by
  obtain ⟨⟨iR, bR⟩, ⟨iC, bC⟩, ⟨iT, bT⟩, ⟨iL, bL⟩, ⟨iW, bW⟩, ⟨iV, bV⟩, ⟨iM, bM⟩, ⟨-, on9, hon, eon⟩, hcn, hnm, hmn, hm0, hme, hs2, hli, hB, hpk, hki, htr, hun, hnu, hfx⟩ := hI
  exact mhas_c (fun q hq => (hme (3 * j + q) (by have := (hmn j hj).2; omega)).1)
theorem rI_cn (hI : rI M nR nC nt nL nW nV nM cn nm mn me li rl (M.1 24)) {j : Nat} (hj : j < 12) : cn j ≤ 4 := by
  obtain ⟨⟨iR, bR⟩, ⟨iC, bC⟩, ⟨iT, bT⟩, ⟨iL, bL⟩, ⟨iW, bW⟩, ⟨iV, bV⟩, ⟨iM, bM⟩, ⟨-, on9, hon, eon⟩, hcn, hnm, hmn, hm0, hme, hs2, hli, hB, hpk, hki, htr, hun, hnu, hfx⟩ := hI
  exact (hcn j hj).2
theorem rI_on (hI : rI M nR nC nt nL nW nV nM cn nm mn me li rl (M.1 24)) : ∃ o, o < 16 ∧ M.1 24 = nI o := by
  obtain ⟨⟨iR, bR⟩, ⟨iC, bC⟩, ⟨iT, bT⟩, ⟨iL, bL⟩, ⟨iW, bW⟩, ⟨iV, bV⟩, ⟨iM, bM⟩, ⟨-, on9, hon, eon⟩, hcn, hnm, hmn, hm0, hme, hs2, hli, hB, hpk, hki, htr, hun, hnu, hfx⟩ := hI
  have h := Nat.pow_le_pow_right (n := 2) (by omega) bV
  exact ⟨on9, by omega, eon⟩
theorem rI_row3 (hI : rI M nR nC nt nL nW nV nM cn nm mn me li rl (M.1 24)) {x : Nat → Int32} : rI ((mT0 M).1, va_up M.2.1 3 x, M.2.2) nR nC nt nL nW nV nM cn nm mn me li rl (M.1 24) := by
  unfold rI cB at hI ⊢; exact hI
theorem rI_row26 (hI : rI M nR nC nt nL nW nV nM cn nm mn me li rl (M.1 24)) {x : Nat → Int32} : rI ((mT0 M).1, va_up M.2.1 26 x, M.2.2) nR nC nt nL nW nV nM cn nm mn me li rl (M.1 24) := by
  unfold rI cB at hI ⊢; exact hI
theorem rI_pval (hI : rI M nR nC nt nL nW nV nM cn nm mn me li rl (M.1 24)) {j x : Nat} (hj : j < nt) (hx : x < nt) : ∀ i, i < nt → ∀ k, k < va_up cn j (cn j + 1) i → upd (M.2.1 13) (4 * j + cn j) 0 (4 * i + k) = 0 → cmI (M.2.1 22) nV (M.1 24) (va_up nm (4 * j + cn j) x (4 * i + k)) < nt := by
  intro i hi k hk hs
  by_cases c : 4 * i + k = 4 * j + cn j
  · rw [c, va_up_self]
    obtain ⟨⟨iR, bR⟩, ⟨iC, bC⟩, ⟨iT, bT⟩, ⟨iL, bL⟩, ⟨iW, bW⟩, ⟨iV, bV⟩, ⟨iM, bM⟩, ⟨-, on9, hon, eon⟩, hcn, hnm, hmn, hm0, hme, hs2, hli, hB, hpk, hki, htr, hun, hnu, hfx⟩ := hI
    exact ((rI_mI hB bT _ _).1 hx).2
  · rw [va_up_ne _ _ c]
    rw [upd_ne c] at hs
    refine rI_val hI _ i hi k ?_ hs
    by_cases ij : i = j
    · subst ij; rw [va_up_self] at hk; omega
    · rw [va_up_ne _ _ ij] at hk; exact hk
theorem z24d {F : Nat → Int32} : ∀ k, k ≠ 0 → (va_up (va_up F 0 0) 24 (F 24)) k = F k := by
  intro k hk
  by_cases c : k = 24
  · subst c; exact va_up_self _ _ _
  · rw [va_up_ne _ _ c, va_up_ne _ _ hk]
theorem z12 {F : Nat → Nat → Int32} {a b d : Nat → Int32} : ∀ k, k ≠ 30 → va_up (va_up (va_up F 12 a) 30 b) 12 d k = va_up F 12 d k := by
  intro k hk
  by_cases c : k = 12
  · subst c; rw [va_up_self, va_up_self]
  · rw [va_up_ne _ _ c, va_up_ne _ _ hk, va_up_ne _ _ c, va_up_ne _ _ c]
theorem turn_o {a j : Nat} (ha : a < 16) (hj : j < 4) (he : on = nI a) {p : Int32} (hp : p = 0 ∨ p = 1) : (if p = 0 then on &&& (((1 : Int32) <<< (nI j &&& 31)) ^^^ -1) else on ||| ((1 : Int32) <<< (nI j &&& 31))) = (if (on >>> (nI j &&& 31) &&& 1 = 1 ↔ p = 1) then on else on ^^^ ((1 : Int32) <<< (nI j &&& 31))) := by
  subst he
  by_cases c : nI a >>> (nI j &&& 31) &&& 1 = 1
  · rcases hp with rfl | rfl
    · rw [if_pos rfl, if_neg (fun h => absurd (h.mp c) (by decide))]; exact bit_off ⟨a, ha⟩ ⟨j, hj⟩ c
    · rw [if_neg (by decide), if_pos ⟨fun _ => rfl, fun _ => c⟩]; exact bit_on0 ⟨a, ha⟩ ⟨j, hj⟩ c
  · rcases hp with rfl | rfl
    · rw [if_pos rfl, if_pos ⟨fun h => absurd h c, fun h => absurd h (by decide)⟩]; exact bit_off0 ⟨a, ha⟩ ⟨j, hj⟩ c
    · rw [if_neg (by decide), if_neg (fun h => c (h.mpr rfl))]; exact bit_on ⟨a, ha⟩ ⟨j, hj⟩ c
theorem msk {m : Nat} (K Q : BitVec 32) (hK : K.toNat = 2 ^ m - 1) (hm : m < 31) (hQ : ∀ i : Fin 32, Q.getLsbD i.1 = decide (m ≤ i.1)) (x : BitVec 32) : x &&& Q = 0 ↔ (0 ≤ x.toInt ∧ x.toInt ≤ K.toInt) := by
  have hp : 2 ^ m < 2 ^ 31 := Nat.pow_lt_pow_right (by decide) hm
  have hp0 : 0 < 2 ^ m := Nat.two_pow_pos m
  have e31 : (2 : Nat) ^ 31 = 2147483648 := by decide
  have e32 : (2 : Nat) ^ 32 = 4294967296 := by decide
  have hx := x.isLt
  have h1 : (0 ≤ x.toInt ∧ x.toInt ≤ K.toInt) ↔ x.toNat < 2 ^ m := by
    rw [BitVec.toInt_eq_toNat_cond, BitVec.toInt_eq_toNat_cond, hK]
    split <;> split <;> omega
  rw [h1]
  constructor
  · intro h
    refine Nat.lt_pow_two_of_testBit _ (fun i hi => ?_)
    by_cases hi2 : i < 32
    · have h2 := congrArg (fun b : BitVec 32 => b.getLsbD i) h
      have h3 := hQ ⟨i, hi2⟩
      replace h3 : Q.getLsbD i = decide (m ≤ i) := h3
      simp only [BitVec.getLsbD_and, h3] at h2
      rw [decide_eq_true hi, Bool.and_true] at h2
      exact h2.trans (by simp)
    · exact Nat.testBit_lt_two_pow (Nat.lt_of_lt_of_le hx (Nat.pow_le_pow_right (by decide) (by omega)))
  · intro h
    refine BitVec.eq_of_getLsbD_eq (fun i hi => ?_)
    rw [BitVec.getLsbD_and]
    have h3 := hQ ⟨i, hi⟩
    replace h3 : Q.getLsbD i = decide (m ≤ i) := h3
    rw [h3]
    by_cases c : m ≤ i
    · have h4 : x.getLsbD i = false := Nat.testBit_lt_two_pow (Nat.lt_of_lt_of_le h (Nat.pow_le_pow_right (by decide) c))
      rw [h4]; simp
    · rw [decide_eq_false c, Bool.and_false]; simp
theorem mask_iff {nM : Nat} (h : nM < 4) {x : Int32} : x &&& (((1 : Int32) <<< (nI (4 + nM) &&& 31)) - 1 ^^^ -1) = 0 ↔ (0 ≤ x ∧ x ≤ (1 : Int32) <<< (nI (4 + nM) &&& 31) - 1) := by
  have e : nM = 0 ∨ nM = 1 ∨ nM = 2 ∨ nM = 3 := by omega
  have g : ∀ (m : Nat) (K Q : Int32), K.toBitVec.toNat = 2 ^ m - 1 → m < 31 → (∀ i : Fin 32, Q.toBitVec.getLsbD i.1 = decide (m ≤ i.1)) → (x &&& Q = 0 ↔ (0 ≤ x ∧ x ≤ K)) := by
    intro m K Q h1 h2 h3
    rw [Int32.le_iff_toInt_le, Int32.le_iff_toInt_le]
    have := msk K.toBitVec Q.toBitVec h1 h2 h3 x.toBitVec
    constructor
    · intro h; exact this.mp (by rw [← Int32.toBitVec_and, h]; rfl)
    · intro h; exact Int32.toBitVec_inj.mp (by rw [Int32.toBitVec_and]; exact this.mpr h)
  rcases e with rfl | rfl | rfl | rfl
  · exact g 4 _ _ (by decide) (by decide) (by decide)
  · exact g 5 _ _ (by decide) (by decide) (by decide)
  · exact g 6 _ _ (by decide) (by decide) (by decide)
  · exact g 7 _ _ (by decide) (by decide) (by decide)
end
set_option maxHeartbeats 4000000 in
theorem st_setPrice {dd : kDD} {ks : List Nat} {ad : Nat → Nat} {E : Nat → va_E} {e : eS} {M : mS} {nR nC nt nL nW nV nM : Nat} {cn nm mn me li rl : Nat → Nat} {wx : kT} {v p : Int32} {f0 : Nat → Int64} (hI : rI M nR nC nt nL nW nV nM cn nm mn me li rl (M.1 24)) (hO : cO dd ks ad E (M.1 24)) (hR : cR dd ks ad E M nR) (hC : cC dd ks ad E M nC mn me) (hT : cT dd ks ad E M nt cn nm) (hL : cL dd ks ad E M nL nW li) (hW : cW dd ks ad E M nW rl) (hV : cV dd ks ad E M nV) (hM : cM dd ks ad E M nM)  {r9 : Int32} {z : kT × kT} {b9 : Int32} {M2 : mS} (hp : (r9 = 0 ∧ ∃ v9 : Int32, (fun (r : Int32) (z : kT) => ∃ j, (j < nR ∧ v = nI j) ∧ (0 ≤ p ∧ p ≤ 9999) ∧ (z.2.1 0 = ad 0 ∧ cAll dd (M.1, va_up M.2.1 3 (upd (M.2.1 3) j p), M.2.2) nR nC nt nL nW nV nM cn nm mn me li rl (M.1 24) z) ∧ r = M.2.1 3 j) v9 z.1 ∧ z.2 = xJ dd wx f0 v9.toInt64) ∨ (r9 = 1 ∧ ∃ e9, z.1 = (ks, ad, cE dd E e9) ∧ ¬ (∃ j, j < nR ∧ v = nI j) ∧ z.2 = wx) ∨ (r9 = 2 ∧ ∃ e9, z.1 = (ks, ad, cE dd E e9) ∧ ((∃ j, j < nR ∧ v = nI j) ∧ ¬ (0 ≤ p ∧ p ≤ 9999)) ∧ z.2 = wx)) (hq : (fun (r : Int32) (z : mS) => (¬ (∃ j, j < nR ∧ v = nI j) ∧ mT M 1 = z ∧ r = 0) ∨ ((∃ j, j < nR ∧ v = nI j) ∧ ¬ (0 ≤ p ∧ p ≤ 9999) ∧ mT M 2 = z ∧ r = 0) ∨ ∃ j, (j < nR ∧ v = nI j) ∧ (0 ≤ p ∧ p ≤ 9999) ∧ ((mT0 M).1, va_up M.2.1 3 (upd (M.2.1 3) j p), M.2.2) = z ∧ r = M.2.1 3 j) b9 M2) : M2.1 0 = r9 ∧ (r9 = 0 → z.2 = xJ dd wx f0 b9.toInt64) ∧ (¬ r9 = 0 → z.2 = wx) ∧ LWS dd z.1 M2 (ad 0) := by
  have bb := rI_b hI
  rcases hp with ⟨rfl, v9, ⟨j, ⟨hj, rfl⟩, hp0, ⟨h0, hA⟩, rfl⟩, hz2⟩ | ⟨rfl, e9, hz1, c1, hz2⟩ | ⟨rfl, e9, hz1, c1, hz2⟩
  · rcases hq with ⟨hno, rfl, -⟩ | ⟨hex, hnp, rfl, -⟩ | ⟨j2, ⟨hj2, e⟩, hp2, rfl, rfl⟩
    · exact absurd ⟨j, hj, rfl⟩ hno
    · exact absurd hp0 hnp
    · obtain rfl := nI_inj (by omega) (by omega) e
      exact ⟨rfl, fun _ => hz2, fun h => absurd rfl h, LWS_new (rI_row3 hI) rfl hA h0 (fun _ _ _ => rfl)⟩
  · rcases hq with ⟨hno, rfl, -⟩ | ⟨hex, hnp, rfl, -⟩ | ⟨j2, ⟨hj2, e⟩, hp2, rfl, rfl⟩
    · exact ⟨rfl, fun h => absurd h (by decide), fun _ => hz2, by rw [hz1]; exact LWS_same hI ⟨E, e9, rfl, hO, hR, hC, hT, hL, hW, hV, hM⟩ rfl zz2 (fun _ _ => rfl)⟩
    · exact absurd hex c1
    · exact absurd ⟨j2, hj2, e⟩ c1
  · rcases hq with ⟨hno, rfl, -⟩ | ⟨hex, hnp, rfl, -⟩ | ⟨j2, ⟨hj2, e⟩, hp2, rfl, rfl⟩
    · exact absurd c1.1 hno
    · exact ⟨rfl, fun h => absurd h (by decide), fun _ => hz2, by rw [hz1]; exact LWS_same hI ⟨E, e9, rfl, hO, hR, hC, hT, hL, hW, hV, hM⟩ rfl zz2 (fun _ _ => rfl)⟩
    · exact absurd hp2 c1.2
set_option maxHeartbeats 4000000 in
theorem st_setPercent {dd : kDD} {ks : List Nat} {ad : Nat → Nat} {E : Nat → va_E} {e : eS} {M : mS} {nR nC nt nL nW nV nM : Nat} {cn nm mn me li rl : Nat → Nat} {wx : kT} {v p : Int32} {f0 : Nat → Int64} (hI : rI M nR nC nt nL nW nV nM cn nm mn me li rl (M.1 24)) (hO : cO dd ks ad E (M.1 24)) (hR : cR dd ks ad E M nR) (hC : cC dd ks ad E M nC mn me) (hT : cT dd ks ad E M nt cn nm) (hL : cL dd ks ad E M nL nW li) (hW : cW dd ks ad E M nW rl) (hV : cV dd ks ad E M nV) (hM : cM dd ks ad E M nM)  {r9 : Int32} {z : kT × kT} {b9 : Int32} {M2 : mS} (hp : (r9 = 0 ∧ ∃ v9 : Int32, (fun (r : Int32) (z : kT) => ∃ j, (j < nM ∧ v = nI j) ∧ (0 ≤ p ∧ p ≤ 50) ∧ (z.2.1 0 = ad 0 ∧ cAll dd (M.1, va_up M.2.1 26 (upd (M.2.1 26) j p), M.2.2) nR nC nt nL nW nV nM cn nm mn me li rl (M.1 24) z) ∧ r = M.2.1 26 j) v9 z.1 ∧ z.2 = xJ dd wx f0 v9.toInt64) ∨ (r9 = 1 ∧ ∃ e9, z.1 = (ks, ad, cE dd E e9) ∧ ¬ (∃ j, j < nM ∧ v = nI j) ∧ z.2 = wx) ∨ (r9 = 2 ∧ ∃ e9, z.1 = (ks, ad, cE dd E e9) ∧ ((∃ j, j < nM ∧ v = nI j) ∧ ¬ (0 ≤ p ∧ p ≤ 50)) ∧ z.2 = wx)) (hq : (fun (r : Int32) (z : mS) => (¬ (∃ j, j < nM ∧ v = nI j) ∧ mT M 1 = z ∧ r = 0) ∨ ((∃ j, j < nM ∧ v = nI j) ∧ ¬ (0 ≤ p ∧ p ≤ 50) ∧ mT M 2 = z ∧ r = 0) ∨ ∃ j, (j < nM ∧ v = nI j) ∧ (0 ≤ p ∧ p ≤ 50) ∧ ((mT0 M).1, va_up M.2.1 26 (upd (M.2.1 26) j p), M.2.2) = z ∧ r = M.2.1 26 j) b9 M2) : M2.1 0 = r9 ∧ (r9 = 0 → z.2 = xJ dd wx f0 b9.toInt64) ∧ (¬ r9 = 0 → z.2 = wx) ∧ LWS dd z.1 M2 (ad 0) := by
  have bb := rI_b hI
  rcases hp with ⟨rfl, v9, ⟨j, ⟨hj, rfl⟩, hp0, ⟨h0, hA⟩, rfl⟩, hz2⟩ | ⟨rfl, e9, hz1, c1, hz2⟩ | ⟨rfl, e9, hz1, c1, hz2⟩
  · rcases hq with ⟨hno, rfl, -⟩ | ⟨hex, hnp, rfl, -⟩ | ⟨j2, ⟨hj2, e⟩, hp2, rfl, rfl⟩
    · exact absurd ⟨j, hj, rfl⟩ hno
    · exact absurd hp0 hnp
    · obtain rfl := nI_inj (by omega) (by omega) e
      exact ⟨rfl, fun _ => hz2, fun h => absurd rfl h, LWS_new (rI_row26 hI) rfl hA h0 (fun _ _ _ => rfl)⟩
  · rcases hq with ⟨hno, rfl, -⟩ | ⟨hex, hnp, rfl, -⟩ | ⟨j2, ⟨hj2, e⟩, hp2, rfl, rfl⟩
    · exact ⟨rfl, fun h => absurd h (by decide), fun _ => hz2, by rw [hz1]; exact LWS_same hI ⟨E, e9, rfl, hO, hR, hC, hT, hL, hW, hV, hM⟩ rfl zz2 (fun _ _ => rfl)⟩
    · exact absurd hex c1
    · exact absurd ⟨j2, hj2, e⟩ c1
  · rcases hq with ⟨hno, rfl, -⟩ | ⟨hex, hnp, rfl, -⟩ | ⟨j2, ⟨hj2, e⟩, hp2, rfl, rfl⟩
    · exact absurd c1.1 hno
    · exact ⟨rfl, fun h => absurd h (by decide), fun _ => hz2, by rw [hz1]; exact LWS_same hI ⟨E, e9, rfl, hO, hR, hC, hT, hL, hW, hV, hM⟩ rfl zz2 (fun _ _ => rfl)⟩
    · exact absurd hp2 c1.2
set_option maxHeartbeats 4000000 in
theorem st_addResource {dd : kDD} {ks : List Nat} {ad : Nat → Nat} {E : Nat → va_E} {e : eS} {M : mS} {nR nC nt nL nW nV nM : Nat} {cn nm mn me li rl : Nat → Nat} {wx : kT} {k p w q : Int32} {f0 : Nat → Int64} (hI : rI M nR nC nt nL nW nV nM cn nm mn me li rl (M.1 24)) (hO : cO dd ks ad E (M.1 24)) (hR : cR dd ks ad E M nR) (hC : cC dd ks ad E M nC mn me) (hT : cT dd ks ad E M nt cn nm) (hL : cL dd ks ad E M nL nW li) (hW : cW dd ks ad E M nW rl) (hV : cV dd ks ad E M nV) (hM : cM dd ks ad E M nM)  {r9 : Int32} {z : kT × kT} {b9 : Int32} {M2 : mS} (hp : (r9 = 0 ∧ ∃ v9 : Int32, (fun (r : Int32) (z : kT) => ((k = 0 ∨ k = 1 ∨ k = 2) ∧ (0 ≤ p ∧ p ≤ 9999) ∧ (0 ≤ w ∧ w ≤ 50) ∧ (1 ≤ q ∧ q ≤ 99)) ∧ nR < 12 ∧ (z.2.1 0 = ad 0 ∧ cAll dd (M.1, va_up (va_up (va_up (va_up M.2.1 2 (upd (M.2.1 2) nR k)) 3 (upd (M.2.1 3) nR p)) 4 (upd (M.2.1 4) nR w)) 5 (upd (M.2.1 5) nR q), M.2.2) (nR + 1) nC nt nL nW nV nM cn nm mn me li rl (M.1 24) z) ∧ r = nI nR) v9 z.1 ∧ z.2 = xJ dd wx f0 v9.toInt64) ∨ (r9 = 1 ∧ ∃ e9, z.1 = (ks, ad, cE dd E e9) ∧ ¬ ((k = 0 ∨ k = 1 ∨ k = 2) ∧ (0 ≤ p ∧ p ≤ 9999) ∧ (0 ≤ w ∧ w ≤ 50) ∧ (1 ≤ q ∧ q ≤ 99)) ∧ z.2 = wx) ∨ (r9 = 2 ∧ ∃ e9, z.1 = (ks, ad, cE dd E e9) ∧ (((k = 0 ∨ k = 1 ∨ k = 2) ∧ (0 ≤ p ∧ p ≤ 9999) ∧ (0 ≤ w ∧ w ≤ 50) ∧ (1 ≤ q ∧ q ≤ 99)) ∧ nR = 12) ∧ z.2 = wx)) (hq : (fun (r : Int32) (z : mS) => (¬ ((0 ≤ k ∧ k ≤ 2) ∧ (0 ≤ p ∧ p ≤ 9999) ∧ (0 ≤ w ∧ w ≤ 50) ∧ 1 ≤ q ∧ q ≤ 99) ∧ mT M 1 = z ∧ r = 0) ∨ (((0 ≤ k ∧ k ≤ 2) ∧ (0 ≤ p ∧ p ≤ 9999) ∧ (0 ≤ w ∧ w ≤ 50) ∧ 1 ≤ q ∧ q ≤ 99) ∧ nR = 12 ∧ mT M 2 = z ∧ r = 0) ∨ (((0 ≤ k ∧ k ≤ 2) ∧ (0 ≤ p ∧ p ≤ 9999) ∧ (0 ≤ w ∧ w ≤ 50) ∧ 1 ≤ q ∧ q ≤ 99) ∧ nR < 12 ∧ (va_up (va_up M.1 0 0) 1 (nI (nR + 1)), va_up (va_up (va_up (va_up M.2.1 2 (upd (M.2.1 2) nR k)) 3 (upd (M.2.1 3) nR p)) 4 (upd (M.2.1 4) nR w)) 5 (upd (M.2.1 5) nR q), M.2.2) = z ∧ r = nI nR)) b9 M2) : M2.1 0 = r9 ∧ (r9 = 0 → z.2 = xJ dd wx f0 b9.toInt64) ∧ (¬ r9 = 0 → z.2 = wx) ∧ LWS dd z.1 M2 (ad 0) := by
  have bb := rI_b hI
  rcases hp with ⟨rfl, v9, ⟨⟨hk, hp0, hw, hqq⟩, hn, ⟨h0, hA⟩, rfl⟩, hz2⟩ | ⟨rfl, e9, hz1, c1, hz2⟩ | ⟨rfl, e9, hz1, c1, hz2⟩
  · rcases hq with ⟨hno, rfl, -⟩ | ⟨hok, hn2, rfl, -⟩ | ⟨⟨hk2, hp2, hw2, hq2⟩, hn2, rfl, rfl⟩
    · exact absurd ⟨kin_iff.mp hk, hp0, hw, hqq⟩ hno
    · omega
    · exact ⟨rfl, fun _ => hz2, fun h => absurd rfl h, LWS_new (rI_addResource hI hk hqq hn) rfl hA h0 (fun _ _ _ => rfl)⟩
  · rcases hq with ⟨hno, rfl, -⟩ | ⟨hok, hn2, rfl, -⟩ | ⟨⟨hk2, hp2, hw2, hq2⟩, hn2, rfl, rfl⟩
    · exact ⟨rfl, fun h => absurd h (by decide), fun _ => hz2, by rw [hz1]; exact LWS_same hI ⟨E, e9, rfl, hO, hR, hC, hT, hL, hW, hV, hM⟩ rfl zz2 (fun _ _ => rfl)⟩
    · exact absurd ⟨kin_iff.mpr hok.1, hok.2⟩ c1
    · exact absurd ⟨kin_iff.mpr hk2, hp2, hw2, hq2⟩ c1
  · rcases hq with ⟨hno, rfl, -⟩ | ⟨hok, hn2, rfl, -⟩ | ⟨⟨hk2, hp2, hw2, hq2⟩, hn2, rfl, rfl⟩
    · exact absurd ⟨kin_iff.mp c1.1.1, c1.1.2⟩ hno
    · exact ⟨rfl, fun h => absurd h (by decide), fun _ => hz2, by rw [hz1]; exact LWS_same hI ⟨E, e9, rfl, hO, hR, hC, hT, hL, hW, hV, hM⟩ rfl zz2 (fun _ _ => rfl)⟩
    · exact absurd c1.2 (by omega)
set_option maxHeartbeats 4000000 in
theorem st_addCrew {dd : kDD} {ks : List Nat} {ad : Nat → Nat} {E : Nat → va_E} {e : eS} {M : mS} {nR nC nt nL nW nV nM : Nat} {cn nm mn me li rl : Nat → Nat} {wx : kT} {f0 : Nat → Int64} (hI : rI M nR nC nt nL nW nV nM cn nm mn me li rl (M.1 24)) (hO : cO dd ks ad E (M.1 24)) (hR : cR dd ks ad E M nR) (hC : cC dd ks ad E M nC mn me) (hT : cT dd ks ad E M nt cn nm) (hL : cL dd ks ad E M nL nW li) (hW : cW dd ks ad E M nW rl) (hV : cV dd ks ad E M nV) (hM : cM dd ks ad E M nM)  {r9 : Int32} {z : kT × kT} {b9 : Int32} {M2 : mS} (hp : (r9 = 0 ∧ ∃ v9 : Int32, (fun (r : Int32) (z : kT) => nC < 4 ∧ (z.2.1 0 = ad 0 ∧ cAll dd M nR (nC + 1) nt nL nW nV nM cn nm mn me li rl (M.1 24) z) ∧ r = nI nC) v9 z.1 ∧ z.2 = xJ dd wx f0 v9.toInt64) ∨ (r9 = 1 ∧ ∃ e9, z.1 = (ks, ad, cE dd E e9) ∧ nC = 4 ∧ z.2 = wx)) (hq : (fun (r : Int32) (z : mS) => (nC = 4 ∧ mT M 1 = z ∧ r = 0) ∨ (nC < 4 ∧ (va_up (va_up M.1 0 0) 6 (nI (nC + 1)), M.2) = z ∧ r = nI nC)) b9 M2) : M2.1 0 = r9 ∧ (r9 = 0 → z.2 = xJ dd wx f0 b9.toInt64) ∧ (¬ r9 = 0 → z.2 = wx) ∧ LWS dd z.1 M2 (ad 0) := by
  have bb := rI_b hI
  rcases hp with ⟨rfl, v9, ⟨hn, ⟨h0, hA⟩, rfl⟩, hz2⟩ | ⟨rfl, e9, hz1, c1, hz2⟩
  · rcases hq with ⟨hn2, rfl, -⟩ | ⟨hn2, rfl, rfl⟩
    · omega
    · exact ⟨rfl, fun _ => hz2, fun h => absurd rfl h, LWS_new (rI_addCrew hI hn) rfl hA h0 (fun _ _ _ => rfl)⟩
  · rcases hq with ⟨hn2, rfl, -⟩ | ⟨hn2, rfl, rfl⟩
    · exact ⟨rfl, fun h => absurd h (by decide), fun _ => hz2, by rw [hz1]; exact LWS_same hI ⟨E, e9, rfl, hO, hR, hC, hT, hL, hW, hV, hM⟩ rfl zz2 (fun _ _ => rfl)⟩
    · omega
set_option maxHeartbeats 4000000 in
theorem st_addVariant {dd : kDD} {ks : List Nat} {ad : Nat → Nat} {E : Nat → va_E} {e : eS} {M : mS} {nR nC nt nL nW nV nM : Nat} {cn nm mn me li rl : Nat → Nat} {wx : kT} {f0 : Nat → Int64} (hI : rI M nR nC nt nL nW nV nM cn nm mn me li rl (M.1 24)) (hO : cO dd ks ad E (M.1 24)) (hR : cR dd ks ad E M nR) (hC : cC dd ks ad E M nC mn me) (hT : cT dd ks ad E M nt cn nm) (hL : cL dd ks ad E M nL nW li) (hW : cW dd ks ad E M nW rl) (hV : cV dd ks ad E M nV) (hM : cM dd ks ad E M nM)  {r9 : Int32} {z : kT × kT} {b9 : Int32} {M2 : mS} (hp : (r9 = 0 ∧ ∃ v9 : Int32, (fun (r : Int32) (z : kT) => nV < 4 ∧ (z.2.1 0 = ad 0 ∧ cAll dd (M.1, va_up (va_up M.2.1 22 (mfill (M.2.1 22) (12 * nV) 12)) 23 (mfill (M.2.1 23) (12 * nV) 12), M.2.2) nR nC nt nL nW (nV + 1) nM cn nm mn me li rl (M.1 24) z) ∧ r = nI nV) v9 z.1 ∧ z.2 = xJ dd wx f0 v9.toInt64) ∨ (r9 = 1 ∧ ∃ e9, z.1 = (ks, ad, cE dd E e9) ∧ nV = 4 ∧ z.2 = wx)) (hq : (fun (r : Int32) (z : mS) => (nV = 4 ∧ mT M 1 = z ∧ r = 0) ∨ (nV < 4 ∧ (va_up (va_up M.1 0 0) 21 (nI (nV + 1)), va_up (va_up M.2.1 22 (mfill (M.2.1 22) (12 * nV) 12)) 23 (mfill (M.2.1 23) (12 * nV) 12), M.2.2) = z ∧ r = nI nV)) b9 M2) : M2.1 0 = r9 ∧ (r9 = 0 → z.2 = xJ dd wx f0 b9.toInt64) ∧ (¬ r9 = 0 → z.2 = wx) ∧ LWS dd z.1 M2 (ad 0) := by
  have bb := rI_b hI
  rcases hp with ⟨rfl, v9, ⟨hn, ⟨h0, hA⟩, rfl⟩, hz2⟩ | ⟨rfl, e9, hz1, c1, hz2⟩
  · rcases hq with ⟨hn2, rfl, -⟩ | ⟨hn2, rfl, rfl⟩
    · omega
    · exact ⟨rfl, fun _ => hz2, fun h => absurd rfl h, LWS_new (rI_addVariant hI hn) rfl hA h0 (fun _ _ _ => rfl)⟩
  · rcases hq with ⟨hn2, rfl, -⟩ | ⟨hn2, rfl, rfl⟩
    · exact ⟨rfl, fun h => absurd h (by decide), fun _ => hz2, by rw [hz1]; exact LWS_same hI ⟨E, e9, rfl, hO, hR, hC, hT, hL, hW, hV, hM⟩ rfl zz2 (fun _ _ => rfl)⟩
    · omega
set_option maxHeartbeats 4000000 in
theorem st_addMember {dd : kDD} {ks : List Nat} {ad : Nat → Nat} {E : Nat → va_E} {e : eS} {M : mS} {nR nC nt nL nW nV nM : Nat} {cn nm mn me li rl : Nat → Nat} {wx : kT} {v x q : Int32} {f0 : Nat → Int64} (hI : rI M nR nC nt nL nW nV nM cn nm mn me li rl (M.1 24)) (hO : cO dd ks ad E (M.1 24)) (hR : cR dd ks ad E M nR) (hC : cC dd ks ad E M nC mn me) (hT : cT dd ks ad E M nt cn nm) (hL : cL dd ks ad E M nL nW li) (hW : cW dd ks ad E M nW rl) (hV : cV dd ks ad E M nV) (hM : cM dd ks ad E M nM)  {r9 : Int32} {z : kT × kT} {b9 : Int32} {M2 : mS} (hp : (r9 = 0 ∧ ∃ v9 : Int32, (fun (r : Int32) (z : kT) => (∃ j, ∃ j2, (j < nC ∧ j2 < nR ∧ v = nI j ∧ x = nI j2 ∧ (1 ≤ q ∧ q ≤ 9)) ∧ (¬ M.2.1 2 j2 = 0 ∧ ¬ mhas (fun k => nI (me k)) (3 * j) (nI j2) (mn j) ∧ mn j < 3) ∧ (z.2.1 0 = ad 0 ∧ cAll dd (M.1, va_up (va_up (va_up M.2.1 8 (upd (M.2.1 8) (3 * j + mn j) (nI j2))) 9 (upd (M.2.1 9) (3 * j + mn j) q)) 7 (upd (M.2.1 7) j (nI (mn j + 1))), M.2.2) nR nC nt nL nW nV nM cn nm (va_up mn j (mn j + 1)) (va_up me (3 * j + mn j) j2) li rl (M.1 24) z) ∧ r = nI (mn j + 1))) v9 z.1 ∧ z.2 = xJ dd wx f0 v9.toInt64) ∨ (r9 = 1 ∧ ∃ e9, z.1 = (ks, ad, cE dd E e9) ∧ ¬ ((∃ j, j < nC ∧ v = nI j) ∧ (∃ j, j < nR ∧ x = nI j)) ∧ z.2 = wx) ∨ (r9 = 2 ∧ ∃ e9, z.1 = (ks, ad, cE dd E e9) ∧ (((∃ j, j < nC ∧ v = nI j) ∧ (∃ j, j < nR ∧ x = nI j)) ∧ ¬ (1 ≤ q ∧ q ≤ 9)) ∧ z.2 = wx) ∨ (r9 = 3 ∧ ∃ e9, z.1 = (ks, ad, cE dd E e9) ∧ (∃ j, ∃ j2, (j < nC ∧ j2 < nR ∧ v = nI j ∧ x = nI j2 ∧ (1 ≤ q ∧ q ≤ 9)) ∧ M.2.1 2 j2 = 0) ∧ z.2 = wx) ∨ (r9 = 4 ∧ ∃ e9, z.1 = (ks, ad, cE dd E e9) ∧ (∃ j, ∃ j2, (j < nC ∧ j2 < nR ∧ v = nI j ∧ x = nI j2 ∧ (1 ≤ q ∧ q ≤ 9)) ∧ ¬ M.2.1 2 j2 = 0 ∧ (mhas (fun k => nI (me k)) (3 * j) (nI j2) (mn j) ∨ mn j = 3)) ∧ z.2 = wx)) (hq : (fun (r : Int32) (z : mS) => (¬ ((∃ j, j < nC ∧ v = nI j) ∧ (∃ j, j < nR ∧ x = nI j)) ∧ mT M 1 = z ∧ r = 0) ∨ (((∃ j, j < nC ∧ v = nI j) ∧ (∃ j, j < nR ∧ x = nI j)) ∧ ¬ (1 ≤ q ∧ q ≤ 9) ∧ mT M 2 = z ∧ r = 0) ∨ ∃ j, ∃ j2, (j < nC ∧ j2 < nR ∧ v = nI j ∧ x = nI j2 ∧ (1 ≤ q ∧ q ≤ 9)) ∧ ((M.2.1 2 j2 = 0 ∧ mT M 3 = z ∧ r = 0) ∨ (¬ M.2.1 2 j2 = 0 ∧ (mhas (M.2.1 8) (3 * j) (nI j2) (mn j) ∨ mn j = 3) ∧ mT M 4 = z ∧ r = 0) ∨ (¬ M.2.1 2 j2 = 0 ∧ ¬ (mhas (M.2.1 8) (3 * j) (nI j2) (mn j) ∨ mn j = 3) ∧ (va_up M.1 0 0, va_up (va_up (va_up M.2.1 8 (upd (M.2.1 8) (3 * j + mn j) (nI j2))) 9 (upd (M.2.1 9) (3 * j + mn j) q)) 7 (upd (M.2.1 7) j (nI (mn j + 1))), M.2.2) = z ∧ r = nI (mn j + 1)))) b9 M2) : M2.1 0 = r9 ∧ (r9 = 0 → z.2 = xJ dd wx f0 b9.toInt64) ∧ (¬ r9 = 0 → z.2 = wx) ∧ LWS dd z.1 M2 (ad 0) := by
  have bb := rI_b hI
  rcases hp with ⟨rfl, v9, ⟨j, j2, ⟨hj, hj2, rfl, rfl, hqq⟩, ⟨hk0, hnh, hn3⟩, ⟨h0, hA⟩, rfl⟩, hz2⟩ | ⟨rfl, e9, hz1, c1, hz2⟩ | ⟨rfl, e9, hz1, c1, hz2⟩ | ⟨rfl, e9, hz1, ⟨j, j2, ⟨hj, hj2, rfl, rfl, hqq⟩, hk0⟩, hz2⟩ | ⟨rfl, e9, hz1, ⟨j, j2, ⟨hj, hj2, rfl, rfl, hqq⟩, hk0, hh0⟩, hz2⟩
  · rcases hq with ⟨hno, rfl, -⟩ | ⟨hex, hnq, rfl, -⟩ | ⟨i, i2, ⟨hi, hi2, e, e2, hq2⟩, ⟨hk, rfl, -⟩ | ⟨hk, hh, rfl, -⟩ | ⟨hk, hh, rfl, rfl⟩⟩
    · exact absurd ⟨⟨_, hj, rfl⟩, ⟨_, hj2, rfl⟩⟩ hno
    · exact absurd hqq hnq
    · obtain rfl := nI_inj (by omega) (by omega) e
      obtain rfl := nI_inj (by omega) (by omega) e2
      exact absurd hk hk0
    · obtain rfl := nI_inj (by omega) (by omega) e
      obtain rfl := nI_inj (by omega) (by omega) e2
      rcases hh with hh | hh
      · exact absurd ((rI_mh hI (by omega)).mp hh) hnh
      · omega
    · obtain rfl := nI_inj (by omega) (by omega) e
      obtain rfl := nI_inj (by omega) (by omega) e2
      exact ⟨rfl, fun _ => hz2, fun h => absurd rfl h, LWS_new (rI_addMember hI hj hj2 hqq hn3) rfl hA h0 (fun _ _ _ => rfl)⟩
  · rcases hq with ⟨hno, rfl, -⟩ | ⟨hex, hnq, rfl, -⟩ | ⟨i, i2, ⟨hi, hi2, e, e2, hq2⟩, ⟨hk, rfl, -⟩ | ⟨hk, hh, rfl, -⟩ | ⟨hk, hh, rfl, rfl⟩⟩
    · exact ⟨rfl, fun h => absurd h (by decide), fun _ => hz2, by rw [hz1]; exact LWS_same hI ⟨E, e9, rfl, hO, hR, hC, hT, hL, hW, hV, hM⟩ rfl zz2 (fun _ _ => rfl)⟩
    · exact absurd hex c1
    · exact absurd ⟨⟨_, hi, e⟩, ⟨_, hi2, e2⟩⟩ c1
    · exact absurd ⟨⟨_, hi, e⟩, ⟨_, hi2, e2⟩⟩ c1
    · exact absurd ⟨⟨_, hi, e⟩, ⟨_, hi2, e2⟩⟩ c1
  · rcases hq with ⟨hno, rfl, -⟩ | ⟨hex, hnq, rfl, -⟩ | ⟨i, i2, ⟨hi, hi2, e, e2, hq2⟩, ⟨hk, rfl, -⟩ | ⟨hk, hh, rfl, -⟩ | ⟨hk, hh, rfl, rfl⟩⟩
    · exact absurd c1.1 hno
    · exact ⟨rfl, fun h => absurd h (by decide), fun _ => hz2, by rw [hz1]; exact LWS_same hI ⟨E, e9, rfl, hO, hR, hC, hT, hL, hW, hV, hM⟩ rfl zz2 (fun _ _ => rfl)⟩
    · exact absurd hq2 c1.2
    · exact absurd hq2 c1.2
    · exact absurd hq2 c1.2
  · rcases hq with ⟨hno, rfl, -⟩ | ⟨hex, hnq, rfl, -⟩ | ⟨i, i2, ⟨hi, hi2, e, e2, hq2⟩, ⟨hk, rfl, -⟩ | ⟨hk, hh, rfl, -⟩ | ⟨hk, hh, rfl, rfl⟩⟩
    · exact absurd ⟨⟨_, hj, rfl⟩, ⟨_, hj2, rfl⟩⟩ hno
    · exact absurd hqq hnq
    · exact ⟨rfl, fun h => absurd h (by decide), fun _ => hz2, by rw [hz1]; exact LWS_same hI ⟨E, e9, rfl, hO, hR, hC, hT, hL, hW, hV, hM⟩ rfl zz2 (fun _ _ => rfl)⟩
    · obtain rfl := nI_inj (by omega) (by omega) e
      obtain rfl := nI_inj (by omega) (by omega) e2
      exact absurd hk0 hk
    · obtain rfl := nI_inj (by omega) (by omega) e
      obtain rfl := nI_inj (by omega) (by omega) e2
      exact absurd hk0 hk
  · rcases hq with ⟨hno, rfl, -⟩ | ⟨hex, hnq, rfl, -⟩ | ⟨i, i2, ⟨hi, hi2, e, e2, hq2⟩, ⟨hk, rfl, -⟩ | ⟨hk, hh, rfl, -⟩ | ⟨hk, hh, rfl, rfl⟩⟩
    · exact absurd ⟨⟨_, hj, rfl⟩, ⟨_, hj2, rfl⟩⟩ hno
    · exact absurd hqq hnq
    · obtain rfl := nI_inj (by omega) (by omega) e
      obtain rfl := nI_inj (by omega) (by omega) e2
      exact absurd hk hk0
    · exact ⟨rfl, fun h => absurd h (by decide), fun _ => hz2, by rw [hz1]; exact LWS_same hI ⟨E, e9, rfl, hO, hR, hC, hT, hL, hW, hV, hM⟩ rfl zz2 (fun _ _ => rfl)⟩
    · obtain rfl := nI_inj (by omega) (by omega) e
      obtain rfl := nI_inj (by omega) (by omega) e2
      refine absurd ?_ hh
      rcases hh0 with hh0 | hh0
      · exact Or.inl ((rI_mh hI (by omega)).mpr hh0)
      · exact Or.inr hh0
set_option maxHeartbeats 4000000 in
theorem st_addItem {dd : kDD} {ks : List Nat} {ad : Nat → Nat} {E : Nat → va_E} {e : eS} {M : mS} {nR nC nt nL nW nV nM : Nat} {cn nm mn me li rl : Nat → Nat} {wx : kT} {t : Int32} {f0 : Nat → Int64} (hI : rI M nR nC nt nL nW nV nM cn nm mn me li rl (M.1 24)) (hO : cO dd ks ad E (M.1 24)) (hR : cR dd ks ad E M nR) (hC : cC dd ks ad E M nC mn me) (hT : cT dd ks ad E M nt cn nm) (hL : cL dd ks ad E M nL nW li) (hW : cW dd ks ad E M nW rl) (hV : cV dd ks ad E M nV) (hM : cM dd ks ad E M nM)  {r9 : Int32} {z : kT × kT} {b9 : Int32} {M2 : mS} (hp : (r9 = 0 ∧ ∃ v9 : Int32, (fun (r : Int32) (z : kT) => (0 ≤ t ∧ t ≤ 5) ∧ nt < 12 ∧ (z.2.1 0 = ad 0 ∧ cAll dd (M.1, va_up (va_up M.2.1 11 (upd (M.2.1 11) nt t)) 12 (upd (M.2.1 12) nt 0), M.2.2) nR nC (nt + 1) nL nW nV nM (va_up cn nt 0) nm mn me li rl (M.1 24) z) ∧ r = nI nt) v9 z.1 ∧ z.2 = xJ dd wx f0 v9.toInt64) ∨ (r9 = 1 ∧ ∃ e9, z.1 = (ks, ad, cE dd E e9) ∧ ¬ (0 ≤ t ∧ t ≤ 5) ∧ z.2 = wx) ∨ (r9 = 2 ∧ ∃ e9, z.1 = (ks, ad, cE dd E e9) ∧ ((0 ≤ t ∧ t ≤ 5) ∧ nt = 12) ∧ z.2 = wx)) (hq : (fun (r : Int32) (z : mS) => (¬ (0 ≤ t ∧ t ≤ 5) ∧ mT M 1 = z ∧ r = 0) ∨ ((0 ≤ t ∧ t ≤ 5) ∧ nt = 12 ∧ mT M 2 = z ∧ r = 0) ∨ ((0 ≤ t ∧ t ≤ 5) ∧ nt < 12 ∧ (va_up (va_up M.1 0 0) 10 (nI (nt + 1)), va_up (va_up M.2.1 11 (upd (M.2.1 11) nt t)) 12 (upd (M.2.1 12) nt 0), M.2.2) = z ∧ r = nI nt)) b9 M2) : M2.1 0 = r9 ∧ (r9 = 0 → z.2 = xJ dd wx f0 b9.toInt64) ∧ (¬ r9 = 0 → z.2 = wx) ∧ LWS dd z.1 M2 (ad 0) := by
  have bb := rI_b hI
  rcases hp with ⟨rfl, v9, ⟨ht, hn, ⟨h0, hA⟩, rfl⟩, hz2⟩ | ⟨rfl, e9, hz1, c1, hz2⟩ | ⟨rfl, e9, hz1, c1, hz2⟩
  · rcases hq with ⟨hno, rfl, -⟩ | ⟨ht2, hn2, rfl, -⟩ | ⟨ht2, hn2, rfl, rfl⟩
    · exact absurd ht hno
    · omega
    · exact ⟨rfl, fun _ => hz2, fun h => absurd rfl h, LWS_new (rI_addItem hI ht hn) rfl hA h0 (fun _ _ _ => rfl)⟩
  · rcases hq with ⟨hno, rfl, -⟩ | ⟨ht2, hn2, rfl, -⟩ | ⟨ht2, hn2, rfl, rfl⟩
    · exact ⟨rfl, fun h => absurd h (by decide), fun _ => hz2, by rw [hz1]; exact LWS_same hI ⟨E, e9, rfl, hO, hR, hC, hT, hL, hW, hV, hM⟩ rfl zz2 (fun _ _ => rfl)⟩
    · exact absurd ht2 c1
    · exact absurd ht2 c1
  · rcases hq with ⟨hno, rfl, -⟩ | ⟨ht2, hn2, rfl, -⟩ | ⟨ht2, hn2, rfl, rfl⟩
    · exact absurd c1.1 hno
    · exact ⟨rfl, fun h => absurd h (by decide), fun _ => hz2, by rw [hz1]; exact LWS_same hI ⟨E, e9, rfl, hO, hR, hC, hT, hL, hW, hV, hM⟩ rfl zz2 (fun _ _ => rfl)⟩
    · exact absurd c1.2 (by omega)
set_option maxHeartbeats 4000000 in
theorem st_dropLast {dd : kDD} {ks : List Nat} {ad : Nat → Nat} {E : Nat → va_E} {e : eS} {M : mS} {nR nC nt nL nW nV nM : Nat} {cn nm mn me li rl : Nat → Nat} {wx : kT} {v : Int32} {f0 : Nat → Int64} (hI : rI M nR nC nt nL nW nV nM cn nm mn me li rl (M.1 24)) (hO : cO dd ks ad E (M.1 24)) (hR : cR dd ks ad E M nR) (hC : cC dd ks ad E M nC mn me) (hT : cT dd ks ad E M nt cn nm) (hL : cL dd ks ad E M nL nW li) (hW : cW dd ks ad E M nW rl) (hV : cV dd ks ad E M nV) (hM : cM dd ks ad E M nM)  {r9 : Int32} {z : kT × kT} {b9 : Int32} {M2 : mS} (hp : (r9 = 0 ∧ ∃ v9 : Int32, (fun (r : Int32) (z : kT) => ∃ j, (j < nt ∧ v = nI j) ∧ 0 < cn j ∧ (z.2.1 0 = ad 0 ∧ cAll dd (M.1, va_up M.2.1 12 (upd (M.2.1 12) j (nI (cn j - 1))), M.2.2) nR nC nt nL nW nV nM (va_up cn j (cn j - 1)) nm mn me li rl (M.1 24) z) ∧ r = nI (cn j - 1)) v9 z.1 ∧ z.2 = xJ dd wx f0 v9.toInt64) ∨ (r9 = 1 ∧ ∃ e9, z.1 = (ks, ad, cE dd E e9) ∧ ¬ (∃ j, j < nt ∧ v = nI j) ∧ z.2 = wx) ∨ (r9 = 2 ∧ ∃ e9, z.1 = (ks, ad, cE dd E e9) ∧ (∃ j, (j < nt ∧ v = nI j) ∧ cn j = 0) ∧ z.2 = wx)) (hq : (fun (r : Int32) (z : mS) => (¬ (∃ j, j < nt ∧ v = nI j) ∧ mT M 1 = z ∧ r = 0) ∨ ∃ j, (j < nt ∧ v = nI j) ∧ ((cn j = 0 ∧ mT M 2 = z ∧ r = 0) ∨ (0 < cn j ∧ ((mT0 M).1, va_up M.2.1 12 (upd (M.2.1 12) j (nI (cn j - 1))), M.2.2) = z ∧ r = nI (cn j - 1)))) b9 M2) : M2.1 0 = r9 ∧ (r9 = 0 → z.2 = xJ dd wx f0 b9.toInt64) ∧ (¬ r9 = 0 → z.2 = wx) ∧ LWS dd z.1 M2 (ad 0) := by
  have bb := rI_b hI
  rcases hp with ⟨rfl, v9, ⟨j, ⟨hj, rfl⟩, hc, ⟨h0, hA⟩, rfl⟩, hz2⟩ | ⟨rfl, e9, hz1, c1, hz2⟩ | ⟨rfl, e9, hz1, ⟨j, ⟨hj, rfl⟩, hc⟩, hz2⟩
  · rcases hq with ⟨hno, rfl, -⟩ | ⟨i, ⟨hi, e⟩, ⟨hc2, rfl, -⟩ | ⟨hc2, rfl, rfl⟩⟩
    · exact absurd ⟨j, hj, rfl⟩ hno
    · obtain rfl := nI_inj (by omega) (by omega) e
      omega
    · obtain rfl := nI_inj (by omega) (by omega) e
      exact ⟨rfl, fun _ => hz2, fun h => absurd rfl h, LWS_new (rI_dropLast hI hj hc) rfl hA h0 (fun _ _ _ => rfl)⟩
  · rcases hq with ⟨hno, rfl, -⟩ | ⟨i, ⟨hi, e⟩, ⟨hc2, rfl, -⟩ | ⟨hc2, rfl, rfl⟩⟩
    · exact ⟨rfl, fun h => absurd h (by decide), fun _ => hz2, by rw [hz1]; exact LWS_same hI ⟨E, e9, rfl, hO, hR, hC, hT, hL, hW, hV, hM⟩ rfl zz2 (fun _ _ => rfl)⟩
    · exact absurd ⟨i, hi, e⟩ c1
    · exact absurd ⟨i, hi, e⟩ c1
  · rcases hq with ⟨hno, rfl, -⟩ | ⟨i, ⟨hi, e⟩, ⟨hc2, rfl, -⟩ | ⟨hc2, rfl, rfl⟩⟩
    · exact absurd ⟨j, hj, rfl⟩ hno
    · obtain rfl := nI_inj (by omega) (by omega) e
      exact ⟨rfl, fun h => absurd h (by decide), fun _ => hz2, by rw [hz1]; exact LWS_same hI ⟨E, e9, rfl, hO, hR, hC, hT, hL, hW, hV, hM⟩ rfl zz2 (fun _ _ => rfl)⟩
    · obtain rfl := nI_inj (by omega) (by omega) e
      omega
set_option maxHeartbeats 4000000 in
theorem st_addLine {dd : kDD} {ks : List Nat} {ad : Nat → Nat} {E : Nat → va_E} {e : eS} {M : mS} {nR nC nt nL nW nV nM : Nat} {cn nm mn me li rl : Nat → Nat} {wx : kT} {v : Int32} {f0 : Nat → Int64} (hI : rI M nR nC nt nL nW nV nM cn nm mn me li rl (M.1 24)) (hO : cO dd ks ad E (M.1 24)) (hR : cR dd ks ad E M nR) (hC : cC dd ks ad E M nC mn me) (hT : cT dd ks ad E M nt cn nm) (hL : cL dd ks ad E M nL nW li) (hW : cW dd ks ad E M nW rl) (hV : cV dd ks ad E M nV) (hM : cM dd ks ad E M nM)  {r9 : Int32} {z : kT × kT} {b9 : Int32} {M2 : mS} (hp : (r9 = 0 ∧ ∃ v9 : Int32, (fun (r : Int32) (z : kT) => ∃ j, (j < nt ∧ v = nI j) ∧ nL < 10 ∧ (z.2.1 0 = ad 0 ∧ cAll dd (M.1, va_up M.2.1 17 (upd (M.2.1 17) nL (nI j)), M.2.2) nR nC nt (nL + 1) nW nV nM cn nm mn me (va_up li nL j) rl (M.1 24) z) ∧ r = nI nL) v9 z.1 ∧ z.2 = xJ dd wx f0 v9.toInt64) ∨ (r9 = 1 ∧ ∃ e9, z.1 = (ks, ad, cE dd E e9) ∧ ¬ (∃ j, j < nt ∧ v = nI j) ∧ z.2 = wx) ∨ (r9 = 2 ∧ ∃ e9, z.1 = (ks, ad, cE dd E e9) ∧ ((∃ j, j < nt ∧ v = nI j) ∧ nL = 10) ∧ z.2 = wx)) (hq : (fun (r : Int32) (z : mS) => (¬ (∃ j, j < nt ∧ v = nI j) ∧ mT M 1 = z ∧ r = 0) ∨ ((∃ j, j < nt ∧ v = nI j) ∧ nL = 10 ∧ mT M 2 = z ∧ r = 0) ∨ ((∃ j, j < nt ∧ v = nI j) ∧ nL < 10 ∧ (va_up (va_up M.1 0 0) 16 (nI (nL + 1)), va_up M.2.1 17 (upd (M.2.1 17) nL v), M.2.2) = z ∧ r = nI nL)) b9 M2) : M2.1 0 = r9 ∧ (r9 = 0 → z.2 = xJ dd wx f0 b9.toInt64) ∧ (¬ r9 = 0 → z.2 = wx) ∧ LWS dd z.1 M2 (ad 0) := by
  have bb := rI_b hI
  rcases hp with ⟨rfl, v9, ⟨j, ⟨hj, rfl⟩, hn, ⟨h0, hA⟩, rfl⟩, hz2⟩ | ⟨rfl, e9, hz1, c1, hz2⟩ | ⟨rfl, e9, hz1, c1, hz2⟩
  · rcases hq with ⟨hno, rfl, -⟩ | ⟨hex, hn2, rfl, -⟩ | ⟨hex, hn2, rfl, rfl⟩
    · exact absurd ⟨j, hj, rfl⟩ hno
    · omega
    · exact ⟨rfl, fun _ => hz2, fun h => absurd rfl h, LWS_new (rI_addLine hI hj hn) rfl hA h0 (fun _ _ _ => rfl)⟩
  · rcases hq with ⟨hno, rfl, -⟩ | ⟨hex, hn2, rfl, -⟩ | ⟨hex, hn2, rfl, rfl⟩
    · exact ⟨rfl, fun h => absurd h (by decide), fun _ => hz2, by rw [hz1]; exact LWS_same hI ⟨E, e9, rfl, hO, hR, hC, hT, hL, hW, hV, hM⟩ rfl zz2 (fun _ _ => rfl)⟩
    · exact absurd hex c1
    · exact absurd hex c1
  · rcases hq with ⟨hno, rfl, -⟩ | ⟨hex, hn2, rfl, -⟩ | ⟨hex, hn2, rfl, rfl⟩
    · exact absurd c1.1 hno
    · exact ⟨rfl, fun h => absurd h (by decide), fun _ => hz2, by rw [hz1]; exact LWS_same hI ⟨E, e9, rfl, hO, hR, hC, hT, hL, hW, hV, hM⟩ rfl zz2 (fun _ _ => rfl)⟩
    · exact absurd c1.2 (by omega)
set_option maxHeartbeats 4000000 in
theorem st_addRow {dd : kDD} {ks : List Nat} {ad : Nat → Nat} {E : Nat → va_E} {e : eS} {M : mS} {nR nC nt nL nW nV nM : Nat} {cn nm mn me li rl : Nat → Nat} {wx : kT} {v s t a b c : Int32} {f0 : Nat → Int64} (hI : rI M nR nC nt nL nW nV nM cn nm mn me li rl (M.1 24)) (hO : cO dd ks ad E (M.1 24)) (hR : cR dd ks ad E M nR) (hC : cC dd ks ad E M nC mn me) (hT : cT dd ks ad E M nt cn nm) (hL : cL dd ks ad E M nL nW li) (hW : cW dd ks ad E M nW rl) (hV : cV dd ks ad E M nV) (hM : cM dd ks ad E M nM)  {r9 : Int32} {z : kT × kT} {b9 : Int32} {M2 : mS} (hp : (r9 = 0 ∧ ∃ v9 : Int32, (fun (r : Int32) (z : kT) => (∃ j, (j < nL ∧ v = nI j ∧ ((s = 110 ∨ s = 108 ∨ s = 114 ∨ s = 116 ∨ s = 112 ∨ s = 118) ∧ (-9 ≤ t ∧ t ≤ 99) ∧ ¬ t = 0 ∧ (0 ≤ a ∧ a ≤ 99) ∧ (0 ≤ b ∧ b ≤ 99) ∧ 0 ≤ c ∧ c ≤ 99)) ∧ nW < 40 ∧ (0 ≤ mq (M.2.1 19) (M.2.1 20) (nI j) nW + t * msh s a b c ∧ mq (M.2.1 19) (M.2.1 20) (nI j) nW + t * msh s a b c ≤ 10000) ∧ (z.2.1 0 = ad 0 ∧ cAll dd (M.1, va_up (va_up M.2.1 19 (upd (M.2.1 19) nW (nI j))) 20 (upd (M.2.1 20) nW (t * msh s a b c)), M.2.2) nR nC nt nL (nW + 1) nV nM cn nm mn me li (va_up rl nW j) (M.1 24) z) ∧ r = mq (M.2.1 19) (M.2.1 20) (nI j) nW + t * msh s a b c)) v9 z.1 ∧ z.2 = xJ dd wx f0 v9.toInt64) ∨ (r9 = 1 ∧ ∃ e9, z.1 = (ks, ad, cE dd E e9) ∧ ¬ (∃ j, j < nL ∧ v = nI j) ∧ z.2 = wx) ∨ (r9 = 2 ∧ ∃ e9, z.1 = (ks, ad, cE dd E e9) ∧ ((∃ j, j < nL ∧ v = nI j) ∧ ¬ ((s = 110 ∨ s = 108 ∨ s = 114 ∨ s = 116 ∨ s = 112 ∨ s = 118) ∧ (-9 ≤ t ∧ t ≤ 99) ∧ ¬ t = 0 ∧ (0 ≤ a ∧ a ≤ 99) ∧ (0 ≤ b ∧ b ≤ 99) ∧ 0 ≤ c ∧ c ≤ 99)) ∧ z.2 = wx) ∨ (r9 = 3 ∧ ∃ e9, z.1 = (ks, ad, cE dd E e9) ∧ (∃ j, (j < nL ∧ v = nI j ∧ ((s = 110 ∨ s = 108 ∨ s = 114 ∨ s = 116 ∨ s = 112 ∨ s = 118) ∧ (-9 ≤ t ∧ t ≤ 99) ∧ ¬ t = 0 ∧ (0 ≤ a ∧ a ≤ 99) ∧ (0 ≤ b ∧ b ≤ 99) ∧ 0 ≤ c ∧ c ≤ 99)) ∧ nW = 40) ∧ z.2 = wx) ∨ (r9 = 4 ∧ ∃ e9, z.1 = (ks, ad, cE dd E e9) ∧ (∃ j, (j < nL ∧ v = nI j ∧ ((s = 110 ∨ s = 108 ∨ s = 114 ∨ s = 116 ∨ s = 112 ∨ s = 118) ∧ (-9 ≤ t ∧ t ≤ 99) ∧ ¬ t = 0 ∧ (0 ≤ a ∧ a ≤ 99) ∧ (0 ≤ b ∧ b ≤ 99) ∧ 0 ≤ c ∧ c ≤ 99)) ∧ nW < 40 ∧ ¬ (0 ≤ mq (M.2.1 19) (M.2.1 20) (nI j) nW + t * msh s a b c ∧ mq (M.2.1 19) (M.2.1 20) (nI j) nW + t * msh s a b c ≤ 10000)) ∧ z.2 = wx)) (hq : (fun (r : Int32) (z : mS) => (¬ (∃ j, j < nL ∧ v = nI j) ∧ mT M 1 = z ∧ r = 0) ∨ ((∃ j, j < nL ∧ v = nI j) ∧ ¬ ((s = 110 ∨ s = 108 ∨ s = 114 ∨ s = 116 ∨ s = 112 ∨ s = 118) ∧ (-9 ≤ t ∧ t ≤ 99) ∧ ¬ t = 0 ∧ (0 ≤ a ∧ a ≤ 99) ∧ (0 ≤ b ∧ b ≤ 99) ∧ 0 ≤ c ∧ c ≤ 99) ∧ mT M 2 = z ∧ r = 0) ∨ ∃ j, (j < nL ∧ v = nI j ∧ ((s = 110 ∨ s = 108 ∨ s = 114 ∨ s = 116 ∨ s = 112 ∨ s = 118) ∧ (-9 ≤ t ∧ t ≤ 99) ∧ ¬ t = 0 ∧ (0 ≤ a ∧ a ≤ 99) ∧ (0 ≤ b ∧ b ≤ 99) ∧ 0 ≤ c ∧ c ≤ 99)) ∧ ((nW = 40 ∧ mT M 3 = z ∧ r = 0) ∨ (nW < 40 ∧ ¬ (0 ≤ mq (M.2.1 19) (M.2.1 20) (nI j) nW + t * msh s a b c ∧ mq (M.2.1 19) (M.2.1 20) (nI j) nW + t * msh s a b c ≤ 10000) ∧ mT M 4 = z ∧ r = 0) ∨ (nW < 40 ∧ (0 ≤ mq (M.2.1 19) (M.2.1 20) (nI j) nW + t * msh s a b c ∧ mq (M.2.1 19) (M.2.1 20) (nI j) nW + t * msh s a b c ≤ 10000) ∧ (va_up (va_up M.1 0 0) 18 (nI (nW + 1)), va_up (va_up M.2.1 19 (upd (M.2.1 19) nW (nI j))) 20 (upd (M.2.1 20) nW (t * msh s a b c)), M.2.2) = z ∧ r = mq (upd (M.2.1 19) nW (nI j)) (upd (M.2.1 20) nW (t * msh s a b c)) (nI j) (nW + 1)))) b9 M2) : M2.1 0 = r9 ∧ (r9 = 0 → z.2 = xJ dd wx f0 b9.toInt64) ∧ (¬ r9 = 0 → z.2 = wx) ∧ LWS dd z.1 M2 (ad 0) := by
  have bb := rI_b hI
  rcases hp with ⟨rfl, v9, ⟨j, ⟨hj, rfl, hok⟩, hn, hb, ⟨h0, hA⟩, rfl⟩, hz2⟩ | ⟨rfl, e9, hz1, c1, hz2⟩ | ⟨rfl, e9, hz1, c1, hz2⟩ | ⟨rfl, e9, hz1, ⟨j, ⟨hj, rfl, hok⟩, hn⟩, hz2⟩ | ⟨rfl, e9, hz1, ⟨j, ⟨hj, rfl, hok⟩, hn, hb⟩, hz2⟩
  · rcases hq with ⟨hno, rfl, -⟩ | ⟨hex, hnk, rfl, -⟩ | ⟨i, ⟨hi, e, hok2⟩, ⟨hn2, rfl, -⟩ | ⟨hn2, hb2, rfl, -⟩ | ⟨hn2, hb2, rfl, rfl⟩⟩
    · exact absurd ⟨j, hj, rfl⟩ hno
    · exact absurd hok hnk
    · omega
    · obtain rfl := nI_inj (by omega) (by omega) e
      exact absurd hb hb2
    · obtain rfl := nI_inj (by omega) (by omega) e
      exact ⟨rfl, fun _ => by rw [hz2, mq_add, if_pos rfl], fun h => absurd rfl h, LWS_new (rI_addRow hI hj hn) rfl hA h0 (fun _ _ _ => rfl)⟩
  · rcases hq with ⟨hno, rfl, -⟩ | ⟨hex, hnk, rfl, -⟩ | ⟨i, ⟨hi, e, hok2⟩, ⟨hn2, rfl, -⟩ | ⟨hn2, hb2, rfl, -⟩ | ⟨hn2, hb2, rfl, rfl⟩⟩
    · exact ⟨rfl, fun h => absurd h (by decide), fun _ => hz2, by rw [hz1]; exact LWS_same hI ⟨E, e9, rfl, hO, hR, hC, hT, hL, hW, hV, hM⟩ rfl zz2 (fun _ _ => rfl)⟩
    · exact absurd hex c1
    · exact absurd ⟨i, hi, e⟩ c1
    · exact absurd ⟨i, hi, e⟩ c1
    · exact absurd ⟨i, hi, e⟩ c1
  · rcases hq with ⟨hno, rfl, -⟩ | ⟨hex, hnk, rfl, -⟩ | ⟨i, ⟨hi, e, hok2⟩, ⟨hn2, rfl, -⟩ | ⟨hn2, hb2, rfl, -⟩ | ⟨hn2, hb2, rfl, rfl⟩⟩
    · exact absurd c1.1 hno
    · exact ⟨rfl, fun h => absurd h (by decide), fun _ => hz2, by rw [hz1]; exact LWS_same hI ⟨E, e9, rfl, hO, hR, hC, hT, hL, hW, hV, hM⟩ rfl zz2 (fun _ _ => rfl)⟩
    · exact absurd hok2 c1.2
    · exact absurd hok2 c1.2
    · exact absurd hok2 c1.2
  · rcases hq with ⟨hno, rfl, -⟩ | ⟨hex, hnk, rfl, -⟩ | ⟨i, ⟨hi, e, hok2⟩, ⟨hn2, rfl, -⟩ | ⟨hn2, hb2, rfl, -⟩ | ⟨hn2, hb2, rfl, rfl⟩⟩
    · exact absurd ⟨j, hj, rfl⟩ hno
    · exact absurd hok hnk
    · exact ⟨rfl, fun h => absurd h (by decide), fun _ => hz2, by rw [hz1]; exact LWS_same hI ⟨E, e9, rfl, hO, hR, hC, hT, hL, hW, hV, hM⟩ rfl zz2 (fun _ _ => rfl)⟩
    · omega
    · omega
  · rcases hq with ⟨hno, rfl, -⟩ | ⟨hex, hnk, rfl, -⟩ | ⟨i, ⟨hi, e, hok2⟩, ⟨hn2, rfl, -⟩ | ⟨hn2, hb2, rfl, -⟩ | ⟨hn2, hb2, rfl, rfl⟩⟩
    · exact absurd ⟨j, hj, rfl⟩ hno
    · exact absurd hok hnk
    · omega
    · exact ⟨rfl, fun h => absurd h (by decide), fun _ => hz2, by rw [hz1]; exact LWS_same hI ⟨E, e9, rfl, hO, hR, hC, hT, hL, hW, hV, hM⟩ rfl zz2 (fun _ _ => rfl)⟩
    · obtain rfl := nI_inj (by omega) (by omega) e
      exact absurd hb2 hb
set_option maxHeartbeats 4000000 in
theorem st_dropRow {dd : kDD} {ks : List Nat} {ad : Nat → Nat} {E : Nat → va_E} {e : eS} {M : mS} {nR nC nt nL nW nV nM : Nat} {cn nm mn me li rl : Nat → Nat} {wx : kT} {v : Int32} {f0 : Nat → Int64} (hI : rI M nR nC nt nL nW nV nM cn nm mn me li rl (M.1 24)) (hO : cO dd ks ad E (M.1 24)) (hR : cR dd ks ad E M nR) (hC : cC dd ks ad E M nC mn me) (hT : cT dd ks ad E M nt cn nm) (hL : cL dd ks ad E M nL nW li) (hW : cW dd ks ad E M nW rl) (hV : cV dd ks ad E M nV) (hM : cM dd ks ad E M nM)  {r9 : Int32} {z : kT × kT} {b9 : Int32} {M2 : mS} (hp : (r9 = 0 ∧ ∃ v9 : Int32, (fun (r : Int32) (z : kT) => ∃ j, (j < nW ∧ v = nI j) ∧ (0 ≤ mq (M.2.1 19) (M.2.1 20) (M.2.1 19 j) nW - M.2.1 20 j ∧ mq (M.2.1 19) (M.2.1 20) (M.2.1 19 j) nW - M.2.1 20 j ≤ 10000) ∧ (z.2.1 0 = ad 0 ∧ cAll dd (M.1, va_up (va_up M.2.1 19 (mshift (M.2.1 19) j (nW - 1))) 20 (mshift (M.2.1 20) j (nW - 1)), M.2.2) nR nC nt nL (nW - 1) nV nM cn nm mn me li (fun k => rl (rsh j k)) (M.1 24) z) ∧ r = mq (M.2.1 19) (M.2.1 20) (M.2.1 19 j) nW - M.2.1 20 j) v9 z.1 ∧ z.2 = xJ dd wx f0 v9.toInt64) ∨ (r9 = 1 ∧ ∃ e9, z.1 = (ks, ad, cE dd E e9) ∧ ¬ (∃ j, j < nW ∧ v = nI j) ∧ z.2 = wx) ∨ (r9 = 2 ∧ ∃ e9, z.1 = (ks, ad, cE dd E e9) ∧ (∃ j, (j < nW ∧ v = nI j) ∧ ¬ (0 ≤ mq (M.2.1 19) (M.2.1 20) (M.2.1 19 j) nW - M.2.1 20 j ∧ mq (M.2.1 19) (M.2.1 20) (M.2.1 19 j) nW - M.2.1 20 j ≤ 10000)) ∧ z.2 = wx)) (hq : (fun (r : Int32) (z : mS) => (¬ (∃ j, j < nW ∧ v = nI j) ∧ mT M 1 = z ∧ r = 0) ∨ ∃ j, (j < nW ∧ v = nI j) ∧ ((¬ (0 ≤ mq (M.2.1 19) (M.2.1 20) (M.2.1 19 j) nW - M.2.1 20 j ∧ mq (M.2.1 19) (M.2.1 20) (M.2.1 19 j) nW - M.2.1 20 j ≤ 10000) ∧ mT M 2 = z ∧ r = 0) ∨ ((0 ≤ mq (M.2.1 19) (M.2.1 20) (M.2.1 19 j) nW - M.2.1 20 j ∧ mq (M.2.1 19) (M.2.1 20) (M.2.1 19 j) nW - M.2.1 20 j ≤ 10000) ∧ (va_up (va_up M.1 0 0) 18 (nI (nW - 1)), va_up (va_up M.2.1 19 (mshift (M.2.1 19) j (nW - 1))) 20 (mshift (M.2.1 20) j (nW - 1)), M.2.2) = z ∧ r = mq (mshift (M.2.1 19) j (nW - 1)) (mshift (M.2.1 20) j (nW - 1)) (M.2.1 19 j) (nW - 1)))) b9 M2) : M2.1 0 = r9 ∧ (r9 = 0 → z.2 = xJ dd wx f0 b9.toInt64) ∧ (¬ r9 = 0 → z.2 = wx) ∧ LWS dd z.1 M2 (ad 0) := by
  have bb := rI_b hI
  rcases hp with ⟨rfl, v9, ⟨j, ⟨hj, rfl⟩, hb, ⟨h0, hA⟩, rfl⟩, hz2⟩ | ⟨rfl, e9, hz1, c1, hz2⟩ | ⟨rfl, e9, hz1, ⟨j, ⟨hj, rfl⟩, hb⟩, hz2⟩
  · rcases hq with ⟨hno, rfl, -⟩ | ⟨i, ⟨hi, e⟩, ⟨hb2, rfl, -⟩ | ⟨hb2, rfl, rfl⟩⟩
    · exact absurd ⟨j, hj, rfl⟩ hno
    · obtain rfl := nI_inj (by omega) (by omega) e
      exact absurd hb hb2
    · obtain rfl := nI_inj (by omega) (by omega) e
      exact ⟨rfl, fun _ => by rw [hz2, mq_rem (nW - 1) (by omega), if_pos rfl, show nW - 1 + 1 = nW by omega], fun h => absurd rfl h, LWS_new (rI_dropRow hI hj) rfl hA h0 (fun _ _ _ => rfl)⟩
  · rcases hq with ⟨hno, rfl, -⟩ | ⟨i, ⟨hi, e⟩, ⟨hb2, rfl, -⟩ | ⟨hb2, rfl, rfl⟩⟩
    · exact ⟨rfl, fun h => absurd h (by decide), fun _ => hz2, by rw [hz1]; exact LWS_same hI ⟨E, e9, rfl, hO, hR, hC, hT, hL, hW, hV, hM⟩ rfl zz2 (fun _ _ => rfl)⟩
    · exact absurd ⟨i, hi, e⟩ c1
    · exact absurd ⟨i, hi, e⟩ c1
  · rcases hq with ⟨hno, rfl, -⟩ | ⟨i, ⟨hi, e⟩, ⟨hb2, rfl, -⟩ | ⟨hb2, rfl, rfl⟩⟩
    · exact absurd ⟨j, hj, rfl⟩ hno
    · obtain rfl := nI_inj (by omega) (by omega) e
      exact ⟨rfl, fun h => absurd h (by decide), fun _ => hz2, by rw [hz1]; exact LWS_same hI ⟨E, e9, rfl, hO, hR, hC, hT, hL, hW, hV, hM⟩ rfl zz2 (fun _ _ => rfl)⟩
    · obtain rfl := nI_inj (by omega) (by omega) e
      exact absurd hb2 hb
set_option maxHeartbeats 4000000 in
theorem st_replaceItem {dd : kDD} {ks : List Nat} {ad : Nat → Nat} {E : Nat → va_E} {e : eS} {M : mS} {nR nC nt nL nW nV nM : Nat} {cn nm mn me li rl : Nat → Nat} {wx : kT} {v x y : Int32} {f0 : Nat → Int64} (hI : rI M nR nC nt nL nW nV nM cn nm mn me li rl (M.1 24)) (hO : cO dd ks ad E (M.1 24)) (hR : cR dd ks ad E M nR) (hC : cC dd ks ad E M nC mn me) (hT : cT dd ks ad E M nt cn nm) (hL : cL dd ks ad E M nL nW li) (hW : cW dd ks ad E M nW rl) (hV : cV dd ks ad E M nV) (hM : cM dd ks ad E M nM)  {r9 : Int32} {z : kT × kT} {b9 : Int32} {M2 : mS} (hp : (r9 = 0 ∧ ∃ v9 : Int32, (fun (r : Int32) (z : kT) => ∃ jv, ∃ ja, ∃ jb, (jv < nV ∧ ja < nt ∧ jb < nt ∧ v = nI jv ∧ x = nI ja ∧ y = nI jb) ∧ (ja ≠ jb) ∧ ¬ (M.1 24) >>> (nI jv &&& 31) &&& 1 = 1 ∧ (z.2.1 0 = ad 0 ∧ cAll dd (M.1, va_up M.2.1 22 (upd (M.2.1 22) (12 * jv + ja) (nI jb)), M.2.2) nR nC nt nL nW nV nM cn nm mn me li rl (M.1 24) z) ∧ r = tld (upd (M.2.1 22) (12 * jv + ja) (nI jb)) (12 * jv) 12) v9 z.1 ∧ z.2 = xJ dd wx f0 v9.toInt64) ∨ (r9 = 1 ∧ ∃ e9, z.1 = (ks, ad, cE dd E e9) ∧ ¬ ((∃ j, j < nV ∧ v = nI j) ∧ (∃ j, j < nt ∧ x = nI j) ∧ (∃ j, j < nt ∧ y = nI j)) ∧ z.2 = wx) ∨ (r9 = 2 ∧ ∃ e9, z.1 = (ks, ad, cE dd E e9) ∧ (∃ jv, ∃ ja, ∃ jb, (jv < nV ∧ ja < nt ∧ jb < nt ∧ v = nI jv ∧ x = nI ja ∧ y = nI jb) ∧ ¬ (ja ≠ jb)) ∧ z.2 = wx) ∨ (r9 = 3 ∧ ∃ e9, z.1 = (ks, ad, cE dd E e9) ∧ (∃ jv, ∃ ja, ∃ jb, (jv < nV ∧ ja < nt ∧ jb < nt ∧ v = nI jv ∧ x = nI ja ∧ y = nI jb) ∧ ((ja ≠ jb) ∧ (M.1 24) >>> (nI jv &&& 31) &&& 1 = 1)) ∧ z.2 = wx)) (hq : (fun (r : Int32) (z : mS) => (¬ ((∃ j, j < nV ∧ v = nI j) ∧ (∃ j, j < nt ∧ x = nI j) ∧ (∃ j, j < nt ∧ y = nI j)) ∧ mT M 1 = z ∧ r = 0) ∨ ∃ jv, ∃ ja, ∃ jb, (jv < nV ∧ ja < nt ∧ jb < nt ∧ v = nI jv ∧ x = nI ja ∧ y = nI jb) ∧ ((¬ (ja ≠ jb) ∧ mT M 2 = z ∧ r = 0) ∨ ((ja ≠ jb) ∧ M.1 24 >>> (nI jv &&& 31) &&& 1 = 1 ∧ mT M 3 = z ∧ r = 0) ∨ ((ja ≠ jb) ∧ ¬ M.1 24 >>> (nI jv &&& 31) &&& 1 = 1 ∧ ((mT0 M).1, va_up M.2.1 22 (upd (M.2.1 22) (12 * jv + ja) (nI jb)), M.2.2) = z ∧ r = tld (upd (M.2.1 22) (12 * jv + ja) (nI jb)) (12 * jv) 12))) b9 M2) : M2.1 0 = r9 ∧ (r9 = 0 → z.2 = xJ dd wx f0 b9.toInt64) ∧ (¬ r9 = 0 → z.2 = wx) ∧ LWS dd z.1 M2 (ad 0) := by
  have bb := rI_b hI
  rcases hp with ⟨rfl, v9, ⟨jv, ja, jb, ⟨hv, ha, hb, rfl, rfl, rfl⟩, hne, hoff, ⟨h0, hA⟩, rfl⟩, hz2⟩ | ⟨rfl, e9, hz1, c1, hz2⟩ | ⟨rfl, e9, hz1, ⟨jv, ja, jb, ⟨hv, ha, hb, rfl, rfl, rfl⟩, hnn⟩, hz2⟩ | ⟨rfl, e9, hz1, ⟨jv, ja, jb, ⟨hv, ha, hb, rfl, rfl, rfl⟩, hne, hon1⟩, hz2⟩
  · rcases hq with ⟨hno, rfl, -⟩ | ⟨iv, ia, ib, ⟨hv2, ha2, hb2, e, e2, e3⟩, ⟨hn, rfl, -⟩ | ⟨hne2, hon, rfl, -⟩ | ⟨hne2, hoff2, rfl, rfl⟩⟩
    · exact absurd ⟨⟨_, hv, rfl⟩, ⟨_, ha, rfl⟩, ⟨_, hb, rfl⟩⟩ hno
    · obtain rfl := nI_inj (by omega) (by omega) e
      obtain rfl := nI_inj (by omega) (by omega) e2
      obtain rfl := nI_inj (by omega) (by omega) e3
      exact absurd hne hn
    · obtain rfl := nI_inj (by omega) (by omega) e
      obtain rfl := nI_inj (by omega) (by omega) e2
      obtain rfl := nI_inj (by omega) (by omega) e3
      exact absurd hon hoff
    · obtain rfl := nI_inj (by omega) (by omega) e
      obtain rfl := nI_inj (by omega) (by omega) e2
      obtain rfl := nI_inj (by omega) (by omega) e3
      exact ⟨rfl, fun _ => hz2, fun h => absurd rfl h, LWS_new (rI_replaceItem hI hv ha hb hoff) rfl hA h0 (fun _ _ _ => rfl)⟩
  · rcases hq with ⟨hno, rfl, -⟩ | ⟨iv, ia, ib, ⟨hv2, ha2, hb2, e, e2, e3⟩, ⟨hn, rfl, -⟩ | ⟨hne2, hon, rfl, -⟩ | ⟨hne2, hoff2, rfl, rfl⟩⟩
    · exact ⟨rfl, fun h => absurd h (by decide), fun _ => hz2, by rw [hz1]; exact LWS_same hI ⟨E, e9, rfl, hO, hR, hC, hT, hL, hW, hV, hM⟩ rfl zz2 (fun _ _ => rfl)⟩
    · exact absurd ⟨⟨_, hv2, e⟩, ⟨_, ha2, e2⟩, ⟨_, hb2, e3⟩⟩ c1
    · exact absurd ⟨⟨_, hv2, e⟩, ⟨_, ha2, e2⟩, ⟨_, hb2, e3⟩⟩ c1
    · exact absurd ⟨⟨_, hv2, e⟩, ⟨_, ha2, e2⟩, ⟨_, hb2, e3⟩⟩ c1
  · rcases hq with ⟨hno, rfl, -⟩ | ⟨iv, ia, ib, ⟨hv2, ha2, hb2, e, e2, e3⟩, ⟨hn, rfl, -⟩ | ⟨hne2, hon, rfl, -⟩ | ⟨hne2, hoff2, rfl, rfl⟩⟩
    · exact absurd ⟨⟨_, hv, rfl⟩, ⟨_, ha, rfl⟩, ⟨_, hb, rfl⟩⟩ hno
    · obtain rfl := nI_inj (by omega) (by omega) e
      obtain rfl := nI_inj (by omega) (by omega) e2
      obtain rfl := nI_inj (by omega) (by omega) e3
      exact ⟨rfl, fun h => absurd h (by decide), fun _ => hz2, by rw [hz1]; exact LWS_same hI ⟨E, e9, rfl, hO, hR, hC, hT, hL, hW, hV, hM⟩ rfl zz2 (fun _ _ => rfl)⟩
    · obtain rfl := nI_inj (by omega) (by omega) e
      obtain rfl := nI_inj (by omega) (by omega) e2
      obtain rfl := nI_inj (by omega) (by omega) e3
      exact absurd hne2 hnn
    · obtain rfl := nI_inj (by omega) (by omega) e
      obtain rfl := nI_inj (by omega) (by omega) e2
      obtain rfl := nI_inj (by omega) (by omega) e3
      exact absurd hne2 hnn
  · rcases hq with ⟨hno, rfl, -⟩ | ⟨iv, ia, ib, ⟨hv2, ha2, hb2, e, e2, e3⟩, ⟨hn, rfl, -⟩ | ⟨hne2, hon, rfl, -⟩ | ⟨hne2, hoff2, rfl, rfl⟩⟩
    · exact absurd ⟨⟨_, hv, rfl⟩, ⟨_, ha, rfl⟩, ⟨_, hb, rfl⟩⟩ hno
    · obtain rfl := nI_inj (by omega) (by omega) e
      obtain rfl := nI_inj (by omega) (by omega) e2
      obtain rfl := nI_inj (by omega) (by omega) e3
      exact absurd hne hn
    · obtain rfl := nI_inj (by omega) (by omega) e
      obtain rfl := nI_inj (by omega) (by omega) e2
      obtain rfl := nI_inj (by omega) (by omega) e3
      exact ⟨rfl, fun h => absurd h (by decide), fun _ => hz2, by rw [hz1]; exact LWS_same hI ⟨E, e9, rfl, hO, hR, hC, hT, hL, hW, hV, hM⟩ rfl zz2 (fun _ _ => rfl)⟩
    · obtain rfl := nI_inj (by omega) (by omega) e
      obtain rfl := nI_inj (by omega) (by omega) e2
      obtain rfl := nI_inj (by omega) (by omega) e3
      exact absurd hon1 hoff2
set_option maxHeartbeats 4000000 in
theorem st_replaceResource {dd : kDD} {ks : List Nat} {ad : Nat → Nat} {E : Nat → va_E} {e : eS} {M : mS} {nR nC nt nL nW nV nM : Nat} {cn nm mn me li rl : Nat → Nat} {wx : kT} {v x y : Int32} {f0 : Nat → Int64} (hI : rI M nR nC nt nL nW nV nM cn nm mn me li rl (M.1 24)) (hO : cO dd ks ad E (M.1 24)) (hR : cR dd ks ad E M nR) (hC : cC dd ks ad E M nC mn me) (hT : cT dd ks ad E M nt cn nm) (hL : cL dd ks ad E M nL nW li) (hW : cW dd ks ad E M nW rl) (hV : cV dd ks ad E M nV) (hM : cM dd ks ad E M nM)  {r9 : Int32} {z : kT × kT} {b9 : Int32} {M2 : mS} (hp : (r9 = 0 ∧ ∃ v9 : Int32, (fun (r : Int32) (z : kT) => ∃ jv, ∃ ja, ∃ jb, (jv < nV ∧ ja < nR ∧ jb < nR ∧ v = nI jv ∧ x = nI ja ∧ y = nI jb) ∧ (ja ≠ jb ∧ M.2.1 2 ja = M.2.1 2 jb) ∧ ¬ (M.1 24) >>> (nI jv &&& 31) &&& 1 = 1 ∧ (z.2.1 0 = ad 0 ∧ cAll dd (M.1, va_up M.2.1 23 (upd (M.2.1 23) (12 * jv + ja) (nI jb)), M.2.2) nR nC nt nL nW nV nM cn nm mn me li rl (M.1 24) z) ∧ r = tld (upd (M.2.1 23) (12 * jv + ja) (nI jb)) (12 * jv) 12) v9 z.1 ∧ z.2 = xJ dd wx f0 v9.toInt64) ∨ (r9 = 1 ∧ ∃ e9, z.1 = (ks, ad, cE dd E e9) ∧ ¬ ((∃ j, j < nV ∧ v = nI j) ∧ (∃ j, j < nR ∧ x = nI j) ∧ (∃ j, j < nR ∧ y = nI j)) ∧ z.2 = wx) ∨ (r9 = 2 ∧ ∃ e9, z.1 = (ks, ad, cE dd E e9) ∧ (∃ jv, ∃ ja, ∃ jb, (jv < nV ∧ ja < nR ∧ jb < nR ∧ v = nI jv ∧ x = nI ja ∧ y = nI jb) ∧ ¬ (ja ≠ jb ∧ M.2.1 2 ja = M.2.1 2 jb)) ∧ z.2 = wx) ∨ (r9 = 3 ∧ ∃ e9, z.1 = (ks, ad, cE dd E e9) ∧ (∃ jv, ∃ ja, ∃ jb, (jv < nV ∧ ja < nR ∧ jb < nR ∧ v = nI jv ∧ x = nI ja ∧ y = nI jb) ∧ ((ja ≠ jb ∧ M.2.1 2 ja = M.2.1 2 jb) ∧ (M.1 24) >>> (nI jv &&& 31) &&& 1 = 1)) ∧ z.2 = wx)) (hq : (fun (r : Int32) (z : mS) => (¬ ((∃ j, j < nV ∧ v = nI j) ∧ (∃ j, j < nR ∧ x = nI j) ∧ (∃ j, j < nR ∧ y = nI j)) ∧ mT M 1 = z ∧ r = 0) ∨ ∃ jv, ∃ ja, ∃ jb, (jv < nV ∧ ja < nR ∧ jb < nR ∧ v = nI jv ∧ x = nI ja ∧ y = nI jb) ∧ ((¬ (ja ≠ jb ∧ M.2.1 2 ja = M.2.1 2 jb) ∧ mT M 2 = z ∧ r = 0) ∨ ((ja ≠ jb ∧ M.2.1 2 ja = M.2.1 2 jb) ∧ M.1 24 >>> (nI jv &&& 31) &&& 1 = 1 ∧ mT M 3 = z ∧ r = 0) ∨ ((ja ≠ jb ∧ M.2.1 2 ja = M.2.1 2 jb) ∧ ¬ M.1 24 >>> (nI jv &&& 31) &&& 1 = 1 ∧ ((mT0 M).1, va_up M.2.1 23 (upd (M.2.1 23) (12 * jv + ja) (nI jb)), M.2.2) = z ∧ r = tld (upd (M.2.1 23) (12 * jv + ja) (nI jb)) (12 * jv) 12))) b9 M2) : M2.1 0 = r9 ∧ (r9 = 0 → z.2 = xJ dd wx f0 b9.toInt64) ∧ (¬ r9 = 0 → z.2 = wx) ∧ LWS dd z.1 M2 (ad 0) := by
  have bb := rI_b hI
  rcases hp with ⟨rfl, v9, ⟨jv, ja, jb, ⟨hv, ha, hb, rfl, rfl, rfl⟩, hne, hoff, ⟨h0, hA⟩, rfl⟩, hz2⟩ | ⟨rfl, e9, hz1, c1, hz2⟩ | ⟨rfl, e9, hz1, ⟨jv, ja, jb, ⟨hv, ha, hb, rfl, rfl, rfl⟩, hnn⟩, hz2⟩ | ⟨rfl, e9, hz1, ⟨jv, ja, jb, ⟨hv, ha, hb, rfl, rfl, rfl⟩, hne, hon1⟩, hz2⟩
  · rcases hq with ⟨hno, rfl, -⟩ | ⟨iv, ia, ib, ⟨hv2, ha2, hb2, e, e2, e3⟩, ⟨hn, rfl, -⟩ | ⟨hne2, hon, rfl, -⟩ | ⟨hne2, hoff2, rfl, rfl⟩⟩
    · exact absurd ⟨⟨_, hv, rfl⟩, ⟨_, ha, rfl⟩, ⟨_, hb, rfl⟩⟩ hno
    · obtain rfl := nI_inj (by omega) (by omega) e
      obtain rfl := nI_inj (by omega) (by omega) e2
      obtain rfl := nI_inj (by omega) (by omega) e3
      exact absurd hne hn
    · obtain rfl := nI_inj (by omega) (by omega) e
      obtain rfl := nI_inj (by omega) (by omega) e2
      obtain rfl := nI_inj (by omega) (by omega) e3
      exact absurd hon hoff
    · obtain rfl := nI_inj (by omega) (by omega) e
      obtain rfl := nI_inj (by omega) (by omega) e2
      obtain rfl := nI_inj (by omega) (by omega) e3
      exact ⟨rfl, fun _ => hz2, fun h => absurd rfl h, LWS_new (rI_replaceResource hI hv ha hb) rfl hA h0 (fun _ _ _ => rfl)⟩
  · rcases hq with ⟨hno, rfl, -⟩ | ⟨iv, ia, ib, ⟨hv2, ha2, hb2, e, e2, e3⟩, ⟨hn, rfl, -⟩ | ⟨hne2, hon, rfl, -⟩ | ⟨hne2, hoff2, rfl, rfl⟩⟩
    · exact ⟨rfl, fun h => absurd h (by decide), fun _ => hz2, by rw [hz1]; exact LWS_same hI ⟨E, e9, rfl, hO, hR, hC, hT, hL, hW, hV, hM⟩ rfl zz2 (fun _ _ => rfl)⟩
    · exact absurd ⟨⟨_, hv2, e⟩, ⟨_, ha2, e2⟩, ⟨_, hb2, e3⟩⟩ c1
    · exact absurd ⟨⟨_, hv2, e⟩, ⟨_, ha2, e2⟩, ⟨_, hb2, e3⟩⟩ c1
    · exact absurd ⟨⟨_, hv2, e⟩, ⟨_, ha2, e2⟩, ⟨_, hb2, e3⟩⟩ c1
  · rcases hq with ⟨hno, rfl, -⟩ | ⟨iv, ia, ib, ⟨hv2, ha2, hb2, e, e2, e3⟩, ⟨hn, rfl, -⟩ | ⟨hne2, hon, rfl, -⟩ | ⟨hne2, hoff2, rfl, rfl⟩⟩
    · exact absurd ⟨⟨_, hv, rfl⟩, ⟨_, ha, rfl⟩, ⟨_, hb, rfl⟩⟩ hno
    · obtain rfl := nI_inj (by omega) (by omega) e
      obtain rfl := nI_inj (by omega) (by omega) e2
      obtain rfl := nI_inj (by omega) (by omega) e3
      exact ⟨rfl, fun h => absurd h (by decide), fun _ => hz2, by rw [hz1]; exact LWS_same hI ⟨E, e9, rfl, hO, hR, hC, hT, hL, hW, hV, hM⟩ rfl zz2 (fun _ _ => rfl)⟩
    · obtain rfl := nI_inj (by omega) (by omega) e
      obtain rfl := nI_inj (by omega) (by omega) e2
      obtain rfl := nI_inj (by omega) (by omega) e3
      exact absurd hne2 hnn
    · obtain rfl := nI_inj (by omega) (by omega) e
      obtain rfl := nI_inj (by omega) (by omega) e2
      obtain rfl := nI_inj (by omega) (by omega) e3
      exact absurd hne2 hnn
  · rcases hq with ⟨hno, rfl, -⟩ | ⟨iv, ia, ib, ⟨hv2, ha2, hb2, e, e2, e3⟩, ⟨hn, rfl, -⟩ | ⟨hne2, hon, rfl, -⟩ | ⟨hne2, hoff2, rfl, rfl⟩⟩
    · exact absurd ⟨⟨_, hv, rfl⟩, ⟨_, ha, rfl⟩, ⟨_, hb, rfl⟩⟩ hno
    · obtain rfl := nI_inj (by omega) (by omega) e
      obtain rfl := nI_inj (by omega) (by omega) e2
      obtain rfl := nI_inj (by omega) (by omega) e3
      exact absurd hne hn
    · obtain rfl := nI_inj (by omega) (by omega) e
      obtain rfl := nI_inj (by omega) (by omega) e2
      obtain rfl := nI_inj (by omega) (by omega) e3
      exact ⟨rfl, fun h => absurd h (by decide), fun _ => hz2, by rw [hz1]; exact LWS_same hI ⟨E, e9, rfl, hO, hR, hC, hT, hL, hW, hV, hM⟩ rfl zz2 (fun _ _ => rfl)⟩
    · obtain rfl := nI_inj (by omega) (by omega) e
      obtain rfl := nI_inj (by omega) (by omega) e2
      obtain rfl := nI_inj (by omega) (by omega) e3
      exact absurd hon1 hoff2
set_option maxHeartbeats 4000000 in
theorem st_turn {dd : kDD} {ks : List Nat} {ad : Nat → Nat} {E : Nat → va_E} {e : eS} {M : mS} {nR nC nt nL nW nV nM : Nat} {cn nm mn me li rl : Nat → Nat} {wx : kT} {v p : Int32} {f0 : Nat → Int64} (hI : rI M nR nC nt nL nW nV nM cn nm mn me li rl (M.1 24)) (hO : cO dd ks ad E (M.1 24)) (hR : cR dd ks ad E M nR) (hC : cC dd ks ad E M nC mn me) (hT : cT dd ks ad E M nt cn nm) (hL : cL dd ks ad E M nL nW li) (hW : cW dd ks ad E M nW rl) (hV : cV dd ks ad E M nV) (hM : cM dd ks ad E M nM) (hp01 : p = 0 ∨ p = 1) {r9 : Int32} {z : kT × kT} {b9 : Int32} {M2 : mS} (hp : (r9 = 0 ∧ ∃ v9 : Int32, (fun (r : Int32) (z : kT) => ∃ j, (j < nV ∧ v = nI j) ∧ (((M.1 24) >>> (nI j &&& 31) &&& 1 = 1 ∧ r = 1) ∨ (¬ (M.1 24) >>> (nI j &&& 31) &&& 1 = 1 ∧ r = 0)) ∧ ((r = p ∧ (z.2.1 0 = ad 0 ∧ cAll dd M nR nC nt nL nW nV nM cn nm mn me li rl (M.1 24) z)) ∨ (¬ r = p ∧ kFx (M.2.1 13) cn (fun k => (cmI (M.2.1 22) nV) ((M.1 24) ^^^ ((1 : Int32) <<< (nI j &&& 31))) (nm k)) (nJ (M.2.1 13) cn (fun k => (cmI (M.2.1 22) nV) ((M.1 24) ^^^ ((1 : Int32) <<< (nI j &&& 31))) (nm k)) 2) nt ∧ (z.2.1 0 = ad 0 ∧ cAll dd M nR nC nt nL nW nV nM cn nm mn me li rl ((M.1 24) ^^^ ((1 : Int32) <<< (nI j &&& 31))) z)))) v9 z.1 ∧ z.2 = xJ dd wx f0 (if v9 = 0 then 0 else 1)) ∨ (r9 = 1 ∧ ∃ e9, z.1 = (ks, ad, cE dd E e9) ∧ ¬ (∃ j, j < nV ∧ v = nI j) ∧ z.2 = wx) ∨ (r9 = 2 ∧ ∃ e9, z.1 = (ks, ad, cE dd E e9) ∧ (∃ j, (j < nV ∧ v = nI j) ∧ (((M.1 24) >>> (nI j &&& 31) &&& 1 = 1 ∧ ¬ p = 1) ∨ (¬ (M.1 24) >>> (nI j &&& 31) &&& 1 = 1 ∧ ¬ p = 0)) ∧ ¬ kFx (M.2.1 13) cn (fun k => (cmI (M.2.1 22) nV) ((M.1 24) ^^^ ((1 : Int32) <<< (nI j &&& 31))) (nm k)) (nJ (M.2.1 13) cn (fun k => (cmI (M.2.1 22) nV) ((M.1 24) ^^^ ((1 : Int32) <<< (nI j &&& 31))) (nm k)) 2) nt) ∧ z.2 = wx)) (hq : (fun (r : Int32) (z : mS) => (¬ (∃ j, j < nV ∧ v = nI j) ∧ mT M 1 = z ∧ r = 0) ∨ ∃ j, ∃ o, ∃ X, (j < nV ∧ v = nI j ∧ o = (if p = 0 then M.1 24 &&& (((1 : Int32) <<< (nI j &&& 31)) ^^^ -1) else M.1 24 ||| ((1 : Int32) <<< (nI j &&& 31)))) ∧ (((∀ k, k < nt → mD (M.2.1 13) cn (fun k => (cmI (M.2.1 22) nV) o (nm k)) nt (M.2.1 30) 3 k ≤ 3) ∧ (va_up (va_up M.1 0 0) 24 o, va_up M.2.1 30 (mD (M.2.1 13) cn (fun k => (cmI (M.2.1 22) nV) o (nm k)) nt (M.2.1 30) 3), va_up M.2.2 33 X) = z ∧ r = (if M.1 24 >>> (nI j &&& 31) &&& 1 = 1 then 1 else 0)) ∨ (¬ (∀ k, k < nt → mD (M.2.1 13) cn (fun k => (cmI (M.2.1 22) nV) o (nm k)) nt (M.2.1 30) 3 k ≤ 3) ∧ (va_up (va_up (va_up (va_up M.1 0 0) 24 o) 0 2) 24 (M.1 24), va_up M.2.1 30 (mD (M.2.1 13) cn (fun k => (cmI (M.2.1 22) nV) o (nm k)) nt (M.2.1 30) 3), va_up M.2.2 33 X) = z ∧ r = 0))) b9 M2) : M2.1 0 = r9 ∧ (r9 = 0 → z.2 = xJ dd wx f0 (if b9 = 0 then 0 else 1)) ∧ (¬ r9 = 0 → z.2 = wx) ∧ LWS dd z.1 M2 (ad 0) := by
  have bb := rI_b hI
  obtain ⟨a9, ha16, hon9⟩ := rI_on hI
  rcases hp with ⟨rfl, v9, ⟨j, ⟨hj, rfl⟩, hw, ht⟩, hz2⟩ | ⟨rfl, e9, hz1, c1, hz2⟩ | ⟨rfl, e9, hz1, ⟨j, ⟨hj, rfl⟩, hw, hnf⟩, hz2⟩
  · rcases hq with ⟨hno, rfl, -⟩ | ⟨i, o, X9, ⟨hi, e, eo⟩, hrest⟩
    · exact absurd ⟨j, hj, rfl⟩ hno
    · obtain rfl := nI_inj (by omega) (by omega) e
      rcases ht with ht | ht
      · rw [turn_o ha16 (by omega) hon9 hp01, if_pos (⟨fun h => by rcases hw with w | w; exact ht.1.symm.trans w.2; exact absurd h w.1, fun h => by rcases hw with w | w; exact w.1; exact absurd (ht.1.trans h) (by rw [w.2]; decide)⟩)] at eo
        subst eo
        obtain ⟨h0, hA⟩ := ht.2
        rcases hrest with ⟨hal, rfl, rfl⟩ | ⟨hal, rfl, -⟩
        · exact ⟨rfl, fun _ => by rw [hz2]; rcases hw with w | w; (rw [w.2, if_pos w.1]); (rw [w.2, if_neg w.1]), fun h => absurd rfl h, LWS_same hI hA h0 z24d (fun k hk => va_up_ne _ _ hk)⟩
        · exact absurd ((al_iff (rI_val hI _)).mpr (rI_fx hI)) hal
      · rw [turn_o ha16 (by omega) hon9 hp01, if_neg (fun hb => by rcases hw with w | w; exact ht.1 (w.2.trans (hb.mp w.1).symm); exact ht.1 (w.2.trans (by rcases hp01 with q | q; exact q.symm; exact absurd (hb.mpr q) w.1)))] at eo
        subst eo
        obtain ⟨hfx, h0, hA⟩ := ht.2
        rcases hrest with ⟨hal, rfl, rfl⟩ | ⟨hal, rfl, -⟩
        · exact ⟨rfl, fun _ => by rw [hz2]; rcases hw with w | w; (rw [w.2, if_pos w.1]); (rw [w.2, if_neg w.1]), fun h => absurd rfl h, LWS_any (rI_turn hI hj hfx) rfl hA h0 (fun k hk _ => va_up_ne _ _ hk) (fun _ _ => rfl) (fun _ _ => rfl)⟩
        · exact absurd ((al_iff (rI_val hI _)).mpr hfx) hal
  · rcases hq with ⟨hno, rfl, -⟩ | ⟨i, o, X9, ⟨hi, e, eo⟩, hrest⟩
    · exact ⟨rfl, fun h => absurd h (by decide), fun _ => hz2, by rw [hz1]; exact LWS_same hI ⟨E, e9, rfl, hO, hR, hC, hT, hL, hW, hV, hM⟩ rfl zz2 (fun _ _ => rfl)⟩
    · exact absurd ⟨i, hi, e⟩ c1
  · rcases hq with ⟨hno, rfl, -⟩ | ⟨i, o, X9, ⟨hi, e, eo⟩, hrest⟩
    · exact absurd ⟨j, hj, rfl⟩ hno
    · obtain rfl := nI_inj (by omega) (by omega) e
      rw [turn_o ha16 (by omega) hon9 hp01, if_neg (fun hb => by rcases hw with w | w; exact w.2 (hb.mp w.1); exact w.2 (by rcases hp01 with q | q; exact q; exact absurd (hb.mpr q) w.1))] at eo
      subst eo
      rcases hrest with ⟨hal, rfl, rfl⟩ | ⟨hal, rfl, -⟩
      · exact absurd ((al_iff (rI_val hI _)).mp hal) hnf
      · exact ⟨rfl, fun h => absurd h (by decide), fun _ => hz2, by rw [hz1]; exact LWS_same hI ⟨E, e9, rfl, hO, hR, hC, hT, hL, hW, hV, hM⟩ rfl z24c (fun k hk => va_up_ne _ _ hk)⟩
set_option maxHeartbeats 4000000 in
theorem st_addMarkup {dd : kDD} {ks : List Nat} {ad : Nat → Nat} {E : Nat → va_E} {e : eS} {M : mS} {nR nC nt nL nW nV nM : Nat} {cn nm mn me li rl : Nat → Nat} {wx : kT} {p bs : Int32} {f0 : Nat → Int64} (hI : rI M nR nC nt nL nW nV nM cn nm mn me li rl (M.1 24)) (hO : cO dd ks ad E (M.1 24)) (hR : cR dd ks ad E M nR) (hC : cC dd ks ad E M nC mn me) (hT : cT dd ks ad E M nt cn nm) (hL : cL dd ks ad E M nL nW li) (hW : cW dd ks ad E M nW rl) (hV : cV dd ks ad E M nV) (hM : cM dd ks ad E M nM)  {r9 : Int32} {z : kT × kT} {b9 : Int32} {M2 : mS} (hp : (r9 = 0 ∧ ∃ v9 : Int32, (fun (r : Int32) (z : kT) => nM < 4 ∧ (0 ≤ p ∧ p ≤ 50) ∧ bs &&& (((1 : Int32) <<< (nI (4 + nM) &&& 31)) - 1 ^^^ -1) = 0 ∧ (z.2.1 0 = ad 0 ∧ cAll dd (M.1, va_up (va_up M.2.1 26 (upd (M.2.1 26) nM p)) 27 (upd (M.2.1 27) nM bs), M.2.2) nR nC nt nL nW nV (nM + 1) cn nm mn me li rl (M.1 24) z) ∧ r = nI nM) v9 z.1 ∧ z.2 = xJ dd wx f0 v9.toInt64) ∨ (r9 = 1 ∧ ∃ e9, z.1 = (ks, ad, cE dd E e9) ∧ nM = 4 ∧ z.2 = wx) ∨ (r9 = 2 ∧ ∃ e9, z.1 = (ks, ad, cE dd E e9) ∧ (nM < 4 ∧ ¬ ((0 ≤ p ∧ p ≤ 50) ∧ bs &&& (((1 : Int32) <<< (nI (4 + nM) &&& 31)) - 1 ^^^ -1) = 0)) ∧ z.2 = wx)) (hq : (fun (r : Int32) (z : mS) => (nM = 4 ∧ mT M 1 = z ∧ r = 0) ∨ (nM < 4 ∧ ¬ ((0 ≤ p ∧ p ≤ 50) ∧ (0 ≤ bs ∧ bs ≤ (1 : Int32) <<< (nI (4 + nM) &&& 31) - 1)) ∧ mT M 2 = z ∧ r = 0) ∨ (nM < 4 ∧ ((0 ≤ p ∧ p ≤ 50) ∧ (0 ≤ bs ∧ bs ≤ (1 : Int32) <<< (nI (4 + nM) &&& 31) - 1)) ∧ (va_up (va_up M.1 0 0) 25 (nI (nM + 1)), va_up (va_up M.2.1 26 (upd (M.2.1 26) nM p)) 27 (upd (M.2.1 27) nM bs), M.2.2) = z ∧ r = nI nM)) b9 M2) : M2.1 0 = r9 ∧ (r9 = 0 → z.2 = xJ dd wx f0 b9.toInt64) ∧ (¬ r9 = 0 → z.2 = wx) ∧ LWS dd z.1 M2 (ad 0) := by
  have bb := rI_b hI
  rcases hp with ⟨rfl, v9, ⟨hn, hp0, hm, ⟨h0, hA⟩, rfl⟩, hz2⟩ | ⟨rfl, e9, hz1, c1, hz2⟩ | ⟨rfl, e9, hz1, c1, hz2⟩
  · rcases hq with ⟨hn2, rfl, -⟩ | ⟨hn2, hnp, rfl, -⟩ | ⟨hn2, hp2, rfl, rfl⟩
    · omega
    · exact absurd ⟨hp0, (mask_iff hn).mp hm⟩ hnp
    · exact ⟨rfl, fun _ => hz2, fun h => absurd rfl h, LWS_new (rI_addMarkup hI hn) rfl hA h0 (fun _ _ _ => rfl)⟩
  · rcases hq with ⟨hn2, rfl, -⟩ | ⟨hn2, hnp, rfl, -⟩ | ⟨hn2, hp2, rfl, rfl⟩
    · exact ⟨rfl, fun h => absurd h (by decide), fun _ => hz2, by rw [hz1]; exact LWS_same hI ⟨E, e9, rfl, hO, hR, hC, hT, hL, hW, hV, hM⟩ rfl zz2 (fun _ _ => rfl)⟩
    · omega
    · omega
  · rcases hq with ⟨hn2, rfl, -⟩ | ⟨hn2, hnp, rfl, -⟩ | ⟨hn2, hp2, rfl, rfl⟩
    · exact absurd c1.1 (by omega)
    · exact ⟨rfl, fun h => absurd h (by decide), fun _ => hz2, by rw [hz1]; exact LWS_same hI ⟨E, e9, rfl, hO, hR, hC, hT, hL, hW, hV, hM⟩ rfl zz2 (fun _ _ => rfl)⟩
    · exact absurd ⟨hp2.1, (mask_iff hn2).mpr hp2.2⟩ c1.2
set_option maxHeartbeats 4000000 in
theorem st_addUse {dd : kDD} {ks : List Nat} {ad : Nat → Nat} {E : Nat → va_E} {e : eS} {M : mS} {nR nC nt nL nW nV nM : Nat} {cn nm mn me li rl : Nat → Nat} {wx : kT} {v x q : Int32} {f0 : Nat → Int64} (hI : rI M nR nC nt nL nW nV nM cn nm mn me li rl (M.1 24)) (hO : cO dd ks ad E (M.1 24)) (hR : cR dd ks ad E M nR) (hC : cC dd ks ad E M nC mn me) (hT : cT dd ks ad E M nt cn nm) (hL : cL dd ks ad E M nL nW li) (hW : cW dd ks ad E M nW rl) (hV : cV dd ks ad E M nV) (hM : cM dd ks ad E M nM)  {r9 : Int32} {z : kT × kT} {b9 : Int32} {M2 : mS} (hp : (r9 = 0 ∧ ∃ v9 : Int32, (fun (r : Int32) (z : kT) => ∃ j, ∃ j2, (j < nt ∧ j2 < nR ∧ v = nI j ∧ x = nI j2 ∧ (1 ≤ q ∧ q ≤ 99)) ∧ cn j < 4 ∧ (z.2.1 0 = ad 0 ∧ cAll dd (M.1, va_up (va_up (va_up (va_up M.2.1 13 (upd (M.2.1 13) (4 * j + cn j) 1)) 14 (upd (M.2.1 14) (4 * j + cn j) (nI j2))) 15 (upd (M.2.1 15) (4 * j + cn j) q)) 12 (upd (M.2.1 12) j (nI (cn j + 1))), M.2.2) nR nC nt nL nW nV nM (va_up cn j (cn j + 1)) (va_up nm (4 * j + cn j) j2) mn me li rl (M.1 24) z) ∧ r = nI (cn j + 1)) v9 z.1 ∧ z.2 = xJ dd wx f0 v9.toInt64) ∨ (r9 = 1 ∧ (z.1.2.1 0 = ad 0 ∧ cAll dd M nR nC nt nL nW nV nM cn nm mn me li rl (M.1 24) z.1) ∧ ¬ ((∃ j, j < nt ∧ v = nI j) ∧ (∃ j, j < nR ∧ x = nI j)) ∧ z.2 = wx) ∨ (r9 = 2 ∧ (z.1.2.1 0 = ad 0 ∧ cAll dd M nR nC nt nL nW nV nM cn nm mn me li rl (M.1 24) z.1) ∧ (((∃ j, j < nt ∧ v = nI j) ∧ (∃ j, j < nR ∧ x = nI j)) ∧ ¬ (1 ≤ q ∧ q ≤ 99)) ∧ z.2 = wx) ∨ (r9 = 3 ∧ (z.1.2.1 0 = ad 0 ∧ cAll dd M nR nC nt nL nW nV nM cn nm mn me li rl (M.1 24) z.1) ∧ (((∃ j, j < nt ∧ v = nI j) ∧ (∃ j, j < nR ∧ x = nI j)) ∧ (1 ≤ q ∧ q ≤ 99) ∧ ∃ j, v = nI j ∧ j < nt ∧ cn j = 4) ∧ z.2 = wx)) (hq : (fun (r : Int32) (z : mS) => (¬ ((∃ j, j < nt ∧ v = nI j) ∧ (∃ j, j < nR ∧ x = nI j)) ∧ mT M 1 = z ∧ r = 0) ∨ (((∃ j, j < nt ∧ v = nI j) ∧ (∃ j, j < nR ∧ x = nI j)) ∧ ¬ (1 ≤ q ∧ q ≤ 99) ∧ mT M 2 = z ∧ r = 0) ∨ ∃ j, ∃ j2, (j < nt ∧ j2 < nR ∧ v = nI j ∧ x = nI j2 ∧ (1 ≤ q ∧ q ≤ 99)) ∧ ((cn j = 4 ∧ mT M 3 = z ∧ r = 0) ∨ (cn j < 4 ∧ ((mT0 M).1, va_up (va_up (va_up (va_up M.2.1 13 (upd (M.2.1 13) (4 * j + cn j) 1)) 14 (upd (M.2.1 14) (4 * j + cn j) (nI j2))) 15 (upd (M.2.1 15) (4 * j + cn j) q)) 12 (upd (M.2.1 12) j (nI (cn j + 1))), M.2.2) = z ∧ r = nI (cn j + 1)))) b9 M2) : M2.1 0 = r9 ∧ (r9 = 0 → z.2 = xJ dd wx f0 b9.toInt64) ∧ (¬ r9 = 0 → z.2 = wx) ∧ LWS dd z.1 M2 (ad 0) := by
  have bb := rI_b hI
  rcases hp with ⟨rfl, v9, ⟨j, j2, ⟨hj, hj2, rfl, rfl, hqq⟩, hc, ⟨h0, hA⟩, rfl⟩, hz2⟩ | ⟨rfl, ⟨h0, hA⟩, c1, hz2⟩ | ⟨rfl, ⟨h0, hA⟩, c1, hz2⟩ | ⟨rfl, ⟨h0, hA⟩, ⟨hex1, hqq, j, rfl, hj, hc⟩, hz2⟩
  · rcases hq with ⟨hno, rfl, -⟩ | ⟨hex, hnq, rfl, -⟩ | ⟨i, i2, ⟨hi, hi2, e, e2, hq2⟩, ⟨hc2, rfl, -⟩ | ⟨hc2, rfl, rfl⟩⟩
    · exact absurd ⟨⟨_, hj, rfl⟩, ⟨_, hj2, rfl⟩⟩ hno
    · exact absurd hqq hnq
    · obtain rfl := nI_inj (by omega) (by omega) e
      obtain rfl := nI_inj (by omega) (by omega) e2
      omega
    · obtain rfl := nI_inj (by omega) (by omega) e
      obtain rfl := nI_inj (by omega) (by omega) e2
      exact ⟨rfl, fun _ => hz2, fun h => absurd rfl h, LWS_new (rI_use hI hj hqq hc (Or.inl ⟨rfl, hj2⟩)) rfl hA h0 (fun _ _ _ => rfl)⟩
  · rcases hq with ⟨hno, rfl, -⟩ | ⟨hex, hnq, rfl, -⟩ | ⟨i, i2, ⟨hi, hi2, e, e2, hq2⟩, ⟨hc2, rfl, -⟩ | ⟨hc2, rfl, rfl⟩⟩
    · exact ⟨rfl, fun h => absurd h (by decide), fun _ => hz2, LWS_same hI hA h0 zz2 (fun _ _ => rfl)⟩
    · exact absurd hex c1
    · exact absurd ⟨⟨_, hi, e⟩, ⟨_, hi2, e2⟩⟩ c1
    · exact absurd ⟨⟨_, hi, e⟩, ⟨_, hi2, e2⟩⟩ c1
  · rcases hq with ⟨hno, rfl, -⟩ | ⟨hex, hnq, rfl, -⟩ | ⟨i, i2, ⟨hi, hi2, e, e2, hq2⟩, ⟨hc2, rfl, -⟩ | ⟨hc2, rfl, rfl⟩⟩
    · exact absurd c1.1 hno
    · exact ⟨rfl, fun h => absurd h (by decide), fun _ => hz2, LWS_same hI hA h0 zz2 (fun _ _ => rfl)⟩
    · exact absurd hq2 c1.2
    · exact absurd hq2 c1.2
  · rcases hq with ⟨hno, rfl, -⟩ | ⟨hex, hnq, rfl, -⟩ | ⟨i, i2, ⟨hi, hi2, e, e2, hq2⟩, ⟨hc2, rfl, -⟩ | ⟨hc2, rfl, rfl⟩⟩
    · exact absurd hex1 hno
    · exact absurd hqq hnq
    · obtain rfl := nI_inj (by omega) (by omega) e
      exact ⟨rfl, fun h => absurd h (by decide), fun _ => hz2, LWS_same hI hA h0 zz2 (fun _ _ => rfl)⟩
    · obtain rfl := nI_inj (by omega) (by omega) e
      omega
set_option maxHeartbeats 4000000 in
theorem st_addWork {dd : kDD} {ks : List Nat} {ad : Nat → Nat} {E : Nat → va_E} {e : eS} {M : mS} {nR nC nt nL nW nV nM : Nat} {cn nm mn me li rl : Nat → Nat} {wx : kT} {v x q : Int32} {f0 : Nat → Int64} (hI : rI M nR nC nt nL nW nV nM cn nm mn me li rl (M.1 24)) (hO : cO dd ks ad E (M.1 24)) (hR : cR dd ks ad E M nR) (hC : cC dd ks ad E M nC mn me) (hT : cT dd ks ad E M nt cn nm) (hL : cL dd ks ad E M nL nW li) (hW : cW dd ks ad E M nW rl) (hV : cV dd ks ad E M nV) (hM : cM dd ks ad E M nM)  {r9 : Int32} {z : kT × kT} {b9 : Int32} {M2 : mS} (hp : (r9 = 0 ∧ ∃ v9 : Int32, (fun (r : Int32) (z : kT) => ∃ j, ∃ j2, (j < nt ∧ j2 < nC ∧ v = nI j ∧ x = nI j2 ∧ (1 ≤ q ∧ q ≤ 99)) ∧ cn j < 4 ∧ (z.2.1 0 = ad 0 ∧ cAll dd (M.1, va_up (va_up (va_up (va_up M.2.1 13 (upd (M.2.1 13) (4 * j + cn j) 2)) 14 (upd (M.2.1 14) (4 * j + cn j) (nI j2))) 15 (upd (M.2.1 15) (4 * j + cn j) q)) 12 (upd (M.2.1 12) j (nI (cn j + 1))), M.2.2) nR nC nt nL nW nV nM (va_up cn j (cn j + 1)) (va_up nm (4 * j + cn j) j2) mn me li rl (M.1 24) z) ∧ r = nI (cn j + 1)) v9 z.1 ∧ z.2 = xJ dd wx f0 v9.toInt64) ∨ (r9 = 1 ∧ (z.1.2.1 0 = ad 0 ∧ cAll dd M nR nC nt nL nW nV nM cn nm mn me li rl (M.1 24) z.1) ∧ ¬ ((∃ j, j < nt ∧ v = nI j) ∧ (∃ j, j < nC ∧ x = nI j)) ∧ z.2 = wx) ∨ (r9 = 2 ∧ (z.1.2.1 0 = ad 0 ∧ cAll dd M nR nC nt nL nW nV nM cn nm mn me li rl (M.1 24) z.1) ∧ (((∃ j, j < nt ∧ v = nI j) ∧ (∃ j, j < nC ∧ x = nI j)) ∧ ¬ (1 ≤ q ∧ q ≤ 99)) ∧ z.2 = wx) ∨ (r9 = 3 ∧ (z.1.2.1 0 = ad 0 ∧ cAll dd M nR nC nt nL nW nV nM cn nm mn me li rl (M.1 24) z.1) ∧ (((∃ j, j < nt ∧ v = nI j) ∧ (∃ j, j < nC ∧ x = nI j)) ∧ (1 ≤ q ∧ q ≤ 99) ∧ ∃ j, v = nI j ∧ j < nt ∧ cn j = 4) ∧ z.2 = wx)) (hq : (fun (r : Int32) (z : mS) => (¬ ((∃ j, j < nt ∧ v = nI j) ∧ (∃ j, j < nC ∧ x = nI j)) ∧ mT M 1 = z ∧ r = 0) ∨ (((∃ j, j < nt ∧ v = nI j) ∧ (∃ j, j < nC ∧ x = nI j)) ∧ ¬ (1 ≤ q ∧ q ≤ 99) ∧ mT M 2 = z ∧ r = 0) ∨ ∃ j, ∃ j2, (j < nt ∧ j2 < nC ∧ v = nI j ∧ x = nI j2 ∧ (1 ≤ q ∧ q ≤ 99)) ∧ ((cn j = 4 ∧ mT M 3 = z ∧ r = 0) ∨ (cn j < 4 ∧ ((mT0 M).1, va_up (va_up (va_up (va_up M.2.1 13 (upd (M.2.1 13) (4 * j + cn j) 2)) 14 (upd (M.2.1 14) (4 * j + cn j) (nI j2))) 15 (upd (M.2.1 15) (4 * j + cn j) q)) 12 (upd (M.2.1 12) j (nI (cn j + 1))), M.2.2) = z ∧ r = nI (cn j + 1)))) b9 M2) : M2.1 0 = r9 ∧ (r9 = 0 → z.2 = xJ dd wx f0 b9.toInt64) ∧ (¬ r9 = 0 → z.2 = wx) ∧ LWS dd z.1 M2 (ad 0) := by
  have bb := rI_b hI
  rcases hp with ⟨rfl, v9, ⟨j, j2, ⟨hj, hj2, rfl, rfl, hqq⟩, hc, ⟨h0, hA⟩, rfl⟩, hz2⟩ | ⟨rfl, ⟨h0, hA⟩, c1, hz2⟩ | ⟨rfl, ⟨h0, hA⟩, c1, hz2⟩ | ⟨rfl, ⟨h0, hA⟩, ⟨hex1, hqq, j, rfl, hj, hc⟩, hz2⟩
  · rcases hq with ⟨hno, rfl, -⟩ | ⟨hex, hnq, rfl, -⟩ | ⟨i, i2, ⟨hi, hi2, e, e2, hq2⟩, ⟨hc2, rfl, -⟩ | ⟨hc2, rfl, rfl⟩⟩
    · exact absurd ⟨⟨_, hj, rfl⟩, ⟨_, hj2, rfl⟩⟩ hno
    · exact absurd hqq hnq
    · obtain rfl := nI_inj (by omega) (by omega) e
      obtain rfl := nI_inj (by omega) (by omega) e2
      omega
    · obtain rfl := nI_inj (by omega) (by omega) e
      obtain rfl := nI_inj (by omega) (by omega) e2
      exact ⟨rfl, fun _ => hz2, fun h => absurd rfl h, LWS_new (rI_use hI hj hqq hc (Or.inr ⟨rfl, hj2⟩)) rfl hA h0 (fun _ _ _ => rfl)⟩
  · rcases hq with ⟨hno, rfl, -⟩ | ⟨hex, hnq, rfl, -⟩ | ⟨i, i2, ⟨hi, hi2, e, e2, hq2⟩, ⟨hc2, rfl, -⟩ | ⟨hc2, rfl, rfl⟩⟩
    · exact ⟨rfl, fun h => absurd h (by decide), fun _ => hz2, LWS_same hI hA h0 zz2 (fun _ _ => rfl)⟩
    · exact absurd hex c1
    · exact absurd ⟨⟨_, hi, e⟩, ⟨_, hi2, e2⟩⟩ c1
    · exact absurd ⟨⟨_, hi, e⟩, ⟨_, hi2, e2⟩⟩ c1
  · rcases hq with ⟨hno, rfl, -⟩ | ⟨hex, hnq, rfl, -⟩ | ⟨i, i2, ⟨hi, hi2, e, e2, hq2⟩, ⟨hc2, rfl, -⟩ | ⟨hc2, rfl, rfl⟩⟩
    · exact absurd c1.1 hno
    · exact ⟨rfl, fun h => absurd h (by decide), fun _ => hz2, LWS_same hI hA h0 zz2 (fun _ _ => rfl)⟩
    · exact absurd hq2 c1.2
    · exact absurd hq2 c1.2
  · rcases hq with ⟨hno, rfl, -⟩ | ⟨hex, hnq, rfl, -⟩ | ⟨i, i2, ⟨hi, hi2, e, e2, hq2⟩, ⟨hc2, rfl, -⟩ | ⟨hc2, rfl, rfl⟩⟩
    · exact absurd hex1 hno
    · exact absurd hqq hnq
    · obtain rfl := nI_inj (by omega) (by omega) e
      exact ⟨rfl, fun h => absurd h (by decide), fun _ => hz2, LWS_same hI hA h0 zz2 (fun _ _ => rfl)⟩
    · obtain rfl := nI_inj (by omega) (by omega) e
      omega
set_option maxHeartbeats 4000000 in
theorem st_addPart {dd : kDD} {ks : List Nat} {ad : Nat → Nat} {E : Nat → va_E} {e : eS} {M : mS} {nR nC nt nL nW nV nM : Nat} {cn nm mn me li rl : Nat → Nat} {wx : kT} {v x q : Int32} {f0 : Nat → Int64} (hI : rI M nR nC nt nL nW nV nM cn nm mn me li rl (M.1 24)) (hO : cO dd ks ad E (M.1 24)) (hR : cR dd ks ad E M nR) (hC : cC dd ks ad E M nC mn me) (hT : cT dd ks ad E M nt cn nm) (hL : cL dd ks ad E M nL nW li) (hW : cW dd ks ad E M nW rl) (hV : cV dd ks ad E M nV) (hM : cM dd ks ad E M nM)  {r9 : Int32} {z : kT × kT} {b9 : Int32} {M2 : mS} (hp : (r9 = 0 ∧ ∃ v9 : Int32, (fun (r : Int32) (z : kT) => (∃ j, ∃ j2, (j < nt ∧ j2 < nt ∧ v = nI j ∧ x = nI j2 ∧ (1 ≤ q ∧ q ≤ 9)) ∧ cn j < 4 ∧ kFx (upd (M.2.1 13) (4 * j + cn j) 0) (va_up cn j (cn j + 1)) (fun k => (cmI (M.2.1 22) nV) (M.1 24) ((va_up nm (4 * j + cn j) j2) k)) (nJ (upd (M.2.1 13) (4 * j + cn j) 0) (va_up cn j (cn j + 1)) (fun k => (cmI (M.2.1 22) nV) (M.1 24) ((va_up nm (4 * j + cn j) j2) k)) 2) nt ∧ (z.2.1 0 = ad 0 ∧ cAll dd (M.1, va_up (va_up (va_up (va_up M.2.1 13 (upd (M.2.1 13) (4 * j + cn j) 0)) 14 (upd (M.2.1 14) (4 * j + cn j) (nI j2))) 15 (upd (M.2.1 15) (4 * j + cn j) q)) 12 (upd (M.2.1 12) j (nI (cn j + 1))), M.2.2) nR nC nt nL nW nV nM (va_up cn j (cn j + 1)) (va_up nm (4 * j + cn j) j2) mn me li rl (M.1 24) z) ∧ r = nI (nJ (upd (M.2.1 13) (4 * j + cn j) 0) (va_up cn j (cn j + 1)) (fun k => (cmI (M.2.1 22) nV) (M.1 24) ((va_up nm (4 * j + cn j) j2) k)) 2 j))) v9 z.1 ∧ z.2 = xJ dd wx f0 v9.toInt64) ∨ (r9 = 1 ∧ (z.1.2.1 0 = ad 0 ∧ cAll dd M nR nC nt nL nW nV nM cn nm mn me li rl (M.1 24) z.1) ∧ ¬ ((∃ j, j < nt ∧ v = nI j) ∧ (∃ j, j < nt ∧ x = nI j)) ∧ z.2 = wx) ∨ (r9 = 2 ∧ (z.1.2.1 0 = ad 0 ∧ cAll dd M nR nC nt nL nW nV nM cn nm mn me li rl (M.1 24) z.1) ∧ (((∃ j, j < nt ∧ v = nI j) ∧ (∃ j, j < nt ∧ x = nI j)) ∧ ¬ (1 ≤ q ∧ q ≤ 9)) ∧ z.2 = wx) ∨ (r9 = 3 ∧ (z.1.2.1 0 = ad 0 ∧ cAll dd M nR nC nt nL nW nV nM cn nm mn me li rl (M.1 24) z.1) ∧ (∃ j, ∃ j2, (j < nt ∧ j2 < nt ∧ v = nI j ∧ x = nI j2 ∧ (1 ≤ q ∧ q ≤ 9)) ∧ cn j = 4) ∧ z.2 = wx) ∨ (r9 = 4 ∧ (∃ j, ∃ j2, (j < nt ∧ j2 < nt ∧ v = nI j ∧ x = nI j2 ∧ (1 ≤ q ∧ q ≤ 9)) ∧ cn j < 4 ∧ ¬ kFx (upd (M.2.1 13) (4 * j + cn j) 0) (va_up cn j (cn j + 1)) (fun k => (cmI (M.2.1 22) nV) (M.1 24) ((va_up nm (4 * j + cn j) j2) k)) (nJ (upd (M.2.1 13) (4 * j + cn j) 0) (va_up cn j (cn j + 1)) (fun k => (cmI (M.2.1 22) nV) (M.1 24) ((va_up nm (4 * j + cn j) j2) k)) 2) nt ∧ (z.1.2.1 0 = ad 0 ∧ cAll dd (M.1, va_up (va_up (va_up (va_up M.2.1 13 (upd (M.2.1 13) (4 * j + cn j) 0)) 14 (upd (M.2.1 14) (4 * j + cn j) (nI j2))) 15 (upd (M.2.1 15) (4 * j + cn j) q)) 12 (upd (M.2.1 12) j (nI (cn j + 1))), M.2.2) nR nC nt nL nW nV nM cn (va_up nm (4 * j + cn j) j2) mn me li rl (M.1 24) z.1)) ∧ z.2 = wx)) (hq : (fun (r : Int32) (z : mS) => (¬ ((∃ j, j < nt ∧ v = nI j) ∧ (∃ j, j < nt ∧ x = nI j)) ∧ mT M 1 = z ∧ r = 0) ∨ (((∃ j, j < nt ∧ v = nI j) ∧ (∃ j, j < nt ∧ x = nI j)) ∧ ¬ (1 ≤ q ∧ q ≤ 9) ∧ mT M 2 = z ∧ r = 0) ∨ ∃ j, ∃ j2, (j < nt ∧ j2 < nt ∧ v = nI j ∧ x = nI j2 ∧ (1 ≤ q ∧ q ≤ 9)) ∧ ((cn j = 4 ∧ mT M 3 = z ∧ r = 0) ∨ ∃ X, (cn j < 4 ∧ ¬ (∀ k, k < nt → mD (upd (M.2.1 13) (4 * j + cn j) 0) (va_up cn j (cn j + 1)) (fun k => (cmI (M.2.1 22) nV (M.1 24)) ((va_up nm (4 * j + cn j) j2) k)) nt (M.2.1 30) 3 k ≤ 3) ∧ (va_up (va_up M.1 0 0) 0 4, va_up (va_up (va_up (va_up (va_up (va_up M.2.1 13 (upd (M.2.1 13) (4 * j + cn j) 0)) 14 (upd (M.2.1 14) (4 * j + cn j) (nI j2))) 15 (upd (M.2.1 15) (4 * j + cn j) q)) 12 (upd (M.2.1 12) j (nI (cn j + 1)))) 30 (mD (upd (M.2.1 13) (4 * j + cn j) 0) (va_up cn j (cn j + 1)) (fun k => (cmI (M.2.1 22) nV (M.1 24)) ((va_up nm (4 * j + cn j) j2) k)) nt (M.2.1 30) 3)) 12 (upd (upd (M.2.1 12) j (nI (cn j + 1))) j (nI (cn j))), va_up M.2.2 33 X) = z ∧ r = 0) ∨ (cn j < 4 ∧ (∀ k, k < nt → mD (upd (M.2.1 13) (4 * j + cn j) 0) (va_up cn j (cn j + 1)) (fun k => (cmI (M.2.1 22) nV (M.1 24)) ((va_up nm (4 * j + cn j) j2) k)) nt (M.2.1 30) 3 k ≤ 3) ∧ (va_up M.1 0 0, va_up (va_up (va_up (va_up (va_up M.2.1 13 (upd (M.2.1 13) (4 * j + cn j) 0)) 14 (upd (M.2.1 14) (4 * j + cn j) (nI j2))) 15 (upd (M.2.1 15) (4 * j + cn j) q)) 12 (upd (M.2.1 12) j (nI (cn j + 1)))) 30 (mD (upd (M.2.1 13) (4 * j + cn j) 0) (va_up cn j (cn j + 1)) (fun k => (cmI (M.2.1 22) nV (M.1 24)) ((va_up nm (4 * j + cn j) j2) k)) nt (M.2.1 30) 3), va_up M.2.2 33 X) = z ∧ r = mD (upd (M.2.1 13) (4 * j + cn j) 0) (va_up cn j (cn j + 1)) (fun k => (cmI (M.2.1 22) nV (M.1 24)) ((va_up nm (4 * j + cn j) j2) k)) nt (M.2.1 30) 3 j))) b9 M2) : M2.1 0 = r9 ∧ (r9 = 0 → z.2 = xJ dd wx f0 b9.toInt64) ∧ (¬ r9 = 0 → z.2 = wx) ∧ LWS dd z.1 M2 (ad 0) := by
  have bb := rI_b hI
  rcases hp with ⟨rfl, v9, ⟨j, j2, ⟨hj, hj2, rfl, rfl, hqq⟩, hc, hfx, ⟨h0, hA⟩, rfl⟩, hz2⟩ | ⟨rfl, ⟨h0, hA⟩, c1, hz2⟩ | ⟨rfl, ⟨h0, hA⟩, c1, hz2⟩ | ⟨rfl, ⟨h0, hA⟩, ⟨j, j2, ⟨hj, hj2, rfl, rfl, hqq⟩, hc⟩, hz2⟩ | ⟨rfl, ⟨j, j2, ⟨hj, hj2, rfl, rfl, hqq⟩, hc, hnf, ⟨h0, hA⟩⟩, hz2⟩
  · rcases hq with ⟨hno, rfl, -⟩ | ⟨hex, hnq, rfl, -⟩ | ⟨i, i2, ⟨hi, hi2, e, e2, hq2⟩, ⟨hc2, rfl, -⟩ | ⟨X9, ⟨hc2, hal, rfl, -⟩ | ⟨hc2, hal, rfl, rfl⟩⟩⟩
    · exact absurd ⟨⟨_, hj, rfl⟩, ⟨_, hj2, rfl⟩⟩ hno
    · exact absurd hqq hnq
    · obtain rfl := nI_inj (by omega) (by omega) e
      obtain rfl := nI_inj (by omega) (by omega) e2
      omega
    · obtain rfl := nI_inj (by omega) (by omega) e
      obtain rfl := nI_inj (by omega) (by omega) e2
      exact absurd ((al_iff (rI_pval hI hj hj2)).mpr hfx) hal
    · obtain rfl := nI_inj (by omega) (by omega) e
      obtain rfl := nI_inj (by omega) (by omega) e2
      exact ⟨rfl, fun _ => by rw [hz2, dep_eq (rI_pval hI hj hj2) hfx _ hj], fun h => absurd rfl h, LWS_any (rI_comp hI hj ⟨Int32.le_trans (by decide) hqq.1, Int32.le_trans hqq.2 (by decide)⟩ hc (Or.inl ⟨rfl, hj2⟩) hfx) rfl hA h0 (fun _ _ _ => rfl) (fun _ _ => rfl) (fun k hk => va_up_ne _ _ hk)⟩
  · rcases hq with ⟨hno, rfl, -⟩ | ⟨hex, hnq, rfl, -⟩ | ⟨i, i2, ⟨hi, hi2, e, e2, hq2⟩, ⟨hc2, rfl, -⟩ | ⟨X9, ⟨hc2, hal, rfl, -⟩ | ⟨hc2, hal, rfl, rfl⟩⟩⟩
    · exact ⟨rfl, fun h => absurd h (by decide), fun _ => hz2, LWS_same hI hA h0 zz2 (fun _ _ => rfl)⟩
    · exact absurd hex c1
    · exact absurd ⟨⟨_, hi, e⟩, ⟨_, hi2, e2⟩⟩ c1
    · exact absurd ⟨⟨_, hi, e⟩, ⟨_, hi2, e2⟩⟩ c1
    · exact absurd ⟨⟨_, hi, e⟩, ⟨_, hi2, e2⟩⟩ c1
  · rcases hq with ⟨hno, rfl, -⟩ | ⟨hex, hnq, rfl, -⟩ | ⟨i, i2, ⟨hi, hi2, e, e2, hq2⟩, ⟨hc2, rfl, -⟩ | ⟨X9, ⟨hc2, hal, rfl, -⟩ | ⟨hc2, hal, rfl, rfl⟩⟩⟩
    · exact absurd c1.1 hno
    · exact ⟨rfl, fun h => absurd h (by decide), fun _ => hz2, LWS_same hI hA h0 zz2 (fun _ _ => rfl)⟩
    · exact absurd hq2 c1.2
    · exact absurd hq2 c1.2
    · exact absurd hq2 c1.2
  · rcases hq with ⟨hno, rfl, -⟩ | ⟨hex, hnq, rfl, -⟩ | ⟨i, i2, ⟨hi, hi2, e, e2, hq2⟩, ⟨hc2, rfl, -⟩ | ⟨X9, ⟨hc2, hal, rfl, -⟩ | ⟨hc2, hal, rfl, rfl⟩⟩⟩
    · exact absurd ⟨⟨_, hj, rfl⟩, ⟨_, hj2, rfl⟩⟩ hno
    · exact absurd hqq hnq
    · obtain rfl := nI_inj (by omega) (by omega) e
      obtain rfl := nI_inj (by omega) (by omega) e2
      exact ⟨rfl, fun h => absurd h (by decide), fun _ => hz2, LWS_same hI hA h0 zz2 (fun _ _ => rfl)⟩
    · obtain rfl := nI_inj (by omega) (by omega) e
      obtain rfl := nI_inj (by omega) (by omega) e2
      omega
    · obtain rfl := nI_inj (by omega) (by omega) e
      obtain rfl := nI_inj (by omega) (by omega) e2
      omega
  · rcases hq with ⟨hno, rfl, -⟩ | ⟨hex, hnq, rfl, -⟩ | ⟨i, i2, ⟨hi, hi2, e, e2, hq2⟩, ⟨hc2, rfl, -⟩ | ⟨X9, ⟨hc2, hal, rfl, -⟩ | ⟨hc2, hal, rfl, rfl⟩⟩⟩
    · exact absurd ⟨⟨_, hj, rfl⟩, ⟨_, hj2, rfl⟩⟩ hno
    · exact absurd hqq hnq
    · obtain rfl := nI_inj (by omega) (by omega) e
      obtain rfl := nI_inj (by omega) (by omega) e2
      omega
    · obtain rfl := nI_inj (by omega) (by omega) e
      obtain rfl := nI_inj (by omega) (by omega) e2
      exact ⟨rfl, fun h => absurd h (by decide), fun _ => hz2, LWS_any (rI_part0 hI hj hj2 hc) rfl hA h0 (fun k _ h12 => by show va_up _ 12 _ k = va_up _ 12 _ k; rw [va_up_ne _ _ h12, va_up_ne _ _ h12]) (fun _ _ => rfl) z12⟩
    · obtain rfl := nI_inj (by omega) (by omega) e
      obtain rfl := nI_inj (by omega) (by omega) e2
      exact absurd ((al_iff (rI_pval hI hj hj2)).mp hal) hnf

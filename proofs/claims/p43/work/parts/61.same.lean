/-! THE TWO WORLDS SAY THE SAME: what is kept, and values -/
def LWS (dd : kDD) (c : kT) (M : mS) (xa : Nat) : Prop := ∃ (nR nC nt nL nW nV nM : Nat) (cn nm mn me li rl : Nat → Nat), rI M nR nC nt nL nW nV nM cn nm mn me li rl (M.1 24) ∧ cAll dd M nR nC nt nL nW nV nM cn nm mn me li rl (M.1 24) c ∧ c.2.1 0 = xa
section
variable {dd : kDD} {M : mS} {nR nC nt nL nW nV nM : Nat} {cn nm mn me li rl : Nat → Nat} {M2 : mS} {c : kT} {on : Int32} {xa : Nat}
theorem rI_same (hI : rI M nR nC nt nL nW nV nM cn nm mn me li rl (M.1 24)) (h1 : ∀ k, k ≠ 0 → M2.1 k = M.1 k) (h2 : ∀ k, k ≠ 30 → M2.2.1 k = M.2.1 k) : rI M2 nR nC nt nL nW nV nM cn nm mn me li rl (M2.1 24) := by
  unfold rI cB at hI ⊢
  rw [h1 1 (by decide), h1 6 (by decide), h1 10 (by decide), h1 16 (by decide), h1 18 (by decide), h1 21 (by decide), h1 25 (by decide), h1 24 (by decide), h2 12 (by decide), h2 14 (by decide), h2 7 (by decide), h2 8 (by decide), h2 13 (by decide), h2 17 (by decide), h2 19 (by decide), h2 22 (by decide), h2 23 (by decide), h2 5 (by decide), h2 2 (by decide), h2 11 (by decide), h2 15 (by decide), h2 9 (by decide)]
  exact hI
theorem cAll_same (h : cAll dd M nR nC nt nL nW nV nM cn nm mn me li rl on c) (h2 : ∀ k, k ≠ 30 → M2.2.1 k = M.2.1 k) : cAll dd M2 nR nC nt nL nW nV nM cn nm mn me li rl on c := by
  unfold cAll cR cC cT cL cW cV cM at h ⊢
  rw [h2 2 (by decide), h2 3 (by decide), h2 4 (by decide), h2 5 (by decide), h2 9 (by decide), h2 11 (by decide), h2 13 (by decide), h2 15 (by decide), h2 19 (by decide), h2 20 (by decide), h2 22 (by decide), h2 23 (by decide), h2 26 (by decide), h2 27 (by decide)]
  exact h
theorem LWS_same (hI : rI M nR nC nt nL nW nV nM cn nm mn me li rl (M.1 24)) (hA : cAll dd M nR nC nt nL nW nV nM cn nm mn me li rl (M.1 24) c) (h0 : c.2.1 0 = xa) (h1 : ∀ k, k ≠ 0 → M2.1 k = M.1 k) (h2 : ∀ k, k ≠ 30 → M2.2.1 k = M.2.1 k) : LWS dd c M2 xa :=
  ⟨nR, nC, nt, nL, nW, nV, nM, cn, nm, mn, me, li, rl, rI_same hI h1 h2, by rw [h1 24 (by decide)]; exact cAll_same hA h2, h0⟩
theorem z24 {o a : Int32} {F : Nat → Int32} : ∀ k, k ≠ 0 → (va_up (va_up (va_up F 0 a) 24 o) 24 (F 24)) k = F k := by
  intro k hk
  by_cases c : k = 24
  · subst c; exact va_up_self _ _ _
  · rw [va_up_ne _ _ c, va_up_ne _ _ c, va_up_ne _ _ hk]
theorem z24b {o a d : Int32} {F : Nat → Int32} : ∀ k, k ≠ 0 → (va_up (va_up (va_up (va_up F 0 a) 24 o) 24 (F 24)) 0 d) k = F k := fun k hk => (va_up_ne _ _ hk).trans (z24 k hk)
theorem z24c {o a d : Int32} {F : Nat → Int32} : ∀ k, k ≠ 0 → (va_up (va_up (va_up (va_up F 0 a) 24 o) 0 d) 24 (F 24)) k = F k := by
  intro k hk
  by_cases c : k = 24
  · subst c; exact va_up_self _ _ _
  · rw [va_up_ne _ _ c, va_up_ne _ _ hk, va_up_ne _ _ c, va_up_ne _ _ hk]
theorem zz2 {a d : Int32} {F : Nat → Int32} : ∀ k, k ≠ 0 → (va_up (va_up F 0 a) 0 d) k = F k := fun k hk => (va_up_ne _ _ hk).trans (va_up_ne _ _ hk)
theorem rI_v (hI : rI M nR nC nt nL nW nV nM cn nm mn me li rl (M.1 24)) (o : Int32) : vH M nR nt nL cn nm mn me li (cmI (M.2.1 22) nV o) (cmI (M.2.1 23) nV o) := by
  obtain ⟨⟨iR, bR⟩, ⟨iC, bC⟩, ⟨iT, bT⟩, ⟨iL, bL⟩, ⟨iW, bW⟩, ⟨iV, bV⟩, ⟨iM, bM⟩, ⟨-, on9, hon, eon⟩, hcn, hnm, hmn, hm0, hme, hs2, hli, hB, hpk, hki, htr, hun, hnu, hfx⟩ := hI
  refine ⟨bR, bT, fun i hi k hk => ⟨?_, hun i hi k hk, fun hs => ?_, fun hs => ?_, fun hs q hq => ?_⟩, fun l hl => ((rI_mI hB bT o _).1 (hB.2.2.1 l hl)).2⟩
  · rcases hB.1 i hi k hk with h | h | h
    · exact Or.inl h.1
    · exact Or.inr (Or.inl h.1)
    · exact Or.inr (Or.inr h.1)
  · rcases hB.1 i hi k hk with h | h | h
    · exact ((rI_mI hB bT o _).1 h.2).2
    · exact absurd (hs.symm.trans h.1) (by decide)
    · exact absurd (hs.symm.trans h.1) (by decide)
  · rcases hB.1 i hi k hk with h | h | h
    · exact absurd (hs.symm.trans h.1) (by decide)
    · exact ((rI_mR hB bR o _).1 h.2).2
    · exact absurd (hs.symm.trans h.1) (by decide)
  · rcases hB.1 i hi k hk with h | h | h
    · exact absurd (hs.symm.trans h.1) (by decide)
    · exact absurd (hs.symm.trans h.1) (by decide)
    · exact ⟨((rI_mR hB bR o _).1 (hB.2.1 _ h.2 q hq)).2, hnu _ h.2 q hq⟩
theorem rI_val (hI : rI M nR nC nt nL nW nV nM cn nm mn me li rl (M.1 24)) (o : Int32) : ∀ i, i < nt → ∀ k, k < cn i → M.2.1 13 (4 * i + k) = 0 → cmI (M.2.1 22) nV o (nm (4 * i + k)) < nt := fun i hi k hk hs => ((rI_v hI o).2.2.1 i hi k hk).2.2.1 hs
theorem rI_fx (hI : rI M nR nC nt nL nW nV nM cn nm mn me li rl (M.1 24)) : kFx (M.2.1 13) cn (fun k => cmI (M.2.1 22) nV (M.1 24) (nm k)) (nJ (M.2.1 13) cn (fun k => cmI (M.2.1 22) nV (M.1 24) (nm k)) 2) nt := by
  obtain ⟨⟨iR, bR⟩, ⟨iC, bC⟩, ⟨iT, bT⟩, ⟨iL, bL⟩, ⟨iW, bW⟩, ⟨iV, bV⟩, ⟨iM, bM⟩, ⟨-, on9, hon, eon⟩, hcn, hnm, hmn, hm0, hme, hs2, hli, hB, hpk, hki, htr, hun, hnu, hfx⟩ := hI
  exact hfx
theorem rI_ki (hI : rI M nR nC nt nL nW nV nM cn nm mn me li rl (M.1 24)) : ∀ r, r < nR → M.2.1 2 r = 0 ∨ M.2.1 2 r = 1 ∨ M.2.1 2 r = 2 := by
  obtain ⟨⟨iR, bR⟩, ⟨iC, bC⟩, ⟨iT, bT⟩, ⟨iL, bL⟩, ⟨iW, bW⟩, ⟨iV, bV⟩, ⟨iM, bM⟩, ⟨-, on9, hon, eon⟩, hcn, hnm, hmn, hm0, hme, hs2, hli, hB, hpk, hki, htr, hun, hnu, hfx⟩ := hI
  exact hki
theorem rI_tr (hI : rI M nR nC nt nL nW nV nM cn nm mn me li rl (M.1 24)) : ∀ i, i < nt → 0 ≤ M.2.1 11 i ∧ M.2.1 11 i ≤ 5 := by
  obtain ⟨⟨iR, bR⟩, ⟨iC, bC⟩, ⟨iT, bT⟩, ⟨iL, bL⟩, ⟨iW, bW⟩, ⟨iV, bV⟩, ⟨iM, bM⟩, ⟨-, on9, hon, eon⟩, hcn, hnm, hmn, hm0, hme, hs2, hli, hB, hpk, hki, htr, hun, hnu, hfx⟩ := hI
  exact htr
theorem rI_b (hI : rI M nR nC nt nL nW nV nM cn nm mn me li rl (M.1 24)) : nR ≤ 12 ∧ nC ≤ 4 ∧ nt ≤ 12 ∧ nL ≤ 10 ∧ nW ≤ 40 ∧ nV ≤ 4 ∧ nM ≤ 4 := by
  obtain ⟨⟨iR, bR⟩, ⟨iC, bC⟩, ⟨iT, bT⟩, ⟨iL, bL⟩, ⟨iW, bW⟩, ⟨iV, bV⟩, ⟨iM, bM⟩, ⟨-, on9, hon, eon⟩, hcn, hnm, hmn, hm0, hme, hs2, hli, hB, hpk, hki, htr, hun, hnu, hfx⟩ := hI
  exact ⟨bR, bC, bT, bL, bW, bV, bM⟩
theorem nI_inj {a b : Nat} (ha : a < 1000) (hb : b < 1000) (h : nI a = nI b) : a = b := (nI_eq (by omega) (by omega)).mp h
theorem mk_congr {a b : Nat → Int64} (h : ∀ r, r < nR → a r = b r) : mmk (M.2.1 27) (M.2.1 26) (fun k => mkd (M.2.1 2) a (M.2.1 3) (nI k) nR) (mex a (M.2.1 4) (M.2.1 5) (M.2.1 3) nR) nM = mmk (M.2.1 27) (M.2.1 26) (fun k => mkd (M.2.1 2) b (M.2.1 3) (nI k) nR) (mex b (M.2.1 4) (M.2.1 5) (M.2.1 3) nR) nM := by
  rw [mex_congr nR h, show (fun k => mkd (M.2.1 2) a (M.2.1 3) (nI k) nR) = (fun k => mkd (M.2.1 2) b (M.2.1 3) (nI k) nR) from funext fun k => mkd_congr nR h]
theorem kin_iff {v : Int32} : (v = 0 ∨ v = 1 ∨ v = 2) ↔ (0 ≤ v ∧ v ≤ 2) := by
  constructor
  · rintro (rfl | rfl | rfl) <;> decide
  · rintro ⟨a, b⟩
    obtain ⟨m, hm, rfl⟩ := nI_of (Int32.not_lt.mpr a)
    have := (nI_leI (a := m) (b := 2) (by omega) (by omega)).mp b
    have h : m = 0 ∨ m = 1 ∨ m = 2 := by omega
    rcases h with rfl | rfl | rfl
    · exact Or.inl rfl
    · exact Or.inr (Or.inl rfl)
    · exact Or.inr (Or.inr rfl)
theorem td_m1 {v : Int32} (h : 0 ≤ v ∧ v ≤ 5) : ¬ v = -1 := fun e => by rw [e] at h; exact absurd h.1 (by decide)
theorem mq_c2 {rl ms : Nat → Int32} {j n : Nat} : mq rl ms (nI j) n = mq rl ms (nI j) n := rfl
/-- turning a variant -/
theorem bit_off : ∀ (o : Fin 16) (j : Fin 4), nI o.1 >>> (nI j.1 &&& 31) &&& 1 = 1 → nI o.1 &&& (((1 : Int32) <<< (nI j.1 &&& 31)) ^^^ -1) = nI o.1 ^^^ ((1 : Int32) <<< (nI j.1 &&& 31)) := by decide +kernel
theorem bit_on : ∀ (o : Fin 16) (j : Fin 4), ¬ nI o.1 >>> (nI j.1 &&& 31) &&& 1 = 1 → nI o.1 ||| ((1 : Int32) <<< (nI j.1 &&& 31)) = nI o.1 ^^^ ((1 : Int32) <<< (nI j.1 &&& 31)) := by decide +kernel
theorem bit_off0 : ∀ (o : Fin 16) (j : Fin 4), ¬ nI o.1 >>> (nI j.1 &&& 31) &&& 1 = 1 → nI o.1 &&& (((1 : Int32) <<< (nI j.1 &&& 31)) ^^^ -1) = nI o.1 := by decide +kernel
theorem bit_on0 : ∀ (o : Fin 16) (j : Fin 4), nI o.1 >>> (nI j.1 &&& 31) &&& 1 = 1 → nI o.1 ||| ((1 : Int32) <<< (nI j.1 &&& 31)) = nI o.1 := by decide +kernel
theorem bit_lt : ∀ (V : Fin 5) (o : Fin 16) (j : Fin 4), o.1 < 2 ^ V.1 → j.1 < V.1 → ∃ o2 : Fin 16, o2.1 < 2 ^ V.1 ∧ nI o.1 ^^^ ((1 : Int32) <<< (nI j.1 &&& 31)) = nI o2.1 := by decide +kernel
theorem rI_turn {j : Nat} {D : Nat → Int32} {X : Nat → Int64} (hI : rI M nR nC nt nL nW nV nM cn nm mn me li rl (M.1 24)) (hj : j < nV) (hfx2 : kFx (M.2.1 13) cn (fun k => cmI (M.2.1 22) nV ((M.1 24) ^^^ ((1 : Int32) <<< (nI j &&& 31))) (nm k)) (nJ (M.2.1 13) cn (fun k => cmI (M.2.1 22) nV ((M.1 24) ^^^ ((1 : Int32) <<< (nI j &&& 31))) (nm k)) 2) nt) : rI (va_up (va_up M.1 0 0) 24 ((M.1 24) ^^^ ((1 : Int32) <<< (nI j &&& 31))), va_up M.2.1 30 D, va_up M.2.2 33 X) nR nC nt nL nW nV nM cn nm mn me li rl ((M.1 24) ^^^ ((1 : Int32) <<< (nI j &&& 31))) := by
  obtain ⟨⟨iR, bR⟩, ⟨iC, bC⟩, ⟨iT, bT⟩, ⟨iL, bL⟩, ⟨iW, bW⟩, ⟨iV, bV⟩, ⟨iM, bM⟩, ⟨-, on9, hon, eon⟩, hcn, hnm, hmn, hm0, hme, hs2, hli, hB, hpk, hki, htr, hun, hnu, hfx⟩ := hI
  have hon16 : on9 < 16 := by have h := Nat.pow_le_pow_right (n := 2) (by omega) bV; omega
  obtain ⟨o2, h1, h2⟩ := bit_lt ⟨nV, by omega⟩ ⟨on9, hon16⟩ ⟨j, by omega⟩ hon hj
  exact ⟨⟨iR, bR⟩, ⟨iC, bC⟩, ⟨iT, bT⟩, ⟨iL, bL⟩, ⟨iW, bW⟩, ⟨iV, bV⟩, ⟨iM, bM⟩, ⟨rfl, o2.1, h1, by rw [eon]; exact h2⟩, hcn, hnm, hmn, hm0, hme, hs2, hli, hB, hpk, hki, htr, hun, hnu, hfx2⟩
end

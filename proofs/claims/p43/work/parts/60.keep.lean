/-! WHAT HOLDS BETWEEN CALLS stays, call by call -/
theorem kFx_nJ {so : Nat → Int32} {cn nx dep : Nat → Nat} {nt : Nat} (h : kFx so cn nx dep nt) : kFx so cn nx (nJ so cn nx 2) nt := by
  have e : ∀ i, i < nt → nJ so cn nx 2 i = dep i := fun i hi => (kFx_J h 2 i hi).2 (by have := (h i hi).1.2; omega)
  intro i hi
  obtain ⟨a, b, c⟩ := h i hi
  rw [e i hi]
  refine ⟨a, fun k hk hs => ⟨(b k hk hs).1, by rw [e _ (b k hk hs).1]; exact (b k hk hs).2⟩, ?_⟩
  rcases c with c | ⟨k, hk, hs, c⟩
  · exact Or.inl c
  · exact Or.inr ⟨k, hk, hs, by rw [e _ (b k hk hs).1]; exact c⟩
theorem kFx_congr {so so2 : Nat → Int32} {cn cn2 nx nx2 dep : Nat → Nat} {nt : Nat} (h : kFx so cn nx dep nt) (h1 : ∀ i, i < nt → ∀ k, (k < cn2 i ∧ so2 (4 * i + k) = 0) ↔ (k < cn i ∧ so (4 * i + k) = 0)) (h2 : ∀ i, i < nt → ∀ k, k < cn i → so (4 * i + k) = 0 → nx2 (4 * i + k) = nx (4 * i + k)) : kFx so2 cn2 nx2 dep nt := by
  intro i hi
  obtain ⟨a, b, c⟩ := h i hi
  refine ⟨a, fun k hk hs => ?_, ?_⟩
  · obtain ⟨q1, q2⟩ := (h1 i hi k).mp ⟨hk, hs⟩
    rw [h2 i hi k q1 q2]; exact b k q1 q2
  · rcases c with c | ⟨k, hk, hs, c⟩
    · exact Or.inl c
    · obtain ⟨q1, q2⟩ := (h1 i hi k).mpr ⟨hk, hs⟩
      exact Or.inr ⟨k, q1, q2, by rw [h2 i hi k hk hs]; exact c⟩
theorem cB_mono {M : mS} {nR nC nt nL nW nV : Nat} {cn nm mn me li rl : Nat → Nat} {M2 : mS} {nR2 nC2 nt2 nL2 nW2 nV2 : Nat} {cn2 li2 rl2 mn2 : Nat → Nat} (hB : cB M nR nC nt nL nW nV cn nm mn me li rl) (e13 : M2.2.1 13 = M.2.1 13) (e19 : M2.2.1 19 = M.2.1 19) (e22 : M2.2.1 22 = M.2.1 22) (e23 : M2.2.1 23 = M.2.1 23) (hR : nR ≤ nR2) (hC : nC ≤ nC2) (ht : nt ≤ nt2) (hL : nL ≤ nL2) (hW : nW2 = nW) (hV : nV2 = nV)
    (hcn : ∀ i, i < nt2 → ∀ k, k < cn2 i → i < nt ∧ k < cn i) (hmn : ∀ c, c < nC2 → ∀ q, q < mn2 c → c < nC ∧ q < mn c) (hli : ∀ l, l < nL2 → (l < nL ∧ li2 l = li l) ∨ li2 l < nt2) (hrl : ∀ k, k < nW → rl2 k = rl k) : cB M2 nR2 nC2 nt2 nL2 nW2 nV2 cn2 nm mn2 me li2 rl2 := by
  obtain ⟨b1, b2, b3, b4, b5⟩ := hB
  subst hW
  subst hV
  unfold cB
  rw [e13, e19, e22, e23]
  refine ⟨fun i hi k hk => ?_, fun c hc q hq => ?_, fun l hl => ?_, fun k hk => ?_, fun v hv k hk => ?_⟩
  · obtain ⟨q1, q2⟩ := hcn i hi k hk
    rcases b1 i q1 k q2 with q | q | q
    · exact Or.inl ⟨q.1, by omega⟩
    · exact Or.inr (Or.inl ⟨q.1, by omega⟩)
    · exact Or.inr (Or.inr ⟨q.1, by omega⟩)
  · obtain ⟨q1, q2⟩ := hmn c hc q hq
    have := b2 c q1 q q2; omega
  · rcases hli l hl with ⟨q, e⟩ | q
    · rw [e]; have := b3 l q; omega
    · exact q
  · rw [hrl k hk]; exact ⟨by have := (b4 k hk).1; omega, (b4 k hk).2⟩
  · obtain ⟨q1, q2⟩ := b5 v hv k hk
    exact ⟨q1.imp id (fun ⟨x, hx, e⟩ => ⟨x, by omega, e⟩), q2.imp id (fun ⟨x, hx, e⟩ => ⟨x, by omega, e⟩)⟩
theorem rI_addResource {M : mS} {nR nC nt nL nW nV nM : Nat} {cn nm mn me li rl : Nat → Nat} {k p w q : Int32} (hI : rI M nR nC nt nL nW nV nM cn nm mn me li rl (M.1 24)) (hk : k = 0 ∨ k = 1 ∨ k = 2) (hq : 1 ≤ q ∧ q ≤ 99) (hn : nR < 12) : rI (va_up (va_up M.1 0 0) 1 (nI (nR + 1)), va_up (va_up (va_up (va_up M.2.1 2 (upd (M.2.1 2) nR k)) 3 (upd (M.2.1 3) nR p)) 4 (upd (M.2.1 4) nR w)) 5 (upd (M.2.1 5) nR q), M.2.2) (nR + 1) nC nt nL nW nV nM cn nm mn me li rl (M.1 24) := by
  obtain ⟨⟨iR, bR⟩, ⟨iC, bC⟩, ⟨iT, bT⟩, ⟨iL, bL⟩, ⟨iW, bW⟩, ⟨iV, bV⟩, ⟨iM, bM⟩, ⟨-, on9, hon, eon⟩, hcn, hnm, hmn, hm0, hme, hs2, hli, hB, hpk, hki, htr, hun, hnu, hfx⟩ := hI
  refine ⟨⟨rfl, by omega⟩, ⟨iC, bC⟩, ⟨iT, bT⟩, ⟨iL, bL⟩, ⟨iW, bW⟩, ⟨iV, bV⟩, ⟨iM, bM⟩, ⟨rfl, on9, hon, eon⟩, hcn, hnm, hmn, hm0, hme, hs2, hli, ?_, fun r hr => ?_, fun r hr => ?_, htr, hun, hnu, hfx⟩
  · exact cB_mono hB rfl rfl rfl rfl (by omega) (by omega) (by omega) (by omega) rfl rfl (fun i hi k hk => ⟨hi, hk⟩) (fun c hc q hq => ⟨hc, hq⟩) (fun l hl => Or.inl ⟨hl, rfl⟩) (fun _ _ => rfl)
  · show 1 ≤ upd (M.2.1 5) nR q r
    rcases Nat.lt_succ_iff_lt_or_eq.mp hr with c | c
    · rw [upd_ne (by omega)]; exact hpk r c
    · rw [c, upd_at]; exact hq.1
  · show upd (M.2.1 2) nR k r = 0 ∨ upd (M.2.1 2) nR k r = 1 ∨ upd (M.2.1 2) nR k r = 2
    rcases Nat.lt_succ_iff_lt_or_eq.mp hr with c | c
    · rw [upd_ne (by omega)]; exact hki r c
    · rw [c, upd_at]; exact hk
theorem rI_addCrew {M : mS} {nR nC nt nL nW nV nM : Nat} {cn nm mn me li rl : Nat → Nat} (hI : rI M nR nC nt nL nW nV nM cn nm mn me li rl (M.1 24)) (hn : nC < 4) : rI (va_up (va_up M.1 0 0) 6 (nI (nC + 1)), M.2) nR (nC + 1) nt nL nW nV nM cn nm mn me li rl (M.1 24) := by
  obtain ⟨⟨iR, bR⟩, ⟨iC, bC⟩, ⟨iT, bT⟩, ⟨iL, bL⟩, ⟨iW, bW⟩, ⟨iV, bV⟩, ⟨iM, bM⟩, ⟨-, on9, hon, eon⟩, hcn, hnm, hmn, hm0, hme, hs2, hli, hB, hpk, hki, htr, hun, hnu, hfx⟩ := hI
  refine ⟨⟨iR, bR⟩, ⟨rfl, by omega⟩, ⟨iT, bT⟩, ⟨iL, bL⟩, ⟨iW, bW⟩, ⟨iV, bV⟩, ⟨iM, bM⟩, ⟨rfl, on9, hon, eon⟩, hcn, hnm, hmn, fun i h1 h2 => hm0 i (by omega) h2, hme, hs2, hli, ?_, hpk, hki, htr, hun, fun i hi q hq => ?_, hfx⟩
  · exact cB_mono hB rfl rfl rfl rfl (by omega) (by omega) (by omega) (by omega) rfl rfl (fun i hi k hk => ⟨hi, hk⟩) (fun c hc q hq => ⟨by rcases Nat.lt_succ_iff_lt_or_eq.mp hc with y | y; exact y; rw [y, hm0 nC (by omega) hn] at hq; omega, hq⟩) (fun l hl => Or.inl ⟨hl, rfl⟩) (fun _ _ => rfl)
  · rcases Nat.lt_succ_iff_lt_or_eq.mp hi with c | c
    · exact hnu i c q hq
    · rw [c, hm0 nC (by omega) hn] at hq; omega
theorem rI_addMember {M : mS} {nR nC nt nL nW nV nM : Nat} {cn nm mn me li rl : Nat → Nat} {j x : Nat} {y : Int32} (hI : rI M nR nC nt nL nW nV nM cn nm mn me li rl (M.1 24)) (hj : j < nC) (hx : x < nR) (hy : 1 ≤ y ∧ y ≤ 9) (hn : mn j < 3) : rI (va_up M.1 0 0, va_up (va_up (va_up M.2.1 8 (upd (M.2.1 8) (3 * j + mn j) (nI x))) 9 (upd (M.2.1 9) (3 * j + mn j) y)) 7 (upd (M.2.1 7) j (nI (mn j + 1))), M.2.2) nR nC nt nL nW nV nM cn nm (va_up mn j (mn j + 1)) (va_up me (3 * j + mn j) x) li rl (M.1 24) := by
  obtain ⟨⟨iR, bR⟩, ⟨iC, bC⟩, ⟨iT, bT⟩, ⟨iL, bL⟩, ⟨iW, bW⟩, ⟨iV, bV⟩, ⟨iM, bM⟩, ⟨-, on9, hon, eon⟩, hcn, hnm, hmn, hm0, hme, hs2, hli, hB, hpk, hki, htr, hun, hnu, hfx⟩ := hI
  have ha : ∀ i, i < nC → ∀ q, q < va_up mn j (mn j + 1) i → (i = j ∧ q = mn j) ∨ (3 * i + q ≠ 3 * j + mn j ∧ q < mn i) := by
    intro i hi q hq
    have b3 := (hmn i (by omega)).2
    by_cases c : i = j
    · subst c; rw [va_up_self] at hq; by_cases e : q = mn i
      · exact Or.inl ⟨rfl, e⟩
      · exact Or.inr ⟨by omega, by omega⟩
    · rw [va_up_ne _ _ c] at hq; exact Or.inr ⟨by omega, hq⟩
  refine ⟨⟨iR, bR⟩, ⟨iC, bC⟩, ⟨iT, bT⟩, ⟨iL, bL⟩, ⟨iW, bW⟩, ⟨iV, bV⟩, ⟨iM, bM⟩, ⟨rfl, on9, hon, eon⟩, hcn, hnm, k_upc hmn (by omega), fun i h1 h2 => ?_, fun q hq => ?_, hs2, hli, ?_, hpk, hki, htr, hun, fun i hi q hq => ?_, hfx⟩
  · rw [va_up_ne _ _ (by omega)]; exact hm0 i h1 h2
  · show upd (M.2.1 8) (3 * j + mn j) (nI x) q = _ ∧ _
    by_cases c : q = 3 * j + mn j
    · subst c; rw [upd_at, va_up_self]; exact ⟨rfl, by omega⟩
    · rw [upd_ne c, va_up_ne _ _ c]; exact hme q hq
  · refine ⟨hB.1, fun c hc q hq => ?_, hB.2.2⟩
    rcases ha c hc q hq with ⟨rfl, rfl⟩ | ⟨h1, h2⟩
    · rw [va_up_self]; exact hx
    · rw [va_up_ne _ _ h1]; exact hB.2.1 c hc q h2
  · show 0 ≤ upd (M.2.1 9) (3 * j + mn j) y (3 * i + q) ∧ upd (M.2.1 9) (3 * j + mn j) y (3 * i + q) ≤ 9
    rcases ha i hi q hq with ⟨rfl, rfl⟩ | ⟨h1, h2⟩
    · rw [upd_at]; exact ⟨Int32.le_trans (by decide) hy.1, hy.2⟩
    · rw [upd_ne h1]; exact hnu i hi q h2
theorem rI_addItem {M : mS} {nR nC nt nL nW nV nM : Nat} {cn nm mn me li rl : Nat → Nat} {t : Int32} (hI : rI M nR nC nt nL nW nV nM cn nm mn me li rl (M.1 24)) (ht : 0 ≤ t ∧ t ≤ 5) (hn : nt < 12) : rI (va_up (va_up M.1 0 0) 10 (nI (nt + 1)), va_up (va_up M.2.1 11 (upd (M.2.1 11) nt t)) 12 (upd (M.2.1 12) nt 0), M.2.2) nR nC (nt + 1) nL nW nV nM (va_up cn nt 0) nm mn me li rl (M.1 24) := by
  obtain ⟨⟨iR, bR⟩, ⟨iC, bC⟩, ⟨iT, bT⟩, ⟨iL, bL⟩, ⟨iW, bW⟩, ⟨iV, bV⟩, ⟨iM, bM⟩, ⟨-, on9, hon, eon⟩, hcn, hnm, hmn, hm0, hme, hs2, hli, hB, hpk, hki, htr, hun, hnu, hfx⟩ := hI
  have hc : ∀ i, i < nt + 1 → ∀ k, k < va_up cn nt 0 i → i < nt ∧ k < cn i := by
    intro i hi k hk
    by_cases c : i = nt
    · rw [c, va_up_self] at hk; omega
    · rw [va_up_ne _ _ c] at hk; exact ⟨by omega, hk⟩
  refine ⟨⟨iR, bR⟩, ⟨iC, bC⟩, ⟨rfl, by omega⟩, ⟨iL, bL⟩, ⟨iW, bW⟩, ⟨iV, bV⟩, ⟨iM, bM⟩, ⟨rfl, on9, hon, eon⟩, fun i hi => ?_, hnm, hmn, hm0, hme, hs2, hli, ?_, hpk, hki, fun i hi => ?_, fun i hi k hk => ?_, hnu, ?_⟩
  · show upd (M.2.1 12) nt 0 i = _ ∧ _
    by_cases c : i = nt
    · rw [c, upd_at, va_up_self]; exact ⟨rfl, by omega⟩
    · rw [upd_ne c, va_up_ne _ _ c]; exact hcn i hi
  · exact cB_mono hB rfl rfl rfl rfl (by omega) (by omega) (by omega) (by omega) rfl rfl hc (fun c hc q hq => ⟨hc, hq⟩) (fun l hl => Or.inl ⟨hl, rfl⟩) (fun _ _ => rfl)
  · show 0 ≤ upd (M.2.1 11) nt t i ∧ upd (M.2.1 11) nt t i ≤ 5
    by_cases c : i = nt
    · rw [c, upd_at]; exact ht
    · rw [upd_ne c]; exact htr i (by omega)
  · exact hun i (hc i hi k hk).1 k (hc i hi k hk).2
  · have hd : ∀ i, i < nt → (if i = nt then 1 else nJ (M.2.1 13) cn (fun k => cmI (M.2.1 22) nV (M.1 24) (nm k)) 2 i) = nJ (M.2.1 13) cn (fun k => cmI (M.2.1 22) nV (M.1 24) (nm k)) 2 i := fun i hi => if_neg (by omega)
    have key : kFx (M.2.1 13) (va_up cn nt 0) (fun k => cmI (M.2.1 22) nV (M.1 24) (nm k)) (fun i => if i = nt then 1 else nJ (M.2.1 13) cn (fun k => cmI (M.2.1 22) nV (M.1 24) (nm k)) 2 i) (nt + 1) := by
      intro i hi
      by_cases c : i = nt
      · refine ⟨by show 1 ≤ ite _ _ _ ∧ ite _ _ _ ≤ 3; rw [if_pos c]; omega, fun k hk => absurd (hc i hi k hk).1 (by omega), Or.inl (if_pos c)⟩
      · have hlt : i < nt := by omega
        obtain ⟨a1, a2, a3⟩ := hfx i hlt
        have hci : va_up cn nt 0 i = cn i := va_up_ne _ _ c
        refine ⟨by show 1 ≤ ite _ _ _ ∧ ite _ _ _ ≤ 3; rw [hd i hlt]; exact a1, fun k hk hs => ?_, ?_⟩
        · rw [hci] at hk
          obtain ⟨q1, q2⟩ := a2 k hk hs
          refine ⟨Nat.lt_succ_of_lt q1, ?_⟩
          show ite _ _ _ < ite _ _ _
          rw [hd i hlt, hd _ q1]; exact q2
        · rcases a3 with a3 | ⟨k, hk, hs, a3⟩
          · exact Or.inl (by show ite _ _ _ = 1; rw [hd i hlt]; exact a3)
          · refine Or.inr ⟨k, by rw [hci]; exact hk, hs, ?_⟩
            show ite _ _ _ = 1 + ite _ _ _
            rw [hd i hlt, hd _ (a2 k hk hs).1]; exact a3
    exact kFx_nJ key
theorem rI_addLine {M : mS} {nR nC nt nL nW nV nM : Nat} {cn nm mn me li rl : Nat → Nat} {j : Nat} (hI : rI M nR nC nt nL nW nV nM cn nm mn me li rl (M.1 24)) (hj : j < nt) (hn : nL < 10) : rI (va_up (va_up M.1 0 0) 16 (nI (nL + 1)), va_up M.2.1 17 (upd (M.2.1 17) nL (nI j)), M.2.2) nR nC nt (nL + 1) nW nV nM cn nm mn me (va_up li nL j) rl (M.1 24) := by
  obtain ⟨⟨iR, bR⟩, ⟨iC, bC⟩, ⟨iT, bT⟩, ⟨iL, bL⟩, ⟨iW, bW⟩, ⟨iV, bV⟩, ⟨iM, bM⟩, ⟨-, on9, hon, eon⟩, hcn, hnm, hmn, hm0, hme, hs2, hli, hB, hpk, hki, htr, hun, hnu, hfx⟩ := hI
  refine ⟨⟨iR, bR⟩, ⟨iC, bC⟩, ⟨iT, bT⟩, ⟨rfl, by omega⟩, ⟨iW, bW⟩, ⟨iV, bV⟩, ⟨iM, bM⟩, ⟨rfl, on9, hon, eon⟩, hcn, hnm, hmn, hm0, hme, hs2, fun l hl => ?_, ?_, hpk, hki, htr, hun, hnu, hfx⟩
  · show upd (M.2.1 17) nL (nI j) l = _ ∧ _
    by_cases c : l = nL
    · rw [c, upd_at, va_up_self]; exact ⟨rfl, by omega⟩
    · rw [upd_ne c, va_up_ne _ _ c]; exact hli l hl
  · refine cB_mono hB rfl rfl rfl rfl (by omega) (by omega) (by omega) (by omega) rfl rfl (fun i hi k hk => ⟨hi, hk⟩) (fun c hc q hq => ⟨hc, hq⟩) (fun l hl => ?_) (fun _ _ => rfl)
    by_cases c : l = nL
    · right; rw [c, va_up_self]; exact hj
    · left; exact ⟨by omega, va_up_ne _ _ c⟩
theorem rI_addMarkup {M : mS} {nR nC nt nL nW nV nM : Nat} {cn nm mn me li rl : Nat → Nat} {p q : Int32} (hI : rI M nR nC nt nL nW nV nM cn nm mn me li rl (M.1 24)) (hn : nM < 4) : rI (va_up (va_up M.1 0 0) 25 (nI (nM + 1)), va_up (va_up M.2.1 26 (upd (M.2.1 26) nM p)) 27 (upd (M.2.1 27) nM q), M.2.2) nR nC nt nL nW nV (nM + 1) cn nm mn me li rl (M.1 24) := by
  obtain ⟨⟨iR, bR⟩, ⟨iC, bC⟩, ⟨iT, bT⟩, ⟨iL, bL⟩, ⟨iW, bW⟩, ⟨iV, bV⟩, ⟨iM, bM⟩, ⟨-, on9, hon, eon⟩, hcn, hnm, hmn, hm0, hme, hs2, hli, hB, hpk, hki, htr, hun, hnu, hfx⟩ := hI
  exact ⟨⟨iR, bR⟩, ⟨iC, bC⟩, ⟨iT, bT⟩, ⟨iL, bL⟩, ⟨iW, bW⟩, ⟨iV, bV⟩, ⟨rfl, by omega⟩, ⟨rfl, on9, hon, eon⟩, hcn, hnm, hmn, hm0, hme, hs2, hli, hB, hpk, hki, htr, hun, hnu, hfx⟩
theorem rI_addRow {M : mS} {nR nC nt nL nW nV nM : Nat} {cn nm mn me li rl : Nat → Nat} {j : Nat} {x : Int32} (hI : rI M nR nC nt nL nW nV nM cn nm mn me li rl (M.1 24)) (hj : j < nL) (hn : nW < 40) : rI (va_up (va_up M.1 0 0) 18 (nI (nW + 1)), va_up (va_up M.2.1 19 (upd (M.2.1 19) nW (nI j))) 20 (upd (M.2.1 20) nW x), M.2.2) nR nC nt nL (nW + 1) nV nM cn nm mn me li (va_up rl nW j) (M.1 24) := by
  obtain ⟨⟨iR, bR⟩, ⟨iC, bC⟩, ⟨iT, bT⟩, ⟨iL, bL⟩, ⟨iW, bW⟩, ⟨iV, bV⟩, ⟨iM, bM⟩, ⟨-, on9, hon, eon⟩, hcn, hnm, hmn, hm0, hme, hs2, hli, hB, hpk, hki, htr, hun, hnu, hfx⟩ := hI
  refine ⟨⟨iR, bR⟩, ⟨iC, bC⟩, ⟨iT, bT⟩, ⟨iL, bL⟩, ⟨rfl, by omega⟩, ⟨iV, bV⟩, ⟨iM, bM⟩, ⟨rfl, on9, hon, eon⟩, hcn, hnm, hmn, hm0, hme, hs2, hli, ⟨hB.1, hB.2.1, hB.2.2.1, fun k hk => ?_, hB.2.2.2.2⟩, hpk, hki, htr, hun, hnu, hfx⟩
  show va_up rl nW j k < nL ∧ upd (M.2.1 19) nW (nI j) k = nI (va_up rl nW j k)
  by_cases c : k = nW
  · rw [c, upd_at, va_up_self]; exact ⟨hj, rfl⟩
  · rw [upd_ne c, va_up_ne _ _ c]; exact hB.2.2.2.1 k (by omega)
theorem rI_dropRow {M : mS} {nR nC nt nL nW nV nM : Nat} {cn nm mn me li rl : Nat → Nat} {j : Nat} (hI : rI M nR nC nt nL nW nV nM cn nm mn me li rl (M.1 24)) (hj : j < nW) : rI (va_up (va_up M.1 0 0) 18 (nI (nW - 1)), va_up (va_up M.2.1 19 (mshift (M.2.1 19) j (nW - 1))) 20 (mshift (M.2.1 20) j (nW - 1)), M.2.2) nR nC nt nL (nW - 1) nV nM cn nm mn me li (fun k => rl (rsh j k)) (M.1 24) := by
  obtain ⟨⟨iR, bR⟩, ⟨iC, bC⟩, ⟨iT, bT⟩, ⟨iL, bL⟩, ⟨iW, bW⟩, ⟨iV, bV⟩, ⟨iM, bM⟩, ⟨-, on9, hon, eon⟩, hcn, hnm, hmn, hm0, hme, hs2, hli, hB, hpk, hki, htr, hun, hnu, hfx⟩ := hI
  refine ⟨⟨iR, bR⟩, ⟨iC, bC⟩, ⟨iT, bT⟩, ⟨iL, bL⟩, ⟨rfl, by omega⟩, ⟨iV, bV⟩, ⟨iM, bM⟩, ⟨rfl, on9, hon, eon⟩, hcn, hnm, hmn, hm0, hme, hs2, hli, ⟨hB.1, hB.2.1, hB.2.2.1, fun k hk => ?_, hB.2.2.2.2⟩, hpk, hki, htr, hun, hnu, hfx⟩
  show rl (rsh j k) < nL ∧ mshift (M.2.1 19) j (nW - 1) k = nI (rl (rsh j k))
  have h := hB.2.2.2.1 (rsh j k) (by have := rsh_le (j := j) (k := k); omega)
  refine ⟨h.1, ?_⟩
  rw [← h.2]
  unfold mshift rsh
  by_cases c : k < j
  · rw [if_pos c, if_neg (by omega)]
  · rw [if_neg c, if_pos ⟨by omega, by omega⟩]
theorem mnt_fill {on : Int32} {tab : Nat → Int32} {j N : Nat} (hj : j < 12) : ∀ k v, v + k = N → mnt on (mfill tab (12 * N) 12) j (k + 1) v = mnt on tab j k v := by
  intro k
  induction k with
  | zero =>
    intro v hv
    show (if on >>> (nI v &&& 31) &&& 1 = 1 ∧ ¬ mfill tab (12 * N) 12 (12 * v + j) = -1 then mfill tab (12 * N) 12 (12 * v + j) else mnt on (mfill tab (12 * N) 12) j 0 (v + 1)) = nI j
    rw [if_neg (fun q => q.2 (by unfold mfill; rw [if_pos ⟨by omega, by omega⟩]))]; rfl
  | succ k ih =>
    intro v hv
    rw [mnt, mnt.eq_2 on tab, ih (v + 1) (by omega), show mfill tab (12 * N) 12 (12 * v + j) = tab (12 * v + j) from if_neg (by omega)]
theorem rI_addVariant {M : mS} {nR nC nt nL nW nV nM : Nat} {cn nm mn me li rl : Nat → Nat} (hI : rI M nR nC nt nL nW nV nM cn nm mn me li rl (M.1 24)) (hn : nV < 4) : rI (va_up (va_up M.1 0 0) 21 (nI (nV + 1)), va_up (va_up M.2.1 22 (mfill (M.2.1 22) (12 * nV) 12)) 23 (mfill (M.2.1 23) (12 * nV) 12), M.2.2) nR nC nt nL nW (nV + 1) nM cn nm mn me li rl (M.1 24) := by
  obtain ⟨⟨iR, bR⟩, ⟨iC, bC⟩, ⟨iT, bT⟩, ⟨iL, bL⟩, ⟨iW, bW⟩, ⟨iV, bV⟩, ⟨iM, bM⟩, ⟨-, on9, hon, eon⟩, hcn, hnm, hmn, hm0, hme, hs2, hli, hB, hpk, hki, htr, hun, hnu, hfx⟩ := hI
  refine ⟨⟨iR, bR⟩, ⟨iC, bC⟩, ⟨iT, bT⟩, ⟨iL, bL⟩, ⟨iW, bW⟩, ⟨rfl, by omega⟩, ⟨iM, bM⟩, ⟨rfl, on9, by rw [Nat.pow_succ]; omega, eon⟩, hcn, hnm, hmn, hm0, hme, hs2, hli, ⟨hB.1, hB.2.1, hB.2.2.1, hB.2.2.2.1, fun v hv k hk => ?_⟩, hpk, hki, htr, hun, hnu, ?_⟩
  · show (mfill (M.2.1 22) (12 * nV) 12 (12 * v + k) = -1 ∨ ∃ x, x < nt ∧ mfill (M.2.1 22) (12 * nV) 12 (12 * v + k) = nI x) ∧ (mfill (M.2.1 23) (12 * nV) 12 (12 * v + k) = -1 ∨ ∃ x, x < nR ∧ mfill (M.2.1 23) (12 * nV) 12 (12 * v + k) = nI x)
    unfold mfill
    by_cases c : v = nV
    · rw [if_pos ⟨by omega, by omega⟩, if_pos ⟨by omega, by omega⟩]; exact ⟨Or.inl rfl, Or.inl rfl⟩
    · rw [if_neg (by omega), if_neg (by omega)]; exact hB.2.2.2.2 v (by omega) k hk
  · refine kFx_nJ (kFx_congr hfx (fun _ _ _ => Iff.rfl) (fun i hi k hk hs => ?_))
    show cmI (mfill (M.2.1 22) (12 * nV) 12) (nV + 1) (M.1 24) (nm (4 * i + k)) = cmI (M.2.1 22) nV (M.1 24) (nm (4 * i + k))
    unfold cmI
    rw [mnt_fill (hnm _ (by have := (hcn i (by omega)).2; omega)).2 nV 0 (by omega)]
theorem mnt_off {on x : Int32} {tab : Nat → Int32} {j v0 a : Nat} (hj : j < 12) (ha : a < 12) (hb : ¬ on >>> (nI v0 &&& 31) &&& 1 = 1) : ∀ k v, mnt on (upd tab (12 * v0 + a) x) j k v = mnt on tab j k v := by
  intro k
  induction k with
  | zero => intro v; rfl
  | succ k ih =>
    intro v
    rw [mnt, mnt.eq_2 on tab, ih (v + 1)]
    by_cases c : v = v0
    · subst c; rw [if_neg (fun q => hb q.1), if_neg (fun q => hb q.1)]
    · rw [upd_ne (by omega)]
theorem rI_replaceItem {M : mS} {nR nC nt nL nW nV nM : Nat} {cn nm mn me li rl : Nat → Nat} {v a b : Nat} (hI : rI M nR nC nt nL nW nV nM cn nm mn me li rl (M.1 24)) (hv : v < nV) (ha : a < nt) (hb : b < nt) (hoff : ¬ M.1 24 >>> (nI v &&& 31) &&& 1 = 1) : rI (va_up M.1 0 0, va_up M.2.1 22 (upd (M.2.1 22) (12 * v + a) (nI b)), M.2.2) nR nC nt nL nW nV nM cn nm mn me li rl (M.1 24) := by
  obtain ⟨⟨iR, bR⟩, ⟨iC, bC⟩, ⟨iT, bT⟩, ⟨iL, bL⟩, ⟨iW, bW⟩, ⟨iV, bV⟩, ⟨iM, bM⟩, ⟨-, on9, hon, eon⟩, hcn, hnm, hmn, hm0, hme, hs2, hli, hB, hpk, hki, htr, hun, hnu, hfx⟩ := hI
  refine ⟨⟨iR, bR⟩, ⟨iC, bC⟩, ⟨iT, bT⟩, ⟨iL, bL⟩, ⟨iW, bW⟩, ⟨iV, bV⟩, ⟨iM, bM⟩, ⟨rfl, on9, hon, eon⟩, hcn, hnm, hmn, hm0, hme, hs2, hli, ⟨hB.1, hB.2.1, hB.2.2.1, hB.2.2.2.1, fun w hw k hk => ⟨?_, (hB.2.2.2.2 w hw k hk).2⟩⟩, hpk, hki, htr, hun, hnu, ?_⟩
  · show upd (M.2.1 22) (12 * v + a) (nI b) (12 * w + k) = -1 ∨ ∃ x, x < nt ∧ upd (M.2.1 22) (12 * v + a) (nI b) (12 * w + k) = nI x
    by_cases c : 12 * w + k = 12 * v + a
    · rw [c, upd_at]; exact Or.inr ⟨b, hb, rfl⟩
    · rw [upd_ne c]; exact (hB.2.2.2.2 w hw k hk).1
  · refine kFx_nJ (kFx_congr hfx (fun _ _ _ => Iff.rfl) (fun i hi k hk hs => ?_))
    show cmI (upd (M.2.1 22) (12 * v + a) (nI b)) nV (M.1 24) (nm (4 * i + k)) = cmI (M.2.1 22) nV (M.1 24) (nm (4 * i + k))
    unfold cmI
    rw [mnt_off (hnm _ (by have := (hcn i (by omega)).2; omega)).2 (by omega) hoff]
theorem rI_replaceResource {M : mS} {nR nC nt nL nW nV nM : Nat} {cn nm mn me li rl : Nat → Nat} {v a b : Nat} (hI : rI M nR nC nt nL nW nV nM cn nm mn me li rl (M.1 24)) (hv : v < nV) (ha : a < nR) (hb : b < nR) : rI (va_up M.1 0 0, va_up M.2.1 23 (upd (M.2.1 23) (12 * v + a) (nI b)), M.2.2) nR nC nt nL nW nV nM cn nm mn me li rl (M.1 24) := by
  obtain ⟨⟨iR, bR⟩, ⟨iC, bC⟩, ⟨iT, bT⟩, ⟨iL, bL⟩, ⟨iW, bW⟩, ⟨iV, bV⟩, ⟨iM, bM⟩, ⟨-, on9, hon, eon⟩, hcn, hnm, hmn, hm0, hme, hs2, hli, hB, hpk, hki, htr, hun, hnu, hfx⟩ := hI
  refine ⟨⟨iR, bR⟩, ⟨iC, bC⟩, ⟨iT, bT⟩, ⟨iL, bL⟩, ⟨iW, bW⟩, ⟨iV, bV⟩, ⟨iM, bM⟩, ⟨rfl, on9, hon, eon⟩, hcn, hnm, hmn, hm0, hme, hs2, hli, ⟨hB.1, hB.2.1, hB.2.2.1, hB.2.2.2.1, fun w hw k hk => ⟨(hB.2.2.2.2 w hw k hk).1, ?_⟩⟩, hpk, hki, htr, hun, hnu, hfx⟩
  show upd (M.2.1 23) (12 * v + a) (nI b) (12 * w + k) = -1 ∨ ∃ x, x < nR ∧ upd (M.2.1 23) (12 * v + a) (nI b) (12 * w + k) = nI x
  by_cases c : 12 * w + k = 12 * v + a
  · rw [c, upd_at]; exact Or.inr ⟨b, hb, rfl⟩
  · rw [upd_ne c]; exact (hB.2.2.2.2 w hw k hk).2
theorem nmx_mono {so : Nat → Int32} {g h : Nat → Nat} {b n m : Nat} (hnm : n ≤ m) (hgh : ∀ k, g k ≤ h k) : nmx so g b n ≤ nmx so h b m := nmx_le n (fun k hk hs => Nat.le_trans (hgh _) (nmx_ge (g := h) m k (by omega) hs))
theorem nJ_mono {so : Nat → Int32} {cn cn2 nx : Nat → Nat} (h : ∀ i, cn2 i ≤ cn i) : ∀ t i, nJ so cn2 nx t i ≤ nJ so cn nx t i := by
  intro t
  induction t with
  | zero => intro i; exact Nat.le_refl _
  | succ t ih => intro i; exact Nat.add_le_add_left (nmx_mono (h i) (fun k => ih _)) 1
theorem rI_dropLast {M : mS} {nR nC nt nL nW nV nM : Nat} {cn nm mn me li rl : Nat → Nat} {j : Nat} (hI : rI M nR nC nt nL nW nV nM cn nm mn me li rl (M.1 24)) (hj : j < nt) (hc : 0 < cn j) : rI (va_up M.1 0 0, va_up M.2.1 12 (upd (M.2.1 12) j (nI (cn j - 1))), M.2.2) nR nC nt nL nW nV nM (va_up cn j (cn j - 1)) nm mn me li rl (M.1 24) := by
  obtain ⟨⟨iR, bR⟩, ⟨iC, bC⟩, ⟨iT, bT⟩, ⟨iL, bL⟩, ⟨iW, bW⟩, ⟨iV, bV⟩, ⟨iM, bM⟩, ⟨-, on9, hon, eon⟩, hcn, hnm, hmn, hm0, hme, hs2, hli, hB, hpk, hki, htr, hun, hnu, hfx⟩ := hI
  have le : ∀ i, va_up cn j (cn j - 1) i ≤ cn i := by
    intro i
    by_cases c : i = j
    · subst c; rw [va_up_self]; omega
    · rw [va_up_ne _ _ c]; exact Nat.le_refl _
  have lt : ∀ i k, k < va_up cn j (cn j - 1) i → k < cn i := fun i k hk => Nat.lt_of_lt_of_le hk (le i)
  refine ⟨⟨iR, bR⟩, ⟨iC, bC⟩, ⟨iT, bT⟩, ⟨iL, bL⟩, ⟨iW, bW⟩, ⟨iV, bV⟩, ⟨iM, bM⟩, ⟨rfl, on9, hon, eon⟩, fun i hi => ?_, hnm, hmn, hm0, hme, hs2, hli, ?_, hpk, hki, htr, fun i hi k hk => hun i hi k (lt i k hk), hnu, ?_⟩
  · show upd (M.2.1 12) j (nI (cn j - 1)) i = _ ∧ _
    by_cases c : i = j
    · subst c; rw [upd_at, va_up_self]; exact ⟨rfl, by have := (hcn i hi).2; omega⟩
    · rw [upd_ne c, va_up_ne _ _ c]; exact hcn i hi
  · exact cB_mono hB rfl rfl rfl rfl (by omega) (by omega) (by omega) (by omega) rfl rfl (fun i hi k hk => ⟨hi, lt i k hk⟩) (fun c hc q hq => ⟨hc, hq⟩) (fun l hl => Or.inl ⟨hl, rfl⟩) (fun _ _ => rfl)
  · refine kFx_of (fun i hi k hk hs => ((hfx i hi).2.1 k (lt i k hk) hs).1) (fun i hi => ?_)
    have h1 := nJ_mono (so := (M.2.1 13)) (nx := fun k => cmI (M.2.1 22) nV (M.1 24) (nm k)) le 3 i
    have h2 := (kFx_J hfx 3 i hi).1
    have h3 := (hfx i hi).1.2
    exact Nat.le_trans h1 (Nat.le_trans h2 h3)
theorem rI_comp {M : mS} {nR nC nt nL nW nV nM : Nat} {cn nm mn me li rl : Nat → Nat} {j x : Nat} {q s : Int32} (hI : rI M nR nC nt nL nW nV nM cn nm mn me li rl (M.1 24)) (hj : j < nt) (hq : 0 ≤ q ∧ q ≤ 99) (hc : cn j < 4) (hv : (s = 0 ∧ x < nt) ∨ (s = 1 ∧ x < nR) ∨ (s = 2 ∧ x < nC)) (hfx2 : kFx (upd (M.2.1 13) (4 * j + cn j) s) (va_up cn j (cn j + 1)) (fun k => cmI (M.2.1 22) nV (M.1 24) (va_up nm (4 * j + cn j) x k)) (nJ (upd (M.2.1 13) (4 * j + cn j) s) (va_up cn j (cn j + 1)) (fun k => cmI (M.2.1 22) nV (M.1 24) (va_up nm (4 * j + cn j) x k)) 2) nt) :
    rI (va_up M.1 0 0, va_up (va_up (va_up (va_up M.2.1 13 (upd (M.2.1 13) (4 * j + cn j) s)) 14 (upd (M.2.1 14) (4 * j + cn j) (nI x))) 15 (upd (M.2.1 15) (4 * j + cn j) q)) 12 (upd (M.2.1 12) j (nI (cn j + 1))), M.2.2) nR nC nt nL nW nV nM (va_up cn j (cn j + 1)) (va_up nm (4 * j + cn j) x) mn me li rl (M.1 24) := by
  obtain ⟨⟨iR, bR⟩, ⟨iC, bC⟩, ⟨iT, bT⟩, ⟨iL, bL⟩, ⟨iW, bW⟩, ⟨iV, bV⟩, ⟨iM, bM⟩, ⟨-, on9, hon, eon⟩, hcn, hnm, hmn, hm0, hme, hs2, hli, hB, hpk, hki, htr, hun, hnu, hfx⟩ := hI
  have hx12 : x < 12 := by rcases hv with h | h | h <;> omega
  have hx4 : s = 2 → x < 4 := by rcases hv with h | h | h <;> intro e <;> first | omega | (rw [h.1] at e; exact absurd e (by decide))
  refine ⟨⟨iR, bR⟩, ⟨iC, bC⟩, ⟨iT, bT⟩, ⟨iL, bL⟩, ⟨iW, bW⟩, ⟨iV, bV⟩, ⟨iM, bM⟩, ⟨rfl, on9, hon, eon⟩, k_upc hcn (by omega), fun k hk => ?_, hmn, hm0, hme, fun k hk hs => ?_, hli, cB_addc (M2 := (va_up M.1 0 0, va_up (va_up (va_up (va_up M.2.1 13 (upd (M.2.1 13) (4 * j + cn j) s)) 14 (upd (M.2.1 14) (4 * j + cn j) (nI x))) 15 (upd (M.2.1 15) (4 * j + cn j) q)) 12 (upd (M.2.1 12) j (nI (cn j + 1))), M.2.2)) hB hv (fun i hi => (hcn i (by omega)).2) hj hc rfl rfl rfl rfl, hpk, hki, htr, fun i hi k hk => ?_, hnu, hfx2⟩
  · show upd (M.2.1 14) (4 * j + cn j) (nI x) k = _ ∧ _
    by_cases c : k = (4 * j + cn j)
    · rw [c, upd_at, va_up_self]; exact ⟨rfl, hx12⟩
    · rw [upd_ne c, va_up_ne _ _ c]; exact hnm k hk
  · replace hs : upd (M.2.1 13) (4 * j + cn j) s k = 2 := hs
    by_cases c : k = (4 * j + cn j)
    · rw [c, upd_at] at hs; rw [c, va_up_self]; exact hx4 hs
    · rw [upd_ne c] at hs; rw [va_up_ne _ _ c]; exact hs2 k hk hs
  · show 0 ≤ upd (M.2.1 15) (4 * j + cn j) q (4 * i + k) ∧ upd (M.2.1 15) (4 * j + cn j) q (4 * i + k) ≤ 99
    by_cases c : 4 * i + k = (4 * j + cn j)
    · rw [c, upd_at]; exact hq
    · rw [upd_ne c]
      refine hun i hi k ?_
      by_cases e : i = j
      · subst e; rw [va_up_self] at hk; omega
      · rw [va_up_ne _ _ e] at hk; exact hk
/-- a use or a work makes nothing deeper -/
theorem rI_use {M : mS} {nR nC nt nL nW nV nM : Nat} {cn nm mn me li rl : Nat → Nat} {j x : Nat} {q s : Int32} (hI : rI M nR nC nt nL nW nV nM cn nm mn me li rl (M.1 24)) (hj : j < nt) (hq : 1 ≤ q ∧ q ≤ 99) (hc : cn j < 4) (hv : (s = 1 ∧ x < nR) ∨ (s = 2 ∧ x < nC)) :
    rI (va_up M.1 0 0, va_up (va_up (va_up (va_up M.2.1 13 (upd (M.2.1 13) (4 * j + cn j) s)) 14 (upd (M.2.1 14) (4 * j + cn j) (nI x))) 15 (upd (M.2.1 15) (4 * j + cn j) q)) 12 (upd (M.2.1 12) j (nI (cn j + 1))), M.2.2) nR nC nt nL nW nV nM (va_up cn j (cn j + 1)) (va_up nm (4 * j + cn j) x) mn me li rl (M.1 24) := by
  refine rI_comp hI hj ⟨Int32.le_trans (by decide) hq.1, hq.2⟩ hc (Or.inr hv) ?_
  obtain ⟨⟨iR, bR⟩, ⟨iC, bC⟩, ⟨iT, bT⟩, ⟨iL, bL⟩, ⟨iW, bW⟩, ⟨iV, bV⟩, ⟨iM, bM⟩, ⟨-, on9, hon, eon⟩, hcn, hnm, hmn, hm0, hme, hs2, hli, hB, hpk, hki, htr, hun, hnu, hfx⟩ := hI
  have hs : ¬ s = 0 := by rcases hv with h | h <;> rw [h.1] <;> decide
  refine kFx_nJ (kFx_congr hfx (fun i hi k => ?_) (fun i hi k hk hs0 => ?_))
  · have b4 := (hcn i (by omega)).2
    by_cases e : 4 * i + k = (4 * j + cn j)
    · rw [e, upd_at]
      constructor
      · intro y; exact absurd y.2 hs
      · rintro ⟨y, -⟩
        have : i = j := by omega
        subst this; omega
    · rw [upd_ne e]
      by_cases e2 : i = j
      · subst e2; rw [va_up_self]
        constructor
        · rintro ⟨y, y2⟩; exact ⟨by omega, y2⟩
        · rintro ⟨y, y2⟩; exact ⟨by omega, y2⟩
      · rw [va_up_ne _ _ e2]
  · have b4 := (hcn i (by omega)).2
    show cmI (M.2.1 22) nV (M.1 24) (va_up nm (4 * j + cn j) x (4 * i + k)) = _
    by_cases e2 : i = j
    · subst e2; rw [va_up_ne _ _ (by omega)]
    · rw [va_up_ne _ _ (by omega)]
/-- a part that doesn't stay -/
theorem rI_part0 {M : mS} {nR nC nt nL nW nV nM : Nat} {cn nm mn me li rl : Nat → Nat} {j x : Nat} {q : Int32} (hI : rI M nR nC nt nL nW nV nM cn nm mn me li rl (M.1 24)) (hj : j < nt) (hx : x < nt) (hc : cn j < 4) :
    rI (va_up (va_up M.1 0 0) 0 4, va_up (va_up (va_up (va_up M.2.1 13 (upd (M.2.1 13) (4 * j + cn j) 0)) 14 (upd (M.2.1 14) (4 * j + cn j) (nI x))) 15 (upd (M.2.1 15) (4 * j + cn j) q)) 12 (upd (upd (M.2.1 12) j (nI (cn j + 1))) j (nI (cn j))), M.2.2) nR nC nt nL nW nV nM cn (va_up nm (4 * j + cn j) x) mn me li rl (M.1 24) := by
  obtain ⟨⟨iR, bR⟩, ⟨iC, bC⟩, ⟨iT, bT⟩, ⟨iL, bL⟩, ⟨iW, bW⟩, ⟨iV, bV⟩, ⟨iM, bM⟩, ⟨-, on9, hon, eon⟩, hcn, hnm, hmn, hm0, hme, hs2, hli, hB, hpk, hki, htr, hun, hnu, hfx⟩ := hI
  have ne : ∀ i, i < nt → ∀ k, k < cn i → 4 * i + k ≠ (4 * j + cn j) := by
    intro i hi k hk
    have b4 := (hcn i (by omega)).2
    by_cases e2 : i = j
    · subst e2; omega
    · omega
  refine ⟨⟨iR, bR⟩, ⟨iC, bC⟩, ⟨iT, bT⟩, ⟨iL, bL⟩, ⟨iW, bW⟩, ⟨iV, bV⟩, ⟨iM, bM⟩, ⟨rfl, on9, hon, eon⟩, fun i hi => ?_, fun k hk => ?_, hmn, hm0, hme, fun k hk hs => ?_, hli, ⟨fun i hi k hk => ?_, hB.2⟩, hpk, hki, htr, fun i hi k hk => ?_, hnu, ?_⟩
  · show upd (upd (M.2.1 12) j (nI (cn j + 1))) j (nI (cn j)) i = _ ∧ _
    by_cases c : i = j
    · subst c; rw [upd_at]; exact ⟨rfl, (hcn i hi).2⟩
    · rw [upd_ne c, upd_ne c]; exact hcn i hi
  · show upd (M.2.1 14) (4 * j + cn j) (nI x) k = _ ∧ _
    by_cases c : k = (4 * j + cn j)
    · rw [c, upd_at, va_up_self]; exact ⟨rfl, by omega⟩
    · rw [upd_ne c, va_up_ne _ _ c]; exact hnm k hk
  · replace hs : upd (M.2.1 13) (4 * j + cn j) 0 k = 2 := hs
    by_cases c : k = (4 * j + cn j)
    · rw [c, upd_at] at hs; exact absurd hs (by decide)
    · rw [upd_ne c] at hs; rw [va_up_ne _ _ c]; exact hs2 k hk hs
  · show (upd (M.2.1 13) (4 * j + cn j) 0 (4 * i + k) = 0 ∧ _) ∨ (upd (M.2.1 13) (4 * j + cn j) 0 (4 * i + k) = 1 ∧ _) ∨ (upd (M.2.1 13) (4 * j + cn j) 0 (4 * i + k) = 2 ∧ _)
    rw [upd_ne (ne i hi k hk), va_up_ne _ _ (ne i hi k hk)]; exact hB.1 i hi k hk
  · show 0 ≤ upd (M.2.1 15) (4 * j + cn j) q (4 * i + k) ∧ upd (M.2.1 15) (4 * j + cn j) q (4 * i + k) ≤ 99
    rw [upd_ne (ne i hi k hk)]; exact hun i hi k hk
  · refine kFx_nJ (kFx_congr hfx (fun i hi k => ?_) (fun i hi k hk hs0 => ?_))
    · show (k < cn i ∧ upd (M.2.1 13) (4 * j + cn j) 0 (4 * i + k) = 0) ↔ _
      constructor
      · rintro ⟨y, y2⟩; rw [upd_ne (ne i hi k y)] at y2; exact ⟨y, y2⟩
      · rintro ⟨y, y2⟩; rw [upd_ne (ne i hi k y)]; exact ⟨y, y2⟩
    · show cmI (M.2.1 22) nV (M.1 24) (va_up nm (4 * j + cn j) x (4 * i + k)) = _
      rw [va_up_ne _ _ (ne i hi k hk)]

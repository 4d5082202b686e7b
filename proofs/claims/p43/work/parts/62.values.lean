/-! P43: WHAT IS ASKED, AS NUMBERS: of the state M with the set o of variants on -/
def wvA (M : mS) (nR nC nt nL nW nV nM : Nat) (cn nm mn me li rl : Nat → Nat) (o : Int32) (r : Nat) : Int64 := cAm M nL nW cn nm mn me li (cmI (M.2.1 22) nV o) (cmI (M.2.1 23) nV o) r
def wvN (M : mS) (nR nC nt nL nW nV nM : Nat) (cn nm mn me li rl : Nat → Nat) (o : Int32) (i r : Nat) : Int64 := mN (M.2.1 13) (M.2.1 15) cn (fun k => (cmI (M.2.1 22) nV o) (nm k)) (mdir (M.2.1 13) (M.2.1 15) (M.2.1 9) (M.2.1 3) (M.2.1 11) cn nm mn (cmI (M.2.1 23) nV o) me (nI r) (-1)) 2 i
def wvL (M : mS) (nR nC nt nL nW nV nM : Nat) (cn nm mn me li rl : Nat → Nat) (o : Int32) (l : Nat) : Int64 := (mq (M.2.1 19) (M.2.1 20) (nI l) nW).toInt64 * cou (wvN M nR nC nt nL nW nV nM cn nm mn me li rl o ((cmI (M.2.1 22) nV o) (li l))) (M.2.1 3) nR
def wvR (M : mS) (nR nC nt nL nW nV nM : Nat) (cn nm mn me li rl : Nat → Nat) (o : Int32) (t : Int32) : Int64 := msumL (fun l => (mq (M.2.1 19) (M.2.1 20) (nI l) nW)) (fun l => mN (M.2.1 13) (M.2.1 15) cn (fun k => (cmI (M.2.1 22) nV o) (nm k)) (mdir (M.2.1 13) (M.2.1 15) (M.2.1 9) (M.2.1 3) (M.2.1 11) cn nm mn (cmI (M.2.1 23) nV o) me (-1) t) 2 ((cmI (M.2.1 22) nV o) (li l))) nL
def wvE (M : mS) (nR nC nt nL nW nV nM : Nat) (cn nm mn me li rl : Nat → Nat) (o : Int32) : Int64 := mex (wvA M nR nC nt nL nW nV nM cn nm mn me li rl o) (M.2.1 4) (M.2.1 5) (M.2.1 3) nR
def wvK (M : mS) (nR nC nt nL nW nV nM : Nat) (cn nm mn me li rl : Nat → Nat) (o : Int32) (its : Int32) : Int64 := mkd (M.2.1 2) (wvA M nR nC nt nL nW nV nM cn nm mn me li rl o) (M.2.1 3) its nR
def wvM (M : mS) (nR nC nt nL nW nV nM : Nat) (cn nm mn me li rl : Nat → Nat) (o : Int32) (j : Nat) : Int64 := mmk (M.2.1 27) (M.2.1 26) (fun b => mkd (M.2.1 2) (wvA M nR nC nt nL nW nV nM cn nm mn me li rl o) (M.2.1 3) (nI b) nR) (mex (wvA M nR nC nt nL nW nV nM cn nm mn me li rl o) (M.2.1 4) (M.2.1 5) (M.2.1 3) nR) nM j
def wvS (M : mS) (nR nC nt nL nW nV nM : Nat) (cn nm mn me li rl : Nat → Nat) (o : Int32) : Int64 := cou (wvA M nR nC nt nL nW nV nM cn nm mn me li rl o) (M.2.1 3) nR
def wvT (M : mS) (nR nC nt nL nW nV nM : Nat) (cn nm mn me li rl : Nat → Nat) (o : Int32) : Int64 := cTo M nR nM (wvA M nR nC nt nL nW nV nM cn nm mn me li rl o)
/-- what each thing costs -/
def wvC (M : mS) (nR nC nt nL nW nV nM : Nat) (cn nm mn me li rl : Nat → Nat) (o : Int32) (r : Nat) : Int64 := wvA M nR nC nt nL nW nV nM cn nm mn me li rl o r * ((M.2.1 3) r).toInt64
/-- the numbers stay small -/
def pX (M : mS) (nR nC nt nL nW nV nM : Nat) (cn nm mn me li rl : Nat → Nat) : Prop := (∀ r, r < nR → (0 ≤ M.2.1 3 r ∧ M.2.1 3 r ≤ 299) ∧ (0 ≤ M.2.1 4 r ∧ M.2.1 4 r ≤ 50) ∧ (1 ≤ M.2.1 5 r ∧ M.2.1 5 r ≤ 99)) ∧ (∀ i, i < nt → ∀ k, k < cn i → M.2.1 13 (4 * i + k) = 0 → M.2.1 15 (4 * i + k) ≤ 9) ∧ (∀ l, l < nL → 0 ≤ (mq (M.2.1 19) (M.2.1 20) (nI l) nW) ∧ (mq (M.2.1 19) (M.2.1 20) (nI l) nW) ≤ 10000) ∧ (∀ k, k < nM → 0 ≤ M.2.1 26 k ∧ M.2.1 26 k ≤ 50)
/-- the object in c is at xa and in state M -/
def LPo (dd : kDD) (c : kT) (M : mS) (nR nC nt nL nW nV nM : Nat) (cn nm mn me li rl : Nat → Nat) (xa : Nat) : Prop := rI M nR nC nt nL nW nV nM cn nm mn me li rl (M.1 24) ∧ pX M nR nC nt nL nW nV nM cn nm mn me li rl ∧ cAll dd M nR nC nt nL nW nV nM cn nm mn me li rl (M.1 24) c ∧ c.2.1 0 = xa
theorem LP_open {dd : kDD} {c : kT} {M : mS} {nR nC nt nL nW nV nM : Nat} {cn nm mn me li rl : Nat → Nat} {xa : Nat} (h : LPo dd c M nR nC nt nL nW nV nM cn nm mn me li rl xa) : ∃ (ks : List Nat) (ad : Nat → Nat) (E : Nat → va_E) (e : eS), (∀ j, j ∈ ks → j < 1000) ∧ cf c = (ks, ad, cE dd E e) ∧ ad 0 = xa ∧ rI M nR nC nt nL nW nV nM cn nm mn me li rl (M.1 24) ∧ pX M nR nC nt nL nW nV nM cn nm mn me li rl ∧ cO dd ks ad E (M.1 24) ∧ cR dd ks ad E M nR ∧ cC dd ks ad E M nC mn me ∧ cT dd ks ad E M nt cn nm ∧ cL dd ks ad E M nL nW li ∧ cW dd ks ad E M nW rl ∧ cV dd ks ad E M nV ∧ cM dd ks ad E M nM := by
  obtain ⟨hI, hX, hA, h0⟩ := h
  obtain ⟨F, e, he, hs⟩ := cAll_cf hA
  exact ⟨(cf c).1, c.2.1, F, e, fun j hj => (cf_mem.mp hj).2, by rw [← he]; rfl, h0, hI, hX, hs⟩
section
variable {dd : kDD} {ks : List Nat} {ad : Nat → Nat} {E : Nat → va_E} {M : mS} {nR nC nt nL nW nV nM : Nat} {cn nm mn me li rl : Nat → Nat}
theorem LP_mk (z : eS) (hI : rI M nR nC nt nL nW nV nM cn nm mn me li rl (M.1 24)) (hX : pX M nR nC nt nL nW nV nM cn nm mn me li rl) (hO : cO dd ks ad E (M.1 24)) (hR : cR dd ks ad E M nR) (hC : cC dd ks ad E M nC mn me) (hT : cT dd ks ad E M nt cn nm) (hL : cL dd ks ad E M nL nW li) (hW : cW dd ks ad E M nW rl) (hV : cV dd ks ad E M nV) (hM : cM dd ks ad E M nM) : LPo dd (ks, ad, cE dd E z) M nR nC nt nL nW nV nM cn nm mn me li rl (ad 0) := ⟨hI, hX, ⟨E, z, rfl, hO, hR, hC, hT, hL, hW, hV, hM⟩, rfl⟩
end
/-! the law's words -/
abbrev kHp : List Cond := [Cond.classLink RL 82 "java/lang/IndexOutOfBoundsException", Cond.classLink RL 84 "java/lang/IllegalArgumentException", Cond.classLink RL 86 "java/lang/IllegalStateException", Cond.classLink RL 88 "java/lang/UnsupportedOperationException", Cond.classLink RL 90 "java/lang/ArithmeticException", Cond.classLink RL 150 "java/util/NoSuchElementException"]
theorem goodIn_ext {Ts ws ex : List Cond} (h : GoodIn Ts ws) : GoodIn (Ts ++ ex) ws := fun w hw => ⟨List.mem_append_left _ (h w hw).1, (h w hw).2⟩
theorem cf_id {ks : List Nat} {ad : Nat → Nat} {E : Nat → va_E} (h : ∀ j, j ∈ ks → j < 1000) : cf (ks, ad, E) = (ks, ad, E) := by
  unfold cf
  rw [List.filter_eq_self.mpr (fun j hj => decide_eq_true (h j hj))]
theorem j_x0 {c r x : kT} : (2000 ∈ jk c r x ↔ 0 ∈ x.1) ∧ jd c r x 2000 = x.2.1 0 ∧ jE c r x 2000 = x.2.2 0 := j_x (j := 0) (by omega)
theorem j_c0 {c r x : kT} : (0 ∈ jk c r x ↔ 0 ∈ c.1) ∧ jd c r x 0 = c.2.1 0 ∧ jE c r x 0 = c.2.2 0 := j_c (j := 0) (by omega)
theorem kHp_good : ∀ w ∈ kHp, (w.onTables && w.keeps) = true := by decide +kernel
theorem gK {Ts pre w : List Cond} (h : GoodIn Ts (pre ++ w)) : GoodIn (Ts ++ kHp) (pre ++ (w ++ kHp)) := by
  intro x hx
  rw [← List.append_assoc] at hx
  rcases List.mem_append.mp hx with q | q
  · exact ⟨List.mem_append_left _ (h x q).1, (h x q).2⟩
  · exact ⟨List.mem_append_right _ q, Or.inl (kHp_good x q)⟩

theorem lcs {x : Int64} : lg_cmp x x = 0 := by
  unfold lg_cmp; rw [if_neg (Int64.lt_irrefl), if_pos rfl]
theorem fpds {x : UInt64} (h : vf_n64 x) : Op.cmpValue (FP.dcmp x x) .l = 0 := by
  have h1 : FP.Core.val64 x ≠ .nan := fp_nnb64 (fp_fvb64 h)
  show Op.cmpValue (FP.Core.dcmp x x) .l = 0
  rw [FP.Core.dcmp_self h1]; rfl
theorem jk_cf {c r x : kT} : jk (cf c) r x = jk c r x := by
  unfold jk cf; simp [List.filter_filter]
theorem rI_all {M : mS} {nR nC nt nL nW nV nM : Nat} {cn nm mn me li rl : Nat → Nat} (hI : rI M nR nC nt nL nW nV nM cn nm mn me li rl (M.1 24)) : (M.1 1 = nI nR ∧ nR ≤ 12) ∧ (M.1 6 = nI nC ∧ nC ≤ 4) ∧ (M.1 10 = nI nt ∧ nt ≤ 12) ∧ (M.1 16 = nI nL ∧ nL ≤ 10) ∧ (M.1 18 = nI nW ∧ nW ≤ 40) ∧ (M.1 21 = nI nV ∧ nV ≤ 4) ∧ (M.1 25 = nI nM ∧ nM ≤ 4) ∧ (∀ i, i < 12 → M.2.1 12 i = nI (cn i) ∧ cn i ≤ 4) ∧ (∀ k, k < 48 → M.2.1 14 k = nI (nm k) ∧ nm k < 12) ∧ (∀ i, i < 4 → M.2.1 7 i = nI (mn i) ∧ mn i ≤ 3) ∧ (∀ q, q < 12 → M.2.1 8 q = nI (me q) ∧ me q < 12) ∧ (∀ k, k < 48 → M.2.1 13 k = 2 → nm k < 4) ∧ (∀ l, l < 10 → M.2.1 17 l = nI (li l) ∧ li l < 12) ∧ cB M nR nC nt nL nW nV cn nm mn me li rl ∧ (∀ r, r < nR → 1 ≤ M.2.1 5 r) ∧ (∀ o j, j < 12 → mnt o (M.2.1 22) j nV 0 = nI (cmI (M.2.1 22) nV o j) ∧ cmI (M.2.1 22) nV o j < 12) ∧ (∀ o j, j < 12 → mnt o (M.2.1 23) j nV 0 = nI (cmI (M.2.1 23) nV o j) ∧ cmI (M.2.1 23) nV o j < 12) ∧ (∀ o j, j < nt → mnt o (M.2.1 22) j nV 0 = nI (cmI (M.2.1 22) nV o j) ∧ cmI (M.2.1 22) nV o j < nt) ∧ (∀ o j, j < nR → mnt o (M.2.1 23) j nV 0 = nI (cmI (M.2.1 23) nV o j) ∧ cmI (M.2.1 23) nV o j < nR) ∧ (∀ o l, l < nL → cmI (M.2.1 22) nV o (li l) < nt) := by
  obtain ⟨⟨iR, bR⟩, ⟨iC, bC⟩, ⟨iT, bT⟩, ⟨iL, bL⟩, ⟨iW, bW⟩, ⟨iV, bV⟩, ⟨iM, bM⟩, ⟨-, on9, hon, eon⟩, hcn, hnm, hmn, hm0, hme, hs2, hli, hB, hpk, hki, htr, hun, hnu, hfx⟩ := hI
  exact ⟨⟨iR, bR⟩, ⟨iC, bC⟩, ⟨iT, bT⟩, ⟨iL, bL⟩, ⟨iW, bW⟩, ⟨iV, bV⟩, ⟨iM, bM⟩, hcn, hnm, hmn, hme, hs2, hli, hB, hpk, fun o j => (rI_mI hB bT o j).2, fun o j => (rI_mR hB bR o j).2, fun o j => (rI_mI hB bT o j).1, fun o j => (rI_mR hB bR o j).1, fun o l hl => ((rI_mI hB bT o _).1 (hB.2.2.1 l hl)).2⟩
theorem rI_m0 {M : mS} {nR nC nt nL nW nV nM : Nat} {cn nm mn me li rl : Nat → Nat} (hI : rI M nR nC nt nL nW nV nM cn nm mn me li rl (M.1 24)) : nC < 4 → mn nC = 0 := by
  obtain ⟨⟨iR, bR⟩, ⟨iC, bC⟩, ⟨iT, bT⟩, ⟨iL, bL⟩, ⟨iW, bW⟩, ⟨iV, bV⟩, ⟨iM, bM⟩, ⟨-, on9, hon, eon⟩, hcn, hnm, hmn, hm0, hme, hs2, hli, hB, hpk, hki, htr, hun, hnu, hfx⟩ := hI
  exact fun h => hm0 nC (Nat.le_refl _) h
theorem fpfs {x : UInt32} (h : vf_n32 x) : Op.cmpValue (FP.fcmp x x) .l = 0 := by
  have h1 : FP.Core.val32 x ≠ .nan := fp_nnb32 (fp_fvb32 h)
  show Op.cmpValue (FP.Core.fcmp x x) .l = 0
  rw [FP.Core.fcmp_self h1]; rfl
theorem JW_cf {c c2 r x : kT} (h : cf c = c2) : (jk c r x, jd c r x, jE c r x) = (jk c2 r x, jd c2 r x, jE c2 r x) := by
  subst h
  show (jk c r x, jd c r x, jE c r x) = (jk (cf c) r x, jd c r x, jE c r x)
  rw [jk_cf]
theorem kv_cf {dd : kDD} {g : kG} {a b pc : Nat} {lv : List (Nat × Value)} {st : List Value} {c r x : kT} (K : kv dd g a b pc lv st (jk (cf c) r x) (jd (cf c) r x) (jE (cf c) r x)) : kv dd g a b pc lv st (jk c r x) (jd c r x) (jE c r x) := by
  rw [jk_cf] at K; exact K
theorem lce {x y : Int64} (h : x = y) : lg_cmp x y = 0 := by rw [h]; exact lcs
theorem lcge {x y : Int64} (h : y ≤ x) : ¬ lg_cmp x y < 0 := Int32.not_lt.mpr ((lg_cmp_ge x y).mpr h)
theorem lclt {x y : Int64} (h : x < y) : ¬ 0 ≤ lg_cmp x y := fun q => Int64.not_le.mpr h ((lg_cmp_ge x y).mp q)
theorem lcgt {x y : Int64} (h : y < x) : ¬ lg_cmp x y ≤ 0 := by
  unfold lg_cmp
  rw [if_pos h]; decide
theorem lc_0 {x y : Int64} (h : lg_cmp x y = 0) : x = y := by
  unfold lg_cmp at h
  by_cases c : x > y
  · rw [if_pos c] at h; exact absurd h (by decide)
  · rw [if_neg c] at h
    by_cases d : x = y
    · exact d
    · rw [if_neg d] at h; exact absurd h (by decide)
theorem lc_le {x y : Int64} (h : lg_cmp x y ≤ 0) : ¬ y < x := fun q => lcgt q h
section
variable {M : mS} {nR nC nt nL nW nV nM : Nat} {cn nm mn me li rl : Nat → Nat} {z : eS}
theorem w_A (h : cDn M nR nt nL nW nM cn nm mn me li (cmI (M.2.1 22) nV (M.1 24)) (cmI (M.2.1 23) nV (M.1 24)) (nJ (M.2.1 13) cn (fun k => (cmI (M.2.1 22) nV (M.1 24)) (nm k)) 2) z) : ∀ r, r < 12 → z.2 23 r = (wvA M nR nC nt nL nW nV nM cn nm mn me li rl (M.1 24)) r := fun r hr => cDn_am h r hr
theorem w_N (hI : rI M nR nC nt nL nW nV nM cn nm mn me li rl (M.1 24)) (h : cDn M nR nt nL nW nM cn nm mn me li (cmI (M.2.1 22) nV (M.1 24)) (cmI (M.2.1 23) nV (M.1 24)) (nJ (M.2.1 13) cn (fun k => (cmI (M.2.1 22) nV (M.1 24)) (nm k)) 2) z) {j : Nat} (hj : j < nt) : ∀ r, r < 12 → z.2 (37 + j) r = (wvN M nR nC nt nL nW nV nM cn nm mn me li rl (M.1 24)) j r := fun r hr => v_need (rI_v hI _) h hj hr
theorem w_U (hI : rI M nR nC nt nL nW nV nM cn nm mn me li rl (M.1 24)) (h : cDn M nR nt nL nW nM cn nm mn me li (cmI (M.2.1 22) nV (M.1 24)) (cmI (M.2.1 23) nV (M.1 24)) (nJ (M.2.1 13) cn (fun k => (cmI (M.2.1 22) nV (M.1 24)) (nm k)) 2) z) {j : Nat} (hj : j < nt) : cou (z.2 (37 + j)) (M.2.1 3) nR = cou ((wvN M nR nC nt nL nW nV nM cn nm mn me li rl (M.1 24)) j) (M.2.1 3) nR := cou_congr (fun r hr => w_N hI h hj r (by have := (rI_b hI).1; omega))
theorem w_L (hI : rI M nR nC nt nL nW nV nM cn nm mn me li rl (M.1 24)) (h : cDn M nR nt nL nW nM cn nm mn me li (cmI (M.2.1 22) nV (M.1 24)) (cmI (M.2.1 23) nV (M.1 24)) (nJ (M.2.1 13) cn (fun k => (cmI (M.2.1 22) nV (M.1 24)) (nm k)) 2) z) {l : Nat} (hl : l < nL) : (mq (M.2.1 19) (M.2.1 20) (nI l) nW).toInt64 * cou (z.2 (37 + (cmI (M.2.1 22) nV (M.1 24)) (li l))) (M.2.1 3) nR = (wvL M nR nC nt nL nW nV nM cn nm mn me li rl (M.1 24)) l := by
  rw [w_U hI h ((rI_v hI _).2.2.2 l hl)]; rfl
theorem w_R (hI : rI M nR nC nt nL nW nV nM cn nm mn me li rl (M.1 24)) (h : cDn M nR nt nL nW nM cn nm mn me li (cmI (M.2.1 22) nV (M.1 24)) (cmI (M.2.1 23) nV (M.1 24)) (nJ (M.2.1 13) cn (fun k => (cmI (M.2.1 22) nV (M.1 24)) (nm k)) 2) z) {t : Int32} (ht : ¬ t = -1) : ctr (M.2.1 11) (fun i => z.2 22 i * cou (z.2 (25 + i)) (M.2.1 3) nR) t nt = (wvR M nR nC nt nL nW nV nM cn nm mn me li rl (M.1 24)) t := v_trade (rI_v hI _) h ht
theorem w_K (hI : rI M nR nC nt nL nW nV nM cn nm mn me li rl (M.1 24)) (h : cDn M nR nt nL nW nM cn nm mn me li (cmI (M.2.1 22) nV (M.1 24)) (cmI (M.2.1 23) nV (M.1 24)) (nJ (M.2.1 13) cn (fun k => (cmI (M.2.1 22) nV (M.1 24)) (nm k)) 2) z) {its : Int32} : mkd (M.2.1 2) (z.2 23) (M.2.1 3) its nR = (wvK M nR nC nt nL nW nV nM cn nm mn me li rl (M.1 24)) its := mkd_congr nR (fun r hr => w_A h r (by have := (rI_b hI).1; omega))
theorem w_E (hI : rI M nR nC nt nL nW nV nM cn nm mn me li rl (M.1 24)) (h : cDn M nR nt nL nW nM cn nm mn me li (cmI (M.2.1 22) nV (M.1 24)) (cmI (M.2.1 23) nV (M.1 24)) (nJ (M.2.1 13) cn (fun k => (cmI (M.2.1 22) nV (M.1 24)) (nm k)) 2) z) : mex (z.2 23) (M.2.1 4) (M.2.1 5) (M.2.1 3) nR = (wvE M nR nC nt nL nW nV nM cn nm mn me li rl (M.1 24)) := mex_congr nR (fun r hr => w_A h r (by have := (rI_b hI).1; omega))
theorem w_S (hI : rI M nR nC nt nL nW nV nM cn nm mn me li rl (M.1 24)) (h : cDn M nR nt nL nW nM cn nm mn me li (cmI (M.2.1 22) nV (M.1 24)) (cmI (M.2.1 23) nV (M.1 24)) (nJ (M.2.1 13) cn (fun k => (cmI (M.2.1 22) nV (M.1 24)) (nm k)) 2) z) : cou (z.2 23) (M.2.1 3) nR = (wvS M nR nC nt nL nW nV nM cn nm mn me li rl (M.1 24)) := cou_congr (fun r hr => w_A h r (by have := (rI_b hI).1; omega))
theorem w_M (hI : rI M nR nC nt nL nW nV nM cn nm mn me li rl (M.1 24)) (h : cDn M nR nt nL nW nM cn nm mn me li (cmI (M.2.1 22) nV (M.1 24)) (cmI (M.2.1 23) nV (M.1 24)) (nJ (M.2.1 13) cn (fun k => (cmI (M.2.1 22) nV (M.1 24)) (nm k)) 2) z) {j : Nat} (hj : j < nM) : z.2 24 j = (wvM M nR nC nt nL nW nV nM cn nm mn me li rl (M.1 24)) j := by
  rw [h.2.2.2.2.2.2.2.2 j hj]
  exact congrFun (mk_congr (fun r hr => w_A h r (by have := (rI_b hI).1; omega))) j
theorem w_T (hI : rI M nR nC nt nL nW nV nM cn nm mn me li rl (M.1 24)) (h : cDn M nR nt nL nW nM cn nm mn me li (cmI (M.2.1 22) nV (M.1 24)) (cmI (M.2.1 23) nV (M.1 24)) (nJ (M.2.1 13) cn (fun k => (cmI (M.2.1 22) nV (M.1 24)) (nm k)) 2) z) : msumJ (z.2 24) (cou (z.2 23) (M.2.1 3) nR + mex (z.2 23) (M.2.1 4) (M.2.1 5) (M.2.1 3) nR) nM = (wvT M nR nC nt nL nW nV nM cn nm mn me li rl (M.1 24)) := cDn_tot (rI_b hI).1 h
theorem w_T2 : (wvT M nR nC nt nL nW nV nM cn nm mn me li rl (M.1 24)) = msumJ (wvM M nR nC nt nL nW nV nM cn nm mn me li rl (M.1 24)) ((wvS M nR nC nt nL nW nV nM cn nm mn me li rl (M.1 24)) + (wvE M nR nC nt nL nW nV nM cn nm mn me li rl (M.1 24))) nM := rfl
/-- the sums -/
theorem w_sums (hI : rI M nR nC nt nL nW nV nM cn nm mn me li rl (M.1 24)) (h : cDn M nR nt nL nW nM cn nm mn me li (cmI (M.2.1 22) nV (M.1 24)) (cmI (M.2.1 23) nV (M.1 24)) (nJ (M.2.1 13) cn (fun k => (cmI (M.2.1 22) nV (M.1 24)) (nm k)) 2) z) : (wvS M nR nC nt nL nW nV nM cn nm mn me li rl (M.1 24)) = msumJ (wvL M nR nC nt nL nW nV nM cn nm mn me li rl (M.1 24)) 0 nL ∧ (wvS M nR nC nt nL nW nV nM cn nm mn me li rl (M.1 24)) = msumJ (fun t => (wvR M nR nC nt nL nW nV nM cn nm mn me li rl (M.1 24)) (nI t)) 0 6 ∧ (wvK M nR nC nt nL nW nV nM cn nm mn me li rl (M.1 24)) 0 + (wvK M nR nC nt nL nW nV nM cn nm mn me li rl (M.1 24)) 1 + (wvK M nR nC nt nL nW nV nM cn nm mn me li rl (M.1 24)) 2 = (wvS M nR nC nt nL nW nV nM cn nm mn me li rl (M.1 24)) := by
  have v := rI_v hI (M.1 24)
  obtain ⟨s1, -, s3, -⟩ := v_sound v (rI_ki hI) (rI_tr hI) h
  refine ⟨?_, ?_, mkd_sum nR (rI_ki hI)⟩
  · rw [← w_S hI h, ← s1]
    exact msumJ_congr nL (fun l hl => w_L hI h hl)
  · rw [← w_S hI h, ← s3]
    refine msumJ_congr 6 (fun t ht => w_R hI h ?_)
    have : ∀ q : Fin 6, ¬ nI q.1 = -1 := by decide
    exact this ⟨t, ht⟩
theorem w_tree (hI : rI M nR nC nt nL nW nV nM cn nm mn me li rl (M.1 24)) {o : Int32} {r : Nat} (hr : r < 12) : msumJ (fun l => (mq (M.2.1 19) (M.2.1 20) (nI l) nW).toInt64 * utr (M.2.1 13) (M.2.1 15) (M.2.1 9) cn nm mn (cmI (M.2.1 23) nV o) me (fun k => (cmI (M.2.1 22) nV o) (nm k)) r 3 ((cmI (M.2.1 22) nV o) (li l))) 0 nL = (wvA M nR nC nt nL nW nV nM cn nm mn me li rl o) r := by
  rw [v_tree (rI_v hI o) hr]
  exact (v_cAm (rI_v hI o) hr).symm
/-- amounts are small -/
theorem w_bd (hI : rI M nR nC nt nL nW nV nM cn nm mn me li rl (M.1 24)) (hX : pX M nR nC nt nL nW nV nM cn nm mn me li rl) (o : Int32) {r : Nat} (hr : r < 12) : bd 1400000000000 ((wvA M nR nC nt nL nW nV nM cn nm mn me li rl o) r) := by
  rw [← w_tree hI hr]
  have v := rI_v hI o
  have hmn := (rI_all hI).2.2.2.2.2.2.2.2.2.1
  have hB := (rI_all hI).2.2.2.2.2.2.2.2.2.2.2.2.2.1
  obtain ⟨hp, hw⟩ : (∀ i, i < nt → ∀ k, k < cn i → 0 ≤ M.2.1 15 (4 * i + k) ∧ M.2.1 15 (4 * i + k) ≤ 99) ∧ (∀ i, i < nC → ∀ q, q < mn i → 0 ≤ M.2.1 9 (3 * i + q) ∧ M.2.1 9 (3 * i + q) ≤ 9) := by
    obtain ⟨⟨iR, bR⟩, ⟨iC, bC⟩, ⟨iT, bT⟩, ⟨iL, bL⟩, ⟨iW, bW⟩, ⟨iV, bV⟩, ⟨iM, bM⟩, ⟨-, on9, hon, eon⟩, hcn, hnm, hmn, hm0, hme, hs2, hli, hB, hpk, hki, htr, hun, hnu, hfx⟩ := hI
    exact ⟨hun, hnu⟩
  have bb := rI_b hI
  have hcn := (rI_all hI).2.2.2.2.2.2.2.1
  refine bd_am bb.2.2.2.1 hX.2.2.1 (fun l hl => bd_utr3 (nt := nt) (fun i hi => ⟨(hcn i (by omega)).2, fun k hk => ⟨hp i hi k hk, fun hs => ⟨hX.2.1 i hi k hk hs, (v.2.2.1 i hi k hk).2.2.1 hs⟩, fun hs => ?_⟩⟩) _ (v.2.2.2 l hl))
  have hc : nm (4 * i + k) < nC := by
    rcases hB.1 i hi k hk with q | q | q
    · exact absurd (hs.symm.trans q.1) (by decide)
    · exact absurd (hs.symm.trans q.1) (by decide)
    · exact q.2
  exact ⟨(hmn _ (by omega)).2, fun q hq => hw _ hc q hq⟩
theorem w_pk (hI : rI M nR nC nt nL nW nV nM cn nm mn me li rl (M.1 24)) (hX : pX M nR nC nt nL nW nV nM cn nm mn me li rl) (o : Int32) {r : Nat} (hr : r < nR) : (wvA M nR nC nt nL nW nV nM cn nm mn me li rl o) r + ((wvA M nR nC nt nL nW nV nM cn nm mn me li rl o) r * (M.2.1 4 r).toInt64 + 99) / 100 ≤ mpk ((wvA M nR nC nt nL nW nV nM cn nm mn me li rl o) r) (M.2.1 4 r) (M.2.1 5 r) * (M.2.1 5 r).toInt64 ∧ (mpk ((wvA M nR nC nt nL nW nV nM cn nm mn me li rl o) r) (M.2.1 4 r) (M.2.1 5 r) - 1) * (M.2.1 5 r).toInt64 < (wvA M nR nC nt nL nW nV nM cn nm mn me li rl o) r + ((wvA M nR nC nt nL nW nV nM cn nm mn me li rl o) r * (M.2.1 4 r).toInt64 + 99) / 100 ∧ 0 ≤ (wvA M nR nC nt nL nW nV nM cn nm mn me li rl o) r := by
  have q := pk_ok (w_bd hI hX o (show r < 12 by have := (rI_b hI).1; omega)) (hX.1 r hr).2.1 (hX.1 r hr).2.2
  exact ⟨q.1, q.2.1, q.2.2.2⟩
theorem w_max (hI : rI M nR nC nt nL nW nV nM cn nm mn me li rl (M.1 24)) (hX : pX M nR nC nt nL nW nV nM cn nm mn me li rl) (o : Int32) : (wvT M nR nC nt nL nW nV nM cn nm mn me li rl o) < 9223372036854775807 := by
  have bb := rI_b hI
  exact cTo_max (bd_cTo bb.1 bb.2.2.2.2.2.2 (fun r hr => ⟨w_bd hI hX o (by omega), (hX.1 r hr)⟩) hX.2.2.2)
end

/-! WHAT HOLDS BETWEEN CALLS, of the reference's state -/
/-- what is meant by number j -/
def cmI (tab : Nat → Int32) (nV : Nat) (o : Int32) (j : Nat) : Nat := (mnt o tab j nV 0).toNatClampNeg
theorem mnt_N {on : Int32} {tab : Nat → Int32} {j N : Nat} (hj : j < N) {m : Nat} (hj12 : j < 12) (h : ∀ q, q < 12 * m → tab q = -1 ∨ ∃ x, x < N ∧ tab q = nI x) : ∀ k v, v + k ≤ m → ∃ x, x < N ∧ mnt on tab j k v = nI x := by
  intro k
  induction k with
  | zero => intro v _; exact ⟨j, hj, rfl⟩
  | succ k ih =>
    intro v hv
    rw [mnt]
    by_cases c : on >>> (nI v &&& 31) &&& 1 = 1 ∧ ¬ tab (12 * v + j) = -1
    · rw [if_pos c]
      rcases h (12 * v + j) (by omega) with q | q
      · exact absurd q c.2
      · exact q
    · rw [if_neg c]
      exact ih (v + 1) (by omega)
theorem cmI_N {on : Int32} {tab : Nat → Int32} {j N nV : Nat} (hj : j < N) (hj12 : j < 12) (hN : N < 1000) (h : ∀ q, q < 12 * nV → tab q = -1 ∨ ∃ x, x < N ∧ tab q = nI x) : mnt on tab j nV 0 = nI (cmI tab nV on j) ∧ cmI tab nV on j < N := by
  obtain ⟨x, hx, e⟩ := mnt_N (on := on) hj hj12 h nV 0 (by omega)
  have e2 : cmI tab nV on j = x := by unfold cmI; rw [e]; exact nI_clamp (by omega)
  rw [e2]; exact ⟨e, hx⟩
def rI (M : mS) (nR nC nt nL nW nV nM : Nat) (cn nm mn me li rl : Nat → Nat) (on : Int32) : Prop :=
  (M.1 1 = nI nR ∧ nR ≤ 12) ∧ (M.1 6 = nI nC ∧ nC ≤ 4) ∧ (M.1 10 = nI nt ∧ nt ≤ 12) ∧ (M.1 16 = nI nL ∧ nL ≤ 10) ∧ (M.1 18 = nI nW ∧ nW ≤ 40) ∧ (M.1 21 = nI nV ∧ nV ≤ 4) ∧ (M.1 25 = nI nM ∧ nM ≤ 4) ∧
  (M.1 24 = on ∧ ∃ o, o < 2 ^ nV ∧ on = nI o) ∧
  (∀ i, i < 12 → M.2.1 12 i = nI (cn i) ∧ cn i ≤ 4) ∧ (∀ k, k < 48 → M.2.1 14 k = nI (nm k) ∧ nm k < 12) ∧ (∀ i, i < 4 → M.2.1 7 i = nI (mn i) ∧ mn i ≤ 3) ∧ (∀ i, nC ≤ i → i < 4 → mn i = 0) ∧ (∀ q, q < 12 → M.2.1 8 q = nI (me q) ∧ me q < 12) ∧ (∀ k, k < 48 → M.2.1 13 k = 2 → nm k < 4) ∧ (∀ l, l < 10 → M.2.1 17 l = nI (li l) ∧ li l < 12) ∧
  cB M nR nC nt nL nW nV cn nm mn me li rl ∧ (∀ r, r < nR → 1 ≤ M.2.1 5 r) ∧ (∀ r, r < nR → M.2.1 2 r = 0 ∨ M.2.1 2 r = 1 ∨ M.2.1 2 r = 2) ∧ (∀ i, i < nt → 0 ≤ M.2.1 11 i ∧ M.2.1 11 i ≤ 5) ∧ (∀ i, i < nt → ∀ k, k < cn i → 0 ≤ M.2.1 15 (4 * i + k) ∧ M.2.1 15 (4 * i + k) ≤ 99) ∧ (∀ i, i < nC → ∀ q, q < mn i → 0 ≤ M.2.1 9 (3 * i + q) ∧ M.2.1 9 (3 * i + q) ≤ 9) ∧
  kFx (M.2.1 13) cn (fun k => (cmI (M.2.1 22) nV on) (nm k)) (nJ (M.2.1 13) cn (fun k => (cmI (M.2.1 22) nV on) (nm k)) 2) nt
section
variable {M : mS} {nR nC nt nL nW nV nM : Nat} {cn nm mn me li rl : Nat → Nat} {on : Int32}
theorem rI_tab (hB : cB M nR nC nt nL nW nV cn nm mn me li rl) : (∀ q, q < 12 * nV → M.2.1 22 q = -1 ∨ ∃ x, x < nt ∧ M.2.1 22 q = nI x) ∧ (∀ q, q < 12 * nV → M.2.1 23 q = -1 ∨ ∃ x, x < nR ∧ M.2.1 23 q = nI x) := by
  refine ⟨fun q hq => ?_, fun q hq => ?_⟩
  · have h := (hB.2.2.2.2 (q / 12) (by omega) (q % 12) (by omega)).1
    rw [show 12 * (q / 12) + q % 12 = q by omega] at h; exact h
  · have h := (hB.2.2.2.2 (q / 12) (by omega) (q % 12) (by omega)).2
    rw [show 12 * (q / 12) + q % 12 = q by omega] at h; exact h
theorem rI_mI (hB : cB M nR nC nt nL nW nV cn nm mn me li rl) (h12 : nt ≤ 12) (o : Int32) (j : Nat) : (j < nt → mnt o (M.2.1 22) j nV 0 = nI (cmI (M.2.1 22) nV o j) ∧ cmI (M.2.1 22) nV o j < nt) ∧ (j < 12 → mnt o (M.2.1 22) j nV 0 = nI (cmI (M.2.1 22) nV o j) ∧ cmI (M.2.1 22) nV o j < 12) :=
  ⟨fun hj => cmI_N hj (by omega) (by omega) (rI_tab hB).1, fun hj => cmI_N hj hj (by omega) (fun q hq => ((rI_tab hB).1 q hq).imp id (fun ⟨x, hx, e⟩ => ⟨x, by omega, e⟩))⟩
theorem rI_mR (hB : cB M nR nC nt nL nW nV cn nm mn me li rl) (h12 : nR ≤ 12) (o : Int32) (j : Nat) : (j < nR → mnt o (M.2.1 23) j nV 0 = nI (cmI (M.2.1 23) nV o j) ∧ cmI (M.2.1 23) nV o j < nR) ∧ (j < 12 → mnt o (M.2.1 23) j nV 0 = nI (cmI (M.2.1 23) nV o j) ∧ cmI (M.2.1 23) nV o j < 12) :=
  ⟨fun hj => cmI_N hj (by omega) (by omega) (rI_tab hB).2, fun hj => cmI_N hj hj (by omega) (fun q hq => ((rI_tab hB).2 q hq).imp id (fun ⟨x, hx, e⟩ => ⟨x, by omega, e⟩))⟩
end
section
variable {M : mS} {nR nC nt nL nW nV nM : Nat} {cn nm mn me li rl : Nat → Nat} {mi mr dep : Nat → Nat} {z : eS}
/-- amounts, as the reference says them -/
def refA (M : mS) (nL nW : Nat) (cn nm mn me li mi mr : Nat → Nat) : Nat → Int64 := fun r => msumL (fun l => mq (M.2.1 19) (M.2.1 20) (nI l) nW) (fun l => mN (M.2.1 13) (M.2.1 15) cn (fun k => mi (nm k)) (mdir (M.2.1 13) (M.2.1 15) (M.2.1 9) (M.2.1 3) (M.2.1 11) cn nm mn mr me (nI r) (-1)) 2 (mi (li l))) nL
/-- what the equalities need of the numbers -/
def vH (M : mS) (nR nt nL : Nat) (cn nm mn me li mi mr : Nat → Nat) : Prop := nR ≤ 12 ∧ nt ≤ 12 ∧ (∀ i, i < nt → ∀ k, k < cn i → ((M.2.1 13) (4 * i + k) = 0 ∨ (M.2.1 13) (4 * i + k) = 1 ∨ (M.2.1 13) (4 * i + k) = 2) ∧ (0 ≤ (M.2.1 15) (4 * i + k) ∧ (M.2.1 15) (4 * i + k) ≤ 99) ∧ ((M.2.1 13) (4 * i + k) = 0 → mi (nm (4 * i + k)) < nt) ∧ ((M.2.1 13) (4 * i + k) = 1 → mr (nm (4 * i + k)) < nR) ∧ ((M.2.1 13) (4 * i + k) = 2 → ∀ q, q < mn (nm (4 * i + k)) → mr (me (3 * nm (4 * i + k) + q)) < nR ∧ 0 ≤ (M.2.1 9) (3 * nm (4 * i + k) + q) ∧ (M.2.1 9) (3 * nm (4 * i + k) + q) ≤ 9)) ∧ (∀ l, l < nL → mi (li l) < nt)
theorem v_own (v : vH M nR nt nL cn nm mn me li mi mr) {i r : Nat} (hi : i < nt) (hr : r < 12) : cow (M.2.1 13) (M.2.1 15) (M.2.1 9) nm mn mr me (4 * i) (fun _ => 0) (cn i) r = (mdir (M.2.1 13) (M.2.1 15) (M.2.1 9) (M.2.1 3) (M.2.1 11) cn nm mn mr me (nI r) (-1)) i :=
  own_r hr (fun k hk hs => by have := (v.2.2.1 i hi k hk).2.2.2.1 hs; have := v.1; omega) (fun k hk hs q hq => by have := ((v.2.2.1 i hi k hk).2.2.2.2 hs q hq).1; have := v.1; omega)
theorem v_ownc (v : vH M nR nt nL cn nm mn me li mi mr) {i : Nat} (hi : i < nt) : cou (cow (M.2.1 13) (M.2.1 15) (M.2.1 9) nm mn mr me (4 * i) (fun _ => 0) (cn i)) (M.2.1 3) nR = (mdir (M.2.1 13) (M.2.1 15) (M.2.1 9) (M.2.1 3) (M.2.1 11) cn nm mn mr me (-1) (-1)) i :=
  own_c (fun k hk hs => (v.2.2.1 i hi k hk).2.2.2.1 hs) (fun k hk hs q hq => ((v.2.2.1 i hi k hk).2.2.2.2 hs q hq).1)
/-- needs agree where the items are the same -/
theorem v_mN (v : vH M nR nt nL cn nm mn me li mi mr) {d1 d2 : Nat → Int64} (hd : ∀ j, j < nt → d1 j = d2 j) : ∀ t i, i < nt → mN (M.2.1 13) (M.2.1 15) cn (fun k => mi (nm k)) d1 t i = mN (M.2.1 13) (M.2.1 15) cn (fun k => mi (nm k)) d2 t i := by
  intro t
  induction t with
  | zero => exact hd
  | succ t ih =>
    intro i hi
    show mstep (M.2.1 13) (M.2.1 15) (fun k => mi (nm k)) _ (d1 i) (4 * i) (cn i) = mstep (M.2.1 13) (M.2.1 15) (fun k => mi (nm k)) _ (d2 i) (4 * i) (cn i)
    rw [hd i hi]
    exact mstep_congr (cn i) (fun k hk hs => ih _ ((v.2.2.1 i hi k hk).2.2.1 hs))
theorem v_need (v : vH M nR nt nL cn nm mn me li mi mr) (h : cDn M nR nt nL nW nM cn nm mn me li mi mr dep z) {j r : Nat} (hj : j < nt) (hr : r < 12) : z.2 (37 + j) r = mN (M.2.1 13) (M.2.1 15) cn (fun k => mi (nm k)) (mdir (M.2.1 13) (M.2.1 15) (M.2.1 9) (M.2.1 3) (M.2.1 11) cn nm mn mr me (nI r) (-1)) 2 j :=
  (h.2.2.2.2.2.1 j hj r hr).trans (v_mN v (fun j hj => v_own v hj hr) 2 j hj)
theorem v_unit (v : vH M nR nt nL cn nm mn me li mi mr) (h : cDn M nR nt nL nW nM cn nm mn me li mi mr dep z) {j : Nat} (hj : j < nt) : cou (z.2 (37 + j)) (M.2.1 3) nR = mN (M.2.1 13) (M.2.1 15) cn (fun k => mi (nm k)) (mdir (M.2.1 13) (M.2.1 15) (M.2.1 9) (M.2.1 3) (M.2.1 11) cn nm mn mr me (-1) (-1)) 2 j := by
  rw [cou_congr (fun r hr => h.2.2.2.2.2.1 j hj r (by have := v.1; omega)), mN_cou (D := fun j => cow (M.2.1 13) (M.2.1 15) (M.2.1 9) nm mn mr me (4 * j) (fun _ => 0) (cn j))]
  exact v_mN v (fun j hj => v_ownc v hj) 2 j hj
theorem v_cAm (v : vH M nR nt nL cn nm mn me li mi mr) {r : Nat} (hr : r < 12) : cAm M nL nW cn nm mn me li mi mr r = refA M nL nW cn nm mn me li mi mr r := by
  unfold cAm refA
  rw [msumL_J]
  exact msumJ_congr nL (fun l hl => by rw [v_mN v (fun j hj => v_own v hj hr) 2 _ (v.2.2.2 l hl)])
theorem v_am (v : vH M nR nt nL cn nm mn me li mi mr) (h : cDn M nR nt nL nW nM cn nm mn me li mi mr dep z) {r : Nat} (hr : r < 12) : z.2 23 r = refA M nL nW cn nm mn me li mi mr r := (cDn_am h r hr).trans (v_cAm v hr)
theorem v_line (v : vH M nR nt nL cn nm mn me li mi mr) (h : cDn M nR nt nL nW nM cn nm mn me li mi mr dep z) {l : Nat} (hl : l < nL) : cou (z.2 (37 + mi (li l))) (M.2.1 3) nR = mN (M.2.1 13) (M.2.1 15) cn (fun k => mi (nm k)) (mdir (M.2.1 13) (M.2.1 15) (M.2.1 9) (M.2.1 3) (M.2.1 11) cn nm mn mr me (-1) (-1)) 2 (mi (li l)) := v_unit v h (v.2.2.2 l hl)
theorem v_ownz (v : vH M nR nt nL cn nm mn me li mi mr) (h : cDn M nR nt nL nW nM cn nm mn me li mi mr dep z) {i : Nat} (hi : i < nt) : cou (z.2 (25 + i)) (M.2.1 3) nR = (mdir (M.2.1 13) (M.2.1 15) (M.2.1 9) (M.2.1 3) (M.2.1 11) cn nm mn mr me (-1) (-1)) i := by
  rw [cou_congr (fun r hr => h.2.2.2.2.1 i hi r (by have := v.1; omega))]
  exact v_ownc v hi
theorem v_trade (v : vH M nR nt nL cn nm mn me li mi mr) (h : cDn M nR nt nL nW nM cn nm mn me li mi mr dep z) {td : Int32} (htd : ¬ td = -1) : ctr (M.2.1 11) (fun i => z.2 22 i * cou (z.2 (25 + i)) (M.2.1 3) nR) td nt = msumL (fun l => mq (M.2.1 19) (M.2.1 20) (nI l) nW) (fun l => mN (M.2.1 13) (M.2.1 15) cn (fun k => mi (nm k)) (mdir (M.2.1 13) (M.2.1 15) (M.2.1 9) (M.2.1 3) (M.2.1 11) cn nm mn mr me (-1) td) 2 (mi (li l))) nL := by
  rw [ctr_J, msumL_J]
  have e : ∀ i, i < nt → (if (M.2.1 11) i = td then z.2 22 i * cou (z.2 (25 + i)) (M.2.1 3) nR else 0) = z.2 22 i * (mdir (M.2.1 13) (M.2.1 15) (M.2.1 9) (M.2.1 3) (M.2.1 11) cn nm mn mr me (-1) td) i := by
    intro i hi
    rw [mdir_td htd, v_ownz v h hi]
    by_cases c : (M.2.1 11) i = td
    · rw [if_pos c, if_pos c]
    · rw [if_neg c, if_neg c]; grind
  rw [msumJ_congr nt e]
  exact h.2.2.2.2.2.2.1 _
theorem v_sumT (v : vH M nR nt nL cn nm mn me li mi mr) (h : cDn M nR nt nL nW nM cn nm mn me li mi mr dep z) : msumJ (fun i => z.2 22 i * cou (z.2 (25 + i)) (M.2.1 3) nR) 0 nt = msumJ (fun l => (mq (M.2.1 19) (M.2.1 20) (nI l) nW).toInt64 * mN (M.2.1 13) (M.2.1 15) cn (fun k => mi (nm k)) (mdir (M.2.1 13) (M.2.1 15) (M.2.1 9) (M.2.1 3) (M.2.1 11) cn nm mn mr me (-1) (-1)) 2 (mi (li l))) 0 nL := by
  rw [msumJ_congr nt (fun i hi => by rw [v_ownz v h hi])]
  exact h.2.2.2.2.2.2.1 _
/-- all lines together -/
theorem v_net (v : vH M nR nt nL cn nm mn me li mi mr) (h : cDn M nR nt nL nW nM cn nm mn me li mi mr dep z) : cou (z.2 23) (M.2.1 3) nR = msumJ (fun l => (mq (M.2.1 19) (M.2.1 20) (nI l) nW).toInt64 * mN (M.2.1 13) (M.2.1 15) cn (fun k => mi (nm k)) (mdir (M.2.1 13) (M.2.1 15) (M.2.1 9) (M.2.1 3) (M.2.1 11) cn nm mn mr me (-1) (-1)) 2 (mi (li l))) 0 nL := by
  rw [cou_congr (fun r hr => cDn_am h r (by have := v.1; omega))]
  unfold cAm
  rw [cou_sum (g := fun l r => (mq (M.2.1 19) (M.2.1 20) (nI l) nW).toInt64 * mN (M.2.1 13) (M.2.1 15) cn (fun k => mi (nm k)) (fun j => cow (M.2.1 13) (M.2.1 15) (M.2.1 9) nm mn mr me (4 * j) (fun _ => 0) (cn j) r) 2 (mi (li l)))]
  refine msumJ_congr nL (fun l hl => ?_)
  rw [cou_mul, mN_cou (D := fun j => cow (M.2.1 13) (M.2.1 15) (M.2.1 9) nm mn mr me (4 * j) (fun _ => 0) (cn j)), v_mN v (fun j hj => v_ownc v hj) 2 _ (v.2.2.2 l hl)]
theorem v_tree (v : vH M nR nt nL cn nm mn me li mi mr) {r : Nat} (hr : r < 12) : msumJ (fun l => (mq (M.2.1 19) (M.2.1 20) (nI l) nW).toInt64 * utr (M.2.1 13) (M.2.1 15) (M.2.1 9) cn nm mn mr me (fun k => mi (nm k)) r 3 (mi (li l))) 0 nL = refA M nL nW cn nm mn me li mi mr r := by
  unfold refA
  rw [msumL_J]
  refine msumJ_congr nL (fun l hl => ?_)
  rw [utr_mN (pr := (M.2.1 3)) (tr := (M.2.1 11)) (nt := nt) hr (fun i hi k hk => by
    obtain ⟨a1, a2, a3, a4, a5⟩ := v.2.2.1 i hi k hk
    exact ⟨a1, a2, fun hs => by have := a4 hs; have := v.1; omega, fun hs q hq => ⟨by have := (a5 hs q hq).1; have := v.1; omega, (a5 hs q hq).2⟩⟩) (fun i hi k hk hs => (v.2.2.1 i hi k hk).2.2.1 hs) 2 _ (v.2.2.2 l hl)]
/-- the estimate is sound -/
theorem v_sound (v : vH M nR nt nL cn nm mn me li mi mr) (hk : ∀ r, r < nR → M.2.1 2 r = 0 ∨ M.2.1 2 r = 1 ∨ M.2.1 2 r = 2) (ht : ∀ i, i < nt → 0 ≤ M.2.1 11 i ∧ M.2.1 11 i ≤ 5) (h : cDn M nR nt nL nW nM cn nm mn me li mi mr dep z) :
    msumJ (fun l0 => (mq (M.2.1 19) (M.2.1 20) (nI l0) nW).toInt64 * cou (z.2 (37 + mi (li l0))) (M.2.1 3) nR) 0 nL = cou (z.2 23) (M.2.1 3) nR ∧ msumJ (fun k => mkd (M.2.1 2) (z.2 23) (M.2.1 3) (nI k) nR) 0 3 = cou (z.2 23) (M.2.1 3) nR ∧ msumJ (fun k => ctr (M.2.1 11) (fun i => z.2 22 i * cou (z.2 (25 + i)) (M.2.1 3) nR) (nI k) nt) 0 6 = cou (z.2 23) (M.2.1 3) nR ∧ ∀ j, j < nR → z.2 23 j = msumJ (fun l => (mq (M.2.1 19) (M.2.1 20) (nI l) nW).toInt64 * utr (M.2.1 13) (M.2.1 15) (M.2.1 9) cn nm mn mr me (fun k => mi (nm k)) j 3 (mi (li l))) 0 nL := by
  refine ⟨?_, ?_, ?_, fun j hj => ?_⟩
  · rw [v_net v h]
    exact msumJ_congr nL (fun l hl => by rw [v_line v h hl])
  · rw [← mkd_sum nR hk]
    show 0 + mkd (M.2.1 2) (z.2 23) (M.2.1 3) 0 nR + mkd (M.2.1 2) (z.2 23) (M.2.1 3) 1 nR + mkd (M.2.1 2) (z.2 23) (M.2.1 3) 2 nR = _
    grind
  · rw [ctr_sum nt ht, v_net v h]
    exact v_sumT v h
  · rw [v_am v h (by have := v.1; omega), v_tree v (by have := v.1; omega)]
/-- the total, out of amounts -/
theorem v_cTo (hk : ∀ r, r < nR → M.2.1 2 r = 0 ∨ M.2.1 2 r = 1 ∨ M.2.1 2 r = 2) {a b : Nat → Int64} (hab : ∀ r, r < nR → a r = b r) : cTo M nR nM a = mtot (M.2.1 2) (M.2.1 4) (M.2.1 5) (M.2.1 3) (M.2.1 27) (M.2.1 26) b nR nM := by
  unfold cTo mtot
  rw [cou_congr hab, ← mkd_sum nR hk, mex_congr nR hab, show (fun k => mkd (M.2.1 2) a (M.2.1 3) (nI k) nR) = (fun k => mkd (M.2.1 2) b (M.2.1 3) (nI k) nR) from funext fun k => mkd_congr nR hab]
end

/-! THE LAW'S BODY: what its walk stands on -/
abbrev wsLaw : List Cond := wsL_law ++ kHx
theorem kHx_good : ∀ w ∈ kHx, (w.onTables && w.keeps) = true := by decide +kernel
theorem gK {Ts pre w : List Cond} (h : GoodIn Ts (pre ++ w)) : GoodIn (Ts ++ kHx) (pre ++ (w ++ kHx)) := by
  intro x hx
  rw [← List.append_assoc] at hx
  rcases List.mem_append.mp hx with q | q
  · exact ⟨List.mem_append_left _ (h x q).1, (h x q).2⟩
  · exact ⟨List.mem_append_right _ q, Or.inl (kHx_good x q)⟩
theorem gW {Ts ws : List Cond} (h : GoodIn Ts ws) : GoodIn (Ts ++ kHx) ws := goodIn_ext h
theorem lcs {x : Int64} : lg_cmp x x = 0 := by
  unfold lg_cmp; rw [if_neg (Int64.lt_irrefl), if_pos rfl]
theorem fpds {x : UInt64} (h : vf_n64 x) : Op.cmpValue (FP.dcmp x x) .l = 0 := by
  have h1 : FP.Core.val64 x ≠ .nan := fp_nnb64 (fp_fvb64 h)
  show Op.cmpValue (FP.Core.dcmp x x) .l = 0
  rw [FP.Core.dcmp_self h1]; rfl
theorem jk_cf {c r x : kT} : jk (cf c) r x = jk c r x := by
  unfold jk cf; simp [List.filter_filter]
/-- the law's own cells -/
def XW (dd : kDD) (x : kT) (o1 o2 : Nat) : Prop := 0 ∈ x.1 ∧ 1 ∈ x.1 ∧ x.2.1 0 = o1 ∧ x.2.1 1 = o2 ∧ (∃ f, x.2.2 0 = kJ dd 1 f) ∧ ∃ f, x.2.2 1 = kDb dd 1 f
theorem XW_xJ {dd : kDD} {x : kT} {o1 o2 : Nat} {f : Nat → Int64} {v : Int64} (h : XW dd x o1 o2) : XW dd (xJ dd x f v) o1 o2 := by
  obtain ⟨h1, h2, h3, h4, h5, f2, h6⟩ := h
  exact ⟨h1, h2, h3, h4, ⟨va_up f 0 v, va_up_self x.2.2 0 (kJ dd 1 (va_up f 0 v))⟩, f2, (va_up_ne x.2.2 (kJ dd 1 (va_up f 0 v)) (k := 0) (j := 1) (by decide)).trans h6⟩
theorem XW_xD {dd : kDD} {x : kT} {o1 o2 : Nat} {f : Nat → UInt64} {v : UInt64} (h : XW dd x o1 o2) : XW dd (xD dd x f v) o1 o2 := by
  obtain ⟨h1, h2, h3, h4, ⟨f2, h5⟩, h6⟩ := h
  exact ⟨h1, h2, h3, h4, ⟨f2, (va_up_ne x.2.2 (kDb dd 1 (va_up f 0 v)) (k := 1) (j := 0) (by decide)).trans h5⟩, va_up f 0 v, va_up_self x.2.2 1 (kDb dd 1 (va_up f 0 v))⟩
theorem LWS_open {dd : kDD} {c : kT} {M : mS} {xa : Nat} (h : LWS dd c M xa) : ∃ (ks : List Nat) (ad : Nat → Nat) (E : Nat → va_E) (e : eS) (nR nC nt nL nW nV nM : Nat) (cn nm mn me li rl : Nat → Nat), (∀ j, j ∈ ks → j < 1000) ∧ cf c = (ks, ad, cE dd E e) ∧ ad 0 = xa ∧ rI M nR nC nt nL nW nV nM cn nm mn me li rl (M.1 24) ∧ cO dd ks ad E (M.1 24) ∧ cR dd ks ad E M nR ∧ cC dd ks ad E M nC mn me ∧ cT dd ks ad E M nt cn nm ∧ cL dd ks ad E M nL nW li ∧ cW dd ks ad E M nW rl ∧ cV dd ks ad E M nV ∧ cM dd ks ad E M nM := by
  obtain ⟨nR, nC, nt, nL, nW, nV, nM, cn, nm, mn, me, li, rl, hI, hA, h0⟩ := h
  obtain ⟨F, e, he, hs⟩ := cAll_cf hA
  exact ⟨(cf c).1, c.2.1, F, e, nR, nC, nt, nL, nW, nV, nM, cn, nm, mn, me, li, rl, fun j hj => (cf_mem.mp hj).2, by rw [← he]; rfl, h0, hI, hs⟩
theorem rI_all {M : mS} {nR nC nt nL nW nV nM : Nat} {cn nm mn me li rl : Nat → Nat} (hI : rI M nR nC nt nL nW nV nM cn nm mn me li rl (M.1 24)) : (M.1 1 = nI nR ∧ nR ≤ 12) ∧ (M.1 6 = nI nC ∧ nC ≤ 4) ∧ (M.1 10 = nI nt ∧ nt ≤ 12) ∧ (M.1 16 = nI nL ∧ nL ≤ 10) ∧ (M.1 18 = nI nW ∧ nW ≤ 40) ∧ (M.1 21 = nI nV ∧ nV ≤ 4) ∧ (M.1 25 = nI nM ∧ nM ≤ 4) ∧ (∀ i, i < 12 → M.2.1 12 i = nI (cn i) ∧ cn i ≤ 4) ∧ (∀ k, k < 48 → M.2.1 14 k = nI (nm k) ∧ nm k < 12) ∧ (∀ i, i < 4 → M.2.1 7 i = nI (mn i) ∧ mn i ≤ 3) ∧ (∀ q, q < 12 → M.2.1 8 q = nI (me q) ∧ me q < 12) ∧ (∀ k, k < 48 → M.2.1 13 k = 2 → nm k < 4) ∧ (∀ l, l < 10 → M.2.1 17 l = nI (li l) ∧ li l < 12) ∧ cB M nR nC nt nL nW nV cn nm mn me li rl ∧ (∀ r, r < nR → 1 ≤ M.2.1 5 r) ∧ (∀ o j, j < 12 → mnt o (M.2.1 22) j nV 0 = nI (cmI (M.2.1 22) nV o j) ∧ cmI (M.2.1 22) nV o j < 12) ∧ (∀ o j, j < 12 → mnt o (M.2.1 23) j nV 0 = nI (cmI (M.2.1 23) nV o j) ∧ cmI (M.2.1 23) nV o j < 12) ∧ (∀ o j, j < nt → mnt o (M.2.1 22) j nV 0 = nI (cmI (M.2.1 22) nV o j) ∧ cmI (M.2.1 22) nV o j < nt) ∧ (∀ o j, j < nR → mnt o (M.2.1 23) j nV 0 = nI (cmI (M.2.1 23) nV o j) ∧ cmI (M.2.1 23) nV o j < nR) ∧ (∀ o l, l < nL → cmI (M.2.1 22) nV o (li l) < nt) := by
  obtain ⟨⟨iR, bR⟩, ⟨iC, bC⟩, ⟨iT, bT⟩, ⟨iL, bL⟩, ⟨iW, bW⟩, ⟨iV, bV⟩, ⟨iM, bM⟩, ⟨-, on9, hon, eon⟩, hcn, hnm, hmn, hm0, hme, hs2, hli, hB, hpk, hki, htr, hun, hnu, hfx⟩ := hI
  exact ⟨⟨iR, bR⟩, ⟨iC, bC⟩, ⟨iT, bT⟩, ⟨iL, bL⟩, ⟨iW, bW⟩, ⟨iV, bV⟩, ⟨iM, bM⟩, hcn, hnm, hmn, hme, hs2, hli, hB, hpk, fun o j => (rI_mI hB bT o j).2, fun o j => (rI_mR hB bR o j).2, fun o j => (rI_mI hB bT o j).1, fun o j => (rI_mR hB bR o j).1, fun o l hl => ((rI_mI hB bT o _).1 (hB.2.2.1 l hl)).2⟩
theorem rI_m0 {M : mS} {nR nC nt nL nW nV nM : Nat} {cn nm mn me li rl : Nat → Nat} (hI : rI M nR nC nt nL nW nV nM cn nm mn me li rl (M.1 24)) : nC < 4 → mn nC = 0 := by
  obtain ⟨⟨iR, bR⟩, ⟨iC, bC⟩, ⟨iT, bT⟩, ⟨iL, bL⟩, ⟨iW, bW⟩, ⟨iV, bV⟩, ⟨iM, bM⟩, ⟨-, on9, hon, eon⟩, hcn, hnm, hmn, hm0, hme, hs2, hli, hB, hpk, hki, htr, hun, hnu, hfx⟩ := hI
  exact fun h => hm0 nC (Nat.le_refl _) h
section
variable {dd : kDD} {g : kG} {cc : ByteArray} {own : String} {Ts : List Cond} {a b pc : Nat} {lv : List (Nat × Value)} {st : List Value} {ks : List Nat} {ad : Nat → Nat} {E : Nat → va_E}
/-- an int of the script -/
theorem kv_arg (C : kX dd g cc own Ts) {sc L i : Nat} {xs : Nat → Int32} (hs : kScr g sc L xs) (hL : L ≤ 3584) (k : Nat) (hi : i + k < L) (j0 j5 : Nat) (h0 : lv[j0]? = some (0, .ref sc)) (h5 : lv[j5]? = some (5, .int (nI i))) {n : Int} (hn : Int32.ofInt n = nI k) (d0 : decode cc pc = .ok (.aload_n 0, 1)) (d1 : decode cc (pc + 1) = .ok (.iload 5, 2)) (d2 : decode cc (pc + 3) = .ok (.iconst n, 1)) (d3 : decode cc (pc + 4) = .ok (.iadd, 1)) (d4 : decode cc (pc + 5) = .ok (.iaload, 1)) (K : kv dd g a b (pc + 6) lv (.int (xs (i + k)) :: st) ks ad E) : kv dd g a b pc lv st ks ad E := by
  refine kv_aload_n C j0 d0 rfl h0 ?_
  refine kv_iload C j5 d1 h5 ?_
  refine kv_iconst C d2 hn ?_
  refine kv_iadd C d3 ?_
  rw [nI_add]
  exact kv_sld C hs hi (by omega) d4 K
theorem kv_argb (C : kX dd g cc own Ts) {sc L i : Nat} {xs : Nat → Int32} (hs : kScr g sc L xs) (hL : L ≤ 3584) (k : Nat) (hi : i + k < L) (j0 j5 : Nat) (h0 : lv[j0]? = some (0, .ref sc)) (h5 : lv[j5]? = some (5, .int (nI i))) {n : Int} (hn : (Int8.ofInt n).toInt32 = nI k) (d0 : decode cc pc = .ok (.aload_n 0, 1)) (d1 : decode cc (pc + 1) = .ok (.iload 5, 2)) (d2 : decode cc (pc + 3) = .ok (.bipush n, 2)) (d3 : decode cc (pc + 5) = .ok (.iadd, 1)) (d4 : decode cc (pc + 6) = .ok (.iaload, 1)) (K : kv dd g a b (pc + 7) lv (.int (xs (i + k)) :: st) ks ad E) : kv dd g a b pc lv st ks ad E := by
  refine kv_aload_n C j0 d0 rfl h0 ?_
  refine kv_iload C j5 d1 h5 ?_
  refine kv_bipush C d2 hn ?_
  refine kv_iadd C d3 ?_
  rw [nI_add]
  exact kv_sld C hs hi (by omega) d4 K
theorem kv_bool (C : kX dd g cc own Ts) {x : Int32} (d0 : decode cc pc = .ok (.ifCond .eq 7, 3)) (d1 : decode cc (pc + 3) = .ok (.iconst 1, 1)) (d2 : decode cc (pc + 4) = .ok (.goto 4, 3)) (d3 : decode cc (pc + 7) = .ok (.iconst 0, 1)) (K : kv dd g a b (pc + 8) lv (.int (if x = 0 then 0 else 1) :: st) ks ad E) : kv dd g a b pc lv (.int x :: st) ks ad E := by
  refine kv_if_eq (tgt := pc + 7) C d0 (by omega) (fun h => ?_) (fun h => ?_)
  · refine kv_iconst (v := 0) C d3 (by decide) ?_
    rw [if_pos h] at K; exact K
  · refine kv_iconst (v := 1) C d1 (by decide) ?_
    refine kv_goto (tgt := pc + 8) C d2 (by omega) ?_
    rw [if_neg h] at K; exact K
theorem kv_boolL (C : kX dd g cc own Ts) {x : Int32} (d0 : decode cc pc = .ok (.ifCond .eq 7, 3)) (d1 : decode cc (pc + 3) = .ok (.lconst 1, 1)) (d2 : decode cc (pc + 4) = .ok (.goto 4, 3)) (d3 : decode cc (pc + 7) = .ok (.lconst 0, 1)) (K : kv dd g a b (pc + 8) lv (.long (if x = 0 then 0 else 1) :: st) ks ad E) : kv dd g a b pc lv (.int x :: st) ks ad E := by
  refine kv_if_eq (tgt := pc + 7) C d0 (by omega) (fun h => ?_) (fun h => ?_)
  · refine kv_lconst (v := 0) C d3 (by decide) ?_
    rw [if_pos h] at K; exact K
  · refine kv_lconst (v := 1) C d1 (by decide) ?_
    refine kv_goto (tgt := pc + 8) C d2 (by omega) ?_
    rw [if_neg h] at K; exact K
theorem kv_cf {c r x : kT} (K : kv dd g a b pc lv st (jk (cf c) r x) (jd (cf c) r x) (jE (cf c) r x)) : kv dd g a b pc lv st (jk c r x) (jd c r x) (jE c r x) := by
  rw [jk_cf] at K; exact K
end
theorem j_r0 {c r x : kT} : (1000 ∈ jk c r x ↔ 0 ∈ r.1) ∧ jd c r x 1000 = r.2.1 0 ∧ jE c r x 1000 = r.2.2 0 := j_r (j := 0) (by omega)

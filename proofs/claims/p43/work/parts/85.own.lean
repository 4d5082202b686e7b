/-! P43: THE OBJECT'S OWN METHODS, IN LPo'S WORDS -/
theorem kCi_imp {l : Launch} {y : MethodName} {ws : List Cond} {rm : Room} {mc ms : Nat} {dd : kDD} {vs : List Value} {u0 : kT} {post post2 : Int32 → kT → Prop} (h : kCi l y ws rm mc ms dd vs u0 post) (hi : ∀ r u, post r u → post2 r u) : kCi l y ws rm mc ms dd vs u0 post2 := by
  intro hst sz p e ha hc hk s m args below hf happ hP hK
  obtain ⟨n, o, a1, a2, a3, ⟨⟨r9, u, q1, hp, hB⟩, hF⟩, L, a5, a6⟩ := h hst sz p e ha hc hk s m args below hf happ hP hK
  exact ⟨n, o, a1, a2, a3, ⟨⟨r9, u, q1, hi r9 u hp, hB⟩, hF⟩, L, a5, a6⟩
theorem kCl_imp {l : Launch} {y : MethodName} {ws : List Cond} {rm : Room} {mc ms : Nat} {dd : kDD} {vs : List Value} {u0 : kT} {post post2 : Int64 → kT → Prop} (h : kCl l y ws rm mc ms dd vs u0 post) (hi : ∀ r u, post r u → post2 r u) : kCl l y ws rm mc ms dd vs u0 post2 := by
  intro hst sz p e ha hc hk s m args below hf happ hP hK
  obtain ⟨n, o, a1, a2, a3, ⟨⟨r9, u, q1, hp, hB⟩, hF⟩, L, a5, a6⟩ := h hst sz p e ha hc hk s m args below hf happ hP hK
  exact ⟨n, o, a1, a2, a3, ⟨⟨r9, u, q1, hi r9 u hp, hB⟩, hF⟩, L, a5, a6⟩
theorem kCfX_imp {l : Launch} {y : MethodName} {ws : List Cond} {rm : Room} {mc ms : Nat} {dd : kDD} {vs : List Value} {u0 : kT} {post post2 : UInt32 → kT → Prop} {xp xp2 : String → kT → Prop} (h : kCfX l y ws rm mc ms dd vs u0 post xp) (hi : ∀ r u, post r u → post2 r u) (hx : ∀ X9 u, xp X9 u → xp2 X9 u) : kCfX l y ws rm mc ms dd vs u0 post2 xp2 := by
  intro hst sz p e ha hc hk s m args below hf happ hP hK
  obtain ⟨n, o, a1, a2, a3, hq⟩ := h hst sz p e ha hc hk s m args below hf happ hP hK
  rcases hq with ⟨⟨⟨r9, u, q1, hp, hB⟩, hF⟩, L, a5, a6⟩ | ⟨q, hq1, X9, ce, L, ⟨u1, t1, ⟨hx1, hB⟩, hF⟩, t2, t3, t4, t5, t6, t7⟩
  · exact ⟨n, o, a1, a2, a3, Or.inl ⟨⟨⟨r9, u, q1, hi r9 u hp, hB⟩, hF⟩, L, a5, a6⟩⟩
  · exact ⟨n, o, a1, a2, a3, Or.inr ⟨q, hq1, X9, ce, L, ⟨u1, t1, ⟨hx X9 u1 hx1, hB⟩, hF⟩, t2, t3, t4, t5, t6, t7⟩⟩
theorem kCdX_imp {l : Launch} {y : MethodName} {ws : List Cond} {rm : Room} {mc ms : Nat} {dd : kDD} {vs : List Value} {u0 : kT} {post post2 : UInt64 → kT → Prop} {xp xp2 : String → kT → Prop} (h : kCdX l y ws rm mc ms dd vs u0 post xp) (hi : ∀ r u, post r u → post2 r u) (hx : ∀ X9 u, xp X9 u → xp2 X9 u) : kCdX l y ws rm mc ms dd vs u0 post2 xp2 := by
  intro hst sz p e ha hc hk s m args below hf happ hP hK
  obtain ⟨n, o, a1, a2, a3, hq⟩ := h hst sz p e ha hc hk s m args below hf happ hP hK
  rcases hq with ⟨⟨⟨r9, u, q1, hp, hB⟩, hF⟩, L, a5, a6⟩ | ⟨q, hq1, X9, ce, L, ⟨u1, t1, ⟨hx1, hB⟩, hF⟩, t2, t3, t4, t5, t6, t7⟩
  · exact ⟨n, o, a1, a2, a3, Or.inl ⟨⟨⟨r9, u, q1, hi r9 u hp, hB⟩, hF⟩, L, a5, a6⟩⟩
  · exact ⟨n, o, a1, a2, a3, Or.inr ⟨q, hq1, X9, ce, L, ⟨u1, t1, ⟨hx X9 u1 hx1, hB⟩, hF⟩, t2, t3, t4, t5, t6, t7⟩⟩
section
variable {dd : kDD} {c wr wx : kT} {M : mS} {nR nC nt nL nW nV nM : Nat} {cn nm mn me li rl : Nat → Nat} {xa : Nat}
theorem LP_obj (h : LPo dd c M nR nC nt nL nW nV nM cn nm mn me li rl xa) : 0 ∈ jk c wr wx ∧ jE c wr wx 0 = .inr (13, [.ref (c.2.1 1), .ref (c.2.1 2), .int (M.1 24)]) := by
  obtain ⟨-, -, ⟨F, e, he, hO, -⟩, -⟩ := h
  exact ⟨j_c0.1.mpr hO.1.1, j_c0.2.2.trans (by rw [he]; exact (cE_ne (by omega)).trans hO.1.2)⟩
theorem LP_ref (h : LPo dd c M nR nC nt nL nW nV nM cn nm mn me li rl xa) : jd c wr wx 0 = xa := j_c0.2.1.trans h.2.2.2
theorem cf_ad {ks : List Nat} {ad : Nat → Nat} {E : Nat → va_E} (h : cf c = (ks, ad, E)) : jd c wr wx 0 = ad 0 := j_c0.2.1.trans (congrFun (congrArg (fun u : kT => u.2.1) h) 0)
end
/-- the state with another set on -/
def Mo (M : mS) (o : Int32) : mS := (va_up M.1 24 o, M.2)

/-! P43: ANSWERS PICKED -/
theorem q_in {n r : Nat} {F : Nat → Int64} {x k : Int64} (h : (∃ j, (j < n ∧ nI r = nI j) ∧ x = F j) ∨ ((¬ ∃ j, j < n ∧ nI r = nI j) ∧ x = k)) (hr : r < n) (hn : n ≤ 100) : x = F r := by
  rcases h with ⟨j, ⟨h1, h2⟩, h3⟩ | ⟨h1, -⟩
  · rw [nI_inj (by omega) (by omega) h2]; exact h3
  · exact absurd ⟨r, hr, rfl⟩ h1
theorem q_out {n : Nat} {F : Nat → Int64} {x k : Int64} (h : (∃ j, (j < n ∧ nI n = nI j) ∧ x = F j) ∨ ((¬ ∃ j, j < n ∧ nI n = nI j) ∧ x = k)) (hn : n ≤ 100) : x = k := by
  rcases h with ⟨j, ⟨h1, h2⟩, h3⟩ | ⟨-, h1⟩
  · have := nI_inj (by omega) (by omega) h2; omega
  · exact h1
theorem q_yes {P : Prop} {x a k : Int64} (h : (P ∧ x = a) ∨ (¬ P ∧ x = k)) (p : P) : x = a := by
  rcases h with h | h
  · exact h.2
  · exact absurd p h.1
theorem q_no {P : Prop} {x a k : Int64} (h : (P ∧ x = a) ∨ (¬ P ∧ x = k)) (p : ¬ P) : x = k := by
  rcases h with h | h
  · exact absurd h.1 p
  · exact h.2
theorem q_t (t : Nat) (h : t < 6) : 0 ≤ nI t ∧ nI t ≤ 5 := (by decide : ∀ q : Fin 6, 0 ≤ nI q.1 ∧ nI q.1 ≤ 5) ⟨t, h⟩
theorem q_in2 {n m r s : Nat} {F : Nat → Nat → Int64} {x k : Int64} (h : (∃ j k, (j < n ∧ k < m ∧ nI r = nI j ∧ nI s = nI k) ∧ x = F j k) ∨ (¬ ((∃ j, j < n ∧ nI r = nI j) ∧ ∃ j, j < m ∧ nI s = nI j) ∧ x = k)) (hr : r < n) (hs : s < m) (hn : n ≤ 100) (hm : m ≤ 100) : x = F r s := by
  rcases h with ⟨j, k, ⟨h1, h2, h3, h4⟩, h5⟩ | ⟨h1, -⟩
  · rw [nI_inj (by omega) (by omega) h3, nI_inj (by omega) (by omega) h4]; exact h5
  · exact absurd ⟨⟨r, hr, rfl⟩, s, hs, rfl⟩ h1
theorem q_out2 {n m : Nat} {v : Int32} {F : Nat → Nat → Int64} {x k : Int64} (h : (∃ j k, (j < n ∧ k < m ∧ v = nI j ∧ nI m = nI k) ∧ x = F j k) ∨ (¬ ((∃ j, j < n ∧ v = nI j) ∧ ∃ j, j < m ∧ nI m = nI j) ∧ x = k)) (hm : m ≤ 100) : x = k := by
  rcases h with ⟨j, k, ⟨h1, h2, h3, h4⟩, h5⟩ | ⟨-, h1⟩
  · have := nI_inj (by omega) (by omega) h4; omega
  · exact h1
theorem q_ind {n r : Nat} {x k : Int64} (h : (∃ j, (j < n ∧ nI r = nI j) ∧ ∃ d, 1 ≤ d ∧ d ≤ 3 ∧ x = (nI d).toInt64) ∨ ((¬ ∃ j, j < n ∧ nI r = nI j) ∧ x = k)) (hr : r < n) : ∃ d, 1 ≤ d ∧ d ≤ 3 ∧ x = (nI d).toInt64 := by
  rcases h with ⟨j, ⟨h1, h2⟩, h3⟩ | ⟨h1, -⟩
  · exact h3
  · exact absurd ⟨r, hr, rfl⟩ h1
theorem q_outd {n : Nat} {x k : Int64} (h : (∃ j, (j < n ∧ nI n = nI j) ∧ ∃ d, 1 ≤ d ∧ d ≤ 3 ∧ x = (nI d).toInt64) ∨ ((¬ ∃ j, j < n ∧ nI n = nI j) ∧ x = k)) (hn : n ≤ 100) : x = k := by
  rcases h with ⟨j, ⟨h1, h2⟩, h3⟩ | ⟨-, h1⟩
  · have := nI_inj (by omega) (by omega) h2; omega
  · exact h1

set_option maxRecDepth 100000 in
set_option maxHeartbeats 4000000 in
theorem b_net (l : Launch) {dd : kDD} {c : kT} (wr wx : kT) {M : mS} {nR nC nt nL nW nV nM : Nat} {cn nm mn me li rl : Nat → Nat} {xa : Nat} (h : LPo dd c M nR nC nt nL nW nV nM cn nm mn me li rl xa) : kCl l yX10_net wsX10_net ({ frames := 9, cells := 0, slots := 0, locals := 202 } : Room) 0 0 dd [.ref (jd c wr wx 0)] (jk c wr wx, jd c wr wx, jE c wr wx) (kQl (S := kT) (fun r z => LPo dd z M nR nC nt nL nW nV nM cn nm mn me li rl xa ∧ r = (wvS M nR nC nt nL nW nV nM cn nm mn me li rl (M.1 24)) ∧ ((wvS M nR nC nt nL nW nV nM cn nm mn me li rl (M.1 24)) = msumJ (wvL M nR nC nt nL nW nV nM cn nm mn me li rl (M.1 24)) 0 nL ∧ (wvS M nR nC nt nL nW nV nM cn nm mn me li rl (M.1 24)) = msumJ (fun t => (wvR M nR nC nt nL nW nV nM cn nm mn me li rl (M.1 24)) (nI t)) 0 6 ∧ (wvK M nR nC nt nL nW nV nM cn nm mn me li rl (M.1 24)) 0 + (wvK M nR nC nt nL nW nV nM cn nm mn me li rl (M.1 24)) 1 + (wvK M nR nC nt nL nW nV nM cn nm mn me li rl (M.1 24)) 2 = (wvS M nR nC nt nL nW nV nM cn nm mn me li rl (M.1 24)))) (fun z => jk z wr wx) (fun z => jd z wr wx) (fun z => jE z wr wx)) := by
  obtain ⟨ks, ad, E, e, hks, hcf, rfl, hI, hXp, hO, hR, hC, hT, hL, hW, hV, hM⟩ := LP_open h
  obtain ⟨iR, iC, iT, iL, iW, iV, iM, hcn, hnm, hmn, hme, hs2, hli, hB, hpk, hmI, hmR, hmIc, hmRc, hlG⟩ := rI_all hI
  rw [JW_cf hcf, cf_ad hcf]
  refine kCl_imp (kCl_frC (c := (ks, ad, cE dd E e)) (r := wr) (x := wx) (by rw [cf_id hks]; exact c_X10_net l dd ks ad E e M nR nC nt nL nW nV nM cn nm mn me li rl (M.1 24) hO hR hC hT hL hW hV hM hB (cmI (M.2.1 22) nV) (cmI (M.2.1 23) nV) hmIc hmRc hpk (rI_fx hI))) (fun r u hu => ?_)
  obtain ⟨z, hp, rfl⟩ := hu
  obtain ⟨hdn, rfl⟩ := hp
  exact ⟨(ks, ad, cE dd E z), ⟨LP_mk z hI hXp hO hR hC hT hL hW hV hM, ⟨w_S hI hdn, w_sums hI hdn⟩⟩, rfl⟩
set_option maxRecDepth 100000 in
set_option maxHeartbeats 4000000 in
theorem b_extra (l : Launch) {dd : kDD} {c : kT} (wr wx : kT) {M : mS} {nR nC nt nL nW nV nM : Nat} {cn nm mn me li rl : Nat → Nat} {xa : Nat} (h : LPo dd c M nR nC nt nL nW nV nM cn nm mn me li rl xa) : kCl l yX10_extra wsX10_extra ({ frames := 9, cells := 0, slots := 0, locals := 202 } : Room) 0 0 dd [.ref (jd c wr wx 0)] (jk c wr wx, jd c wr wx, jE c wr wx) (kQl (S := kT) (fun r z => LPo dd z M nR nC nt nL nW nV nM cn nm mn me li rl xa ∧ r = (wvE M nR nC nt nL nW nV nM cn nm mn me li rl (M.1 24))) (fun z => jk z wr wx) (fun z => jd z wr wx) (fun z => jE z wr wx)) := by
  obtain ⟨ks, ad, E, e, hks, hcf, rfl, hI, hXp, hO, hR, hC, hT, hL, hW, hV, hM⟩ := LP_open h
  obtain ⟨iR, iC, iT, iL, iW, iV, iM, hcn, hnm, hmn, hme, hs2, hli, hB, hpk, hmI, hmR, hmIc, hmRc, hlG⟩ := rI_all hI
  rw [JW_cf hcf, cf_ad hcf]
  refine kCl_imp (kCl_frC (c := (ks, ad, cE dd E e)) (r := wr) (x := wx) (by rw [cf_id hks]; exact c_X10_extra l dd ks ad E e M nR nC nt nL nW nV nM cn nm mn me li rl (M.1 24) hO hR hC hT hL hW hV hM hB (cmI (M.2.1 22) nV) (cmI (M.2.1 23) nV) hmIc hmRc hpk (rI_fx hI))) (fun r u hu => ?_)
  obtain ⟨z, hp, rfl⟩ := hu
  obtain ⟨hdn, rfl⟩ := hp
  exact ⟨(ks, ad, cE dd E z), ⟨LP_mk z hI hXp hO hR hC hT hL hW hV hM, w_E hI hdn⟩, rfl⟩
set_option maxRecDepth 100000 in
set_option maxHeartbeats 4000000 in
theorem b_total (l : Launch) {dd : kDD} {c : kT} (wr wx : kT) {M : mS} {nR nC nt nL nW nV nM : Nat} {cn nm mn me li rl : Nat → Nat} {xa : Nat} (h : LPo dd c M nR nC nt nL nW nV nM cn nm mn me li rl xa) : kCl l yX10_total wsX10_total ({ frames := 9, cells := 0, slots := 0, locals := 202 } : Room) 0 0 dd [.ref (jd c wr wx 0)] (jk c wr wx, jd c wr wx, jE c wr wx) (kQl (S := kT) (fun r z => LPo dd z M nR nC nt nL nW nV nM cn nm mn me li rl xa ∧ r = (wvT M nR nC nt nL nW nV nM cn nm mn me li rl (M.1 24))) (fun z => jk z wr wx) (fun z => jd z wr wx) (fun z => jE z wr wx)) := by
  obtain ⟨ks, ad, E, e, hks, hcf, rfl, hI, hXp, hO, hR, hC, hT, hL, hW, hV, hM⟩ := LP_open h
  obtain ⟨iR, iC, iT, iL, iW, iV, iM, hcn, hnm, hmn, hme, hs2, hli, hB, hpk, hmI, hmR, hmIc, hmRc, hlG⟩ := rI_all hI
  rw [JW_cf hcf, cf_ad hcf]
  refine kCl_imp (kCl_frC (c := (ks, ad, cE dd E e)) (r := wr) (x := wx) (by rw [cf_id hks]; exact c_X10_total l dd ks ad E e M nR nC nt nL nW nV nM cn nm mn me li rl (M.1 24) hO hR hC hT hL hW hV hM hB (cmI (M.2.1 22) nV) (cmI (M.2.1 23) nV) hmIc hmRc hpk (rI_fx hI))) (fun r u hu => ?_)
  obtain ⟨z, hp, rfl⟩ := hu
  obtain ⟨hdn, rfl⟩ := hp
  exact ⟨(ks, ad, cE dd E z), ⟨LP_mk z hI hXp hO hR hC hT hL hW hV hM, w_T hI hdn⟩, rfl⟩
set_option maxRecDepth 100000 in
set_option maxHeartbeats 4000000 in
theorem b_isSound (l : Launch) {dd : kDD} {c : kT} (wr wx : kT) {M : mS} {nR nC nt nL nW nV nM : Nat} {cn nm mn me li rl : Nat → Nat} {xa : Nat} (h : LPo dd c M nR nC nt nL nW nV nM cn nm mn me li rl xa) : kCi l yX10_isSound wsX10_isSound ({ frames := 12, cells := 0, slots := 0, locals := 289 } : Room) 0 0 dd [.ref (jd c wr wx 0)] (jk c wr wx, jd c wr wx, jE c wr wx) (kQi (S := kT) (fun r z => LPo dd z M nR nC nt nL nW nV nM cn nm mn me li rl xa ∧ r = 1) (fun z => jk z wr wx) (fun z => jd z wr wx) (fun z => jE z wr wx)) := by
  obtain ⟨ks, ad, E, e, hks, hcf, rfl, hI, hXp, hO, hR, hC, hT, hL, hW, hV, hM⟩ := LP_open h
  obtain ⟨iR, iC, iT, iL, iW, iV, iM, hcn, hnm, hmn, hme, hs2, hli, hB, hpk, hmI, hmR, hmIc, hmRc, hlG⟩ := rI_all hI
  rw [JW_cf hcf, cf_ad hcf]
  refine kCi_imp (kCi_frC (c := (ks, ad, cE dd E e)) (r := wr) (x := wx) (by rw [cf_id hks]; exact c_X10_isSound l dd ks ad E e M nR nC nt nL nW nV nM cn nm mn me li rl (M.1 24) hO hR hC hT hL hW hV hM hB (cmI (M.2.1 22) nV) (cmI (M.2.1 23) nV) hmIc hmRc hpk (rI_fx hI))) (fun r u hu => ?_)
  obtain ⟨z, hp, rfl⟩ := hu
  obtain ⟨hdn, ⟨rfl, -⟩ | ⟨-, hno⟩⟩ := hp
  · exact ⟨(ks, ad, cE dd E z), ⟨LP_mk z hI hXp hO hR hC hT hL hW hV hM, rfl⟩, rfl⟩
  · exact absurd (v_sound (rI_v hI _) (rI_ki hI) (rI_tr hI) hdn) hno
set_option maxRecDepth 100000 in
set_option maxHeartbeats 4000000 in
theorem b_cheapestVariants (l : Launch) {dd : kDD} {c : kT} (wr wx : kT) {M : mS} {nR nC nt nL nW nV nM : Nat} {cn nm mn me li rl : Nat → Nat} {xa : Nat} (h : LPo dd c M nR nC nt nL nW nV nM cn nm mn me li rl xa) : kCi l yX10_cheapestVariants wsX10_cheapestVariants ({ frames := 8, cells := 0, slots := 0, locals := 181 } : Room) 0 0 dd [.ref (jd c wr wx 0)] (jk c wr wx, jd c wr wx, jE c wr wx) (kQi (S := kT) (fun r z => LPo dd z M nR nC nt nL nW nV nM cn nm mn me li rl xa ∧ ∃ le, mB (fun n => kFx (M.2.1 13) cn (fun k => cmI (M.2.1 22) nV (nI n) (nm k)) (nJ (M.2.1 13) cn (fun k => cmI (M.2.1 22) nV (nI n) (nm k)) 2) nt) (fun n => (wvT M nR nC nt nL nW nV nM cn nm mn me li rl (nI n))) (2 ^ nV) r le) (fun z => jk z wr wx) (fun z => jd z wr wx) (fun z => jE z wr wx)) := by
  obtain ⟨ks, ad, E, e, hks, hcf, rfl, hI, hXp, hO, hR, hC, hT, hL, hW, hV, hM⟩ := LP_open h
  obtain ⟨iR, iC, iT, iL, iW, iV, iM, hcn, hnm, hmn, hme, hs2, hli, hB, hpk, hmI, hmR, hmIc, hmRc, hlG⟩ := rI_all hI
  rw [JW_cf hcf, cf_ad hcf]
  refine kCi_imp (kCi_frC (c := (ks, ad, cE dd E e)) (r := wr) (x := wx) (by rw [cf_id hks]; exact c_X10_cheapestVariants l dd ks ad E e M nR nC nt nL nW nV nM cn nm mn me li rl (M.1 24) hO hR hC hT hL hW hV hM hB (cmI (M.2.1 22) nV) (cmI (M.2.1 23) nV) hmIc hmRc hpk)) (fun r u hu => ?_)
  obtain ⟨z, hp, rfl⟩ := hu
  obtain ⟨le, hp⟩ := hp
  exact ⟨(ks, ad, cE dd E z), ⟨LP_mk z hI hXp hO hR hC hT hL hW hV hM, ⟨le, hp⟩⟩, rfl⟩
set_option maxRecDepth 100000 in
set_option maxHeartbeats 4000000 in
theorem b_share (l : Launch) {dd : kDD} {c : kT} (wr wx : kT) {M : mS} {nR nC nt nL nW nV nM : Nat} {cn nm mn me li rl : Nat → Nat} {xa : Nat} (h : LPo dd c M nR nC nt nL nW nV nM cn nm mn me li rl xa) : kCfX l yX10_share wsX10_share ({ frames := 9, cells := 2, slots := 12, locals := 202 } : Room) 2 12 dd [.ref (jd c wr wx 0), .int 0] (jk c wr wx, jd c wr wx, jE c wr wx) (kQf (S := kT) (fun r z => LPo dd z M nR nC nt nL nW nV nM cn nm mn me li rl xa ∧ ¬ (wvS M nR nC nt nL nW nV nM cn nm mn me li rl (M.1 24)) = 0 ∧ r = FP.fdiv (FP.l2f ((wvK M nR nC nt nL nW nV nM cn nm mn me li rl (M.1 24)) 0)) (FP.l2f (wvS M nR nC nt nL nW nV nM cn nm mn me li rl (M.1 24)))) (fun z => jk z wr wx) (fun z => jd z wr wx) (fun z => jE z wr wx)) (fun X9 u9 => X9 = "java/lang/ArithmeticException" ∧ (wvS M nR nC nt nL nW nV nM cn nm mn me li rl (M.1 24)) = 0 ∧ ∃ c2, LPo dd c2 M nR nC nt nL nW nV nM cn nm mn me li rl xa ∧ u9 = (jk c2 wr wx, jd c2 wr wx, jE c2 wr wx)) := by
  obtain ⟨ks, ad, E, e, hks, hcf, rfl, hI, hXp, hO, hR, hC, hT, hL, hW, hV, hM⟩ := LP_open h
  obtain ⟨iR, iC, iT, iL, iW, iV, iM, hcn, hnm, hmn, hme, hs2, hli, hB, hpk, hmI, hmR, hmIc, hmRc, hlG⟩ := rI_all hI
  rw [JW_cf hcf, cf_ad hcf]
  refine kCfX_imp (kCfX_frC (c := (ks, ad, cE dd E e)) (r := wr) (x := wx) (by rw [cf_id hks]; exact c_X10_share l dd ks ad E e M nR nC nt nL nW nV nM cn nm mn me li rl (M.1 24) hO hR hC hT hL hW hV hM hB (cmI (M.2.1 22) nV) (cmI (M.2.1 23) nV) hmIc hmRc hpk 0 (rI_fx hI))) (fun r u hu => ?_) (fun X9 u hu => ?_)
  ·
    obtain ⟨z, hp, rfl⟩ := hu
    obtain ⟨hv, hdn, hn, rfl⟩ := hp
    exact ⟨(ks, ad, cE dd E z), ⟨LP_mk z hI hXp hO hR hC hT hL hW hV hM, by rw [← w_S hI hdn]; exact hn, by rw [w_K hI hdn, w_S hI hdn]⟩, rfl⟩
  ·
    obtain ⟨u1, ⟨e9, rfl, hX⟩, rfl⟩ := hu
    rcases hX with ⟨-, hX⟩ | ⟨rfl, hv, hdn, h0⟩
    · exact absurd (Or.inl rfl) hX
    · exact ⟨rfl, by rw [← w_S hI hdn]; exact h0, _, LP_mk e9 hI hXp hO hR hC hT hL hW hV hM, rfl⟩
set_option maxRecDepth 100000 in
set_option maxHeartbeats 4000000 in
theorem b_factor (l : Launch) {dd : kDD} {c : kT} (wr wx : kT) {M : mS} {nR nC nt nL nW nV nM : Nat} {cn nm mn me li rl : Nat → Nat} {xa : Nat} (h : LPo dd c M nR nC nt nL nW nV nM cn nm mn me li rl xa) : kCdX l yX10_factor wsX10_factor ({ frames := 9, cells := 1, slots := 6, locals := 202 } : Room) 1 6 dd [.ref (jd c wr wx 0)] (jk c wr wx, jd c wr wx, jE c wr wx) (kQd (S := kT) (fun r z => LPo dd z M nR nC nt nL nW nV nM cn nm mn me li rl xa ∧ ¬ (wvS M nR nC nt nL nW nV nM cn nm mn me li rl (M.1 24)) = 0 ∧ r = FP.ddiv (FP.l2d (wvT M nR nC nt nL nW nV nM cn nm mn me li rl (M.1 24))) (FP.l2d (wvS M nR nC nt nL nW nV nM cn nm mn me li rl (M.1 24)))) (fun z => jk z wr wx) (fun z => jd z wr wx) (fun z => jE z wr wx)) (fun X9 u9 => X9 = "java/lang/ArithmeticException" ∧ (wvS M nR nC nt nL nW nV nM cn nm mn me li rl (M.1 24)) = 0 ∧ ∃ c2, LPo dd c2 M nR nC nt nL nW nV nM cn nm mn me li rl xa ∧ u9 = (jk c2 wr wx, jd c2 wr wx, jE c2 wr wx)) := by
  obtain ⟨ks, ad, E, e, hks, hcf, rfl, hI, hXp, hO, hR, hC, hT, hL, hW, hV, hM⟩ := LP_open h
  obtain ⟨iR, iC, iT, iL, iW, iV, iM, hcn, hnm, hmn, hme, hs2, hli, hB, hpk, hmI, hmR, hmIc, hmRc, hlG⟩ := rI_all hI
  rw [JW_cf hcf, cf_ad hcf]
  refine kCdX_imp (kCdX_frC (c := (ks, ad, cE dd E e)) (r := wr) (x := wx) (by rw [cf_id hks]; exact c_X10_factor l dd ks ad E e M nR nC nt nL nW nV nM cn nm mn me li rl (M.1 24) hO hR hC hT hL hW hV hM hB (cmI (M.2.1 22) nV) (cmI (M.2.1 23) nV) hmIc hmRc hpk (rI_fx hI))) (fun r u hu => ?_) (fun X9 u hu => ?_)
  ·
    obtain ⟨z, hp, rfl⟩ := hu
    obtain ⟨hdn, hn, rfl⟩ := hp
    exact ⟨(ks, ad, cE dd E z), ⟨LP_mk z hI hXp hO hR hC hT hL hW hV hM, by rw [← w_S hI hdn]; exact hn, by rw [w_T hI hdn, w_S hI hdn]⟩, rfl⟩
  ·
    obtain ⟨u1, ⟨e9, rfl, hX⟩, rfl⟩ := hu
    obtain ⟨rfl, hdn, h0⟩ := hX
    exact ⟨rfl, by rw [← w_S hI hdn]; exact h0, _, LP_mk e9 hI hXp hO hR hC hT hL hW hV hM, rfl⟩
theorem Mo_rI {M : mS} {nR nC nt nL nW nV nM : Nat} {cn nm mn me li rl : Nat → Nat} {j : Nat} (hI : rI M nR nC nt nL nW nV nM cn nm mn me li rl (M.1 24)) (hj : j < nV) (hfx : kFx (M.2.1 13) cn (fun k => cmI (M.2.1 22) nV ((M.1 24) ^^^ ((1 : Int32) <<< (nI j &&& 31))) (nm k)) (nJ (M.2.1 13) cn (fun k => cmI (M.2.1 22) nV ((M.1 24) ^^^ ((1 : Int32) <<< (nI j &&& 31))) (nm k)) 2) nt) : rI (Mo M ((M.1 24) ^^^ ((1 : Int32) <<< (nI j &&& 31)))) nR nC nt nL nW nV nM cn nm mn me li rl ((Mo M ((M.1 24) ^^^ ((1 : Int32) <<< (nI j &&& 31)))).1 24) := by
  have h := rI_turn (D := fun _ => 0) (X := fun _ => 0) hI hj hfx
  refine rI_same (M2 := Mo M ((M.1 24) ^^^ ((1 : Int32) <<< (nI j &&& 31)))) (M := (va_up (va_up M.1 0 0) 24 ((M.1 24) ^^^ ((1 : Int32) <<< (nI j &&& 31))), va_up M.2.1 30 (fun _ => 0), va_up M.2.2 33 (fun _ => 0))) h (fun k hk => ?_) (fun k hk => ?_)
  · show va_up M.1 24 ((M.1 24) ^^^ ((1 : Int32) <<< (nI j &&& 31))) k = va_up (va_up M.1 0 0) 24 ((M.1 24) ^^^ ((1 : Int32) <<< (nI j &&& 31))) k
    by_cases c : k = 24
    · rw [c, va_up_self, va_up_self]
    · rw [va_up_ne _ _ c, va_up_ne _ _ c, va_up_ne _ _ hk]
  · show M.2.1 k = va_up M.2.1 30 (fun _ => 0) k
    exact (va_up_ne _ _ hk).symm

set_option maxRecDepth 100000 in
set_option maxHeartbeats 4000000 in
theorem d_turn (l : Launch) {dd : kDD} {c : kT} (wr wx : kT) {M : mS} {nR nC nt nL nW nV nM : Nat} {cn nm mn me li rl : Nat → Nat} {xa : Nat} (h : LPo dd c M nR nC nt nL nW nV nM cn nm mn me li rl xa) (j : Nat) (hj : j < nV) (p u0 u1 : Int32) (hp01 : p = 0 ∨ p = 1) : kCi l yL_deed (wsL_deed ++ kHp) ({ frames := 13, cells := 12, slots := 170, locals := 300 } : Room) 12 170 dd [.ref xa, .int 14, .int (nI j), .int p, .int u0, .int u1] (jk c wr wx, jd c wr wx, jE c wr wx) (kQi (S := kT) (fun r z => ∃ b : Int32, (b = 0 ∨ b = 1) ∧ (b = 1 ↔ (M.1 24) >>> (nI j &&& 31) &&& 1 = 1) ∧ ((b = p ∧ r = b ∧ LPo dd z M nR nC nt nL nW nV nM cn nm mn me li rl xa) ∨ (¬ b = p ∧ kFx (M.2.1 13) cn (fun k => cmI (M.2.1 22) nV ((M.1 24) ^^^ ((1 : Int32) <<< (nI j &&& 31))) (nm k)) (nJ (M.2.1 13) cn (fun k => cmI (M.2.1 22) nV ((M.1 24) ^^^ ((1 : Int32) <<< (nI j &&& 31))) (nm k)) 2) nt ∧ r = b ∧ LPo dd z (Mo M ((M.1 24) ^^^ ((1 : Int32) <<< (nI j &&& 31)))) nR nC nt nL nW nV nM cn nm mn me li rl xa) ∨ (¬ b = p ∧ ¬ kFx (M.2.1 13) cn (fun k => cmI (M.2.1 22) nV ((M.1 24) ^^^ ((1 : Int32) <<< (nI j &&& 31))) (nm k)) (nJ (M.2.1 13) cn (fun k => cmI (M.2.1 22) nV ((M.1 24) ^^^ ((1 : Int32) <<< (nI j &&& 31))) (nm k)) 2) nt ∧ r = -2004 ∧ LPo dd z M nR nC nt nL nW nV nM cn nm mn me li rl xa))) (fun z => jk z wr wx) (fun z => jd z wr wx) (fun z => jE z wr wx)) := by
  obtain ⟨ks, ad, E, e, hks, hcf, rfl, hI, hXp, hO, hR, hC, hT, hL, hW, hV, hM⟩ := LP_open h
  have bb := rI_b hI
  obtain ⟨iR, iC, iT, iL, iW, iV, iM, hcn, hnm, hmn, hme, hs2, hli, hB, hpk, hmI, hmR, hmIc, hmRc, hlG⟩ := rI_all hI
  rw [JW_cf hcf]
  refine kMetiW (ws' := _) (cc := cL_deed) (maxL := 7) (rt := .int) (by decide) rfl (Nat.le_of_ble_eq_true rfl) (fun g X hr htb hnL hRR hl0 => ?_)
  show kv dd g 0 0 0 [(0, .ref (ad 0)), (1, .int 14), (2, .int (nI j)), (3, .int p), (4, .int u0), (5, .int u1)] [] (jk (ks, ad, cE dd E e) wr wx) (jd (ks, ad, cE dd E e) wr wx) (jE (ks, ad, cE dd E e) wr wx)
  refine kv_aload_n X 0 dL_deed_0 rfl rfl ?_
  refine kv_iload_n X 1 dL_deed_1 rfl rfl ?_
  refine kv_iload_n X 2 dL_deed_2 rfl rfl ?_
  refine kv_iload_n X 3 dL_deed_3 rfl rfl ?_
  refine kv_iload X 4 dL_deed_4 rfl ?_
  refine kv_iload X 5 dL_deed_6 rfl ?_
  refine kv_calliXSc (As := [.ref (ad 0), .int 14, .int (nI j), .int p, .int u0, .int u1]) [] X (c_L_plain_turn l dd ks ad E e wr wx hks M nR nC nt nL nW nV nM cn nm mn me li rl (M.1 24) hO hR hC hT hL hW hV hM hB (cmI (M.2.1 22) nV) (cmI (M.2.1 23) nV) hmIc hmRc hpk (nI j) p u0 u1 hp01) hl0 (kCS_of X 6 (goodIn_ext gL_deed_L_plain) rfl rfl rfl (by decide +kernel) hRR ⟨(Nat.le_of_ble_eq_true rfl), (Nat.le_of_ble_eq_true rfl)⟩) rfl rfl (Nat.le_of_ble_eq_true rfl) hRR ⟨(Nat.le_of_ble_eq_true rfl), (Nat.le_of_ble_eq_true rfl)⟩ dL_deed_8 (fun X9 u hX => ?_) (fun r9 z hp => ?_)
  ·
    obtain ⟨u1, ⟨e9, rfl, hX⟩, rfl⟩ := hX
    rcases hX with ⟨rfl, hX⟩ | ⟨rfl, j2, ⟨hj2, ej⟩, hb, hno⟩
    · exact absurd ⟨j, hj, rfl⟩ hX
    ·
      obtain rfl := nI_inj (by omega) (by omega) ej
      have hbit : ∃ b : Int32, (b = 0 ∨ b = 1) ∧ (b = 1 ↔ (M.1 24) >>> (nI j &&& 31) &&& 1 = 1) ∧ ¬ b = p := by
        rcases hb with ⟨b1, b2⟩ | ⟨b1, b2⟩
        · exact ⟨1, Or.inr rfl, ⟨fun _ => b1, fun _ => rfl⟩, fun q => b2 q.symm⟩
        · exact ⟨0, Or.inl rfl, ⟨fun q => absurd q (by decide), fun q => absurd q b1⟩, fun q => b2 q.symm⟩
      obtain ⟨b, hb1, hb2, hb3⟩ := hbit
      refine kvx_catch (nm := "java/lang/UnsupportedOperationException") X htb [(⟨0, 11, 12, 82⟩ : ExceptionTableEntry), (⟨0, 11, 18, 84⟩ : ExceptionTableEntry), (⟨0, 11, 24, 86⟩ : ExceptionTableEntry)] (⟨0, 11, 30, 88⟩ : ExceptionTableEntry) [(⟨0, 11, 36, 90⟩ : ExceptionTableEntry)] rfl (fun z hz => by
          simp only [List.mem_cons, List.not_mem_nil, or_false] at hz
          rcases hz with rfl | rfl | rfl
          · exact ⟨by decide, _, (List.mem_append_right _ (List.mem_of_getElem? (i := 0) rfl)), by decide +kernel⟩
          · exact ⟨by decide, _, (List.mem_append_right _ (List.mem_of_getElem? (i := 1) rfl)), by decide +kernel⟩
          · exact ⟨by decide, _, (List.mem_append_right _ (List.mem_of_getElem? (i := 2) rfl)), by decide +kernel⟩) (by decide) (by decide) (List.mem_append_right _ (List.mem_of_getElem? (i := 3) rfl)) (by decide +kernel) (fun q9 => ?_)
      show kv dd g _ _ 30 [(0, .ref (ad 0)), (1, .int 14), (2, .int (nI j)), (3, .int p), (4, .int u0), (5, .int u1)] [.ref q9] (jk (ks, ad, cE dd E e9) wr wx) (jd (ks, ad, cE dd E e9) wr wx) (jE (ks, ad, cE dd E e9) wr wx)
      refine kv_astore (lv2 := (6, .ref q9) :: [(0, .ref (ad 0)), (1, .int 14), (2, .int (nI j)), (3, .int p), (4, .int u0), (5, .int u1)]) X dL_deed_30 (by rw [hnL]; decide) rfl ?_
      refine kv_sipush (v := -2004) X dL_deed_32 (by decide) ?_
      exact kv_ireturn X hr (Nat.le_of_ble_eq_true rfl) (Nat.le_of_ble_eq_true rfl) ⟨(ks, ad, cE dd E e9), ⟨b, hb1, hb2, Or.inr (Or.inr ⟨hb3, hno, rfl, LP_mk e9 hI hXp hO hR hC hT hL hW hV hM⟩)⟩, rfl⟩ dL_deed_35
  ·
    obtain ⟨j2, ⟨hj2, ej⟩, hb, hz⟩ := hp
    obtain rfl := nI_inj (by omega) (by omega) ej
    have hb2 : (r9 = 0 ∨ r9 = 1) ∧ (r9 = 1 ↔ (M.1 24) >>> (nI j &&& 31) &&& 1 = 1) := by
      rcases hb with ⟨b1, rfl⟩ | ⟨b1, rfl⟩
      · exact ⟨Or.inr rfl, ⟨fun _ => b1, fun _ => rfl⟩⟩
      · exact ⟨Or.inl rfl, ⟨fun q => absurd q (by decide), fun q => absurd q b1⟩⟩
    rcases hz with ⟨hrp, h0, hA⟩ | ⟨hrp, hfx, h0, hA⟩
    · exact kv_ireturn X hr (Nat.le_of_ble_eq_true rfl) (Nat.le_of_ble_eq_true rfl) ⟨z, ⟨r9, hb2.1, hb2.2, Or.inl ⟨hrp, rfl, hI, hXp, hA, h0⟩⟩, rfl⟩ dL_deed_11
    ·
      have hI2 : rI (Mo M ((M.1 24) ^^^ ((1 : Int32) <<< (nI j &&& 31)))) nR nC nt nL nW nV nM cn nm mn me li rl ((Mo M ((M.1 24) ^^^ ((1 : Int32) <<< (nI j &&& 31)))).1 24) := Mo_rI hI hj hfx
      exact kv_ireturn X hr (Nat.le_of_ble_eq_true rfl) (Nat.le_of_ble_eq_true rfl) ⟨z, ⟨r9, hb2.1, hb2.2, Or.inr (Or.inl ⟨hrp, hfx, rfl, hI2, hXp, cAll_s2 hA (fun _ _ => rfl), h0⟩)⟩, rfl⟩ dL_deed_11

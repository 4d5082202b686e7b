/-! P43: LAY -/
/-- the law's own row written -/
def xI (dd : kDD) (x : kT) (f : Nat → Int32) : kT := (x.1, x.2.1, va_up x.2.2 0 (kI dd 50 f))
theorem xI_E {dd : kDD} {c r x : kT} {f : Nat → Int32} : ∀ j, va_up (jE c r x) 2000 (kI dd 50 f) j = jE c r (xI dd x f) j := fun j => jE_up (j := 0) j
/-- the object and the law's row, of the same sizes -/
def LWx (dd : kDD) (c x : kT) (xa ma nR nt nL nV nM : Nat) : Prop := ∃ fm : Nat → Int32, LQ dd c xa nR nt nL nV nM fm ∧ 0 ∈ x.1 ∧ x.2.1 0 = ma ∧ x.2.2 0 = kI dd 50 fm ∧ fm 0 = nI nR ∧ fm 1 = nI nt ∧ fm 2 = nI nL ∧ fm 3 = nI nV ∧ fm 4 = nI nM
def LWy (dd : kDD) (c x : kT) (xa ma nR nt : Nat) : Prop := nR ≤ 12 ∧ nt ≤ 12 ∧ ∃ nL nV nM, LWx dd c x xa ma nR nt nL nV nM
theorem LQ_f {dd : kDD} {c : kT} {xa nR nt nL nV nM : Nat} {f f2 : Nat → Int32} (h : LQ dd c xa nR nt nL nV nM f) (hf : ∀ i, 10 ≤ i → f2 i = f i) : LQ dd c xa nR nt nL nV nM f2 := by
  obtain ⟨M, nC, nW, cn, nm, mn, me, li, rl, h1, h2, h3⟩ := h
  exact ⟨M, nC, nW, cn, nm, mn, me, li, rl, h1, h2, fun r hr => by rw [hf _ (by omega), hf _ (by omega), hf _ (by omega)]; exact h3 r hr⟩
theorem LQ_b {dd : kDD} {c : kT} {xa nR nt nL nV nM : Nat} {f : Nat → Int32} (h : LQ dd c xa nR nt nL nV nM f) : nR ≤ 12 ∧ nt ≤ 12 ∧ nL ≤ 10 ∧ nV ≤ 4 ∧ nM ≤ 4 := by
  obtain ⟨M, nC, nW, cn, nm, mn, me, li, rl, h1, h2, h3⟩ := h
  have := rI_b h1.1
  omega
section
variable {dd : kDD} {c c2 x : kT} {xa ma nR nt nL nV nM : Nat} {fm : Nat → Int32}
theorem LWx_c (h : LWx dd c x xa ma nR nt nL nV nM) (h2 : ∀ f, LQ dd c xa nR nt nL nV nM f → LQ dd c2 xa nR nt nL nV nM f) : LWx dd c2 x xa ma nR nt nL nV nM := by
  obtain ⟨fm, h1, h3⟩ := h
  exact ⟨fm, h2 fm h1, h3⟩
end
/-- a sum of answers, m of them -/
def wb (m : Nat) (w : Int32) : Prop := -(2006 * (m : Int)) ≤ w.toInt ∧ w.toInt ≤ 10000 * (m : Int)
theorem wb_0 : wb 0 0 := by unfold wb; decide
theorem wb_m {m n : Nat} {w : Int32} (h : wb m w) (hn : m ≤ n) : wb n w := by
  unfold wb at h ⊢; omega
theorem wb_s {m : Nat} {w r : Int32} (h : wb m w) (hr : rb r) (hm : m < 100) : wb (m + 1) (w + r) := by
  unfold wb at h ⊢
  unfold rb at hr
  rw [Int32.toInt_add, Int.bmod_def]
  omega
theorem wb_2 {m : Nat} {w r r2 : Int32} (h : wb m w) (hr : rb r) (hr2 : rb r2) (hm : m < 100) : wb (m + 2) (w + (r + r2)) := by
  unfold wb at h ⊢
  unfold rb at hr hr2
  have e : (r + r2).toInt = r.toInt + r2.toInt := by rw [Int32.toInt_add, Int.bmod_def]; omega
  rw [Int32.toInt_add, e, Int.bmod_def]
  omega
theorem p16 : ∀ k : Fin 5, (16 : Int32) <<< (nI k.1 &&& 31) = nI (16 * 2 ^ k.1) ∧ 0 < 2 ^ k.1 ∧ 2 ^ k.1 ≤ 16 := by decide +kernel
theorem k3 {p : Nat} (h : p < 3) : nI p = 0 ∨ nI p = 1 ∨ nI p = 2 := (by decide : ∀ q : Fin 3, nI q.1 = 0 ∨ nI q.1 = 1 ∨ nI q.1 = 2) ⟨p, h⟩
theorem z_le {p m : Nat} (h : p ≤ m) (hm : m < 10000) : 0 ≤ nI p ∧ nI p ≤ nI m := by
  rw [Int32.le_iff_toInt_le, Int32.le_iff_toInt_le, nI_toInt (by omega), nI_toInt (by omega)]
  exact ⟨by show (0 : Int) ≤ _; omega, by omega⟩
theorem o_le {p m : Nat} (h : 1 ≤ p ∧ p ≤ m) (hm : m < 10000) : 1 ≤ nI p ∧ nI p ≤ nI m := by
  rw [Int32.le_iff_toInt_le, Int32.le_iff_toInt_le, nI_toInt (by omega), nI_toInt (by omega)]
  exact ⟨by show (1 : Int) ≤ _; omega, by omega⟩
theorem xI_xI {dd : kDD} {c r x : kT} {f f2 : Nat → Int32} : ∀ j, jE c r (xI dd (xI dd x f) f2) j = jE c r (xI dd x f2) j := by
  have e : xI dd (xI dd x f) f2 = xI dd x f2 := by
    unfold xI
    have q : va_up (va_up x.2.2 0 (kI dd 50 f)) 0 (kI dd 50 f2) = va_up x.2.2 0 (kI dd 50 f2) := by
      funext k
      by_cases c : k = 0
      · rw [c, va_up_self, va_up_self]
      · rw [va_up_ne _ _ c, va_up_ne _ _ c, va_up_ne _ _ c]
    show (x.1, x.2.1, va_up (va_up x.2.2 0 (kI dd 50 f)) 0 (kI dd 50 f2)) = _
    rw [q]
  rw [e]; exact fun _ => rfl
set_option maxRecDepth 100000 in
set_option maxHeartbeats 4000000 in
theorem ly_1 {l : Launch} {dd : kDD} {g : kG} (X : kX dd g cL_lay RL (wsL_lay ++ kHp)) (hRR : kR g = ({ frames := 14, cells := 1300, slots := 18000, locals := 330 } : Room)) (hnL : knL g = 8) (hl0 : kL g = l) {sc L : Nat} {xs : Nat → Int32} (hs : kScr g sc L xs) (hLL : L ≤ 260) {wr : kT} {xa ma : Nat}  (K : ∀ (a b : Nat) (c x : kT) (R : Nat), a ≤ 96 → b ≤ 1360 → 2 ≤ R → R ≤ 8 → LWy dd c x xa ma R 0 → kv dd g a b 186 [(3, .int 0), (0, .ref xa), (1, .ref ma), (2, .ref sc)] [] (jk c wr x) (jd c wr x) (jE c wr x)) : ∀ (n k : Nat), k + n = 8 → ∀ (a b : Nat) (c x : kT), LWy dd c x xa ma k 0 → a + 12 * n ≤ 96 → b + 170 * n ≤ 1360 → kv dd g a b 5 [(4, .int (nI k)), (3, .int 0), (0, .ref xa), (1, .ref ma), (2, .ref sc)] [] (jk c wr x) (jd c wr x) (jE c wr x) := by
  intro n
  induction n with
  | zero =>
    intro k hk a b c x hw ha hb
    refine kv_iload X 0 dL_lay_5 rfl ?_
    refine kv_iconst (v := 2) X dL_lay_7 (by decide) ?_
    refine kv_aload_n X 4 dL_lay_8 rfl rfl ?_
    refine kv_iconst (v := 0) X dL_lay_9 (by decide) ?_
    refine kv_bipush (v := 6) X dL_lay_10 (by decide) ?_
    refine kv_calliSs (As := [.ref sc, .int (nI (0)), .int (nI (6))]) [.int 2, .int (nI k)] X hs (c_L_pick l dd (jk c wr x, jd c wr x, jE c wr x) hLL (0) (6) (by omega) (by omega)) hl0 (kCS_of X 3 (goodIn_ext gL_lay_L_pick) rfl rfl rfl (by decide +kernel) hRR ⟨(Nat.le_of_ble_eq_true rfl), (Nat.le_of_ble_eq_true rfl)⟩) rfl rfl (Nat.le_of_ble_eq_true rfl) hRR ⟨(by show _ + 0 ≤ 1300; omega), (by show _ + 0 ≤ 18000; omega)⟩ dL_lay_12 (fun r12 p12 hp12 => ?_)
    obtain ⟨hp12, rfl⟩ := hp12
    show kv dd g _ _ 15 [(4, .int (nI k)), (3, .int 0), (0, .ref xa), (1, .ref ma), (2, .ref sc)] [.int (nI p12), .int 2, .int (nI k)] (jk c wr x) (jd c wr x) (jE c wr x)
    refine kv_iadd X dL_lay_15 ?_
    refine kv_topi (nI (2 + p12)) (nI_add 2 p12) ?_
    refine kn_icmp_ge (x := k) (y := 2 + p12) (tgt := 186) X (by omega) (by omega) dL_lay_16 (by decide) (fun hc16 => ?_) (fun hc16 => absurd hc16 (by omega))
    exact kv_lv [1, 2, 3, 4] rfl (K _ _ c x k (by omega) (by omega) (by omega) (by omega) hw)
  | succ n ih =>
    intro k hk a b c x hw ha hb
    refine kv_iload X 0 dL_lay_5 rfl ?_
    refine kv_iconst (v := 2) X dL_lay_7 (by decide) ?_
    refine kv_aload_n X 4 dL_lay_8 rfl rfl ?_
    refine kv_iconst (v := 0) X dL_lay_9 (by decide) ?_
    refine kv_bipush (v := 6) X dL_lay_10 (by decide) ?_
    refine kv_calliSs (As := [.ref sc, .int (nI (0)), .int (nI (6))]) [.int 2, .int (nI k)] X hs (c_L_pick l dd (jk c wr x, jd c wr x, jE c wr x) hLL (0) (6) (by omega) (by omega)) hl0 (kCS_of X 3 (goodIn_ext gL_lay_L_pick) rfl rfl rfl (by decide +kernel) hRR ⟨(Nat.le_of_ble_eq_true rfl), (Nat.le_of_ble_eq_true rfl)⟩) rfl rfl (Nat.le_of_ble_eq_true rfl) hRR ⟨(by show _ + 0 ≤ 1300; omega), (by show _ + 0 ≤ 18000; omega)⟩ dL_lay_12 (fun r12 p12 hp12 => ?_)
    obtain ⟨hp12, rfl⟩ := hp12
    show kv dd g _ _ 15 [(4, .int (nI k)), (3, .int 0), (0, .ref xa), (1, .ref ma), (2, .ref sc)] [.int (nI p12), .int 2, .int (nI k)] (jk c wr x) (jd c wr x) (jE c wr x)
    refine kv_iadd X dL_lay_15 ?_
    refine kv_topi (nI (2 + p12)) (nI_add 2 p12) ?_
    refine kn_icmp_ge (x := k) (y := 2 + p12) (tgt := 186) X (by omega) (by omega) dL_lay_16 (by decide) (fun hc16 => ?_) (fun hc16 => ?_)
    ·
      exact kv_lv [1, 2, 3, 4] rfl (K _ _ c x k (by omega) (by omega) (by omega) (by omega) hw)
    ·
      obtain ⟨hbR, hbT, nL, nV, nM, fm, hq, hx0, rfl, hxm, f0, f1, f2, f3, f4⟩ := hw
      have lb := LQ_b hq
      have C48 : ∀ v5 : Nat, v5 ≤ 299 → kv dd g a b 48 [(4, .int (nI k)), (3, .int 0), (0, .ref xa), (1, .ref (x.2.1 0)), (2, .ref sc)] [.int (nI v5)] (jk c wr x) (jd c wr x) (jE c wr x) := by
        intro v5 hv5
        refine kv_istore (lv2 := [(5, .int (nI v5)), (4, .int (nI k)), (3, .int 0), (0, .ref xa), (1, .ref (x.2.1 0)), (2, .ref sc)]) X dL_lay_48 (by rw [hnL]; decide) rfl ?_
        have C78 : ∀ v6 : Nat, v6 ≤ 50 → kv dd g a b 78 [(5, .int (nI v5)), (4, .int (nI k)), (3, .int 0), (0, .ref xa), (1, .ref (x.2.1 0)), (2, .ref sc)] [.int (nI v6)] (jk c wr x) (jd c wr x) (jE c wr x) := by
          intro v6 hv6
          refine kv_istore (lv2 := [(6, .int (nI v6)), (5, .int (nI v5)), (4, .int (nI k)), (3, .int 0), (0, .ref xa), (1, .ref (x.2.1 0)), (2, .ref sc)]) X dL_lay_78 (by rw [hnL]; decide) rfl ?_
          refine kv_iconst (v := 1) X dL_lay_80 (by decide) ?_
          refine kv_aload_n X 6 dL_lay_81 rfl rfl ?_
          refine kv_bipush (v := 30) X dL_lay_82 (by decide) ?_
          have C107 : ∀ v7 : Nat, 1 ≤ v7 ∧ v7 ≤ 99 → kv dd g a b 107 [(6, .int (nI v6)), (5, .int (nI v5)), (4, .int (nI k)), (3, .int 0), (0, .ref xa), (1, .ref (x.2.1 0)), (2, .ref sc)] [.int (nI v7), .int (nI (30 + k)), .ref sc, .int 1] (jk c wr x) (jd c wr x) (jE c wr x) := by
            intro v7 hv7
            refine kv_calliSs (As := [.ref sc, .int (nI (30 + k)), .int (nI (v7))]) [.int 1] X hs (c_L_pick l dd (jk c wr x, jd c wr x, jE c wr x) hLL (30 + k) (v7) (by omega) (by omega)) hl0 (kCS_of X 3 (goodIn_ext gL_lay_L_pick) rfl rfl rfl (by decide +kernel) hRR ⟨(Nat.le_of_ble_eq_true rfl), (Nat.le_of_ble_eq_true rfl)⟩) rfl rfl (Nat.le_of_ble_eq_true rfl) hRR ⟨(by show _ + 0 ≤ 1300; omega), (by show _ + 0 ≤ 18000; omega)⟩ dL_lay_107 (fun r107 p107 hp107 => ?_)
            obtain ⟨hp107, rfl⟩ := hp107
            show kv dd g _ _ 110 [(6, .int (nI v6)), (5, .int (nI v5)), (4, .int (nI k)), (3, .int 0), (0, .ref xa), (1, .ref (x.2.1 0)), (2, .ref sc)] [.int (nI p107), .int 1] (jk c wr x) (jd c wr x) (jE c wr x)
            refine kv_iadd X dL_lay_110 ?_
            refine kv_topi (nI (1 + p107)) (nI_add 1 p107) ?_
            refine kv_istore (lv2 := [(7, .int (nI (1 + p107))), (6, .int (nI v6)), (5, .int (nI v5)), (4, .int (nI k)), (3, .int 0), (0, .ref xa), (1, .ref (x.2.1 0)), (2, .ref sc)]) X dL_lay_111 (by rw [hnL]; decide) rfl ?_
            refine kv_aload_n X 5 dL_lay_113 rfl rfl ?_
            refine kv_iconst (v := 0) X dL_lay_114 (by decide) ?_
            refine kv_aload_n X 7 dL_lay_115 rfl rfl ?_
            refine kv_bipush (v := 50) X dL_lay_116 (by decide) ?_
            refine kv_iload X 3 dL_lay_118 rfl ?_
            refine kv_iadd X dL_lay_120 ?_
            refine kv_topi (nI (50 + k)) (nI_add 50 k) ?_
            refine kv_iconst (v := 3) X dL_lay_121 (by decide) ?_
            refine kv_calliSs (As := [.ref sc, .int (nI (50 + k)), .int (nI (3))]) [.int 0, .ref xa] X hs (c_L_pick l dd (jk c wr x, jd c wr x, jE c wr x) hLL (50 + k) (3) (by omega) (by omega)) hl0 (kCS_of X 3 (goodIn_ext gL_lay_L_pick) rfl rfl rfl (by decide +kernel) hRR ⟨(Nat.le_of_ble_eq_true rfl), (Nat.le_of_ble_eq_true rfl)⟩) rfl rfl (Nat.le_of_ble_eq_true rfl) hRR ⟨(by show _ + 0 ≤ 1300; omega), (by show _ + 0 ≤ 18000; omega)⟩ dL_lay_122 (fun r122 p122 hp122 => ?_)
            obtain ⟨hp122, rfl⟩ := hp122
            show kv dd g _ _ 125 [(7, .int (nI (1 + p107))), (6, .int (nI v6)), (5, .int (nI v5)), (4, .int (nI k)), (3, .int 0), (0, .ref xa), (1, .ref (x.2.1 0)), (2, .ref sc)] [.int (nI p122), .int 0, .ref xa] (jk c wr x) (jd c wr x) (jE c wr x)
            refine kv_iload X 2 dL_lay_125 rfl ?_
            refine kv_iload X 1 dL_lay_127 rfl ?_
            refine kv_iload X 0 dL_lay_129 rfl ?_
            refine kv_calliSW (As := [.ref xa, .int 0, .int (nI p122), .int (nI v5), .int (nI v6), .int (nI (1 + p107))]) [] X (d_addResource l wr x hq (nI p122) (nI v5) (nI v6) (nI (1 + p107)) (k3 (by omega)) (z_le (m := 299) (by omega) (by omega)) (z_le (m := 50) (by omega) (by omega)) (o_le (m := 99) (by omega) (by omega)) (by omega)) hl0 (kCSW_of X 6 (show GoodIn (wsL_lay ++ kHp) (va_wsS RL 158 yL_deed (wsL_deed ++ kHp)) from gK (pre := [Cond.methodLink RL 158 yL_deed, Cond.static yL_deed, Cond.initialized yL_deed.cls]) gL_lay_L_deed) rfl rfl rfl (by decide +kernel) hRR ⟨(Nat.le_of_ble_eq_true rfl), (Nat.le_of_ble_eq_true rfl)⟩) rfl rfl (Nat.le_of_ble_eq_true rfl) hRR ⟨(by show _ + 12 ≤ 1300; omega), (by show _ + 170 ≤ 18000; omega)⟩ dL_lay_131 (fun r131 c131 h131 => ?_)
            obtain ⟨rfl, hq131⟩ := h131
            show kv dd g _ _ 134 [(7, .int (nI (1 + p107))), (6, .int (nI v6)), (5, .int (nI v5)), (4, .int (nI k)), (3, .int 0), (0, .ref xa), (1, .ref (x.2.1 0)), (2, .ref sc)] [.int (nI k)] (jk c131 wr x) (jd c131 wr x) (jE c131 wr x)
            refine kv_if_lt (tgt := 180) X dL_lay_134 (by decide) (fun hc134 => False.elim (Int32.not_lt.mpr (nI_00 (by omega)) hc134)) (fun hc134 => ?_)
            refine kv_aload_n X 6 dL_lay_137 rfl rfl ?_
            refine kv_bipush (v := 10) X dL_lay_138 (by decide) ?_
            refine kv_iconst (v := 3) X dL_lay_140 (by decide) ?_
            refine kv_aload_n X 6 dL_lay_141 rfl rfl ?_
            refine kv_iconst (v := 0) X dL_lay_142 (by decide) ?_
            refine kv_iaload X (κ := 2000) (n := 50) (j := 0) (f := fm) (j_x0.1.mpr hx0) (j_x0.2.2.trans hxm) (by omega) (by decide) dL_lay_143 ?_
            refine kv_topi (nI k) f0 ?_
            refine kv_imul X dL_lay_144 ?_
            refine kv_topi (nI (3 * k)) (pk_mul 3 k) ?_
            refine kv_iadd X dL_lay_145 ?_
            refine kv_topi (nI (10 + (3 * k))) (nI_add 10 (3 * k)) ?_
            refine kv_iload X 2 dL_lay_146 rfl ?_
            refine kv_iastore X (κ := 2000) (n := 50) (j := 10 + (3 * k)) (f := fm) (x := (nI v5)) (j_x0.1.mpr hx0) (j_x0.2.2.trans hxm) (by omega) (by decide) dL_lay_148 ?_
            refine kv_E (E2 := jE c131 wr (xI dd x (va_up fm (10 + (3 * k)) (nI v5)))) (fun j _ => xI_E j) ?_
            show kv dd g _ _ 149 [(7, .int (nI (1 + p107))), (6, .int (nI v6)), (5, .int (nI v5)), (4, .int (nI k)), (3, .int 0), (0, .ref xa), (1, .ref (x.2.1 0)), (2, .ref sc)] [] (jk c131 wr (xI dd x (va_up fm (10 + (3 * k)) (nI v5)))) (jd c131 wr (xI dd x (va_up fm (10 + (3 * k)) (nI v5)))) (jE c131 wr (xI dd x (va_up fm (10 + (3 * k)) (nI v5))))
            refine kv_aload_n X 6 dL_lay_149 rfl rfl ?_
            refine kv_bipush (v := 11) X dL_lay_150 (by decide) ?_
            refine kv_iconst (v := 3) X dL_lay_152 (by decide) ?_
            refine kv_aload_n X 6 dL_lay_153 rfl rfl ?_
            refine kv_iconst (v := 0) X dL_lay_154 (by decide) ?_
            refine kv_iaload X (κ := 2000) (n := 50) (j := 0) (f := (va_up fm (10 + (3 * k)) (nI v5))) (j_x0.1.mpr hx0) (j_x0.2.2.trans (va_up_self x.2.2 0 (kI dd 50 (va_up fm (10 + (3 * k)) (nI v5))))) (by omega) (by decide) dL_lay_155 ?_
            refine kv_topi (nI k) ((va_up_ne _ _ (by omega)).trans f0) ?_
            refine kv_imul X dL_lay_156 ?_
            refine kv_topi (nI (3 * k)) (pk_mul 3 k) ?_
            refine kv_iadd X dL_lay_157 ?_
            refine kv_topi (nI (11 + (3 * k))) (nI_add 11 (3 * k)) ?_
            refine kv_iload X 1 dL_lay_158 rfl ?_
            refine kv_iastore X (κ := 2000) (n := 50) (j := 11 + (3 * k)) (f := (va_up fm (10 + (3 * k)) (nI v5))) (x := (nI v6)) (j_x0.1.mpr hx0) (j_x0.2.2.trans (va_up_self x.2.2 0 (kI dd 50 (va_up fm (10 + (3 * k)) (nI v5))))) (by omega) (by decide) dL_lay_160 ?_
            refine kv_E (E2 := jE c131 wr (xI dd (xI dd x (va_up fm (10 + (3 * k)) (nI v5))) (va_up (va_up fm (10 + (3 * k)) (nI v5)) (11 + (3 * k)) (nI v6)))) (fun j _ => xI_E j) ?_
            refine kv_E (E2 := jE c131 wr (xI dd x (va_up (va_up fm (10 + (3 * k)) (nI v5)) (11 + (3 * k)) (nI v6)))) (fun j _ => xI_xI j) ?_
            show kv dd g _ _ 161 [(7, .int (nI (1 + p107))), (6, .int (nI v6)), (5, .int (nI v5)), (4, .int (nI k)), (3, .int 0), (0, .ref xa), (1, .ref (x.2.1 0)), (2, .ref sc)] [] (jk c131 wr (xI dd x (va_up (va_up fm (10 + (3 * k)) (nI v5)) (11 + (3 * k)) (nI v6)))) (jd c131 wr (xI dd x (va_up (va_up fm (10 + (3 * k)) (nI v5)) (11 + (3 * k)) (nI v6)))) (jE c131 wr (xI dd x (va_up (va_up fm (10 + (3 * k)) (nI v5)) (11 + (3 * k)) (nI v6))))
            refine kv_aload_n X 6 dL_lay_161 rfl rfl ?_
            refine kv_bipush (v := 12) X dL_lay_162 (by decide) ?_
            refine kv_iconst (v := 3) X dL_lay_164 (by decide) ?_
            refine kv_aload_n X 6 dL_lay_165 rfl rfl ?_
            refine kv_iconst (v := 0) X dL_lay_166 (by decide) ?_
            refine kv_iaload X (κ := 2000) (n := 50) (j := 0) (f := (va_up (va_up fm (10 + (3 * k)) (nI v5)) (11 + (3 * k)) (nI v6))) (j_x0.1.mpr hx0) (j_x0.2.2.trans (va_up_self x.2.2 0 (kI dd 50 (va_up (va_up fm (10 + (3 * k)) (nI v5)) (11 + (3 * k)) (nI v6))))) (by omega) (by decide) dL_lay_167 ?_
            refine kv_topi (nI k) ((va_up_ne _ _ (by omega)).trans ((va_up_ne _ _ (by omega)).trans f0)) ?_
            refine kv_imul X dL_lay_168 ?_
            refine kv_topi (nI (3 * k)) (pk_mul 3 k) ?_
            refine kv_iadd X dL_lay_169 ?_
            refine kv_topi (nI (12 + (3 * k))) (nI_add 12 (3 * k)) ?_
            refine kv_iload X 0 dL_lay_170 rfl ?_
            refine kv_iastore X (κ := 2000) (n := 50) (j := 12 + (3 * k)) (f := (va_up (va_up fm (10 + (3 * k)) (nI v5)) (11 + (3 * k)) (nI v6))) (x := (nI (1 + p107))) (j_x0.1.mpr hx0) (j_x0.2.2.trans (va_up_self x.2.2 0 (kI dd 50 (va_up (va_up fm (10 + (3 * k)) (nI v5)) (11 + (3 * k)) (nI v6))))) (by omega) (by decide) dL_lay_172 ?_
            refine kv_E (E2 := jE c131 wr (xI dd (xI dd x (va_up (va_up fm (10 + (3 * k)) (nI v5)) (11 + (3 * k)) (nI v6))) (va_up (va_up (va_up fm (10 + (3 * k)) (nI v5)) (11 + (3 * k)) (nI v6)) (12 + (3 * k)) (nI (1 + p107))))) (fun j _ => xI_E j) ?_
            refine kv_E (E2 := jE c131 wr (xI dd x (va_up (va_up (va_up fm (10 + (3 * k)) (nI v5)) (11 + (3 * k)) (nI v6)) (12 + (3 * k)) (nI (1 + p107))))) (fun j _ => xI_xI j) ?_
            show kv dd g _ _ 173 [(7, .int (nI (1 + p107))), (6, .int (nI v6)), (5, .int (nI v5)), (4, .int (nI k)), (3, .int 0), (0, .ref xa), (1, .ref (x.2.1 0)), (2, .ref sc)] [] (jk c131 wr (xI dd x (va_up (va_up (va_up fm (10 + (3 * k)) (nI v5)) (11 + (3 * k)) (nI v6)) (12 + (3 * k)) (nI (1 + p107))))) (jd c131 wr (xI dd x (va_up (va_up (va_up fm (10 + (3 * k)) (nI v5)) (11 + (3 * k)) (nI v6)) (12 + (3 * k)) (nI (1 + p107))))) (jE c131 wr (xI dd x (va_up (va_up (va_up fm (10 + (3 * k)) (nI v5)) (11 + (3 * k)) (nI v6)) (12 + (3 * k)) (nI (1 + p107)))))
            refine kv_aload_n X 6 dL_lay_173 rfl rfl ?_
            refine kv_iconst (v := 0) X dL_lay_174 (by decide) ?_
            refine kv_dup2_11 X dL_lay_175 rfl rfl ?_
            refine kv_iaload X (κ := 2000) (n := 50) (j := 0) (f := (va_up (va_up (va_up fm (10 + (3 * k)) (nI v5)) (11 + (3 * k)) (nI v6)) (12 + (3 * k)) (nI (1 + p107)))) (j_x0.1.mpr hx0) (j_x0.2.2.trans (va_up_self x.2.2 0 (kI dd 50 (va_up (va_up (va_up fm (10 + (3 * k)) (nI v5)) (11 + (3 * k)) (nI v6)) (12 + (3 * k)) (nI (1 + p107)))))) (by omega) (by decide) dL_lay_176 ?_
            refine kv_topi (nI k) ((va_up_ne _ _ (by omega)).trans ((va_up_ne _ _ (by omega)).trans ((va_up_ne _ _ (by omega)).trans f0))) ?_
            refine kv_iconst (v := 1) X dL_lay_177 (by decide) ?_
            refine kv_iadd X dL_lay_178 ?_
            refine kv_topi (nI (k + 1)) (nI_add k 1) ?_
            refine kv_iastore X (κ := 2000) (n := 50) (j := 0) (f := (va_up (va_up (va_up fm (10 + (3 * k)) (nI v5)) (11 + (3 * k)) (nI v6)) (12 + (3 * k)) (nI (1 + p107)))) (x := (nI (k + 1))) (j_x0.1.mpr hx0) (j_x0.2.2.trans (va_up_self x.2.2 0 (kI dd 50 (va_up (va_up (va_up fm (10 + (3 * k)) (nI v5)) (11 + (3 * k)) (nI v6)) (12 + (3 * k)) (nI (1 + p107)))))) (by omega) (by decide) dL_lay_179 ?_
            refine kv_E (E2 := jE c131 wr (xI dd (xI dd x (va_up (va_up (va_up fm (10 + (3 * k)) (nI v5)) (11 + (3 * k)) (nI v6)) (12 + (3 * k)) (nI (1 + p107)))) (va_up (va_up (va_up (va_up fm (10 + (3 * k)) (nI v5)) (11 + (3 * k)) (nI v6)) (12 + (3 * k)) (nI (1 + p107))) (0) (nI (k + 1))))) (fun j _ => xI_E j) ?_
            refine kv_E (E2 := jE c131 wr (xI dd x (va_up (va_up (va_up (va_up fm (10 + (3 * k)) (nI v5)) (11 + (3 * k)) (nI v6)) (12 + (3 * k)) (nI (1 + p107))) (0) (nI (k + 1))))) (fun j _ => xI_xI j) ?_
            show kv dd g _ _ 180 [(7, .int (nI (1 + p107))), (6, .int (nI v6)), (5, .int (nI v5)), (4, .int (nI k)), (3, .int 0), (0, .ref xa), (1, .ref (x.2.1 0)), (2, .ref sc)] [] (jk c131 wr (xI dd x (va_up (va_up (va_up (va_up fm (10 + (3 * k)) (nI v5)) (11 + (3 * k)) (nI v6)) (12 + (3 * k)) (nI (1 + p107))) (0) (nI (k + 1))))) (jd c131 wr (xI dd x (va_up (va_up (va_up (va_up fm (10 + (3 * k)) (nI v5)) (11 + (3 * k)) (nI v6)) (12 + (3 * k)) (nI (1 + p107))) (0) (nI (k + 1))))) (jE c131 wr (xI dd x (va_up (va_up (va_up (va_up fm (10 + (3 * k)) (nI v5)) (11 + (3 * k)) (nI v6)) (12 + (3 * k)) (nI (1 + p107))) (0) (nI (k + 1)))))
            refine kv_iinc (j := 3) (v := (nI (k + 1))) (lv2 := [(4, .int (nI (k + 1))), (7, .int (nI (1 + p107))), (6, .int (nI v6)), (5, .int (nI v5)), (3, .int 0), (0, .ref xa), (1, .ref (x.2.1 0)), (2, .ref sc)]) X dL_lay_180 rfl (nI_add k 1) (by rw [hnL]; decide) rfl ?_
            refine kv_goto (tgt := 5) X dL_lay_183 (by decide) ?_
            exact kv_lv [0, 4, 5, 6, 7] rfl (ih (k + 1) (by omega) _ _ _ _ ⟨by omega, by omega, _, _, _, (va_up (va_up (va_up (va_up fm (10 + (3 * k)) (nI v5)) (11 + (3 * k)) (nI v6)) (12 + (3 * k)) (nI (1 + p107))) (0) (nI (k + 1))), (hq131 _ (fun i h1 h2 => ((va_up_ne _ _ (by omega)).trans ((va_up_ne _ _ (by omega)).trans ((va_up_ne _ _ (by omega)).trans (va_up_ne _ _ (by omega)))))) ((va_up_ne _ _ (by omega)).trans ((va_up_ne _ _ (by omega)).trans ((va_up_ne _ _ (by omega)).trans (va_up_self _ _ _)))) ((va_up_ne _ _ (by omega)).trans ((va_up_ne _ _ (by omega)).trans (va_up_self _ _ _))) ((va_up_ne _ _ (by omega)).trans (va_up_self _ _ _))), hx0, rfl, va_up_self x.2.2 0 (kI dd 50 (va_up (va_up (va_up (va_up fm (10 + (3 * k)) (nI v5)) (11 + (3 * k)) (nI v6)) (12 + (3 * k)) (nI (1 + p107))) (0) (nI (k + 1)))), (va_up_self _ _ _), ((va_up_ne _ _ (by omega)).trans ((va_up_ne _ _ (by omega)).trans ((va_up_ne _ _ (by omega)).trans ((va_up_ne _ _ (by omega)).trans f1)))), ((va_up_ne _ _ (by omega)).trans ((va_up_ne _ _ (by omega)).trans ((va_up_ne _ _ (by omega)).trans ((va_up_ne _ _ (by omega)).trans f2)))), ((va_up_ne _ _ (by omega)).trans ((va_up_ne _ _ (by omega)).trans ((va_up_ne _ _ (by omega)).trans ((va_up_ne _ _ (by omega)).trans f3)))), ((va_up_ne _ _ (by omega)).trans ((va_up_ne _ _ (by omega)).trans ((va_up_ne _ _ (by omega)).trans ((va_up_ne _ _ (by omega)).trans f4))))⟩ (by omega) (by omega))
          refine kv_iload X 2 dL_lay_84 rfl ?_
          refine kv_iadd X dL_lay_86 ?_
          refine kv_topi (nI (30 + k)) (nI_add 30 k) ?_
          refine kv_aload_n X 6 dL_lay_87 rfl rfl ?_
          refine kv_bipush (v := 40) X dL_lay_88 (by decide) ?_
          refine kv_iload X 2 dL_lay_90 rfl ?_
          refine kv_iadd X dL_lay_92 ?_
          refine kv_topi (nI (40 + k)) (nI_add 40 k) ?_
          refine kv_iconst (v := 2) X dL_lay_93 (by decide) ?_
          refine kv_calliSs (As := [.ref sc, .int (nI (40 + k)), .int (nI (2))]) [.int (nI (30 + k)), .ref sc, .int 1] X hs (c_L_pick l dd (jk c wr x, jd c wr x, jE c wr x) hLL (40 + k) (2) (by omega) (by omega)) hl0 (kCS_of X 3 (goodIn_ext gL_lay_L_pick) rfl rfl rfl (by decide +kernel) hRR ⟨(Nat.le_of_ble_eq_true rfl), (Nat.le_of_ble_eq_true rfl)⟩) rfl rfl (Nat.le_of_ble_eq_true rfl) hRR ⟨(by show _ + 0 ≤ 1300; omega), (by show _ + 0 ≤ 18000; omega)⟩ dL_lay_94 (fun r94 p94 hp94 => ?_)
          obtain ⟨hp94, rfl⟩ := hp94
          show kv dd g _ _ 97 [(6, .int (nI v6)), (5, .int (nI v5)), (4, .int (nI k)), (3, .int 0), (0, .ref xa), (1, .ref (x.2.1 0)), (2, .ref sc)] [.int (nI p94), .int (nI (30 + k)), .ref sc, .int 1] (jk c wr x) (jd c wr x) (jE c wr x)
          refine kn_if_ne (x := p94) (tgt := 105) X (by omega) dL_lay_97 (by decide) (fun hc97 => ?_) (fun hc97 => ?_)
          ·
            refine kv_bipush (v := 9) X dL_lay_105 (by decide) ?_
            exact C107 (9) (by omega)
          ·
            refine kv_bipush (v := 99) X dL_lay_100 (by decide) ?_
            refine kv_goto (tgt := 107) X dL_lay_102 (by decide) ?_
            exact C107 (99) (by omega)
        refine kv_aload_n X 5 dL_lay_50 rfl rfl ?_
        refine kv_bipush (v := 20) X dL_lay_51 (by decide) ?_
        refine kv_iload X 1 dL_lay_53 rfl ?_
        refine kv_iadd X dL_lay_55 ?_
        refine kv_topi (nI (20 + k)) (nI_add 20 k) ?_
        refine kv_iconst (v := 3) X dL_lay_56 (by decide) ?_
        refine kv_calliSs (As := [.ref sc, .int (nI (20 + k)), .int (nI (3))]) [] X hs (c_L_pick l dd (jk c wr x, jd c wr x, jE c wr x) hLL (20 + k) (3) (by omega) (by omega)) hl0 (kCS_of X 3 (goodIn_ext gL_lay_L_pick) rfl rfl rfl (by decide +kernel) hRR ⟨(Nat.le_of_ble_eq_true rfl), (Nat.le_of_ble_eq_true rfl)⟩) rfl rfl (Nat.le_of_ble_eq_true rfl) hRR ⟨(by show _ + 0 ≤ 1300; omega), (by show _ + 0 ≤ 18000; omega)⟩ dL_lay_57 (fun r57 p57 hp57 => ?_)
        obtain ⟨hp57, rfl⟩ := hp57
        show kv dd g _ _ 60 [(5, .int (nI v5)), (4, .int (nI k)), (3, .int 0), (0, .ref xa), (1, .ref (x.2.1 0)), (2, .ref sc)] [.int (nI p57)] (jk c wr x) (jd c wr x) (jE c wr x)
        refine kn_if_ne (x := p57) (tgt := 77) X (by omega) dL_lay_60 (by decide) (fun hc60 => ?_) (fun hc60 => ?_)
        ·
          refine kv_iconst (v := 0) X dL_lay_77 (by decide) ?_
          exact C78 (0) (by omega)
        ·
          refine kv_aload_n X 5 dL_lay_63 rfl rfl ?_
          refine kv_bipush (v := 20) X dL_lay_64 (by decide) ?_
          refine kv_iload X 1 dL_lay_66 rfl ?_
          refine kv_iadd X dL_lay_68 ?_
          refine kv_topi (nI (20 + k)) (nI_add 20 k) ?_
          refine kv_bipush (v := 51) X dL_lay_69 (by decide) ?_
          refine kv_calliSs (As := [.ref sc, .int (nI (20 + k)), .int (nI (51))]) [] X hs (c_L_pick l dd (jk c wr x, jd c wr x, jE c wr x) hLL (20 + k) (51) (by omega) (by omega)) hl0 (kCS_of X 3 (goodIn_ext gL_lay_L_pick) rfl rfl rfl (by decide +kernel) hRR ⟨(Nat.le_of_ble_eq_true rfl), (Nat.le_of_ble_eq_true rfl)⟩) rfl rfl (Nat.le_of_ble_eq_true rfl) hRR ⟨(by show _ + 0 ≤ 1300; omega), (by show _ + 0 ≤ 18000; omega)⟩ dL_lay_71 (fun r71 p71 hp71 => ?_)
          obtain ⟨hp71, rfl⟩ := hp71
          show kv dd g _ _ 74 [(5, .int (nI v5)), (4, .int (nI k)), (3, .int 0), (0, .ref xa), (1, .ref (x.2.1 0)), (2, .ref sc)] [.int (nI p71)] (jk c wr x) (jd c wr x) (jE c wr x)
          refine kv_goto (tgt := 78) X dL_lay_74 (by decide) ?_
          exact C78 (p71) (by omega)
      refine kv_aload_n X 4 dL_lay_19 rfl rfl ?_
      refine kv_bipush (v := 10) X dL_lay_20 (by decide) ?_
      refine kv_iload X 0 dL_lay_22 rfl ?_
      refine kv_iadd X dL_lay_24 ?_
      refine kv_topi (nI (10 + k)) (nI_add 10 k) ?_
      refine kv_iconst (v := 5) X dL_lay_25 (by decide) ?_
      refine kv_calliSs (As := [.ref sc, .int (nI (10 + k)), .int (nI (5))]) [] X hs (c_L_pick l dd (jk c wr x, jd c wr x, jE c wr x) hLL (10 + k) (5) (by omega) (by omega)) hl0 (kCS_of X 3 (goodIn_ext gL_lay_L_pick) rfl rfl rfl (by decide +kernel) hRR ⟨(Nat.le_of_ble_eq_true rfl), (Nat.le_of_ble_eq_true rfl)⟩) rfl rfl (Nat.le_of_ble_eq_true rfl) hRR ⟨(by show _ + 0 ≤ 1300; omega), (by show _ + 0 ≤ 18000; omega)⟩ dL_lay_26 (fun r26 p26 hp26 => ?_)
      obtain ⟨hp26, rfl⟩ := hp26
      show kv dd g _ _ 29 [(4, .int (nI k)), (3, .int 0), (0, .ref xa), (1, .ref (x.2.1 0)), (2, .ref sc)] [.int (nI p26)] (jk c wr x) (jd c wr x) (jE c wr x)
      refine kn_if_ne (x := p26) (tgt := 36) X (by omega) dL_lay_29 (by decide) (fun hc29 => ?_) (fun hc29 => ?_)
      ·
        refine kv_aload_n X 4 dL_lay_36 rfl rfl ?_
        refine kv_bipush (v := 10) X dL_lay_37 (by decide) ?_
        refine kv_iload X 0 dL_lay_39 rfl ?_
        refine kv_iadd X dL_lay_41 ?_
        refine kv_topi (nI (10 + k)) (nI_add 10 k) ?_
        refine kv_sipush (v := 300) X dL_lay_42 (by decide) ?_
        refine kv_calliSs (As := [.ref sc, .int (nI (10 + k)), .int (nI (300))]) [] X hs (c_L_pick l dd (jk c wr x, jd c wr x, jE c wr x) hLL (10 + k) (300) (by omega) (by omega)) hl0 (kCS_of X 3 (goodIn_ext gL_lay_L_pick) rfl rfl rfl (by decide +kernel) hRR ⟨(Nat.le_of_ble_eq_true rfl), (Nat.le_of_ble_eq_true rfl)⟩) rfl rfl (Nat.le_of_ble_eq_true rfl) hRR ⟨(by show _ + 0 ≤ 1300; omega), (by show _ + 0 ≤ 18000; omega)⟩ dL_lay_45 (fun r45 p45 hp45 => ?_)
        obtain ⟨hp45, rfl⟩ := hp45
        show kv dd g _ _ 48 [(4, .int (nI k)), (3, .int 0), (0, .ref xa), (1, .ref (x.2.1 0)), (2, .ref sc)] [.int (nI p45)] (jk c wr x) (jd c wr x) (jE c wr x)
        exact C48 (p45) (by omega)
      ·
        refine kv_iconst (v := 0) X dL_lay_32 (by decide) ?_
        refine kv_goto (tgt := 48) X dL_lay_33 (by decide) ?_
        exact C48 (0) (by omega)
set_option maxRecDepth 100000 in
set_option maxHeartbeats 4000000 in
theorem ly_2 {l : Launch} {dd : kDD} {g : kG} (X : kX dd g cL_lay RL (wsL_lay ++ kHp)) (hRR : kR g = ({ frames := 14, cells := 1300, slots := 18000, locals := 330 } : Room)) (hnL : knL g = 8) (hl0 : kL g = l) {sc L : Nat} {xs : Nat → Int32} (hs : kScr g sc L xs) (hLL : L ≤ 260) {wr : kT} {xa ma : Nat} {nR : Nat} (hR2 : 2 ≤ nR) (hR7 : nR ≤ 8) (K : ∀ (a b : Nat) (c x : kT) (w : Int32), a ≤ 240 → b ≤ 3400 → LWy dd c x xa ma nR 0 → wb 9 w → kv dd g a b 290 [(3, .int w), (0, .ref xa), (1, .ref ma), (2, .ref sc)] [] (jk c wr x) (jd c wr x) (jE c wr x)) : ∀ (n k : Nat), k + n = 3 → ∀ (a b : Nat) (c x : kT) (w : Int32), LWy dd c x xa ma nR 0 → wb (3 * k) w → a + 48 * n ≤ 240 → b + 680 * n ≤ 3400 → kv dd g a b 189 [(4, .int (nI k)), (3, .int w), (0, .ref xa), (1, .ref ma), (2, .ref sc)] [] (jk c wr x) (jd c wr x) (jE c wr x) := by
  intro n
  induction n with
  | zero =>
    intro k hk a b c x w hw hwb ha hb
    refine kv_iload X 0 dL_lay_189 rfl ?_
    refine kv_aload_n X 4 dL_lay_191 rfl rfl ?_
    refine kv_iconst (v := 1) X dL_lay_192 (by decide) ?_
    refine kv_iconst (v := 3) X dL_lay_193 (by decide) ?_
    refine kv_calliSs (As := [.ref sc, .int (nI (1)), .int (nI (3))]) [.int (nI k)] X hs (c_L_pick l dd (jk c wr x, jd c wr x, jE c wr x) hLL (1) (3) (by omega) (by omega)) hl0 (kCS_of X 3 (goodIn_ext gL_lay_L_pick) rfl rfl rfl (by decide +kernel) hRR ⟨(Nat.le_of_ble_eq_true rfl), (Nat.le_of_ble_eq_true rfl)⟩) rfl rfl (Nat.le_of_ble_eq_true rfl) hRR ⟨(by show _ + 0 ≤ 1300; omega), (by show _ + 0 ≤ 18000; omega)⟩ dL_lay_194 (fun r194 p194 hp194 => ?_)
    obtain ⟨hp194, rfl⟩ := hp194
    show kv dd g _ _ 197 [(4, .int (nI k)), (3, .int w), (0, .ref xa), (1, .ref ma), (2, .ref sc)] [.int (nI p194), .int (nI k)] (jk c wr x) (jd c wr x) (jE c wr x)
    refine kn_icmp_ge (x := k) (y := p194) (tgt := 290) X (by omega) (by omega) dL_lay_197 (by decide) (fun hc197 => ?_) (fun hc197 => absurd hc197 (by omega))
    exact kv_lv [1, 2, 3, 4] rfl (K _ _ c x w (by omega) (by omega) hw (wb_m hwb (by omega)))
  | succ n ih =>
    intro k hk a b c x w hw hwb ha hb
    refine kv_iload X 0 dL_lay_189 rfl ?_
    refine kv_aload_n X 4 dL_lay_191 rfl rfl ?_
    refine kv_iconst (v := 1) X dL_lay_192 (by decide) ?_
    refine kv_iconst (v := 3) X dL_lay_193 (by decide) ?_
    refine kv_calliSs (As := [.ref sc, .int (nI (1)), .int (nI (3))]) [.int (nI k)] X hs (c_L_pick l dd (jk c wr x, jd c wr x, jE c wr x) hLL (1) (3) (by omega) (by omega)) hl0 (kCS_of X 3 (goodIn_ext gL_lay_L_pick) rfl rfl rfl (by decide +kernel) hRR ⟨(Nat.le_of_ble_eq_true rfl), (Nat.le_of_ble_eq_true rfl)⟩) rfl rfl (Nat.le_of_ble_eq_true rfl) hRR ⟨(by show _ + 0 ≤ 1300; omega), (by show _ + 0 ≤ 18000; omega)⟩ dL_lay_194 (fun r194 p194 hp194 => ?_)
    obtain ⟨hp194, rfl⟩ := hp194
    show kv dd g _ _ 197 [(4, .int (nI k)), (3, .int w), (0, .ref xa), (1, .ref ma), (2, .ref sc)] [.int (nI p194), .int (nI k)] (jk c wr x) (jd c wr x) (jE c wr x)
    refine kn_icmp_ge (x := k) (y := p194) (tgt := 290) X (by omega) (by omega) dL_lay_197 (by decide) (fun hc197 => ?_) (fun hc197 => ?_)
    ·
      exact kv_lv [1, 2, 3, 4] rfl (K _ _ c x w (by omega) (by omega) hw (wb_m hwb (by omega)))
    ·
      obtain ⟨hbR, hbT, nL, nV, nM, fm, hq, hx0, rfl, hxm, f0, f1, f2, f3, f4⟩ := hw
      have lb := LQ_b hq
      refine kv_aload_n X 3 dL_lay_200 rfl rfl ?_
      refine kv_iconst (v := 5) X dL_lay_201 (by decide) ?_
      refine kv_dup2_11 X dL_lay_202 rfl rfl ?_
      refine kv_iaload X (κ := 2000) (n := 50) (j := 5) (f := fm) (j_x0.1.mpr hx0) (j_x0.2.2.trans hxm) (by omega) (by decide) dL_lay_203 ?_
      refine kv_aload_n X 2 dL_lay_204 rfl rfl ?_
      refine kv_iconst (v := 2) X dL_lay_205 (by decide) ?_
      refine kv_iconst (v := 0) X dL_lay_206 (by decide) ?_
      refine kv_iconst (v := 0) X dL_lay_207 (by decide) ?_
      refine kv_iconst (v := 0) X dL_lay_208 (by decide) ?_
      refine kv_iconst (v := 0) X dL_lay_209 (by decide) ?_
      refine kv_calliSW (As := [.ref xa, .int 2, .int 0, .int 0, .int 0, .int 0]) [.int (fm 5), .int 5, .ref (x.2.1 0)] X (d_addCrew l wr x hq 0 0 0 0) hl0 (kCSW_of X 6 (show GoodIn (wsL_lay ++ kHp) (va_wsS RL 158 yL_deed (wsL_deed ++ kHp)) from gK (pre := [Cond.methodLink RL 158 yL_deed, Cond.static yL_deed, Cond.initialized yL_deed.cls]) gL_lay_L_deed) rfl rfl rfl (by decide +kernel) hRR ⟨(Nat.le_of_ble_eq_true rfl), (Nat.le_of_ble_eq_true rfl)⟩) rfl rfl (Nat.le_of_ble_eq_true rfl) hRR ⟨(by show _ + 12 ≤ 1300; omega), (by show _ + 170 ≤ 18000; omega)⟩ dL_lay_210 (fun r210 c210 h210 => ?_)
      obtain ⟨hr210, hq210⟩ := h210
      show kv dd g _ _ 213 [(4, .int (nI k)), (3, .int w), (0, .ref xa), (1, .ref (x.2.1 0)), (2, .ref sc)] [.int r210, .int (fm 5), .int 5, .ref (x.2.1 0)] (jk c210 wr x) (jd c210 wr x) (jE c210 wr x)
      refine kv_if_lt (tgt := 220) X dL_lay_213 (by decide) (fun hc213 => ?_) (fun hc213 => ?_)
      ·
        refine kv_iconst (v := 0) X dL_lay_220 (by decide) ?_
        refine kv_iadd X dL_lay_221 ?_
        refine kv_iastore X (κ := 2000) (n := 50) (j := 5) (f := fm) (x := ((fm 5) + 0)) (j_x0.1.mpr hx0) (j_x0.2.2.trans hxm) (by omega) (by decide) dL_lay_222 ?_
        refine kv_E (E2 := jE c210 wr (xI dd x (va_up fm (5) ((fm 5) + 0)))) (fun j _ => xI_E j) ?_
        show kv dd g _ _ 223 [(4, .int (nI k)), (3, .int w), (0, .ref xa), (1, .ref (x.2.1 0)), (2, .ref sc)] [] (jk c210 wr (xI dd x (va_up fm (5) ((fm 5) + 0)))) (jd c210 wr (xI dd x (va_up fm (5) ((fm 5) + 0)))) (jE c210 wr (xI dd x (va_up fm (5) ((fm 5) + 0))))
        refine kv_iconst (v := 0) X dL_lay_223 (by decide) ?_
        refine kv_istore (lv2 := [(5, .int 0), (4, .int (nI k)), (3, .int w), (0, .ref xa), (1, .ref (x.2.1 0)), (2, .ref sc)]) X dL_lay_224 (by rw [hnL]; decide) rfl ?_
        have L226 : ∀ (n226 j226 : Nat), j226 + n226 = 3 → ∀ (a226 b226 : Nat) (c226 x226 : kT) (w226 : Int32), LWy dd c226 x226 xa (x.2.1 0) nR 0 → wb (3 * k + 1 * j226) w226 → a226 + 12 * n226 ≤ a + 48 → b226 + 170 * n226 ≤ b + 680 → kv dd g a226 b226 226 [(5, .int (nI j226)), (4, .int (nI k)), (3, .int w226), (0, .ref xa), (1, .ref (x.2.1 0)), (2, .ref sc)] [] (jk c226 wr x226) (jd c226 wr x226) (jE c226 wr x226) := by
          intro n226
          induction n226 with
          | zero =>
            intro j226 hj226 a226 b226 c226 x226 w226 hw226 hwb226 ha226 hb226
            have en226 : 3 = j226 := by omega
            subst en226
            refine kv_iload X 0 dL_lay_226 rfl ?_
            refine kv_iconst (v := 3) X dL_lay_228 (by decide) ?_
            refine kn_icmp_ge (x := 3) (y := 3) (tgt := 284) X (by omega) (by omega) dL_lay_229 (by decide) (fun hc229 => ?_) (fun hc229 => absurd hc229 (by omega))
            refine kv_iinc (j := 1) (v := (nI (k + 1))) (lv2 := [(4, .int (nI (k + 1))), (5, .int (nI 3)), (3, .int w226), (0, .ref xa), (1, .ref (x.2.1 0)), (2, .ref sc)]) X dL_lay_284 rfl (nI_add k 1) (by rw [hnL]; decide) rfl ?_
            refine kv_goto (tgt := 189) X dL_lay_287 (by decide) ?_
            exact kv_lv [0, 2, 3, 4, 5] rfl (ih (k + 1) (by omega) _ _ _ _ (w226) hw226 (wb_m hwb226 (by omega)) (by omega) (by omega))
          | succ n226 ih226 =>
            intro j226 hj226 a226 b226 c226 x226 w226 hw226 hwb226 ha226 hb226
            obtain ⟨hbR, hbT, nL, nV, nM, fm, hq, hx0, hma226, hxm, f0, f1, f2, f3, f4⟩ := hw226
            have lb := LQ_b hq
            rw [← hma226]
            refine kv_iload X 0 dL_lay_226 rfl ?_
            refine kv_iconst (v := 3) X dL_lay_228 (by decide) ?_
            refine kn_icmp_ge (x := j226) (y := 3) (tgt := 284) X (by omega) (by omega) dL_lay_229 (by decide) (fun hc229 => absurd hc229 (by omega)) (fun hc229 => ?_)
            refine kv_iload_n X 2 dL_lay_232 rfl rfl ?_
            refine kv_aload_n X 3 dL_lay_233 rfl rfl ?_
            refine kv_iconst (v := 3) X dL_lay_234 (by decide) ?_
            refine kv_iload X 1 dL_lay_235 rfl ?_
            refine kv_aload_n X 5 dL_lay_237 rfl rfl ?_
            refine kv_bipush (v := 60) X dL_lay_238 (by decide) ?_
            refine kv_iconst (v := 3) X dL_lay_240 (by decide) ?_
            refine kv_iload X 1 dL_lay_241 rfl ?_
            refine kv_imul X dL_lay_243 ?_
            refine kv_topi (nI (3 * k)) (pk_mul 3 k) ?_
            refine kv_iadd X dL_lay_244 ?_
            refine kv_topi (nI (60 + (3 * k))) (nI_add 60 (3 * k)) ?_
            refine kv_iload X 0 dL_lay_245 rfl ?_
            refine kv_iadd X dL_lay_247 ?_
            refine kv_topi (nI ((60 + (3 * k)) + j226)) (nI_add (60 + (3 * k)) j226) ?_
            refine kv_aload_n X 4 dL_lay_248 rfl rfl ?_
            refine kv_iconst (v := 0) X dL_lay_249 (by decide) ?_
            refine kv_iaload X (κ := 2000) (n := 50) (j := 0) (f := fm) (j_x0.1.mpr hx0) (j_x0.2.2.trans hxm) (by omega) (by decide) dL_lay_250 ?_
            refine kv_topi (nI nR) f0 ?_
            refine kv_calliSs (As := [.ref sc, .int (nI ((60 + (3 * k)) + j226)), .int (nI (nR))]) [.int (nI k), .int 3, .ref xa, .int w226] X hs (c_L_pick l dd (jk c226 wr x226, jd c226 wr x226, jE c226 wr x226) hLL ((60 + (3 * k)) + j226) (nR) (by omega) (by omega)) hl0 (kCS_of X 3 (goodIn_ext gL_lay_L_pick) rfl rfl rfl (by decide +kernel) hRR ⟨(Nat.le_of_ble_eq_true rfl), (Nat.le_of_ble_eq_true rfl)⟩) rfl rfl (Nat.le_of_ble_eq_true rfl) hRR ⟨(by show _ + 0 ≤ 1300; omega), (by show _ + 0 ≤ 18000; omega)⟩ dL_lay_251 (fun r251 p251 hp251 => ?_)
            obtain ⟨hp251, rfl⟩ := hp251
            show kv dd g _ _ 254 [(5, .int (nI j226)), (4, .int (nI k)), (3, .int w226), (0, .ref xa), (1, .ref (x226.2.1 0)), (2, .ref sc)] [.int (nI p251), .int (nI k), .int 3, .ref xa, .int w226] (jk c226 wr x226) (jd c226 wr x226) (jE c226 wr x226)
            refine kv_iconst (v := 1) X dL_lay_254 (by decide) ?_
            refine kv_aload_n X 5 dL_lay_255 rfl rfl ?_
            refine kv_bipush (v := 70) X dL_lay_256 (by decide) ?_
            refine kv_iconst (v := 3) X dL_lay_258 (by decide) ?_
            refine kv_iload X 1 dL_lay_259 rfl ?_
            refine kv_imul X dL_lay_261 ?_
            refine kv_topi (nI (3 * k)) (pk_mul 3 k) ?_
            refine kv_iadd X dL_lay_262 ?_
            refine kv_topi (nI (70 + (3 * k))) (nI_add 70 (3 * k)) ?_
            refine kv_iload X 0 dL_lay_263 rfl ?_
            refine kv_iadd X dL_lay_265 ?_
            refine kv_topi (nI ((70 + (3 * k)) + j226)) (nI_add (70 + (3 * k)) j226) ?_
            refine kv_bipush (v := 9) X dL_lay_266 (by decide) ?_
            refine kv_calliSs (As := [.ref sc, .int (nI ((70 + (3 * k)) + j226)), .int (nI (9))]) [.int 1, .int (nI p251), .int (nI k), .int 3, .ref xa, .int w226] X hs (c_L_pick l dd (jk c226 wr x226, jd c226 wr x226, jE c226 wr x226) hLL ((70 + (3 * k)) + j226) (9) (by omega) (by omega)) hl0 (kCS_of X 3 (goodIn_ext gL_lay_L_pick) rfl rfl rfl (by decide +kernel) hRR ⟨(Nat.le_of_ble_eq_true rfl), (Nat.le_of_ble_eq_true rfl)⟩) rfl rfl (Nat.le_of_ble_eq_true rfl) hRR ⟨(by show _ + 0 ≤ 1300; omega), (by show _ + 0 ≤ 18000; omega)⟩ dL_lay_268 (fun r268 p268 hp268 => ?_)
            obtain ⟨hp268, rfl⟩ := hp268
            show kv dd g _ _ 271 [(5, .int (nI j226)), (4, .int (nI k)), (3, .int w226), (0, .ref xa), (1, .ref (x226.2.1 0)), (2, .ref sc)] [.int (nI p268), .int 1, .int (nI p251), .int (nI k), .int 3, .ref xa, .int w226] (jk c226 wr x226) (jd c226 wr x226) (jE c226 wr x226)
            refine kv_iadd X dL_lay_271 ?_
            refine kv_topi (nI (1 + p268)) (nI_add 1 p268) ?_
            refine kv_iconst (v := 0) X dL_lay_272 (by decide) ?_
            refine kv_calliSW (As := [.ref xa, .int 3, .int (nI k), .int (nI p251), .int (nI (1 + p268)), .int 0]) [.int w226] X (d_addMember l wr x226 hq (nI k) (nI p251) (nI (1 + p268)) 0) hl0 (kCSW_of X 6 (show GoodIn (wsL_lay ++ kHp) (va_wsS RL 158 yL_deed (wsL_deed ++ kHp)) from gK (pre := [Cond.methodLink RL 158 yL_deed, Cond.static yL_deed, Cond.initialized yL_deed.cls]) gL_lay_L_deed) rfl rfl rfl (by decide +kernel) hRR ⟨(Nat.le_of_ble_eq_true rfl), (Nat.le_of_ble_eq_true rfl)⟩) rfl rfl (Nat.le_of_ble_eq_true rfl) hRR ⟨(by show _ + 12 ≤ 1300; omega), (by show _ + 170 ≤ 18000; omega)⟩ dL_lay_273 (fun r273 c273 h273 => ?_)
            obtain ⟨hr273, hq273⟩ := h273
            show kv dd g _ _ 276 [(5, .int (nI j226)), (4, .int (nI k)), (3, .int w226), (0, .ref xa), (1, .ref (x226.2.1 0)), (2, .ref sc)] [.int r273, .int w226] (jk c273 wr x226) (jd c273 wr x226) (jE c273 wr x226)
            refine kv_iadd X dL_lay_276 ?_
            refine kv_istore_n (lv2 := [(3, .int (w226 + r273)), (5, .int (nI j226)), (4, .int (nI k)), (0, .ref xa), (1, .ref (x226.2.1 0)), (2, .ref sc)]) X dL_lay_277 rfl (by rw [hnL]; decide) rfl ?_
            refine kv_iinc (j := 1) (v := (nI (j226 + 1))) (lv2 := [(5, .int (nI (j226 + 1))), (3, .int (w226 + r273)), (4, .int (nI k)), (0, .ref xa), (1, .ref (x226.2.1 0)), (2, .ref sc)]) X dL_lay_278 rfl (nI_add j226 1) (by rw [hnL]; decide) rfl ?_
            refine kv_goto (tgt := 226) X dL_lay_281 (by decide) ?_
            rw [hma226]
            exact kv_lv [0, 2, 1, 3, 4, 5] rfl (ih226 (j226 + 1) (by omega) _ _ _ _ ((w226 + r273)) ⟨by omega, by omega, _, _, _, fm, hq273, hx0, hma226, hxm, f0, f1, f2, f3, f4⟩ (wb_m (wb_s hwb226 hr273 (by omega)) (by omega)) (by omega) (by omega))
        exact kv_lv [0, 1, 2, 3, 4, 5] rfl (L226 3 0 (by omega) _ _ _ _ (w) ⟨by omega, by omega, _, _, _, (va_up fm (5) ((fm 5) + 0)), (LQ_f hq210 (fun i hi => va_up_ne _ _ (by omega))), hx0, rfl, va_up_self x.2.2 0 (kI dd 50 (va_up fm (5) ((fm 5) + 0))), ((va_up_ne _ _ (by omega)).trans f0), ((va_up_ne _ _ (by omega)).trans f1), ((va_up_ne _ _ (by omega)).trans f2), ((va_up_ne _ _ (by omega)).trans f3), ((va_up_ne _ _ (by omega)).trans f4)⟩ hwb (by omega) (by omega))
      ·
        refine kv_iconst (v := 1) X dL_lay_216 (by decide) ?_
        refine kv_goto (tgt := 221) X dL_lay_217 (by decide) ?_
        refine kv_iadd X dL_lay_221 ?_
        refine kv_iastore X (κ := 2000) (n := 50) (j := 5) (f := fm) (x := ((fm 5) + 1)) (j_x0.1.mpr hx0) (j_x0.2.2.trans hxm) (by omega) (by decide) dL_lay_222 ?_
        refine kv_E (E2 := jE c210 wr (xI dd x (va_up fm (5) ((fm 5) + 1)))) (fun j _ => xI_E j) ?_
        show kv dd g _ _ 223 [(4, .int (nI k)), (3, .int w), (0, .ref xa), (1, .ref (x.2.1 0)), (2, .ref sc)] [] (jk c210 wr (xI dd x (va_up fm (5) ((fm 5) + 1)))) (jd c210 wr (xI dd x (va_up fm (5) ((fm 5) + 1)))) (jE c210 wr (xI dd x (va_up fm (5) ((fm 5) + 1))))
        refine kv_iconst (v := 0) X dL_lay_223 (by decide) ?_
        refine kv_istore (lv2 := [(5, .int 0), (4, .int (nI k)), (3, .int w), (0, .ref xa), (1, .ref (x.2.1 0)), (2, .ref sc)]) X dL_lay_224 (by rw [hnL]; decide) rfl ?_
        have L226 : ∀ (n226 j226 : Nat), j226 + n226 = 3 → ∀ (a226 b226 : Nat) (c226 x226 : kT) (w226 : Int32), LWy dd c226 x226 xa (x.2.1 0) nR 0 → wb (3 * k + 1 * j226) w226 → a226 + 12 * n226 ≤ a + 48 → b226 + 170 * n226 ≤ b + 680 → kv dd g a226 b226 226 [(5, .int (nI j226)), (4, .int (nI k)), (3, .int w226), (0, .ref xa), (1, .ref (x.2.1 0)), (2, .ref sc)] [] (jk c226 wr x226) (jd c226 wr x226) (jE c226 wr x226) := by
          intro n226
          induction n226 with
          | zero =>
            intro j226 hj226 a226 b226 c226 x226 w226 hw226 hwb226 ha226 hb226
            have en226 : 3 = j226 := by omega
            subst en226
            refine kv_iload X 0 dL_lay_226 rfl ?_
            refine kv_iconst (v := 3) X dL_lay_228 (by decide) ?_
            refine kn_icmp_ge (x := 3) (y := 3) (tgt := 284) X (by omega) (by omega) dL_lay_229 (by decide) (fun hc229 => ?_) (fun hc229 => absurd hc229 (by omega))
            refine kv_iinc (j := 1) (v := (nI (k + 1))) (lv2 := [(4, .int (nI (k + 1))), (5, .int (nI 3)), (3, .int w226), (0, .ref xa), (1, .ref (x.2.1 0)), (2, .ref sc)]) X dL_lay_284 rfl (nI_add k 1) (by rw [hnL]; decide) rfl ?_
            refine kv_goto (tgt := 189) X dL_lay_287 (by decide) ?_
            exact kv_lv [0, 2, 3, 4, 5] rfl (ih (k + 1) (by omega) _ _ _ _ (w226) hw226 (wb_m hwb226 (by omega)) (by omega) (by omega))
          | succ n226 ih226 =>
            intro j226 hj226 a226 b226 c226 x226 w226 hw226 hwb226 ha226 hb226
            obtain ⟨hbR, hbT, nL, nV, nM, fm, hq, hx0, hma226, hxm, f0, f1, f2, f3, f4⟩ := hw226
            have lb := LQ_b hq
            rw [← hma226]
            refine kv_iload X 0 dL_lay_226 rfl ?_
            refine kv_iconst (v := 3) X dL_lay_228 (by decide) ?_
            refine kn_icmp_ge (x := j226) (y := 3) (tgt := 284) X (by omega) (by omega) dL_lay_229 (by decide) (fun hc229 => absurd hc229 (by omega)) (fun hc229 => ?_)
            refine kv_iload_n X 2 dL_lay_232 rfl rfl ?_
            refine kv_aload_n X 3 dL_lay_233 rfl rfl ?_
            refine kv_iconst (v := 3) X dL_lay_234 (by decide) ?_
            refine kv_iload X 1 dL_lay_235 rfl ?_
            refine kv_aload_n X 5 dL_lay_237 rfl rfl ?_
            refine kv_bipush (v := 60) X dL_lay_238 (by decide) ?_
            refine kv_iconst (v := 3) X dL_lay_240 (by decide) ?_
            refine kv_iload X 1 dL_lay_241 rfl ?_
            refine kv_imul X dL_lay_243 ?_
            refine kv_topi (nI (3 * k)) (pk_mul 3 k) ?_
            refine kv_iadd X dL_lay_244 ?_
            refine kv_topi (nI (60 + (3 * k))) (nI_add 60 (3 * k)) ?_
            refine kv_iload X 0 dL_lay_245 rfl ?_
            refine kv_iadd X dL_lay_247 ?_
            refine kv_topi (nI ((60 + (3 * k)) + j226)) (nI_add (60 + (3 * k)) j226) ?_
            refine kv_aload_n X 4 dL_lay_248 rfl rfl ?_
            refine kv_iconst (v := 0) X dL_lay_249 (by decide) ?_
            refine kv_iaload X (κ := 2000) (n := 50) (j := 0) (f := fm) (j_x0.1.mpr hx0) (j_x0.2.2.trans hxm) (by omega) (by decide) dL_lay_250 ?_
            refine kv_topi (nI nR) f0 ?_
            refine kv_calliSs (As := [.ref sc, .int (nI ((60 + (3 * k)) + j226)), .int (nI (nR))]) [.int (nI k), .int 3, .ref xa, .int w226] X hs (c_L_pick l dd (jk c226 wr x226, jd c226 wr x226, jE c226 wr x226) hLL ((60 + (3 * k)) + j226) (nR) (by omega) (by omega)) hl0 (kCS_of X 3 (goodIn_ext gL_lay_L_pick) rfl rfl rfl (by decide +kernel) hRR ⟨(Nat.le_of_ble_eq_true rfl), (Nat.le_of_ble_eq_true rfl)⟩) rfl rfl (Nat.le_of_ble_eq_true rfl) hRR ⟨(by show _ + 0 ≤ 1300; omega), (by show _ + 0 ≤ 18000; omega)⟩ dL_lay_251 (fun r251 p251 hp251 => ?_)
            obtain ⟨hp251, rfl⟩ := hp251
            show kv dd g _ _ 254 [(5, .int (nI j226)), (4, .int (nI k)), (3, .int w226), (0, .ref xa), (1, .ref (x226.2.1 0)), (2, .ref sc)] [.int (nI p251), .int (nI k), .int 3, .ref xa, .int w226] (jk c226 wr x226) (jd c226 wr x226) (jE c226 wr x226)
            refine kv_iconst (v := 1) X dL_lay_254 (by decide) ?_
            refine kv_aload_n X 5 dL_lay_255 rfl rfl ?_
            refine kv_bipush (v := 70) X dL_lay_256 (by decide) ?_
            refine kv_iconst (v := 3) X dL_lay_258 (by decide) ?_
            refine kv_iload X 1 dL_lay_259 rfl ?_
            refine kv_imul X dL_lay_261 ?_
            refine kv_topi (nI (3 * k)) (pk_mul 3 k) ?_
            refine kv_iadd X dL_lay_262 ?_
            refine kv_topi (nI (70 + (3 * k))) (nI_add 70 (3 * k)) ?_
            refine kv_iload X 0 dL_lay_263 rfl ?_
            refine kv_iadd X dL_lay_265 ?_
            refine kv_topi (nI ((70 + (3 * k)) + j226)) (nI_add (70 + (3 * k)) j226) ?_
            refine kv_bipush (v := 9) X dL_lay_266 (by decide) ?_
            refine kv_calliSs (As := [.ref sc, .int (nI ((70 + (3 * k)) + j226)), .int (nI (9))]) [.int 1, .int (nI p251), .int (nI k), .int 3, .ref xa, .int w226] X hs (c_L_pick l dd (jk c226 wr x226, jd c226 wr x226, jE c226 wr x226) hLL ((70 + (3 * k)) + j226) (9) (by omega) (by omega)) hl0 (kCS_of X 3 (goodIn_ext gL_lay_L_pick) rfl rfl rfl (by decide +kernel) hRR ⟨(Nat.le_of_ble_eq_true rfl), (Nat.le_of_ble_eq_true rfl)⟩) rfl rfl (Nat.le_of_ble_eq_true rfl) hRR ⟨(by show _ + 0 ≤ 1300; omega), (by show _ + 0 ≤ 18000; omega)⟩ dL_lay_268 (fun r268 p268 hp268 => ?_)
            obtain ⟨hp268, rfl⟩ := hp268
            show kv dd g _ _ 271 [(5, .int (nI j226)), (4, .int (nI k)), (3, .int w226), (0, .ref xa), (1, .ref (x226.2.1 0)), (2, .ref sc)] [.int (nI p268), .int 1, .int (nI p251), .int (nI k), .int 3, .ref xa, .int w226] (jk c226 wr x226) (jd c226 wr x226) (jE c226 wr x226)
            refine kv_iadd X dL_lay_271 ?_
            refine kv_topi (nI (1 + p268)) (nI_add 1 p268) ?_
            refine kv_iconst (v := 0) X dL_lay_272 (by decide) ?_
            refine kv_calliSW (As := [.ref xa, .int 3, .int (nI k), .int (nI p251), .int (nI (1 + p268)), .int 0]) [.int w226] X (d_addMember l wr x226 hq (nI k) (nI p251) (nI (1 + p268)) 0) hl0 (kCSW_of X 6 (show GoodIn (wsL_lay ++ kHp) (va_wsS RL 158 yL_deed (wsL_deed ++ kHp)) from gK (pre := [Cond.methodLink RL 158 yL_deed, Cond.static yL_deed, Cond.initialized yL_deed.cls]) gL_lay_L_deed) rfl rfl rfl (by decide +kernel) hRR ⟨(Nat.le_of_ble_eq_true rfl), (Nat.le_of_ble_eq_true rfl)⟩) rfl rfl (Nat.le_of_ble_eq_true rfl) hRR ⟨(by show _ + 12 ≤ 1300; omega), (by show _ + 170 ≤ 18000; omega)⟩ dL_lay_273 (fun r273 c273 h273 => ?_)
            obtain ⟨hr273, hq273⟩ := h273
            show kv dd g _ _ 276 [(5, .int (nI j226)), (4, .int (nI k)), (3, .int w226), (0, .ref xa), (1, .ref (x226.2.1 0)), (2, .ref sc)] [.int r273, .int w226] (jk c273 wr x226) (jd c273 wr x226) (jE c273 wr x226)
            refine kv_iadd X dL_lay_276 ?_
            refine kv_istore_n (lv2 := [(3, .int (w226 + r273)), (5, .int (nI j226)), (4, .int (nI k)), (0, .ref xa), (1, .ref (x226.2.1 0)), (2, .ref sc)]) X dL_lay_277 rfl (by rw [hnL]; decide) rfl ?_
            refine kv_iinc (j := 1) (v := (nI (j226 + 1))) (lv2 := [(5, .int (nI (j226 + 1))), (3, .int (w226 + r273)), (4, .int (nI k)), (0, .ref xa), (1, .ref (x226.2.1 0)), (2, .ref sc)]) X dL_lay_278 rfl (nI_add j226 1) (by rw [hnL]; decide) rfl ?_
            refine kv_goto (tgt := 226) X dL_lay_281 (by decide) ?_
            rw [hma226]
            exact kv_lv [0, 2, 1, 3, 4, 5] rfl (ih226 (j226 + 1) (by omega) _ _ _ _ ((w226 + r273)) ⟨by omega, by omega, _, _, _, fm, hq273, hx0, hma226, hxm, f0, f1, f2, f3, f4⟩ (wb_m (wb_s hwb226 hr273 (by omega)) (by omega)) (by omega) (by omega))
        exact kv_lv [0, 1, 2, 3, 4, 5] rfl (L226 3 0 (by omega) _ _ _ _ (w) ⟨by omega, by omega, _, _, _, (va_up fm (5) ((fm 5) + 1)), (LQ_f hq210 (fun i hi => va_up_ne _ _ (by omega))), hx0, rfl, va_up_self x.2.2 0 (kI dd 50 (va_up fm (5) ((fm 5) + 1))), ((va_up_ne _ _ (by omega)).trans f0), ((va_up_ne _ _ (by omega)).trans f1), ((va_up_ne _ _ (by omega)).trans f2), ((va_up_ne _ _ (by omega)).trans f3), ((va_up_ne _ _ (by omega)).trans f4)⟩ hwb (by omega) (by omega))
set_option maxRecDepth 100000 in
set_option maxHeartbeats 4000000 in
theorem ly_3 {l : Launch} {dd : kDD} {g : kG} (X : kX dd g cL_lay RL (wsL_lay ++ kHp)) (hRR : kR g = ({ frames := 14, cells := 1300, slots := 18000, locals := 330 } : Room)) (hnL : knL g = 8) (hl0 : kL g = l) {sc L : Nat} {xs : Nat → Int32} (hs : kScr g sc L xs) (hLL : L ≤ 260) {wr : kT} {xa ma : Nat} {nR : Nat} (hR2 : 2 ≤ nR) (hR7 : nR ≤ 8) (K : ∀ (a b : Nat) (c x : kT) (w : Int32) (T : Nat), a ≤ 336 → b ≤ 4760 → 2 ≤ T → T ≤ 8 → LWy dd c x xa ma nR T → wb 9 w → kv dd g a b 346 [(3, .int w), (0, .ref xa), (1, .ref ma), (2, .ref sc)] [] (jk c wr x) (jd c wr x) (jE c wr x)) : ∀ (n k : Nat), k + n = 8 → ∀ (a b : Nat) (c x : kT) (w : Int32), LWy dd c x xa ma nR k → wb (9) w → a + 12 * n ≤ 336 → b + 170 * n ≤ 4760 → kv dd g a b 293 [(4, .int (nI k)), (3, .int w), (0, .ref xa), (1, .ref ma), (2, .ref sc)] [] (jk c wr x) (jd c wr x) (jE c wr x) := by
  intro n
  induction n with
  | zero =>
    intro k hk a b c x w hw hwb ha hb
    refine kv_iload X 0 dL_lay_293 rfl ?_
    refine kv_iconst (v := 2) X dL_lay_295 (by decide) ?_
    refine kv_aload_n X 4 dL_lay_296 rfl rfl ?_
    refine kv_iconst (v := 2) X dL_lay_297 (by decide) ?_
    refine kv_bipush (v := 6) X dL_lay_298 (by decide) ?_
    refine kv_calliSs (As := [.ref sc, .int (nI (2)), .int (nI (6))]) [.int 2, .int (nI k)] X hs (c_L_pick l dd (jk c wr x, jd c wr x, jE c wr x) hLL (2) (6) (by omega) (by omega)) hl0 (kCS_of X 3 (goodIn_ext gL_lay_L_pick) rfl rfl rfl (by decide +kernel) hRR ⟨(Nat.le_of_ble_eq_true rfl), (Nat.le_of_ble_eq_true rfl)⟩) rfl rfl (Nat.le_of_ble_eq_true rfl) hRR ⟨(by show _ + 0 ≤ 1300; omega), (by show _ + 0 ≤ 18000; omega)⟩ dL_lay_300 (fun r300 p300 hp300 => ?_)
    obtain ⟨hp300, rfl⟩ := hp300
    show kv dd g _ _ 303 [(4, .int (nI k)), (3, .int w), (0, .ref xa), (1, .ref ma), (2, .ref sc)] [.int (nI p300), .int 2, .int (nI k)] (jk c wr x) (jd c wr x) (jE c wr x)
    refine kv_iadd X dL_lay_303 ?_
    refine kv_topi (nI (2 + p300)) (nI_add 2 p300) ?_
    refine kn_icmp_ge (x := k) (y := 2 + p300) (tgt := 346) X (by omega) (by omega) dL_lay_304 (by decide) (fun hc304 => ?_) (fun hc304 => absurd hc304 (by omega))
    exact kv_lv [1, 2, 3, 4] rfl (K _ _ c x w k (by omega) (by omega) (by omega) (by omega) hw hwb)
  | succ n ih =>
    intro k hk a b c x w hw hwb ha hb
    refine kv_iload X 0 dL_lay_293 rfl ?_
    refine kv_iconst (v := 2) X dL_lay_295 (by decide) ?_
    refine kv_aload_n X 4 dL_lay_296 rfl rfl ?_
    refine kv_iconst (v := 2) X dL_lay_297 (by decide) ?_
    refine kv_bipush (v := 6) X dL_lay_298 (by decide) ?_
    refine kv_calliSs (As := [.ref sc, .int (nI (2)), .int (nI (6))]) [.int 2, .int (nI k)] X hs (c_L_pick l dd (jk c wr x, jd c wr x, jE c wr x) hLL (2) (6) (by omega) (by omega)) hl0 (kCS_of X 3 (goodIn_ext gL_lay_L_pick) rfl rfl rfl (by decide +kernel) hRR ⟨(Nat.le_of_ble_eq_true rfl), (Nat.le_of_ble_eq_true rfl)⟩) rfl rfl (Nat.le_of_ble_eq_true rfl) hRR ⟨(by show _ + 0 ≤ 1300; omega), (by show _ + 0 ≤ 18000; omega)⟩ dL_lay_300 (fun r300 p300 hp300 => ?_)
    obtain ⟨hp300, rfl⟩ := hp300
    show kv dd g _ _ 303 [(4, .int (nI k)), (3, .int w), (0, .ref xa), (1, .ref ma), (2, .ref sc)] [.int (nI p300), .int 2, .int (nI k)] (jk c wr x) (jd c wr x) (jE c wr x)
    refine kv_iadd X dL_lay_303 ?_
    refine kv_topi (nI (2 + p300)) (nI_add 2 p300) ?_
    refine kn_icmp_ge (x := k) (y := 2 + p300) (tgt := 346) X (by omega) (by omega) dL_lay_304 (by decide) (fun hc304 => ?_) (fun hc304 => ?_)
    ·
      exact kv_lv [1, 2, 3, 4] rfl (K _ _ c x w k (by omega) (by omega) (by omega) (by omega) hw hwb)
    ·
      obtain ⟨hbR, hbT, nL, nV, nM, fm, hq, hx0, rfl, hxm, f0, f1, f2, f3, f4⟩ := hw
      have lb := LQ_b hq
      refine kv_aload_n X 3 dL_lay_307 rfl rfl ?_
      refine kv_iconst (v := 1) X dL_lay_308 (by decide) ?_
      refine kv_dup2_11 X dL_lay_309 rfl rfl ?_
      refine kv_iaload X (κ := 2000) (n := 50) (j := 1) (f := fm) (j_x0.1.mpr hx0) (j_x0.2.2.trans hxm) (by omega) (by decide) dL_lay_310 ?_
      refine kv_topi (nI k) f1 ?_
      refine kv_aload_n X 2 dL_lay_311 rfl rfl ?_
      refine kv_iconst (v := 4) X dL_lay_312 (by decide) ?_
      refine kv_aload_n X 4 dL_lay_313 rfl rfl ?_
      refine kv_bipush (v := 80) X dL_lay_314 (by decide) ?_
      refine kv_iload X 0 dL_lay_316 rfl ?_
      refine kv_iadd X dL_lay_318 ?_
      refine kv_topi (nI (80 + k)) (nI_add 80 k) ?_
      refine kv_bipush (v := 6) X dL_lay_319 (by decide) ?_
      refine kv_calliSs (As := [.ref sc, .int (nI (80 + k)), .int (nI (6))]) [.int 4, .ref xa, .int (nI k), .int 1, .ref (x.2.1 0)] X hs (c_L_pick l dd (jk c wr x, jd c wr x, jE c wr x) hLL (80 + k) (6) (by omega) (by omega)) hl0 (kCS_of X 3 (goodIn_ext gL_lay_L_pick) rfl rfl rfl (by decide +kernel) hRR ⟨(Nat.le_of_ble_eq_true rfl), (Nat.le_of_ble_eq_true rfl)⟩) rfl rfl (Nat.le_of_ble_eq_true rfl) hRR ⟨(by show _ + 0 ≤ 1300; omega), (by show _ + 0 ≤ 18000; omega)⟩ dL_lay_321 (fun r321 p321 hp321 => ?_)
      obtain ⟨hp321, rfl⟩ := hp321
      show kv dd g _ _ 324 [(4, .int (nI k)), (3, .int w), (0, .ref xa), (1, .ref (x.2.1 0)), (2, .ref sc)] [.int (nI p321), .int 4, .ref xa, .int (nI k), .int 1, .ref (x.2.1 0)] (jk c wr x) (jd c wr x) (jE c wr x)
      refine kv_iconst (v := 0) X dL_lay_324 (by decide) ?_
      refine kv_iconst (v := 0) X dL_lay_325 (by decide) ?_
      refine kv_iconst (v := 0) X dL_lay_326 (by decide) ?_
      refine kv_calliSW (As := [.ref xa, .int 4, .int (nI p321), .int 0, .int 0, .int 0]) [.int (nI k), .int 1, .ref (x.2.1 0)] X (d_addItem l wr x hq (nI p321) 0 0 0 (z_le (m := 5) (by omega) (by omega)) (by omega)) hl0 (kCSW_of X 6 (show GoodIn (wsL_lay ++ kHp) (va_wsS RL 158 yL_deed (wsL_deed ++ kHp)) from gK (pre := [Cond.methodLink RL 158 yL_deed, Cond.static yL_deed, Cond.initialized yL_deed.cls]) gL_lay_L_deed) rfl rfl rfl (by decide +kernel) hRR ⟨(Nat.le_of_ble_eq_true rfl), (Nat.le_of_ble_eq_true rfl)⟩) rfl rfl (Nat.le_of_ble_eq_true rfl) hRR ⟨(by show _ + 12 ≤ 1300; omega), (by show _ + 170 ≤ 18000; omega)⟩ dL_lay_327 (fun r327 c327 h327 => ?_)
      obtain ⟨rfl, hq327⟩ := h327
      show kv dd g _ _ 330 [(4, .int (nI k)), (3, .int w), (0, .ref xa), (1, .ref (x.2.1 0)), (2, .ref sc)] [.int (nI k), .int (nI k), .int 1, .ref (x.2.1 0)] (jk c327 wr x) (jd c327 wr x) (jE c327 wr x)
      refine kv_if_lt (tgt := 337) X dL_lay_330 (by decide) (fun hc330 => False.elim (Int32.not_lt.mpr (nI_00 (by omega)) hc330)) (fun hc330 => ?_)
      refine kv_iconst (v := 1) X dL_lay_333 (by decide) ?_
      refine kv_goto (tgt := 338) X dL_lay_334 (by decide) ?_
      refine kv_iadd X dL_lay_338 ?_
      refine kv_topi (nI (k + 1)) (nI_add k 1) ?_
      refine kv_iastore X (κ := 2000) (n := 50) (j := 1) (f := fm) (x := (nI (k + 1))) (j_x0.1.mpr hx0) (j_x0.2.2.trans hxm) (by omega) (by decide) dL_lay_339 ?_
      refine kv_E (E2 := jE c327 wr (xI dd x (va_up fm (1) (nI (k + 1))))) (fun j _ => xI_E j) ?_
      show kv dd g _ _ 340 [(4, .int (nI k)), (3, .int w), (0, .ref xa), (1, .ref (x.2.1 0)), (2, .ref sc)] [] (jk c327 wr (xI dd x (va_up fm (1) (nI (k + 1))))) (jd c327 wr (xI dd x (va_up fm (1) (nI (k + 1))))) (jE c327 wr (xI dd x (va_up fm (1) (nI (k + 1)))))
      refine kv_iinc (j := 0) (v := (nI (k + 1))) (lv2 := [(4, .int (nI (k + 1))), (3, .int w), (0, .ref xa), (1, .ref (x.2.1 0)), (2, .ref sc)]) X dL_lay_340 rfl (nI_add k 1) (by rw [hnL]; decide) rfl ?_
      refine kv_goto (tgt := 293) X dL_lay_343 (by decide) ?_
      exact kv_lv [0, 1, 2, 3, 4] rfl (ih (k + 1) (by omega) _ _ _ _ (w) ⟨by omega, by omega, _, _, _, (va_up fm (1) (nI (k + 1))), (LQ_f hq327 (fun i hi => va_up_ne _ _ (by omega))), hx0, rfl, va_up_self x.2.2 0 (kI dd 50 (va_up fm (1) (nI (k + 1)))), ((va_up_ne _ _ (by omega)).trans f0), (va_up_self _ _ _), ((va_up_ne _ _ (by omega)).trans f2), ((va_up_ne _ _ (by omega)).trans f3), ((va_up_ne _ _ (by omega)).trans f4)⟩ (wb_m hwb (by omega)) (by omega) (by omega))
set_option maxRecDepth 100000 in
set_option maxHeartbeats 4000000 in
theorem ly_4 {l : Launch} {dd : kDD} {g : kG} (X : kX dd g cL_lay RL (wsL_lay ++ kHp)) (hRR : kR g = ({ frames := 14, cells := 1300, slots := 18000, locals := 330 } : Room)) (hnL : knL g = 8) (hl0 : kL g = l) {sc L : Nat} {xs : Nat → Int32} (hs : kScr g sc L xs) (hLL : L ≤ 260) {wr : kT} {xa ma : Nat} {nR nt : Nat} (hR2 : 2 ≤ nR) (hR7 : nR ≤ 8) (hT2 : 2 ≤ nt) (hT7 : nt ≤ 8) (K : ∀ (a b : Nat) (c x : kT) (w : Int32), a ≤ 528 → b ≤ 7480 → LWy dd c x xa ma nR nt → wb 25 w → kv dd g a b 506 [(3, .int w), (0, .ref xa), (1, .ref ma), (2, .ref sc)] [] (jk c wr x) (jd c wr x) (jE c wr x)) : ∀ (n k : Nat), k + n = 16 → ∀ (a b : Nat) (c x : kT) (w : Int32), LWy dd c x xa ma nR nt → wb (9 + k) w → a + 12 * n ≤ 528 → b + 170 * n ≤ 7480 → kv dd g a b 349 [(4, .int (nI k)), (3, .int w), (0, .ref xa), (1, .ref ma), (2, .ref sc)] [] (jk c wr x) (jd c wr x) (jE c wr x) := by
  intro n
  induction n with
  | zero =>
    intro k hk a b c x w hw hwb ha hb
    refine kv_iload X 0 dL_lay_349 rfl ?_
    refine kv_bipush (v := 16) X dL_lay_351 (by decide) ?_
    refine kn_icmp_ge (x := k) (y := 16) (tgt := 506) X (by omega) (by omega) dL_lay_353 (by decide) (fun hc353 => ?_) (fun hc353 => absurd hc353 (by omega))
    exact kv_lv [1, 2, 3, 4] rfl (K _ _ c x w (by omega) (by omega) hw (wb_m hwb (by omega)))
  | succ n ih =>
    intro k hk a b c x w hw hwb ha hb
    refine kv_iload X 0 dL_lay_349 rfl ?_
    refine kv_bipush (v := 16) X dL_lay_351 (by decide) ?_
    refine kn_icmp_ge (x := k) (y := 16) (tgt := 506) X (by omega) (by omega) dL_lay_353 (by decide) (fun hc353 => ?_) (fun hc353 => ?_)
    ·
      exact kv_lv [1, 2, 3, 4] rfl (K _ _ c x w (by omega) (by omega) hw (wb_m hwb (by omega)))
    ·
      obtain ⟨hbR, hbT, nL, nV, nM, fm, hq, hx0, rfl, hxm, f0, f1, f2, f3, f4⟩ := hw
      have lb := LQ_b hq
      refine kv_aload_n X 4 dL_lay_356 rfl rfl ?_
      refine kv_bipush (v := 90) X dL_lay_357 (by decide) ?_
      refine kv_iload X 0 dL_lay_359 rfl ?_
      refine kv_iadd X dL_lay_361 ?_
      refine kv_topi (nI (90 + k)) (nI_add 90 k) ?_
      refine kv_aload_n X 3 dL_lay_362 rfl rfl ?_
      refine kv_iconst (v := 1) X dL_lay_363 (by decide) ?_
      refine kv_iaload X (κ := 2000) (n := 50) (j := 1) (f := fm) (j_x0.1.mpr hx0) (j_x0.2.2.trans hxm) (by omega) (by decide) dL_lay_364 ?_
      refine kv_topi (nI nt) f1 ?_
      refine kv_calliSs (As := [.ref sc, .int (nI (90 + k)), .int (nI (nt))]) [] X hs (c_L_pick l dd (jk c wr x, jd c wr x, jE c wr x) hLL (90 + k) (nt) (by omega) (by omega)) hl0 (kCS_of X 3 (goodIn_ext gL_lay_L_pick) rfl rfl rfl (by decide +kernel) hRR ⟨(Nat.le_of_ble_eq_true rfl), (Nat.le_of_ble_eq_true rfl)⟩) rfl rfl (Nat.le_of_ble_eq_true rfl) hRR ⟨(by show _ + 0 ≤ 1300; omega), (by show _ + 0 ≤ 18000; omega)⟩ dL_lay_365 (fun r365 p365 hp365 => ?_)
      obtain ⟨hp365, rfl⟩ := hp365
      show kv dd g _ _ 368 [(4, .int (nI k)), (3, .int w), (0, .ref xa), (1, .ref (x.2.1 0)), (2, .ref sc)] [.int (nI p365)] (jk c wr x) (jd c wr x) (jE c wr x)
      refine kv_istore (lv2 := [(5, .int (nI p365)), (4, .int (nI k)), (3, .int w), (0, .ref xa), (1, .ref (x.2.1 0)), (2, .ref sc)]) X dL_lay_368 (by rw [hnL]; decide) rfl ?_
      refine kv_aload_n X 5 dL_lay_370 rfl rfl ?_
      refine kv_bipush (v := 110) X dL_lay_371 (by decide) ?_
      refine kv_iload X 1 dL_lay_373 rfl ?_
      refine kv_iadd X dL_lay_375 ?_
      refine kv_topi (nI (110 + k)) (nI_add 110 k) ?_
      refine kv_iconst (v := 4) X dL_lay_376 (by decide) ?_
      refine kv_calliSs (As := [.ref sc, .int (nI (110 + k)), .int (nI (4))]) [] X hs (c_L_pick l dd (jk c wr x, jd c wr x, jE c wr x) hLL (110 + k) (4) (by omega) (by omega)) hl0 (kCS_of X 3 (goodIn_ext gL_lay_L_pick) rfl rfl rfl (by decide +kernel) hRR ⟨(Nat.le_of_ble_eq_true rfl), (Nat.le_of_ble_eq_true rfl)⟩) rfl rfl (Nat.le_of_ble_eq_true rfl) hRR ⟨(by show _ + 0 ≤ 1300; omega), (by show _ + 0 ≤ 18000; omega)⟩ dL_lay_377 (fun r377 p377 hp377 => ?_)
      obtain ⟨hp377, rfl⟩ := hp377
      show kv dd g _ _ 380 [(5, .int (nI p365)), (4, .int (nI k)), (3, .int w), (0, .ref xa), (1, .ref (x.2.1 0)), (2, .ref sc)] [.int (nI p377)] (jk c wr x) (jd c wr x) (jE c wr x)
      refine kv_istore (lv2 := [(6, .int (nI p377)), (5, .int (nI p365)), (4, .int (nI k)), (3, .int w), (0, .ref xa), (1, .ref (x.2.1 0)), (2, .ref sc)]) X dL_lay_380 (by rw [hnL]; decide) rfl ?_
      refine kv_aload_n X 6 dL_lay_382 rfl rfl ?_
      refine kv_sipush (v := 130) X dL_lay_383 (by decide) ?_
      refine kv_iload X 2 dL_lay_386 rfl ?_
      refine kv_iadd X dL_lay_388 ?_
      refine kv_topi (nI (130 + k)) (nI_add 130 k) ?_
      refine kv_bipush (v := 12) X dL_lay_389 (by decide) ?_
      refine kv_calliSs (As := [.ref sc, .int (nI (130 + k)), .int (nI (12))]) [] X hs (c_L_pick l dd (jk c wr x, jd c wr x, jE c wr x) hLL (130 + k) (12) (by omega) (by omega)) hl0 (kCS_of X 3 (goodIn_ext gL_lay_L_pick) rfl rfl rfl (by decide +kernel) hRR ⟨(Nat.le_of_ble_eq_true rfl), (Nat.le_of_ble_eq_true rfl)⟩) rfl rfl (Nat.le_of_ble_eq_true rfl) hRR ⟨(by show _ + 0 ≤ 1300; omega), (by show _ + 0 ≤ 18000; omega)⟩ dL_lay_391 (fun r391 p391 hp391 => ?_)
      obtain ⟨hp391, rfl⟩ := hp391
      show kv dd g _ _ 394 [(6, .int (nI p377)), (5, .int (nI p365)), (4, .int (nI k)), (3, .int w), (0, .ref xa), (1, .ref (x.2.1 0)), (2, .ref sc)] [.int (nI p391)] (jk c wr x) (jd c wr x) (jE c wr x)
      refine kv_istore (lv2 := [(7, .int (nI p391)), (6, .int (nI p377)), (5, .int (nI p365)), (4, .int (nI k)), (3, .int w), (0, .ref xa), (1, .ref (x.2.1 0)), (2, .ref sc)]) X dL_lay_394 (by rw [hnL]; decide) rfl ?_
      refine kv_iload_n X 4 dL_lay_396 rfl rfl ?_
      refine kv_iload X 1 dL_lay_397 rfl ?_
      refine kn_if_ne (x := p377) (tgt := 433) X (by omega) dL_lay_399 (by decide) (fun hc399 => ?_) (fun hc399 => ?_)
      ·
        refine kv_iload X 1 dL_lay_433 rfl ?_
        refine kv_iconst (v := 1) X dL_lay_435 (by decide) ?_
        refine kn_icmp_ne (x := p377) (y := 1) (tgt := 469) X (by omega) (by omega) dL_lay_436 (by decide) (fun hc436 => ?_) (fun hc436 => ?_)
        ·
          refine kv_aload_n X 5 dL_lay_469 rfl rfl ?_
          refine kv_bipush (v := 6) X dL_lay_470 (by decide) ?_
          refine kv_iload X 2 dL_lay_472 rfl ?_
          refine kv_iload X 0 dL_lay_474 rfl ?_
          refine kv_aload_n X 6 dL_lay_476 rfl rfl ?_
          refine kv_iconst (v := 0) X dL_lay_477 (by decide) ?_
          refine kv_iaload X (κ := 2000) (n := 50) (j := 0) (f := fm) (j_x0.1.mpr hx0) (j_x0.2.2.trans hxm) (by omega) (by decide) dL_lay_478 ?_
          refine kv_topi (nI nR) f0 ?_
          refine kv_irem X dL_lay_479 (nI_poss (by omega) (by omega)) ?_
          refine kv_iconst (v := 1) X dL_lay_480 (by decide) ?_
          refine kv_aload_n X 7 dL_lay_481 rfl rfl ?_
          refine kv_sipush (v := 150) X dL_lay_482 (by decide) ?_
          refine kv_iload X 3 dL_lay_485 rfl ?_
          refine kv_iadd X dL_lay_487 ?_
          refine kv_topi (nI (150 + k)) (nI_add 150 k) ?_
          refine kv_bipush (v := 99) X dL_lay_488 (by decide) ?_
          refine kv_calliSs (As := [.ref sc, .int (nI (150 + k)), .int (nI (99))]) [.int 1, .int ((nI p391) - (nI p391) / (nI nR) * (nI nR)), .int (nI p365), .int 6, .ref xa, .int w] X hs (c_L_pick l dd (jk c wr x, jd c wr x, jE c wr x) hLL (150 + k) (99) (by omega) (by omega)) hl0 (kCS_of X 3 (goodIn_ext gL_lay_L_pick) rfl rfl rfl (by decide +kernel) hRR ⟨(Nat.le_of_ble_eq_true rfl), (Nat.le_of_ble_eq_true rfl)⟩) rfl rfl (Nat.le_of_ble_eq_true rfl) hRR ⟨(by show _ + 0 ≤ 1300; omega), (by show _ + 0 ≤ 18000; omega)⟩ dL_lay_490 (fun r490 p490 hp490 => ?_)
          obtain ⟨hp490, rfl⟩ := hp490
          show kv dd g _ _ 493 [(7, .int (nI p391)), (6, .int (nI p377)), (5, .int (nI p365)), (4, .int (nI k)), (3, .int w), (0, .ref xa), (1, .ref (x.2.1 0)), (2, .ref sc)] [.int (nI p490), .int 1, .int ((nI p391) - (nI p391) / (nI nR) * (nI nR)), .int (nI p365), .int 6, .ref xa, .int w] (jk c wr x) (jd c wr x) (jE c wr x)
          refine kv_iadd X dL_lay_493 ?_
          refine kv_topi (nI (1 + p490)) (nI_add 1 p490) ?_
          refine kv_iconst (v := 0) X dL_lay_494 (by decide) ?_
          refine kv_calliSW (As := [.ref xa, .int 6, .int (nI p365), .int ((nI p391) - (nI p391) / (nI nR) * (nI nR)), .int (nI (1 + p490)), .int 0]) [.int w] X (d_addUse l wr x hq (nI p365) ((nI p391) - (nI p391) / (nI nR) * (nI nR)) (nI (1 + p490)) 0) hl0 (kCSW_of X 6 (show GoodIn (wsL_lay ++ kHp) (va_wsS RL 158 yL_deed (wsL_deed ++ kHp)) from gK (pre := [Cond.methodLink RL 158 yL_deed, Cond.static yL_deed, Cond.initialized yL_deed.cls]) gL_lay_L_deed) rfl rfl rfl (by decide +kernel) hRR ⟨(Nat.le_of_ble_eq_true rfl), (Nat.le_of_ble_eq_true rfl)⟩) rfl rfl (Nat.le_of_ble_eq_true rfl) hRR ⟨(by show _ + 12 ≤ 1300; omega), (by show _ + 170 ≤ 18000; omega)⟩ dL_lay_495 (fun r495 c495 h495 => ?_)
          obtain ⟨hr495, hq495⟩ := h495
          show kv dd g _ _ 498 [(7, .int (nI p391)), (6, .int (nI p377)), (5, .int (nI p365)), (4, .int (nI k)), (3, .int w), (0, .ref xa), (1, .ref (x.2.1 0)), (2, .ref sc)] [.int r495, .int w] (jk c495 wr x) (jd c495 wr x) (jE c495 wr x)
          refine kv_iadd X dL_lay_498 ?_
          refine kv_istore_n (lv2 := [(3, .int (w + r495)), (7, .int (nI p391)), (6, .int (nI p377)), (5, .int (nI p365)), (4, .int (nI k)), (0, .ref xa), (1, .ref (x.2.1 0)), (2, .ref sc)]) X dL_lay_499 rfl (by rw [hnL]; decide) rfl ?_
          refine kv_iinc (j := 4) (v := (nI (k + 1))) (lv2 := [(4, .int (nI (k + 1))), (3, .int (w + r495)), (7, .int (nI p391)), (6, .int (nI p377)), (5, .int (nI p365)), (0, .ref xa), (1, .ref (x.2.1 0)), (2, .ref sc)]) X dL_lay_500 rfl (nI_add k 1) (by rw [hnL]; decide) rfl ?_
          refine kv_goto (tgt := 349) X dL_lay_503 (by decide) ?_
          exact kv_lv [0, 1, 5, 6, 7] rfl (ih (k + 1) (by omega) _ _ _ _ ((w + r495)) ⟨by omega, by omega, _, _, _, fm, hq495, hx0, rfl, hxm, f0, f1, f2, f3, f4⟩ (wb_m (wb_s hwb hr495 (by omega)) (by omega)) (by omega) (by omega))
        ·
          refine kv_aload_n X 5 dL_lay_439 rfl rfl ?_
          refine kv_bipush (v := 7) X dL_lay_440 (by decide) ?_
          refine kv_iload X 2 dL_lay_442 rfl ?_
          refine kv_iload X 0 dL_lay_444 rfl ?_
          refine kv_iconst (v := 3) X dL_lay_446 (by decide) ?_
          refine kv_irem X dL_lay_447 (by decide) ?_
          refine kv_iconst (v := 1) X dL_lay_448 (by decide) ?_
          refine kv_aload_n X 7 dL_lay_449 rfl rfl ?_
          refine kv_sipush (v := 150) X dL_lay_450 (by decide) ?_
          refine kv_iload X 3 dL_lay_453 rfl ?_
          refine kv_iadd X dL_lay_455 ?_
          refine kv_topi (nI (150 + k)) (nI_add 150 k) ?_
          refine kv_bipush (v := 99) X dL_lay_456 (by decide) ?_
          refine kv_calliSs (As := [.ref sc, .int (nI (150 + k)), .int (nI (99))]) [.int 1, .int ((nI p391) - (nI p391) / 3 * 3), .int (nI p365), .int 7, .ref xa, .int w] X hs (c_L_pick l dd (jk c wr x, jd c wr x, jE c wr x) hLL (150 + k) (99) (by omega) (by omega)) hl0 (kCS_of X 3 (goodIn_ext gL_lay_L_pick) rfl rfl rfl (by decide +kernel) hRR ⟨(Nat.le_of_ble_eq_true rfl), (Nat.le_of_ble_eq_true rfl)⟩) rfl rfl (Nat.le_of_ble_eq_true rfl) hRR ⟨(by show _ + 0 ≤ 1300; omega), (by show _ + 0 ≤ 18000; omega)⟩ dL_lay_458 (fun r458 p458 hp458 => ?_)
          obtain ⟨hp458, rfl⟩ := hp458
          show kv dd g _ _ 461 [(7, .int (nI p391)), (6, .int (nI p377)), (5, .int (nI p365)), (4, .int (nI k)), (3, .int w), (0, .ref xa), (1, .ref (x.2.1 0)), (2, .ref sc)] [.int (nI p458), .int 1, .int ((nI p391) - (nI p391) / 3 * 3), .int (nI p365), .int 7, .ref xa, .int w] (jk c wr x) (jd c wr x) (jE c wr x)
          refine kv_iadd X dL_lay_461 ?_
          refine kv_topi (nI (1 + p458)) (nI_add 1 p458) ?_
          refine kv_iconst (v := 0) X dL_lay_462 (by decide) ?_
          refine kv_calliSW (As := [.ref xa, .int 7, .int (nI p365), .int ((nI p391) - (nI p391) / 3 * 3), .int (nI (1 + p458)), .int 0]) [.int w] X (d_addWork l wr x hq (nI p365) ((nI p391) - (nI p391) / 3 * 3) (nI (1 + p458)) 0) hl0 (kCSW_of X 6 (show GoodIn (wsL_lay ++ kHp) (va_wsS RL 158 yL_deed (wsL_deed ++ kHp)) from gK (pre := [Cond.methodLink RL 158 yL_deed, Cond.static yL_deed, Cond.initialized yL_deed.cls]) gL_lay_L_deed) rfl rfl rfl (by decide +kernel) hRR ⟨(Nat.le_of_ble_eq_true rfl), (Nat.le_of_ble_eq_true rfl)⟩) rfl rfl (Nat.le_of_ble_eq_true rfl) hRR ⟨(by show _ + 12 ≤ 1300; omega), (by show _ + 170 ≤ 18000; omega)⟩ dL_lay_463 (fun r463 c463 h463 => ?_)
          obtain ⟨hr463, hq463⟩ := h463
          show kv dd g _ _ 466 [(7, .int (nI p391)), (6, .int (nI p377)), (5, .int (nI p365)), (4, .int (nI k)), (3, .int w), (0, .ref xa), (1, .ref (x.2.1 0)), (2, .ref sc)] [.int r463, .int w] (jk c463 wr x) (jd c463 wr x) (jE c463 wr x)
          refine kv_goto (tgt := 498) X dL_lay_466 (by decide) ?_
          refine kv_iadd X dL_lay_498 ?_
          refine kv_istore_n (lv2 := [(3, .int (w + r463)), (7, .int (nI p391)), (6, .int (nI p377)), (5, .int (nI p365)), (4, .int (nI k)), (0, .ref xa), (1, .ref (x.2.1 0)), (2, .ref sc)]) X dL_lay_499 rfl (by rw [hnL]; decide) rfl ?_
          refine kv_iinc (j := 4) (v := (nI (k + 1))) (lv2 := [(4, .int (nI (k + 1))), (3, .int (w + r463)), (7, .int (nI p391)), (6, .int (nI p377)), (5, .int (nI p365)), (0, .ref xa), (1, .ref (x.2.1 0)), (2, .ref sc)]) X dL_lay_500 rfl (nI_add k 1) (by rw [hnL]; decide) rfl ?_
          refine kv_goto (tgt := 349) X dL_lay_503 (by decide) ?_
          exact kv_lv [0, 1, 5, 6, 7] rfl (ih (k + 1) (by omega) _ _ _ _ ((w + r463)) ⟨by omega, by omega, _, _, _, fm, hq463, hx0, rfl, hxm, f0, f1, f2, f3, f4⟩ (wb_m (wb_s hwb hr463 (by omega)) (by omega)) (by omega) (by omega))
      ·
        refine kv_aload_n X 5 dL_lay_402 rfl rfl ?_
        refine kv_iconst (v := 5) X dL_lay_403 (by decide) ?_
        refine kv_iload X 2 dL_lay_404 rfl ?_
        refine kv_iload X 0 dL_lay_406 rfl ?_
        refine kv_aload_n X 6 dL_lay_408 rfl rfl ?_
        refine kv_iconst (v := 1) X dL_lay_409 (by decide) ?_
        refine kv_iaload X (κ := 2000) (n := 50) (j := 1) (f := fm) (j_x0.1.mpr hx0) (j_x0.2.2.trans hxm) (by omega) (by decide) dL_lay_410 ?_
        refine kv_topi (nI nt) f1 ?_
        refine kv_irem X dL_lay_411 (nI_poss (by omega) (by omega)) ?_
        refine kv_iconst (v := 1) X dL_lay_412 (by decide) ?_
        refine kv_aload_n X 7 dL_lay_413 rfl rfl ?_
        refine kv_sipush (v := 150) X dL_lay_414 (by decide) ?_
        refine kv_iload X 3 dL_lay_417 rfl ?_
        refine kv_iadd X dL_lay_419 ?_
        refine kv_topi (nI (150 + k)) (nI_add 150 k) ?_
        refine kv_bipush (v := 9) X dL_lay_420 (by decide) ?_
        refine kv_calliSs (As := [.ref sc, .int (nI (150 + k)), .int (nI (9))]) [.int 1, .int ((nI p391) - (nI p391) / (nI nt) * (nI nt)), .int (nI p365), .int 5, .ref xa, .int w] X hs (c_L_pick l dd (jk c wr x, jd c wr x, jE c wr x) hLL (150 + k) (9) (by omega) (by omega)) hl0 (kCS_of X 3 (goodIn_ext gL_lay_L_pick) rfl rfl rfl (by decide +kernel) hRR ⟨(Nat.le_of_ble_eq_true rfl), (Nat.le_of_ble_eq_true rfl)⟩) rfl rfl (Nat.le_of_ble_eq_true rfl) hRR ⟨(by show _ + 0 ≤ 1300; omega), (by show _ + 0 ≤ 18000; omega)⟩ dL_lay_422 (fun r422 p422 hp422 => ?_)
        obtain ⟨hp422, rfl⟩ := hp422
        show kv dd g _ _ 425 [(7, .int (nI p391)), (6, .int (nI p377)), (5, .int (nI p365)), (4, .int (nI k)), (3, .int w), (0, .ref xa), (1, .ref (x.2.1 0)), (2, .ref sc)] [.int (nI p422), .int 1, .int ((nI p391) - (nI p391) / (nI nt) * (nI nt)), .int (nI p365), .int 5, .ref xa, .int w] (jk c wr x) (jd c wr x) (jE c wr x)
        refine kv_iadd X dL_lay_425 ?_
        refine kv_topi (nI (1 + p422)) (nI_add 1 p422) ?_
        refine kv_iconst (v := 0) X dL_lay_426 (by decide) ?_
        refine kv_calliSW (As := [.ref xa, .int 5, .int (nI p365), .int ((nI p391) - (nI p391) / (nI nt) * (nI nt)), .int (nI (1 + p422)), .int 0]) [.int w] X (d_addPart l wr x hq (nI p365) ((nI p391) - (nI p391) / (nI nt) * (nI nt)) (nI (1 + p422)) 0) hl0 (kCSW_of X 6 (show GoodIn (wsL_lay ++ kHp) (va_wsS RL 158 yL_deed (wsL_deed ++ kHp)) from gK (pre := [Cond.methodLink RL 158 yL_deed, Cond.static yL_deed, Cond.initialized yL_deed.cls]) gL_lay_L_deed) rfl rfl rfl (by decide +kernel) hRR ⟨(Nat.le_of_ble_eq_true rfl), (Nat.le_of_ble_eq_true rfl)⟩) rfl rfl (Nat.le_of_ble_eq_true rfl) hRR ⟨(by show _ + 12 ≤ 1300; omega), (by show _ + 170 ≤ 18000; omega)⟩ dL_lay_427 (fun r427 c427 h427 => ?_)
        obtain ⟨hr427, hq427⟩ := h427
        show kv dd g _ _ 430 [(7, .int (nI p391)), (6, .int (nI p377)), (5, .int (nI p365)), (4, .int (nI k)), (3, .int w), (0, .ref xa), (1, .ref (x.2.1 0)), (2, .ref sc)] [.int r427, .int w] (jk c427 wr x) (jd c427 wr x) (jE c427 wr x)
        refine kv_goto (tgt := 498) X dL_lay_430 (by decide) ?_
        refine kv_iadd X dL_lay_498 ?_
        refine kv_istore_n (lv2 := [(3, .int (w + r427)), (7, .int (nI p391)), (6, .int (nI p377)), (5, .int (nI p365)), (4, .int (nI k)), (0, .ref xa), (1, .ref (x.2.1 0)), (2, .ref sc)]) X dL_lay_499 rfl (by rw [hnL]; decide) rfl ?_
        refine kv_iinc (j := 4) (v := (nI (k + 1))) (lv2 := [(4, .int (nI (k + 1))), (3, .int (w + r427)), (7, .int (nI p391)), (6, .int (nI p377)), (5, .int (nI p365)), (0, .ref xa), (1, .ref (x.2.1 0)), (2, .ref sc)]) X dL_lay_500 rfl (nI_add k 1) (by rw [hnL]; decide) rfl ?_
        refine kv_goto (tgt := 349) X dL_lay_503 (by decide) ?_
        exact kv_lv [0, 1, 5, 6, 7] rfl (ih (k + 1) (by omega) _ _ _ _ ((w + r427)) ⟨by omega, by omega, _, _, _, fm, hq427, hx0, rfl, hxm, f0, f1, f2, f3, f4⟩ (wb_m (wb_s hwb hr427 (by omega)) (by omega)) (by omega) (by omega))

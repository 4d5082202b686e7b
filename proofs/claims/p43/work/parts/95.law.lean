/-! P43: THE LAW -/
abbrev wsLaw : List Cond := wsL_law ++ kHp
theorem kv_sub {dd : kDD} {g : kG} {a b pc : Nat} {lv : List (Nat × Value)} {st : List Value} {ks ks2 : List Nat} {ad ad2 : Nat → Nat} {E E2 : Nat → va_E} (hn : ks2.Nodup) (h : ∀ j, j ∈ ks2 → j ∈ ks ∧ ad2 j = ad j ∧ E2 j = E j) (k : kv dd g a b pc lv st ks2 ad2 E2) : kv dd g a b pc lv st ks ad E := by
  obtain ⟨p, l, e, R, s, m, args, below, meth, c, Q, A, nL⟩ := g
  intro H locs ls hP hD hS hl
  obtain ⟨h1, h2⟩ := kw_part hP hD hn (fun j hj => (h j hj).1)
  rw [kw_congr (ad' := ad2) (E' := E2) (fun j hj => ⟨((h j hj).2.1).symm, ((h j hj).2.2).symm⟩)] at h1 h2
  exact k H locs ls h1 h2 hS hl
theorem jk_mem {c r x : kT} {j : Nat} : j ∈ jk c r x ↔ (j < 1000 ∧ j ∈ c.1) ∨ (∃ i, i < 1000 ∧ i ∈ r.1 ∧ j = i + 1000) ∨ (∃ i, i < 1000 ∧ i ∈ x.1 ∧ j = i + 2000) := by
  unfold jk
  rw [List.mem_append, List.mem_append, List.mem_map, List.mem_map, cf_mem]
  constructor
  · rintro (⟨h1, h2⟩ | ⟨i, h1, h2⟩ | ⟨i, h1, h2⟩)
    · exact Or.inl ⟨h2, h1⟩
    · exact Or.inr (Or.inl ⟨i, (cf_mem.mp h1).2, (cf_mem.mp h1).1, h2.symm⟩)
    · exact Or.inr (Or.inr ⟨i, (cf_mem.mp h1).2, (cf_mem.mp h1).1, h2.symm⟩)
  · rintro (⟨h1, h2⟩ | ⟨i, h1, h2, h3⟩ | ⟨i, h1, h2, h3⟩)
    · exact Or.inl ⟨h2, h1⟩
    · exact Or.inr (Or.inl ⟨i, cf_mem.mpr ⟨h2, h1⟩, h3.symm⟩)
    · exact Or.inr (Or.inr ⟨i, cf_mem.mpr ⟨h2, h1⟩, h3.symm⟩)
theorem jk_nd {c r x : kT} (hc : (cf c).1.Nodup) (hr : (cf r).1.Nodup) (hx : (cf x).1.Nodup) : (jk c r x).Nodup := by
  unfold jk
  refine List.nodup_append.mpr ⟨hc, List.nodup_append.mpr ⟨List.Pairwise.map _ (fun a b h => by omega) hr, List.Pairwise.map _ (fun a b h => by omega) hx, ?_⟩, ?_⟩
  · intro i hi j hj e
    obtain ⟨i2, h1, rfl⟩ := List.mem_map.mp hi
    obtain ⟨j2, h2, rfl⟩ := List.mem_map.mp hj
    have := (cf_mem.mp h1).2
    omega
  · intro i hi j hj e
    subst e
    have h0 := (cf_mem.mp hi).2
    rcases List.mem_append.mp hj with q | q
    · obtain ⟨j2, h2, rfl⟩ := List.mem_map.mp q; omega
    · obtain ⟨j2, h2, rfl⟩ := List.mem_map.mp q; omega
theorem cf_nd {u : kT} (h : u.1.Nodup) : (cf u).1.Nodup := List.Pairwise.filter _ h
theorem jk_ndc {c r x : kT} (h : (jk c r x).Nodup) : (cf c).1.Nodup := (List.nodup_append.mp h).1
theorem kv_addP {dd : kDD} {g : kG} {a b pc : Nat} {lv : List (Nat × Value)} {st : List Value} {c r x c2 r2 x2 : kT} {ks2 : List Nat} {ad2 : Nat → Nat} {E2 : Nat → va_E} {κ : Nat} {e : va_E} (h : kStp (jk c r x) (jd c r x) (jE c r x) ks2 ad2 E2 κ e) (hn : (jk c2 r2 x2).Nodup) (h1 : ∀ j, j ∈ jk c2 r2 x2 → (j = κ ∧ jd c2 r2 x2 j = ad2 κ ∧ jE c2 r2 x2 j = e) ∨ (j ≠ κ ∧ j ∈ jk c r x ∧ jd c2 r2 x2 j = jd c r x j ∧ jE c2 r2 x2 j = jE c r x j)) (k : kv dd g a b pc lv st (jk c2 r2 x2) (jd c2 r2 x2) (jE c2 r2 x2)) : kv dd g a b pc lv st ks2 ad2 E2 := by
  refine kv_sub hn (fun j hj => ?_) k
  rcases h1 j hj with ⟨rfl, q1, q2⟩ | ⟨q0, q1, q2, q3⟩
  · exact ⟨(h.1 _).mpr (Or.inr rfl), q1, q2.trans h.2.2.2.symm⟩
  · exact ⟨(h.1 _).mpr (Or.inl q1), q2.trans (h.2.1 j q0).symm, q3.trans (h.2.2.1 j q0).symm⟩
theorem kv_addC {dd : kDD} {g : kG} {a b pc : Nat} {lv : List (Nat × Value)} {st : List Value} {u : Nat → Nat} {v : Nat → va_E} {ks2 : List Nat} {ad2 : Nat → Nat} {E2 : Nat → va_E} {e : va_E} (h : kStp (jk ([], u, v) ([], u, v) ([], u, v)) (jd ([], u, v) ([], u, v) ([], u, v)) (jE ([], u, v) ([], u, v) ([], u, v)) ks2 ad2 E2 0 e) (k : kv dd g a b pc lv st (jk ([0], ad2, fun _ => e) ([], u, v) ([], u, v)) (jd ([0], ad2, fun _ => e) ([], u, v) ([], u, v)) (jE ([0], ad2, fun _ => e) ([], u, v) ([], u, v))) : kv dd g a b pc lv st ks2 ad2 E2 := by
  refine kv_addP h (jk_nd (cf_nd (show [0].Nodup by decide)) (cf_nd (show ([] : List Nat).Nodup by decide)) (cf_nd (show ([] : List Nat).Nodup by decide))) (fun j hj => ?_) k
  rcases jk_mem.mp hj with ⟨h1, h2⟩ | ⟨i, h1, h2, h3⟩ | ⟨i, h1, h2, h3⟩
  · have e0 : j = 0 := by simpa using h2
    subst e0
    exact Or.inl ⟨rfl, (j_c h1).2.1, (j_c h1).2.2⟩
  · exact nomatch h2
  · exact nomatch h2
theorem kv_addX {dd : kDD} {g : kG} {a b pc : Nat} {lv : List (Nat × Value)} {st : List Value} {c r x : kT} {t : Nat} {ks2 : List Nat} {ad2 : Nat → Nat} {E2 : Nat → va_E} {e : va_E} (ht : t < 1000) (hc : (cf c).1.Nodup) (hr : (cf r).1.Nodup) (hx : (cf (x.1 ++ [t], va_up x.2.1 t (ad2 (t + 2000)), va_up x.2.2 t e)).1.Nodup) (h : kStp (jk c r x) (jd c r x) (jE c r x) ks2 ad2 E2 (t + 2000) e) (k : kv dd g a b pc lv st (jk c r (x.1 ++ [t], va_up x.2.1 t (ad2 (t + 2000)), va_up x.2.2 t e)) (jd c r (x.1 ++ [t], va_up x.2.1 t (ad2 (t + 2000)), va_up x.2.2 t e)) (jE c r (x.1 ++ [t], va_up x.2.1 t (ad2 (t + 2000)), va_up x.2.2 t e))) : kv dd g a b pc lv st ks2 ad2 E2 := by
  refine kv_addP h (jk_nd hc hr hx) (fun j hj => ?_) k
  rcases jk_mem.mp hj with ⟨h1, h2⟩ | ⟨i, h1, h2, h3⟩ | ⟨i, h1, h2, h3⟩
  · exact Or.inr ⟨by omega, jk_mem.mpr (Or.inl ⟨h1, h2⟩), (j_c h1).2.1.trans (j_c h1).2.1.symm, (j_c h1).2.2.trans (j_c h1).2.2.symm⟩
  · subst h3
    exact Or.inr ⟨by omega, jk_mem.mpr (Or.inr (Or.inl ⟨i, h1, h2, rfl⟩)), (j_r h1).2.1.trans (j_r h1).2.1.symm, (j_r h1).2.2.trans (j_r h1).2.2.symm⟩
  · subst h3
    by_cases e0 : i = t
    · subst e0
      exact Or.inl ⟨rfl, (j_x h1).2.1.trans (va_up_self x.2.1 i (ad2 (i + 2000))), (j_x h1).2.2.trans (va_up_self x.2.2 i e)⟩
    · have h4 : i ∈ x.1 := by
        rcases List.mem_append.mp h2 with q | q
        · exact q
        · exact absurd (by simpa using q) e0
      exact Or.inr ⟨by omega, jk_mem.mpr (Or.inr (Or.inr ⟨i, h1, h4, rfl⟩)), ((j_x h1).2.1.trans (va_up_ne x.2.1 (ad2 (t + 2000)) e0)).trans (j_x h1).2.1.symm, ((j_x h1).2.2.trans (va_up_ne x.2.2 e e0)).trans (j_x h1).2.2.symm⟩
theorem wb_big {w : Int32} (h : wb 70 w) (hc : w ≤ -1000000) : False := by
  unfold wb at h
  have := Int32.le_iff_toInt_le.mp hc
  rw [show (-1000000 : Int32).toInt = -1000000 by decide] at this
  omega
set_option maxRecDepth 100000 in
set_option maxHeartbeats 4000000 in
theorem lw_tail {l : Launch} {dd : kDD} {g : kG} (X : kX dd g cL_law RL wsLaw) (hRR : kR g = room_1) (hnL : knL g = 6) (hl0 : kL g = l) {sc L : Nat} {xs : Nat → Int32} (hs : kScr g sc L xs) (hLL : L ≤ 260) (fin : ∀ (a b : Nat) (lv : List (Nat × Value)) (ks : List Nat) (ad : Nat → Nat) (E : Nat → va_E), a ≤ 600222 → b ≤ 7295862 → kv dd g a b 145 lv [.int 1] ks ad E) {wr c wx : kT} {M : mS} {nR nC nt nL nW nV nM : Nat} {cn nm mn me li rl : Nat → Nat} {xa : Nat} (hL : LPo dd c M nR nC nt nL nW nV nM cn nm mn me li rl xa) (h0 : M.1 24 = 0) {fm : Nat → Int32} (hx : 0 ∈ wx.1 ∧ wx.2.2 0 = kI dd 50 fm) (hm : mTb M nR nC nt nL nW nV nM cn nm mn me li rl fm) {w : Int32} (hw : wb 70 w) {a b : Nat} (ha : a ≤ 5000) (hb : b ≤ 40000) : kv dd g a b 50 [(4, .int w), (3, .int 1), (1, .ref xa), (2, .ref (wx.2.1 0)), (0, .ref sc)] [] (jk c wr wx) (jd c wr wx) (jE c wr wx) := by
  have hI := hL.1
  have bb := rI_b hI
  refine kv_iload_n X 1 dL_law_50 rfl rfl ?_
  refine kv_if_eq (tgt := 88) X dL_law_51 (by decide) (fun hc => absurd hc (by decide)) (fun hc51 => ?_)
  refine kv_iload X 0 dL_law_54 rfl ?_
  refine kv_ldc (v := (-1000000)) X dL_law_56 (List.mem_append_left _ (List.mem_append_left _ (List.mem_append_left _ (List.mem_append_left _ (List.mem_append_left _ (List.mem_append_left _ (List.mem_append_left _ (List.mem_append_left _ (List.mem_append_left _ (List.mem_append_left _ (List.mem_append_left _ (List.mem_append_left _ (List.mem_append_left _ (List.mem_append_left _ (List.mem_append_left _ (List.mem_append_left _ (List.mem_append_left _ (List.mem_append_left _ (List.mem_append_left _ (List.mem_append_left _ (List.mem_append_left _ (List.mem_append_left _ (List.mem_append_left _ (List.mem_of_getElem? (i := 4) rfl)))))))))))))))))))))))) ?_
  refine kv_icmp_le (tgt := 88) X dL_law_58 (by decide) (fun hc58 => False.elim (wb_big hw hc58)) (fun hc58 => ?_)
  refine kv_aload_n X 2 dL_law_61 rfl rfl ?_
  refine kv_aload_n X 3 dL_law_62 rfl rfl ?_
  refine kv_calliS (As := [.ref xa, .ref (wx.2.1 0)]) [] X (c_L_areSums l wr wx hL hx hm) hl0 (kCS_of X 2 (show GoodIn wsLaw (va_wsS RL 204 yL_areSums (wsL_areSums ++ kHp)) from gK (pre := [Cond.methodLink RL 204 yL_areSums, Cond.static yL_areSums, Cond.initialized yL_areSums.cls]) gL_law_L_areSums) rfl rfl rfl (by decide +kernel) hRR ⟨(Nat.le_of_ble_eq_true rfl), (Nat.le_of_ble_eq_true rfl)⟩) rfl rfl (Nat.le_of_ble_eq_true rfl) hRR ⟨(by show _ + 150 ≤ 600222; omega), (by show _ + 900 ≤ 7295862; omega)⟩ dL_law_63 (fun r63 c63 h63 => ?_)
  obtain ⟨rfl, hL63⟩ := h63
  show kv dd g _ _ 66 [(4, .int w), (3, .int 1), (1, .ref xa), (2, .ref (wx.2.1 0)), (0, .ref sc)] [.int 1] (jk c63 wr wx) (jd c63 wr wx) (jE c63 wr wx)
  refine kv_if_eq (tgt := 88) X dL_law_66 (by decide) (fun hc => absurd hc (by decide)) (fun hc66 => ?_)
  refine kv_aload_n X 2 dL_law_69 rfl rfl ?_
  refine kv_aload_n X 3 dL_law_70 rfl rfl ?_
  refine kv_calliS (As := [.ref xa, .ref (wx.2.1 0)]) [] X (c_L_areOrders l wr wx hL63 hx hm) hl0 (kCS_of X 2 (show GoodIn wsLaw (va_wsS RL 212 yL_areOrders (wsL_areOrders ++ kHp)) from gK (pre := [Cond.methodLink RL 212 yL_areOrders, Cond.static yL_areOrders, Cond.initialized yL_areOrders.cls]) gL_law_L_areOrders) rfl rfl rfl (by decide +kernel) hRR ⟨(Nat.le_of_ble_eq_true rfl), (Nat.le_of_ble_eq_true rfl)⟩) rfl rfl (Nat.le_of_ble_eq_true rfl) hRR ⟨(by show _ + 450 ≤ 600222; omega), (by show _ + 2700 ≤ 7295862; omega)⟩ dL_law_71 (fun r71 c71 h71 => ?_)
  obtain ⟨rfl, hL71⟩ := h71
  show kv dd g _ _ 74 [(4, .int w), (3, .int 1), (1, .ref xa), (2, .ref (wx.2.1 0)), (0, .ref sc)] [.int 1] (jk c71 wr wx) (jd c71 wr wx) (jE c71 wr wx)
  refine kv_if_eq (tgt := 88) X dL_law_74 (by decide) (fun hc => absurd hc (by decide)) (fun hc74 => ?_)
  refine kv_aload_n X 2 dL_law_77 rfl rfl ?_
  refine kv_calliV (As := []) [] (ci := 13) (κ := 0) (r1 := (TX10, 3)) X (b_isSound l wr wx hL71) hl0 (kCV_of X 0 (goodIn_ext gL_law_X10_isSound) rfl rfl rfl (by decide +kernel) hRR ⟨(Nat.le_of_ble_eq_true rfl), (Nat.le_of_ble_eq_true rfl)⟩) (LP_obj hL71).1 (LP_obj hL71).2 rfl (by rw [LP_ref hL71]; rfl) rfl (Nat.le_of_ble_eq_true rfl) hRR ⟨(by show _ + 0 ≤ 600222; omega), (by show _ + 0 ≤ 7295862; omega)⟩ dL_law_78 (fun r78 c78 h78 => ?_)
  obtain ⟨hL78, rfl⟩ := h78
  show kv dd g _ _ 81 [(4, .int w), (3, .int 1), (1, .ref xa), (2, .ref (wx.2.1 0)), (0, .ref sc)] [.int 1] (jk c78 wr wx) (jd c78 wr wx) (jE c78 wr wx)
  refine kv_if_eq (tgt := 88) X dL_law_81 (by decide) (fun hc => absurd hc (by decide)) (fun hc81 => ?_)
  refine kv_iconst (v := 1) X dL_law_84 (by decide) ?_
  refine kv_goto (tgt := 89) X dL_law_85 (by decide) ?_
  refine kv_istore_n (lv2 := [(3, .int 1), (4, .int w), (1, .ref xa), (2, .ref (wx.2.1 0)), (0, .ref sc)]) X dL_law_89 rfl (by rw [hnL]; decide) rfl ?_
  refine kv_iconst (v := 0) X dL_law_90 (by decide) ?_
  refine kv_istore (lv2 := [(5, .int 0), (3, .int 1), (4, .int w), (1, .ref xa), (2, .ref (wx.2.1 0)), (0, .ref sc)]) X dL_law_91 (by rw [hnL]; decide) rfl ?_
  have L93 : ∀ (n93 i93 : Nat), i93 + n93 = nV → ∀ (a93 b93 : Nat) (cc93 : kT) (_ : LPo dd cc93 M nR nC nt nL nW nV nM cn nm mn me li rl xa) , a93 + 180 * n93 ≤ 7000 → b93 + 1300 * n93 ≤ 60000 → kv dd g a93 b93 93 [(5, .int (nI i93)), (4, .int w), (3, .int 1), (1, .ref xa), (2, .ref (wx.2.1 0)), (0, .ref sc)] [] (jk cc93 wr wx) (jd cc93 wr wx) (jE cc93 wr wx) := by
    intro n93
    induction n93 with
    | zero =>
      intro i93 hin93 a93 b93 cc93  hL93  ha93 hb93
      have en93 : nV = i93 := by omega
      subst en93
      refine kv_iload X 0 dL_law_93 rfl ?_
      refine kv_aload_n X 4 dL_law_95 rfl rfl ?_
      refine kv_iconst (v := 3) X dL_law_96 (by decide) ?_
      refine kv_iaload X (κ := 2000) (n := 50) (j := 3) (f := fm) (j_x0.1.mpr hx.1) (j_x0.2.2.trans hx.2) (by omega) (by decide) dL_law_97 ?_
      refine kv_topi (nI nV) hm.2.2.2.1 ?_
      refine kn_icmp_ge (x := nV) (y := nV) (tgt := 120) X (by omega) (by omega) dL_law_98 (by decide) (fun hc98 => ?_) (fun hc98 => absurd hc98 (by omega))
      refine kv_iload_n X 2 dL_law_120 rfl rfl ?_
      refine kv_if_eq (tgt := 144) X dL_law_121 (by decide) (fun hc => absurd hc (by decide)) (fun hc121 => ?_)
      refine kv_aload_n X 3 dL_law_124 rfl rfl ?_
      refine kv_aload_n X 4 dL_law_125 rfl rfl ?_
      refine kv_calliS (As := [.ref xa, .ref (wx.2.1 0)]) [] X (c_L_isCheapest l wr wx hL93 hx hm) hl0 (kCS_of X 2 (show GoodIn wsLaw (va_wsS RL 228 yL_isCheapest (wsL_isCheapest ++ kHp)) from gK (pre := [Cond.methodLink RL 228 yL_isCheapest, Cond.static yL_isCheapest, Cond.initialized yL_isCheapest.cls]) gL_law_L_isCheapest) rfl rfl rfl (by decide +kernel) hRR ⟨(Nat.le_of_ble_eq_true rfl), (Nat.le_of_ble_eq_true rfl)⟩) rfl rfl (Nat.le_of_ble_eq_true rfl) hRR ⟨(by show _ + 800 ≤ 600222; omega), (by show _ + 11000 ≤ 7295862; omega)⟩ dL_law_126 (fun r126 c126 h126 => ?_)
      obtain ⟨rfl, o9, hL126⟩ := h126
      show kv dd g _ _ 129 [(5, .int (nI nV)), (4, .int w), (3, .int 1), (1, .ref xa), (2, .ref (wx.2.1 0)), (0, .ref sc)] [.int 1] (jk c126 wr wx) (jd c126 wr wx) (jE c126 wr wx)
      refine kv_if_eq (tgt := 144) X dL_law_129 (by decide) (fun hc => absurd hc (by decide)) (fun hc129 => ?_)
      refine kv_aload_n X 3 dL_law_132 rfl rfl ?_
      refine kv_aload_n X 4 dL_law_133 rfl rfl ?_
      refine kv_calliS (As := [.ref xa, .ref (wx.2.1 0)]) [] X (c_L_areSums l wr wx hL126 hx (mTb_o hm)) hl0 (kCS_of X 2 (show GoodIn wsLaw (va_wsS RL 204 yL_areSums (wsL_areSums ++ kHp)) from gK (pre := [Cond.methodLink RL 204 yL_areSums, Cond.static yL_areSums, Cond.initialized yL_areSums.cls]) gL_law_L_areSums) rfl rfl rfl (by decide +kernel) hRR ⟨(Nat.le_of_ble_eq_true rfl), (Nat.le_of_ble_eq_true rfl)⟩) rfl rfl (Nat.le_of_ble_eq_true rfl) hRR ⟨(by show _ + 150 ≤ 600222; omega), (by show _ + 900 ≤ 7295862; omega)⟩ dL_law_134 (fun r134 c134 h134 => ?_)
      obtain ⟨rfl, hL134⟩ := h134
      show kv dd g _ _ 137 [(5, .int (nI nV)), (4, .int w), (3, .int 1), (1, .ref xa), (2, .ref (wx.2.1 0)), (0, .ref sc)] [.int 1] (jk c134 wr wx) (jd c134 wr wx) (jE c134 wr wx)
      refine kv_if_eq (tgt := 144) X dL_law_137 (by decide) (fun hc => absurd hc (by decide)) (fun hc137 => ?_)
      refine kv_iconst (v := 1) X dL_law_140 (by decide) ?_
      refine kv_goto (tgt := 145) X dL_law_141 (by decide) ?_
      exact fin _ _ _ _ _ _ (by omega) (by omega)
    | succ n93 ih93 =>
      intro i93 hin93 a93 b93 cc93  hL93  ha93 hb93
      refine kv_iload X 0 dL_law_93 rfl ?_
      refine kv_aload_n X 4 dL_law_95 rfl rfl ?_
      refine kv_iconst (v := 3) X dL_law_96 (by decide) ?_
      refine kv_iaload X (κ := 2000) (n := 50) (j := 3) (f := fm) (j_x0.1.mpr hx.1) (j_x0.2.2.trans hx.2) (by omega) (by decide) dL_law_97 ?_
      refine kv_topi (nI nV) hm.2.2.2.1 ?_
      refine kn_icmp_ge (x := i93) (y := nV) (tgt := 120) X (by omega) (by omega) dL_law_98 (by decide) (fun hc98 => absurd hc98 (by omega)) (fun hc98 => ?_)
      refine kv_iload_n X 2 dL_law_101 rfl rfl ?_
      refine kv_if_eq (tgt := 120) X dL_law_102 (by decide) (fun hc => absurd hc (by decide)) (fun hc102 => ?_)
      refine kv_aload_n X 3 dL_law_105 rfl rfl ?_
      refine kv_aload_n X 4 dL_law_106 rfl rfl ?_
      refine kv_iload X 0 dL_law_107 rfl ?_
      refine kv_iconst (v := 0) X dL_law_109 (by decide) ?_
      refine kv_calliS (As := [.ref xa, .ref (wx.2.1 0), .int (nI i93), .int 0]) [] X (c_L_isTurned l wr wx hL93 h0 hx hm i93 (by omega)) hl0 (kCS_of X 4 (show GoodIn wsLaw (va_wsS RL 224 yL_isTurned (wsL_isTurned ++ kHp)) from gK (pre := [Cond.methodLink RL 224 yL_isTurned, Cond.static yL_isTurned, Cond.initialized yL_isTurned.cls]) gL_law_L_isTurned) rfl rfl rfl (by decide +kernel) hRR ⟨(Nat.le_of_ble_eq_true rfl), (Nat.le_of_ble_eq_true rfl)⟩) rfl rfl (Nat.le_of_ble_eq_true rfl) hRR ⟨(by show _ + 180 ≤ 600222; omega), (by show _ + 1300 ≤ 7295862; omega)⟩ dL_law_110 (fun r110 c110 h110 => ?_)
      obtain ⟨rfl, hL110⟩ := h110
      show kv dd g _ _ 113 [(5, .int (nI i93)), (4, .int w), (3, .int 1), (1, .ref xa), (2, .ref (wx.2.1 0)), (0, .ref sc)] [.int 1] (jk c110 wr wx) (jd c110 wr wx) (jE c110 wr wx)
      refine kv_istore_n (lv2 := [(3, .int 1), (5, .int (nI i93)), (4, .int w), (1, .ref xa), (2, .ref (wx.2.1 0)), (0, .ref sc)]) X dL_law_113 rfl (by rw [hnL]; decide) rfl ?_
      refine kv_iinc (j := 1) (v := (nI (i93 + 1))) (lv2 := [(5, .int (nI (i93 + 1))), (3, .int 1), (4, .int w), (1, .ref xa), (2, .ref (wx.2.1 0)), (0, .ref sc)]) X dL_law_114 rfl (nI_add i93 1) (by rw [hnL]; decide) rfl ?_
      refine kv_goto (tgt := 93) X dL_law_117 (by decide) ?_
      exact kv_lv [0, 2, 1, 3, 4, 5] rfl (ih93 (i93 + 1) (by omega) _ _ _  hL110  (by omega) (by omega))
  exact kv_lv [0, 2, 1, 3, 4, 5] rfl (L93 (nV) 0 (by omega) _ _ _  hL78  (by omega) (by omega))
set_option maxRecDepth 100000 in
set_option maxHeartbeats 4000000 in
theorem lw_rest {l : Launch} {dd : kDD} {g : kG} (X : kX dd g cL_law RL wsLaw) (hRR : kR g = room_1) (hnL : knL g = 6) (hl0 : kL g = l) {sc L : Nat} {xs : Nat → Int32} (hs : kScr g sc L xs) (hLL : L ≤ 260) (fin : ∀ (a b : Nat) (lv : List (Nat × Value)) (ks : List Nat) (ad : Nat → Nat) (E : Nat → va_E), a ≤ 600222 → b ≤ 7295862 → kv dd g a b 145 lv [.int 1] ks ad E) {wr c wx : kT} {M : mS} {nC nW : Nat} {cn nm mn me li rl : Nat → Nat} {xa : Nat} (hL : LPo dd c M 0 nC 0 0 nW 0 0 cn nm mn me li rl xa) (h0 : M.1 24 = 0) {fm : Nat → Int32} (hx : 0 ∈ wx.1 ∧ wx.2.2 0 = kI dd 50 fm) (hm : mTb M 0 nC 0 0 nW 0 0 cn nm mn me li rl fm) {a b : Nat} (ha : a ≤ 100) (hb : b ≤ 1000) : kv dd g a b 13 [(2, .ref (wx.2.1 0)), (1, .ref xa), (0, .ref sc)] [] (jk c wr wx) (jd c wr wx) (jE c wr wx) := by
  refine kv_aload_n X 1 dL_law_13 rfl rfl ?_
  refine kv_aload_n X 0 dL_law_14 rfl rfl ?_
  refine kv_calliS (As := [.ref xa, .ref (wx.2.1 0)]) [] X (c_L_areSums l wr wx hL hx hm) hl0 (kCS_of X 2 (show GoodIn wsLaw (va_wsS RL 204 yL_areSums (wsL_areSums ++ kHp)) from gK (pre := [Cond.methodLink RL 204 yL_areSums, Cond.static yL_areSums, Cond.initialized yL_areSums.cls]) gL_law_L_areSums) rfl rfl rfl (by decide +kernel) hRR ⟨(Nat.le_of_ble_eq_true rfl), (Nat.le_of_ble_eq_true rfl)⟩) rfl rfl (Nat.le_of_ble_eq_true rfl) hRR ⟨(by show _ + 150 ≤ 600222; omega), (by show _ + 900 ≤ 7295862; omega)⟩ dL_law_15 (fun r15 c15 h15 => ?_)
  obtain ⟨rfl, hL15⟩ := h15
  show kv dd g _ _ 18 [(2, .ref (wx.2.1 0)), (1, .ref xa), (0, .ref sc)] [.int 1] (jk c15 wr wx) (jd c15 wr wx) (jE c15 wr wx)
  refine kv_if_eq (tgt := 40) X dL_law_18 (by decide) (fun hc => absurd hc (by decide)) (fun hc18 => ?_)
  refine kv_aload_n X 1 dL_law_21 rfl rfl ?_
  refine kv_aload_n X 0 dL_law_22 rfl rfl ?_
  refine kv_calliS (As := [.ref xa, .ref (wx.2.1 0)]) [] X (c_L_areOrders l wr wx hL15 hx hm) hl0 (kCS_of X 2 (show GoodIn wsLaw (va_wsS RL 212 yL_areOrders (wsL_areOrders ++ kHp)) from gK (pre := [Cond.methodLink RL 212 yL_areOrders, Cond.static yL_areOrders, Cond.initialized yL_areOrders.cls]) gL_law_L_areOrders) rfl rfl rfl (by decide +kernel) hRR ⟨(Nat.le_of_ble_eq_true rfl), (Nat.le_of_ble_eq_true rfl)⟩) rfl rfl (Nat.le_of_ble_eq_true rfl) hRR ⟨(by show _ + 450 ≤ 600222; omega), (by show _ + 2700 ≤ 7295862; omega)⟩ dL_law_23 (fun r23 c23 h23 => ?_)
  obtain ⟨rfl, hL23⟩ := h23
  show kv dd g _ _ 26 [(2, .ref (wx.2.1 0)), (1, .ref xa), (0, .ref sc)] [.int 1] (jk c23 wr wx) (jd c23 wr wx) (jE c23 wr wx)
  refine kv_if_eq (tgt := 40) X dL_law_26 (by decide) (fun hc => absurd hc (by decide)) (fun hc26 => ?_)
  refine kv_aload_n X 1 dL_law_29 rfl rfl ?_
  refine kv_calliV (As := []) [] (ci := 13) (κ := 0) (r1 := (TX10, 3)) X (b_cheapestVariants l wr wx hL23) hl0 (kCV_of X 0 (goodIn_ext gL_law_X10_cheapestVariants) rfl rfl rfl (by decide +kernel) hRR ⟨(Nat.le_of_ble_eq_true rfl), (Nat.le_of_ble_eq_true rfl)⟩) (LP_obj hL23).1 (LP_obj hL23).2 rfl (by rw [LP_ref hL23]; rfl) rfl (Nat.le_of_ble_eq_true rfl) hRR ⟨(by show _ + 0 ≤ 600222; omega), (by show _ + 0 ≤ 7295862; omega)⟩ dL_law_30 (fun r30 c30 h30 => ?_)
  obtain ⟨hL30, le0, hmb⟩ := h30
  have e0 : r30 = 0 := by
    rcases mB_min (2 ^ 0) r30 le0 (by decide) hmb with ⟨-, q2⟩ | ⟨q, q1, q2, -⟩
    · refine absurd ?_ (q2 0 (by decide)); intro i hi; exact absurd hi (by omega)
    · rw [q2, show q = 0 by omega]; rfl
  subst e0
  show kv dd g _ _ 33 [(2, .ref (wx.2.1 0)), (1, .ref xa), (0, .ref sc)] [.int 0] (jk c30 wr wx) (jd c30 wr wx) (jE c30 wr wx)
  refine kv_if_ne (tgt := 40) X dL_law_33 (by decide) (fun hc => absurd hc (by decide)) (fun hc33 => ?_)
  refine kv_iconst (v := 1) X dL_law_36 (by decide) ?_
  refine kv_goto (tgt := 41) X dL_law_37 (by decide) ?_
  refine kv_istore_n (lv2 := [(3, .int 1), (2, .ref (wx.2.1 0)), (1, .ref xa), (0, .ref sc)]) X dL_law_41 rfl (by rw [hnL]; decide) rfl ?_
  refine kv_lv [0, 2, 1, 3] rfl ?_
  refine kv_aload_n X 1 dL_law_42 rfl rfl ?_
  refine kv_aload_n X 2 dL_law_43 rfl rfl ?_
  refine kv_aload_n X 3 dL_law_44 rfl rfl ?_
  have hq : LWx dd c30 wx xa (wx.2.1 0) 0 0 0 0 0 := ⟨fm, ⟨M, nC, nW, cn, nm, mn, me, li, rl, hL30, h0, fun r hr => absurd hr (by omega)⟩, hx.1, rfl, hx.2, hm.1, hm.2.1, hm.2.2.1, hm.2.2.2.1, hm.2.2.2.2.1⟩
  refine kv_calliSs (As := [.ref xa, .ref (wx.2.1 0), .ref sc]) [] X hs (c_L_lay l wr hLL hq) hl0 (kCS_of X 3 (show GoodIn wsLaw (va_wsS RL 215 yL_lay (wsL_lay ++ kHp)) from gK (pre := [Cond.methodLink RL 215 yL_lay, Cond.static yL_lay, Cond.initialized yL_lay.cls]) gL_law_L_lay) rfl rfl rfl (by decide +kernel) hRR ⟨(Nat.le_of_ble_eq_true rfl), (Nat.le_of_ble_eq_true rfl)⟩) rfl rfl (Nat.le_of_ble_eq_true rfl) hRR ⟨(by show _ + 1300 ≤ 600222; omega), (by show _ + 18000 ≤ 7295862; omega)⟩ dL_law_45 (fun w z hz => ?_)
  obtain ⟨z1, z2⟩ := z
  obtain ⟨hwb, nR, nt, hbR, hbT, nL, nV, nM, fm2, ⟨M2, nC2, nW2, cn2, nm2, mn2, me2, li2, rl2, hL2, h02, hf2⟩, hx0, hma, hxm, f0, f1, f2, f3, f4⟩ := hz
  show kv dd g _ _ 48 [(3, .int 1), (1, .ref xa), (2, .ref (wx.2.1 0)), (0, .ref sc)] [.int w] (jk z1 wr z2) (jd z1 wr z2) (jE z1 wr z2)
  refine kv_istore (lv2 := [(4, .int w), (3, .int 1), (1, .ref xa), (2, .ref (wx.2.1 0)), (0, .ref sc)]) X dL_law_48 (by rw [hnL]; decide) rfl ?_
  have hma2 : wx.2.1 0 = z2.2.1 0 := hma.symm
  rw [hma2]
  exact lw_tail X hRR hnL hl0 hs hLL fin hL2 h02 ⟨hx0, hxm⟩ ⟨f0, f1, f2, f3, f4, hf2⟩ hwb (by omega) (by omega)
theorem pX_zero : pX mZ 0 0 0 0 0 0 0 (fun _ => 0) (fun _ => 0) (fun _ => 0) (fun _ => 0) (fun _ => 0) (fun _ => 0) := ⟨fun r hr => absurd hr (by omega), fun i hi => absurd hi (by omega), fun l hl => absurd hl (by omega), fun k hk => absurd hk (by omega)⟩
theorem rI_zero : rI mZ 0 0 0 0 0 0 0 (fun _ => 0) (fun _ => 0) (fun _ => 0) (fun _ => 0) (fun _ => 0) (fun _ => 0) (mZ.1 24) := by
  have e0 : (0 : Int32) = nI 0 := by decide
  refine ⟨⟨e0, by omega⟩, ⟨e0, by omega⟩, ⟨e0, by omega⟩, ⟨e0, by omega⟩, ⟨e0, by omega⟩, ⟨e0, by omega⟩, ⟨e0, by omega⟩, ⟨rfl, 0, by decide, e0⟩, fun _ _ => ⟨e0, Nat.zero_le _⟩, fun _ _ => ⟨e0, Nat.succ_pos 11⟩, fun _ _ => ⟨e0, Nat.zero_le _⟩, fun _ _ _ => rfl, fun _ _ => ⟨e0, Nat.succ_pos 11⟩, fun _ _ h => absurd (show (0 : Int32) = 2 from h) (by decide), fun _ _ => ⟨e0, Nat.succ_pos 11⟩, ⟨fun i hi => absurd hi (by omega), fun i hi => absurd hi (by omega), fun i hi => absurd hi (by omega), fun i hi => absurd hi (by omega), fun i hi => absurd hi (by omega)⟩, fun i hi => absurd hi (by omega), fun i hi => absurd hi (by omega), fun i hi => absurd hi (by omega), fun i hi => absurd hi (by omega), fun i hi => absurd hi (by omega), ?_⟩
  unfold kFx
  intro i hi; exact absurd hi (by omega)
theorem kN_X10 : kN wsLaw RL 16 13 [.null, .null, .int 0] 3 := ⟨RX10, TX10, tyX10, fun w h => List.mem_append_left _ (gL_law_X10_init w (List.mem_cons_of_mem _ (List.mem_append_left _ (List.mem_append_left _ (List.mem_append_right _ h))))).1, tyX10_ok, (List.mem_append_left _ (List.mem_append_left _ (List.mem_append_left _ (List.mem_append_left _ (List.mem_append_left _ (List.mem_append_left _ (List.mem_append_left _ (List.mem_append_left _ (List.mem_append_left _ (List.mem_of_getElem? (i := 0) rfl)))))))))), (List.mem_append_left _ (List.mem_append_left _ (List.mem_append_left _ (List.mem_append_left _ (List.mem_append_left _ (List.mem_append_left _ (List.mem_append_left _ (List.mem_append_left _ (List.mem_append_left _ (List.mem_of_getElem? (i := 1) rfl)))))))))), (List.mem_append_left _ (List.mem_append_left _ (List.mem_append_left _ (List.mem_append_left _ (List.mem_append_left _ (List.mem_append_left _ (List.mem_append_left _ (List.mem_append_left _ (List.mem_append_left _ (List.mem_of_getElem? (i := 2) rfl)))))))))), rfl, by decide⟩
set_option maxRecDepth 100000 in
set_option maxHeartbeats 4000000 in
theorem lw_begin {l : Launch} {dd : kDD} {g : kG} (X : kX dd g cL_law RL wsLaw) (hRR : kR g = room_1) (hnL : knL g = 6) (hl0 : kL g = l) {sc L : Nat} {xs : Nat → Int32} (hs : kScr g sc L xs) (hLL : L ≤ 260) (fin : ∀ (a b : Nat) (lv : List (Nat × Value)) (ks : List Nat) (ad : Nat → Nat) (E : Nat → va_E), a ≤ 600222 → b ≤ 7295862 → kv dd g a b 145 lv [.int 1] ks ad E) (u : Nat → Nat) (v : Nat → va_E) : kv dd g 0 0 0 [(0, .ref sc)] [] (jk ([], u, v) ([], u, v) ([], u, v)) (jd ([], u, v) ([], u, v) ([], u, v)) (jE ([], u, v) ([], u, v) ([], u, v)) := by
  refine kv_newR X 0 kN_X10 hRR ⟨(Nat.le_of_ble_eq_true rfl), (Nat.le_of_ble_eq_true rfl)⟩ dL_law_0 (fun ks1 ad1 E1 h1 => ?_)
  refine kv_addC h1 ?_
  refine kv_dup X dL_law_3 rfl ?_
  refine kv_callvI (κ := 0) (As := []) [.ref (ad1 0)] (rm := ({ frames := 5, cells := 41, slots := 413, locals := 100 } : Room)) (mc := 41) (ms := 413) X (kCv_frC (c := ([0], ad1, fun _ => (Sum.inr (13, [.null, .null, .int 0]) : va_E))) (r := ([], u, v)) (x := ([], u, v)) (by rw [cf_id (by decide)]; exact c_X10_init l dd ad1 mZ (fun _ => 0) (fun _ => 0) (fun _ => 0) (fun _ => 0) (fun _ => 0) (fun _ => 0))) hl0 (kCI_of X 0 (goodIn_ext gL_law_X10_init) (List.mem_append_left _ (List.mem_append_left _ (List.mem_append_left _ (List.mem_append_left _ (List.mem_append_left _ (List.mem_append_left _ (List.mem_append_left _ (List.mem_append_left _ (List.mem_append_left _ (List.mem_of_getElem? (i := 2) rfl)))))))))) (List.mem_append_left _ (List.mem_append_left _ (List.mem_append_left _ (List.mem_append_left _ (List.mem_append_left _ (List.mem_append_left _ (List.mem_append_left _ (List.mem_append_left _ (List.mem_append_left _ (List.mem_of_getElem? (i := 5) rfl)))))))))) (List.mem_append_left _ (List.mem_append_left _ (List.mem_append_left _ (List.mem_append_left _ (List.mem_append_left _ (List.mem_append_left _ (List.mem_append_left _ (List.mem_append_left _ (List.mem_append_left _ (List.mem_of_getElem? (i := 6) rfl)))))))))) rfl rfl rfl rfl (by decide +kernel) hRR ⟨(Nat.le_of_ble_eq_true rfl), (Nat.le_of_ble_eq_true rfl)⟩) rfl rfl (Nat.le_of_ble_eq_true rfl) hRR ⟨(Nat.le_of_ble_eq_true rfl), (Nat.le_of_ble_eq_true rfl)⟩ dL_law_4 (fun z hz => ?_)
  obtain ⟨hz0, hzA⟩ := hz
  show kv dd g _ _ 7 [(0, .ref sc)] [.ref (ad1 0)] (jk z ([], u, v) ([], u, v)) (jd z ([], u, v) ([], u, v)) (jE z ([], u, v) ([], u, v))
  refine kv_astore_n (lv2 := [(1, .ref (ad1 0)), (0, .ref sc)]) X dL_law_7 rfl (by rw [hnL]; decide) rfl ?_
  refine kv_nodup (fun hnd => ?_)
  have hc := jk_ndc hnd
  refine kv_bipush (v := nI 50) X dL_law_8 (by decide) ?_
  refine kv_newarrIR X 2000 (List.mem_append_left _ (List.mem_append_left _ (List.mem_append_left _ (List.mem_append_left _ (List.mem_append_left _ (List.mem_append_left _ (List.mem_append_left _ (List.mem_append_left _ (List.mem_append_left _ (List.mem_of_getElem? (i := 3) rfl)))))))))) (by decide) hRR ⟨(Nat.le_of_ble_eq_true rfl), (Nat.le_of_ble_eq_true rfl)⟩ dL_law_10 (fun ks3 ad3 E3 h3 => ?_)
  refine kv_addX (t := 0) (x := ([], u, v)) (by decide) hc (cf_nd (show ([] : List Nat).Nodup by decide)) (cf_nd (show (([] : List Nat) ++ [0]).Nodup by decide)) h3 ?_
  show kv dd g _ _ 12 [(1, .ref (ad1 0)), (0, .ref sc)] [.ref (ad3 2000)] (jk z ([], u, v) (([] : List Nat) ++ [0], va_up u 0 (ad3 (0 + 2000)), va_up v 0 (kI dd 50 (fun _ => 0)))) (jd z ([], u, v) (([] : List Nat) ++ [0], va_up u 0 (ad3 (0 + 2000)), va_up v 0 (kI dd 50 (fun _ => 0)))) (jE z ([], u, v) (([] : List Nat) ++ [0], va_up u 0 (ad3 (0 + 2000)), va_up v 0 (kI dd 50 (fun _ => 0))))
  have hL : LPo dd z mZ 0 0 0 0 0 0 0 (fun _ => 0) (fun _ => 0) (fun _ => 0) (fun _ => 0) (fun _ => 0) (fun _ => 0) (ad1 0) := ⟨rI_zero, pX_zero, hzA, hz0⟩
  have hx : 0 ∈ (([] : List Nat) ++ [0], va_up u 0 (ad3 (0 + 2000)), va_up v 0 (kI dd 50 (fun _ => 0))).1 ∧ (([] : List Nat) ++ [0], va_up u 0 (ad3 (0 + 2000)), va_up v 0 (kI dd 50 (fun _ => 0))).2.2 0 = kI dd 50 (fun _ => 0) := ⟨by simp, va_up_self v 0 (kI dd 50 (fun _ => 0))⟩
  show kv dd g _ _ 12 [(1, .ref (ad1 0)), (0, .ref sc)] [.ref ((([] : List Nat) ++ [0], va_up u 0 (ad3 (0 + 2000)), va_up v 0 (kI dd 50 (fun _ => 0))).2.1 0)] (jk z ([], u, v) (([] : List Nat) ++ [0], va_up u 0 (ad3 (0 + 2000)), va_up v 0 (kI dd 50 (fun _ => 0)))) (jd z ([], u, v) (([] : List Nat) ++ [0], va_up u 0 (ad3 (0 + 2000)), va_up v 0 (kI dd 50 (fun _ => 0)))) (jE z ([], u, v) (([] : List Nat) ++ [0], va_up u 0 (ad3 (0 + 2000)), va_up v 0 (kI dd 50 (fun _ => 0))))
  generalize (([] : List Nat) ++ [0], va_up u 0 (ad3 (0 + 2000)), va_up v 0 (kI dd 50 (fun _ => 0))) = wx at hx ⊢
  refine kv_astore_n (lv2 := [(2, .ref (wx.2.1 0)), (1, .ref (ad1 0)), (0, .ref sc)]) X dL_law_12 rfl (by rw [hnL]; decide) rfl ?_
  have K : ∀ a b : Nat, a ≤ 100 → b ≤ 1000 → _ := fun a b ha hb => lw_rest (a := a) (b := b) (wr := (([], u, v) : kT)) X hRR hnL hl0 hs hLL fin hL rfl hx ⟨rfl, rfl, rfl, rfl, rfl, fun r hr => absurd hr (by omega)⟩ ha hb
  refine K _ _ ?_ ?_
  · decide
  · decide


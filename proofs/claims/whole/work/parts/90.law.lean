/-! THE LAW'S BEGINNING AND ITS LOOP -/
theorem kv_sub {dd : kDD} {g : kG} {a b pc : Nat} {lv : List (Nat × Value)} {st : List Value} {ks ks2 : List Nat} {ad ad2 : Nat → Nat} {E E2 : Nat → va_E} (hn : ks2.Nodup) (h : ∀ j, j ∈ ks2 → j ∈ ks ∧ ad2 j = ad j ∧ E2 j = E j) (k : kv dd g a b pc lv st ks2 ad2 E2) : kv dd g a b pc lv st ks ad E := by
  obtain ⟨p, l, e, R, s, m, args, below, meth, c, Q, A, nL⟩ := g
  intro H locs ls hP hD hS hl
  obtain ⟨h1, h2⟩ := kw_part hP hD hn (fun j hj => (h j hj).1)
  rw [kw_congr (ad' := ad2) (E' := E2) (fun j hj => ⟨((h j hj).2.1).symm, ((h j hj).2.2).symm⟩)] at h1 h2
  exact k H locs ls h1 h2 hS hl
theorem jk_mem {c r x : kT} {j : Nat} : j ∈ jk c r x ↔ (j < 1000 ∧ j ∈ c.1) ∨ (∃ i, i < 1000 ∧ i ∈ r.1 ∧ j = i + 1000) ∨ (∃ i, i < 1000 ∧ i ∈ x.1 ∧ j = i + 2000) := by
  unfold jk
  rw [List.mem_append, List.mem_append, List.mem_map, List.mem_map, cf_mem]
  constructor
  · rintro (⟨h1, h2⟩ | ⟨i, h1, h2⟩ | ⟨i, h1, h2⟩)
    · exact Or.inl ⟨h2, h1⟩
    · exact Or.inr (Or.inl ⟨i, (cf_mem.mp h1).2, (cf_mem.mp h1).1, h2.symm⟩)
    · exact Or.inr (Or.inr ⟨i, (cf_mem.mp h1).2, (cf_mem.mp h1).1, h2.symm⟩)
  · rintro (⟨h1, h2⟩ | ⟨i, h1, h2, h3⟩ | ⟨i, h1, h2, h3⟩)
    · exact Or.inl ⟨h2, h1⟩
    · exact Or.inr (Or.inl ⟨i, cf_mem.mpr ⟨h2, h1⟩, h3.symm⟩)
    · exact Or.inr (Or.inr ⟨i, cf_mem.mpr ⟨h2, h1⟩, h3.symm⟩)
theorem jk_nd {c r x : kT} (hc : (cf c).1.Nodup) (hr : (cf r).1.Nodup) (hx : (cf x).1.Nodup) : (jk c r x).Nodup := by
  unfold jk
  refine List.nodup_append.mpr ⟨hc, List.nodup_append.mpr ⟨List.Pairwise.map _ (fun a b h => by omega) hr, List.Pairwise.map _ (fun a b h => by omega) hx, ?_⟩, ?_⟩
  · intro i hi j hj e
    obtain ⟨i2, h1, rfl⟩ := List.mem_map.mp hi
    obtain ⟨j2, h2, rfl⟩ := List.mem_map.mp hj
    have := (cf_mem.mp h1).2
    omega
  · intro i hi j hj e
    subst e
    have h0 := (cf_mem.mp hi).2
    rcases List.mem_append.mp hj with q | q
    · obtain ⟨j2, h2, rfl⟩ := List.mem_map.mp q; omega
    · obtain ⟨j2, h2, rfl⟩ := List.mem_map.mp q; omega
theorem cf_nd {u : kT} (h : u.1.Nodup) : (cf u).1.Nodup := List.Pairwise.filter _ h
theorem jk_ndc {c r x : kT} (h : (jk c r x).Nodup) : (cf c).1.Nodup := (List.nodup_append.mp h).1
theorem kv_addP {dd : kDD} {g : kG} {a b pc : Nat} {lv : List (Nat × Value)} {st : List Value} {c r x c2 r2 x2 : kT} {ks2 : List Nat} {ad2 : Nat → Nat} {E2 : Nat → va_E} {κ : Nat} {e : va_E} (h : kStp (jk c r x) (jd c r x) (jE c r x) ks2 ad2 E2 κ e) (hn : (jk c2 r2 x2).Nodup) (h1 : ∀ j, j ∈ jk c2 r2 x2 → (j = κ ∧ jd c2 r2 x2 j = ad2 κ ∧ jE c2 r2 x2 j = e) ∨ (j ≠ κ ∧ j ∈ jk c r x ∧ jd c2 r2 x2 j = jd c r x j ∧ jE c2 r2 x2 j = jE c r x j)) (k : kv dd g a b pc lv st (jk c2 r2 x2) (jd c2 r2 x2) (jE c2 r2 x2)) : kv dd g a b pc lv st ks2 ad2 E2 := by
  refine kv_sub hn (fun j hj => ?_) k
  rcases h1 j hj with ⟨rfl, q1, q2⟩ | ⟨q0, q1, q2, q3⟩
  · exact ⟨(h.1 _).mpr (Or.inr rfl), q1, q2.trans h.2.2.2.symm⟩
  · exact ⟨(h.1 _).mpr (Or.inl q1), q2.trans (h.2.1 j q0).symm, q3.trans (h.2.2.1 j q0).symm⟩
theorem kv_addC {dd : kDD} {g : kG} {a b pc : Nat} {lv : List (Nat × Value)} {st : List Value} {u : Nat → Nat} {v : Nat → va_E} {ks2 : List Nat} {ad2 : Nat → Nat} {E2 : Nat → va_E} {e : va_E} (h : kStp (jk ([], u, v) ([], u, v) ([], u, v)) (jd ([], u, v) ([], u, v) ([], u, v)) (jE ([], u, v) ([], u, v) ([], u, v)) ks2 ad2 E2 0 e) (k : kv dd g a b pc lv st (jk ([0], ad2, fun _ => e) ([], u, v) ([], u, v)) (jd ([0], ad2, fun _ => e) ([], u, v) ([], u, v)) (jE ([0], ad2, fun _ => e) ([], u, v) ([], u, v))) : kv dd g a b pc lv st ks2 ad2 E2 := by
  refine kv_addP h (jk_nd (cf_nd (show [0].Nodup by decide)) (cf_nd (show ([] : List Nat).Nodup by decide)) (cf_nd (show ([] : List Nat).Nodup by decide))) (fun j hj => ?_) k
  rcases jk_mem.mp hj with ⟨h1, h2⟩ | ⟨i, h1, h2, h3⟩ | ⟨i, h1, h2, h3⟩
  · have e0 : j = 0 := by simpa using h2
    subst e0
    exact Or.inl ⟨rfl, (j_c h1).2.1, (j_c h1).2.2⟩
  · exact nomatch h2
  · exact nomatch h2
theorem kv_addR {dd : kDD} {g : kG} {a b pc : Nat} {lv : List (Nat × Value)} {st : List Value} {c : kT} {u : Nat → Nat} {v : Nat → va_E} {ks2 : List Nat} {ad2 : Nat → Nat} {E2 : Nat → va_E} {e : va_E} (hc : (cf c).1.Nodup) (h : kStp (jk c ([], u, v) ([], u, v)) (jd c ([], u, v) ([], u, v)) (jE c ([], u, v) ([], u, v)) ks2 ad2 E2 1000 e) (k : kv dd g a b pc lv st (jk c ([0], fun _ => ad2 1000, fun _ => e) ([], u, v)) (jd c ([0], fun _ => ad2 1000, fun _ => e) ([], u, v)) (jE c ([0], fun _ => ad2 1000, fun _ => e) ([], u, v))) : kv dd g a b pc lv st ks2 ad2 E2 := by
  refine kv_addP h (jk_nd hc (cf_nd (show [0].Nodup by decide)) (cf_nd (show ([] : List Nat).Nodup by decide))) (fun j hj => ?_) k
  rcases jk_mem.mp hj with ⟨h1, h2⟩ | ⟨i, h1, h2, h3⟩ | ⟨i, h1, h2, h3⟩
  · exact Or.inr ⟨by omega, jk_mem.mpr (Or.inl ⟨h1, h2⟩), (j_c h1).2.1.trans (j_c h1).2.1.symm, (j_c h1).2.2.trans (j_c h1).2.2.symm⟩
  · have e0 : i = 0 := by simpa using h2
    subst e0; subst h3
    exact Or.inl ⟨rfl, (j_r h1).2.1, (j_r h1).2.2⟩
  · exact nomatch h2
theorem kv_addX {dd : kDD} {g : kG} {a b pc : Nat} {lv : List (Nat × Value)} {st : List Value} {c r x : kT} {t : Nat} {ks2 : List Nat} {ad2 : Nat → Nat} {E2 : Nat → va_E} {e : va_E} (ht : t < 1000) (hc : (cf c).1.Nodup) (hr : (cf r).1.Nodup) (hx : (cf (x.1 ++ [t], va_up x.2.1 t (ad2 (t + 2000)), va_up x.2.2 t e)).1.Nodup) (h : kStp (jk c r x) (jd c r x) (jE c r x) ks2 ad2 E2 (t + 2000) e) (k : kv dd g a b pc lv st (jk c r (x.1 ++ [t], va_up x.2.1 t (ad2 (t + 2000)), va_up x.2.2 t e)) (jd c r (x.1 ++ [t], va_up x.2.1 t (ad2 (t + 2000)), va_up x.2.2 t e)) (jE c r (x.1 ++ [t], va_up x.2.1 t (ad2 (t + 2000)), va_up x.2.2 t e))) : kv dd g a b pc lv st ks2 ad2 E2 := by
  refine kv_addP h (jk_nd hc hr hx) (fun j hj => ?_) k
  rcases jk_mem.mp hj with ⟨h1, h2⟩ | ⟨i, h1, h2, h3⟩ | ⟨i, h1, h2, h3⟩
  · exact Or.inr ⟨by omega, jk_mem.mpr (Or.inl ⟨h1, h2⟩), (j_c h1).2.1.trans (j_c h1).2.1.symm, (j_c h1).2.2.trans (j_c h1).2.2.symm⟩
  · subst h3
    exact Or.inr ⟨by omega, jk_mem.mpr (Or.inr (Or.inl ⟨i, h1, h2, rfl⟩)), (j_r h1).2.1.trans (j_r h1).2.1.symm, (j_r h1).2.2.trans (j_r h1).2.2.symm⟩
  · subst h3
    by_cases e0 : i = t
    · subst e0
      exact Or.inl ⟨rfl, (j_x h1).2.1.trans (va_up_self x.2.1 i (ad2 (i + 2000))), (j_x h1).2.2.trans (va_up_self x.2.2 i e)⟩
    · have h4 : i ∈ x.1 := by
        rcases List.mem_append.mp h2 with q | q
        · exact q
        · exact absurd (by simpa using q) e0
      exact Or.inr ⟨by omega, jk_mem.mpr (Or.inr (Or.inr ⟨i, h1, h4, rfl⟩)), ((j_x h1).2.1.trans (va_up_ne x.2.1 (ad2 (t + 2000)) e0)).trans (j_x h1).2.1.symm, ((j_x h1).2.2.trans (va_up_ne x.2.2 e e0)).trans (j_x h1).2.2.symm⟩
theorem gt7 {L i : Nat} (hL : L ≤ 3584) (hi : i ≤ 4000) : nI L - 7 < nI i ↔ L < i + 7 := by
  rw [Int32.lt_iff_toInt_lt, Int32.toInt_sub, nI_toInt (by omega), nI_toInt (by omega), show (7 : Int32).toInt = 7 from rfl]
  have e : Int.bmod ((L : Int) - 7) (2 ^ 32) = (L : Int) - 7 := by
    rw [Int.bmod_def]; omega
  rw [e]; omega
theorem and63 (y : Int32) : ∃ t, t < 64 ∧ y &&& 63 = nI t := by
  refine ⟨(y &&& 63).toBitVec.toNat, ?_, ?_⟩
  · rw [Int32.toBitVec_and, BitVec.toNat_and]
    have h : (63 : Int32).toBitVec.toNat = 63 := rfl
    rw [h]
    have := Nat.and_le_right (n := y.toBitVec.toNat) (m := 63)
    omega
  · apply Int32.toBitVec_inj.mp
    show _ = BitVec.ofNat 32 _
    rw [BitVec.ofNat_toNat, BitVec.setWidth_eq]
set_option maxRecDepth 100000 in
set_option maxHeartbeats 4000000 in
theorem lw_loop {l : Launch} {dd : kDD} {g : kG} (X : kX dd g cL_law RL wsLaw) (hRR : kR g = room_1) (hnL : knL g = 9) (hl0 : kL g = l) {sc L : Nat} {xs : Nat → Int32} (hs : kScr g sc L xs) (hLL : L ≤ 3584) {xa o1 o2 : Nat} {adr : Nat → Nat} (fin : ∀ (a b : Nat) (lv : List (Nat × Value)) (ks : List Nat) (ad : Nat → Nat) (E : Nat → va_E), a ≤ 603072 → b ≤ 7219306 → kv dd g a b 2536 lv [.int 1] ks ad E) : ∀ (n i : Nat), i ≤ 4000 → L < i + 7 * (n + 1) → ∀ (a b : Nat) (c x : kT) (M : mS), LWS dd c M xa → XW dd x o1 o2 → a + 12 * n ≤ 603072 → b + 170 * n ≤ 7219306 → kv dd g a b 28 [(0, .ref sc), (1, .ref xa), (2, .ref (adr 0)), (3, .ref o1), (4, .ref o2), (5, .int (nI i))] [] (jk c (mK, adr, mE dd adr M) x) (jd c (mK, adr, mE dd adr M) x) (jE c (mK, adr, mE dd adr M) x) := by
  intro n
  induction n with
  | zero =>
    intro i hi4 hLi a b c x M hw hx ha hb
    refine kv_iload X 5 dL_law_28 rfl ?_
    refine kv_aload_n X 0 dL_law_30 rfl rfl ?_
    refine kv_slen X hs dL_law_31 ?_
    refine kv_bipush (v := 7) X dL_law_32 (by decide) ?_
    refine kv_isub X dL_law_34 ?_
    refine kv_icmp_gt (tgt := 2535) X dL_law_35 (by decide) (fun h => ?_) (fun h => absurd ((gt7 hLL hi4).mpr (by omega)) h)
    refine kv_iconst (v := 1) X dL_law_2535 (by decide) ?_
    exact fin a b _ _ _ _ (by omega) (by omega)
  | succ n ih =>
    intro i hi4 hLi a b c x M hw hx ha hb
    refine kv_iload X 5 dL_law_28 rfl ?_
    refine kv_aload_n X 0 dL_law_30 rfl rfl ?_
    refine kv_slen X hs dL_law_31 ?_
    refine kv_bipush (v := 7) X dL_law_32 (by decide) ?_
    refine kv_isub X dL_law_34 ?_
    refine kv_icmp_gt (tgt := 2535) X dL_law_35 (by decide) (fun h => ?_) (fun h => ?_)
    · refine kv_iconst (v := 1) X dL_law_2535 (by decide) ?_
      exact fin a b _ _ _ _ (by omega) (by omega)
    · have hlt : i + 6 < L := by
        have h2 : ¬ L < i + 7 := fun q => h ((gt7 hLL hi4).mpr q)
        omega
      have K : ∀ (a2 b2 : Nat), a2 + 12 * n ≤ 603072 → b2 + 170 * n ≤ 7219306 → ∀ (c2 x2 : kT) (M2 : mS), LWS dd c2 M2 xa → XW dd x2 o1 o2 → kv dd g a2 b2 2529 [(0, .ref sc), (1, .ref xa), (2, .ref (adr 0)), (3, .ref o1), (4, .ref o2), (5, .int (nI i))] [] (jk c2 (mK, adr, mE dd adr M2) x2) (jd c2 (mK, adr, mE dd adr M2) x2) (jE c2 (mK, adr, mE dd adr M2) x2) := by
        intro a2 b2 ha2 hb2 c2 x2 M2 h1 h2
        refine kv_iinc (j := 5) (x := nI i) (v := nI (i + 7)) (lv2 := [(5, .int (nI (i + 7))), (0, .ref sc), (1, .ref xa), (2, .ref (adr 0)), (3, .ref o1), (4, .ref o2)]) X dL_law_2529 rfl (nI_add i 7) (by rw [hnL]; decide) rfl ?_
        refine kv_goto (tgt := 28) X dL_law_2532 (by decide) ?_
        refine kv_lv [1, 2, 3, 4, 5, 0] rfl ?_
        exact ih (i + 7) (by omega) (by omega) a2 b2 c2 x2 M2 h1 h2 ha2 hb2
      refine kv_aload_n X 0 dL_law_38 rfl rfl ?_
      refine kv_iload X 5 dL_law_39 rfl ?_
      refine kv_sld X hs (by omega) (by omega) dL_law_41 ?_
      refine kv_bipush (v := 63) X dL_law_42 (by decide) ?_
      refine kv_iand X dL_law_44 ?_
      obtain ⟨t, ht, et⟩ := and63 (xs i)
      rw [et]
      match t, ht with
      | 0, _ => exact kv_tableIn (off := 175) (tgt := 220) X dL_law_45 (by decide) (by decide) (by decide) (by decide) (lw_addResource X hRR hnL hl0 hs hLL hlt hw hx (by omega) (by omega) (fun c2 x2 M2 h1 h2 => K (a + 8) (b + 140) (by omega) (by omega) c2 x2 M2 h1 h2))
      | 1, _ => exact kv_tableIn (off := 267) (tgt := 312) X dL_law_45 (by decide) (by decide) (by decide) (by decide) (lw_setPrice X hRR hnL hl0 hs hLL hlt hw hx (by omega) (by omega) (fun c2 x2 M2 h1 h2 => K (a + 2) (b + 12) (by omega) (by omega) c2 x2 M2 h1 h2))
      | 2, _ => exact kv_tableIn (off := 335) (tgt := 380) X dL_law_45 (by decide) (by decide) (by decide) (by decide) (lw_addCrew X hRR hnL hl0 hs hLL hlt hw hx (by omega) (by omega) (fun c2 x2 M2 h1 h2 => K (a + 8) (b + 150) (by omega) (by omega) c2 x2 M2 h1 h2))
      | 3, _ => exact kv_tableIn (off := 379) (tgt := 424) X dL_law_45 (by decide) (by decide) (by decide) (by decide) (lw_addMember X hRR hnL hl0 hs hLL hlt hw hx (by omega) (by omega) (fun c2 x2 M2 h1 h2 => K (a + 6) (b + 36) (by omega) (by omega) c2 x2 M2 h1 h2))
      | 4, _ => exact kv_tableIn (off := 459) (tgt := 504) X dL_law_45 (by decide) (by decide) (by decide) (by decide) (lw_addItem X hRR hnL hl0 hs hLL hlt hw hx (by omega) (by omega) (fun c2 x2 M2 h1 h2 => K (a + 8) (b + 150) (by omega) (by omega) c2 x2 M2 h1 h2))
      | 5, _ => exact kv_tableIn (off := 515) (tgt := 560) X dL_law_45 (by decide) (by decide) (by decide) (by decide) (lw_addPart X hRR hnL hl0 hs hLL hlt hw hx (by omega) (by omega) (fun c2 x2 M2 h1 h2 => K (a + 9) (b + 160) (by omega) (by omega) c2 x2 M2 h1 h2))
      | 6, _ => exact kv_tableIn (off := 595) (tgt := 640) X dL_law_45 (by decide) (by decide) (by decide) (by decide) (lw_addUse X hRR hnL hl0 hs hLL hlt hw hx (by omega) (by omega) (fun c2 x2 M2 h1 h2 => K (a + 8) (b + 150) (by omega) (by omega) c2 x2 M2 h1 h2))
      | 7, _ => exact kv_tableIn (off := 675) (tgt := 720) X dL_law_45 (by decide) (by decide) (by decide) (by decide) (lw_addWork X hRR hnL hl0 hs hLL hlt hw hx (by omega) (by omega) (fun c2 x2 M2 h1 h2 => K (a + 8) (b + 150) (by omega) (by omega) c2 x2 M2 h1 h2))
      | 8, _ => exact kv_tableIn (off := 755) (tgt := 800) X dL_law_45 (by decide) (by decide) (by decide) (by decide) (lw_dropLast X hRR hnL hl0 hs hLL hlt hw hx (by omega) (by omega) (fun c2 x2 M2 h1 h2 => K (a + 2) (b + 12) (by omega) (by omega) c2 x2 M2 h1 h2))
      | 9, _ => exact kv_tableIn (off := 811) (tgt := 856) X dL_law_45 (by decide) (by decide) (by decide) (by decide) (lw_depthOf X hRR hnL hl0 hs hLL hlt hw hx (by omega) (by omega) (fun c2 x2 M2 h1 h2 => K (a + 1) (b + 6) (by omega) (by omega) c2 x2 M2 h1 h2))
      | 10, _ => exact kv_tableIn (off := 867) (tgt := 912) X dL_law_45 (by decide) (by decide) (by decide) (by decide) (lw_unitCost X hRR hnL hl0 hs hLL hlt hw hx (by omega) (by omega) (fun c2 x2 M2 h1 h2 => K (a + 1) (b + 6) (by omega) (by omega) c2 x2 M2 h1 h2))
      | 11, _ => exact kv_tableIn (off := 922) (tgt := 967) X dL_law_45 (by decide) (by decide) (by decide) (by decide) (lw_needed X hRR hnL hl0 hs hLL hlt hw hx (by omega) (by omega) (fun c2 x2 M2 h1 h2 => K (a + 2) (b + 12) (by omega) (by omega) c2 x2 M2 h1 h2))
      | 12, _ => exact kv_tableIn (off := 989) (tgt := 1034) X dL_law_45 (by decide) (by decide) (by decide) (by decide) (lw_addLine X hRR hnL hl0 hs hLL hlt hw hx (by omega) (by omega) (fun c2 x2 M2 h1 h2 => K (a + 8) (b + 140) (by omega) (by omega) c2 x2 M2 h1 h2))
      | 13, _ => exact kv_tableIn (off := 1045) (tgt := 1090) X dL_law_45 (by decide) (by decide) (by decide) (by decide) (lw_addRow X hRR hnL hl0 hs hLL hlt hw hx (by omega) (by omega) (fun c2 x2 M2 h1 h2 => K (a + 12) (b + 170) (by omega) (by omega) c2 x2 M2 h1 h2))
      | 14, _ => exact kv_tableIn (off := 1165) (tgt := 1210) X dL_law_45 (by decide) (by decide) (by decide) (by decide) (lw_dropRow X hRR hnL hl0 hs hLL hlt hw hx (by omega) (by omega) (fun c2 x2 M2 h1 h2 => K (a + 2) (b + 12) (by omega) (by omega) c2 x2 M2 h1 h2))
      | 15, _ => exact kv_tableIn (off := 1221) (tgt := 1266) X dL_law_45 (by decide) (by decide) (by decide) (by decide) (lw_measure X hRR hnL hl0 hs hLL hlt hw hx (by omega) (by omega) (fun c2 x2 M2 h1 h2 => K (a + 1) (b + 6) (by omega) (by omega) c2 x2 M2 h1 h2))
      | 16, _ => exact kv_tableIn (off := 1277) (tgt := 1322) X dL_law_45 (by decide) (by decide) (by decide) (by decide) (lw_quantity X hRR hnL hl0 hs hLL hlt hw hx (by omega) (by omega) (fun c2 x2 M2 h1 h2 => K (a + 1) (b + 6) (by omega) (by omega) c2 x2 M2 h1 h2))
      | 17, _ => exact kv_tableIn (off := 1333) (tgt := 1378) X dL_law_45 (by decide) (by decide) (by decide) (by decide) (lw_rows X hRR hnL hl0 hs hLL hlt hw hx (by omega) (by omega) (fun c2 x2 M2 h1 h2 => K (a + 0) (b + 0) (by omega) (by omega) c2 x2 M2 h1 h2))
      | 18, _ => exact kv_tableIn (off := 1346) (tgt := 1391) X dL_law_45 (by decide) (by decide) (by decide) (by decide) (lw_addVariant X hRR hnL hl0 hs hLL hlt hw hx (by omega) (by omega) (fun c2 x2 M2 h1 h2 => K (a + 8) (b + 150) (by omega) (by omega) c2 x2 M2 h1 h2))
      | 19, _ => exact kv_tableIn (off := 1390) (tgt := 1435) X dL_law_45 (by decide) (by decide) (by decide) (by decide) (lw_replaceItem X hRR hnL hl0 hs hLL hlt hw hx (by omega) (by omega) (fun c2 x2 M2 h1 h2 => K (a + 5) (b + 30) (by omega) (by omega) c2 x2 M2 h1 h2))
      | 20, _ => exact kv_tableIn (off := 1470) (tgt := 1515) X dL_law_45 (by decide) (by decide) (by decide) (by decide) (lw_replaceResource X hRR hnL hl0 hs hLL hlt hw hx (by omega) (by omega) (fun c2 x2 M2 h1 h2 => K (a + 5) (b + 30) (by omega) (by omega) c2 x2 M2 h1 h2))
      | 21, _ => exact kv_tableIn (off := 1550) (tgt := 1595) X dL_law_45 (by decide) (by decide) (by decide) (by decide) (lw_turn X hRR hnL hl0 hs hLL hlt hw hx (by omega) (by omega) (fun c2 x2 M2 h1 h2 => K (a + 2) (b + 12) (by omega) (by omega) c2 x2 M2 h1 h2))
      | 22, _ => exact kv_tableIn (off := 1641) (tgt := 1686) X dL_law_45 (by decide) (by decide) (by decide) (by decide) (lw_difference X hRR hnL hl0 hs hLL hlt hw hx (by omega) (by omega) (fun c2 x2 M2 h1 h2 => K (a + 2) (b + 12) (by omega) (by omega) c2 x2 M2 h1 h2))
      | 23, _ => exact kv_tableIn (off := 1696) (tgt := 1741) X dL_law_45 (by decide) (by decide) (by decide) (by decide) (lw_cheapestVariants X hRR hnL hl0 hs hLL hlt hw hx (by omega) (by omega) (fun c2 x2 M2 h1 h2 => K (a + 0) (b + 0) (by omega) (by omega) c2 x2 M2 h1 h2))
      | 24, _ => exact kv_tableIn (off := 1709) (tgt := 1754) X dL_law_45 (by decide) (by decide) (by decide) (by decide) (lw_addMarkup X hRR hnL hl0 hs hLL hlt hw hx (by omega) (by omega) (fun c2 x2 M2 h1 h2 => K (a + 8) (b + 140) (by omega) (by omega) c2 x2 M2 h1 h2))
      | 25, _ => exact kv_tableIn (off := 1777) (tgt := 1822) X dL_law_45 (by decide) (by decide) (by decide) (by decide) (lw_setPercent X hRR hnL hl0 hs hLL hlt hw hx (by omega) (by omega) (fun c2 x2 M2 h1 h2 => K (a + 2) (b + 12) (by omega) (by omega) c2 x2 M2 h1 h2))
      | 26, _ => exact kv_tableIn (off := 1845) (tgt := 1890) X dL_law_45 (by decide) (by decide) (by decide) (by decide) (lw_markup X hRR hnL hl0 hs hLL hlt hw hx (by omega) (by omega) (fun c2 x2 M2 h1 h2 => K (a + 1) (b + 6) (by omega) (by omega) c2 x2 M2 h1 h2))
      | 27, _ => exact kv_tableIn (off := 1900) (tgt := 1945) X dL_law_45 (by decide) (by decide) (by decide) (by decide) (lw_amount X hRR hnL hl0 hs hLL hlt hw hx (by omega) (by omega) (fun c2 x2 M2 h1 h2 => K (a + 1) (b + 6) (by omega) (by omega) c2 x2 M2 h1 h2))
      | 28, _ => exact kv_tableIn (off := 1955) (tgt := 2000) X dL_law_45 (by decide) (by decide) (by decide) (by decide) (lw_amountByTree X hRR hnL hl0 hs hLL hlt hw hx (by omega) (by omega) (fun c2 x2 M2 h1 h2 => K (a + 1) (b + 6) (by omega) (by omega) c2 x2 M2 h1 h2))
      | 29, _ => exact kv_tableIn (off := 2010) (tgt := 2055) X dL_law_45 (by decide) (by decide) (by decide) (by decide) (lw_packs X hRR hnL hl0 hs hLL hlt hw hx (by omega) (by omega) (fun c2 x2 M2 h1 h2 => K (a + 1) (b + 6) (by omega) (by omega) c2 x2 M2 h1 h2))
      | 30, _ => exact kv_tableIn (off := 2065) (tgt := 2110) X dL_law_45 (by decide) (by decide) (by decide) (by decide) (lw_costOfLine X hRR hnL hl0 hs hLL hlt hw hx (by omega) (by omega) (fun c2 x2 M2 h1 h2 => K (a + 1) (b + 6) (by omega) (by omega) c2 x2 M2 h1 h2))
      | 31, _ => exact kv_tableIn (off := 2120) (tgt := 2165) X dL_law_45 (by decide) (by decide) (by decide) (by decide) (lw_costOfTrade X hRR hnL hl0 hs hLL hlt hw hx (by omega) (by omega) (fun c2 x2 M2 h1 h2 => K (a + 1) (b + 6) (by omega) (by omega) c2 x2 M2 h1 h2))
      | 32, _ => exact kv_tableIn (off := 2175) (tgt := 2220) X dL_law_45 (by decide) (by decide) (by decide) (by decide) (lw_costOfKind X hRR hnL hl0 hs hLL hlt hw hx (by omega) (by omega) (fun c2 x2 M2 h1 h2 => K (a + 1) (b + 6) (by omega) (by omega) c2 x2 M2 h1 h2))
      | 33, _ => exact kv_tableIn (off := 2230) (tgt := 2275) X dL_law_45 (by decide) (by decide) (by decide) (by decide) (lw_net X hRR hnL hl0 hs hLL hlt hw hx (by omega) (by omega) (fun c2 x2 M2 h1 h2 => K (a + 0) (b + 0) (by omega) (by omega) c2 x2 M2 h1 h2))
      | 34, _ => exact kv_tableIn (off := 2244) (tgt := 2289) X dL_law_45 (by decide) (by decide) (by decide) (by decide) (lw_extra X hRR hnL hl0 hs hLL hlt hw hx (by omega) (by omega) (fun c2 x2 M2 h1 h2 => K (a + 0) (b + 0) (by omega) (by omega) c2 x2 M2 h1 h2))
      | 35, _ => exact kv_tableIn (off := 2258) (tgt := 2303) X dL_law_45 (by decide) (by decide) (by decide) (by decide) (lw_total X hRR hnL hl0 hs hLL hlt hw hx (by omega) (by omega) (fun c2 x2 M2 h1 h2 => K (a + 0) (b + 0) (by omega) (by omega) c2 x2 M2 h1 h2))
      | 36, _ => exact kv_tableIn (off := 2272) (tgt := 2317) X dL_law_45 (by decide) (by decide) (by decide) (by decide) (lw_dearest X hRR hnL hl0 hs hLL hlt hw hx (by omega) (by omega) (fun c2 x2 M2 h1 h2 => K (a + 1) (b + 6) (by omega) (by omega) c2 x2 M2 h1 h2))
      | 37, _ => exact kv_tableIn (off := 2328) (tgt := 2373) X dL_law_45 (by decide) (by decide) (by decide) (by decide) (lw_share X hRR hnL hl0 hs hLL hlt hw hx (by omega) (by omega) (fun c2 x2 M2 h1 h2 => K (a + 2) (b + 12) (by omega) (by omega) c2 x2 M2 h1 h2))
      | 38, _ => exact kv_tableIn (off := 2406) (tgt := 2451) X dL_law_45 (by decide) (by decide) (by decide) (by decide) (lw_factor X hRR hnL hl0 hs hLL hlt hw hx (by omega) (by omega) (fun c2 x2 M2 h1 h2 => K (a + 1) (b + 6) (by omega) (by omega) c2 x2 M2 h1 h2))
      | 39, _ => exact kv_tableIn (off := 2471) (tgt := 2516) X dL_law_45 (by decide) (by decide) (by decide) (by decide) (lw_isSound X hRR hnL hl0 hs hLL hlt hw hx (by omega) (by omega) (fun c2 x2 M2 h1 h2 => K (a + 0) (b + 0) (by omega) (by omega) c2 x2 M2 h1 h2))
      | t + 40, ht =>
        refine kv_tableOut (tgt := 2529) X dL_law_45 (Or.inr ?_) (by decide) (K a b (by omega) (by omega) c x M hw hx)
        rw [nI_toInt (by omega)]; omega

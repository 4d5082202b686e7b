/-! THE CLASS: sections kept where their own keys are kept, sections that grow -/
def vO (j : Nat) : Prop := j ≤ 9 ∨ (17 ≤ j ∧ j ≤ 48)
def vR (n j : Nat) : Prop := j = 3 ∨ j = 10 ∨ (64 ≤ j ∧ j < 64 + n)
def vC (n j : Nat) : Prop := j = 4 ∨ j = 11 ∨ (80 ≤ j ∧ j < 80 + n) ∨ (84 ≤ j ∧ j < 84 + n) ∨ (88 ≤ j ∧ j < 88 + n)
def vT (n : Nat) (cn : Nat → Nat) (j : Nat) : Prop := j = 5 ∨ j = 12 ∨ (96 ≤ j ∧ j < 96 + n) ∨ (112 ≤ j ∧ j < 112 + n) ∨ (128 ≤ j ∧ j < 128 + n) ∨ ∃ i k, i < n ∧ k < cn i ∧ k < 4 ∧ j = 144 + (4 * i + k)
def vL (n j : Nat) : Prop := j = 6 ∨ j = 13 ∨ (208 ≤ j ∧ j < 208 + n)
def vW (n j : Nat) : Prop := j = 7 ∨ j = 14 ∨ (224 ≤ j ∧ j < 224 + n)
def vV (n j : Nat) : Prop := j = 8 ∨ j = 15 ∨ (272 ≤ j ∧ j < 272 + n) ∨ (276 ≤ j ∧ j < 276 + n) ∨ (280 ≤ j ∧ j < 280 + n)
def vM (n j : Nat) : Prop := j = 9 ∨ j = 16 ∨ (288 ≤ j ∧ j < 288 + n)
theorem cR_kp {dd : kDD} {ks ks2 : List Nat} {ad ad2 : Nat → Nat} {E E2 : Nat → va_E} {M : mS} {nR : Nat} (h : ∀ j, vR nR j → (j ∈ ks → j ∈ ks2) ∧ ad2 j = ad j ∧ E2 j = E j) (hX : cR dd ks ad E M nR) : cR dd ks2 ad2 E2 M nR := by
  obtain ⟨h1, h2, h3⟩ := hX
  have S : ∀ r, r < nR → vR nR (64 + r) := fun r hr => Or.inr (Or.inr ⟨by omega, by omega⟩)
  exact ⟨h1, cAg_LS (S := vR nR) h (Or.inl rfl) (Or.inr (Or.inl rfl)) S h2, fun r hr => ⟨(h _ (S r hr)).1 (h3 r hr).1, by rw [(h _ (S r hr)).2.2]; exact (h3 r hr).2⟩⟩
theorem cL_kp {dd : kDD} {ks ks2 : List Nat} {ad ad2 : Nat → Nat} {E E2 : Nat → va_E} {M : mS} {nL : Nat} {nW : Nat} {li : Nat → Nat} (h : ∀ j, vL nL j → (j ∈ ks → j ∈ ks2) ∧ ad2 j = ad j ∧ E2 j = E j) (hX : cL dd ks ad E M nL nW li) : cL dd ks2 ad2 E2 M nL nW li := by
  obtain ⟨h1, h2, h3⟩ := hX
  have S : ∀ r, r < nL → vL nL (208 + r) := fun r hr => Or.inr (Or.inr ⟨by omega, by omega⟩)
  exact ⟨h1, cAg_LS (S := vL nL) h (Or.inl rfl) (Or.inr (Or.inl rfl)) S h2, fun r hr => ⟨(h _ (S r hr)).1 (h3 r hr).1, by rw [(h _ (S r hr)).2.2]; exact (h3 r hr).2⟩⟩
theorem cW_kp {dd : kDD} {ks ks2 : List Nat} {ad ad2 : Nat → Nat} {E E2 : Nat → va_E} {M : mS} {nW : Nat} {rl : Nat → Nat} (h : ∀ j, vW nW j → (j ∈ ks → j ∈ ks2) ∧ ad2 j = ad j ∧ E2 j = E j) (hX : cW dd ks ad E M nW rl) : cW dd ks2 ad2 E2 M nW rl := by
  obtain ⟨h1, h2, h3⟩ := hX
  have S : ∀ r, r < nW → vW nW (224 + r) := fun r hr => Or.inr (Or.inr ⟨by omega, by omega⟩)
  exact ⟨h1, cAg_LS (S := vW nW) h (Or.inl rfl) (Or.inr (Or.inl rfl)) S h2, fun r hr => ⟨(h _ (S r hr)).1 (h3 r hr).1, by rw [(h _ (S r hr)).2.2]; exact (h3 r hr).2⟩⟩
theorem cM_kp {dd : kDD} {ks ks2 : List Nat} {ad ad2 : Nat → Nat} {E E2 : Nat → va_E} {M : mS} {nM : Nat} (h : ∀ j, vM nM j → (j ∈ ks → j ∈ ks2) ∧ ad2 j = ad j ∧ E2 j = E j) (hX : cM dd ks ad E M nM) : cM dd ks2 ad2 E2 M nM := by
  obtain ⟨h1, h2, h3⟩ := hX
  have S : ∀ r, r < nM → vM nM (288 + r) := fun r hr => Or.inr (Or.inr ⟨by omega, by omega⟩)
  exact ⟨h1, cAg_LS (S := vM nM) h (Or.inl rfl) (Or.inr (Or.inl rfl)) S h2, fun r hr => ⟨(h _ (S r hr)).1 (h3 r hr).1, by rw [(h _ (S r hr)).2.2]; exact (h3 r hr).2⟩⟩
theorem cC_kp {dd : kDD} {ks ks2 : List Nat} {ad ad2 : Nat → Nat} {E E2 : Nat → va_E} {M : mS} {nC : Nat} {mn me : Nat → Nat} (h : ∀ j, vC nC j → (j ∈ ks → j ∈ ks2) ∧ ad2 j = ad j ∧ E2 j = E j) (hC : cC dd ks ad E M nC mn me) : cC dd ks2 ad2 E2 M nC mn me := by
  obtain ⟨h1, h2, h3⟩ := hC
  have S : ∀ r, r < nC → vC nC (80 + r) := fun r hr => Or.inr (Or.inr (Or.inl ⟨by omega, by omega⟩))
  refine ⟨h1, cAg_LS (S := vC nC) h (Or.inl rfl) (Or.inr (Or.inl rfl)) S h2, fun c hc => ?_⟩
  obtain ⟨a1, a2, a3, a4, a5, f1, f2, a6, a7, a8⟩ := h3 c hc
  have S4 : vC nC (84 + c) := Or.inr (Or.inr (Or.inr (Or.inl ⟨by omega, by omega⟩)))
  have S8 : vC nC (88 + c) := Or.inr (Or.inr (Or.inr (Or.inr ⟨by omega, by omega⟩)))
  exact ⟨(h _ (S c hc)).1 a1, by rw [(h _ (S c hc)).2.2, (h _ S4).2.1, (h _ S8).2.1]; exact a2, a3, (h _ S4).1 a4, (h _ S8).1 a5, f1, f2, by rw [(h _ S4).2.2]; exact a6, by rw [(h _ S8).2.2]; exact a7, a8⟩
theorem cT_kp {dd : kDD} {ks ks2 : List Nat} {ad ad2 : Nat → Nat} {E E2 : Nat → va_E} {M : mS} {nt : Nat} {cn nm : Nat → Nat} (h : ∀ j, vT nt cn j → (j ∈ ks → j ∈ ks2) ∧ ad2 j = ad j ∧ E2 j = E j) (hT : cT dd ks ad E M nt cn nm) : cT dd ks2 ad2 E2 M nt cn nm := by
  obtain ⟨h1, h2, h3⟩ := hT
  have S : ∀ r, r < nt → vT nt cn (96 + r) := fun r hr => Or.inr (Or.inr (Or.inl ⟨by omega, by omega⟩))
  refine ⟨h1, cAg_LS (S := vT nt cn) h (Or.inl rfl) (Or.inr (Or.inl rfl)) S h2, fun i hi => ?_⟩
  obtain ⟨a1, a2, a3, a4, a5⟩ := h3 i hi
  have S1 : vT nt cn (112 + i) := Or.inr (Or.inr (Or.inr (Or.inl ⟨by omega, by omega⟩)))
  have S2 : vT nt cn (128 + i) := Or.inr (Or.inr (Or.inr (Or.inr (Or.inl ⟨by omega, by omega⟩))))
  have S3 : ∀ k, k < cn i → vT nt cn (144 + (4 * i + k)) := fun k hk => Or.inr (Or.inr (Or.inr (Or.inr (Or.inr ⟨i, k, hi, hk, by omega, rfl⟩))))
  exact ⟨(h _ (S i hi)).1 a1, by rw [(h _ (S i hi)).2.2, (h _ S1).2.1]; exact a2, a3, cAg_LS (S := vT nt cn) h S1 S2 S3 a4, fun k hk => ⟨(h _ (S3 k hk)).1 (a5 k hk).1, by rw [(h _ (S3 k hk)).2.2]; exact (a5 k hk).2⟩⟩
theorem cV_kp {dd : kDD} {ks ks2 : List Nat} {ad ad2 : Nat → Nat} {E E2 : Nat → va_E} {M : mS} {nV : Nat} (h : ∀ j, vV nV j → (j ∈ ks → j ∈ ks2) ∧ ad2 j = ad j ∧ E2 j = E j) (hV : cV dd ks ad E M nV) : cV dd ks2 ad2 E2 M nV := by
  obtain ⟨h1, h2, h3⟩ := hV
  have S : ∀ r, r < nV → vV nV (272 + r) := fun r hr => Or.inr (Or.inr (Or.inl ⟨by omega, by omega⟩))
  refine ⟨h1, cAg_LS (S := vV nV) h (Or.inl rfl) (Or.inr (Or.inl rfl)) S h2, fun v hv => ?_⟩
  obtain ⟨a1, a2, a4, a5, f1, f2, a6, a7, a8⟩ := h3 v hv
  have S4 : vV nV (276 + v) := Or.inr (Or.inr (Or.inr (Or.inl ⟨by omega, by omega⟩)))
  have S8 : vV nV (280 + v) := Or.inr (Or.inr (Or.inr (Or.inr ⟨by omega, by omega⟩)))
  exact ⟨(h _ (S v hv)).1 a1, by rw [(h _ (S v hv)).2.2, (h _ S4).2.1, (h _ S8).2.1]; exact a2, (h _ S4).1 a4, (h _ S8).1 a5, f1, f2, by rw [(h _ S4).2.2]; exact a6, by rw [(h _ S8).2.2]; exact a7, a8⟩
/-- from world (ks, ad, E with e) to (ks2, ad2, F): addresses kept but for Ka, contents but for Kc -/
def cSt (dd : kDD) (Ka Kc : Nat → Prop) (ks : List Nat) (ad : Nat → Nat) (E : Nat → va_E) (e : eS) (ks2 : List Nat) (ad2 : Nat → Nat) (F : Nat → va_E) : Prop := (∀ j, ¬ Ka j → (j ∈ ks → j ∈ ks2) ∧ ad2 j = ad j) ∧ ∀ j, ¬ Kc j → F j = cE dd E e j
theorem cSt_E {dd : kDD} {Ka Kc : Nat → Prop} {ks ks2 : List Nat} {ad ad2 : Nat → Nat} {E F : Nat → va_E} {e : eS} (h : cSt dd Ka Kc ks ad E e ks2 ad2 F) (hk : ∀ j, (17 ≤ j ∧ j ≤ 19) ∨ (22 ≤ j ∧ j ≤ 48) → ¬ Kc j) : ∀ j, F j = cE dd F e j := cE_of (fun j hj => h.2 j (hk j hj))
theorem cSt_tr {dd : kDD} {Ka Kc Ka2 Kc2 : Nat → Prop} {ks ks2 ks3 : List Nat} {ad ad2 ad3 : Nat → Nat} {E F F2 : Nat → va_E} {e : eS} (h : cSt dd Ka Kc ks ad E e ks2 ad2 F) (h1 : ∀ j, ¬ Ka2 j → (j ∈ ks2 → j ∈ ks3) ∧ ad3 j = ad2 j) (h2 : ∀ j, ¬ Kc2 j → F2 j = F j) : cSt dd (fun j => Ka j ∨ Ka2 j) (fun j => Kc j ∨ Kc2 j) ks ad E e ks3 ad3 F2 :=
  ⟨fun j hj => ⟨fun q => (h1 j (fun y => hj (Or.inr y))).1 ((h.1 j (fun y => hj (Or.inl y))).1 q), (h1 j (fun y => hj (Or.inr y))).2.trans (h.1 j (fun y => hj (Or.inl y))).2⟩, fun j hj => (h2 j (fun y => hj (Or.inr y))).trans (h.2 j (fun y => hj (Or.inl y)))⟩
theorem cR_st {dd : kDD} {Ka Kc : Nat → Prop} {ks ks2 : List Nat} {ad ad2 : Nat → Nat} {E F : Nat → va_E} {e : eS} (h : cSt dd Ka Kc ks ad E e ks2 ad2 F) {M : mS} {nR : Nat} (hX : cR dd ks ad E M nR ) (hv : ∀ j, vR nR j → ¬ Ka j ∧ ¬ Kc j) : cR dd ks2 ad2 F M nR  :=
  cR_kp (fun j hj => ⟨(h.1 j (hv j hj).1).1, (h.1 j (hv j hj).1).2, (h.2 j (hv j hj).2).trans (cE_ne (by have b := hX.1; unfold vR at hj; omega))⟩) hX
theorem cC_st {dd : kDD} {Ka Kc : Nat → Prop} {ks ks2 : List Nat} {ad ad2 : Nat → Nat} {E F : Nat → va_E} {e : eS} (h : cSt dd Ka Kc ks ad E e ks2 ad2 F) {M : mS} {nC : Nat} {mn me : Nat → Nat} (hX : cC dd ks ad E M nC  mn me) (hv : ∀ j, vC nC j → ¬ Ka j ∧ ¬ Kc j) : cC dd ks2 ad2 F M nC  mn me :=
  cC_kp (fun j hj => ⟨(h.1 j (hv j hj).1).1, (h.1 j (hv j hj).1).2, (h.2 j (hv j hj).2).trans (cE_ne (by have b := hX.1; unfold vC at hj; omega))⟩) hX
theorem cT_st {dd : kDD} {Ka Kc : Nat → Prop} {ks ks2 : List Nat} {ad ad2 : Nat → Nat} {E F : Nat → va_E} {e : eS} (h : cSt dd Ka Kc ks ad E e ks2 ad2 F) {M : mS} {nt : Nat} {cn nm : Nat → Nat} (hX : cT dd ks ad E M nt cn nm) (hv : ∀ j, vT nt cn j → ¬ Ka j ∧ ¬ Kc j) : cT dd ks2 ad2 F M nt cn nm :=
  cT_kp (fun j hj => ⟨(h.1 j (hv j hj).1).1, (h.1 j (hv j hj).1).2, (h.2 j (hv j hj).2).trans (cE_ne (by have b := hX.1; unfold vT at hj; rcases hj with q | q | q | q | q | ⟨i, k, q1, q2, q3, q4⟩ <;> omega))⟩) hX
theorem cL_st {dd : kDD} {Ka Kc : Nat → Prop} {ks ks2 : List Nat} {ad ad2 : Nat → Nat} {E F : Nat → va_E} {e : eS} (h : cSt dd Ka Kc ks ad E e ks2 ad2 F) {M : mS} {nL : Nat} {nW : Nat} {li : Nat → Nat} (hX : cL dd ks ad E M nL nW li) (hv : ∀ j, vL nL j → ¬ Ka j ∧ ¬ Kc j) : cL dd ks2 ad2 F M nL nW li :=
  cL_kp (fun j hj => ⟨(h.1 j (hv j hj).1).1, (h.1 j (hv j hj).1).2, (h.2 j (hv j hj).2).trans (cE_ne (by have b := hX.1; unfold vL at hj; omega))⟩) hX
theorem cW_st {dd : kDD} {Ka Kc : Nat → Prop} {ks ks2 : List Nat} {ad ad2 : Nat → Nat} {E F : Nat → va_E} {e : eS} (h : cSt dd Ka Kc ks ad E e ks2 ad2 F) {M : mS} {nW : Nat} {rl : Nat → Nat} (hX : cW dd ks ad E M nW rl) (hv : ∀ j, vW nW j → ¬ Ka j ∧ ¬ Kc j) : cW dd ks2 ad2 F M nW rl :=
  cW_kp (fun j hj => ⟨(h.1 j (hv j hj).1).1, (h.1 j (hv j hj).1).2, (h.2 j (hv j hj).2).trans (cE_ne (by have b := hX.1; unfold vW at hj; omega))⟩) hX
theorem cV_st {dd : kDD} {Ka Kc : Nat → Prop} {ks ks2 : List Nat} {ad ad2 : Nat → Nat} {E F : Nat → va_E} {e : eS} (h : cSt dd Ka Kc ks ad E e ks2 ad2 F) {M : mS} {nV : Nat} (hX : cV dd ks ad E M nV) (hv : ∀ j, vV nV j → ¬ Ka j ∧ ¬ Kc j) : cV dd ks2 ad2 F M nV :=
  cV_kp (fun j hj => ⟨(h.1 j (hv j hj).1).1, (h.1 j (hv j hj).1).2, (h.2 j (hv j hj).2).trans (cE_ne (by have b := hX.1; unfold vV at hj; omega))⟩) hX
theorem cM_st {dd : kDD} {Ka Kc : Nat → Prop} {ks ks2 : List Nat} {ad ad2 : Nat → Nat} {E F : Nat → va_E} {e : eS} (h : cSt dd Ka Kc ks ad E e ks2 ad2 F) {M : mS} {nM : Nat} (hX : cM dd ks ad E M nM) (hv : ∀ j, vM nM j → ¬ Ka j ∧ ¬ Kc j) : cM dd ks2 ad2 F M nM :=
  cM_kp (fun j hj => ⟨(h.1 j (hv j hj).1).1, (h.1 j (hv j hj).1).2, (h.2 j (hv j hj).2).trans (cE_ne (by have b := hX.1; unfold vM at hj; omega))⟩) hX
theorem cO_st {dd : kDD} {Ka Kc : Nat → Prop} {ks ks2 : List Nat} {ad ad2 : Nat → Nat} {E F : Nat → va_E} {e : eS} (h : cSt dd Ka Kc ks ad E e ks2 ad2 F) {on : Int32} (hX : cO dd ks ad E on) (hv : ∀ j, vO j → ¬ Ka j) (hc : ¬ Kc 0 ∧ ¬ Kc 1 ∧ ¬ Kc 2 ∧ ¬ Kc 20 ∧ ¬ Kc 21) : cO dd ks2 ad2 F on :=
  cO_frame (fun j hj => h.1 j (hv j hj)) ⟨(h.2 _ hc.1).trans (cE_ne (by omega)), (h.2 _ hc.2.1).trans (cE_ne (by omega)), (h.2 _ hc.2.2.1).trans (cE_ne (by omega)), (h.2 _ hc.2.2.2.1).trans (cE_ne (by omega)), (h.2 _ hc.2.2.2.2).trans (cE_ne (by omega))⟩ hX
theorem cR_add {dd : kDD} {ks : List Nat} {ad : Nat → Nat} {E : Nat → va_E} {M M2 : mS} {nR : Nat} {mc : Int32} {z : kT} (hX : cR dd ks ad E M nR) (hn : nR < 12) (hk : 64 + nR ∈ ks) (hE : E (64 + nR) = .inr (10, [.int (M2.2.1 2 nR), .int (M2.2.1 3 nR), .int (M2.2.1 4 nR), .int (M2.2.1 5 nR)])) (hd : ∀ i, i < nR → ([.int (M.2.1 2 i), .int (M.2.1 3 i), .int (M.2.1 4 i), .int (M.2.1 5 i)] : List Value) = [.int (M2.2.1 2 i), .int (M2.2.1 3 i), .int (M2.2.1 4 i), .int (M2.2.1 5 i)]) (hw : kGw ks ad E dd 3 10 (nR + 1) (nR + 1) (nR + 1) mc (fun i => some (ad (64 + i))) z) : cR dd z.1 z.2.1 z.2.2 M2 (nR + 1) := by
  obtain ⟨h1, h2, h3⟩ := hX
  refine ⟨by omega, kLs_add h2 (by omega) hk (by omega) (by omega) hE hw, fun i hi => ⟨?_, ?_⟩⟩
  · rcases Nat.lt_succ_iff_lt_or_eq.mp hi with c | c
    · exact (hw.1 _).mpr (Or.inl (h3 i c).1)
    · rw [c]; exact (hw.1 _).mpr (Or.inl hk)
  · rw [hw.2.2.1 (64 + i) (by omega) (by omega)]
    rcases Nat.lt_succ_iff_lt_or_eq.mp hi with c | c
    · rw [(h3 i c).2, hd i c]
    · rw [c]; exact hE
theorem cL_add {dd : kDD} {ks : List Nat} {ad : Nat → Nat} {E : Nat → va_E} {M M2 : mS} {nL : Nat} {nW : Nat} {li li2 : Nat → Nat} {mc : Int32} {z : kT} (hX : cL dd ks ad E M nL nW li) (hn : nL < 10) (hk : 208 + nL ∈ ks) (hE : E (208 + nL) = .inr (7, [.int (nI (li2 nL)), .int (mq (M2.2.1 19) (M2.2.1 20) (nI nL) nW)])) (hd : ∀ i, i < nL → ([.int (nI (li i)), .int (mq (M.2.1 19) (M.2.1 20) (nI i) nW)] : List Value) = [.int (nI (li2 i)), .int (mq (M2.2.1 19) (M2.2.1 20) (nI i) nW)]) (hw : kGw ks ad E dd 6 13 (nL + 1) (nL + 1) (nL + 1) mc (fun i => some (ad (208 + i))) z) : cL dd z.1 z.2.1 z.2.2 M2 (nL + 1) nW li2 := by
  obtain ⟨h1, h2, h3⟩ := hX
  refine ⟨by omega, kLs_add h2 (by omega) hk (by omega) (by omega) hE hw, fun i hi => ⟨?_, ?_⟩⟩
  · rcases Nat.lt_succ_iff_lt_or_eq.mp hi with c | c
    · exact (hw.1 _).mpr (Or.inl (h3 i c).1)
    · rw [c]; exact (hw.1 _).mpr (Or.inl hk)
  · rw [hw.2.2.1 (208 + i) (by omega) (by omega)]
    rcases Nat.lt_succ_iff_lt_or_eq.mp hi with c | c
    · rw [(h3 i c).2, hd i c]
    · rw [c]; exact hE
theorem cW_add {dd : kDD} {ks : List Nat} {ad : Nat → Nat} {E : Nat → va_E} {M M2 : mS} {nW : Nat} {rl rl2 : Nat → Nat} {mc : Int32} {z : kT} (hX : cW dd ks ad E M nW rl) (hn : nW < 40) (hk : 224 + nW ∈ ks) (hE : E (224 + nW) = .inr (11, [.int (nI (rl2 nW)), .int (M2.2.1 20 nW)])) (hd : ∀ i, i < nW → ([.int (nI (rl i)), .int (M.2.1 20 i)] : List Value) = [.int (nI (rl2 i)), .int (M2.2.1 20 i)]) (hw : kGw ks ad E dd 7 14 (nW + 1) (nW + 1) (nW + 1) mc (fun i => some (ad (224 + i))) z) : cW dd z.1 z.2.1 z.2.2 M2 (nW + 1) rl2 := by
  obtain ⟨h1, h2, h3⟩ := hX
  refine ⟨by omega, kLs_add h2 (by omega) hk (by omega) (by omega) hE hw, fun i hi => ⟨?_, ?_⟩⟩
  · rcases Nat.lt_succ_iff_lt_or_eq.mp hi with c | c
    · exact (hw.1 _).mpr (Or.inl (h3 i c).1)
    · rw [c]; exact (hw.1 _).mpr (Or.inl hk)
  · rw [hw.2.2.1 (224 + i) (by omega) (by omega)]
    rcases Nat.lt_succ_iff_lt_or_eq.mp hi with c | c
    · rw [(h3 i c).2, hd i c]
    · rw [c]; exact hE
theorem cM_add {dd : kDD} {ks : List Nat} {ad : Nat → Nat} {E : Nat → va_E} {M M2 : mS} {nM : Nat} {mc : Int32} {z : kT} (hX : cM dd ks ad E M nM) (hn : nM < 4) (hk : 288 + nM ∈ ks) (hE : E (288 + nM) = .inr (8, [.int (M2.2.1 26 nM), .int (M2.2.1 27 nM)])) (hd : ∀ i, i < nM → ([.int (M.2.1 26 i), .int (M.2.1 27 i)] : List Value) = [.int (M2.2.1 26 i), .int (M2.2.1 27 i)]) (hw : kGw ks ad E dd 9 16 (nM + 1) (nM + 1) (nM + 1) mc (fun i => some (ad (288 + i))) z) : cM dd z.1 z.2.1 z.2.2 M2 (nM + 1) := by
  obtain ⟨h1, h2, h3⟩ := hX
  refine ⟨by omega, kLs_add h2 (by omega) hk (by omega) (by omega) hE hw, fun i hi => ⟨?_, ?_⟩⟩
  · rcases Nat.lt_succ_iff_lt_or_eq.mp hi with c | c
    · exact (hw.1 _).mpr (Or.inl (h3 i c).1)
    · rw [c]; exact (hw.1 _).mpr (Or.inl hk)
  · rw [hw.2.2.1 (288 + i) (by omega) (by omega)]
    rcases Nat.lt_succ_iff_lt_or_eq.mp hi with c | c
    · rw [(h3 i c).2, hd i c]
    · rw [c]; exact hE
theorem cC_add {dd : kDD} {ks : List Nat} {ad : Nat → Nat} {E : Nat → va_E} {M : mS} {nC : Nat} {mn me : Nat → Nat} {mc : Int32} {z : kT} (hX : cC dd ks ad E M nC mn me) (hn : nC < 4) (hk : 80 + nC ∈ ks ∧ 84 + nC ∈ ks ∧ 88 + nC ∈ ks) (hE : E (80 + nC) = .inr (4, [.ref (ad (84 + nC)), .ref (ad (88 + nC)), .int 0])) (h0 : mn nC = 0) (h4 : ∃ f, E (84 + nC) = kI dd 3 f) (h8 : ∃ f, E (88 + nC) = kI dd 3 f) (hw : kGw ks ad E dd 4 11 (nC + 1) (nC + 1) (nC + 1) mc (fun i => some (ad (80 + i))) z) : cC dd z.1 z.2.1 z.2.2 M (nC + 1) mn me := by
  obtain ⟨h1, h2, h3⟩ := hX
  refine ⟨by omega, kLs_add h2 (by omega) hk.1 (by omega) (by omega) hE hw, fun i hi => ?_⟩
  have k1 : ∀ j, j ∈ ks → j ∈ z.1 := fun j q => (hw.1 j).mpr (Or.inl q)
  rw [hw.2.2.1 (80 + i) (by omega) (by omega), hw.2.2.1 (84 + i) (by omega) (by omega), hw.2.2.1 (88 + i) (by omega) (by omega), hw.2.1 (84 + i) (by omega), hw.2.1 (88 + i) (by omega)]
  rcases Nat.lt_succ_iff_lt_or_eq.mp hi with c | c
  · obtain ⟨a1, a2, a3, a4, a5, f1, f2, a6, a7, a8⟩ := h3 i c
    exact ⟨k1 _ a1, a2, a3, k1 _ a4, k1 _ a5, f1, f2, a6, a7, a8⟩
  · subst c
    obtain ⟨f1, g1⟩ := h4
    obtain ⟨f2, g2⟩ := h8
    exact ⟨k1 _ hk.1, by rw [h0]; exact hE, by omega, k1 _ hk.2.1, k1 _ hk.2.2, f1, f2, g1, g2, fun q hq => absurd hq (by omega)⟩
theorem cV_add {dd : kDD} {ks : List Nat} {ad : Nat → Nat} {E : Nat → va_E} {M M2 : mS} {nV : Nat} {mc : Int32} {z : kT} (hX : cV dd ks ad E M nV) (hn : nV < 4) (hk : 272 + nV ∈ ks ∧ 276 + nV ∈ ks ∧ 280 + nV ∈ ks) (hE : E (272 + nV) = .inr (12, [.ref (ad (276 + nV)), .ref (ad (280 + nV))])) (hd : ∀ q, q < 12 * nV → M.2.1 22 q = M2.2.1 22 q ∧ M.2.1 23 q = M2.2.1 23 q) (hf : ∃ f1 f2, E (276 + nV) = kI dd 12 f1 ∧ E (280 + nV) = kI dd 12 f2 ∧ ∀ k, k < 12 → f1 k = M2.2.1 22 (12 * nV + k) ∧ f2 k = M2.2.1 23 (12 * nV + k)) (hw : kGw ks ad E dd 8 15 (nV + 1) (nV + 1) (nV + 1) mc (fun i => some (ad (272 + i))) z) : cV dd z.1 z.2.1 z.2.2 M2 (nV + 1) := by
  obtain ⟨h1, h2, h3⟩ := hX
  refine ⟨by omega, kLs_add h2 (by omega) hk.1 (by omega) (by omega) hE hw, fun i hi => ?_⟩
  have k1 : ∀ j, j ∈ ks → j ∈ z.1 := fun j q => (hw.1 j).mpr (Or.inl q)
  rw [hw.2.2.1 (272 + i) (by omega) (by omega), hw.2.2.1 (276 + i) (by omega) (by omega), hw.2.2.1 (280 + i) (by omega) (by omega), hw.2.1 (276 + i) (by omega), hw.2.1 (280 + i) (by omega)]
  rcases Nat.lt_succ_iff_lt_or_eq.mp hi with c | c
  · obtain ⟨a1, a2, a4, a5, f1, f2, a6, a7, a8⟩ := h3 i c
    exact ⟨k1 _ a1, a2, k1 _ a4, k1 _ a5, f1, f2, a6, a7, fun k hk => ⟨(a8 k hk).1.trans (hd _ (by omega)).1, (a8 k hk).2.trans (hd _ (by omega)).2⟩⟩
  · subst c
    obtain ⟨f1, f2, g1, g2, g3⟩ := hf
    exact ⟨k1 _ hk.1, hE, k1 _ hk.2.1, k1 _ hk.2.2, f1, f2, g1, g2, g3⟩
theorem cT_add {dd : kDD} {ks : List Nat} {ad : Nat → Nat} {E : Nat → va_E} {M M2 : mS} {nt : Nat} {cn cn2 nm : Nat → Nat} {mc : Int32} {z : kT} (hX : cT dd ks ad E M nt cn nm) (hn : nt < 12) (hk : 96 + nt ∈ ks ∧ 112 + nt ∈ ks) (hE : E (96 + nt) = .inr (6, [.int (M2.2.1 11 nt), .ref (ad (112 + nt))])) (hE2 : ∃ c : Int32, E (112 + nt) = .inr (2, [.int c, .ref (ktE dd).1, .int 0])) (hce : kEl 3) (hd : ∀ i, i < nt → M.2.1 11 i = M2.2.1 11 i ∧ cn2 i = cn i) (h0 : cn2 nt = 0) (hd2 : M.2.1 13 = M2.2.1 13 ∧ M.2.1 15 = M2.2.1 15) (hw : kGw ks ad E dd 5 12 (nt + 1) (nt + 1) (nt + 1) mc (fun i => some (ad (96 + i))) z) : cT dd z.1 z.2.1 z.2.2 M2 (nt + 1) cn2 nm := by
  obtain ⟨h1, h2, h3⟩ := hX
  refine ⟨by omega, kLs_add h2 (by omega) hk.1 (by omega) (by omega) hE hw, fun i hi => ?_⟩
  have k1 : ∀ j, j ∈ ks → j ∈ z.1 := fun j q => (hw.1 j).mpr (Or.inl q)
  rw [hw.2.2.1 (96 + i) (by omega) (by omega), hw.2.1 (112 + i) (by omega)]
  rcases Nat.lt_succ_iff_lt_or_eq.mp hi with c | c
  · obtain ⟨a1, a2, a3, a4, a5⟩ := h3 i c
    rw [(hd i c).2, ← (hd i c).1, ← hd2.1, ← hd2.2]
    exact ⟨k1 _ a1, a2, a3, kLs_frame a4 ⟨k1 _ a4.1, hw.2.2.1 _ (by omega) (by omega)⟩ (fun q => ⟨k1 _ q, hw.2.1 _ (by omega), hw.2.2.1 _ (by omega) (by omega)⟩) (fun k hk q => ⟨k1 _ q, hw.2.1 _ (by omega), fun fs hfs => ⟨fs, (hw.2.2.1 _ (by omega) (by omega)).trans hfs⟩⟩), fun k hk => ⟨k1 _ (a5 k hk).1, (hw.2.2.1 _ (by omega) (by omega)).trans (a5 k hk).2⟩⟩
  · subst c
    rw [h0]
    obtain ⟨c, hc⟩ := hE2
    exact ⟨k1 _ hk.1, hE, by omega, ⟨k1 _ hk.2, by omega, hce, by omega, fun k hk => absurd hk (by omega), c, Or.inl ⟨rfl, (hw.2.2.1 _ (by omega) (by omega)).trans hc⟩⟩, fun k hk => absurd hk (by omega)⟩

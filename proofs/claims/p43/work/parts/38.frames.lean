/-! THE CLASS: sections that are kept, its invariant -/
/-- the keys of S are as they were -/
def cAg (S : Nat → Prop) (ks : List Nat) (ad : Nat → Nat) (E : Nat → va_E) (ks2 : List Nat) (ad2 : Nat → Nat) (E2 : Nat → va_E) : Prop := ∀ j, S j → (j ∈ ks → j ∈ ks2) ∧ ad2 j = ad j ∧ E2 j = E j
theorem cAg_LS {S : Nat → Prop} {dd : kDD} {ks ks2 : List Nat} {ad ad2 : Nat → Nat} {E E2 : Nat → va_E} (h : cAg S ks ad E ks2 ad2 E2) {lk ak n : Nat} {ek : Nat → Nat} {ci : Nat} (h1 : S lk) (h2 : S ak) (h3 : ∀ i, i < n → S (ek i)) (hL : kLs dd ks ad E lk ak n ek ci) : kLs dd ks2 ad2 E2 lk ak n ek ci :=
  kLs_frame hL ⟨(h lk h1).1 hL.1, (h lk h1).2.2⟩ (fun q => ⟨(h ak h2).1 q, (h ak h2).2⟩) (fun i hi q => ⟨(h _ (h3 i hi)).1 q, (h _ (h3 i hi)).2.1, fun fs hfs => ⟨fs, by rw [(h _ (h3 i hi)).2.2]; exact hfs⟩⟩)
def sR (j : Nat) : Prop := j = 3 ∨ j = 10 ∨ (64 ≤ j ∧ j < 76)
def sC (j : Nat) : Prop := j = 4 ∨ j = 11 ∨ (80 ≤ j ∧ j < 92)
def sT (j : Nat) : Prop := j = 5 ∨ j = 12 ∨ (96 ≤ j ∧ j < 192)
def sL (j : Nat) : Prop := j = 6 ∨ j = 13 ∨ (208 ≤ j ∧ j < 218)
def sW (j : Nat) : Prop := j = 7 ∨ j = 14 ∨ (224 ≤ j ∧ j < 264)
def sV (j : Nat) : Prop := j = 8 ∨ j = 15 ∨ (272 ≤ j ∧ j < 284)
def sM (j : Nat) : Prop := j = 9 ∨ j = 16 ∨ (288 ≤ j ∧ j < 292)
theorem cR_frame {dd : kDD} {ks ks2 : List Nat} {ad ad2 : Nat → Nat} {E E2 : Nat → va_E} {M : mS} {nR : Nat} (h : cAg sR ks ad E ks2 ad2 E2) (hR : cR dd ks ad E M nR) : cR dd ks2 ad2 E2 M nR := by
  obtain ⟨h1, h2, h3⟩ := hR
  have S : ∀ r, r < nR → sR (64 + r) := fun r hr => Or.inr (Or.inr ⟨by omega, by omega⟩)
  exact ⟨h1, cAg_LS h (Or.inl rfl) (Or.inr (Or.inl rfl)) S h2, fun r hr => ⟨(h _ (S r hr)).1 (h3 r hr).1, by rw [(h _ (S r hr)).2.2]; exact (h3 r hr).2⟩⟩
theorem cC_frame {dd : kDD} {ks ks2 : List Nat} {ad ad2 : Nat → Nat} {E E2 : Nat → va_E} {M : mS} {nC : Nat} {mn me : Nat → Nat} (h : cAg sC ks ad E ks2 ad2 E2) (hC : cC dd ks ad E M nC mn me) : cC dd ks2 ad2 E2 M nC mn me := by
  obtain ⟨h1, h2, h3⟩ := hC
  have S : ∀ r, r < 12 → sC (80 + r) := fun r hr => Or.inr (Or.inr ⟨by omega, by omega⟩)
  refine ⟨h1, cAg_LS h (Or.inl rfl) (Or.inr (Or.inl rfl)) (fun r hr => S r (by omega)) h2, fun c hc => ?_⟩
  obtain ⟨a1, a2, a3, a4, a5, f1, f2, a6, a7, a8⟩ := h3 c hc
  have S4 : sC (84 + c) := Or.inr (Or.inr ⟨by omega, by omega⟩)
  have S8 : sC (88 + c) := Or.inr (Or.inr ⟨by omega, by omega⟩)
  exact ⟨(h _ (S c (by omega))).1 a1, by rw [(h _ (S c (by omega))).2.2, (h _ S4).2.1, (h _ S8).2.1]; exact a2, a3, (h _ S4).1 a4, (h _ S8).1 a5, f1, f2, by rw [(h _ S4).2.2]; exact a6, by rw [(h _ S8).2.2]; exact a7, a8⟩
theorem cT_frame {dd : kDD} {ks ks2 : List Nat} {ad ad2 : Nat → Nat} {E E2 : Nat → va_E} {M : mS} {nt : Nat} {cn nm : Nat → Nat} (h : cAg sT ks ad E ks2 ad2 E2) (hT : cT dd ks ad E M nt cn nm) : cT dd ks2 ad2 E2 M nt cn nm := by
  obtain ⟨h1, h2, h3⟩ := hT
  have S : ∀ r, r < 96 → sT (96 + r) := fun r hr => Or.inr (Or.inr ⟨by omega, by omega⟩)
  refine ⟨h1, cAg_LS h (Or.inl rfl) (Or.inr (Or.inl rfl)) (fun r hr => S r (by omega)) h2, fun i hi => ?_⟩
  obtain ⟨a1, a2, a3, a4, a5⟩ := h3 i hi
  have S1 : sT (112 + i) := Or.inr (Or.inr ⟨by omega, by omega⟩)
  have S2 : sT (128 + i) := Or.inr (Or.inr ⟨by omega, by omega⟩)
  have S3 : ∀ k, k < cn i → sT (144 + (4 * i + k)) := fun k hk => Or.inr (Or.inr ⟨by omega, by omega⟩)
  exact ⟨(h _ (S i (by omega))).1 a1, by rw [(h _ (S i (by omega))).2.2, (h _ S1).2.1]; exact a2, a3, cAg_LS h S1 S2 S3 a4, fun k hk => ⟨(h _ (S3 k hk)).1 (a5 k hk).1, by rw [(h _ (S3 k hk)).2.2]; exact (a5 k hk).2⟩⟩
theorem cL_frame {dd : kDD} {ks ks2 : List Nat} {ad ad2 : Nat → Nat} {E E2 : Nat → va_E} {M : mS} {nL nW : Nat} {li : Nat → Nat} (h : cAg sL ks ad E ks2 ad2 E2) (hL : cL dd ks ad E M nL nW li) : cL dd ks2 ad2 E2 M nL nW li := by
  obtain ⟨h1, h2, h3⟩ := hL
  have S : ∀ r, r < nL → sL (208 + r) := fun r hr => Or.inr (Or.inr ⟨by omega, by omega⟩)
  exact ⟨h1, cAg_LS h (Or.inl rfl) (Or.inr (Or.inl rfl)) S h2, fun r hr => ⟨(h _ (S r hr)).1 (h3 r hr).1, by rw [(h _ (S r hr)).2.2]; exact (h3 r hr).2⟩⟩
theorem cW_frame {dd : kDD} {ks ks2 : List Nat} {ad ad2 : Nat → Nat} {E E2 : Nat → va_E} {M : mS} {nW : Nat} {rl : Nat → Nat} (h : cAg sW ks ad E ks2 ad2 E2) (hW : cW dd ks ad E M nW rl) : cW dd ks2 ad2 E2 M nW rl := by
  obtain ⟨h1, h2, h3⟩ := hW
  have S : ∀ r, r < nW → sW (224 + r) := fun r hr => Or.inr (Or.inr ⟨by omega, by omega⟩)
  exact ⟨h1, cAg_LS h (Or.inl rfl) (Or.inr (Or.inl rfl)) S h2, fun r hr => ⟨(h _ (S r hr)).1 (h3 r hr).1, by rw [(h _ (S r hr)).2.2]; exact (h3 r hr).2⟩⟩
theorem cV_frame {dd : kDD} {ks ks2 : List Nat} {ad ad2 : Nat → Nat} {E E2 : Nat → va_E} {M : mS} {nV : Nat} (h : cAg sV ks ad E ks2 ad2 E2) (hV : cV dd ks ad E M nV) : cV dd ks2 ad2 E2 M nV := by
  obtain ⟨h1, h2, h3⟩ := hV
  have S : ∀ r, r < 12 → sV (272 + r) := fun r hr => Or.inr (Or.inr ⟨by omega, by omega⟩)
  refine ⟨h1, cAg_LS h (Or.inl rfl) (Or.inr (Or.inl rfl)) (fun r hr => S r (by omega)) h2, fun v hv => ?_⟩
  obtain ⟨a1, a2, a4, a5, f1, f2, a6, a7, a8⟩ := h3 v hv
  have S4 : sV (276 + v) := Or.inr (Or.inr ⟨by omega, by omega⟩)
  have S8 : sV (280 + v) := Or.inr (Or.inr ⟨by omega, by omega⟩)
  exact ⟨(h _ (S v (by omega))).1 a1, by rw [(h _ (S v (by omega))).2.2, (h _ S4).2.1, (h _ S8).2.1]; exact a2, (h _ S4).1 a4, (h _ S8).1 a5, f1, f2, by rw [(h _ S4).2.2]; exact a6, by rw [(h _ S8).2.2]; exact a7, a8⟩
theorem cM_frame {dd : kDD} {ks ks2 : List Nat} {ad ad2 : Nat → Nat} {E E2 : Nat → va_E} {M : mS} {nM : Nat} (h : cAg sM ks ad E ks2 ad2 E2) (hM : cM dd ks ad E M nM) : cM dd ks2 ad2 E2 M nM := by
  obtain ⟨h1, h2, h3⟩ := hM
  have S : ∀ r, r < nM → sM (288 + r) := fun r hr => Or.inr (Or.inr ⟨by omega, by omega⟩)
  exact ⟨h1, cAg_LS h (Or.inl rfl) (Or.inr (Or.inl rfl)) S h2, fun r hr => ⟨(h _ (S r hr)).1 (h3 r hr).1, by rw [(h _ (S r hr)).2.2]; exact (h3 r hr).2⟩⟩
theorem cO_frame {dd : kDD} {ks ks2 : List Nat} {ad ad2 : Nat → Nat} {E E2 : Nat → va_E} {on : Int32} (h : ∀ j, (j ≤ 9 ∨ (17 ≤ j ∧ j ≤ 48)) → (j ∈ ks → j ∈ ks2) ∧ ad2 j = ad j) (hE : E2 0 = E 0 ∧ E2 1 = E 1 ∧ E2 2 = E 2 ∧ E2 20 = E 20 ∧ E2 21 = E 21) (hO : cO dd ks ad E on) : cO dd ks2 ad2 E2 on := by
  obtain ⟨⟨a0, b0⟩, ⟨a1, b1⟩, ⟨a2, b2⟩, a3, f20, f21, c1, c2, c3⟩ := hO
  obtain ⟨e0, e1, e2, e3, e4⟩ := hE
  have g : ∀ j, (j ≤ 9 ∨ (17 ≤ j ∧ j ≤ 48)) → ad2 j = ad j := fun j hj => (h j hj).2
  refine ⟨⟨(h 0 (by omega)).1 a0, by rw [e0, g 1 (by omega), g 2 (by omega)]; exact b0⟩, ⟨(h 1 (by omega)).1 a1, ?_⟩, ⟨(h 2 (by omega)).1 a2, ?_⟩, fun k h1 h2 => (h k (by omega)).1 (a3 k h1 h2), f20, f21, by rw [e3]; exact c1, by rw [e4]; exact c2, fun i hi => ?_⟩
  · rw [e1, g 3 (by omega), g 4 (by omega), g 5 (by omega), g 6 (by omega), g 7 (by omega), g 8 (by omega), g 9 (by omega)]; exact b1
  · rw [e2, g 1 (by omega), g 17 (by omega), g 18 (by omega), g 19 (by omega), g 20 (by omega), g 21 (by omega), g 22 (by omega), g 23 (by omega), g 24 (by omega)]; exact b2
  · rw [g (25 + i) (by omega), g (37 + i) (by omega)]; exact c3 i hi
theorem cE_upO {dd : kDD} {E : Nat → va_E} {e : eS} {k : Nat} (h : ¬ (17 ≤ k ∧ k ≤ 19) ∧ ¬ (22 ≤ k ∧ k ≤ 48)) (x : va_E) : ∀ j, va_up (cE dd E e) k x j = cE dd (va_up E k x) e j := by
  intro j
  by_cases c : j = k
  · subst c; rw [va_up_self, cE_ne h, va_up_self]
  · rw [va_up_ne _ _ c]
    unfold cE
    rw [va_up_ne _ _ c]
/-- E without what the estimate's rows hold -/
theorem cE_of {dd : kDD} {E F : Nat → va_E} {e : eS} (h : ∀ j, (17 ≤ j ∧ j ≤ 19) ∨ (22 ≤ j ∧ j ≤ 48) → F j = cE dd E e j) : ∀ j, F j = cE dd F e j := by
  intro j
  by_cases c : (17 ≤ j ∧ j ≤ 19) ∨ (22 ≤ j ∧ j ≤ 48)
  · rw [h j c]
    unfold cE
    rcases c with c | c
    · rw [if_pos c, if_pos c]
    · rw [if_neg (by omega), if_pos c, if_neg (by omega), if_pos c]
  · exact (cE_ne ⟨fun q => c (Or.inl q), fun q => c (Or.inr q)⟩).symm
/-- the class's state is M, with these numbers -/
def cAll (dd : kDD) (M : mS) (nR nC nt nL nW nV nM : Nat) (cn nm mn me li rl : Nat → Nat) (on : Int32) (z : kT) : Prop := ∃ (F : Nat → va_E) (e : eS), z.2.2 = cE dd F e ∧ cO dd z.1 z.2.1 F on ∧ cR dd z.1 z.2.1 F M nR ∧ cC dd z.1 z.2.1 F M nC mn me ∧ cT dd z.1 z.2.1 F M nt cn nm ∧ cL dd z.1 z.2.1 F M nL nW li ∧ cW dd z.1 z.2.1 F M nW rl ∧ cV dd z.1 z.2.1 F M nV ∧ cM dd z.1 z.2.1 F M nM

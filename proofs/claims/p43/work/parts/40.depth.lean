/-! depths: rounds, and passes in place -/
def nmx (so : Nat → Int32) (g : Nat → Nat) (b : Nat) : Nat → Nat
  | 0 => 0
  | n + 1 => if so (b + n) = 0 then max (nmx so g b n) (g (b + n)) else nmx so g b n
def nJ (so : Nat → Int32) (cn nx : Nat → Nat) : Nat → Nat → Nat
  | 0, _ => 1
  | t + 1, i => 1 + nmx so (fun k => nJ so cn nx t (nx k)) (4 * i) (cn i)
theorem nmx_le {so : Nat → Int32} {g : Nat → Nat} {b B : Nat} : ∀ n, (∀ k, k < n → so (b + k) = 0 → g (b + k) ≤ B) → nmx so g b n ≤ B := by
  intro n
  induction n with
  | zero => intro _; exact Nat.zero_le _
  | succ n ih =>
    intro h
    rw [nmx]
    have := ih (fun k hk => h k (by omega))
    by_cases c : so (b + n) = 0
    · rw [if_pos c]; have := h n (by omega) c; omega
    · rw [if_neg c]; exact this
theorem nmx_ge {so : Nat → Int32} {g : Nat → Nat} {b : Nat} : ∀ n k, k < n → so (b + k) = 0 → g (b + k) ≤ nmx so g b n := by
  intro n
  induction n with
  | zero => intro k hk; omega
  | succ n ih =>
    intro k hk hs
    rw [nmx]
    by_cases c : k = n
    · subst c; rw [if_pos hs]; omega
    · have := ih k (by omega) hs
      split <;> omega
theorem nmx_at {so : Nat → Int32} {g : Nat → Nat} {b : Nat} : ∀ n, nmx so g b n = 0 ∨ ∃ k, k < n ∧ so (b + k) = 0 ∧ nmx so g b n = g (b + k) := by
  intro n
  induction n with
  | zero => exact Or.inl rfl
  | succ n ih =>
    rw [nmx]
    by_cases c : so (b + n) = 0
    · rw [if_pos c]
      by_cases c2 : nmx so g b n ≤ g (b + n)
      · exact Or.inr ⟨n, by omega, c, by omega⟩
      · rcases ih with h | ⟨k, h1, h2, h3⟩
        · omega
        · exact Or.inr ⟨k, by omega, h2, by omega⟩
    · rw [if_neg c]
      rcases ih with h | ⟨k, h1, h2, h3⟩
      · exact Or.inl h
      · exact Or.inr ⟨k, by omega, h2, h3⟩
theorem nJ_b {so : Nat → Int32} {cn nx : Nat → Nat} : ∀ t i, 1 ≤ nJ so cn nx t i ∧ nJ so cn nx t i ≤ t + 1 := by
  intro t
  induction t with
  | zero => intro i; exact ⟨Nat.le_refl _, Nat.le_refl _⟩
  | succ t ih =>
    intro i
    have : nmx so (fun k => nJ so cn nx t (nx k)) (4 * i) (cn i) ≤ t + 1 := nmx_le _ (fun k _ _ => (ih _).2)
    rw [nJ]
    omega
theorem nJ_m {so : Nat → Int32} {cn nx : Nat → Nat} : ∀ t i, nJ so cn nx t i ≤ nJ so cn nx (t + 1) i := by
  intro t
  induction t with
  | zero => intro i; exact (nJ_b 1 i).1
  | succ t ih =>
    intro i
    have : nmx so (fun k => nJ so cn nx t (nx k)) (4 * i) (cn i) ≤ nmx so (fun k => nJ so cn nx (t + 1) (nx k)) (4 * i) (cn i) := nmx_le _ (fun k hk hs => Nat.le_trans (ih _) (nmx_ge (g := fun k => nJ so cn nx (t + 1) (nx k)) _ k hk hs))
    show 1 + _ ≤ 1 + _
    omega
theorem nJ_s {so : Nat → Int32} {cn nx : Nat → Nat} : ∀ t i, nJ so cn nx (t + 1) i ≠ nJ so cn nx t i → nJ so cn nx (t + 1) i = t + 2 := by
  intro t
  induction t with
  | zero =>
    intro i h
    have h1 : 1 ≤ nJ so cn nx (0 + 1) i ∧ nJ so cn nx (0 + 1) i ≤ 2 := nJ_b (so := so) (cn := cn) (nx := nx) 1 i
    have h0 : nJ so cn nx 0 i = 1 := rfl
    omega
  | succ t ih =>
    intro i h
    have hm := nJ_m (so := so) (cn := cn) (nx := nx) (t + 1) i
    have e1 : nJ so cn nx (t + 1 + 1) i = 1 + nmx so (fun k => nJ so cn nx (t + 1) (nx k)) (4 * i) (cn i) := rfl
    have e0 : nJ so cn nx (t + 1) i = 1 + nmx so (fun k => nJ so cn nx t (nx k)) (4 * i) (cn i) := rfl
    rcases nmx_at (so := so) (g := fun k => nJ so cn nx (t + 1) (nx k)) (b := 4 * i) (cn i) with q | ⟨k, q1, q2, q3⟩
    · omega
    · have q4 := nmx_ge (so := so) (g := fun k => nJ so cn nx t (nx k)) (b := 4 * i) (cn i) k q1 q2
      have q5 := ih (nx (4 * i + k)) (by
        have q3' : nmx so (fun k => nJ so cn nx (t + 1) (nx k)) (4 * i) (cn i) = nJ so cn nx (t + 1) (nx (4 * i + k)) := q3
        have q4' : nJ so cn nx t (nx (4 * i + k)) ≤ nmx so (fun k => nJ so cn nx t (nx k)) (4 * i) (cn i) := q4
        omega)
      have q3' : nmx so (fun k => nJ so cn nx (t + 1) (nx k)) (4 * i) (cn i) = nJ so cn nx (t + 1) (nx (4 * i + k)) := q3
      omega
/-- the depths: 1 where there is no part, else one more than the deepest part's -/
def kFx (so : Nat → Int32) (cn nx dep : Nat → Nat) (nt : Nat) : Prop := ∀ i, i < nt → (1 ≤ dep i ∧ dep i ≤ 3) ∧ (∀ k, k < cn i → so (4 * i + k) = 0 → nx (4 * i + k) < nt ∧ dep (nx (4 * i + k)) < dep i) ∧ (dep i = 1 ∨ ∃ k, k < cn i ∧ so (4 * i + k) = 0 ∧ dep i = 1 + dep (nx (4 * i + k)))
theorem kFx_dp {so : Nat → Int32} {cn nx dep : Nat → Nat} {nt : Nat} (h : kFx so cn nx dep nt) : kDp so cn nx dep nt := fun i hi => ⟨(h i hi).1, (h i hi).2.1⟩
theorem kFx_of {so : Nat → Int32} {cn nx : Nat → Nat} {nt : Nat} (hn : ∀ i, i < nt → ∀ k, k < cn i → so (4 * i + k) = 0 → nx (4 * i + k) < nt) (h : ∀ i, i < nt → nJ so cn nx 3 i ≤ 3) : kFx so cn nx (nJ so cn nx 2) nt := by
  have e : ∀ i, i < nt → nJ so cn nx 2 i = nJ so cn nx 3 i := by
    intro i hi
    by_cases c : nJ so cn nx 3 i = nJ so cn nx 2 i
    · exact c.symm
    · have q : nJ so cn nx 3 i = 4 := nJ_s 2 i c
      have := h i hi; omega
  intro i hi
  have e3 : nJ so cn nx 3 i = 1 + nmx so (fun k => nJ so cn nx 2 (nx k)) (4 * i) (cn i) := rfl
  refine ⟨⟨(nJ_b 2 i).1, by have := (nJ_b (so := so) (cn := cn) (nx := nx) 2 i).2; omega⟩, fun k hk hs => ⟨hn i hi k hk hs, ?_⟩, ?_⟩
  · have := nmx_ge (so := so) (g := fun k => nJ so cn nx 2 (nx k)) (b := 4 * i) (cn i) k hk hs
    have q : nJ so cn nx 2 (nx (4 * i + k)) ≤ nmx so (fun k => nJ so cn nx 2 (nx k)) (4 * i) (cn i) := this
    rw [e i hi]
    omega
  · rcases nmx_at (so := so) (g := fun k => nJ so cn nx 2 (nx k)) (b := 4 * i) (cn i) with q | ⟨k, q1, q2, q3⟩
    · left; rw [e i hi]; omega
    · refine Or.inr ⟨k, q1, q2, ?_⟩
      have q3' : nmx so (fun k => nJ so cn nx 2 (nx k)) (4 * i) (cn i) = nJ so cn nx 2 (nx (4 * i + k)) := q3
      rw [e i hi]; omega
theorem kFx_J {so : Nat → Int32} {cn nx dep : Nat → Nat} {nt : Nat} (h : kFx so cn nx dep nt) : ∀ t i, i < nt → nJ so cn nx t i ≤ dep i ∧ (dep i ≤ t + 1 → nJ so cn nx t i = dep i) := by
  intro t
  induction t with
  | zero =>
    intro i hi
    have := (h i hi).1
    have e : nJ so cn nx 0 i = 1 := rfl
    omega
  | succ t ih =>
    intro i hi
    obtain ⟨h1, h2, h3⟩ := h i hi
    have e : nJ so cn nx (t + 1) i = 1 + nmx so (fun k => nJ so cn nx t (nx k)) (4 * i) (cn i) := rfl
    have up : nmx so (fun k => nJ so cn nx t (nx k)) (4 * i) (cn i) ≤ dep i - 1 := nmx_le _ (fun k hk hs => by have q := h2 k hk hs; have := (ih _ q.1).1; show nJ so cn nx t (nx (4 * i + k)) ≤ _; omega)
    refine ⟨by omega, fun hd => ?_⟩
    rcases h3 with h3 | ⟨k, k1, k2, k3⟩
    · omega
    · have q := h2 k k1 k2
      have q1 := (ih _ q.1).2 (by omega)
      have q2 := nmx_ge (so := so) (g := fun k => nJ so cn nx t (nx k)) (b := 4 * i) (cn i) k k1 k2
      have q3 : nJ so cn nx t (nx (4 * i + k)) ≤ nmx so (fun k => nJ so cn nx t (nx k)) (4 * i) (cn i) := q2
      omega
theorem cmx_n {so f : Nat → Int32} {g : Nat → Nat} {b B : Nat} (hB : B < 1000) : ∀ n, (∀ k, k < n → so (b + k) = 0 → f (b + k) = nI (g (b + k)) ∧ g (b + k) ≤ B) → cmx so f b n = nI (nmx so g b n) ∧ nmx so g b n ≤ B := by
  intro n
  induction n with
  | zero => intro _; exact ⟨rfl, Nat.zero_le _⟩
  | succ n ih =>
    intro h
    obtain ⟨i1, i2⟩ := ih (fun k hk => h k (by omega))
    rw [cmx, nmx]
    by_cases c : so (b + n) = 0
    · obtain ⟨h1, h2⟩ := h n (by omega) c
      rw [if_pos c, if_pos c, i1, h1]
      refine ⟨?_, by omega⟩
      by_cases c2 : nI (nmx so g b n) < nI (g (b + n))
      · rw [if_pos c2]; have := (nI_ltI (by omega) (by omega)).mp c2; congr 1; omega
      · rw [if_neg c2]; have : ¬ nmx so g b n < g (b + n) := fun q => c2 ((nI_ltI (by omega) (by omega)).mpr q); congr 1; omega
    · rw [if_neg c, if_neg c]; exact ⟨i1, i2⟩
/-- passes in place lie at or above the rounds, and at or below the depths where there are such -/
theorem cpt_n {so : Nat → Int32} {cn nx : Nat → Nat} {nt : Nat} {D : Nat → Int32} (hnt : nt ≤ 12) (hn : ∀ i, i < nt → ∀ k, k < cn i → so (4 * i + k) = 0 → nx (4 * i + k) < nt) (hD : ∀ j, j < nt → D j = 1) (P : (Nat → Nat) → Prop) (hP : ∀ dep, P dep → kFx so cn nx dep nt) : ∀ t, t ≤ 3 → ∃ G : Nat → Nat, ∀ i, i < nt → cpt so cn nx nt D t i = nI (G i) ∧ nJ so cn nx t i ≤ G i ∧ G i ≤ 1 + 12 * t ∧ ∀ dep, P dep → G i ≤ dep i := by
  intro t
  induction t with
  | zero => intro _; exact ⟨fun _ => 1, fun i hi => ⟨hD i hi, Nat.le_refl _, Nat.le_refl _, fun dep hd => (hP dep hd i hi).1.1⟩⟩
  | succ t ih =>
    intro ht
    obtain ⟨G, hG⟩ := ih (by omega)
    have key : ∀ m, m ≤ nt → ∃ G2 : Nat → Nat, ∀ i, i < nt → cps so cn nx (cpt so cn nx nt D t) m i = nI (G2 i) ∧ (if i < m then nJ so cn nx (t + 1) i else nJ so cn nx t i) ≤ G2 i ∧ G2 i ≤ 1 + 12 * t + m ∧ ∀ dep, P dep → G2 i ≤ dep i := by
      intro m
      induction m with
      | zero => intro _; exact ⟨G, fun i hi => ⟨(hG i hi).1, by rw [if_neg (by omega)]; exact (hG i hi).2.1, by have := (hG i hi).2.2.1; omega, (hG i hi).2.2.2⟩⟩
      | succ m ihm =>
        intro hm
        obtain ⟨G2, h2⟩ := ihm (by omega)
        obtain ⟨c1, c2⟩ := cmx_n (so := so) (f := fun k => cps so cn nx (cpt so cn nx nt D t) m (nx k)) (g := fun k => G2 (nx k)) (b := 4 * m) (B := 1 + 12 * t + m) (by omega) (cn m) (fun k hk hs => by have q := hn m (by omega) k hk hs; exact ⟨(h2 _ q).1, (h2 _ q).2.2.1⟩)
        have e : cps so cn nx (cpt so cn nx nt D t) (m + 1) = va_up (cps so cn nx (cpt so cn nx nt D t) m) m (nI (1 + nmx so (fun k => G2 (nx k)) (4 * m) (cn m))) := by
          rw [cps, c1, ← nI_add 1]; rfl
        refine ⟨va_up G2 m (1 + nmx so (fun k => G2 (nx k)) (4 * m) (cn m)), fun i hi => ?_⟩
        rw [e]
        by_cases c : i = m
        · subst c
          rw [va_up_self, va_up_self]
          refine ⟨rfl, ?_, by omega, fun dep hd => ?_⟩
          · rw [if_pos (by omega)]
            show 1 + _ ≤ 1 + _
            have : nmx so (fun k => nJ so cn nx t (nx k)) (4 * i) (cn i) ≤ nmx so (fun k => G2 (nx k)) (4 * i) (cn i) := nmx_le _ (fun k hk hs => by
              have q := hn i hi k hk hs
              have q2 := (h2 _ q).2.1
              have q3 := nmx_ge (so := so) (g := fun k => G2 (nx k)) (b := 4 * i) (cn i) k hk hs
              have q3' : G2 (nx (4 * i + k)) ≤ nmx so (fun k => G2 (nx k)) (4 * i) (cn i) := q3
              have q4 := nJ_m (so := so) (cn := cn) (nx := nx) t (nx (4 * i + k))
              show nJ so cn nx t (nx (4 * i + k)) ≤ _
              split at q2 <;> omega)
            omega
          · have : nmx so (fun k => G2 (nx k)) (4 * i) (cn i) ≤ dep i - 1 := nmx_le _ (fun k hk hs => by
              have q := (hP dep hd i hi).2.1 k hk hs
              have := (h2 _ q.1).2.2.2 dep hd
              show G2 (nx (4 * i + k)) ≤ _
              omega)
            have := (hP dep hd i hi).1.1
            omega
        · rw [va_up_ne _ _ c, va_up_ne _ _ c]
          obtain ⟨q1, q2, q3, q4⟩ := h2 i hi
          refine ⟨q1, ?_, by omega, q4⟩
          by_cases c3 : i < m
          · rw [if_pos c3] at q2; rw [if_pos (by omega)]; exact q2
          · rw [if_neg c3] at q2; rw [if_neg (by omega)]; exact q2
    obtain ⟨G2, h2⟩ := key nt (Nat.le_refl _)
    refine ⟨G2, fun i hi => ?_⟩
    obtain ⟨q1, q2, q3, q4⟩ := h2 i hi
    rw [if_pos hi] at q2
    exact ⟨q1, q2, by omega, q4⟩
/-- where there are depths, the passes find them -/
theorem cpt_dep {so : Nat → Int32} {cn nx dep : Nat → Nat} {nt : Nat} {D : Nat → Int32} (hnt : nt ≤ 12) (h : kFx so cn nx dep nt) (hD : ∀ j, j < nt → D j = 1) : ∀ i, i < nt → cpt so cn nx nt D 3 i = nI (dep i) := by
  intro i hi
  obtain ⟨G, hG⟩ := cpt_n hnt (fun i hi k hk hs => ((h i hi).2.1 k hk hs).1) hD (fun d => d = dep) (fun d hd => hd ▸ h) 3 (Nat.le_refl _)
  obtain ⟨q1, q2, q3, q4⟩ := hG i hi
  have j1 := (kFx_J h 3 i hi).2 (by have := (h i hi).1; omega)
  rw [q1, show G i = dep i by have := q4 dep rfl; omega]
/-- where the passes stay at 3 or below, there are depths -/
theorem cpt_ok {so : Nat → Int32} {cn nx : Nat → Nat} {nt : Nat} {D : Nat → Int32} (hnt : nt ≤ 12) (hn : ∀ i, i < nt → ∀ k, k < cn i → so (4 * i + k) = 0 → nx (4 * i + k) < nt) (hD : ∀ j, j < nt → D j = 1) (h : ∀ j, j < nt → cpt so cn nx nt D 3 j ≤ 3) : kFx so cn nx (nJ so cn nx 2) nt := by
  obtain ⟨G, hG⟩ := cpt_n hnt hn hD (fun _ => False) (fun d hd => hd.elim) 3 (Nat.le_refl _)
  refine kFx_of hn (fun i hi => ?_)
  obtain ⟨q1, q2, q3, -⟩ := hG i hi
  have := h i hi
  rw [q1] at this
  have := (nI_leI (a := G i) (b := 3) (by omega) (by omega)).mp this
  omega
theorem kFx_le {so : Nat → Int32} {cn nx dep : Nat → Nat} {nt : Nat} {D : Nat → Int32} (hnt : nt ≤ 12) (h : kFx so cn nx dep nt) (hD : ∀ j, j < nt → D j = 1) : ∀ j, j < nt → cpt so cn nx nt D 3 j ≤ 3 := by
  intro j hj
  rw [cpt_dep hnt h hD j hj]
  exact (nI_leI (a := dep j) (b := 3) (by have := (h j hj).1; omega) (by omega)).mpr (h j hj).1.2

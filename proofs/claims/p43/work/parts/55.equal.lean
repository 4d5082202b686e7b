/-! PURE EQUALITIES: what the class says is what the reference says -/
theorem cou_s {f : Nat → Int64} {pr : Nat → Int32} {n : Nat} : cou f pr (n + 1) = cou f pr n + f n * (pr n).toInt64 := rfl
theorem cou_0 {pr : Nat → Int32} : ∀ n, cou (fun _ => 0) pr n = 0 := by
  intro n
  induction n with
  | zero => rfl
  | succ n ih => rw [cou_s, ih]; grind
theorem cou_add {f g : Nat → Int64} {pr : Nat → Int32} : ∀ n, cou (fun r => f r + g r) pr n = cou f pr n + cou g pr n := by
  intro n
  induction n with
  | zero => show (0 : Int64) = 0 + 0; grind
  | succ n ih => rw [cou_s, cou_s, cou_s, ih]; grind
theorem cou_mul {f : Nat → Int64} {m : Int64} {pr : Nat → Int32} : ∀ n, cou (fun r => m * f r) pr n = m * cou f pr n := by
  intro n
  induction n with
  | zero => show (0 : Int64) = m * 0; grind
  | succ n ih => rw [cou_s, cou_s, ih]; grind
theorem cou_cu1 {f : Nat → Int64} {pr : Nat → Int32} {j : Nat} {x : Int64} {n : Nat} (hj : j < n) : cou (cu1 f j x) pr n = cou f pr n + x * (pr j).toInt64 := by
  have h := msumJ_upd (f := f) (g := fun r => (pr r).toInt64) (p := j) (x := f j + x) n
  show msumJ (fun i => va_up f j (f j + x) i * (pr i).toInt64) 0 n = msumJ (fun i => f i * (pr i).toInt64) 0 n + _
  rw [h, if_pos hj]
  grind
theorem mcrew_s0 {mu : Int32} {nu : Nat → Int32} {f : Nat → Int64} {b : Nat} {s0 : Int64} : ∀ n, mcrew mu nu f b s0 n = s0 + mcrew mu nu f b 0 n := by
  intro n
  induction n with
  | zero => show s0 = s0 + 0; grind
  | succ n ih => rw [mcrew, mcrew, ih]; grind
theorem ccr_G {mu : Int32} {nu : Nat → Int32} {mr me : Nat → Nat} {b N : Nat} {f : Nat → Int64} {G : (Nat → Int64) → Int64} {w : Nat → Int64} (hG : ∀ f j x, j < N → G (cu1 f j x) = G f + x * w j) : ∀ n, (∀ q, q < n → mr (me (b + q)) < N) → G (ccr mu nu mr me b f n) = mcrew mu nu (fun x => w (mr (me x))) b (G f) n := by
  intro n
  induction n with
  | zero => intro _; rfl
  | succ n ih => intro h; rw [ccr, hG _ _ _ (h n (by omega)), ih (fun q hq => h q (by omega)), mcrew]
/-- a linear look at what an item needs by its own -/
theorem own_G {so mu nu : Nat → Int32} {nm mn mr me : Nat → Nat} {b N : Nat} {G : (Nat → Int64) → Int64} {w : Nat → Int64} (hG : ∀ f j x, j < N → G (cu1 f j x) = G f + x * w j) (h0 : G (fun _ => 0) = 0) : ∀ n, (∀ k, k < n → so (b + k) = 1 → mr (nm (b + k)) < N) → (∀ k, k < n → so (b + k) = 2 → ∀ q, q < mn (nm (b + k)) → mr (me (3 * nm (b + k) + q)) < N) →
    G (cow so mu nu nm mn mr me b (fun _ => 0) n) = mown so mu nu nm mn (fun x => w (mr x)) (fun x => w (mr (me x))) b n := by
  intro n
  induction n with
  | zero => intro _ _; exact h0
  | succ n ih =>
    intro h1 h2
    have e := ih (fun k hk => h1 k (by omega)) (fun k hk => h2 k (by omega))
    rw [cow, mown, ← e]
    unfold cad mone
    by_cases c1 : so (b + n) = 1
    · have c2 : ¬ so (b + n) = 2 := by rw [c1]; decide
      rw [if_pos c1, if_neg c2, if_pos c1, hG _ _ _ (h1 n (by omega) c1)]
    · by_cases c2 : so (b + n) = 2
      · rw [if_neg c1, if_pos c2, if_pos c2, if_neg c1, ccr_G hG _ (h2 n (by omega) c2)]
      · rw [if_neg c1, if_neg c2, if_neg c2, if_neg c1]
theorem ind_cu1 {f : Nat → Int64} {j r : Nat} {x : Int64} {pr : Nat → Int32} (hj : j < 12) (hr : r < 12) : cu1 f j x r = f r + x * mun pr j (nI r) := by
  unfold cu1 mun
  have hm : ¬ nI r = -1 := (by decide : ∀ r : Fin 12, ¬ nI r.1 = -1) ⟨r, hr⟩
  rw [if_neg hm]
  by_cases c : r = j
  · subst c; rw [va_up_self, if_pos rfl]; grind
  · rw [va_up_ne _ _ c, if_neg (fun q => c ((nI_eq (by omega) (by omega)).mp q).symm)]; grind
theorem mun_m1 {pr : Nat → Int32} {j : Nat} : mun pr j (-1) = (pr j).toInt64 := if_pos rfl
/-- an item's own need of resource r -/
theorem own_r {so mu nu pr tr : Nat → Int32} {cn nm mn mr me : Nat → Nat} {i r : Nat} (hr : r < 12) (h1 : ∀ k, k < cn i → so (4 * i + k) = 1 → mr (nm (4 * i + k)) < 12) (h2 : ∀ k, k < cn i → so (4 * i + k) = 2 → ∀ q, q < mn (nm (4 * i + k)) → mr (me (3 * nm (4 * i + k) + q)) < 12) :
    cow so mu nu nm mn mr me (4 * i) (fun _ => 0) (cn i) r = mdir so mu nu pr tr cn nm mn mr me (nI r) (-1) i := by
  unfold mdir
  rw [if_pos (Or.inl rfl)]
  exact own_G (G := fun f => f r) (w := fun j => mun pr j (nI r)) (fun f j x hj => ind_cu1 hj hr) rfl (cn i) h1 h2
/-- what it costs -/
theorem own_c {so mu nu pr tr : Nat → Int32} {cn nm mn mr me : Nat → Nat} {i nR : Nat} (h1 : ∀ k, k < cn i → so (4 * i + k) = 1 → mr (nm (4 * i + k)) < nR) (h2 : ∀ k, k < cn i → so (4 * i + k) = 2 → ∀ q, q < mn (nm (4 * i + k)) → mr (me (3 * nm (4 * i + k) + q)) < nR) :
    cou (cow so mu nu nm mn mr me (4 * i) (fun _ => 0) (cn i)) pr nR = mdir so mu nu pr tr cn nm mn mr me (-1) (-1) i := by
  unfold mdir
  rw [if_pos (Or.inl rfl)]
  exact own_G (G := fun f => cou f pr nR) (w := fun j => mun pr j (-1)) (fun f j x hj => by rw [mun_m1]; exact cou_cu1 hj) (cou_0 nR) (cn i) h1 h2
theorem mdir_td {so mu nu pr tr : Nat → Int32} {cn nm mn mr me : Nat → Nat} {td : Int32} {i : Nat} (htd : ¬ td = -1) : mdir so mu nu pr tr cn nm mn mr me (-1) td i = if tr i = td then mdir so mu nu pr tr cn nm mn mr me (-1) (-1) i else 0 := by
  unfold mdir
  by_cases c : tr i = td
  · rw [if_pos (Or.inr c), if_pos c, if_pos (Or.inl rfl)]
  · rw [if_neg (fun q => q.elim htd c), if_neg c]
/-- costs go along with needs -/
theorem mstep_cou {so mu : Nat → Int32} {nx : Nat → Nat} {D : Nat → Nat → Int64} {s : Nat → Int64} {pr : Nat → Int32} {b N : Nat} : ∀ n, cou (fun r => mstep so mu nx (fun j => D j r) (s r) b n) pr N = mstep so mu nx (fun j => cou (D j) pr N) (cou s pr N) b n := by
  intro n
  induction n with
  | zero => rfl
  | succ n ih =>
    show cou (fun r => mstep so mu nx (fun j => D j r) (s r) b n + (if so (b + n) = 0 then (mu (b + n)).toInt64 * D (nx (b + n)) r else 0)) pr N = mstep so mu nx (fun j => cou (D j) pr N) (cou s pr N) b n + (if so (b + n) = 0 then (mu (b + n)).toInt64 * cou (D (nx (b + n))) pr N else 0)
    rw [cou_add, ih]
    by_cases c : so (b + n) = 0
    · rw [if_pos c, show (fun r => if so (b + n) = 0 then (mu (b + n)).toInt64 * D (nx (b + n)) r else 0) = (fun r => (mu (b + n)).toInt64 * D (nx (b + n)) r) from funext fun r => if_pos c, cou_mul]
    · rw [if_neg c, show (fun r => if so (b + n) = 0 then (mu (b + n)).toInt64 * D (nx (b + n)) r else 0) = (fun _ => 0) from funext fun r => if_neg c, cou_0]
theorem mN_cou {so mu : Nat → Int32} {cn nx : Nat → Nat} {D : Nat → Nat → Int64} {pr : Nat → Int32} {N : Nat} : ∀ t i, cou (fun r => mN so mu cn nx (fun j => D j r) t i) pr N = mN so mu cn nx (fun j => cou (D j) pr N) t i := by
  intro t
  induction t with
  | zero => intro i; rfl
  | succ t ih =>
    intro i
    show cou (fun r => mstep so mu nx (fun j => mN so mu cn nx (fun j => D j r) t j) (D i r) (4 * i) (cn i)) pr N = mstep so mu nx (mN so mu cn nx (fun j => cou (D j) pr N) t) (cou (D i) pr N) (4 * i) (cn i)
    rw [mstep_cou (D := fun j r => mN so mu cn nx (fun j => D j r) t j), show (fun j => cou (fun r => mN so mu cn nx (fun j => D j r) t j) pr N) = mN so mu cn nx (fun j => cou (D j) pr N) t from funext fun j => ih j]
theorem msumL_J {q : Nat → Int32} {f : Nat → Int64} : ∀ n, msumL q f n = msumJ (fun l => (q l).toInt64 * f l) 0 n := by
  intro n
  induction n with
  | zero => rfl
  | succ n ih => rw [msumL, msumJ, ih]
theorem msumL_congr {q : Nat → Int32} {f g : Nat → Int64} : ∀ n, (∀ l, l < n → f l = g l) → msumL q f n = msumL q g n := by
  intro n
  induction n with
  | zero => intro _; rfl
  | succ n ih => intro h; rw [msumL, msumL, ih (fun l hl => h l (by omega)), h n (by omega)]
theorem cou_sum {g : Nat → Nat → Int64} {pr : Nat → Int32} {N : Nat} : ∀ n, cou (fun r => msumJ (fun l => g l r) 0 n) pr N = msumJ (fun l => cou (g l) pr N) 0 n := by
  intro n
  induction n with
  | zero => exact cou_0 N
  | succ n ih => rw [msumJ, ← ih]; exact cou_add N
theorem mkd_sum {ki pr : Nat → Int32} {am : Nat → Int64} : ∀ n, (∀ r, r < n → ki r = 0 ∨ ki r = 1 ∨ ki r = 2) → mkd ki am pr 0 n + mkd ki am pr 1 n + mkd ki am pr 2 n = cou am pr n := by
  intro n
  induction n with
  | zero => intro _; show (0 : Int64) + 0 + 0 = 0; grind
  | succ n ih =>
    intro h
    have e := ih (fun r hr => h r (by omega))
    rw [mkd, mkd, mkd, cou_s, ← e]
    rcases h n (by omega) with c | c | c <;> rw [c]
    · rw [if_pos rfl, if_neg (by decide), if_neg (by decide)]; grind
    · rw [if_neg (by decide), if_pos rfl, if_neg (by decide)]; grind
    · rw [if_neg (by decide), if_neg (by decide), if_pos rfl]; grind
theorem ctr_J {tr : Nat → Int32} {f : Nat → Int64} {t : Int32} : ∀ n, ctr tr f t n = msumJ (fun i => if tr i = t then f i else 0) 0 n := by
  intro n
  induction n with
  | zero => rfl
  | succ n ih => rw [ctr, msumJ, ih]
theorem ctr_sum {tr : Nat → Int32} {f : Nat → Int64} : ∀ n, (∀ i, i < n → 0 ≤ tr i ∧ tr i ≤ 5) → msumJ (fun k => ctr tr f (nI k) n) 0 6 = msumJ f 0 n := by
  intro n
  induction n with
  | zero => intro _; show (0 : Int64) + 0 + 0 + 0 + 0 + 0 + 0 = 0; grind
  | succ n ih =>
    intro h
    have e := ih (fun i hi => h i (by omega))
    obtain ⟨m, hm, et⟩ : ∃ m, m < 6 ∧ tr n = nI m := by
      obtain ⟨a, b⟩ := h n (by omega)
      obtain ⟨m, hm, em⟩ := nI_of (Int32.not_lt.mpr a)
      exact ⟨m, by rw [em] at b; have := (nI_leI (a := m) (b := 5) (by omega) (by omega)).mp b; omega, em⟩
    have s : ∀ k, ctr tr f (nI k) (n + 1) = ctr tr f (nI k) n + (if tr n = nI k then f n else 0) := fun k => rfl
    show msumJ (fun k => ctr tr f (nI k) (n + 1)) 0 6 = msumJ f 0 n + f n
    rw [← e]
    show 0 + ctr tr f (nI 0) (n + 1) + ctr tr f (nI 1) (n + 1) + ctr tr f (nI 2) (n + 1) + ctr tr f (nI 3) (n + 1) + ctr tr f (nI 4) (n + 1) + ctr tr f (nI 5) (n + 1) = 0 + ctr tr f (nI 0) n + ctr tr f (nI 1) n + ctr tr f (nI 2) n + ctr tr f (nI 3) n + ctr tr f (nI 4) n + ctr tr f (nI 5) n + f n
    rw [s, s, s, s, s, s, et]
    have h6 : m = 0 ∨ m = 1 ∨ m = 2 ∨ m = 3 ∨ m = 4 ∨ m = 5 := by omega
    rcases h6 with rfl | rfl | rfl | rfl | rfl | rfl
    · rw [if_pos rfl, if_neg (show ¬ nI 0 = nI 1 by decide), if_neg (show ¬ nI 0 = nI 2 by decide), if_neg (show ¬ nI 0 = nI 3 by decide), if_neg (show ¬ nI 0 = nI 4 by decide), if_neg (show ¬ nI 0 = nI 5 by decide)]; grind
    · rw [if_neg (show ¬ nI 1 = nI 0 by decide), if_pos rfl, if_neg (show ¬ nI 1 = nI 2 by decide), if_neg (show ¬ nI 1 = nI 3 by decide), if_neg (show ¬ nI 1 = nI 4 by decide), if_neg (show ¬ nI 1 = nI 5 by decide)]; grind
    · rw [if_neg (show ¬ nI 2 = nI 0 by decide), if_neg (show ¬ nI 2 = nI 1 by decide), if_pos rfl, if_neg (show ¬ nI 2 = nI 3 by decide), if_neg (show ¬ nI 2 = nI 4 by decide), if_neg (show ¬ nI 2 = nI 5 by decide)]; grind
    · rw [if_neg (show ¬ nI 3 = nI 0 by decide), if_neg (show ¬ nI 3 = nI 1 by decide), if_neg (show ¬ nI 3 = nI 2 by decide), if_pos rfl, if_neg (show ¬ nI 3 = nI 4 by decide), if_neg (show ¬ nI 3 = nI 5 by decide)]; grind
    · rw [if_neg (show ¬ nI 4 = nI 0 by decide), if_neg (show ¬ nI 4 = nI 1 by decide), if_neg (show ¬ nI 4 = nI 2 by decide), if_neg (show ¬ nI 4 = nI 3 by decide), if_pos rfl, if_neg (show ¬ nI 4 = nI 5 by decide)]; grind
    · rw [if_neg (show ¬ nI 5 = nI 0 by decide), if_neg (show ¬ nI 5 = nI 1 by decide), if_neg (show ¬ nI 5 = nI 2 by decide), if_neg (show ¬ nI 5 = nI 3 by decide), if_neg (show ¬ nI 5 = nI 4 by decide), if_pos rfl]; grind

/-- units in trees -/
theorem i_mul64 {a b : Int32} (ha : 0 ≤ a ∧ a ≤ 99) (hb : 0 ≤ b ∧ b ≤ 9) : (a * b).toInt64 = a.toInt64 * b.toInt64 := by
  obtain ⟨m, hm, rfl⟩ := nI_of (Int32.not_lt.mpr ha.1)
  obtain ⟨n, hn, rfl⟩ := nI_of (Int32.not_lt.mpr hb.1)
  have m1 := (nI_leI (a := m) (b := 99) (by omega) (by omega)).mp ha.2
  have n1 := (nI_leI (a := n) (b := 9) (by omega) (by omega)).mp hb.2
  exact (by decide +kernel : ∀ (m : Fin 100) (n : Fin 10), (nI m.1 * nI n.1).toInt64 = (nI m.1).toInt64 * (nI n.1).toInt64) ⟨m, by omega⟩ ⟨n, by omega⟩
theorem ucr_mcrew {mu : Int32} {nu pr : Nat → Int32} {mr me : Nat → Nat} {b r0 : Nat} (hmu : 0 ≤ mu ∧ mu ≤ 99) (hr : r0 < 12) : ∀ n, (∀ q, q < n → mr (me (b + q)) < 12 ∧ 0 ≤ nu (b + q) ∧ nu (b + q) ≤ 9) → mu.toInt64 * ucr mr me nu b r0 n = mcrew mu nu (fun x => mun pr (mr (me x)) (nI r0)) b 0 n := by
  intro n
  induction n with
  | zero => intro _; show mu.toInt64 * 0 = 0; grind
  | succ n ih =>
    intro h
    obtain ⟨a1, a2⟩ := h n (by omega)
    rw [ucr, mcrew, ← ih (fun q hq => h q (by omega)), i_mul64 hmu a2]
    have hm : ¬ nI r0 = -1 := (by decide : ∀ r : Fin 12, ¬ nI r.1 = -1) ⟨r0, hr⟩
    show mu.toInt64 * (ucr mr me nu b r0 n + if mr (me (b + n)) = r0 then (nu (b + n)).toInt64 else 0) = mu.toInt64 * ucr mr me nu b r0 n + mu.toInt64 * (nu (b + n)).toInt64 * mun pr (mr (me (b + n))) (nI r0)
    unfold mun
    rw [if_neg hm]
    by_cases c : mr (me (b + n)) = r0
    · rw [if_pos c, c, if_pos rfl]; grind
    · rw [if_neg c, if_neg (fun q => c ((nI_eq (by omega) (by omega)).mp q))]; grind
theorem uco_own {so mu nu pr : Nat → Int32} {nm mn mr me nx : Nat → Nat} {r0 b : Nat} {T : Nat → Int64} (hr : r0 < 12) : ∀ n, (∀ k, k < n → (so (b + k) = 0 ∨ so (b + k) = 1 ∨ so (b + k) = 2) ∧ (0 ≤ mu (b + k) ∧ mu (b + k) ≤ 99) ∧ (so (b + k) = 1 → mr (nm (b + k)) < 12) ∧ (so (b + k) = 2 → ∀ q, q < mn (nm (b + k)) → mr (me (3 * nm (b + k) + q)) < 12 ∧ 0 ≤ nu (3 * nm (b + k) + q) ∧ nu (3 * nm (b + k) + q) ≤ 9)) →
    msumJ (fun k => uco so mu nu nm mn mr me nx r0 T (b + k)) 0 n = mown so mu nu nm mn (fun x => mun pr (mr x) (nI r0)) (fun x => mun pr (mr (me x)) (nI r0)) b n + mstep so mu nx T 0 b n := by
  intro n
  induction n with
  | zero => intro _; show (0 : Int64) = 0 + 0; grind
  | succ n ih =>
    intro h
    have hm : ¬ nI r0 = -1 := (by decide : ∀ r : Fin 12, ¬ nI r.1 = -1) ⟨r0, hr⟩
    obtain ⟨k1, k2, k3, k4⟩ := h n (by omega)
    rw [msumJ, mown, mstep, ih (fun k hk => h k (by omega))]
    unfold mone uco
    rcases k1 with c | c | c
    · have e1 : ¬ so (b + n) = 1 := by rw [c]; decide
      have e2 : ¬ so (b + n) = 2 := by rw [c]; decide
      rw [if_pos c, if_neg e2, if_neg e1, if_pos c]; grind
    · have e0 : ¬ so (b + n) = 0 := by rw [c]; decide
      have e2 : ¬ so (b + n) = 2 := by rw [c]; decide
      rw [if_neg e0, if_neg e2, if_neg e2, if_pos c, if_neg e0]
      show _ = mown so mu nu nm mn (fun x => mun pr (mr x) (nI r0)) (fun x => mun pr (mr (me x)) (nI r0)) b n + (mu (b + n)).toInt64 * mun pr (mr (nm (b + n))) (nI r0) + (mstep so mu nx T 0 b n + 0)
      unfold mun
      rw [if_neg hm]
      by_cases q : mr (nm (b + n)) = r0
      · rw [if_pos q, q, if_pos rfl]; grind
      · have h9 := k3 c
        rw [if_neg q, if_neg (fun y => q ((nI_eq (by omega) (by omega)).mp y))]; grind
    · have e0 : ¬ so (b + n) = 0 := by rw [c]; decide
      have e1 : ¬ so (b + n) = 1 := by rw [c]; decide
      rw [if_neg e0, if_pos c, if_pos c, if_neg e1, if_neg e0, mcrew_s0, ucr_mcrew (pr := pr) k2 hr _ (k4 c)]; grind
theorem mstep_T0 {so mu : Nat → Int32} {nx : Nat → Nat} {b : Nat} : ∀ n, mstep so mu nx (fun _ => 0) 0 b n = 0 := by
  intro n
  induction n with
  | zero => rfl
  | succ n ih => rw [mstep, ih]; split <;> grind
/-- trees are sums over rounds -/
theorem utr_mN {so mu nu pr tr : Nat → Int32} {cn nm mn mr me nx : Nat → Nat} {r0 nt : Nat} (hr : r0 < 12) (h : ∀ i, i < nt → ∀ k, k < cn i → (so (4 * i + k) = 0 ∨ so (4 * i + k) = 1 ∨ so (4 * i + k) = 2) ∧ (0 ≤ mu (4 * i + k) ∧ mu (4 * i + k) ≤ 99) ∧ (so (4 * i + k) = 1 → mr (nm (4 * i + k)) < 12) ∧ (so (4 * i + k) = 2 → ∀ q, q < mn (nm (4 * i + k)) → mr (me (3 * nm (4 * i + k) + q)) < 12 ∧ 0 ≤ nu (3 * nm (4 * i + k) + q) ∧ nu (3 * nm (4 * i + k) + q) ≤ 9))
    (hn : ∀ i, i < nt → ∀ k, k < cn i → so (4 * i + k) = 0 → nx (4 * i + k) < nt) : ∀ t i, i < nt → utr so mu nu cn nm mn mr me nx r0 (t + 1) i = mN so mu cn nx (mdir so mu nu pr tr cn nm mn mr me (nI r0) (-1)) t i := by
  have hd : ∀ i, mdir so mu nu pr tr cn nm mn mr me (nI r0) (-1) i = mown so mu nu nm mn (fun x => mun pr (mr x) (nI r0)) (fun x => mun pr (mr (me x)) (nI r0)) (4 * i) (cn i) := fun i => if_pos (Or.inl rfl)
  intro t
  induction t with
  | zero =>
    intro i hi
    show msumJ (fun k => uco so mu nu nm mn mr me nx r0 (fun _ => 0) (4 * i + k)) 0 (cn i) = _
    rw [uco_own (pr := pr) hr (cn i) (h i hi), mstep_T0]
    show _ = mdir so mu nu pr tr cn nm mn mr me (nI r0) (-1) i
    rw [hd]; grind
  | succ t ih =>
    intro i hi
    show msumJ (fun k => uco so mu nu nm mn mr me nx r0 (utr so mu nu cn nm mn mr me nx r0 (t + 1)) (4 * i + k)) 0 (cn i) = mstep so mu nx (mN so mu cn nx (mdir so mu nu pr tr cn nm mn mr me (nI r0) (-1)) t) (mdir so mu nu pr tr cn nm mn mr me (nI r0) (-1) i) (4 * i) (cn i)
    rw [uco_own (pr := pr) hr (cn i) (h i hi), mstep_s0 (s0 := mdir so mu nu pr tr cn nm mn mr me (nI r0) (-1) i), hd]
    rw [mstep_congr (so := so) (mu := mu) (nx := nx) (b := 4 * i) (cn i) (fun k hk hs => ih _ (hn i hi k hk hs))]
/-- depths -/
theorem if_congr_prop {p q : Prop} [Decidable p] [Decidable q] {α : Type} {a b : α} (h : p ↔ q) : (if p then a else b) = (if q then a else b) := by
  by_cases c : p
  · rw [if_pos c, if_pos (h.mp c)]
  · rw [if_neg c, if_neg (fun y => c (h.mpr y))]
theorem nI64_lt {a b : Nat} (ha : a < 1000) (hb : b < 1000) : (nI a).toInt64 < (nI b).toInt64 ↔ a < b := by
  rw [Int64.lt_iff_toInt_lt, Int32.toInt_toInt64, Int32.toInt_toInt64, nI_toInt (by omega), nI_toInt (by omega)]; omega
theorem mdmx_n {so f : Nat → Int32} {g : Nat → Nat} {b : Nat} : ∀ n, (∀ k, k < n → so (b + k) = 0 → f (b + k) = nI (g (b + k)) ∧ g (b + k) ≤ 100) → mdmx so f b n = (nI (1 + nmx so g b n)).toInt64 ∧ nmx so g b n ≤ 100 := by
  intro n
  induction n with
  | zero => intro _; exact ⟨rfl, by show 0 ≤ 100; omega⟩
  | succ n ih =>
    intro h
    obtain ⟨e, e2⟩ := ih (fun k hk => h k (by omega))
    rw [mdmx, nmx, e]
    by_cases c : so (b + n) = 0
    · obtain ⟨h1, h2⟩ := h n (by omega) c
      rw [if_pos c, if_pos c, h1, show (1 : Int32) + nI (g (b + n)) = nI (1 + g (b + n)) from nI_add 1 (g (b + n)), if_congr_prop (nI64_lt (by omega) (by omega))]
      by_cases q : 1 + nmx so g b n < 1 + g (b + n)
      · rw [if_pos q, Nat.max_eq_right (by omega)]; exact ⟨rfl, h2⟩
      · rw [if_neg q, Nat.max_eq_left (by omega)]; exact ⟨rfl, e2⟩
    · rw [if_neg c, if_neg c, if_neg (fun q => by have := (nI64_lt (a := 1 + nmx so g b n) (b := 1) (by omega) (by omega)).mp q; omega)]
      exact ⟨rfl, e2⟩
theorem mD_J {so : Nat → Int32} {cn nx : Nat → Nat} {nt : Nat} {A0 : Nat → Int32} (hn : ∀ i, i < nt → ∀ k, k < cn i → so (4 * i + k) = 0 → nx (4 * i + k) < nt) : ∀ t, t ≤ 50 → ∀ i, i < nt → mD so cn nx nt A0 t i = nI (nJ so cn nx t i) := by
  intro t
  induction t with
  | zero => intro _ i hi; exact mset_in hi
  | succ t ih =>
    intro ht i hi
    have e := mdmx_n (so := so) (f := fun k => mD so cn nx nt A0 t (nx k)) (g := fun k => nJ so cn nx t (nx k)) (b := 4 * i) (cn i) (fun k hk hs => ⟨ih (by omega) _ (hn i hi k hk hs), by have := (nJ_b (so := so) (cn := cn) (nx := nx) t (nx (4 * i + k))).2; omega⟩)
    show mset A0 (fun i => (mdmx so (fun k => mD so cn nx nt A0 t (nx k)) (4 * i) (cn i)).toInt32) nt i = _
    rw [mset_in hi, e.1, Int32.toInt32_toInt64]
    rfl
/-- allowed, as the reference says it -/
theorem al_iff {so : Nat → Int32} {cn nx : Nat → Nat} {nt : Nat} {A0 : Nat → Int32} (hn : ∀ i, i < nt → ∀ k, k < cn i → so (4 * i + k) = 0 → nx (4 * i + k) < nt) : (∀ k, k < nt → mD so cn nx nt A0 3 k ≤ 3) ↔ kFx so cn nx (nJ so cn nx 2) nt := by
  constructor
  · intro h
    refine kFx_of hn (fun i hi => ?_)
    have q := h i hi
    rw [mD_J hn 3 (by omega) i hi] at q
    have b := (nJ_b (so := so) (cn := cn) (nx := nx) 3 i).2
    exact (nI_leI (a := nJ so cn nx 3 i) (b := 3) (by omega) (by omega)).mp q
  · intro h i hi
    rw [mD_J hn 3 (by omega) i hi]
    have b := (nJ_b (so := so) (cn := cn) (nx := nx) 3 i).2
    have q := (kFx_J h 3 i hi).1
    have q2 := (h i hi).1.2
    exact (nI_leI (a := nJ so cn nx 3 i) (b := 3) (by omega) (by omega)).mpr (by omega)
theorem dep_eq {so : Nat → Int32} {cn nx : Nat → Nat} {nt : Nat} {A0 : Nat → Int32} (hn : ∀ i, i < nt → ∀ k, k < cn i → so (4 * i + k) = 0 → nx (4 * i + k) < nt) (h : kFx so cn nx (nJ so cn nx 2) nt) : ∀ i, i < nt → mD so cn nx nt A0 3 i = nI (nJ so cn nx 2 i) := by
  intro i hi
  rw [mD_J hn 3 (by omega) i hi, (kFx_J h 3 i hi).2 (by have := (h i hi).1.2; omega)]
theorem mah_congr {f g : Nat → Int64} {j : Nat} : ∀ n, (∀ r, r < n → f r = g r) → f j = g j → mah f j n = mah g j n := by
  intro n
  induction n with
  | zero => intro _ _; rfl
  | succ n ih => intro h hj; rw [mah, mah, ih (fun r hr => h r (by omega)) hj, h n (by omega), hj]
theorem mB_det {al al2 : Nat → Prop} {f f2 : Nat → Int64} : ∀ n, (∀ k, k < n → (al k ↔ al2 k) ∧ (al k → f k = f2 k)) → ∀ b l b2 l2, mB al f n b l → mB al2 f2 n b2 l2 → b = b2 ∧ l = l2 := by
  intro n
  induction n with
  | zero => rintro _ b l b2 l2 ⟨rfl, rfl⟩ ⟨rfl, rfl⟩; exact ⟨rfl, rfl⟩
  | succ n ih =>
    rintro h b l b2 l2 ⟨b0, l0, p0, p⟩ ⟨c0, m0, q0, q⟩
    obtain ⟨rfl, rfl⟩ := ih (fun k hk => h k (by omega)) _ _ _ _ p0 q0
    obtain ⟨h1, h2⟩ := h n (by omega)
    rcases p with ⟨p1, p2, p3, p4⟩ | ⟨p1, p2, p3⟩ <;> rcases q with ⟨q1, q2, q3, q4⟩ | ⟨q1, q2, q3⟩
    · rw [p3, q3, p4, q4]; exact ⟨rfl, h2 p1⟩
    · exact absurd ⟨h1.mp p1, by rw [← h2 p1]; exact p2⟩ q1
    · exact absurd ⟨h1.mpr q1, by rw [h2 (h1.mpr q1)]; exact q2⟩ p1
    · rw [p2, q2, p3, q3]; exact ⟨rfl, rfl⟩

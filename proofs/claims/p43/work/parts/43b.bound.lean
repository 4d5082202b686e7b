/-! HOW LARGE THE NUMBERS GET: x is between 0 and B -/
def bd (B : Int) (x : Int64) : Prop := 0 ≤ x.toInt ∧ x.toInt ≤ B
theorem bm {p : Int} (h0 : 0 ≤ p) (h : p < 9223372036854775808) : Int.bmod p (2 ^ 64) = p := by
  rw [Int.bmod_def]; omega
theorem bd_mono {A B : Int} {x : Int64} (h : bd A x) (hAB : A ≤ B) : bd B x := ⟨h.1, Int.le_trans h.2 hAB⟩
theorem bd_0 {B : Int} (h : 0 ≤ B) : bd B 0 := ⟨by decide, h⟩
theorem toI_add {A B : Int} {x y : Int64} (hx : bd A x) (hy : bd B y) (h : A + B < 9223372036854775808) : (x + y).toInt = x.toInt + y.toInt := by
  obtain ⟨a1, a2⟩ := hx
  obtain ⟨b1, b2⟩ := hy
  rw [Int64.toInt_add]; exact bm (by omega) (by omega)
theorem bd_add {A B : Int} {x y : Int64} (hx : bd A x) (hy : bd B y) (h : A + B < 9223372036854775808) : bd (A + B) (x + y) := by
  obtain ⟨a1, a2⟩ := hx
  obtain ⟨b1, b2⟩ := hy
  unfold bd
  rw [toI_add ⟨a1, a2⟩ ⟨b1, b2⟩ h]
  exact ⟨by omega, by omega⟩
theorem mul_bd {a b A B : Int} (ha : 0 ≤ a) (hA : a ≤ A) (hb : 0 ≤ b) (hB : b ≤ B) : 0 ≤ a * b ∧ a * b ≤ A * B :=
  ⟨Int.mul_nonneg ha hb, Int.mul_le_mul hA hB hb (Int.le_trans ha hA)⟩
theorem toI_mul {A B : Int} {x y : Int64} (hx : bd A x) (hy : bd B y) (h : A * B < 9223372036854775808) : (x * y).toInt = x.toInt * y.toInt := by
  have m := mul_bd hx.1 hx.2 hy.1 hy.2
  rw [Int64.toInt_mul]; exact bm m.1 (Int.lt_of_le_of_lt m.2 h)
theorem bd_mul {A B : Int} {x y : Int64} (hx : bd A x) (hy : bd B y) (h : A * B < 9223372036854775808) : bd (A * B) (x * y) := by
  have m := mul_bd hx.1 hx.2 hy.1 hy.2
  unfold bd
  rw [toI_mul hx hy h]; exact m
theorem bd_i {B : Int} {x : Int32} (h0 : 0 ≤ x) (h : x.toInt ≤ B) : bd B x.toInt64 := by
  unfold bd
  rw [Int32.toInt_toInt64]
  exact ⟨Int32.le_iff_toInt_le.mp h0, h⟩
theorem toI_div {B : Int} {x y : Int64} (hx : bd B x) (hy : 1 ≤ y.toInt) : (x / y).toInt = x.toInt / y.toInt := by
  have hy2 : y ≠ -1 := by
    intro q; rw [q] at hy; exact absurd hy (by decide)
  rw [Int64.toInt_div_of_ne_right _ _ hy2, Int.tdiv_eq_ediv_of_nonneg hx.1]
theorem bd_div {B : Int} {x y : Int64} (hx : bd B x) (hy : 1 ≤ y.toInt) : bd B (x / y) := by
  unfold bd
  rw [toI_div hx hy]
  refine ⟨Int.ediv_nonneg hx.1 (by omega), Int.le_trans (Int.ediv_le_self _ hx.1) hx.2⟩
theorem bd_sum {f : Nat → Int64} {B : Int} (hB : 0 ≤ B) : ∀ n : Nat, (∀ k, k < n → bd B (f k)) → (n : Int) * B < 9223372036854775808 → bd ((n : Int) * B) (msumJ f 0 n) := by
  intro n
  induction n with
  | zero => intro _ _; exact bd_0 (by omega)
  | succ n ih =>
    intro h hn
    have e : ((n + 1 : Nat) : Int) * B = (n : Int) * B + B := by
      rw [show ((n + 1 : Nat) : Int) = (n : Int) + 1 from rfl, Int.add_mul, Int.one_mul]
    rw [e] at hn ⊢
    exact bd_add (ih (fun k hk => h k (by omega)) (by omega)) (h n (by omega)) hn
/-- amounts -/
theorem bd_ucr {mr me : Nat → Nat} {nu : Nat → Int32} {b r0 : Nat} : ∀ n : Nat, n ≤ 3 → (∀ q, q < n → 0 ≤ nu (b + q) ∧ nu (b + q) ≤ 9) → bd ((n : Int) * 9) (ucr mr me nu b r0 n) := by
  intro n
  induction n with
  | zero => intro _ _; exact bd_0 (by omega)
  | succ n ih =>
    intro hn h
    have e : ((n + 1 : Nat) : Int) * 9 = (n : Int) * 9 + 9 := by omega
    rw [e]
    rw [ucr]
    refine bd_add (ih (by omega) (fun q hq => h q (by omega))) ?_ (by omega)
    split
    · exact bd_i (h n (by omega)).1 (Int32.le_iff_toInt_le.mp (h n (by omega)).2)
    · exact bd_0 (by omega)
section
variable {so mu nu : Nat → Int32} {cn nm mn mr me nx : Nat → Nat} {r0 nt : Nat}
theorem bd_utr (h : ∀ i, i < nt → cn i ≤ 4 ∧ ∀ k, k < cn i → (0 ≤ mu (4 * i + k) ∧ mu (4 * i + k) ≤ 99) ∧ (so (4 * i + k) = 0 → mu (4 * i + k) ≤ 9 ∧ nx (4 * i + k) < nt) ∧ (so (4 * i + k) = 2 → mn (nm (4 * i + k)) ≤ 3 ∧ ∀ q, q < mn (nm (4 * i + k)) → 0 ≤ nu (3 * nm (4 * i + k) + q) ∧ nu (3 * nm (4 * i + k) + q) ≤ 9)) {T : Nat → Int64} {B C : Int} (hB : 0 ≤ B) (hC : 9 * B ≤ C) (hC2 : 2673 ≤ C) (hCL : 4 * C < 9223372036854775808) (hT : ∀ i, i < nt → bd B (T i)) : ∀ i, i < nt → bd (4 * C) (msumJ (fun k => uco so mu nu nm mn mr me nx r0 T (4 * i + k)) 0 (cn i)) := by
  intro i hi
  obtain ⟨h4, hk⟩ := h i hi
  have q : bd ((cn i : Int) * C) (msumJ (fun k => uco so mu nu nm mn mr me nx r0 T (4 * i + k)) 0 (cn i)) := by
    have le4 : (cn i : Int) * C ≤ 4 * C := Int.mul_le_mul_of_nonneg_right (by omega) (by omega)
    refine bd_sum (by omega) (cn i) (fun k hkc => ?_) (by omega)
    obtain ⟨⟨m0, m9⟩, hp, hw⟩ := hk k hkc
    show bd C (uco so mu nu nm mn mr me nx r0 T (4 * i + k))
    unfold uco
    have M99 : bd 99 (mu (4 * i + k)).toInt64 := bd_i m0 (Int32.le_iff_toInt_le.mp m9)
    split
    · rename_i hs
      obtain ⟨p1, p2⟩ := hp hs
      have x9 : bd 9 (mu (4 * i + k)).toInt64 := bd_i m0 (Int32.le_iff_toInt_le.mp p1)
      exact bd_mono (bd_mul x9 (hT _ p2) (by omega)) hC
    · split
      · rename_i hs
        obtain ⟨p1, p2⟩ := hw hs
        have u := bd_mono (bd_ucr (mr := mr) (me := me) (r0 := r0) _ p1 p2) (show ((mn (nm (4 * i + k)) : Nat) : Int) * 9 ≤ 27 by omega)
        exact bd_mono (bd_mul M99 u (by decide)) (by omega)
      · split
        · exact bd_mono M99 (by omega)
        · exact bd_0 (by omega)
  exact bd_mono q (Int.mul_le_mul_of_nonneg_right (by omega) (by omega))
theorem bd_utr3 (h : ∀ i, i < nt → cn i ≤ 4 ∧ ∀ k, k < cn i → (0 ≤ mu (4 * i + k) ∧ mu (4 * i + k) ≤ 99) ∧ (so (4 * i + k) = 0 → mu (4 * i + k) ≤ 9 ∧ nx (4 * i + k) < nt) ∧ (so (4 * i + k) = 2 → mn (nm (4 * i + k)) ≤ 3 ∧ ∀ q, q < mn (nm (4 * i + k)) → 0 ≤ nu (3 * nm (4 * i + k) + q) ∧ nu (3 * nm (4 * i + k) + q) ≤ 9)) : ∀ i, i < nt → bd 13856832 (utr so mu nu cn nm mn mr me nx r0 3 i) := by
  have h0 : ∀ i, i < nt → bd 0 (utr so mu nu cn nm mn mr me nx r0 0 i) := fun i _ => bd_0 (Int.le_refl 0)
  have h1 : ∀ i, i < nt → bd 10692 (utr so mu nu cn nm mn mr me nx r0 1 i) := bd_utr h (B := 0) (C := 2673) (by decide) (by decide) (by decide) (by decide) h0
  have h2 : ∀ i, i < nt → bd 384912 (utr so mu nu cn nm mn mr me nx r0 2 i) := bd_utr h (B := 10692) (C := 96228) (by decide) (by decide) (by decide) (by decide) h1
  exact bd_utr h (B := 384912) (C := 3464208) (by decide) (by decide) (by decide) (by decide) h2
end
/-- amounts of all lines -/
theorem bd_am {q : Nat → Int32} {u : Nat → Int64} {nL : Nat} (hL : nL ≤ 10) (hq : ∀ l, l < nL → 0 ≤ q l ∧ q l ≤ 10000) (hu : ∀ l, l < nL → bd 13856832 (u l)) : bd 1400000000000 (msumJ (fun l => (q l).toInt64 * u l) 0 nL) := by
  have s := bd_sum (f := fun l => (q l).toInt64 * u l) (B := 138568320000) (by decide) nL (fun l hl => bd_mono (bd_mul (bd_i (B := 10000) (hq l hl).1 (Int32.le_iff_toInt_le.mp (hq l hl).2)) (hu l hl) (by decide)) (by decide)) (by omega)
  exact bd_mono s (by omega)
/-- what is bought: as few packs as have what is needed -/
theorem pk_ok {a : Int64} {w p : Int32} (ha : bd 1400000000000 a) (hw : 0 ≤ w ∧ w ≤ 50) (hp : 1 ≤ p ∧ p ≤ 99) : a + (a * w.toInt64 + 99) / 100 ≤ mpk a w p * p.toInt64 ∧ (mpk a w p - 1) * p.toInt64 < a + (a * w.toInt64 + 99) / 100 ∧ bd 900000000000 (mpk a w p * p.toInt64 - a) ∧ 0 ≤ a := by
  have W : bd 50 w.toInt64 := bd_i hw.1 (Int32.le_iff_toInt_le.mp hw.2)
  have p1 : (1 : Int) ≤ p.toInt := Int32.le_iff_toInt_le.mp hp.1
  have p99 : p.toInt ≤ 99 := Int32.le_iff_toInt_le.mp hp.2
  have p0 : (0 : Int32) ≤ p := Int32.le_iff_toInt_le.mpr (by show (0 : Int) ≤ _; omega)
  have P : bd 99 p.toInt64 := bd_i p0 p99
  have aw := bd_mul ha W (by decide)
  have aw1 := bd_add aw (show bd 99 (99 : Int64) from ⟨by decide, by decide⟩) (by decide)
  have t1 : (a * w.toInt64 + 99).toInt = a.toInt * w.toInt + 99 := by
    rw [toI_add aw (show bd 99 (99 : Int64) from ⟨by decide, by decide⟩) (by decide), toI_mul ha W (by decide), Int32.toInt_toInt64]; rfl
  have D := toI_div aw1 (show (1 : Int) ≤ (100 : Int64).toInt by decide)
  rw [t1, show (100 : Int64).toInt = 100 from rfl] at D
  have W2 : 0 ≤ w.toInt ∧ w.toInt ≤ 50 := ⟨Int32.le_iff_toInt_le.mp hw.1, Int32.le_iff_toInt_le.mp hw.2⟩
  have m50 := mul_bd ha.1 (Int.le_refl a.toInt) W2.1 W2.2
  have Dd : bd 700000000001 ((a * w.toInt64 + 99) / 100) := by
    unfold bd; rw [D]; have := ha.2; omega
  have all := bd_add ha Dd (by decide)
  have tall := toI_add ha Dd (by decide)
  have s1 := bd_add all P (by decide)
  have ts1 := toI_add all P (by decide)
  rw [Int32.toInt_toInt64] at ts1
  have s2 : (a + (a * w.toInt64 + 99) / 100 + p.toInt64 - 1).toInt = (a + (a * w.toInt64 + 99) / 100).toInt + p.toInt - 1 := by
    rw [Int64.toInt_sub, ts1]
    have := all.1
    have := all.2
    exact bm (by show 0 ≤ _ - (1 : Int); omega) (by show _ - (1 : Int) < _; omega)
  have b2 : bd 2100000000100 (a + (a * w.toInt64 + 99) / 100 + p.toInt64 - 1) := by
    unfold bd; rw [s2]; have := all.1; have := all.2; omega
  have K := toI_div b2 (show (1 : Int) ≤ p.toInt64.toInt by rw [Int32.toInt_toInt64]; exact p1)
  rw [s2, Int32.toInt_toInt64] at K
  have Kb : bd 2100000000100 (mpk a w p) := bd_div b2 (show (1 : Int) ≤ p.toInt64.toInt by rw [Int32.toInt_toInt64]; exact p1)
  have KP := toI_mul Kb P (by decide)
  have KPb := bd_mul Kb P (by decide)
  rw [Int32.toInt_toInt64] at KP
  have hK : (mpk a w p).toInt = ((a + (a * w.toInt64 + 99) / 100).toInt + p.toInt - 1) / p.toInt := K
  obtain ⟨X, hX⟩ : ∃ X : Int, (a + (a * w.toInt64 + 99) / 100).toInt = X := ⟨_, rfl⟩
  rw [hX] at hK
  have d1 := Int.ediv_mul_le (X + p.toInt - 1) (show p.toInt ≠ 0 by omega)
  have d2 := Int.lt_ediv_add_one_mul_self (X + p.toInt - 1) (show 0 < p.toInt by omega)
  rw [← hK] at d1 d2
  rw [Int.add_mul, Int.one_mul] at d2
  have X0 : 0 ≤ X := by rw [← hX]; exact all.1
  have K1 : ((mpk a w p - 1) * p.toInt64).toInt = (mpk a w p).toInt * p.toInt - p.toInt := by
    have e1 : (mpk a w p - 1).toInt = (mpk a w p).toInt - 1 := by
      rw [Int64.toInt_sub]
      have := Kb.1
      have := Kb.2
      rw [Int.bmod_def]; show _ = _ - (1 : Int); simp only [show (1 : Int64).toInt = 1 from rfl]; omega
    rw [Int64.toInt_mul, e1, Int32.toInt_toInt64, Int.sub_mul, Int.one_mul]
    have k1 := KPb.1
    have k2 := KPb.2
    rw [KP] at k1 k2
    rw [Int.bmod_def]; omega
  refine ⟨Int64.le_iff_toInt_le.mpr ?_, Int64.lt_iff_toInt_lt.mpr ?_, ?_, Int64.le_iff_toInt_le.mpr ha.1⟩
  · rw [hX, KP]; omega
  · rw [hX, K1]; omega
  · have a1 := ha.1
    have a2 := ha.2
    have x2 : X = a.toInt + ((a * w.toInt64 + 99) / 100).toInt := by rw [← hX]; exact tall
    have y1 := Dd.1
    have y2 := Dd.2
    have e : (mpk a w p * p.toInt64 - a).toInt = (mpk a w p).toInt * p.toInt - a.toInt := by
      rw [Int64.toInt_sub, KP]
      exact bm (by omega) (by omega)
    unfold bd; rw [e]; omega
/-! the total -/
theorem bd_sumS {f : Nat → Int64} {B S : Int} {s0 : Int64} (hB : 0 ≤ B) (hs : bd S s0) : ∀ n : Nat, (∀ k, k < n → bd B (f k)) → S + (n : Int) * B < 9223372036854775808 → bd (S + (n : Int) * B) (msumJ f s0 n) := by
  intro n
  induction n with
  | zero => intro _ _; exact bd_mono hs (by omega)
  | succ n ih =>
    intro h hn
    have e : ((n + 1 : Nat) : Int) * B = (n : Int) * B + B := by
      rw [show ((n + 1 : Nat) : Int) = (n : Int) + 1 from rfl, Int.add_mul, Int.one_mul]
    rw [e] at hn ⊢
    rw [← Int.add_assoc] at hn ⊢
    exact bd_add (ih (fun k hk => h k (by omega)) (by omega)) (h n (by omega)) hn
theorem bd_mkd {ki pr : Nat → Int32} {am : Nat → Int64} {its : Int32} : ∀ n : Nat, n ≤ 12 → (∀ r, r < n → bd 1400000000000 (am r) ∧ 0 ≤ pr r ∧ pr r ≤ 299) → bd ((n : Int) * 418600000000000) (mkd ki am pr its n) := by
  intro n
  induction n with
  | zero => intro _ _; exact bd_0 (by omega)
  | succ n ih =>
    intro hn h
    obtain ⟨a1, a2, a3⟩ := h n (by omega)
    have e : ((n + 1 : Nat) : Int) * 418600000000000 = (n : Int) * 418600000000000 + 418600000000000 := by omega
    rw [e, mkd]
    refine bd_add (ih (by omega) (fun r hr => h r (by omega))) ?_ (by omega)
    split
    · exact bd_mono (bd_mul a1 (bd_i (B := 299) a2 (Int32.le_iff_toInt_le.mp a3)) (by decide)) (by decide)
    · exact bd_0 (by decide)
theorem bd_mex {wa pa pr : Nat → Int32} {am : Nat → Int64} : ∀ n : Nat, n ≤ 12 → (∀ r, r < n → bd 1400000000000 (am r) ∧ (0 ≤ pr r ∧ pr r ≤ 299) ∧ (0 ≤ wa r ∧ wa r ≤ 50) ∧ (1 ≤ pa r ∧ pa r ≤ 99)) → bd ((n : Int) * 269100000000000) (mex am wa pa pr n) := by
  intro n
  induction n with
  | zero => intro _ _; exact bd_0 (by omega)
  | succ n ih =>
    intro hn h
    obtain ⟨a1, ⟨a2, a3⟩, a4, a5⟩ := h n (by omega)
    have e : ((n + 1 : Nat) : Int) * 269100000000000 = (n : Int) * 269100000000000 + 269100000000000 := by omega
    rw [e, mex]
    exact bd_add (ih (by omega) (fun r hr => h r (by omega))) (bd_mono (bd_mul (pk_ok a1 a4 a5).2.2.1 (bd_i (B := 299) a2 (Int32.le_iff_toInt_le.mp a3)) (by decide)) (by decide)) (by omega)
def SB (B : Nat → Int) : Nat → Int
  | 0 => 0
  | n + 1 => SB B n + B n
theorem bd_msb {bs : Int32} {f : Nat → Int64} {B : Nat → Int} (hB : ∀ b, 0 ≤ B b) : ∀ n : Nat, (∀ b, b < n → bd (B b) (f b)) → SB B n < 9223372036854775808 → bd (SB B n) (msb bs f n) := by
  intro n
  induction n with
  | zero => intro _ _; exact bd_0 (Int.le_refl 0)
  | succ n ih =>
    intro h hn
    rw [SB] at hn ⊢
    rw [msb]
    have := hB n
    refine bd_add (ih (fun b hb => h b (by omega)) (by omega)) ?_ hn
    split
    · exact h n (by omega)
    · exact bd_0 this
/-- how large mark-up j gets; in 2511600000000000 / 2 -/
def Wt : Nat → Int
  | 0 => 10046400000000000
  | 1 => 15069600000000000
  | 2 => 22604400000000000
  | _ => 33906600000000000
theorem Wt_0 : ∀ j, 0 ≤ Wt j ∧ Wt j ≤ 33906600000000000
  | 0 => by decide
  | 1 => by decide
  | 2 => by decide
  | _ + 3 => by show 0 ≤ (33906600000000000 : Int) ∧ (33906600000000000 : Int) ≤ 33906600000000000; decide
def Wb (b : Nat) : Int := if b < 4 then 5023200000000000 else Wt (b - 4)
theorem bd_div100 {B : Int} {x : Int64} (hx : bd B x) : bd (B / 100) (x / 100) := by
  unfold bd
  rw [toI_div hx (by decide), show (100 : Int64).toInt = 100 from rfl]
  have := hx.1
  have := hx.2
  omega
theorem bd_mk1 {b0 : Int32} {p : Int32} {kd mk : Nat → Int64} {ex : Int64} (hkd : ∀ b, b < 3 → bd 5023200000000000 (kd b)) (hex : bd 5023200000000000 ex) (hp : 0 ≤ p ∧ p ≤ 50) (n : Nat) (hn : n < 4) (IH : ∀ j, j < n → bd (Wt j) (mk j)) : bd (Wt n) (msb b0 (fun b => if b < 3 then kd b else if b = 3 then ex else mk (b - 4)) (4 + n) * p.toInt64 / 100) := by
  have hf : ∀ b, b < 4 + n → bd (Wb b) ((fun b => if b < 3 then kd b else if b = 3 then ex else mk (b - 4)) b) := by
    intro b hb
    show bd (Wb b) (if b < 3 then kd b else if b = 3 then ex else mk (b - 4))
    unfold Wb
    by_cases b3 : b < 3
    · rw [if_pos (by omega), if_pos b3]; exact hkd b b3
    · rw [if_neg b3]
      by_cases b4 : b = 3
      · rw [if_pos (by omega), if_pos b4]; exact hex
      · rw [if_neg (by omega), if_neg b4]; exact IH (b - 4) (by omega)
  have hWb : ∀ b, 0 ≤ Wb b := by
    intro b; unfold Wb
    split
    · decide
    · exact (Wt_0 _).1
  have P50 : bd 50 p.toInt64 := bd_i hp.1 (Int32.le_iff_toInt_le.mp hp.2)
  have e0 : SB Wb 4 = 20092800000000000 := by decide
  have e1 : SB Wb 5 = 30139200000000000 := by decide
  have e2 : SB Wb 6 = 45208800000000000 := by decide
  have e3 : SB Wb 7 = 67813200000000000 := by decide
  match n, hn, hf with
  | 0, _, hf =>
    have q := bd_msb (bs := b0) hWb 4 hf (by rw [e0]; decide)
    rw [e0] at q
    exact bd_mono (bd_div100 (bd_mul q P50 (by decide))) (by decide)
  | 1, _, hf =>
    have q := bd_msb (bs := b0) hWb 5 hf (by rw [e1]; decide)
    rw [e1] at q
    exact bd_mono (bd_div100 (bd_mul q P50 (by decide))) (by decide)
  | 2, _, hf =>
    have q := bd_msb (bs := b0) hWb 6 hf (by rw [e2]; decide)
    rw [e2] at q
    exact bd_mono (bd_div100 (bd_mul q P50 (by decide))) (by decide)
  | 3, _, hf =>
    have q := bd_msb (bs := b0) hWb 7 hf (by rw [e3]; decide)
    rw [e3] at q
    exact bd_mono (bd_div100 (bd_mul q P50 (by decide))) (by decide)
  | n + 4, hn, _ => exact absurd hn (by omega)
theorem bd_mmk {bs pc : Nat → Int32} {kd : Nat → Int64} {ex : Int64} (hkd : ∀ b, b < 3 → bd 5023200000000000 (kd b)) (hex : bd 5023200000000000 ex) : ∀ n : Nat, n ≤ 4 → (∀ k, k < n → 0 ≤ pc k ∧ pc k ≤ 50) → ∀ j, j < n → bd (Wt j) (mmk bs pc kd ex n j) := by
  intro n
  induction n with
  | zero => intro _ _ j hj; omega
  | succ n ih =>
    intro hn hpc j hj
    have IH := ih (by omega) (fun k hk => hpc k (by omega))
    rw [mmk]
    by_cases c : j < n
    · rw [if_pos c]; exact IH j c
    · rw [if_neg c, show j = n by omega]
      exact bd_mk1 hkd hex (hpc n (by omega)) n (by omega) IH
theorem bd_cTo {M : mS} {nR nM : Nat} {am : Nat → Int64} (hR : nR ≤ 12) (hM : nM ≤ 4) (h : ∀ r, r < nR → bd 1400000000000 (am r) ∧ (0 ≤ M.2.1 3 r ∧ M.2.1 3 r ≤ 299) ∧ (0 ≤ M.2.1 4 r ∧ M.2.1 4 r ≤ 50) ∧ (1 ≤ M.2.1 5 r ∧ M.2.1 5 r ≤ 99)) (hpc : ∀ k, k < nM → 0 ≤ M.2.1 26 k ∧ M.2.1 26 k ≤ 50) : bd 200000000000000000 (cTo M nR nM am) := by
  unfold cTo
  have k1 : ∀ its, bd 5023200000000000 (mkd (M.2.1 2) am (M.2.1 3) its nR) := fun its => bd_mono (bd_mkd nR hR (fun r hr => ⟨(h r hr).1, (h r hr).2.1⟩)) (by omega)
  have k2 : bd 3229200000000000 (mex am (M.2.1 4) (M.2.1 5) (M.2.1 3) nR) := bd_mono (bd_mex nR hR h) (by omega)
  have k3 : bd 5023200000000000 (cou am (M.2.1 3) nR) := bd_mono (bd_sum (f := fun r => am r * (M.2.1 3 r).toInt64) (B := 418600000000000) (by decide) nR (fun r hr => bd_mono (bd_mul (h r hr).1 (bd_i (B := 299) (h r hr).2.1.1 (Int32.le_iff_toInt_le.mp (h r hr).2.1.2)) (by decide)) (by decide)) (by omega)) (by omega)
  have k4 := bd_mmk (bs := M.2.1 27) (fun b _ => k1 (nI b)) (bd_mono k2 (by decide)) nM hM hpc
  exact bd_mono (bd_sumS (B := 33906600000000000) (by decide) (bd_add k3 k2 (by decide)) nM (fun k hk => bd_mono (k4 k hk) (Wt_0 k).2) (by omega)) (by omega)
theorem cTo_max {x : Int64} (h : bd 200000000000000000 x) : x < 9223372036854775807 := by
  rw [Int64.lt_iff_toInt_lt]
  exact Int.lt_of_le_of_lt h.2 (by decide)

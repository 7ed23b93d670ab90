/-! feast: the sum over the pipes that stay away is a product over notes -/
section PT
variable {P : Nat}
def z_prod (f : Nat → Nat) : Nat → Nat
  | 0 => 1
  | n + 1 => z_prod f n * f n
theorem z_prod_c {f g : Nat → Nat} : ∀ n, (∀ i, i < n → f i = g i) → z_prod f n = z_prod g n
  | 0, _ => rfl
  | n + 1, h => by rw [z_prod, z_prod, z_prod_c n (fun i hi => h i (by omega)), h n (by omega)]
theorem z_prod_mul {f g : Nat → Nat} : ∀ n, z_prod (fun i => f i * g i) n = z_prod f n * z_prod g n
  | 0 => rfl
  | n + 1 => by
    rw [z_prod, z_prod, z_prod, z_prod_mul n]
    ac_rfl
/-- one factor is set apart -/
theorem z_prod_x {f : Nat → Nat} {u : Nat} : ∀ n, u < n → z_prod f n = z_prod (fun i => if i = u then 1 else f i) n * f u
  | 0, h => absurd h (Nat.not_lt_zero u)
  | n + 1, h => by
    by_cases z : u = n
    · subst z
      rw [z_prod, z_prod, if_pos rfl, Nat.mul_one]
      rw [z_prod_c u (f := fun i => if i = u then 1 else f i) (g := f) (fun i hi => if_neg (by omega))]
    · rw [z_prod, z_prod, if_neg (fun q => z q.symm), z_prod_x (u := u) n (by omega)]
      ac_rfl
theorem z_prod_1 : ∀ n, z_prod (fun _ => 1) n = 1
  | 0 => rfl
  | n + 1 => by rw [z_prod, z_prod_1 n]
theorem z_prod_pos {f : Nat → Nat} : ∀ n, (∀ i, i < n → 0 < f i) → 0 < z_prod f n
  | 0, _ => Nat.one_pos
  | n + 1, h => Nat.mul_pos (z_prod_pos n (fun i hi => h i (by omega))) (h n (by omega))
theorem z_sum_split {f : Nat → Nat} {n : Nat} : ∀ m, z_sum f (n + m) = z_sum f n + z_sum (fun i => f (n + i)) m
  | 0 => rfl
  | m + 1 => by
    rw [← Nat.add_assoc, z_sum, z_sum_split m, z_sum]
    omega
theorem z_sum_mul {f : Nat → Nat} {k : Nat} : ∀ n, z_sum (fun i => k * f i) n = k * z_sum f n
  | 0 => rfl
  | n + 1 => by rw [z_sum, z_sum, z_sum_mul n, Nat.mul_add]
/-- what one of the notes gives: k pipes of it are away -/
def gV (q k : Nat) (D : Bool) : Nat := if D then 10 ^ k - q ^ k else 10 ^ k
def kV (C : Nat → Bool) (nt : Nat → Nat) (P v : Nat) : Nat := z_cnt (fun p => !C p && decide (nt p = v)) P
/-- the chance of the set s of pipes, by 10 for each pipe that is away -/
def wS (C : Nat → Bool) (c q : Nat) (s : Nat → Bool) : Nat → Nat
  | 0 => 1
  | p + 1 => wS C c q s p * (if C p then 1 else if s p then c else q)
theorem wS_c {C s t : Nat → Bool} {c q : Nat} : ∀ n, (∀ p, p < n → s p = t p) → wS C c q s n = wS C c q t n
  | 0, _ => rfl
  | n + 1, h => by rw [wS, wS, wS_c n (fun p hp => h p (by omega)), h n (by omega)]
/-- the notes of D are all there in s -/
def hit (nt : Nat → Nat) (D : Nat → Bool) (s : Nat → Bool) (P : Nat) : Bool := !z_any (fun v => D v && !z_any (fun p => s p && decide (nt p = v)) P) 48
def okS (C s : Nat → Bool) (P : Nat) : Bool := !z_any (fun p => C p && s p) P
def eS (C : Nat → Bool) (nt : Nat → Nat) (c q : Nat) (D : Nat → Bool) (P : Nat) : Nat := z_sum (fun s => if okS C (Nat.testBit s) P && hit nt D (Nat.testBit s) P then wS C c q (Nat.testBit s) P else 0) (2 ^ P)
theorem hit_c {nt : Nat → Nat} {D s t : Nat → Bool} {n : Nat} (h : ∀ p, p < n → s p = t p) : hit nt D s n = hit nt D t n := by
  unfold hit
  congr 1
  exact z_any_congr (fun v _ => by rw [z_any_congr (fun p hp => by rw [h p hp])])
theorem okS_c {C s t : Nat → Bool} {n : Nat} (h : ∀ p, p < n → s p = t p) : okS C s n = okS C t n := by
  unfold okS
  congr 1
  exact z_any_congr (fun p hp => by rw [h p hp])
theorem eS_rec {C : Nat → Bool} {nt : Nat → Nat} {c q : Nat} {D : Nat → Bool} (hn : nt P < 48) : eS C nt c q D (P + 1) = if C P then eS C nt c q D P else q * eS C nt c q D P + c * eS C nt c q (fun v => D v && !decide (nt P = v)) P := by
  unfold eS
  rw [Nat.pow_succ, Nat.mul_two, z_sum_split]
  have b0 : ∀ s, s < 2 ^ P → Nat.testBit s P = false := fun s hs => Nat.testBit_lt_two_pow hs
  have b1 : ∀ s, s < 2 ^ P → Nat.testBit (2 ^ P + s) P = true := fun s hs => by rw [Nat.testBit_two_pow_add_eq, b0 s hs]; rfl
  have b2 : ∀ s p, p < P → Nat.testBit (2 ^ P + s) p = Nat.testBit s p := fun s p hp => Nat.testBit_two_pow_add_gt hp s
  have h0 : ∀ s, s < 2 ^ P → hit nt D (Nat.testBit s) (P + 1) = hit nt D (Nat.testBit s) P := fun s hs => by
    unfold hit
    congr 1
    refine z_any_congr (fun v _ => ?_)
    rw [z_any, b0 s hs]
    simp
  have h1 : ∀ s, s < 2 ^ P → hit nt D (Nat.testBit (2 ^ P + s)) (P + 1) = hit nt (fun v => D v && !decide (nt P = v)) (Nat.testBit s) P := fun s hs => by
    unfold hit
    congr 1
    refine z_any_congr (fun v _ => ?_)
    rw [z_any, b1 s hs, z_any_congr (fun p hp => by rw [b2 s p hp])]
    show (D v && !(z_any (fun p => Nat.testBit s p && decide (nt p = v)) P || (true && decide (nt P = v)))) = ((D v && !decide (nt P = v)) && !z_any (fun p => Nat.testBit s p && decide (nt p = v)) P)
    generalize z_any (fun p => Nat.testBit s p && decide (nt p = v)) P = X
    cases D v <;> cases decide (nt P = v) <;> cases X <;> rfl
  have o0 : ∀ s, s < 2 ^ P → okS C (Nat.testBit s) (P + 1) = okS C (Nat.testBit s) P := fun s hs => by
    unfold okS
    rw [z_any, b0 s hs]
    simp
  have o1 : ∀ s, s < 2 ^ P → okS C (Nat.testBit (2 ^ P + s)) (P + 1) = (okS C (Nat.testBit s) P && !C P) := fun s hs => by
    unfold okS
    rw [z_any, b1 s hs, z_any_congr (fun p hp => by rw [b2 s p hp])]
    simp
  cases e : C P
  · rw [if_neg (by decide), ← z_sum_mul, ← z_sum_mul]
    congr 1
    · refine z_sum_c _ (fun s hs => ?_)
      rw [h0 s hs, o0 s hs, wS, b0 s hs, e]
      split
      · simp [Nat.mul_comm]
      · simp
    · refine z_sum_c _ (fun s hs => ?_)
      rw [h1 s hs, o1 s hs, wS, b1 s hs, e, wS_c P (b2 s)]
      simp only [Bool.not_false, Bool.and_true]
      split
      · simp [Nat.mul_comm]
      · simp
  · rw [if_pos rfl]
    rw [z_sum_0 (f := fun i => if okS C (Nat.testBit (2 ^ P + i)) (P + 1) && hit nt D (Nat.testBit (2 ^ P + i)) (P + 1) then wS C c q (Nat.testBit (2 ^ P + i)) (P + 1) else 0) (2 ^ P) (fun s hs => by rw [o1 s hs, e]; simp), Nat.add_zero]
    refine z_sum_c _ (fun s hs => ?_)
    rw [h0 s hs, o0 s hs, wS, e]
    simp
theorem eS_prod {C : Nat → Bool} {nt : Nat → Nat} {c q : Nat} (hcq : c + q = 10) : ∀ (P : Nat) (D : Nat → Bool), (∀ p, p < P → nt p < 48) → eS C nt c q D P = z_prod (fun v => gV q (kV C nt P v) (D v)) 48
  | 0, D, _ => by
    show z_sum _ 1 = _
    rw [z_sum, z_sum, Nat.zero_add]
    by_cases z : z_any D 48 = true
    · obtain ⟨v, hv, e⟩ := z_any_of z
      rw [z_prod_x 48 hv]
      have : hit nt D (Nat.testBit 0) 0 = false := by
        unfold hit
        rw [z_any_t (c := fun v => D v && !z_any (fun p => Nat.testBit 0 p && decide (nt p = v)) 0) hv (by rw [e]; rfl)]
        rfl
      rw [this, show gV q (kV C nt 0 v) (D v) = 0 by unfold gV kV z_cnt; rw [e]; simp]
      simp
    · have z : z_any D 48 = false := by simpa using z
      have : hit nt D (Nat.testBit 0) 0 = true := by
        unfold hit
        rw [z_any_f.mpr (fun v hv => by rw [z_any_f.mp z v hv]; rfl)]
        rfl
      rw [this, z_prod_c (g := fun _ => 1) 48 (fun v hv => by rw [z_any_f.mp z v hv]; rfl), z_prod_1]
      rfl
  | P + 1, D, h => by
    have hu := h P (by omega)
    rw [eS_rec hu, eS_prod hcq P D (fun p hp => h p (by omega)), eS_prod hcq P (fun v => D v && !decide (nt P = v)) (fun p hp => h p (by omega))]
    have kn : ∀ v, kV C nt (P + 1) v = kV C nt P v + (if (!C P && decide (nt P = v)) = true then 1 else 0) := fun v => rfl
    cases e : C P
    · rw [if_neg (by decide)]
      rw [z_prod_x (u := nt P) 48 hu, z_prod_x (f := fun v => gV q (kV C nt P v) (D v && !decide (nt P = v))) (u := nt P) 48 hu, z_prod_x (f := fun v => gV q (kV C nt (P + 1) v) (D v)) (u := nt P) 48 hu]
      have e1 : z_prod (fun i => if i = nt P then 1 else gV q (kV C nt P i) (D i && !decide (nt P = i))) 48 = z_prod (fun i => if i = nt P then 1 else gV q (kV C nt P i) (D i)) 48 := z_prod_c 48 (fun i _ => by
        by_cases w : i = nt P
        · rw [if_pos w, if_pos w]
        · rw [if_neg w, if_neg w, decide_eq_false (fun r => w r.symm), Bool.not_false, Bool.and_true])
      have e2 : z_prod (fun i => if i = nt P then 1 else gV q (kV C nt (P + 1) i) (D i)) 48 = z_prod (fun i => if i = nt P then 1 else gV q (kV C nt P i) (D i)) 48 := z_prod_c 48 (fun i _ => by
        by_cases w : i = nt P
        · rw [if_pos w, if_pos w]
        · rw [if_neg w, if_neg w, kn i, e, decide_eq_false (fun r => w r.symm)]
          rfl)
      rw [e1, e2]
      generalize z_prod (fun i => if i = nt P then 1 else gV q (kV C nt P i) (D i)) 48 = X
      rw [kn (nt P), e, decide_eq_true rfl]
      generalize kV C nt P (nt P) = k
      have key : gV q (k + 1) (D (nt P)) = q * gV q k (D (nt P)) + c * gV q k false := by
        have hq : q ^ k ≤ 10 ^ k := Nat.pow_le_pow_left (by omega) k
        have h10 : 10 ^ (k + 1) = c * 10 ^ k + q * 10 ^ k := by rw [Nat.pow_succ, Nat.mul_comm, ← Nat.add_mul, hcq]
        unfold gV
        cases D (nt P)
        · simp only [Bool.false_eq_true, if_false]
          omega
        · simp only [if_true, Bool.false_eq_true, if_false]
          rw [h10, Nat.pow_succ q k, Nat.mul_sub, Nat.mul_comm (q ^ k) q]
          have : q * q ^ k ≤ q * 10 ^ k := Nat.mul_le_mul_left q hq
          omega
      simp only [Bool.not_false, Bool.true_and, Bool.not_true, Bool.and_false, if_true]
      rw [key, Nat.mul_add]
      congr 1 <;> ac_rfl
    · rw [if_pos rfl]
      refine z_prod_c 48 (fun v _ => ?_)
      rw [kn v, e]
      rfl
end PT

/-! fetchAll: the fewest pipes to fetch -/
section PR
variable {I I' : z_M} {b c : Nat} {A A' : Nat → Int} {P L : Nat}
def z_sum (f : Nat → Nat) : Nat → Nat
  | 0 => 0
  | n + 1 => z_sum f n + f n
theorem z_sum_add {f g : Nat → Nat} : ∀ n, z_sum (fun i => f i + g i) n = z_sum f n + z_sum g n
  | 0 => rfl
  | n + 1 => by
    have := z_sum_add (f := f) (g := g) n
    unfold z_sum
    omega
theorem z_sum_c {f g : Nat → Nat} : ∀ n, (∀ i, i < n → f i = g i) → z_sum f n = z_sum g n
  | 0, _ => rfl
  | n + 1, h => by rw [z_sum, z_sum, z_sum_c n (fun i hi => h i (by omega)), h n (by omega)]
theorem z_sum_le {f g : Nat → Nat} : ∀ n, (∀ i, i < n → f i ≤ g i) → z_sum f n ≤ z_sum g n
  | 0, _ => Nat.le_refl 0
  | n + 1, h => by
    have h1 := z_sum_le n (fun i hi => h i (by omega))
    have h2 := h n (by omega)
    unfold z_sum
    omega
theorem z_sum_0 {f : Nat → Nat} : ∀ n, (∀ i, i < n → f i = 0) → z_sum f n = 0
  | 0, _ => rfl
  | n + 1, h => by rw [z_sum, z_sum_0 n (fun i hi => h i (by omega)), h n (by omega)]
theorem z_sum_ge {f : Nat → Nat} {j : Nat} : ∀ n, j < n → f j ≤ z_sum f n
  | 0, h => absurd h (Nat.not_lt_zero j)
  | n + 1, h => by
    unfold z_sum
    by_cases z : j = n
    · subst z
      omega
    · have := z_sum_ge (f := f) n (show j < n by omega)
      omega
theorem z_sum_1 {f : Nat → Nat} {j : Nat} : ∀ n, j < n → (∀ i, i < n → i ≠ j → f i = 0) → z_sum f n = f j
  | 0, h, _ => absurd h (Nat.not_lt_zero j)
  | n + 1, h, e => by
    unfold z_sum
    by_cases z : j = n
    · subst z
      rw [z_sum_0 j (fun i hi => e i (by omega) (by omega)), Nat.zero_add]
    · rw [z_sum_1 n (show j < n by omega) (fun i hi hj => e i (by omega) hj), e n (by omega) (by omega), Nat.add_zero]
theorem z_sum_swap {f : Nat → Nat} {nt : Nat → Nat} {N : Nat} : ∀ P, (∀ p, p < P → nt p < N) → z_sum (fun v => z_sum (fun p => if nt p = v then f p else 0) P) N = z_sum f P
  | 0, _ => z_sum_0 N (fun _ _ => rfl)
  | P + 1, h => by
    have e : z_sum (fun v => z_sum (fun p => if nt p = v then f p else 0) (P + 1)) N = z_sum (fun v => z_sum (fun p => if nt p = v then f p else 0) P + (if nt P = v then f P else 0)) N := z_sum_c N (fun _ _ => rfl)
    rw [e, z_sum_add, z_sum_swap P (fun p hp => h p (by omega)), z_sum_1 (j := nt P) N (h P (by omega)) (fun i _ hi => if_neg (fun q => hi q.symm)), if_pos rfl, z_sum]
/-- T lies below s by any growing weight -/
theorem z_sum_dom {w : Nat → Nat} {nt : Nat → Nat} {T s : Nat → Bool} {N : Nat} (hn : ∀ p, p < P → nt p < N) (hw : ∀ p q, p ≤ q → w p ≤ w q) (hT : ∀ p, p < P → T p = true → ∃ q, q < P ∧ p ≤ q ∧ s q = true ∧ nt q = nt p) (h1 : ∀ p q, p < P → q < P → T p = true → T q = true → nt p = nt q → p = q) : z_sum (fun p => if T p then w p else 0) P ≤ z_sum (fun p => if s p then w p else 0) P := by
  rw [← z_sum_swap (f := fun p => if T p then w p else 0) (nt := nt) (N := N) P hn, ← z_sum_swap (f := fun p => if s p then w p else 0) (nt := nt) (N := N) P hn]
  refine z_sum_le N (fun v _ => ?_)
  by_cases z : ∃ p, p < P ∧ T p = true ∧ nt p = v
  · obtain ⟨p, hp, t1, t2⟩ := z
    obtain ⟨q, hq, q1, q2, q3⟩ := hT p hp t1
    rw [z_sum_1 (f := fun p => if nt p = v then (if T p then w p else 0) else 0) (j := p) P hp (fun i hi hj => by
      by_cases e : nt i = v
      · rw [if_pos e]
        cases e2 : T i
        · rfl
        · exact absurd (h1 i p hi hp e2 t1 (e.trans t2.symm)) hj
      · rw [if_neg e])]
    have := z_sum_ge (f := fun p => if nt p = v then (if s p then w p else 0) else 0) (j := q) P hq
    rw [if_pos (q3.trans t2), if_pos q2] at this
    rw [if_pos t2, if_pos t1]
    exact Nat.le_trans (hw p q q1) this
  · rw [z_sum_0 P (fun p hp => by
      by_cases e : nt p = v
      · rw [if_pos e]
        cases e2 : T p
        · rfl
        · exact absurd ⟨p, hp, e2, e⟩ z
      · rw [if_neg e])]
    exact Nat.zero_le _
theorem z_bs_sum (c : Nat → Bool) : ∀ n, z_bs c n = z_sum (fun p => if c p then 2 ^ p else 0) n
  | 0 => rfl
  | n + 1 => by rw [z_bs, z_sum, z_bs_sum c n]
theorem z_cnt_sum (c : Nat → Bool) : ∀ n, z_cnt c n = z_sum (fun p => if c p then 1 else 0) n
  | 0 => rfl
  | n + 1 => by rw [z_cnt, z_sum, z_cnt_sum c n]
theorem z_bs_tb (c : Nat → Bool) {p n : Nat} : Nat.testBit (z_bs c n) p = (decide (p < n) && c p) := by
  by_cases h : p < n
  · rw [Nat.testBit_eq_decide_div_mod_eq, z_bs_bit c h, decide_eq_true h, Bool.true_and]
    cases c p <;> rfl
  · rw [decide_eq_false h, Bool.false_and]
    exact Nat.testBit_lt_two_pow (Nat.lt_of_lt_of_le (z_bs_lt c n) (Nat.pow_le_pow_right (by decide) (by omega)))
theorem z_bs_of {m n : Nat} {c : Nat → Bool} (hm : m < 2 ^ n) (h : ∀ p, p < n → Nat.testBit m p = c p) : m = z_bs c n := by
  apply Nat.eq_of_testBit_eq
  intro p
  rw [z_bs_tb]
  by_cases z : p < n
  · rw [decide_eq_true z, Bool.true_and]
    exact h p z
  · rw [decide_eq_false z, Bool.false_and]
    exact Nat.testBit_lt_two_pow (Nat.lt_of_lt_of_le hm (Nat.pow_le_pow_right (by decide) (by omega)))
theorem z_cnt_all {c : Nat → Bool} : ∀ n, z_cnt c n = n ↔ ∀ i, i < n → c i = true
  | 0 => ⟨fun _ i hi => absurd hi (Nat.not_lt_zero i), fun _ => rfl⟩
  | n + 1 => by
    have ih := z_cnt_all (c := c) n
    have hl := z_cnt_le c n
    unfold z_cnt
    constructor
    · intro h i hi
      cases e : c n
      · rw [e] at h
        simp at h
        omega
      · rw [e] at h
        simp at h
        by_cases z : i = n
        · rw [z]
          exact e
        · exact ih.mp h i (by omega)
    · intro h
      rw [h n (by omega), ih.mpr (fun i hi => h i (by omega))]
      rfl
def tN (A : Nat → Int) (p : Nat) : Int := A (30 + 4 * p + 1)
def tF (A : Nat → Int) (P : Nat) (v : Int) : Int := z_fst (fun q => decide (tN A q = v)) P
/-- the first pipes of the n first notes that are not played -/
def tP (A : Nat → Int) (P : Nat) (C : Nat → Bool) (x : Nat) (d : Int) (n p : Nat) : Bool := decide (tF A P (tN A p) = (p : Int)) && (z_any (fun i => decide (A (63 + 9 * x + i) + d = tN A p)) n && !pPl A P C (tN A p))
theorem tF_hit {v : Int} {p : Nat} (hp : p < P) (h : tN A p = v) : ∃ f : Nat, tF A P v = f ∧ f ≤ p ∧ tN A f = v := by
  have : ∃ f, f ≤ p ∧ tN A f = v ∧ z_any (fun q => decide (tN A q = v)) f = false := by
    induction p using Nat.strongRecOn with
    | ind p ih =>
      by_cases z : z_any (fun q => decide (tN A q = v)) p = true
      · obtain ⟨q, q1, q2⟩ := z_any_of z
        obtain ⟨f, f1, f2, f3⟩ := ih q q1 (by omega) (of_decide_eq_true q2)
        exact ⟨f, by omega, f2, f3⟩
      · exact ⟨p, Nat.le_refl p, h, by simpa using z⟩
  obtain ⟨f, f1, f2, f3⟩ := this
  exact ⟨f, z_fst_hit f3 (decide_eq_true f2) (by omega), f1, f2⟩
theorem tF_none {v : Int} (h : ∀ p, p < P → tN A p ≠ v) : tF A P v = -1 := z_fst_none (z_any_f.mpr (fun p hp => decide_eq_false (h p hp)))
theorem tP_s {C : Nat → Bool} {x n : Nat} {d : Int} {p : Nat} : tP A P C x d (n + 1) p = (tP A P C x d n p || (decide (tF A P (tN A p) = (p : Int)) && (decide (A (63 + 9 * x + n) + d = tN A p) && !pPl A P C (tN A p)))) := by
  unfold tP
  rw [z_any]
  cases decide (tF A P (tN A p) = (p : Int)) <;> cases pPl A P C (tN A p) <;> simp
theorem pPl_t {C : Nat → Bool} {v : Int} {p : Nat} (hp : p < P) (hC : C p = true) (hv : tN A p = v) : pPl A P C v = true :=
  z_any_t (c := fun p => C p && decide (A (30 + 4 * p + 1) = v)) hp (by rw [hC, decide_eq_true (show A (30 + 4 * p + 1) = v from hv)]; rfl)
theorem pPl_of {C : Nat → Bool} {v : Int} (h : pPl A P C v = true) : ∃ p, p < P ∧ C p = true ∧ tN A p = v := by
  obtain ⟨p, hp, e⟩ := z_any_of h
  rw [Bool.and_eq_true] at e
  exact ⟨p, hp, e.1, of_decide_eq_true e.2⟩
def inS (A : Nat → Int) (P : Nat) (C : Nat → Bool) (x s : Nat) : Prop := s < 2 ^ P ∧ (∀ p, p < P → Nat.testBit s p = true → C p = false) ∧ pWh A P (fun p => C p || Nat.testBit s p) x = true
def okT (A : Nat → Int) (P : Nat) (C : Nat → Bool) (x : Nat) (d : Int) (n : Nat) : Prop := ∀ i, i < n → pPl A P C (A (63 + 9 * x + i) + d) = true ∨ ∃ p, p < P ∧ tN A p = A (63 + 9 * x + i) + d
theorem pWh_iff {C : Nat → Bool} {x n : Nat} (hn : A (62 + 9 * x) = n) : pWh A P C x = true ↔ ∃ j : Nat, j < 13 ∧ ∀ i, i < n → pPl A P C (A (63 + 9 * x + i) + ((j : Int) - 6)) = true := by
  unfold pWh pPlays
  rw [hn, Int.toNat_natCast]
  constructor
  · intro h
    obtain ⟨j, hj, e⟩ := z_any_of h
    have e := of_decide_eq_true e
    exact ⟨j, hj, fun i hi => (z_cnt_all (c := fun i => pPl A P C (A (63 + 9 * x + i) + ((j : Int) - 6))) n).mp (by omega) i hi⟩
  · rintro ⟨j, hj, e⟩
    exact z_any_t hj (decide_eq_true (by rw [(z_cnt_all (c := fun i => pPl A P C (A (63 + 9 * x + i) + ((j : Int) - 6))) n).mpr e]))
theorem tP_in {C : Nat → Bool} {x n j : Nat} (hn : A (62 + 9 * x) = n) (hj : j < 13) (hok : okT A P C x ((j : Int) - 6) n) : inS A P C x (z_bs (tP A P C x ((j : Int) - 6) n) P) := by
  have tb : ∀ p, p < P → Nat.testBit (z_bs (tP A P C x ((j : Int) - 6) n) P) p = tP A P C x ((j : Int) - 6) n p := fun p hp => by rw [z_bs_tb, decide_eq_true hp, Bool.true_and]
  refine ⟨z_bs_lt _ _, fun p hp h => ?_, (pWh_iff hn).mpr ⟨j, hj, fun i hi => ?_⟩⟩
  · rw [tb p hp] at h
    unfold tP at h
    simp only [Bool.and_eq_true, Bool.not_eq_true'] at h
    cases e : C p
    · rfl
    · rw [pPl_t hp e rfl] at h
      exact absurd h.2.2 (by decide)
  · cases e : pPl A P C (A (63 + 9 * x + i) + ((j : Int) - 6))
    · rcases hok i hi with h | ⟨p, hp, hv⟩
      · rw [e] at h
        cases h
      · obtain ⟨f, f1, f2, f3⟩ := tF_hit hp hv
        refine pPl_t (p := f) (by omega) ?_ f3
        rw [tb f (by omega)]
        have : tP A P C x ((j : Int) - 6) n f = true := by
          unfold tP
          rw [f3, f1, e, decide_eq_true rfl]
          have := z_any_t (c := fun k => decide (A (63 + 9 * x + k) + ((j : Int) - 6) = A (63 + 9 * x + i) + ((j : Int) - 6))) hi (decide_eq_true rfl)
          rw [this]
          rfl
        rw [this, Bool.or_true]
    · obtain ⟨p, hp, c1, c2⟩ := pPl_of e
      exact pPl_t hp (by rw [c1]; rfl) c2
def lq (P : Nat) (s t : Nat) : Prop := z_cnt (Nat.testBit s) P < z_cnt (Nat.testBit t) P ∨ (z_cnt (Nat.testBit s) P = z_cnt (Nat.testBit t) P ∧ s ≤ t)
theorem tP_lq {C : Nat → Bool} {x n s : Nat} (hN : ∀ p, p < P → 0 ≤ tN A p ∧ tN A p ≤ 35) (hn : A (62 + 9 * x) = n) (hs : inS A P C x s) : ∃ j : Nat, j < 13 ∧ okT A P C x ((j : Int) - 6) n ∧ lq P (z_bs (tP A P C x ((j : Int) - 6) n) P) s := by
  obtain ⟨s1, s2, s3⟩ := hs
  obtain ⟨j, hj, e⟩ := (pWh_iff hn).mp s3
  refine ⟨j, hj, fun i hi => Or.inr ?_, ?_⟩
  · obtain ⟨p, hp, _, c2⟩ := pPl_of (e i hi)
    exact ⟨p, hp, c2⟩
  have es : s = z_bs (Nat.testBit s) P := z_bs_of s1 (fun _ _ => rfl)
  have hT : ∀ p, p < P → tP A P C x ((j : Int) - 6) n p = true → ∃ q, q < P ∧ p ≤ q ∧ Nat.testBit s q = true ∧ (tN A q).toNat = (tN A p).toNat := by
    intro p hp h
    unfold tP at h
    simp only [Bool.and_eq_true, Bool.not_eq_true', decide_eq_true_eq] at h
    obtain ⟨h1, h2, h3⟩ := h
    obtain ⟨i, hi, h4⟩ := z_any_of h2
    have h4 := of_decide_eq_true h4
    have h5 := e i hi
    rw [h4] at h5
    obtain ⟨q, hq, c1, c2⟩ := pPl_of h5
    obtain ⟨f, f1, f2, f3⟩ := tF_hit hq c2
    refine ⟨q, hq, by omega, ?_, by rw [c2]⟩
    rcases Bool.or_eq_true_iff.mp c1 with c1 | c1
    · rw [pPl_t hq c1 c2] at h3
      cases h3
    · exact c1
  have h1 : ∀ p q, p < P → q < P → tP A P C x ((j : Int) - 6) n p = true → tP A P C x ((j : Int) - 6) n q = true → (tN A p).toNat = (tN A q).toNat → p = q := by
    intro p q hp hq hp1 hq1 z
    have := hN p hp
    have := hN q hq
    unfold tP at hp1 hq1
    simp only [Bool.and_eq_true, decide_eq_true_eq] at hp1 hq1
    have h2 := hp1.1
    have h3 := hq1.1
    rw [show tN A p = tN A q by omega] at h2
    omega
  have hnt : ∀ p, p < P → (tN A p).toNat < 36 := fun p hp => by
    have := hN p hp
    omega
  have w1 := z_sum_dom (w := fun _ => 1) (s := Nat.testBit s) hnt (fun _ _ _ => Nat.le_refl 1) hT h1
  have w2 := z_sum_dom (w := fun p => 2 ^ p) (s := Nat.testBit s) hnt (fun p q hpq => Nat.pow_le_pow_right (by decide) hpq) hT h1
  rw [← z_cnt_sum, ← z_cnt_sum] at w1
  rw [← z_bs_sum, ← z_bs_sum, ← es] at w2
  have e1 : z_cnt (Nat.testBit (z_bs (tP A P C x ((j : Int) - 6) n) P)) P = z_cnt (tP A P C x ((j : Int) - 6) n) P := z_cnt_c P (fun p hp => by rw [z_bs_tb, decide_eq_true hp, Bool.true_and])
  unfold lq
  rw [e1]
  omega
end PR

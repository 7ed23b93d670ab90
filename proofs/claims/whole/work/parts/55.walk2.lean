/-! walk: the class' table of least ways -/
section PY
variable {I I' : z_M} {b c : Nat} {A A' : Nat → Int} {P L : Nat}
theorem z_bs_del {c : Nat → Bool} {j : Nat} : ∀ n, j < n → c j = true → z_bs (fun p => c p && !decide (p = j)) n + 2 ^ j = z_bs c n
  | 0, h, _ => absurd h (Nat.not_lt_zero j)
  | n + 1, h, e => by
    unfold z_bs
    by_cases z : j = n
    · subst z
      rw [e, decide_eq_true rfl]
      have : z_bs (fun p => c p && !decide (p = j)) j = z_bs c j := z_bs_c j (fun p hp => by rw [decide_eq_false (by omega), Bool.not_false, Bool.and_true])
      rw [this]
      simp
    · have ih := z_bs_del n (show j < n by omega) e
      rw [decide_eq_false (fun q => z q.symm), Bool.not_false, Bool.and_true]
      omega
theorem xor_bit {s j : Nat} (hs : s < 2 ^ L) (hj : j < L) (e : Nat.testBit s j = true) : s ^^^ 2 ^ j = z_bs (fun p => Nat.testBit s p && !decide (p = j)) L ∧ (s ^^^ 2 ^ j) + 2 ^ j = s := by
  have h1 : s ^^^ 2 ^ j = z_bs (fun p => Nat.testBit s p && !decide (p = j)) L := by
    refine z_bs_of (Nat.xor_lt_two_pow hs (Nat.pow_lt_pow_right (by decide) hj)) (fun p hp => ?_)
    rw [Nat.testBit_xor, Nat.testBit_two_pow]
    by_cases z : j = p
    · subst z
      rw [e]
      simp
    · rw [decide_eq_false z, decide_eq_false (fun q => z q.symm)]
      simp
  refine ⟨h1, ?_⟩
  have h2 := z_bs_del (c := Nat.testBit s) L hj e
  rw [← h1, ← z_bs_of (c := Nat.testBit s) hs (fun _ _ => rfl)] at h2
  exact h2
/-- the least of those of n that are so, 1000000 if none -/
def mF (f : Nat → Bool) (g : Nat → Int) : Nat → Int
  | 0 => 1000000
  | y + 1 => if f y then (if g y < mF f g y then g y else mF f g y) else mF f g y
theorem mF_c {f : Nat → Bool} {g g' : Nat → Int} : ∀ n, (∀ y, y < n → f y = true → g y = g' y) → mF f g n = mF f g' n
  | 0, _ => rfl
  | n + 1, h => by
    rw [mF, mF, mF_c n (fun y hy => h y (by omega))]
    cases e : f n
    · rfl
    · rw [h n (by omega) e]
/-- the least way from here through the set and home: n is fuel -/
def mW (A : Nat → Int) (L : Nat) : Nat → Nat → Int → Int
  | 0, _, here => pFar A here (-1)
  | n + 1, s, here => if s = 0 then pFar A here (-1) else mF (Nat.testBit s) (fun y => pFar A here y + mW A L n (s ^^^ 2 ^ y) y) L
def mM (A : Nat → Int) (L : Nat) (s : Nat) (here : Int) : Int := mW A L s s here
theorem mW_f : ∀ n m s here, s < 2 ^ L → s ≤ n → s ≤ m → mW A L n s here = mW A L m s here
  | 0, 0, _, _, _, _, _ => rfl
  | 0, m + 1, s, here, _, h, _ => by
    have : s = 0 := by omega
    rw [mW, mW, if_pos this]
  | n + 1, 0, s, here, _, _, h => by
    have : s = 0 := by omega
    rw [mW, mW, if_pos this]
  | n + 1, m + 1, s, here, hs, hn, hm => by
    rw [mW, mW]
    by_cases z : s = 0
    · rw [if_pos z, if_pos z]
    · rw [if_neg z, if_neg z]
      refine mF_c L (fun y hy e => ?_)
      have hx := (xor_bit hs hy e).2
      have hp : 0 < 2 ^ y := Nat.pow_pos (by decide)
      rw [mW_f n m (s ^^^ 2 ^ y) y (by omega) (by omega) (by omega)]
theorem mM_0 {here : Int} : mM A L 0 here = pFar A here (-1) := rfl
theorem mM_s {s : Nat} {here : Int} (hs : s < 2 ^ L) (h0 : s ≠ 0) : mM A L s here = mF (Nat.testBit s) (fun y => pFar A here y + mM A L (s ^^^ 2 ^ y) y) L := by
  obtain ⟨n, rfl⟩ : ∃ n, s = n + 1 := ⟨s - 1, by omega⟩
  unfold mM
  rw [mW, if_neg h0]
  refine mF_c L (fun y hy e => ?_)
  have hx := (xor_bit hs hy e).2
  have hp : 0 < 2 ^ y := Nat.pow_pos (by decide)
  rw [mW_f n ((n + 1) ^^^ 2 ^ y) ((n + 1) ^^^ 2 ^ y) y (by omega) (by omega) (Nat.le_refl _)]
theorem mF_r {f : Nat → Bool} {g : Nat → Int} {B : Int} : ∀ n, (∀ y, y < n → f y = true → 0 ≤ g y ∧ g y ≤ B) → 0 ≤ mF f g n ∧ (mF f g n ≤ B ∨ mF f g n = 1000000)
  | 0, _ => ⟨by unfold mF; decide, Or.inr rfl⟩
  | n + 1, h => by
    have ih := mF_r (f := f) (g := g) n (fun y hy => h y (by omega))
    unfold mF
    cases e : f n
    · simpa using ih
    · have := h n (by omega) e
      simp only [if_true]
      split <;> omega
end PY

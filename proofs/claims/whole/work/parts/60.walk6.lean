/-! walk: the places of a set in their order -/
section QD
variable {I I' : z_M} {b c : Nat} {A A' : Nat → Int} {P L : Nat}
/-- the i-th that is so of the first n -/
def nb (c : Nat → Bool) : Nat → Nat → Nat
  | 0, _ => 0
  | n + 1, i => if c n = true ∧ z_cnt c n = i then n else nb c n i
theorem nb_r {c : Nat → Bool} : ∀ n i, i < z_cnt c n → nb c n i < n ∧ c (nb c n i) = true ∧ z_cnt c (nb c n i) = i
  | 0, i, h => absurd h (Nat.not_lt_zero i)
  | n + 1, i, h => by
    have hs : z_cnt c (n + 1) = z_cnt c n + (if c n then 1 else 0) := rfl
    unfold nb
    by_cases z : c n = true ∧ z_cnt c n = i
    · rw [if_pos z]
      exact ⟨Nat.lt_succ_self n, z.1, z.2⟩
    · rw [if_neg z]
      have : i < z_cnt c n := by
        cases e : c n
        · rw [e] at hs
          simp at hs
          omega
        · rw [e] at hs
          simp at hs
          have : ¬ z_cnt c n = i := fun q => z ⟨e, q⟩
          omega
      have ih := nb_r n i this
      exact ⟨by omega, ih.2⟩
theorem z_cnt_mono {c : Nat → Bool} {m : Nat} : ∀ n, m ≤ n → z_cnt c m ≤ z_cnt c n
  | 0, h => by
    have : m = 0 := by omega
    subst this
    exact Nat.le_refl _
  | n + 1, h => by
    by_cases z : m = n + 1
    · rw [z]
      exact Nat.le_refl _
    · have := z_cnt_mono (c := c) n (show m ≤ n by omega)
      show z_cnt c m ≤ z_cnt c n + _
      omega
theorem nb_mono {c : Nat → Bool} {n i j : Nat} (hj : j < z_cnt c n) (hij : i < j) : nb c n i < nb c n j := by
  obtain ⟨a1, a2, a3⟩ := nb_r (c := c) n i (by omega)
  obtain ⟨b1, b2, b3⟩ := nb_r (c := c) n j hj
  apply Decidable.byContradiction
  intro q
  have := z_cnt_mono (c := c) (m := nb c n j) (nb c n i) (by omega)
  omega
theorem nb_of {c : Nat → Bool} {y : Nat} : ∀ n, y < n → c y = true → nb c n (z_cnt c y) = y ∧ z_cnt c y < z_cnt c n
  | 0, h, _ => absurd h (Nat.not_lt_zero y)
  | n + 1, h, e => by
    have hs : z_cnt c (n + 1) = z_cnt c n + (if c n then 1 else 0) := rfl
    unfold nb
    by_cases z : y = n
    · subst z
      rw [if_pos ⟨e, rfl⟩, hs, e]
      exact ⟨rfl, by simp⟩
    · obtain ⟨i1, i2⟩ := nb_of n (show y < n by omega) e
      rw [if_neg (fun q => by omega)]
      exact ⟨i1, by omega⟩
end QD

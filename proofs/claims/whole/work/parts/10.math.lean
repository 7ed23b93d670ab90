/-! PURE: counts, sets of bits, loops -/
theorem z_for (P : Nat) (J : Nat → Prop) (hend : J P) (hstep : ∀ i, i < P → J (i + 1) → J i) : ∀ i, i ≤ P → J i := by
  intro i hi
  obtain ⟨d, rfl⟩ : ∃ d, P = i + d := ⟨P - i, by omega⟩
  induction d generalizing i with
  | zero => exact hend
  | succ d ih =>
    refine hstep i (by omega) (ih (i + 1) ?_ ?_ (by omega))
    · rw [show i + 1 + d = i + (d + 1) by omega]; exact hend
    · intro j hj; exact hstep j (by omega)
def z_cnt (c : Nat → Bool) : Nat → Nat
  | 0 => 0
  | n + 1 => z_cnt c n + (if c n then 1 else 0)
def z_bs (c : Nat → Bool) : Nat → Nat
  | 0 => 0
  | n + 1 => z_bs c n + (if c n then 2 ^ n else 0)
theorem z_cnt_le (c : Nat → Bool) : ∀ n, z_cnt c n ≤ n
  | 0 => Nat.le_refl 0
  | n + 1 => by
    have := z_cnt_le c n
    unfold z_cnt
    split <;> omega
theorem z_bs_lt (c : Nat → Bool) : ∀ n, z_bs c n < 2 ^ n
  | 0 => Nat.one_pos
  | n + 1 => by
    have := z_bs_lt c n
    unfold z_bs
    rw [Nat.pow_succ]
    split <;> omega
theorem z_cnt_t {c : Nat → Bool} {n : Nat} (h : c n = true) : z_cnt c (n + 1) = z_cnt c n + 1 := by simp [z_cnt, h]
theorem z_cnt_f {c : Nat → Bool} {n : Nat} (h : c n = false) : z_cnt c (n + 1) = z_cnt c n := by simp [z_cnt, h]
theorem z_bs_t {c : Nat → Bool} {n : Nat} (h : c n = true) : z_bs c (n + 1) = z_bs c n + 2 ^ n := by simp [z_bs, h]
theorem z_bs_f {c : Nat → Bool} {n : Nat} (h : c n = false) : z_bs c (n + 1) = z_bs c n := by simp [z_bs, h]
theorem zshl_1 (n : Nat) : zshl 1 (n : Int) = ((2 ^ n : Nat) : Int) := by unfold zshl; simp
theorem zor_bs (c : Nat → Bool) (n : Nat) : zor (z_bs c n : Int) (zshl 1 (n : Int)) = ((z_bs c n + 2 ^ n : Nat) : Int) := by
  rw [zshl_1]
  unfold zor
  simp only [Int.toNat_natCast]
  congr 1
  have h := Nat.two_pow_add_eq_or_of_lt (z_bs_lt c n) 1
  rw [Nat.mul_one] at h
  rw [Nat.or_comm, ← h, Nat.add_comm]
theorem z_pow_lt {n m : Nat} (h : n < m) : 2 ^ n < 2 ^ m := Nat.pow_lt_pow_right (by decide) h

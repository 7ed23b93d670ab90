/-! walk: the class finds the least way -/
section PZ
variable {I I' : z_M} {b c : Nat} {A A' : Nat → Int} {P L : Nat}
theorem mF_up {f : Nat → Bool} {g : Nat → Int} : ∀ n, mF f g n ≤ 1000000
  | 0 => Int.le_refl _
  | n + 1 => by
    have := mF_up (f := f) (g := g) n
    unfold mF
    split
    · split <;> omega
    · exact this
theorem mF_lo {f : Nat → Bool} {g : Nat → Int} : ∀ n, (∀ y, y < n → f y = true → 0 ≤ g y) → 0 ≤ mF f g n
  | 0, _ => by unfold mF; decide
  | n + 1, h => by
    have ih := mF_lo (f := f) (g := g) n (fun y hy => h y (by omega))
    unfold mF
    cases e : f n
    · simpa using ih
    · have := h n (by omega) e
      simp only [if_true]
      split <;> omega
theorem pFar_r {x y : Int} (hA : wfA A P L) (hx : x = -1 ∨ (0 ≤ x ∧ x < L)) (hy : y = -1 ∨ (0 ≤ y ∧ y < L)) : 0 ≤ pFar A x y ∧ pFar A x y ≤ 60 := by
  have ex := cE_r hA hx
  have ey := cE_r hA hy
  have nx := cN_r hA hx
  have ny := cN_r hA hy
  have d1 := @dI_r (cE A x - cE A y)
  have d2 := @dI_r (cN A x - cN A y)
  unfold pFar
  omega
theorem mM_r (hA : wfA A P L) : ∀ (n s : Nat) (here : Int), s ≤ n → s < 2 ^ L → (here = -1 ∨ (0 ≤ here ∧ here < L)) → 0 ≤ mM A L s here ∧ mM A L s here ≤ 1000000
  | 0, s, here, h, _, hh => by
    have : s = 0 := by omega
    subst this
    rw [mM_0]
    have := pFar_r hA hh (Or.inl rfl)
    omega
  | n + 1, s, here, h, hs, hh => by
    by_cases z : s = 0
    · subst z
      rw [mM_0]
      have := pFar_r hA hh (Or.inl rfl)
      omega
    · rw [mM_s hs z]
      refine ⟨mF_lo L (fun y hy e => ?_), mF_up L⟩
      have hx := (xor_bit hs hy e).2
      have hp : 0 < 2 ^ y := Nat.pow_pos (by decide)
      have h1 := mM_r hA n (s ^^^ 2 ^ y) y (by omega) (by omega) (Or.inr ⟨by omega, by omega⟩)
      have h2 := pFar_r hA hh (y := (y : Int)) (Or.inr ⟨by omega, by omega⟩)
      omega
theorem zxor_n (a b : Nat) : zxor (a : Int) (b : Int) = ((a ^^^ b : Nat) : Int) := by
  unfold zxor
  rw [Int.toNat_natCast, Int.toNat_natCast]
def tabT (I : z_M) (A : Nat → Int) (L n : Nat) : Prop := ∀ s y, s < n → s < 2 ^ L → y < L → I 58 (5 * s + y) = mM A L s y
theorem bit_of {s L p : Nat} (hs : s < 2 ^ L) (hp : p < L) : zand (zshr (s : Int) p) 1 = if Nat.testBit s p then 1 else 0 := by
  have := zbit_bs (Nat.testBit s) hp
  rw [← z_bs_of (c := Nat.testBit s) hs (fun _ _ => rfl)] at this
  exact this
theorem s9_leastFrom {Q : Int → z_M → Prop} {s h0 : Nat} (hx : rpx I 8 A P L) (hs : s < 2 ^ L) (hh : h0 < L) (hT : tabT I A L s) (h : Q (mM A L s h0) I) : CX9_leastFrom [aR 57, aR 8, aI s, aI h0] I Q := by
  have hA := rpx_A hx
  have hL := hA.2.2.2.1
  have hC := rpx_C hx
  have h5 : 2 ^ L ≤ 2 ^ 5 := Nat.pow_le_pow_right (by decide) hL
  refine eX9_leastFrom ?_
  refine X9_leastFrom_0 (k := ?_)
  refine X9_leastFrom_1 (kt := fun k1 => ?_) (kf := fun k1 => ?_)
  · have z : s ≠ 0 := by omega
    rw [mM_s hs z] at h
    refine X9_leastFrom_11 (k := ?_)
    refine X9_leastFrom_13 (k := ?_)
    refine X9_leastFrom_15 (k := ?_)
    refine X9_leastFrom_16 (k := ?_)
    have := z_for L (fun y => ∀ v : z_V, JX9_leastFrom Q 18 [aR 57, aR 8, aI s, aI h0, aI (mF (Nat.testBit s) (fun y => pFar A h0 y + mM A L (s ^^^ 2 ^ y) y) y), aI y, v] [] I) (by
      intro v
      refine X9_leastFrom_18 (k := ?_)
      refine X9_leastFrom_20 (k := ?_)
      refine X9_leastFrom_21 (k := ?_)
      rw [hC.2.1]
      refine X9_leastFrom_24 (kt := fun k24 => ?_) (kf := fun k24 => ?_)
      · refine X9_leastFrom_78 (k := ?_)
        refine X9_leastFrom_80 (hq := ?_)
        exact h
      · omega) (fun y hy ih => by
      intro v
      have hup := mF_up (f := Nat.testBit s) (g := fun (y : Nat) => pFar A h0 y + mM A L (s ^^^ 2 ^ y) y) y
      unfold mF at ih
      refine X9_leastFrom_18 (k := ?_)
      refine X9_leastFrom_20 (k := ?_)
      refine X9_leastFrom_21 (k := ?_)
      rw [hC.2.1]
      refine X9_leastFrom_24 (kt := fun k24 => ?_) (kf := fun k24 => ?_)
      · omega
      · refine X9_leastFrom_27 (k := ?_)
        refine X9_leastFrom_28 (k := ?_)
        refine X9_leastFrom_30 (k := ?_)
        refine X9_leastFrom_31 (k := ?_)
        refine X9_leastFrom_32 (k := ?_)
        rw [bit_of hs hy]
        refine X9_leastFrom_33 (k := ?_)
        refine X9_leastFrom_34 (kt := fun k34 => ?_) (kf := fun k34 => ?_)
        · have e : Nat.testBit s y = false := by
            cases q : Nat.testBit s y
            · rfl
            · rw [q] at k34
              exact absurd rfl k34
          refine X9_leastFrom_72 (k := ?_)
          refine X9_leastFrom_75 (k := ?_)
          rw [e, if_neg (by decide)] at ih
          exact ih _
        · have e : Nat.testBit s y = true := by
            cases q : Nat.testBit s y
            · rw [q] at k34
              exact absurd k34 (by decide)
            · rfl
          have hxb := (xor_bit hs hy e).2
          have hp : 0 < 2 ^ y := Nat.pow_pos (by decide)
          have hr1 := pFar_r hA (x := (h0 : Int)) (y := (y : Int)) (Or.inr ⟨by omega, by omega⟩) (Or.inr ⟨by omega, by omega⟩)
          have hr2 := mM_r hA s (s ^^^ 2 ^ y) (y : Int) (by omega) (by omega) (Or.inr ⟨by omega, by omega⟩)
          refine X9_leastFrom_37 (k := ?_)
          refine X9_leastFrom_38 (k := ?_)
          refine X9_leastFrom_39 (k := ?_)
          refine X9_leastFrom_41 (k := ?_)
          refine s4_howFar rfl (Or.inr ⟨by omega, by omega⟩) (Or.inr ⟨by omega, by omega⟩) hx.1 ?_
          refine X9_leastFrom_44 (k := ?_)
          refine X9_leastFrom_45 (k := ?_)
          refine X9_leastFrom_48 (k := ?_)
          refine X9_leastFrom_49 (k := ?_)
          refine X9_leastFrom_50 (k := ?_)
          refine X9_leastFrom_52 (k := ?_)
          refine X9_leastFrom_53 (k := ?_)
          rw [zshl_1, zxor_n]
          refine X9_leastFrom_54 (k := ?_)
          refine X9_leastFrom_55 (k := ?_)
          refine X9_leastFrom_56 (k := ?_)
          refine X9_leastFrom_58 (k := ?_)
          refine X9_leastFrom_59 (k := ?_)
          rw [show (((s ^^^ 2 ^ y : Nat) : Int) * 5 + y).toNat = 5 * (s ^^^ 2 ^ y) + y by omega, hT _ y (by omega) (by omega) hy]
          refine X9_leastFrom_60 (k := ?_)
          refine X9_leastFrom_61 (k := ?_)
          refine X9_leastFrom_63 (k := ?_)
          refine X9_leastFrom_65 (k := ?_)
          refine X9_leastFrom_67 (k := ?_)
          refine X9_leastFrom_70 (k := ?_)
          refine X9_leastFrom_72 (k := ?_)
          refine X9_leastFrom_75 (k := ?_)
          rw [e, if_pos rfl] at ih
          exact ih _) 0 (Nat.zero_le _)
    exact this _
  · have z : s = 0 := by omega
    subst z
    rw [mM_0] at h
    refine X9_leastFrom_4 (k := ?_)
    refine X9_leastFrom_5 (k := ?_)
    refine X9_leastFrom_6 (k := ?_)
    refine X9_leastFrom_7 (k := ?_)
    refine s4_howFar rfl (Or.inr ⟨by omega, by omega⟩) (Or.inl rfl) hx.1 ?_
    refine X9_leastFrom_10 (hq := ?_)
    exact h
theorem s9_fill {Q : z_M → Prop} (hx : rpx I 8 A P L) (h : ∀ I', tabT I' A L (2 ^ L) → (∀ k, k ≠ 58 → I' k = I k) → Q I') : CX9_fill [aR 57, aR 8] I Q := by
  have hA := rpx_A hx
  have hL := hA.2.2.2.1
  have h5 : 2 ^ L ≤ 2 ^ 5 := Nat.pow_le_pow_right (by decide) hL
  refine eX9_fill ?_
  refine X9_fill_0 (k := ?_)
  refine X9_fill_1 (k := ?_)
  refine X9_fill_2 (k := ?_)
  rw [(rpx_C hx).2.1]
  refine X9_fill_5 (k := ?_)
  rw [zshl_1]
  refine X9_fill_6 (k := ?_)
  refine X9_fill_7 (k := ?_)
  refine X9_fill_8 (k := ?_)
  have := z_for (2 ^ L) (fun s => ∀ (I1 : z_M) (v : z_V), tabT I1 A L s → (∀ k, k ≠ 58 → I1 k = I k) → JX9_fill Q 9 [aR 57, aR 8, aI (2 ^ L : Nat), aI s, v] [] I1) (by
    intro I1 v f1 f2
    refine X9_fill_9 (k := ?_)
    refine X9_fill_10 (k := ?_)
    refine X9_fill_11 (kt := fun k11 => ?_) (kf := fun k11 => ?_)
    · refine X9_fill_57 (hq := ?_)
      exact h I1 f1 f2
    · omega) (fun s hs ih => by
    intro I1 v f1 f2
    refine X9_fill_9 (k := ?_)
    refine X9_fill_10 (k := ?_)
    refine X9_fill_11 (kt := fun k11 => ?_) (kf := fun k11 => ?_)
    · omega
    · refine X9_fill_14 (k := ?_)
      refine X9_fill_15 (k := ?_)
      refine z_for L (fun y => ∀ I2 : z_M, tabT I2 A L s → (∀ z, z < y → I2 58 (5 * s + z) = mM A L s z) → (∀ k, k ≠ 58 → I2 k = I k) → JX9_fill Q 17 [aR 57, aR 8, aI (2 ^ L : Nat), aI s, aI y] [] I2) ?_ (fun y hy ihy => ?_) 0 (Nat.zero_le _) I1 f1 (fun z hz => absurd hz (Nat.not_lt_zero z)) f2
      · intro I2 g1 g2 g3
        refine X9_fill_17 (k := ?_)
        refine X9_fill_19 (k := ?_)
        refine X9_fill_20 (k := ?_)
        rw [g3 8 (by decide), (rpx_C hx).2.1]
        refine X9_fill_23 (kt := fun k23 => ?_) (kf := fun k23 => ?_)
        · refine X9_fill_51 (k := ?_)
          refine X9_fill_54 (k := ?_)
          refine ih I2 _ (fun t z ht ht2 hz => ?_) g3
          by_cases w : t = s
          · subst w
            exact g2 z hz
          · exact g1 t z (by omega) ht2 hz
        · omega
      · intro I2 g1 g2 g3
        refine X9_fill_17 (k := ?_)
        refine X9_fill_19 (k := ?_)
        refine X9_fill_20 (k := ?_)
        rw [g3 8 (by decide), (rpx_C hx).2.1]
        refine X9_fill_23 (kt := fun k23 => ?_) (kf := fun k23 => ?_)
        · omega
        · refine X9_fill_26 (k := ?_)
          refine X9_fill_27 (k := ?_)
          refine X9_fill_30 (k := ?_)
          refine X9_fill_31 (k := ?_)
          refine X9_fill_32 (k := ?_)
          refine X9_fill_33 (k := ?_)
          refine X9_fill_35 (k := ?_)
          refine X9_fill_36 (k := ?_)
          refine X9_fill_37 (k := ?_)
          refine X9_fill_38 (k := ?_)
          refine X9_fill_39 (k := ?_)
          refine X9_fill_41 (k := ?_)
          refine s9_leastFrom (rpx_cg hx (fun k k1 k2 => g3 k (by omega))) hs hy g1 ?_
          refine X9_fill_44 (k := ?_)
          refine X9_fill_45 (k := ?_)
          refine X9_fill_48 (k := ?_)
          rw [show ((s : Int) * 5 + y).toNat = 5 * s + y by omega]
          refine ihy _ (fun t z ht ht2 hz => ?_) (fun z hz => ?_) (fun k hk => by rw [z_up_n hk]; exact g3 k hk)
          · rw [z_up_s, zu_n (by omega)]
            exact g1 t z ht ht2 hz
          · rw [z_up_s]
            by_cases w : z = y
            · subst w
              rw [zu_s]
            · rw [zu_n (by omega)]
              exact g2 z (by omega)) 0 (Nat.zero_le _)
  exact this I _ (fun t z ht => absurd ht (Nat.not_lt_zero t)) (fun _ _ => rfl)
end PZ

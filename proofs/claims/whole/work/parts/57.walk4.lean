/-! walk: find -/
section QA
variable {I I' : z_M} {b c : Nat} {A A' : Nat → Int} {P L : Nat}
def fnd (f : Nat → Bool) (g : Nat → Int) : Nat → Int × Int
  | 0 => (1000000, -1)
  | y + 1 => if f y = true ∧ g y < (fnd f g y).1 then (g y, (y : Int)) else fnd f g y
theorem fnd_r {f : Nat → Bool} {g : Nat → Int} : ∀ n, (fnd f g n).1 ≤ 1000000 ∧ -1 ≤ (fnd f g n).2 ∧ (fnd f g n).2 < n
  | 0 => ⟨by unfold fnd; decide, by unfold fnd; decide, by unfold fnd; decide⟩
  | n + 1 => by
    have ih := fnd_r (f := f) (g := g) n
    unfold fnd
    split
    · dsimp only
      omega
    · omega
def gF (A : Nat → Int) (L s y : Nat) : Int := pFar A (-1) y + mM A L (s ^^^ 2 ^ y) y
def wR (A : Nat → Int) (L s : Nat) : Int × Int := if s = 0 then (0, -1) else fnd (Nat.testBit s) (gF A L s) L
theorem s9_find {Q : z_M → Prop} {s : Nat} (hx : rpx I 8 A P L) (hs : s < 2 ^ L) (h : ∀ I', I' 57 0 = (wR A L s).1 → I' 57 1 = (wR A L s).2 → (∀ k, k ≠ 57 → k ≠ 58 → I' k = I k) → Q I') : CX9_find [aR 57, aR 8, aI s] I Q := by
  have hA := rpx_A hx
  have hL := hA.2.2.2.1
  have h5 : 2 ^ L ≤ 2 ^ 5 := Nat.pow_le_pow_right (by decide) hL
  unfold wR at h
  refine eX9_find ?_
  refine X9_find_0 (k := ?_)
  refine X9_find_1 (k := ?_)
  refine X9_find_2 (k := ?_)
  refine s9_fill hx (fun I1 T ef => ?_)
  refine X9_find_5 (k := ?_)
  refine X9_find_6 (k := ?_)
  refine X9_find_7 (k := ?_)
  refine X9_find_10 (k := ?_)
  refine X9_find_11 (k := ?_)
  refine X9_find_12 (k := ?_)
  refine X9_find_15 (k := ?_)
  refine X9_find_16 (kt := fun k16 => ?_) (kf := fun k16 => ?_)
  · have z : s ≠ 0 := by omega
    rw [if_neg z] at h
    refine X9_find_20 (k := ?_)
    refine X9_find_21 (k := ?_)
    refine X9_find_23 (k := ?_)
    refine X9_find_26 (k := ?_)
    refine X9_find_27 (k := ?_)
    have := z_for L (fun y => ∀ (I2 : z_M) (v : z_V), I2 57 0 = (fnd (Nat.testBit s) (gF A L s) y).1 → I2 57 1 = (fnd (Nat.testBit s) (gF A L s) y).2 → (∀ k, k ≠ 57 → I2 k = I1 k) → JX9_find Q 28 [aR 57, aR 8, aI s, aI y, v] [] I2) (by
      intro I2 v f1 f2 f3
      refine X9_find_28 (k := ?_)
      refine X9_find_29 (k := ?_)
      refine X9_find_30 (k := ?_)
      rw [f3 8 (by decide), ef 8 (by decide), (rpx_C hx).2.1]
      refine X9_find_33 (kt := fun k33 => ?_) (kf := fun k33 => ?_)
      · refine X9_find_94 (hq := ?_)
        exact h I2 f1 f2 (fun k k1 k2 => by rw [f3 k k1]; exact ef k k2)
      · omega) (fun y hy ih => by
      intro I2 v f1 f2 f3
      have hfr := fnd_r (f := Nat.testBit s) (g := gF A L s) y
      have hfs : fnd (Nat.testBit s) (gF A L s) (y + 1) = if Nat.testBit s y = true ∧ gF A L s y < (fnd (Nat.testBit s) (gF A L s) y).1 then (gF A L s y, (y : Int)) else fnd (Nat.testBit s) (gF A L s) y := rfl
      refine X9_find_28 (k := ?_)
      refine X9_find_29 (k := ?_)
      refine X9_find_30 (k := ?_)
      rw [f3 8 (by decide), ef 8 (by decide), (rpx_C hx).2.1]
      refine X9_find_33 (kt := fun k33 => ?_) (kf := fun k33 => ?_)
      · omega
      · refine X9_find_36 (k := ?_)
        refine X9_find_37 (k := ?_)
        refine X9_find_38 (k := ?_)
        refine X9_find_39 (k := ?_)
        refine X9_find_40 (k := ?_)
        refine X9_find_41 (k := ?_)
        rw [bit_of hs hy]
        refine X9_find_42 (kt := fun k42 => ?_) (kf := fun k42 => ?_)
        · have e : Nat.testBit s y = false := by
            cases q : Nat.testBit s y
            · rfl
            · rw [q] at k42
              exact absurd rfl k42
          refine X9_find_88 (k := ?_)
          refine X9_find_91 (k := ?_)
          rw [if_neg (by rw [e]; simp)] at hfs
          rw [hfs] at ih
          exact ih I2 _ f1 f2 f3
        · have e : Nat.testBit s y = true := by
            cases q : Nat.testBit s y
            · rw [q] at k42
              exact absurd k42 (by decide)
            · rfl
          have hxb := (xor_bit hs hy e).2
          have hp : 0 < 2 ^ y := Nat.pow_pos (by decide)
          have hr1 := pFar_r hA (x := -1) (y := (y : Int)) (Or.inl rfl) (Or.inr ⟨by omega, by omega⟩)
          have hr2 := mM_r hA s (s ^^^ 2 ^ y) (y : Int) (by omega) (by omega) (Or.inr ⟨by omega, by omega⟩)
          have hx2 : rpx I2 8 A P L := rpx_cg hx (fun k k1 k2 => by rw [f3 k (by omega), ef k (by omega)])
          refine X9_find_45 (k := ?_)
          refine X9_find_46 (k := ?_)
          refine X9_find_47 (k := ?_)
          refine X9_find_48 (k := ?_)
          refine s4_howFar rfl (Or.inl rfl) (Or.inr ⟨by omega, by omega⟩) hx2.1 ?_
          refine X9_find_51 (k := ?_)
          refine X9_find_52 (k := ?_)
          refine X9_find_55 (k := ?_)
          refine X9_find_56 (k := ?_)
          refine X9_find_57 (k := ?_)
          refine X9_find_58 (k := ?_)
          refine X9_find_59 (k := ?_)
          rw [zshl_1, zxor_n]
          refine X9_find_60 (k := ?_)
          refine X9_find_61 (k := ?_)
          refine X9_find_62 (k := ?_)
          refine X9_find_63 (k := ?_)
          refine X9_find_64 (k := ?_)
          rw [show (((s ^^^ 2 ^ y : Nat) : Int) * 5 + y).toNat = 5 * (s ^^^ 2 ^ y) + y by omega, f3 58 (by decide), T _ y (by omega) (by omega) hy]
          refine X9_find_65 (k := ?_)
          rw [show pFar A (-1) y + mM A L (s ^^^ 2 ^ y) y = gF A L s y from rfl]
          refine X9_find_66 (k := ?_)
          refine X9_find_68 (k := ?_)
          refine X9_find_70 (k := ?_)
          refine X9_find_71 (k := ?_)
          rw [f1]
          refine X9_find_74 (kt := fun k74 => ?_) (kf := fun k74 => ?_)
          · refine X9_find_88 (k := ?_)
            refine X9_find_91 (k := ?_)
            rw [if_neg (by omega)] at hfs
            rw [hfs] at ih
            exact ih I2 _ f1 f2 f3
          · refine X9_find_77 (k := ?_)
            refine X9_find_78 (k := ?_)
            refine X9_find_80 (k := ?_)
            refine X9_find_83 (k := ?_)
            refine X9_find_84 (k := ?_)
            refine X9_find_85 (k := ?_)
            refine X9_find_88 (k := ?_)
            refine X9_find_91 (k := ?_)
            rw [if_pos ⟨e, by omega⟩] at hfs
            rw [hfs] at ih
            exact ih _ _ (by simp [z_up]) (by simp [z_up]) (fun k hk => by rw [z_up_n hk, z_up_n hk]; exact f3 k hk)) 0 (Nat.zero_le _)
    exact this _ _ (by simp [z_up, fnd]) (by simp [z_up, fnd]) (fun k hk => by rw [z_up_n hk, z_up_n hk, z_up_n hk])
  · have z : s = 0 := by omega
    rw [if_pos z] at h
    refine X9_find_19 (hq := ?_)
    refine h _ (by simp [z_up]) (by simp [z_up]) (fun k k1 k2 => by rw [z_up_n k1, z_up_n k1]; exact ef k k2)
end QA

/-! walk, the model's side: an order's length -/
section QB
variable {I I' : z_M} {b c : Nat} {A A' : Nat → Int} {P L : Nat}
theorem pFar_sym {x y : Int} : pFar A x y = pFar A y x := by
  unfold pFar dI
  split <;> split <;> split <;> split <;> omega
theorem s11_apart {Q : Int → z_M → Prop} {x y : Int} (hx : 0 ≤ x ∧ x ≤ 30) (hy : 0 ≤ y ∧ y ≤ 30) (h : Q (dI (x - y)) I) : CX11_apart [aI x, aI y] I Q := by
  unfold dI at h
  refine eX11_apart ?_
  refine X11_apart_0 (k := ?_)
  refine X11_apart_1 (k := ?_)
  refine X11_apart_2 (kt := fun k2 => ?_) (kf := fun k2 => ?_)
  · refine X11_apart_11 (k := ?_)
    refine X11_apart_12 (k := ?_)
    refine X11_apart_13 (k := ?_)
    refine X11_apart_14 (hq := ?_)
    by_cases z : 0 ≤ x - y
    · rw [if_pos z] at h
      rw [show y - x = x - y by omega]
      exact h
    · rw [if_neg z] at h
      rw [show y - x = -(x - y) by omega]
      exact h
  · refine X11_apart_5 (k := ?_)
    refine X11_apart_6 (k := ?_)
    refine X11_apart_7 (k := ?_)
    refine X11_apart_8 (k := ?_)
    refine X11_apart_14 (hq := ?_)
    rw [if_pos (by omega)] at h
    exact h
theorem s11_between {Q : Int → z_M → Prop} {x y : Nat} (hx : x < L) (hy : y < L) (hA : wfA A P L) (hI : I 61 = A) (h : Q (pFar A x y) I) : CX11_between [aR 60, aI x, aI y] I Q := by
  have hL := hA.2.2.2.1
  obtain ⟨-, -, -, a3, a4⟩ := hA.2.2.2.2.1 x hx
  obtain ⟨-, -, -, b3, b4⟩ := hA.2.2.2.2.1 y hy
  have e : pFar A x y = dI (A (5 + 5 * x + 3) - A (5 + 5 * y + 3)) + dI (A (5 + 5 * x + 4) - A (5 + 5 * y + 4)) := by
    unfold pFar cE cN
    rw [if_neg (show ¬ (x : Int) = -1 by omega), if_neg (show ¬ (y : Int) = -1 by omega), if_neg (show ¬ (x : Int) = -1 by omega), if_neg (show ¬ (y : Int) = -1 by omega), Int.toNat_natCast, Int.toNat_natCast]
  have d1 := @dI_r (A (5 + 5 * x + 3) - A (5 + 5 * y + 3))
  have d2 := @dI_r (A (5 + 5 * x + 4) - A (5 + 5 * y + 4))
  rw [e] at h
  refine eX11_between ?_
  refine X11_between_0 (k := ?_)
  refine X11_between_1 (k := ?_)
  refine X11_between_2 (k := ?_)
  refine X11_between_3 (k := ?_)
  refine s11_placeHas (n := x) (k := 3) rfl rfl (by omega) ?_
  rw [hI]
  refine X11_between_6 (k := ?_)
  refine X11_between_7 (k := ?_)
  refine X11_between_8 (k := ?_)
  refine X11_between_9 (k := ?_)
  refine s11_placeHas (n := y) (k := 3) rfl rfl (by omega) ?_
  rw [hI]
  refine X11_between_12 (k := ?_)
  refine s11_apart a3 b3 ?_
  refine X11_between_15 (k := ?_)
  refine X11_between_16 (k := ?_)
  refine X11_between_17 (k := ?_)
  refine X11_between_18 (k := ?_)
  refine s11_placeHas (n := x) (k := 4) rfl rfl (by omega) ?_
  rw [hI]
  refine X11_between_21 (k := ?_)
  refine X11_between_22 (k := ?_)
  refine X11_between_23 (k := ?_)
  refine X11_between_24 (k := ?_)
  refine s11_placeHas (n := y) (k := 4) rfl rfl (by omega) ?_
  rw [hI]
  refine X11_between_27 (k := ?_)
  refine s11_apart a4 b4 ?_
  refine X11_between_30 (k := ?_)
  refine X11_between_31 (hq := ?_)
  exact h
/-- the way along the order o: its first n steps between places -/
def wB (A : Nat → Int) (o : Nat → Nat) : Nat → Int
  | 0 => 0
  | i + 1 => wB A o i + pFar A (o i) (o (i + 1))
def wL (A : Nat → Int) (o : Nat → Nat) (k : Nat) : Int := pFar A (-1) (o 0) + wB A o (k - 1) + pFar A (o (k - 1)) (-1)
theorem wB_r {o : Nat → Nat} {k : Nat} (hA : wfA A P L) (ho : ∀ i, i < k → o i < L) : ∀ i, i + 1 ≤ k → 0 ≤ wB A o i ∧ wB A o i ≤ 60 * i
  | 0, _ => ⟨by unfold wB; decide, by unfold wB; decide⟩
  | i + 1, h => by
    have ih := wB_r hA ho i (by omega)
    have h1 := ho i (by omega)
    have h2 := ho (i + 1) (by omega)
    have h3 := pFar_r hA (x := (o i : Int)) (y := (o (i + 1) : Int)) (Or.inr ⟨by omega, by omega⟩) (Or.inr ⟨by omega, by omega⟩)
    unfold wB
    omega
theorem s11_longOf {Q : Int → z_M → Prop} {o : Nat → Nat} {k : Nat} (hk : 0 < k) (hk5 : k ≤ 5) (hA : wfA A P L) (hI : I 61 = A) (hO : ∀ i, i < k → I 69 i = (o i : Int)) (ho : ∀ i, i < k → o i < L) (h : Q (wL A o k) I) : CX11_longOf [aR 60, aI k] I Q := by
  have h0 := ho 0 hk
  have hl := ho (k - 1) (by omega)
  have r0 := pFar_r hA (x := -1) (y := (o 0 : Int)) (Or.inl rfl) (Or.inr ⟨by omega, by omega⟩)
  have r1 := pFar_r hA (x := -1) (y := (o (k - 1) : Int)) (Or.inl rfl) (Or.inr ⟨by omega, by omega⟩)
  refine eX11_longOf ?_
  refine X11_longOf_0 (k := ?_)
  refine X11_longOf_1 (k := ?_)
  refine X11_longOf_2 (k := ?_)
  refine X11_longOf_5 (k := ?_)
  refine X11_longOf_6 (k := ?_)
  rw [show (0 : Int).toNat = 0 from rfl, hO 0 hk]
  refine X11_longOf_7 (k := ?_)
  refine s11_farOf h0 hA hI ?_
  refine X11_longOf_10 (k := ?_)
  refine X11_longOf_11 (k := ?_)
  refine X11_longOf_12 (k := ?_)
  refine X11_longOf_15 (k := ?_)
  refine X11_longOf_16 (k := ?_)
  refine X11_longOf_17 (k := ?_)
  refine X11_longOf_18 (k := ?_)
  rw [show ((k : Int) - 1).toNat = k - 1 by omega, hO (k - 1) (by omega)]
  refine X11_longOf_19 (k := ?_)
  refine s11_farOf hl hA hI ?_
  refine X11_longOf_22 (k := ?_)
  refine X11_longOf_23 (k := ?_)
  refine X11_longOf_24 (k := ?_)
  refine X11_longOf_25 (k := ?_)
  have := z_for (k - 1) (fun i => JX11_longOf Q 26 [aR 60, aI k, aI (pFar A (-1) (o 0) + pFar A (-1) (o (k - 1)) + wB A o i), aI ((i : Int) + 1)] [] I) (by
    refine X11_longOf_26 (k := ?_)
    refine X11_longOf_27 (k := ?_)
    refine X11_longOf_28 (kt := fun k28 => ?_) (kf := fun k28 => ?_)
    · refine X11_longOf_58 (k := ?_)
      refine X11_longOf_59 (hq := ?_)
      rw [show pFar A (-1) (o 0) + pFar A (-1) (o (k - 1)) + wB A o (k - 1) = wL A o k by unfold wL; rw [@pFar_sym A (o (k - 1)) (-1)]; omega]
      exact h
    · omega) (fun i hi ih => by
    have hw := wB_r hA ho i (by omega)
    have h1 := ho i (by omega)
    have h2 := ho (i + 1) (by omega)
    have h3 := pFar_r hA (x := (o i : Int)) (y := (o (i + 1) : Int)) (Or.inr ⟨by omega, by omega⟩) (Or.inr ⟨by omega, by omega⟩)
    refine X11_longOf_26 (k := ?_)
    refine X11_longOf_27 (k := ?_)
    refine X11_longOf_28 (kt := fun k28 => ?_) (kf := fun k28 => ?_)
    · omega
    · refine X11_longOf_31 (k := ?_)
      refine X11_longOf_32 (k := ?_)
      refine X11_longOf_33 (k := ?_)
      refine X11_longOf_34 (k := ?_)
      refine X11_longOf_37 (k := ?_)
      refine X11_longOf_38 (k := ?_)
      refine X11_longOf_39 (k := ?_)
      refine X11_longOf_40 (k := ?_)
      rw [show ((i : Int) + 1 - 1).toNat = i by omega, hO i (by omega)]
      refine X11_longOf_41 (k := ?_)
      refine X11_longOf_42 (k := ?_)
      refine X11_longOf_45 (k := ?_)
      refine X11_longOf_46 (k := ?_)
      rw [show ((i : Int) + 1).toNat = i + 1 by omega, hO (i + 1) (by omega)]
      refine X11_longOf_47 (k := ?_)
      refine s11_between h1 h2 hA hI ?_
      refine X11_longOf_50 (k := ?_)
      refine X11_longOf_51 (k := ?_)
      refine X11_longOf_52 (k := ?_)
      refine X11_longOf_55 (k := ?_)
      rw [show pFar A (-1) (o 0) + pFar A (-1) (o (k - 1)) + wB A o i + pFar A (o i) (o (i + 1)) = pFar A (-1) (o 0) + pFar A (-1) (o (k - 1)) + wB A o (i + 1) by rw [show wB A o (i + 1) = wB A o i + pFar A (o i) (o (i + 1)) from rfl]; omega]
      exact ih) 0 (Nat.zero_le _)
  rw [show pFar A (-1) (o 0) + pFar A (-1) (o (k - 1)) + wB A o 0 = pFar A (-1) (o 0) + pFar A (-1) (o (k - 1)) by unfold wB; omega] at this
  exact this
end QB

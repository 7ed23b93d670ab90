/-! walk: ways as lists; the least by sets is the least of the orders -/
section QF
variable {A : Nat → Int} {P L : Nat}
def wl (A : Nat → Int) : Int → List Nat → Int
  | here, [] => pFar A here (-1)
  | here, y :: l => pFar A here y + wl A y l
/-- l is an order of the set s -/
def isP (L : Nat) : Nat → List Nat → Bool
  | s, [] => decide (s = 0)
  | s, y :: l => Nat.testBit s y && decide (y < L) && isP L (s ^^^ 2 ^ y) l
def en (L : Nat) : Nat → Nat → List (List Nat)
  | 0, _ => [[]]
  | n + 1, s => if s = 0 then [[]] else (List.range L).flatMap (fun y => if Nat.testBit s y then (en L n (s ^^^ 2 ^ y)).map (y :: ·) else [])
theorem mF_le {f : Nat → Bool} {g : Nat → Int} {y : Nat} (e : f y = true) : ∀ n, y < n → mF f g n ≤ g y
  | 0, h => absurd h (Nat.not_lt_zero y)
  | n + 1, h => by
    rw [mF]
    by_cases z : y = n
    · subst z
      rw [e]
      simp only [if_true]
      split <;> omega
    · have ih := mF_le (g := g) e n (by omega)
      split
      · split <;> omega
      · exact ih
theorem mF_at {f : Nat → Bool} {g : Nat → Int} : ∀ n, mF f g n < 1000000 → ∃ y, y < n ∧ f y = true ∧ mF f g n = g y
  | 0, h => absurd h (by unfold mF; decide)
  | n + 1, h => by
    rw [mF] at h ⊢
    cases e : f n
    · rw [e] at h
      simp only [Bool.false_eq_true, if_false] at h ⊢
      obtain ⟨y, h1, h2, h3⟩ := mF_at n h
      exact ⟨y, by omega, h2, h3⟩
    · rw [e] at h
      simp only [if_true] at h ⊢
      by_cases z : g n < mF f g n
      · rw [if_pos z]
        exact ⟨n, by omega, e, rfl⟩
      · rw [if_neg z] at h ⊢
        obtain ⟨y, h1, h2, h3⟩ := mF_at n h
        exact ⟨y, by omega, h2, h3⟩
theorem wl_lo : ∀ (l : List Nat) (s : Nat) (here : Int), s < 2 ^ L → isP L s l = true → mM A L s here ≤ wl A here l
  | [], s, here, _, h => by
    have : s = 0 := of_decide_eq_true h
    subst this
    rw [mM_0]
    exact Int.le_refl _
  | y :: l, s, here, hs, h => by
    unfold isP at h
    rw [Bool.and_eq_true, Bool.and_eq_true, decide_eq_true_iff] at h
    obtain ⟨⟨h1, h2⟩, h3⟩ := h
    have hx := (xor_bit hs h2 h1).2
    have hp : 0 < 2 ^ y := Nat.pow_pos (by decide)
    rw [mM_s hs (by omega)]
    have a := mF_le (g := fun y => pFar A here y + mM A L (s ^^^ 2 ^ y) y) h1 L h2
    have b := wl_lo l (s ^^^ 2 ^ y) y (by omega) h3
    rw [wl]
    omega
theorem bit_ex {s : Nat} (hs : s < 2 ^ L) (h0 : s ≠ 0) : ∃ y, y < L ∧ Nat.testBit s y = true := by
  apply Decidable.byContradiction
  intro q
  apply h0
  refine Nat.eq_of_testBit_eq (fun i => ?_)
  rw [Nat.zero_testBit]
  by_cases z : i < L
  · cases e : Nat.testBit s i
    · rfl
    · exact absurd ⟨i, z, e⟩ q
  · exact Nat.testBit_lt_two_pow (Nat.lt_of_lt_of_le hs (Nat.pow_le_pow_right (by decide) (by omega)))
theorem mM_b (hA : wfA A P L) : ∀ (n s : Nat) (here : Int), s ≤ n → s < 2 ^ L → (here = -1 ∨ (0 ≤ here ∧ here < L)) → mM A L s here ≤ 60 * (s + 1)
  | 0, s, here, h, _, hh => by
    have : s = 0 := by omega
    subst this
    rw [mM_0]
    have := pFar_r hA hh (Or.inl rfl)
    omega
  | n + 1, s, here, h, hs, hh => by
    by_cases z : s = 0
    · subst z
      rw [mM_0]
      have := pFar_r hA hh (Or.inl rfl)
      omega
    · obtain ⟨y, hy, e⟩ := bit_ex hs z
      rw [mM_s hs z]
      have a := mF_le (g := fun y => pFar A here y + mM A L (s ^^^ 2 ^ y) y) e L hy
      have hx := (xor_bit hs hy e).2
      have hp : 0 < 2 ^ y := Nat.pow_pos (by decide)
      have h1 := mM_b hA n (s ^^^ 2 ^ y) y (by omega) (by omega) (Or.inr ⟨by omega, by omega⟩)
      have h2 := pFar_r hA hh (y := (y : Int)) (Or.inr ⟨by omega, by omega⟩)
      omega
theorem wl_at (hA : wfA A P L) : ∀ (n s : Nat) (here : Int), s ≤ n → s < 2 ^ L → (here = -1 ∨ (0 ≤ here ∧ here < L)) → ∃ l, isP L s l = true ∧ wl A here l = mM A L s here
  | 0, s, here, h, _, _ => by
    have : s = 0 := by omega
    subst this
    exact ⟨[], rfl, rfl⟩
  | n + 1, s, here, h, hs, hh => by
    by_cases z : s = 0
    · subst z
      exact ⟨[], rfl, rfl⟩
    · have hL := hA.2.2.2.1
      have h5 : 2 ^ L ≤ 2 ^ 5 := Nat.pow_le_pow_right (by decide) hL
      have hb := mM_b hA s s here (Nat.le_refl _) hs hh
      rw [mM_s hs z] at hb ⊢
      obtain ⟨y, hy, e, hm⟩ := mF_at L (show mF (Nat.testBit s) (fun y => pFar A here y + mM A L (s ^^^ 2 ^ y) y) L < 1000000 by omega)
      have hx := (xor_bit hs hy e).2
      have hp : 0 < 2 ^ y := Nat.pow_pos (by decide)
      obtain ⟨l, l1, l2⟩ := wl_at hA n (s ^^^ 2 ^ y) y (by omega) (by omega) (Or.inr ⟨by omega, by omega⟩)
      refine ⟨y :: l, ?_, ?_⟩
      · unfold isP
        rw [e, decide_eq_true hy, l1]
        rfl
      · rw [wl, l2, hm]
theorem en_of : ∀ (n s : Nat) (l : List Nat), s ≤ n → s < 2 ^ L → isP L s l = true → l ∈ en L n s
  | 0, s, [], _, _, _ => List.mem_singleton.2 rfl
  | 0, s, y :: l, h, hs, e => by
    have : s = 0 := by omega
    subst this
    unfold isP at e
    rw [Nat.zero_testBit] at e
    exact absurd e (by simp)
  | n + 1, s, [], _, _, e => by
    have : s = 0 := of_decide_eq_true e
    rw [en, if_pos this]
    exact List.mem_singleton.2 rfl
  | n + 1, s, y :: l, h, hs, e => by
    unfold isP at e
    rw [Bool.and_eq_true, Bool.and_eq_true, decide_eq_true_iff] at e
    obtain ⟨⟨h1, h2⟩, h3⟩ := e
    have hx := (xor_bit hs h2 h1).2
    have hp : 0 < 2 ^ y := Nat.pow_pos (by decide)
    rw [en, if_neg (by omega)]
    refine List.mem_flatMap.2 ⟨y, List.mem_range.2 h2, ?_⟩
    rw [h1, if_pos rfl]
    exact List.mem_map.2 ⟨l, en_of n (s ^^^ 2 ^ y) l (by omega) (by omega) h3, rfl⟩
/-- the least, and of these the one with the least second -/
def lx (xs : List (Int × Int)) (r : Int × Int) : Prop := r ∈ xs ∧ ∀ x, x ∈ xs → r.1 ≤ x.1 ∧ (x.1 = r.1 → r.2 ≤ x.2)
def st2 (b x : Int × Int) : Int × Int := if x.1 < b.1 then x else b
theorem st2_fold : ∀ (xs : List (Int × Int)) (b : Int × Int), xs.Pairwise (fun x y => x.2 ≤ y.2) → (∀ x, x ∈ xs → b.2 ≤ x.2) → lx (b :: xs) (xs.foldl st2 b)
  | [], b, _, _ => ⟨List.mem_singleton.2 rfl, fun x hx => by
      have : x = b := List.mem_singleton.1 hx
      subst this
      exact ⟨Int.le_refl _, fun _ => Int.le_refl _⟩⟩
  | x :: xs, b, h, hb => by
    rw [List.pairwise_cons] at h
    have hbx := hb x (List.mem_cons_self ..)
    have hs : st2 b x = x ∨ st2 b x = b := by
      unfold st2
      split
      · exact Or.inl rfl
      · exact Or.inr rfl
    have h1 : (st2 b x).1 ≤ b.1 ∧ (st2 b x).1 ≤ x.1 ∧ (b.1 = (st2 b x).1 → (st2 b x).2 ≤ b.2) ∧ (st2 b x).2 ≤ x.2 := by
      unfold st2
      split
      · exact ⟨by omega, by omega, fun q => by omega, Int.le_refl _⟩
      · exact ⟨by omega, by omega, fun q => by omega, by omega⟩
    obtain ⟨i1, i2⟩ := st2_fold xs (st2 b x) h.2 (fun y hy => by
      have := h.1 y hy
      omega)
    rw [List.foldl_cons]
    have i3 := i2 (st2 b x) (List.mem_cons_self ..)
    refine ⟨?_, fun y hy => ?_⟩
    · rcases List.mem_cons.1 i1 with q | q
      · rw [q]
        rcases hs with w | w
        · rw [w]
          exact List.mem_cons_of_mem _ (List.mem_cons_self ..)
        · rw [w]
          exact List.mem_cons_self ..
      · exact List.mem_cons_of_mem _ (List.mem_cons_of_mem _ q)
    · rcases List.mem_cons.1 hy with q | q
      · subst q
        exact ⟨by omega, fun w => by
          have := i3.2 (by omega)
          have := h1.2.2.1 (by omega)
          omega⟩
      · rcases List.mem_cons.1 q with w | w
        · subst w
          exact ⟨by omega, fun w => by
            have := i3.2 (by omega)
            omega⟩
        · exact i2 y (List.mem_cons_of_mem _ w)
theorem fnd_lx {f : Nat → Bool} {g : Nat → Int} : ∀ n, ((fnd f g n = (1000000, -1) ∨ ∃ y, y < n ∧ f y = true ∧ fnd f g n = (g y, (y : Int))) ∧ ∀ y, y < n → f y = true → (fnd f g n).1 ≤ g y ∧ (g y = (fnd f g n).1 → (fnd f g n).2 ≤ y))
  | 0 => ⟨Or.inl rfl, fun y hy => absurd hy (Nat.not_lt_zero y)⟩
  | n + 1 => by
    obtain ⟨i1, i2⟩ := fnd_lx (f := f) (g := g) n
    have hr := fnd_r (f := f) (g := g) n
    rw [fnd]
    by_cases z : f n = true ∧ g n < (fnd f g n).1
    · rw [if_pos z]
      refine ⟨Or.inr ⟨n, by omega, z.1, rfl⟩, fun y hy e => ?_⟩
      dsimp only
      by_cases w : y = n
      · subst w
        exact ⟨Int.le_refl _, fun _ => Int.le_refl _⟩
      · have := i2 y (by omega) e
        exact ⟨by omega, fun q => by omega⟩
    · rw [if_neg z]
      refine ⟨?_, fun y hy e => ?_⟩
      · rcases i1 with q | ⟨y, y1, y2, y3⟩
        · exact Or.inl q
        · exact Or.inr ⟨y, by omega, y2, y3⟩
      · by_cases w : y = n
        · subst w
          have : ¬ g y < (fnd f g y).1 := fun q => z ⟨e, q⟩
          exact ⟨by omega, fun q => by omega⟩
        · exact i2 y (by omega) e
/-- the orders of a set, each with its length and its first: the class' answer is the least -/
theorem wR_lx (hA : wfA A P L) {s : Nat} (hs : s < 2 ^ L) (h0 : s ≠ 0) {os : List (List Nat)} (h1 : ∀ l, l ∈ os → isP L s l = true) (h2 : ∀ l, isP L s l = true → l ∈ os) {r : Int × Int} (hr : lx ((1000000, -1) :: os.map (fun l => (wl A (-1) l, ((l.getD 0 0 : Nat) : Int)))) r) : r = wR A L s := by
  have hL := hA.2.2.2.1
  have h5 : 2 ^ L ≤ 2 ^ 5 := Nat.pow_le_pow_right (by decide) hL
  rw [show wR A L s = fnd (Nat.testBit s) (gF A L s) L from if_neg h0]
  have bd : ∀ y, y < L → Nat.testBit s y = true → gF A L s y < 1000000 := fun y hy e => by
    have hx := (xor_bit hs hy e).2
    have hp : 0 < 2 ^ y := Nat.pow_pos (by decide)
    have a := pFar_r hA (x := -1) (y := (y : Int)) (Or.inl rfl) (Or.inr ⟨by omega, by omega⟩)
    have b := mM_b hA _ (s ^^^ 2 ^ y) (y : Int) (Nat.le_refl _) (by omega) (Or.inr ⟨by omega, by omega⟩)
    unfold gF
    omega
  have A1 : ∀ l, l ∈ os → ∃ y, y < L ∧ Nat.testBit s y = true ∧ gF A L s y ≤ wl A (-1) l ∧ l.getD 0 0 = y := fun l hl => by
    have e := h1 l hl
    cases l with
    | nil => exact absurd (of_decide_eq_true e) h0
    | cons y l =>
      unfold isP at e
      rw [Bool.and_eq_true, Bool.and_eq_true, decide_eq_true_iff] at e
      obtain ⟨⟨e1, e2⟩, e3⟩ := e
      have hx := (xor_bit hs e2 e1).2
      have hp : 0 < 2 ^ y := Nat.pow_pos (by decide)
      have := wl_lo (A := A) l (s ^^^ 2 ^ y) y (by omega) e3
      exact ⟨y, e2, e1, by unfold gF; rw [wl]; omega, rfl⟩
  have A2 : ∀ y, y < L → Nat.testBit s y = true → ∃ l, l ∈ os ∧ wl A (-1) l = gF A L s y ∧ l.getD 0 0 = y := fun y hy e => by
    have hx := (xor_bit hs hy e).2
    have hp : 0 < 2 ^ y := Nat.pow_pos (by decide)
    obtain ⟨l, l1, l2⟩ := wl_at hA _ (s ^^^ 2 ^ y) (y : Int) (Nat.le_refl _) (by omega) (Or.inr ⟨by omega, by omega⟩)
    refine ⟨y :: l, h2 _ ?_, ?_, rfl⟩
    · unfold isP
      rw [e, decide_eq_true hy, l1]
      rfl
    · unfold gF
      rw [wl, l2]
  obtain ⟨f1, f2⟩ := fnd_lx (f := Nat.testBit s) (g := gF A L s) L
  obtain ⟨r1, r2⟩ := hr
  have hmem : ∀ l, l ∈ os → (wl A (-1) l, ((l.getD 0 0 : Nat) : Int)) ∈ (1000000, -1) :: os.map (fun l => (wl A (-1) l, ((l.getD 0 0 : Nat) : Int))) := fun l hl => List.mem_cons_of_mem _ (List.mem_map.2 ⟨l, hl, rfl⟩)
  obtain ⟨y0, hy0, e0⟩ := bit_ex hs h0
  have b0 := bd y0 hy0 e0
  have hf0 := f2 y0 hy0 e0
  -- the class' answer is at a place
  obtain ⟨y, y1, y2, y3⟩ : ∃ y, y < L ∧ Nat.testBit s y = true ∧ fnd (Nat.testBit s) (gF A L s) L = (gF A L s y, (y : Int)) := by
    rcases f1 with q | q
    · rw [q] at hf0
      dsimp only at hf0
      omega
    · exact q
  obtain ⟨l, l1, l2, l3⟩ := A2 y y1 y2
  have rl := r2 _ (hmem l l1)
  dsimp only at rl
  rw [l2, l3] at rl
  have by_ := bd y y1 y2
  -- the other's is at an order
  obtain ⟨l', m1, m2⟩ : ∃ l', l' ∈ os ∧ r = (wl A (-1) l', ((l'.getD 0 0 : Nat) : Int)) := by
    rcases List.mem_cons.1 r1 with q | q
    · rw [q] at rl
      dsimp only at rl
      omega
    · obtain ⟨l', q1, q2⟩ := List.mem_map.1 q
      exact ⟨l', q1, q2.symm⟩
  obtain ⟨y', z1, z2, z3, z4⟩ := A1 l' m1
  have f3 := f2 y' z1 z2
  rw [y3] at f3 ⊢
  rw [m2, z4] at rl ⊢
  dsimp only at f3 rl
  have q1 : wl A (-1) l' = gF A L s y := by omega
  have q2 := f3.2 (by omega)
  have q3 := rl.2 (by omega)
  rw [q1, show (y' : Int) = y by omega]
end QF

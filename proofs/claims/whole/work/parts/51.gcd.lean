/-! fractions: gcd, power; pipes away of a note; first of its note -/
section PU
variable {I I' : z_M} {b c : Nat} {A A' : Nat → Int} {P L : Nat}
theorem gcd_s {a b : Nat} : Nat.gcd b (a % b) = Nat.gcd a b := by
  rw [Nat.gcd_comm a b, Nat.gcd_rec b a, Nat.gcd_comm]
theorem x10_gcd {Q : Int → z_M → Prop} {a b : Nat} (ha : a < 2 ^ 40) (hb : b < 2 ^ 40) (h : Q (Nat.gcd a b : Nat) I) : CX10_greatestDivisor [aL a, aL b] I Q := by
  have go : ∀ (k a b i : Nat) (v w : z_V), a < 2 ^ 40 → b < 2 ^ 40 → b < 2 ^ k → i + 2 * k ≤ 100 → Q (Nat.gcd a b : Nat) I → JX10_greatestDivisor Q 3 [aL a, aU, aL b, aU, aI i, v, w] [] I := by
    intro k
    induction k with
    | zero =>
      intro a b i v w ha hb hk hi q
      have : b = 0 := by omega
      subst this
      rw [Nat.gcd_zero_right] at q
      refine X10_greatestDivisor_3 (k := ?_)
      refine X10_greatestDivisor_5 (k := ?_)
      refine X10_greatestDivisor_7 (kt := fun k7 => ?_) (kf := fun k7 => ?_)
      · refine X10_greatestDivisor_32 (k := ?_)
        refine X10_greatestDivisor_33 (hq := ?_)
        exact q
      · refine X10_greatestDivisor_10 (k := ?_)
        refine X10_greatestDivisor_11 (k := ?_)
        refine X10_greatestDivisor_12 (kt := fun k12 => ?_) (kf := fun k12 => ?_)
        · refine X10_greatestDivisor_32 (k := ?_)
          refine X10_greatestDivisor_33 (hq := ?_)
          exact q
        · omega
    | succ k ih =>
      intro a b i v w ha hb hk hi q
      rw [Nat.pow_succ] at hk
      refine X10_greatestDivisor_3 (k := ?_)
      refine X10_greatestDivisor_5 (k := ?_)
      refine X10_greatestDivisor_7 (kt := fun k7 => ?_) (kf := fun k7 => ?_)
      · omega
      · refine X10_greatestDivisor_10 (k := ?_)
        refine X10_greatestDivisor_11 (k := ?_)
        refine X10_greatestDivisor_12 (kt := fun k12 => ?_) (kf := fun k12 => ?_)
        · have : b = 0 := by omega
          subst this
          rw [Nat.gcd_zero_right] at q
          refine X10_greatestDivisor_32 (k := ?_)
          refine X10_greatestDivisor_33 (hq := ?_)
          exact q
        · have hr := Nat.mod_lt a (show 0 < b by omega)
          have q1 : Q (Nat.gcd b (a % b) : Nat) I := by rw [gcd_s]; exact q
          refine X10_greatestDivisor_16 (k := ?_)
          refine X10_greatestDivisor_17 (k := ?_)
          refine X10_greatestDivisor_18 (k := ?_)
          rw [show (a : Int) % (b : Int) = ((a % b : Nat) : Int) from rfl]
          generalize a % b = r at hr q1
          refine X10_greatestDivisor_19 (k := ?_)
          refine X10_greatestDivisor_21 (k := ?_)
          refine X10_greatestDivisor_22 (k := ?_)
          refine X10_greatestDivisor_23 (k := ?_)
          refine X10_greatestDivisor_25 (k := ?_)
          refine X10_greatestDivisor_26 (k := ?_)
          refine X10_greatestDivisor_29 (k := ?_)
          refine X10_greatestDivisor_3 (k := ?_)
          refine X10_greatestDivisor_5 (k := ?_)
          refine X10_greatestDivisor_7 (kt := fun k7 => ?_) (kf := fun k7 => ?_)
          · omega
          · refine X10_greatestDivisor_10 (k := ?_)
            refine X10_greatestDivisor_11 (k := ?_)
            refine X10_greatestDivisor_12 (kt := fun k12 => ?_) (kf := fun k12 => ?_)
            · have : r = 0 := by omega
              subst this
              rw [Nat.gcd_zero_right] at q1
              refine X10_greatestDivisor_32 (k := ?_)
              refine X10_greatestDivisor_33 (hq := ?_)
              exact q1
            · have hr2 := Nat.mod_lt b (show 0 < r by omega)
              have hr3 := Nat.div_add_mod b r
              have hr4 : 1 ≤ b / r := (Nat.le_div_iff_mul_le (by omega)).mpr (by omega)
              have hr5 : r ≤ r * (b / r) := Nat.le_mul_of_pos_right r hr4
              have q2 : Q (Nat.gcd r (b % r) : Nat) I := by rw [gcd_s]; exact q1
              refine X10_greatestDivisor_16 (k := ?_)
              refine X10_greatestDivisor_17 (k := ?_)
              refine X10_greatestDivisor_18 (k := ?_)
              rw [show (b : Int) % (r : Int) = ((b % r : Nat) : Int) from rfl]
              refine X10_greatestDivisor_19 (k := ?_)
              refine X10_greatestDivisor_21 (k := ?_)
              refine X10_greatestDivisor_22 (k := ?_)
              refine X10_greatestDivisor_23 (k := ?_)
              refine X10_greatestDivisor_25 (k := ?_)
              refine X10_greatestDivisor_26 (k := ?_)
              refine X10_greatestDivisor_29 (k := ?_)
              exact ih r (b % r) (i + 2) _ _ (by omega) (by omega) (by omega) (by omega) q2
  refine eX10_greatestDivisor ?_
  refine X10_greatestDivisor_0 (k := ?_)
  refine X10_greatestDivisor_1 (k := ?_)
  exact go 40 a b 0 _ _ ha hb hb (by decide) h
theorem x10_setFraction {Q : z_M → Prop} {g l : Nat} (hg : g < 2 ^ 40) (hl : 0 < l ∧ l < 2 ^ 40) (h : Q (z_up (z_up I 0 8 (g / Nat.gcd l g : Nat)) 0 9 (l / Nat.gcd l g : Nat))) : CX10_setFraction [aR 0, aL g, aL l] I Q := by
  have hp : 0 < Nat.gcd l g := Nat.gcd_pos_of_pos_left g hl.1
  refine eX10_setFraction ?_
  refine X10_setFraction_0 (k := ?_)
  refine X10_setFraction_1 (k := ?_)
  refine X10_setFraction_2 (k := ?_)
  refine x10_gcd hl.2 hg ?_
  refine X10_setFraction_5 (k := ?_)
  refine X10_setFraction_7 (k := ?_)
  refine X10_setFraction_9 (k := ?_)
  refine X10_setFraction_10 (kt := fun k10 => ?_) (kf := fun k10 => ?_)
  · omega
  · refine X10_setFraction_14 (k := ?_)
    refine X10_setFraction_15 (k := ?_)
    refine X10_setFraction_16 (k := ?_)
    refine X10_setFraction_18 (k := ?_)
    rw [show (g : Int) / ((Nat.gcd l g : Nat) : Int) = ((g / Nat.gcd l g : Nat) : Int) from rfl]
    refine X10_setFraction_19 (k := ?_)
    refine X10_setFraction_22 (k := ?_)
    refine X10_setFraction_23 (k := ?_)
    refine X10_setFraction_24 (k := ?_)
    refine X10_setFraction_26 (k := ?_)
    rw [show (l : Int) / ((Nat.gcd l g : Nat) : Int) = ((l / Nat.gcd l g : Nat) : Int) from rfl]
    refine X10_setFraction_27 (k := ?_)
    refine X10_setFraction_30 (hq := ?_)
    exact h
theorem s11_fraction {Q : z_M → Prop} {g l : Nat} (hg : g < 2 ^ 40) (hl : 0 < l ∧ l < 2 ^ 40) (h : Q (z_up (z_up I 60 4 (g / Nat.gcd g l : Nat)) 60 5 (l / Nat.gcd g l : Nat))) : CX11_fraction [aR 60, aL g, aL l] I Q := by
  have hp : 0 < Nat.gcd g l := Nat.gcd_pos_of_pos_right g hl.1
  have go : ∀ (n a b : Nat) (v w : z_V), b ≤ n → a < 2 ^ 40 → b < 2 ^ 40 → Nat.gcd a b = Nat.gcd g l → JX11_fraction Q 6 [aR 60, aL g, aU, aL l, aU, aL a, aU, aL b, aU, v, w] [] I := by
    intro n
    induction n with
    | zero =>
      intro a b v w hb ha hb2 e
      have : b = 0 := by omega
      subst this
      rw [Nat.gcd_zero_right] at e
      subst e
      refine X11_fraction_6 (k := ?_)
      refine X11_fraction_8 (k := ?_)
      refine X11_fraction_9 (kt := fun k9 => ?_) (kf := fun k9 => ?_)
      · refine X11_fraction_31 (k := ?_)
        refine X11_fraction_32 (k := ?_)
        refine X11_fraction_33 (k := ?_)
        refine X11_fraction_35 (k := ?_)
        rw [show (g : Int) / ((Nat.gcd g l : Nat) : Int) = ((g / Nat.gcd g l : Nat) : Int) from rfl]
        refine X11_fraction_36 (k := ?_)
        refine X11_fraction_39 (k := ?_)
        refine X11_fraction_40 (k := ?_)
        refine X11_fraction_41 (k := ?_)
        refine X11_fraction_43 (k := ?_)
        rw [show (l : Int) / ((Nat.gcd g l : Nat) : Int) = ((l / Nat.gcd g l : Nat) : Int) from rfl]
        refine X11_fraction_44 (k := ?_)
        refine X11_fraction_47 (hq := ?_)
        exact h
      · omega
    | succ n ih =>
      intro a b v w hb ha hb2 e
      refine X11_fraction_6 (k := ?_)
      refine X11_fraction_8 (k := ?_)
      refine X11_fraction_9 (kt := fun k9 => ?_) (kf := fun k9 => ?_)
      · have : b = 0 := by omega
        subst this
        rw [Nat.gcd_zero_right] at e
        subst e
        refine X11_fraction_31 (k := ?_)
        refine X11_fraction_32 (k := ?_)
        refine X11_fraction_33 (k := ?_)
        refine X11_fraction_35 (k := ?_)
        rw [show (g : Int) / ((Nat.gcd g l : Nat) : Int) = ((g / Nat.gcd g l : Nat) : Int) from rfl]
        refine X11_fraction_36 (k := ?_)
        refine X11_fraction_39 (k := ?_)
        refine X11_fraction_40 (k := ?_)
        refine X11_fraction_41 (k := ?_)
        refine X11_fraction_43 (k := ?_)
        rw [show (l : Int) / ((Nat.gcd g l : Nat) : Int) = ((l / Nat.gcd g l : Nat) : Int) from rfl]
        refine X11_fraction_44 (k := ?_)
        refine X11_fraction_47 (hq := ?_)
        exact h
      · have hr := Nat.mod_lt a (show 0 < b by omega)
        refine X11_fraction_13 (k := ?_)
        refine X11_fraction_15 (k := ?_)
        refine X11_fraction_17 (k := ?_)
        rw [show (a : Int) % (b : Int) = ((a % b : Nat) : Int) from rfl]
        refine X11_fraction_18 (k := ?_)
        refine X11_fraction_20 (k := ?_)
        refine X11_fraction_22 (k := ?_)
        refine X11_fraction_24 (k := ?_)
        refine X11_fraction_26 (k := ?_)
        refine X11_fraction_28 (k := ?_)
        exact ih b (a % b) _ _ (by omega) (by omega) (by omega) (gcd_s.trans e)
  refine eX11_fraction ?_
  refine X11_fraction_0 (k := ?_)
  refine X11_fraction_1 (k := ?_)
  refine X11_fraction_3 (k := ?_)
  refine X11_fraction_4 (k := ?_)
  exact go l g l _ _ (Nat.le_refl l) hg hl.2 rfl
/-- the fraction is the same when both are R times as much -/
theorem frac_eq {g l R : Nat} (hR : 0 < R) : g * R / Nat.gcd (g * R) (l * R) = g / Nat.gcd l g ∧ l * R / Nat.gcd (g * R) (l * R) = l / Nat.gcd l g := by
  rw [Nat.gcd_mul_right, Nat.gcd_comm l g]
  exact ⟨Nat.mul_div_mul_right _ _ hR, Nat.mul_div_mul_right _ _ hR⟩
theorem x10_power {Q : Int → z_M → Prop} {q k : Nat} (hq : q ≤ 10) (hk : k ≤ 8) (h : Q (q ^ k : Nat) I) : CX10_power [aL q, aI k] I Q := by
  have bd : ∀ i, i ≤ 8 → q ^ i ≤ 100000000 := fun i hi => Nat.le_trans (Nat.pow_le_pow_left hq i) (Nat.pow_le_pow_right (by decide) hi)
  refine eX10_power ?_
  refine X10_power_0 (k := ?_)
  refine X10_power_1 (k := ?_)
  refine X10_power_2 (k := ?_)
  refine X10_power_3 (k := ?_)
  refine z_for k (fun i => JX10_power Q 5 [aL q, aU, aI k, aL (q ^ i : Nat), aU, aI i] [] I) ?_ (fun i hi ih => ?_) 0 (Nat.zero_le _)
  · refine X10_power_5 (k := ?_)
    refine X10_power_7 (k := ?_)
    refine X10_power_8 (kt := fun k8 => ?_) (kf := fun k8 => ?_)
    · refine X10_power_21 (k := ?_)
      refine X10_power_22 (hq := ?_)
      exact h
    · omega
  · have e : ((q ^ i : Nat) : Int) * (q : Int) = ((q ^ (i + 1) : Nat) : Int) := by
      rw [Nat.pow_succ]
      rfl
    have hb := bd (i + 1) (by omega)
    refine X10_power_5 (k := ?_)
    refine X10_power_7 (k := ?_)
    refine X10_power_8 (kt := fun k8 => ?_) (kf := fun k8 => ?_)
    · omega
    · refine X10_power_11 (k := ?_)
      refine X10_power_12 (k := ?_)
      refine X10_power_13 (hr := by rw [e]; omega) (k := ?_)
      rw [e]
      refine X10_power_14 (k := ?_)
      refine X10_power_15 (k := ?_)
      refine X10_power_18 (k := ?_)
      exact ih
theorem s4_howManyAwayOf {Q : Int → z_M → Prop} (hb : z_cl b = 4) {hr v : Int} {K W Y tn : Nat → Int} (hP : P ≤ 8) (hI : stC I b A P L hr K W Y tn) (h : Q (z_cnt (fun p => !decide (W p = -1) && decide (tN A p = v)) P : Nat) I) : CX4_howManyAwayOf [aR b, aI v] I Q := by
  obtain ⟨o1, o2, o3, o4, o5, o6, o7, o8, o9, o10, n1, n2, n3, n4, n5, n6, n7, n8, n10⟩ := z_o hb
  refine eX4_howManyAwayOf ?_
  refine X4_howManyAwayOf_0 (k := ?_)
  refine X4_howManyAwayOf_1 (k := ?_)
  refine X4_howManyAwayOf_2 (k := ?_)
  refine X4_howManyAwayOf_3 (k := ?_)
  refine z_for P (fun i => JX4_howManyAwayOf Q 4 [aR b, aI v, aI (z_cnt (fun p => !decide (W p = -1) && decide (tN A p = v)) i : Nat), aI i] [] I) ?_ (fun i hi ih => ?_) 0 (Nat.zero_le _)
  · refine X4_howManyAwayOf_4 (k := ?_)
    refine X4_howManyAwayOf_5 (k := ?_)
    refine X4_howManyAwayOf_6 (k := ?_)
    rw [hI.2.2.1]
    refine X4_howManyAwayOf_9 (kt := fun k9 => ?_) (kf := fun k9 => ?_)
    · refine X4_howManyAwayOf_41 (k := ?_)
      refine X4_howManyAwayOf_42 (hq := ?_)
      exact h
    · omega
  · have hc := z_cnt_le (fun p => !decide (W p = -1) && decide (tN A p = v)) i
    refine X4_howManyAwayOf_4 (k := ?_)
    refine X4_howManyAwayOf_5 (k := ?_)
    refine X4_howManyAwayOf_6 (k := ?_)
    rw [hI.2.2.1]
    refine X4_howManyAwayOf_9 (kt := fun k9 => ?_) (kf := fun k9 => ?_)
    · omega
    · refine X4_howManyAwayOf_12 (k := ?_)
      refine X4_howManyAwayOf_13 (k := ?_)
      refine X4_howManyAwayOf_16 (k := ?_)
      refine X4_howManyAwayOf_17 (k := ?_)
      rw [Int.toNat_natCast, (hI.2.2.2.2 i hi).2.2.1]
      refine X4_howManyAwayOf_18 (k := ?_)
      refine X4_howManyAwayOf_19 (kt := fun k19 => ?_) (kf := fun k19 => ?_)
      · refine X4_howManyAwayOf_35 (k := ?_)
        refine X4_howManyAwayOf_38 (k := ?_)
        rw [z_cnt_f (c := fun p => !decide (W p = -1) && decide (tN A p = v)) (by rw [decide_eq_true k19]; rfl)] at ih
        exact ih
      · refine X4_howManyAwayOf_22 (k := ?_)
        refine X4_howManyAwayOf_23 (k := ?_)
        refine X4_howManyAwayOf_26 (k := ?_)
        refine X4_howManyAwayOf_27 (k := ?_)
        rw [Int.toNat_natCast, (hI.2.2.2.2 i hi).2.1]
        refine X4_howManyAwayOf_28 (k := ?_)
        refine X4_howManyAwayOf_29 (kt := fun k29 => ?_) (kf := fun k29 => ?_)
        · refine X4_howManyAwayOf_35 (k := ?_)
          refine X4_howManyAwayOf_38 (k := ?_)
          rw [z_cnt_f (c := fun p => !decide (W p = -1) && decide (tN A p = v)) (by rw [decide_eq_false (show ¬ tN A i = v from k29), Bool.and_false])] at ih
          exact ih
        · refine X4_howManyAwayOf_32 (k := ?_)
          refine X4_howManyAwayOf_35 (k := ?_)
          refine X4_howManyAwayOf_38 (k := ?_)
          rw [z_cnt_t (c := fun p => !decide (W p = -1) && decide (tN A p = v)) (by rw [decide_eq_false k19, decide_eq_true (show tN A i = v from k29)]; rfl)] at ih
          exact ih
theorem s4_isFirst {Q : Int → z_M → Prop} (hb : z_cl b = 4) {x i : Nat} (hH : rpH I b A) (hx : x < 3) (hi : (i : Int) < A (62 + 9 * x)) (h1 : (∀ j, j < i → A (63 + 9 * x + j) ≠ A (63 + 9 * x + i)) → Q 1 I) (h0 : (∃ j, j < i ∧ A (63 + 9 * x + j) = A (63 + 9 * x + i)) → Q 0 I) : CX4_isFirstOfItsNote [aR b, aI x, aI i] I Q := by
  have h8 := (hH x hx).1
  refine eX4_isFirstOfItsNote ?_
  refine X4_isFirstOfItsNote_0 (k := ?_)
  refine X4_isFirstOfItsNote_1 (k := ?_)
  refine z_for i (fun j => (∀ k, k < j → A (63 + 9 * x + k) ≠ A (63 + 9 * x + i)) → JX4_isFirstOfItsNote Q 2 [aR b, aI x, aI i, aI j] [] I) ?_ (fun j hj ih => ?_) 0 (Nat.zero_le _) (fun k hk => absurd hk (Nat.not_lt_zero k))
  · intro z
    refine X4_isFirstOfItsNote_2 (k := ?_)
    refine X4_isFirstOfItsNote_3 (k := ?_)
    refine X4_isFirstOfItsNote_4 (kt := fun k4 => ?_) (kf := fun k4 => ?_)
    · refine X4_isFirstOfItsNote_30 (k := ?_)
      refine X4_isFirstOfItsNote_31 (hq := ?_)
      exact h1 z
    · omega
  · intro z
    refine X4_isFirstOfItsNote_2 (k := ?_)
    refine X4_isFirstOfItsNote_3 (k := ?_)
    refine X4_isFirstOfItsNote_4 (kt := fun k4 => ?_) (kf := fun k4 => ?_)
    · omega
    · refine X4_isFirstOfItsNote_7 (k := ?_)
      refine X4_isFirstOfItsNote_8 (k := ?_)
      refine X4_isFirstOfItsNote_9 (k := ?_)
      refine X4_isFirstOfItsNote_10 (k := ?_)
      refine s4_hymnNote hb hH hx (by omega) ?_
      refine X4_isFirstOfItsNote_13 (k := ?_)
      refine X4_isFirstOfItsNote_14 (k := ?_)
      refine X4_isFirstOfItsNote_15 (k := ?_)
      refine X4_isFirstOfItsNote_16 (k := ?_)
      refine s4_hymnNote hb hH hx (by omega) ?_
      refine X4_isFirstOfItsNote_19 (kt := fun k19 => ?_) (kf := fun k19 => ?_)
      · refine X4_isFirstOfItsNote_24 (k := ?_)
        refine X4_isFirstOfItsNote_27 (k := ?_)
        refine ih (fun k hk => ?_)
        by_cases w : k = j
        · subst w
          exact k19
        · exact z k (by omega)
      · refine X4_isFirstOfItsNote_22 (k := ?_)
        refine X4_isFirstOfItsNote_23 (hq := ?_)
        exact h0 ⟨j, hj, k19⟩
end PU

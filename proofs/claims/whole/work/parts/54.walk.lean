/-! walk: places of pipes, the class' table -/
section PX
variable {I I' : z_M} {b c : Nat} {A A' : Nat → Int} {P L : Nat}
/-- places (bits) of the pipes of s -/
def pO (W : Nat → Int) (s : Nat → Bool) : Nat → Nat
  | 0 => 0
  | p + 1 => if s p && !decide (W p = -1) then pO W s p ||| 2 ^ (W p).toNat else pO W s p
theorem pO_lt {W : Nat → Int} {s : Nat → Bool} (h : ∀ p, p < P → -1 ≤ W p ∧ W p < L) : ∀ n, n ≤ P → pO W s n < 2 ^ L
  | 0, _ => Nat.pow_pos (by decide)
  | n + 1, hn => by
    have ih := pO_lt (s := s) h n (by omega)
    have hw := h n (by omega)
    unfold pO
    split
    · rename_i e
      rw [Bool.and_eq_true, Bool.not_eq_true', decide_eq_false_iff_not] at e
      exact Nat.or_lt_two_pow ih (Nat.pow_lt_pow_right (by decide) (by omega))
    · exact ih
theorem s4_placesOf {Q : Int → z_M → Prop} (hb : z_cl b = 4) {hr : Int} {K W Y tn : Nat → Int} {s : Nat} (hA : wfA A P L) (hS : wfS P L K W Y) (hs : s < 2 ^ P) (hI : stC I b A P L hr K W Y tn) (h : Q (pO W (Nat.testBit s) P : Nat) I) : CX4_placesOf [aR b, aI s] I Q := by
  obtain ⟨o1, o2, o3, o4, o5, o6, o7, o8, o9, o10, n1, n2, n3, n4, n5, n6, n7, n8, n10⟩ := z_o hb
  have hP := hA.2.2.1
  have hL := hA.2.2.2.1
  have hW : ∀ p, p < P → -1 ≤ W p ∧ W p < L := fun p hp => (hS p hp).2.1
  have es : s = z_bs (Nat.testBit s) P := z_bs_of hs (fun _ _ => rfl)
  have h8 : 2 ^ P ≤ 2 ^ 8 := Nat.pow_le_pow_right (by decide) hP
  have h5 : 2 ^ L ≤ 2 ^ 5 := Nat.pow_le_pow_right (by decide) hL
  refine eX4_placesOf ?_
  refine X4_placesOf_0 (k := ?_)
  refine X4_placesOf_1 (k := ?_)
  refine X4_placesOf_2 (k := ?_)
  refine X4_placesOf_3 (k := ?_)
  refine z_for P (fun i => JX4_placesOf Q 4 [aR b, aI s, aI (pO W (Nat.testBit s) i : Nat), aI i] [] I) ?_ (fun i hi ih => ?_) 0 (Nat.zero_le _)
  · refine X4_placesOf_4 (k := ?_)
    refine X4_placesOf_5 (k := ?_)
    refine X4_placesOf_6 (k := ?_)
    rw [hI.2.2.1]
    refine X4_placesOf_9 (kt := fun k9 => ?_) (kf := fun k9 => ?_)
    · refine X4_placesOf_48 (k := ?_)
      refine X4_placesOf_49 (hq := ?_)
      exact h
    · omega
  · have hw := hW i hi
    have hlt := pO_lt (s := Nat.testBit s) hW i (by omega)
    unfold pO at ih
    refine X4_placesOf_4 (k := ?_)
    refine X4_placesOf_5 (k := ?_)
    refine X4_placesOf_6 (k := ?_)
    rw [hI.2.2.1]
    refine X4_placesOf_9 (kt := fun k9 => ?_) (kf := fun k9 => ?_)
    · omega
    · refine X4_placesOf_12 (k := ?_)
      refine X4_placesOf_13 (k := ?_)
      refine X4_placesOf_14 (k := ?_)
      refine X4_placesOf_15 (k := ?_)
      refine X4_placesOf_16 (k := ?_)
      have eb : zand (zshr (s : Int) i) 1 = if Nat.testBit s i then 1 else 0 := by
        have := zbit_bs (Nat.testBit s) hi
        rw [← es] at this
        exact this
      rw [eb]
      refine X4_placesOf_17 (k := ?_)
      refine X4_placesOf_18 (kt := fun k18 => ?_) (kf := fun k18 => ?_)
      · have e : Nat.testBit s i = false := by
          cases q : Nat.testBit s i
          · rfl
          · rw [q] at k18
            exact absurd rfl k18
        refine X4_placesOf_42 (k := ?_)
        refine X4_placesOf_45 (k := ?_)
        rw [e, Bool.false_and, if_neg (by decide)] at ih
        exact ih
      · have e : Nat.testBit s i = true := by
          cases q : Nat.testBit s i
          · rw [q] at k18
            exact absurd k18 (by decide)
          · rfl
        refine X4_placesOf_21 (k := ?_)
        refine X4_placesOf_22 (k := ?_)
        refine X4_placesOf_25 (k := ?_)
        refine X4_placesOf_26 (k := ?_)
        rw [Int.toNat_natCast, (hI.2.2.2.2 i hi).2.2.1]
        refine X4_placesOf_27 (k := ?_)
        refine X4_placesOf_28 (kt := fun k28 => ?_) (kf := fun k28 => ?_)
        · refine X4_placesOf_42 (k := ?_)
          refine X4_placesOf_45 (k := ?_)
          rw [e, decide_eq_true k28] at ih
          exact ih
        · refine X4_placesOf_31 (k := ?_)
          refine X4_placesOf_32 (k := ?_)
          refine X4_placesOf_33 (k := ?_)
          refine X4_placesOf_34 (k := ?_)
          refine X4_placesOf_37 (k := ?_)
          refine X4_placesOf_38 (k := ?_)
          rw [Int.toNat_natCast, (hI.2.2.2.2 i hi).2.2.1]
          refine X4_placesOf_39 (k := ?_)
          refine X4_placesOf_40 (k := ?_)
          rw [zor_M]
          refine X4_placesOf_41 (k := ?_)
          refine X4_placesOf_42 (k := ?_)
          refine X4_placesOf_45 (k := ?_)
          rw [e, decide_eq_false k28] at ih
          exact ih
end PX

/-! small methods -/
theorem s10_isUpTo {x m : Int} {I : z_M} {Q : Int → z_M → Prop} (h1 : 0 ≤ x → x ≤ m → Q 1 I) (h0 : ¬ (0 ≤ x ∧ x ≤ m) → Q 0 I) : CX10_isUpTo [aI x, aI m] I Q := by
  refine eX10_isUpTo ?_
  refine X10_isUpTo_0 (k := ?_)
  refine X10_isUpTo_1 (kt := fun k1 => ?_) (kf := fun k1 => ?_)
  · refine X10_isUpTo_13 (k := ?_)
    refine X10_isUpTo_14 (hq := ?_)
    first | exact h1 (by omega) (by omega) | exact h0 (by omega)
  · refine X10_isUpTo_4 (k := ?_)
    refine X10_isUpTo_5 (k := ?_)
    refine X10_isUpTo_6 (kt := fun k6 => ?_) (kf := fun k6 => ?_)
    · refine X10_isUpTo_13 (k := ?_)
      refine X10_isUpTo_14 (hq := ?_)
      first | exact h1 (by omega) (by omega) | exact h0 (by omega)
    · refine X10_isUpTo_9 (k := ?_)
      refine X10_isUpTo_10 (k := ?_)
      refine X10_isUpTo_14 (hq := ?_)
      first | exact h1 (by omega) (by omega) | exact h0 (by omega)

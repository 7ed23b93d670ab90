/-! THE REFERENCE: small reads, its hand -/
section RS
variable {I : z_M}
theorem s11_in {Q : Int → z_M → Prop} {v lo hi : Int} (h1 : lo ≤ v → v ≤ hi → Q 1 I) (h0 : ¬ (lo ≤ v ∧ v ≤ hi) → Q 0 I) : CX11_in [aL v, aL lo, aL hi] I Q := by
  refine eX11_in ?_
  refine X11_in_0 (k := ?_)
  refine X11_in_1 (k := ?_)
  refine X11_in_2 (kt := fun k2 => ?_) (kf := fun k2 => ?_)
  · refine X11_in_17 (k := ?_)
    refine X11_in_18 (hq := ?_)
    first | exact h1 (by omega) (by omega) | exact h0 (by omega)
  · refine X11_in_6 (k := ?_)
    refine X11_in_7 (k := ?_)
    refine X11_in_9 (kt := fun k9 => ?_) (kf := fun k9 => ?_)
    · refine X11_in_17 (k := ?_)
      refine X11_in_18 (hq := ?_)
      first | exact h1 (by omega) (by omega) | exact h0 (by omega)
    · refine X11_in_13 (k := ?_)
      refine X11_in_14 (k := ?_)
      refine X11_in_18 (hq := ?_)
      first | exact h1 (by omega) (by omega) | exact h0 (by omega)
theorem s11_bad {Q : Int → z_M → Prop} {t : Int} (h : Q t (z_up I 64 0 (i32 (I 64 0 + 1)))) : CX11_bad [aR 60, aI t] I Q := by
  refine eX11_bad ?_
  refine X11_bad_0 (k := ?_)
  refine X11_bad_1 (k := ?_)
  refine X11_bad_4 (k := ?_)
  refine X11_bad_5 (k := ?_)
  refine X11_bad_6 (k := ?_)
  refine X11_bad_7 (k := ?_)
  refine X11_bad_8w (k := ?_)
  refine X11_bad_9 (k := ?_)
  refine X11_bad_10 (k := ?_)
  refine X11_bad_11 (hq := ?_)
  exact h
theorem s11_no {Q : Int → z_M → Prop} (h : Q (-3) (z_up I 64 1 (i32 (I 64 1 + 1)))) : CX11_no [aR 60] I Q := by
  refine eX11_no ?_
  refine X11_no_0 (k := ?_)
  refine X11_no_1 (k := ?_)
  refine X11_no_4 (k := ?_)
  refine X11_no_5 (k := ?_)
  refine X11_no_6 (k := ?_)
  refine X11_no_7 (k := ?_)
  refine X11_no_8w (k := ?_)
  refine X11_no_9 (k := ?_)
  refine X11_no_10 (k := ?_)
  refine X11_no_12 (hq := ?_)
  exact h
theorem s11_full {Q : Int → z_M → Prop} (h : Q (-4) (z_up I 64 2 (i32 (I 64 2 + 1)))) : CX11_full [aR 60] I Q := by
  refine eX11_full ?_
  refine X11_full_0 (k := ?_)
  refine X11_full_1 (k := ?_)
  refine X11_full_4 (k := ?_)
  refine X11_full_5 (k := ?_)
  refine X11_full_6 (k := ?_)
  refine X11_full_7 (k := ?_)
  refine X11_full_8w (k := ?_)
  refine X11_full_9 (k := ?_)
  refine X11_full_10 (k := ?_)
  refine X11_full_12 (hq := ?_)
  exact h
theorem s11_pipes {Q : Int → z_M → Prop} (h : Q (I 61 0) I) : CX11_pipes [aR 60] I Q := by
  refine eX11_pipes ?_
  refine X11_pipes_0 (k := ?_)
  refine X11_pipes_1 (k := ?_)
  refine X11_pipes_4 (k := ?_)
  refine X11_pipes_5 (k := ?_)
  refine X11_pipes_6 (hq := ?_)
  exact h
theorem s11_places {Q : Int → z_M → Prop} (h : Q (I 61 1) I) : CX11_places [aR 60] I Q := by
  refine eX11_places ?_
  refine X11_places_0 (k := ?_)
  refine X11_places_1 (k := ?_)
  refine X11_places_4 (k := ?_)
  refine X11_places_5 (k := ?_)
  refine X11_places_6 (hq := ?_)
  exact h
theorem s11_isPipe {Q : Int → z_M → Prop} {x : Int} {P : Nat} (hP : I 61 0 = P) (hP8 : P ≤ 8) (h1 : 0 ≤ x → x < P → Q 1 I) (h0 : ¬ (0 ≤ x ∧ x < P) → Q 0 I) : CX11_isPipe [aR 60, aI x] I Q := by
  refine eX11_isPipe ?_
  refine X11_isPipe_0 (k := ?_)
  refine X11_isPipe_1 (k := ?_)
  refine X11_isPipe_2 (k := ?_)
  refine X11_isPipe_3 (k := ?_)
  refine X11_isPipe_4 (k := ?_)
  refine s11_pipes ?_
  refine X11_isPipe_7 (k := ?_)
  refine X11_isPipe_8 (k := ?_)
  refine X11_isPipe_9 (k := ?_)
  refine X11_isPipe_10 (k := ?_)
  refine s11_in (fun a b => ?_) (fun a => ?_)
  · refine X11_isPipe_13 (hq := ?_)
    exact h1 a (by omega)
  · refine X11_isPipe_13 (hq := ?_)
    exact h0 (by omega)
theorem s11_isPlace {Q : Int → z_M → Prop} {x : Int} {L : Nat} (hL : I 61 1 = L) (hL5 : L ≤ 5) (h1 : 0 ≤ x → x < L → Q 1 I) (h0 : ¬ (0 ≤ x ∧ x < L) → Q 0 I) : CX11_isPlace [aR 60, aI x] I Q := by
  refine eX11_isPlace ?_
  refine X11_isPlace_0 (k := ?_)
  refine X11_isPlace_1 (k := ?_)
  refine X11_isPlace_2 (k := ?_)
  refine X11_isPlace_3 (k := ?_)
  refine X11_isPlace_4 (k := ?_)
  refine s11_places ?_
  refine X11_isPlace_7 (k := ?_)
  refine X11_isPlace_8 (k := ?_)
  refine X11_isPlace_9 (k := ?_)
  refine X11_isPlace_10 (k := ?_)
  refine s11_in (fun a b => ?_) (fun a => ?_)
  · refine X11_isPlace_13 (hq := ?_)
    exact h1 a (by omega)
  · refine X11_isPlace_13 (hq := ?_)
    exact h0 (by omega)
theorem s11_isHymn {Q : Int → z_M → Prop} {x : Int} (h1 : 0 ≤ x → x ≤ 2 → Q 1 I) (h0 : ¬ (0 ≤ x ∧ x ≤ 2) → Q 0 I) : CX11_isHymn [aI x] I Q := by
  refine eX11_isHymn ?_
  refine X11_isHymn_0 (k := ?_)
  refine X11_isHymn_1 (k := ?_)
  refine X11_isHymn_2 (k := ?_)
  refine X11_isHymn_3 (k := ?_)
  refine X11_isHymn_6 (k := ?_)
  refine s11_in (fun a b => ?_) (fun a => ?_)
  · refine X11_isHymn_9 (hq := ?_)
    exact h1 a b
  · refine X11_isHymn_9 (hq := ?_)
    exact h0 a
theorem s11_isShift {Q : Int → z_M → Prop} {x : Int} (h1 : -6 ≤ x → x ≤ 6 → Q 1 I) (h0 : ¬ (-6 ≤ x ∧ x ≤ 6) → Q 0 I) : CX11_isShift [aI x] I Q := by
  refine eX11_isShift ?_
  refine X11_isShift_0 (k := ?_)
  refine X11_isShift_1 (k := ?_)
  refine X11_isShift_2 (k := ?_)
  refine X11_isShift_5 (k := ?_)
  refine X11_isShift_8 (k := ?_)
  refine s11_in (fun a b => ?_) (fun a => ?_)
  · refine X11_isShift_11 (hq := ?_)
    exact h1 a b
  · refine X11_isShift_11 (hq := ?_)
    exact h0 a
theorem s11_isThen {Q : Int → z_M → Prop} {x : Int} (h1 : 0 ≤ x → x ≤ 72 → Q 1 I) (h0 : ¬ (0 ≤ x ∧ x ≤ 72) → Q 0 I) : CX11_isThen [aI x] I Q := by
  refine eX11_isThen ?_
  refine X11_isThen_0 (k := ?_)
  refine X11_isThen_1 (k := ?_)
  refine X11_isThen_2 (k := ?_)
  refine X11_isThen_3 (k := ?_)
  refine X11_isThen_6 (k := ?_)
  refine s11_in (fun a b => ?_) (fun a => ?_)
  · refine X11_isThen_9 (hq := ?_)
    exact h1 a b
  · refine X11_isThen_9 (hq := ?_)
    exact h0 a
theorem s11_placeHas {Q : Int → z_M → Prop} {x w : Int} {n k : Nat} (hx : x = n) (hw : w = k) (hb : 5 + 5 * n + k < 249) (h : Q (I 61 (5 + 5 * n + k)) I) : CX11_placeHas [aR 60, aI x, aI w] I Q := by
  refine eX11_placeHas ?_
  refine X11_placeHas_0 (k := ?_)
  refine X11_placeHas_1 (k := ?_)
  refine X11_placeHas_4 (k := ?_)
  refine X11_placeHas_5 (k := ?_)
  refine X11_placeHas_6 (k := ?_)
  refine X11_placeHas_7 (k := ?_)
  refine X11_placeHas_8 (k := ?_)
  refine X11_placeHas_9 (k := ?_)
  refine X11_placeHas_10 (k := ?_)
  refine X11_placeHas_11 (k := ?_)
  refine X11_placeHas_12 (hq := ?_)
  rw [show (5 + 5 * x + w).toNat = 5 + 5 * n + k by omega]
  exact h
theorem s11_pipeHas {Q : Int → z_M → Prop} {x w : Int} {n k : Nat} (hx : x = n) (hw : w = k) (hb : 30 + 4 * n + k < 249) (h : Q (I 61 (30 + 4 * n + k)) I) : CX11_pipeHas [aR 60, aI x, aI w] I Q := by
  refine eX11_pipeHas ?_
  refine X11_pipeHas_0 (k := ?_)
  refine X11_pipeHas_1 (k := ?_)
  refine X11_pipeHas_4 (k := ?_)
  refine X11_pipeHas_6 (k := ?_)
  refine X11_pipeHas_7 (k := ?_)
  refine X11_pipeHas_8 (k := ?_)
  refine X11_pipeHas_9 (k := ?_)
  refine X11_pipeHas_10 (k := ?_)
  refine X11_pipeHas_11 (k := ?_)
  refine X11_pipeHas_12 (k := ?_)
  refine X11_pipeHas_13 (hq := ?_)
  rw [show (30 + 4 * x + w).toNat = 30 + 4 * n + k by omega]
  exact h
theorem s11_notes {Q : Int → z_M → Prop} {x : Int} {n : Nat} (hx : x = n) (hb : n < 3) (h : Q (I 61 (62 + 9 * n)) I) : CX11_notes [aR 60, aI x] I Q := by
  refine eX11_notes ?_
  refine X11_notes_0 (k := ?_)
  refine X11_notes_1 (k := ?_)
  refine X11_notes_4 (k := ?_)
  refine X11_notes_6 (k := ?_)
  refine X11_notes_8 (k := ?_)
  refine X11_notes_9 (k := ?_)
  refine X11_notes_10 (k := ?_)
  refine X11_notes_11 (k := ?_)
  refine X11_notes_12 (hq := ?_)
  rw [show (62 + 9 * x).toNat = 62 + 9 * n by omega]
  exact h
theorem s11_noteOf {Q : Int → z_M → Prop} {x w : Int} {n k : Nat} (hx : x = n) (hw : w = k) (hb : n < 3) (hk : k < 8) (h : Q (I 61 (63 + 9 * n + k)) I) : CX11_noteOf [aR 60, aI x, aI w] I Q := by
  refine eX11_noteOf ?_
  refine X11_noteOf_0 (k := ?_)
  refine X11_noteOf_1 (k := ?_)
  refine X11_noteOf_4 (k := ?_)
  refine X11_noteOf_6 (k := ?_)
  refine X11_noteOf_8 (k := ?_)
  refine X11_noteOf_9 (k := ?_)
  refine X11_noteOf_10 (k := ?_)
  refine X11_noteOf_11 (k := ?_)
  refine X11_noteOf_12 (k := ?_)
  refine X11_noteOf_13 (k := ?_)
  refine X11_noteOf_14 (k := ?_)
  refine X11_noteOf_15 (k := ?_)
  refine X11_noteOf_16 (hq := ?_)
  rw [show (62 + 9 * x + 1 + w).toNat = 63 + 9 * n + k by omega]
  exact h
/-- the reference's hand holds a stage, over its row A -/
def stM (I : z_M) (A : Nat → Int) (P L : Nat) (hr : Int) (K W Y tn : Nat → Int) : Prop :=
  I 61 = A ∧ I 60 6 = hr ∧ (∀ p, p < P → I 65 p = K p ∧ I 66 p = W p ∧ I 67 p = Y p) ∧ ∀ x, x < L → I 68 x = tn x
variable {A : Nat → Int} {P L : Nat} {hr : Int} {K W Y tn : Nat → Int} {p : Nat}
theorem s11_isWished {Q : Int → z_M → Prop} {y : Int} {x : Nat} (hy : y = x) (hx : x < L) (hA : wfA A P L) (hI : stM I A P L hr K W Y tn) (h1 : pWish A hr x = true → Q 1 I) (h0 : pWish A hr x = false → Q 0 I) : CX11_isWished [aR 60, aI y] I Q := by
  obtain ⟨a0, a1, a2, a3, a4, a5⟩ := id hA
  obtain ⟨i0, i1, i2, i3⟩ := id hI
  obtain ⟨c0, c1, c2, c3, c4⟩ := a4 x hx
  have h24 := z_tm24 (I 60 6)
  refine eX11_isWished ?_
  refine X11_isWished_0 (k := ?_)
  refine X11_isWished_1 (k := ?_)
  refine X11_isWished_4 (k := ?_)
  refine X11_isWished_6 (k := ?_)
  refine X11_isWished_7 (k := ?_)
  refine X11_isWished_9 (k := ?_)
  refine X11_isWished_10 (k := ?_)
  refine X11_isWished_11 (k := ?_)
  refine X11_isWished_12 (k := ?_)
  refine X11_isWished_13 (k := ?_)
  refine s11_placeHas (n := x) (k := 1) hy rfl (by omega) ?_
  rw [i0]
  refine X11_isWished_16 (k := ?_)
  refine X11_isWished_17 (k := ?_)
  refine X11_isWished_19 (k := ?_)
  refine X11_isWished_20 (k := ?_)
  refine X11_isWished_21 (k := ?_)
  refine X11_isWished_22 (k := ?_)
  refine X11_isWished_23 (k := ?_)
  refine s11_placeHas (n := x) (k := 2) hy rfl (by omega) ?_
  rw [i0]
  refine X11_isWished_26 (kt := fun k26 => ?_) (kf := fun k26 => ?_)
  · refine X11_isWished_33 (k := ?_)
    refine X11_isWished_34 (hq := ?_)
    first | exact h1 (by unfold pWish; rw [decide_eq_true_iff, ← i1]; omega) | exact h0 (by unfold pWish; rw [decide_eq_false_iff_not, ← i1]; omega)
  · refine X11_isWished_29 (k := ?_)
    refine X11_isWished_30 (k := ?_)
    refine X11_isWished_34 (hq := ?_)
    first | exact h1 (by unfold pWish; rw [decide_eq_true_iff, ← i1]; omega) | exact h0 (by unfold pWish; rw [decide_eq_false_iff_not, ← i1]; omega)
theorem s11_isNight {Q : Int → z_M → Prop} (hI : I 60 6 = hr) (h1 : pNight hr = true → Q 1 I) (h0 : pNight hr = false → Q 0 I) : CX11_isNight [aR 60] I Q := by
  refine eX11_isNight ?_
  refine X11_isNight_0 (k := ?_)
  refine X11_isNight_1 (k := ?_)
  refine X11_isNight_4 (k := ?_)
  refine X11_isNight_6 (k := ?_)
  refine X11_isNight_7 (k := ?_)
  refine X11_isNight_9 (kt := fun k9 => ?_) (kf := fun k9 => ?_)
  · refine X11_isNight_24 (k := ?_)
    refine X11_isNight_25 (k := ?_)
    refine X11_isNight_29 (hq := ?_)
    first | exact h1 (by unfold pNight; rw [decide_eq_true_iff, ← hI]; omega) | exact h0 (by unfold pNight; rw [decide_eq_false_iff_not, ← hI]; omega)
  · refine X11_isNight_12 (k := ?_)
    refine X11_isNight_13 (k := ?_)
    refine X11_isNight_16 (k := ?_)
    refine X11_isNight_18 (k := ?_)
    refine X11_isNight_19 (k := ?_)
    refine X11_isNight_21 (kt := fun k21 => ?_) (kf := fun k21 => ?_)
    · refine X11_isNight_28 (k := ?_)
      refine X11_isNight_29 (hq := ?_)
      first | exact h1 (by unfold pNight; rw [decide_eq_true_iff, ← hI]; omega) | exact h0 (by unfold pNight; rw [decide_eq_false_iff_not, ← hI]; omega)
    · refine X11_isNight_24 (k := ?_)
      refine X11_isNight_25 (k := ?_)
      refine X11_isNight_29 (hq := ?_)
      first | exact h1 (by unfold pNight; rw [decide_eq_true_iff, ← hI]; omega) | exact h0 (by unfold pNight; rw [decide_eq_false_iff_not, ← hI]; omega)
theorem s11_isOtherAway {Q : Int → z_M → Prop} {y : Int} (hy : y = p) (hA : wfA A P L) (hI : stM I A P L hr K W Y tn) (h1 : pOther P W p = true → Q 1 I) (h0 : pOther P W p = false → Q 0 I) : CX11_isOtherAway [aR 60, aI y] I Q := by
  obtain ⟨a0, a1, a2, a3, a4, a5⟩ := id hA
  obtain ⟨i0, i1, i2, i3⟩ := id hI
  refine eX11_isOtherAway ?_
  refine X11_isOtherAway_0 (k := ?_)
  refine X11_isOtherAway_1 (k := ?_)
  refine X11_isOtherAway_2 (k := ?_)
  refine X11_isOtherAway_3 (k := ?_)
  refine z_for P (fun i => JX11_isOtherAway Q 4 [aR 60, aI y, aI (if z_any (fun o => decide (o ≠ p ∧ W o ≠ -1)) i then 1 else 0), aI i] [] I) ?_ (fun i hi ih => ?_) 0 (Nat.zero_le _)
  · refine X11_isOtherAway_4 (k := ?_)
    refine X11_isOtherAway_5 (k := ?_)
    refine X11_isOtherAway_6 (k := ?_)
    refine s11_pipes ?_
    rw [i0, a0]
    refine X11_isOtherAway_9 (kt := fun k9 => ?_) (kf := fun k9 => ?_)
    · refine X11_isOtherAway_43 (k := ?_)
      refine X11_isOtherAway_44 (hq := ?_)
      cases e : pOther P W p with
      | true => rw [if_pos (show z_any (fun o => decide (o ≠ p ∧ W o ≠ -1)) P = true from e)]; exact h1 e
      | false => rw [if_neg (by rw [show z_any (fun o => decide (o ≠ p ∧ W o ≠ -1)) P = false from e]; decide)]; exact h0 e
    · omega
  · have hw := (i2 i hi).2.1
    refine X11_isOtherAway_4 (k := ?_)
    refine X11_isOtherAway_5 (k := ?_)
    refine X11_isOtherAway_6 (k := ?_)
    refine s11_pipes ?_
    rw [i0, a0]
    have e1 : z_any (fun o => decide (o ≠ p ∧ W o ≠ -1)) (i + 1) = (z_any (fun o => decide (o ≠ p ∧ W o ≠ -1)) i || decide (i ≠ p ∧ W i ≠ -1)) := rfl
    rw [e1] at ih
    refine X11_isOtherAway_9 (kt := fun k9 => ?_) (kf := fun k9 => ?_)
    · omega
    · refine X11_isOtherAway_12 (k := ?_)
      refine X11_isOtherAway_13 (kt := fun k13 => ?_) (kf := fun k13 => ?_)
      · refine X11_isOtherAway_31 (k := ?_)
        refine X11_isOtherAway_32 (k := ?_)
        refine X11_isOtherAway_36 (k := ?_)
        refine X11_isOtherAway_37 (k := ?_)
        refine X11_isOtherAway_40 (k := ?_)
        have e2 : z_any (fun o => decide (o ≠ p ∧ W o ≠ -1)) i = true := by
          cases e : z_any (fun o => decide (o ≠ p ∧ W o ≠ -1)) i with
          | true => rfl
          | false => rw [e] at k13; exact absurd rfl k13
        rw [e2] at ih
        exact ih
      · have e2 : z_any (fun o => decide (o ≠ p ∧ W o ≠ -1)) i = false := by
          cases e : z_any (fun o => decide (o ≠ p ∧ W o ≠ -1)) i with
          | false => rfl
          | true => rw [e] at k13; exact absurd k13 (by decide)
        rw [e2] at ih
        refine X11_isOtherAway_16 (k := ?_)
        refine X11_isOtherAway_17 (k := ?_)
        refine X11_isOtherAway_18 (kt := fun k18 => ?_) (kf := fun k18 => ?_)
        · refine X11_isOtherAway_35 (k := ?_)
          refine X11_isOtherAway_36 (k := ?_)
          refine X11_isOtherAway_37 (k := ?_)
          refine X11_isOtherAway_40 (k := ?_)
          rw [decide_eq_false (by omega)] at ih
          exact ih
        · refine X11_isOtherAway_21 (k := ?_)
          refine X11_isOtherAway_22 (k := ?_)
          refine X11_isOtherAway_25 (k := ?_)
          refine X11_isOtherAway_26 (k := ?_)
          refine X11_isOtherAway_27 (k := ?_)
          refine X11_isOtherAway_28 (kt := fun k28 => ?_) (kf := fun k28 => ?_)
          · refine X11_isOtherAway_35 (k := ?_)
            refine X11_isOtherAway_36 (k := ?_)
            refine X11_isOtherAway_37 (k := ?_)
            refine X11_isOtherAway_40 (k := ?_)
            rw [decide_eq_false (by simp only [Int.toNat_natCast] at k28; omega)] at ih
            exact ih
          · refine X11_isOtherAway_31 (k := ?_)
            refine X11_isOtherAway_32 (k := ?_)
            refine X11_isOtherAway_36 (k := ?_)
            refine X11_isOtherAway_37 (k := ?_)
            refine X11_isOtherAway_40 (k := ?_)
            rw [decide_eq_true (by simp only [Int.toNat_natCast] at k28; omega)] at ih
            exact ih
theorem s11_isTaken {Q : Int → z_M → Prop} {y : Int} {x : Nat} (hy : y = x) (hA : wfA A P L) (hI : stM I A P L hr K W Y tn) (h1 : pTaken P W x = true → Q 1 I) (h0 : pTaken P W x = false → Q 0 I) : CX11_isTaken [aR 60, aI y] I Q := by
  obtain ⟨a0, a1, a2, a3, a4, a5⟩ := id hA
  obtain ⟨i0, i1, i2, i3⟩ := id hI
  refine eX11_isTaken ?_
  refine X11_isTaken_0 (k := ?_)
  refine X11_isTaken_1 (k := ?_)
  refine X11_isTaken_2 (k := ?_)
  refine X11_isTaken_3 (k := ?_)
  refine z_for P (fun i => JX11_isTaken Q 4 [aR 60, aI y, aI (if z_any (fun o => decide (W o = (x : Int))) i then 1 else 0), aI i] [] I) ?_ (fun i hi ih => ?_) 0 (Nat.zero_le _)
  · refine X11_isTaken_4 (k := ?_)
    refine X11_isTaken_5 (k := ?_)
    refine X11_isTaken_6 (k := ?_)
    refine s11_pipes ?_
    rw [i0, a0]
    refine X11_isTaken_9 (kt := fun k9 => ?_) (kf := fun k9 => ?_)
    · refine X11_isTaken_38 (k := ?_)
      refine X11_isTaken_39 (hq := ?_)
      cases e : pTaken P W x with
      | true => rw [if_pos (show z_any (fun o => decide (W o = (x : Int))) P = true from e)]; exact h1 e
      | false => rw [if_neg (by rw [show z_any (fun o => decide (W o = (x : Int))) P = false from e]; decide)]; exact h0 e
    · omega
  · have hw := (i2 i hi).2.1
    refine X11_isTaken_4 (k := ?_)
    refine X11_isTaken_5 (k := ?_)
    refine X11_isTaken_6 (k := ?_)
    refine s11_pipes ?_
    rw [i0, a0]
    have e1 : z_any (fun o => decide (W o = (x : Int))) (i + 1) = (z_any (fun o => decide (W o = (x : Int))) i || decide (W i = (x : Int))) := rfl
    rw [e1] at ih
    refine X11_isTaken_9 (kt := fun k9 => ?_) (kf := fun k9 => ?_)
    · omega
    · refine X11_isTaken_12 (k := ?_)
      refine X11_isTaken_13 (kt := fun k13 => ?_) (kf := fun k13 => ?_)
      · refine X11_isTaken_26 (k := ?_)
        refine X11_isTaken_27 (k := ?_)
        refine X11_isTaken_31 (k := ?_)
        refine X11_isTaken_32 (k := ?_)
        refine X11_isTaken_35 (k := ?_)
        have e2 : z_any (fun o => decide (W o = (x : Int))) i = true := by
          cases e : z_any (fun o => decide (W o = (x : Int))) i with
          | true => rfl
          | false => rw [e] at k13; exact absurd rfl k13
        rw [e2] at ih
        exact ih
      · have e2 : z_any (fun o => decide (W o = (x : Int))) i = false := by
          cases e : z_any (fun o => decide (W o = (x : Int))) i with
          | false => rfl
          | true => rw [e] at k13; exact absurd k13 (by decide)
        rw [e2] at ih
        refine X11_isTaken_16 (k := ?_)
        refine X11_isTaken_17 (k := ?_)
        refine X11_isTaken_20 (k := ?_)
        refine X11_isTaken_21 (k := ?_)
        refine X11_isTaken_22 (k := ?_)
        refine X11_isTaken_23 (kt := fun k23 => ?_) (kf := fun k23 => ?_)
        · refine X11_isTaken_30 (k := ?_)
          refine X11_isTaken_31 (k := ?_)
          refine X11_isTaken_32 (k := ?_)
          refine X11_isTaken_35 (k := ?_)
          rw [decide_eq_false (by simp only [Int.toNat_natCast] at k23; omega)] at ih
          exact ih
        · refine X11_isTaken_26 (k := ?_)
          refine X11_isTaken_27 (k := ?_)
          refine X11_isTaken_31 (k := ?_)
          refine X11_isTaken_32 (k := ?_)
          refine X11_isTaken_35 (k := ?_)
          rw [decide_eq_true (by simp only [Int.toNat_natCast] at k23; omega)] at ih
          exact ih
end RS

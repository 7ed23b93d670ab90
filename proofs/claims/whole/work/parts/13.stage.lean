/-! an Organ at b holds a stage -/
def stC (I : z_M) (b : Nat) (A : Nat → Int) (P L : Nat) (hr : Int) (K W Y tn : Nat → Int) : Prop :=
  I b 0 = hr ∧ I b 1 = L ∧ I b 2 = P ∧ (∀ x, x < L → I (b + 1) (5 * x) = tn x ∧ I (b + 1) (5 * x + 1) = A (5 + 5 * x + 1) ∧ I (b + 1) (5 * x + 2) = A (5 + 5 * x + 2)) ∧ (∀ p, p < P → I (b + 2) p = K p ∧ I (b + 3) p = A (30 + 4 * p + 1) ∧ I (b + 4) p = W p ∧ I (b + 5) p = Y p)
theorem stC_h {I : z_M} {b : Nat} {A : Nat → Int} {P L : Nat} {hr : Int} {K W Y tn : Nat → Int} (h : stC I b A P L hr K W Y tn) (v : Int) : stC (z_up I b 0 v) b A P L v K W Y tn := by
  obtain ⟨h0, h1, h2, h3, h4⟩ := h
  refine ⟨by simp [z_up], by simp [z_up, h1], by simp [z_up, h2], fun x hx => ?_, fun p hp => ?_⟩
  · rw [z_up_n (by omega)]; exact h3 x hx
  · rw [z_up_n (by omega), z_up_n (by omega), z_up_n (by omega), z_up_n (by omega)]; exact h4 p hp
theorem stC_w {I : z_M} {b : Nat} {A : Nat → Int} {P L : Nat} {hr : Int} {K W Y tn : Nat → Int} (h : stC I b A P L hr K W Y tn) (q : Nat) (v : Int) : stC (z_up I (b + 4) q v) b A P L hr K (zu W q v) Y tn := by
  obtain ⟨h0, h1, h2, h3, h4⟩ := h
  refine ⟨by rw [z_up_n (by omega)]; exact h0, by rw [z_up_n (by omega)]; exact h1, by rw [z_up_n (by omega)]; exact h2, fun x hx => ?_, fun p hp => ?_⟩
  · rw [z_up_n (by omega)]; exact h3 x hx
  · obtain ⟨g1, g2, g3, g4⟩ := h4 p hp
    rw [z_up_n (by omega), z_up_n (by omega), z_up_s, z_up_n (by omega)]
    refine ⟨g1, g2, ?_, g4⟩
    unfold zu
    rw [g3]
theorem stC_y {I : z_M} {b : Nat} {A : Nat → Int} {P L : Nat} {hr : Int} {K W Y tn : Nat → Int} (h : stC I b A P L hr K W Y tn) (q : Nat) (v : Int) : stC (z_up I (b + 5) q v) b A P L hr K W (zu Y q v) tn := by
  obtain ⟨h0, h1, h2, h3, h4⟩ := h
  refine ⟨by rw [z_up_n (by omega)]; exact h0, by rw [z_up_n (by omega)]; exact h1, by rw [z_up_n (by omega)]; exact h2, fun x hx => ?_, fun p hp => ?_⟩
  · rw [z_up_n (by omega)]; exact h3 x hx
  · obtain ⟨g1, g2, g3, g4⟩ := h4 p hp
    rw [z_up_n (by omega), z_up_n (by omega), z_up_n (by omega), z_up_s]
    refine ⟨g1, g2, g3, ?_⟩
    unfold zu
    rw [g4]
theorem stC_eq {I : z_M} {b : Nat} {A : Nat → Int} {P L : Nat} {hr : Int} {K W Y W' Y' tn : Nat → Int} (h : stC I b A P L hr K W Y tn) (e : ∀ p, p < P → W p = W' p ∧ Y p = Y' p) : stC I b A P L hr K W' Y' tn :=
  ⟨h.1, h.2.1, h.2.2.1, h.2.2.2.1, fun p hp => by obtain ⟨g1, g2, g3, g4⟩ := h.2.2.2.2 p hp; exact ⟨g1, g2, g3.trans (e p hp).1, g4.trans (e p hp).2⟩⟩
section SC
variable {I : z_M} {b : Nat} {A : Nat → Int} {P L : Nat} {hr : Int} {K W Y tn : Nat → Int}
theorem s4_isNight {Q : Int → z_M → Prop} (hb : z_cl b = 4) (h1 : pNight (I b 0) = true → Q 1 I) (h0 : pNight (I b 0) = false → Q 0 I) : CX4_isNight [aR b] I Q := by
  refine eX4_isNight ?_
  have h24 := z_tm24 (I b 0)
  refine X4_isNight_0 (k := ?_)
  refine X4_isNight_1 (k := ?_)
  refine X4_isNight_4 (k := ?_)
  refine X4_isNight_6 (k := ?_)
  refine X4_isNight_7 (k := ?_)
  refine X4_isNight_8 (k := ?_)
  refine X4_isNight_9 (k := ?_)
  refine X4_isNight_11 (kt := fun k11 => ?_) (kf := fun k11 => ?_)
  · refine X4_isNight_20 (k := ?_)
    refine X4_isNight_21 (k := ?_)
    refine X4_isNight_25 (hq := ?_)
    first | exact h1 (by unfold pNight; rw [decide_eq_true_iff]; omega) | exact h0 (by unfold pNight; rw [decide_eq_false_iff_not]; omega)
  · refine X4_isNight_14 (k := ?_)
    refine X4_isNight_15 (k := ?_)
    refine X4_isNight_17 (kt := fun k17 => ?_) (kf := fun k17 => ?_)
    · refine X4_isNight_24 (k := ?_)
      refine X4_isNight_25 (hq := ?_)
      first | exact h1 (by unfold pNight; rw [decide_eq_true_iff]; omega) | exact h0 (by unfold pNight; rw [decide_eq_false_iff_not]; omega)
    · refine X4_isNight_20 (k := ?_)
      refine X4_isNight_21 (k := ?_)
      refine X4_isNight_25 (hq := ?_)
      first | exact h1 (by unfold pNight; rw [decide_eq_true_iff]; omega) | exact h0 (by unfold pNight; rw [decide_eq_false_iff_not]; omega)
theorem s4_isWished {Q : Int → z_M → Prop} (hb : z_cl b = 4) {x : Nat} (hx : x < L) (hA : wfA A P L) (hI : stC I b A P L hr K W Y tn) (h1 : pWish A hr x = true → Q 1 I) (h0 : pWish A hr x = false → Q 0 I) : CX4_isWished [aR b, aI x] I Q := by
  obtain ⟨o1, o2, o3, o4, o5, o6, o7, o8, o9, o10, n1, n2, n3, n4, n5, n6, n7, n8, n10⟩ := z_o hb
  obtain ⟨i0, i1, i2, i3, i4⟩ := hI
  obtain ⟨a0, a1, a2, a3, a4, a5⟩ := hA
  obtain ⟨j0, j1, j2⟩ := i3 x hx
  obtain ⟨c0, c1, c2, c3, c4⟩ := a4 x hx
  have h24 := z_tm24 (I b 0)
  have e1 : ((x : Int) * 5 + 1).toNat = 5 * x + 1 := by omega
  have e2 : ((x : Int) * 5 + 2).toNat = 5 * x + 2 := by omega
  refine eX4_isWished ?_
  refine X4_isWished_0 (k := ?_)
  refine X4_isWished_1 (kt := fun k1 => ?_) (kf := fun k1 => ?_)
  · omega
  · refine X4_isWished_4 (k := ?_)
    refine X4_isWished_5 (k := ?_)
    refine X4_isWished_6 (k := ?_)
    refine X4_isWished_9 (kt := fun k9 => ?_) (kf := fun k9 => ?_)
    · refine X4_isWished_14 (k := ?_)
      refine X4_isWished_15 (k := ?_)
      refine X4_isWished_16 (k := ?_)
      refine X4_isWished_17 (k := ?_)
      refine X4_isWished_18 (k := ?_)
      refine X4_isWished_19 (k := ?_)
      refine X4_isWished_22 (k := ?_)
      refine X4_isWished_24 (k := ?_)
      refine X4_isWished_25 (k := ?_)
      refine X4_isWished_27 (k := ?_)
      refine X4_isWished_28 (k := ?_)
      refine X4_isWished_29 (k := ?_)
      refine X4_isWished_32 (k := ?_)
      refine X4_isWished_33 (k := ?_)
      refine X4_isWished_34 (k := ?_)
      refine X4_isWished_35 (k := ?_)
      rw [e1, j1]
      refine X4_isWished_36 (k := ?_)
      refine X4_isWished_37 (k := ?_)
      refine X4_isWished_39 (k := ?_)
      refine X4_isWished_40 (k := ?_)
      refine X4_isWished_41 (k := ?_)
      refine X4_isWished_44 (k := ?_)
      refine X4_isWished_45 (k := ?_)
      refine X4_isWished_46 (k := ?_)
      refine X4_isWished_47 (k := ?_)
      rw [e2, j2]
      refine X4_isWished_48 (kt := fun k48 => ?_) (kf := fun k48 => ?_)
      · refine X4_isWished_55 (k := ?_)
        refine X4_isWished_56 (hq := ?_)
        first | exact h1 (by unfold pWish; rw [decide_eq_true_iff, ← i0]; omega) | exact h0 (by unfold pWish; rw [decide_eq_false_iff_not, ← i0]; omega)
      · refine X4_isWished_51 (k := ?_)
        refine X4_isWished_52 (k := ?_)
        refine X4_isWished_56 (hq := ?_)
        first | exact h1 (by unfold pWish; rw [decide_eq_true_iff, ← i0]; omega) | exact h0 (by unfold pWish; rw [decide_eq_false_iff_not, ← i0]; omega)
    · omega
theorem s4_isAnotherAway {Q : Int → z_M → Prop} (hb : z_cl b = 4) {p : Nat} (hA : wfA A P L) (hI : stC I b A P L hr K W Y tn) (h1 : pOther P W p = true → Q 1 I) (h0 : pOther P W p = false → Q 0 I) : CX4_isAnotherAway [aR b, aI p] I Q := by
  obtain ⟨o1, o2, o3, o4, o5, o6, o7, o8, o9, o10, n1, n2, n3, n4, n5, n6, n7, n8, n10⟩ := z_o hb
  obtain ⟨i0, i1, i2, i3, i4⟩ := hI
  obtain ⟨a0, a1, a2, a3, a4, a5⟩ := hA
  refine eX4_isAnotherAway ?_
  refine X4_isAnotherAway_0 (k := ?_)
  refine X4_isAnotherAway_1 (k := ?_)
  refine z_for P (fun i => z_any (fun o => decide (o ≠ p ∧ W o ≠ -1)) i = false → JX4_isAnotherAway Q 2 [aR b, aI p, aI i] [] I) ?_ (fun i hi ih => ?_) 0 (Nat.zero_le _) rfl
  · intro hz
    refine X4_isAnotherAway_2 (k := ?_)
    refine X4_isAnotherAway_3 (k := ?_)
    refine X4_isAnotherAway_4 (k := ?_)
    refine X4_isAnotherAway_7 (kt := fun k7 => ?_) (kf := fun k7 => ?_)
    · refine X4_isAnotherAway_33 (k := ?_)
      refine X4_isAnotherAway_34 (hq := ?_)
      exact h0 hz
    · omega
  · intro hz
    have hw := (i4 i hi).2.2.1
    have nx : ¬ (i ≠ p ∧ W i ≠ -1) → JX4_isAnotherAway Q 27 [aR b, aI p, aI i] [] I := by
      intro hn
      refine X4_isAnotherAway_27 (k := ?_)
      refine X4_isAnotherAway_30 (k := ?_)
      refine ih ?_
      rw [z_any, hz, decide_eq_false hn]
      rfl
    refine X4_isAnotherAway_2 (k := ?_)
    refine X4_isAnotherAway_3 (k := ?_)
    refine X4_isAnotherAway_4 (k := ?_)
    refine X4_isAnotherAway_7 (kt := fun k7 => ?_) (kf := fun k7 => ?_)
    · omega
    · refine X4_isAnotherAway_10 (k := ?_)
      refine X4_isAnotherAway_11 (k := ?_)
      refine X4_isAnotherAway_12 (kt := fun k12 => ?_) (kf := fun k12 => ?_)
      · exact nx (by omega)
      · refine X4_isAnotherAway_15 (k := ?_)
        refine X4_isAnotherAway_16 (k := ?_)
        refine X4_isAnotherAway_19 (k := ?_)
        refine X4_isAnotherAway_20 (k := ?_)
        refine X4_isAnotherAway_21 (k := ?_)
        refine X4_isAnotherAway_22 (kt := fun k22 => ?_) (kf := fun k22 => ?_)
        · refine nx ?_
          simp only [Int.toNat_natCast] at k22
          omega
        · refine X4_isAnotherAway_25 (k := ?_)
          refine X4_isAnotherAway_26 (hq := ?_)
          refine h1 (z_any_t hi (decide_eq_true ?_))
          simp only [Int.toNat_natCast] at k22
          omega
theorem s4_pipesAt {Q : Int → z_M → Prop} (hb : z_cl b = 4) {x : Int} (hA : wfA A P L) (hI : stC I b A P L hr K W Y tn) (h : Q (z_bs (fun p => decide (W p = x)) P) I) : CX4_pipesAt [aR b, aI x] I Q := by
  obtain ⟨o1, o2, o3, o4, o5, o6, o7, o8, o9, o10, n1, n2, n3, n4, n5, n6, n7, n8, n10⟩ := z_o hb
  obtain ⟨i0, i1, i2, i3, i4⟩ := hI
  obtain ⟨a0, a1, a2, a3, a4, a5⟩ := hA
  refine eX4_pipesAt ?_
  refine X4_pipesAt_0 (k := ?_)
  refine X4_pipesAt_1 (k := ?_)
  refine X4_pipesAt_2 (k := ?_)
  refine X4_pipesAt_3 (k := ?_)
  refine z_for P (fun i => JX4_pipesAt Q 4 [aR b, aI x, aI (z_bs (fun p => decide (W p = x)) i), aI i] [] I) ?_ (fun i hi ih => ?_) 0 (Nat.zero_le _)
  · refine X4_pipesAt_4 (k := ?_)
    refine X4_pipesAt_5 (k := ?_)
    refine X4_pipesAt_6 (k := ?_)
    refine X4_pipesAt_9 (kt := fun k9 => ?_) (kf := fun k9 => ?_)
    · refine X4_pipesAt_34 (k := ?_)
      refine X4_pipesAt_35 (hq := ?_)
      exact h
    · omega
  · have hw := (i4 i hi).2.2.1
    refine X4_pipesAt_4 (k := ?_)
    refine X4_pipesAt_5 (k := ?_)
    refine X4_pipesAt_6 (k := ?_)
    refine X4_pipesAt_9 (kt := fun k9 => ?_) (kf := fun k9 => ?_)
    · omega
    · refine X4_pipesAt_12 (k := ?_)
      refine X4_pipesAt_13 (k := ?_)
      refine X4_pipesAt_16 (k := ?_)
      refine X4_pipesAt_17 (k := ?_)
      refine X4_pipesAt_18 (k := ?_)
      refine X4_pipesAt_19 (kt := fun k19 => ?_) (kf := fun k19 => ?_)
      · refine X4_pipesAt_28 (k := ?_)
        refine X4_pipesAt_31 (k := ?_)
        rw [z_bs_f (by simpa [← hw] using k19)] at ih
        exact ih
      · refine X4_pipesAt_22 (k := ?_)
        refine X4_pipesAt_23 (k := ?_)
        refine X4_pipesAt_24 (k := ?_)
        refine X4_pipesAt_25 (k := ?_)
        refine X4_pipesAt_26 (k := ?_)
        refine X4_pipesAt_27 (k := ?_)
        refine X4_pipesAt_28 (k := ?_)
        refine X4_pipesAt_31 (k := ?_)
        rw [z_bs_t (by simpa [← hw] using k19)] at ih
        rw [zor_bs]
        exact ih
theorem s4_toneWishedAt {Q : Int → z_M → Prop} (hb : z_cl b = 4) {x : Nat} (hx : x < L) (hA : wfA A P L) (hI : stC I b A P L hr K W Y tn) (h : Q (tn x) I) : CX4_toneWishedAt [aR b, aI x] I Q := by
  obtain ⟨o1, o2, o3, o4, o5, o6, o7, o8, o9, o10, n1, n2, n3, n4, n5, n6, n7, n8, n10⟩ := z_o hb
  obtain ⟨a0, a1, a2, a3, a4, a5⟩ := hA
  have e0 : ((x : Int) * 5).toNat = 5 * x := by omega
  refine eX4_toneWishedAt ?_
  refine X4_toneWishedAt_0 (k := ?_)
  refine X4_toneWishedAt_1 (k := ?_)
  refine X4_toneWishedAt_4 (k := ?_)
  refine X4_toneWishedAt_5 (k := ?_)
  refine X4_toneWishedAt_6 (k := ?_)
  refine X4_toneWishedAt_7 (k := ?_)
  refine X4_toneWishedAt_8 (hq := ?_)
  rw [e0, (hI.2.2.2.1 x hx).1]
  exact h
theorem s4_bringHome {Q : z_M → Prop} (hb : z_cl b = 4) {p : Nat} (hp : p < 8) (h : Q (z_up (z_up I (b + 4) p (-1)) (b + 5) p 0)) : CX4_bringHome [aR b, aI p] I Q := by
  obtain ⟨o1, o2, o3, o4, o5, o6, o7, o8, o9, o10, n1, n2, n3, n4, n5, n6, n7, n8, n10⟩ := z_o hb
  refine eX4_bringHome ?_
  refine X4_bringHome_0 (k := ?_)
  refine X4_bringHome_1 (k := ?_)
  refine X4_bringHome_4 (k := ?_)
  refine X4_bringHome_5 (k := ?_)
  refine X4_bringHome_6 (k := ?_)
  refine X4_bringHome_7 (k := ?_)
  refine X4_bringHome_8 (k := ?_)
  refine X4_bringHome_11 (k := ?_)
  refine X4_bringHome_12 (k := ?_)
  refine X4_bringHome_13 (k := ?_)
  refine X4_bringHome_14 (hq := ?_)
  exact h
theorem s4_ruleOf {Q : Nat → z_M → Prop} (hb : z_cl b = 4) {p : Nat} (hp : p < P) (hA : wfA A P L) (hS : wfS P L K W Y) (hI : stC I b A P L hr K W Y tn) (h : Q (2 + (K p).toNat) I) : CX4_ruleOf [aR b, aI p, aR 1] I Q := by
  obtain ⟨o1, o2, o3, o4, o5, o6, o7, o8, o9, o10, n1, n2, n3, n4, n5, n6, n7, n8, n10⟩ := z_o hb
  obtain ⟨a0, a1, a2, a3, a4, a5⟩ := hA
  have hk := (hI.2.2.2.2 p hp).1
  have hk2 := (hS p hp).1
  refine eX4_ruleOf ?_
  refine X4_ruleOf_0 (k := ?_)
  refine X4_ruleOf_1 (k := ?_)
  refine X4_ruleOf_4 (k := ?_)
  refine X4_ruleOf_5 (k := ?_)
  simp only [Int.toNat_natCast, hk]
  refine X4_ruleOf_6 (k := ?_)
  refine X4_ruleOf_7 (k := ?_)
  refine X4_ruleOf_8 (kt := fun k8 => ?_) (kf := fun k8 => ?_)
  · refine X4_ruleOf_23 (k := ?_)
    refine X4_ruleOf_24 (k := ?_)
    refine X4_ruleOf_25 (k := ?_)
    refine X4_ruleOf_26 (hq := ?_)
    rw [show (K p).toNat = 0 by omega] at h
    exact h
  · refine X4_ruleOf_11 (k := ?_)
    refine X4_ruleOf_12 (k := ?_)
    refine X4_ruleOf_13 (k := ?_)
    refine X4_ruleOf_14 (kt := fun k14 => ?_) (kf := fun k14 => ?_)
    · omega
    · refine X4_ruleOf_17 (k := ?_)
      refine X4_ruleOf_18 (k := ?_)
      refine X4_ruleOf_19 (k := ?_)
      refine X4_ruleOf_20 (k := ?_)
      refine X4_ruleOf_26 (hq := ?_)
      exact h
end SC

/-! an hour goes by on an Organ -/
theorem X7_comesBack_13b {Q : Int → z_M → Prop} {a0 a1 a2 : z_V} {b : Nat} {x0 : Nat} {x1 : Int} {st : List z_V} {I : z_M} (hb : z_cl b = 0 := by first | assumption | rfl) (hst : z_sw st ≤ 8 := by exact Nat.le_of_ble_eq_true rfl) (k : CX6_comesBack (aR b :: [aR x0, aI x1]) I (fun x9 I9 => JX7_comesBack Q 16 [a0, a1, a2] (aI x9 :: st) I9)) : JX7_comesBack Q 13 [a0, a1, a2] (aI x1 :: aR x0 :: aR b :: st) I := g_callSU (ci := 0) (As := [aR x0, aI x1]) (n := 2) dX7_comesBack_13 ⟨m_22_17, pdX6_comesBack, ⟨by decide, by decide⟩, rfl, rfl, by decide, by decide⟩ m_22_14 m_22_8 m_22_15 m_22_16 m_1_14 (by decide) hb (by decide) rfl rfl hst k (fun r I9 h => by obtain ⟨x9, rfl, h⟩ := h; exact h)
section SH
variable {I : z_M} {b r : Nat} {A : Nat → Int} {P L : Nat} {hr : Int} {K W Y tn : Nat → Int} {p : Nat}
theorem s6_mayGo {Q : Int → z_M → Prop} (h : Q 1 I) : CX6_mayGo [aR r, aR b, aI p] I Q := by
  refine eX6_mayGo ?_
  refine X6_mayGo_0 (k := ?_)
  refine X6_mayGo_1 (hq := ?_)
  exact h
theorem s1_mayGo {Q : Int → z_M → Prop} (hb : z_cl b = 4) (hA : wfA A P L) (hI : stC I b A P L hr K W Y tn) (h1 : pOther P W p = true → Q 1 I) (h0 : pOther P W p = false → Q 0 I) : CX1_mayGo [aR r, aR b, aI p] I Q := by
  refine eX1_mayGo ?_
  refine X1_mayGo_0 (k := ?_)
  refine X1_mayGo_1 (k := ?_)
  refine X1_mayGo_2 (k := ?_)
  refine s4_isAnotherAway hb hA hI (fun z => ?_) (fun z => ?_)
  · refine X1_mayGo_5 (hq := ?_)
    exact h1 z
  · refine X1_mayGo_5 (hq := ?_)
    exact h0 z
theorem s0_mayGo {Q : Int → z_M → Prop} (hb : z_cl b = 4) (hr0 : z_cl r = 0) (hI : stC I b A P L hr K W Y tn) (h1 : pNight hr = true → Q 1 I) (h0 : pNight hr = false → Q 0 I) : CX0_mayGo [aR r, aR b, aI p] I Q := by
  refine eX0_mayGo ?_
  refine X0_mayGo_0 (k := ?_)
  refine X0_mayGo_1 (k := ?_)
  refine s4_isNight hb (fun z => ?_) (fun z => ?_)
  · refine X0_mayGo_4 (kt := fun k4 => ?_) (kf := fun k4 => ?_)
    · omega
    · refine X0_mayGo_7 (k := ?_)
      refine X0_mayGo_8 (k := ?_)
      refine X0_mayGo_9 (k := ?_)
      refine X0_mayGo_10 (k := ?_)
      refine s6_mayGo ?_
      refine X0_mayGo_13 (kt := fun k13 => ?_) (kf := fun k13 => ?_)
      · omega
      · refine X0_mayGo_16 (k := ?_)
        refine X0_mayGo_17 (k := ?_)
        refine X0_mayGo_21 (hq := ?_)
        exact h1 (hI.1 ▸ z)
  · refine X0_mayGo_4 (kt := fun k4 => ?_) (kf := fun k4 => ?_)
    · refine X0_mayGo_20 (k := ?_)
      refine X0_mayGo_21 (hq := ?_)
      exact h0 (hI.1 ▸ z)
    · omega
theorem s3_mayGo {Q : Int → z_M → Prop} (hb : z_cl b = 4) (hr3 : z_cl r = 3) (hA : wfA A P L) (hI : stC I b A P L hr K W Y tn) (h1 : (pOther P W p && pNight hr) = true → Q 1 I) (h0 : (pOther P W p && pNight hr) = false → Q 0 I) : CX3_mayGo [aR r, aR b, aI p] I Q := by
  refine eX3_mayGo ?_
  refine X3_mayGo_0 (k := ?_)
  refine X3_mayGo_1 (k := ?_)
  refine s4_isNight hb (fun z => ?_) (fun z => ?_)
  · have z : pNight hr = true := hI.1 ▸ z
    refine X3_mayGo_4 (kt := fun k4 => ?_) (kf := fun k4 => ?_)
    · omega
    · refine X3_mayGo_7 (k := ?_)
      refine X3_mayGo_8 (k := ?_)
      refine X3_mayGo_9 (k := ?_)
      refine X3_mayGo_10 (k := ?_)
      refine s1_mayGo hb hA hI (fun y => ?_) (fun y => ?_)
      · refine X3_mayGo_13 (kt := fun k13 => ?_) (kf := fun k13 => ?_)
        · omega
        · refine X3_mayGo_16 (k := ?_)
          refine X3_mayGo_17 (k := ?_)
          refine X3_mayGo_21 (hq := ?_)
          exact h1 (by rw [y, z]; rfl)
      · refine X3_mayGo_13 (kt := fun k13 => ?_) (kf := fun k13 => ?_)
        · refine X3_mayGo_20 (k := ?_)
          refine X3_mayGo_21 (hq := ?_)
          exact h0 (by rw [y]; rfl)
        · omega
  · have z : pNight hr = false := hI.1 ▸ z
    refine X3_mayGo_4 (kt := fun k4 => ?_) (kf := fun k4 => ?_)
    · refine X3_mayGo_20 (k := ?_)
      refine X3_mayGo_21 (hq := ?_)
      exact h0 (by rw [z, Bool.and_false])
    · omega
theorem s6_comesBack {Q : Int → z_M → Prop} (hb : z_cl b = 4) (hp : p < P) (hW : W p ≠ -1) (hA : wfA A P L) (hS : wfS P L K W Y) (hI : stC I b A P L hr K W Y tn) (h1 : pWish A hr (W p).toNat = false → Q 1 I) (h0 : pWish A hr (W p).toNat = true → Q 0 I) : CX6_comesBack [aR r, aR b, aI p] I Q := by
  obtain ⟨o1, o2, o3, o4, o5, o6, o7, o8, o9, o10, n1, n2, n3, n4, n5, n6, n7, n8, n10⟩ := z_o hb
  have hw := (hI.2.2.2.2 p hp).2.2.1
  have hw2 := (hS p hp).2.1
  have hP := hA.2.2.1
  refine eX6_comesBack ?_
  refine X6_comesBack_0 (k := ?_)
  refine X6_comesBack_1 (k := ?_)
  refine X6_comesBack_2 (k := ?_)
  refine X6_comesBack_5 (k := ?_)
  refine X6_comesBack_6 (k := ?_)
  simp only [Int.toNat_natCast, hw]
  rw [show W p = (((W p).toNat : Nat) : Int) by omega]
  refine X6_comesBack_7 (k := ?_)
  refine s4_isWished hb (x := (W p).toNat) (by omega) hA hI (fun z => ?_) (fun z => ?_)
  · refine X6_comesBack_10 (kt := fun k10 => ?_) (kf := fun k10 => ?_)
    · refine X6_comesBack_17 (k := ?_)
      refine X6_comesBack_18 (hq := ?_)
      exact h0 z
    · omega
  · refine X6_comesBack_10 (kt := fun k10 => ?_) (kf := fun k10 => ?_)
    · omega
    · refine X6_comesBack_13 (k := ?_)
      refine X6_comesBack_14 (k := ?_)
      refine X6_comesBack_18 (hq := ?_)
      exact h1 z
theorem s7_comesBack {Q : Int → z_M → Prop} (hb : z_cl b = 4) (hr7 : z_cl r = 7 ∨ z_cl r = 0) (hp : p < P) (hW : W p ≠ -1) (hA : wfA A P L) (hS : wfS P L K W Y) (hI : stC I b A P L hr K W Y tn) (h1 : (!pWish A hr (W p).toNat && decide (2 < Y p)) = true → Q 1 I) (h0 : (!pWish A hr (W p).toNat && decide (2 < Y p)) = false → Q 0 I) : CX7_comesBack [aR r, aR b, aI p] I Q := by
  obtain ⟨o1, o2, o3, o4, o5, o6, o7, o8, o9, o10, n1, n2, n3, n4, n5, n6, n7, n8, n10⟩ := z_o hb
  have hy := (hI.2.2.2.2 p hp).2.2.2
  have hP := hA.2.2.1
  refine eX7_comesBack ?_
  refine X7_comesBack_0 (k := ?_)
  refine X7_comesBack_1 (k := ?_)
  refine X7_comesBack_4 (k := ?_)
  refine X7_comesBack_5 (k := ?_)
  simp only [Int.toNat_natCast, hy]
  refine X7_comesBack_6 (k := ?_)
  refine X7_comesBack_7 (kt := fun k7 => ?_) (kf := fun k7 => ?_)
  · refine X7_comesBack_23 (k := ?_)
    refine X7_comesBack_24 (hq := ?_)
    exact h0 (by rw [decide_eq_false (by omega), Bool.and_false])
  · have c : CX6_comesBack [aR r, aR b, aI p] I (fun x9 I9 => JX7_comesBack Q 16 [aR r, aR b, aI p] [aI x9] I9) := by
      refine s6_comesBack hb hp hW hA hS hI (fun z => ?_) (fun z => ?_)
      · refine X7_comesBack_16 (kt := fun k16 => ?_) (kf := fun k16 => ?_)
        · omega
        · refine X7_comesBack_19 (k := ?_)
          refine X7_comesBack_20 (k := ?_)
          refine X7_comesBack_24 (hq := ?_)
          exact h1 (by rw [z, decide_eq_true (by omega)]; rfl)
      · refine X7_comesBack_16 (kt := fun k16 => ?_) (kf := fun k16 => ?_)
        · refine X7_comesBack_23 (k := ?_)
          refine X7_comesBack_24 (hq := ?_)
          exact h0 (by rw [z]; rfl)
        · omega
    refine X7_comesBack_10 (k := ?_)
    refine X7_comesBack_11 (k := ?_)
    refine X7_comesBack_12 (k := ?_)
    rcases hr7 with hr7 | hr7
    · exact X7_comesBack_13 (k := c)
    · exact X7_comesBack_13b (k := c)
theorem s2_comesBack {Q : Int → z_M → Prop} (hb : z_cl b = 4) (hr2 : z_cl r = 2) (hp : p < P) (hW : W p ≠ -1) (hA : wfA A P L) (hS : wfS P L K W Y) (hI : stC I b A P L hr K W Y tn) (h1 : (!pWish A hr (W p).toNat || decide (1 < Y p)) = true → Q 1 I) (h0 : (!pWish A hr (W p).toNat || decide (1 < Y p)) = false → Q 0 I) : CX2_comesBack [aR r, aR b, aI p] I Q := by
  obtain ⟨o1, o2, o3, o4, o5, o6, o7, o8, o9, o10, n1, n2, n3, n4, n5, n6, n7, n8, n10⟩ := z_o hb
  have hy := (hI.2.2.2.2 p hp).2.2.2
  have hP := hA.2.2.1
  refine eX2_comesBack ?_
  refine X2_comesBack_0 (k := ?_)
  refine X2_comesBack_1 (k := ?_)
  refine X2_comesBack_4 (k := ?_)
  refine X2_comesBack_5 (k := ?_)
  simp only [Int.toNat_natCast, hy]
  refine X2_comesBack_6 (k := ?_)
  refine X2_comesBack_7 (kt := fun k7 => ?_) (kf := fun k7 => ?_)
  · refine X2_comesBack_19 (k := ?_)
    refine X2_comesBack_20 (k := ?_)
    refine X2_comesBack_24 (hq := ?_)
    exact h1 (by rw [decide_eq_true (by omega), Bool.or_true])
  · refine X2_comesBack_10 (k := ?_)
    refine X2_comesBack_11 (k := ?_)
    refine X2_comesBack_12 (k := ?_)
    refine X2_comesBack_13 (k := ?_)
    refine s6_comesBack hb hp hW hA hS hI (fun z => ?_) (fun z => ?_)
    · refine X2_comesBack_16 (kt := fun k16 => ?_) (kf := fun k16 => ?_)
      · omega
      · refine X2_comesBack_19 (k := ?_)
        refine X2_comesBack_20 (k := ?_)
        refine X2_comesBack_24 (hq := ?_)
        exact h1 (by rw [z]; rfl)
    · refine X2_comesBack_16 (kt := fun k16 => ?_) (kf := fun k16 => ?_)
      · refine X2_comesBack_23 (k := ?_)
        refine X2_comesBack_24 (hq := ?_)
        exact h0 (by rw [z, decide_eq_false (by omega)]; rfl)
      · omega
theorem s3_comesBack {Q : Int → z_M → Prop} (h : Q 0 I) : CX3_comesBack [aR r, aR b, aI p] I Q := by
  refine eX3_comesBack ?_
  refine X3_comesBack_0 (k := ?_)
  refine X3_comesBack_1 (hq := ?_)
  exact h
theorem z_kinds (h : 0 ≤ K p ∧ K p ≤ 5) : K p = 0 ∨ K p = 1 ∨ K p = 2 ∨ K p = 3 ∨ K p = 4 ∨ K p = 5 := by omega
theorem d4_mayGo {Q : z_M → Prop} {a3 : z_V} (hb : z_cl b = 4) (hp : p < P) (hA : wfA A P L) (hS : wfS P L K W Y) (hI : stC I b A P L hr K W Y tn) (h1 : pGo P hr K W p = true → JX4_letHourGoBy Q 43 [aR b, aR 1, aI p, a3] [aI 1] I) (h0 : pGo P hr K W p = false → JX4_letHourGoBy Q 43 [aR b, aR 1, aI p, a3] [aI 0] I) : JX4_letHourGoBy Q 40 [aR b, aR 1, aI p, a3] [aI p, aR b, aR (2 + (K p).toNat)] I := by
  rcases z_kinds (hS p hp).1 with e | e | e | e | e | e
  · rw [e]
    exact X4_letHourGoBy_40_6 (k := s6_mayGo (h1 (by simp [pGo, e])))
  · rw [e]
    exact X4_letHourGoBy_40_7 (k := s6_mayGo (h1 (by simp [pGo, e])))
  · rw [e]
    exact X4_letHourGoBy_40_1 (k := s1_mayGo hb hA hI (fun z => h1 (by simp [pGo, e, z])) (fun z => h0 (by simp [pGo, e, z])))
  · rw [e]
    exact X4_letHourGoBy_40_0 (k := s0_mayGo hb rfl hI (fun z => h1 (by simp [pGo, e, z])) (fun z => h0 (by simp [pGo, e, z])))
  · rw [e]
    exact X4_letHourGoBy_40_2 (k := s6_mayGo (h1 (by simp [pGo, e])))
  · rw [e]
    exact X4_letHourGoBy_40_3 (k := s3_mayGo hb rfl hA hI (fun z => h1 (by simpa [pGo, e] using z)) (fun z => h0 (by simpa [pGo, e] using z)))
theorem s4_wouldGo {Q : Int → z_M → Prop} (hb : z_cl b = 4) (hp : p < P) (hA : wfA A P L) (hS : wfS P L K W Y) (hI : stC I b A P L hr K W Y tn) (h1 : pGo P hr K W p = true → Q 1 I) (h0 : pGo P hr K W p = false → Q 0 I) : CX4_wouldGo [aR b, aI p, aR 1] I Q := by
  have h1' : pGo P hr K W p = true → JX4_wouldGo Q 11 [aR b, aI p, aR 1] [aI 1] I := fun z => X4_wouldGo_11 (hq := h1 z)
  have h0' : pGo P hr K W p = false → JX4_wouldGo Q 11 [aR b, aI p, aR 1] [aI 0] I := fun z => X4_wouldGo_11 (hq := h0 z)
  refine eX4_wouldGo ?_
  refine X4_wouldGo_0 (k := ?_)
  refine X4_wouldGo_1 (k := ?_)
  refine X4_wouldGo_2 (k := ?_)
  refine X4_wouldGo_3 (k := ?_)
  refine s4_ruleOf hb hp hA hS hI ?_
  refine X4_wouldGo_6 (k := ?_)
  refine X4_wouldGo_7 (k := ?_)
  rcases z_kinds (hS p hp).1 with e | e | e | e | e | e
  · rw [e]
    exact X4_wouldGo_8_6 (k := s6_mayGo (h1' (by simp [pGo, e])))
  · rw [e]
    exact X4_wouldGo_8_7 (k := s6_mayGo (h1' (by simp [pGo, e])))
  · rw [e]
    exact X4_wouldGo_8_1 (k := s1_mayGo hb hA hI (fun z => h1' (by simp [pGo, e, z])) (fun z => h0' (by simp [pGo, e, z])))
  · rw [e]
    exact X4_wouldGo_8_0 (k := s0_mayGo hb rfl hI (fun z => h1' (by simp [pGo, e, z])) (fun z => h0' (by simp [pGo, e, z])))
  · rw [e]
    exact X4_wouldGo_8_2 (k := s6_mayGo (h1' (by simp [pGo, e])))
  · rw [e]
    exact X4_wouldGo_8_3 (k := s3_mayGo hb rfl hA hI (fun z => h1' (by simpa [pGo, e] using z)) (fun z => h0' (by simpa [pGo, e] using z)))
theorem d4_comesBack {Q : z_M → Prop} {a3 : z_V} (hb : z_cl b = 4) (hp : p < P) (hW : W p ≠ -1) (hA : wfA A P L) (hS : wfS P L K W Y) (hI : stC I b A P L hr K W Y tn) (h1 : pBack A hr K W Y p = true → JX4_letHourGoBy Q 70 [aR b, aR 1, aI p, a3] [aI 1] I) (h0 : pBack A hr K W Y p = false → JX4_letHourGoBy Q 70 [aR b, aR 1, aI p, a3] [aI 0] I) : JX4_letHourGoBy Q 67 [aR b, aR 1, aI p, a3] [aI p, aR b, aR (2 + (K p).toNat)] I := by
  rcases z_kinds (hS p hp).1 with e | e | e | e | e | e
  · rw [e]
    exact X4_letHourGoBy_67_6 (k := s6_comesBack hb hp hW hA hS hI (fun z => h1 (by simp [pBack, e, z])) (fun z => h0 (by simp [pBack, e, z])))
  · rw [e]
    exact X4_letHourGoBy_67_7 (k := s7_comesBack hb (Or.inl rfl) hp hW hA hS hI (fun z => h1 (by simpa [pBack, e] using z)) (fun z => h0 (by simpa [pBack, e] using z)))
  · rw [e]
    exact X4_letHourGoBy_67_1 (k := s6_comesBack hb hp hW hA hS hI (fun z => h1 (by simp [pBack, e, z])) (fun z => h0 (by simp [pBack, e, z])))
  · rw [e]
    exact X4_letHourGoBy_67_0 (k := s7_comesBack hb (Or.inr rfl) hp hW hA hS hI (fun z => h1 (by simpa [pBack, e] using z)) (fun z => h0 (by simpa [pBack, e] using z)))
  · rw [e]
    exact X4_letHourGoBy_67_2 (k := s2_comesBack hb rfl hp hW hA hS hI (fun z => h1 (by simpa [pBack, e] using z)) (fun z => h0 (by simpa [pBack, e] using z)))
  · rw [e]
    exact X4_letHourGoBy_67_3 (k := s3_comesBack (h0 (by simp [pBack, e])))
end SH

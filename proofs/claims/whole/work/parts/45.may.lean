/-! may -/
section PN
variable {I I' : z_M} {b c : Nat} {A A' : Nat → Int} {P L : Nat}
theorem stC_K {hr : Int} {K W Y tn : Nat → Int} {q : Nat} {v : Int} (h : stC I b A P L hr K W Y tn) : stC (z_up I (b + 2) q v) b A P L hr (zu K q v) W Y tn := by
  obtain ⟨h0, h1, h2, h3, h4⟩ := h
  refine ⟨by rw [z_up_n (by omega)]; exact h0, by rw [z_up_n (by omega)]; exact h1, by rw [z_up_n (by omega)]; exact h2, fun y hy => by rw [z_up_n (by omega)]; exact h3 y hy, fun p hp => ?_⟩
  rw [z_up_s, z_up_n (show b + 3 ≠ b + 2 by omega), z_up_n (show b + 4 ≠ b + 2 by omega), z_up_n (show b + 5 ≠ b + 2 by omega)]
  by_cases z : p = q
  · subst z
    rw [zu_s, zu_s]
    exact ⟨rfl, (h4 p hp).2⟩
  · rw [zu_n z, zu_n z]
    exact h4 p hp
theorem stM_K {hr : Int} {K W Y tn : Nat → Int} {q : Nat} {v : Int} (h : stM I A P L hr K W Y tn) : stM (z_up I 65 q v) A P L hr (zu K q v) W Y tn := by
  obtain ⟨h0, h1, h2, h3⟩ := h
  refine ⟨by rw [z_up_n (by decide)]; exact h0, by rw [z_up_n (by decide)]; exact h1, fun p hp => ?_, fun y hy => by rw [z_up_n (by decide)]; exact h3 y hy⟩
  rw [z_up_s, z_up_n (by decide), z_up_n (by decide)]
  by_cases z : p = q
  · subst z
    rw [zu_s, zu_s]
    exact ⟨rfl, (h2 p hp).2⟩
  · rw [zu_n z, zu_n z]
    exact h2 p hp
theorem wfS_K {K W Y : Nat → Int} {q : Nat} {v : Int} (hv : 0 ≤ v ∧ v ≤ 5) (h : wfS P L K W Y) : wfS P L (zu K q v) W Y := by
  intro p hp
  have := h p hp
  by_cases z : p = q
  · subst z
    rw [zu_s]
    exact ⟨hv, this.2⟩
  · rw [zu_n z]
    exact this
/-- a reading for m that is not so -/
def bR (A : Nat → Int) (W : Nat → Int) (m t : Nat) : Bool := decide (A (89 + 4 * t + 1) = (m : Int)) && (decide (W (A (89 + 4 * t)).toNat = A (89 + 4 * t + 2)) != decide (A (89 + 4 * t + 3) = 1))
def pBd (A : Nat → Int) (W : Nat → Int) (m : Nat) : Bool := z_any (bR A W m) (A 3).toNat
def hK (A : Nat → Int) (P L p k m : Nat) : Int × (Nat → Int) × (Nat → Int) := pHours A P L (zu (kA A) p (k : Int)) (tA A) (sA A) m
def mB (A : Nat → Int) (P L p k : Nat) : Bool := !z_any (fun m => pBd A (hK A P L p k m).2.1 m) 73
def lR (A : Nat → Int) : Nat → Int
  | 0 => -1
  | t + 1 => if lR A t < A (89 + 4 * t + 1) then A (89 + 4 * t + 1) else lR A t
theorem lR_r {n : Nat} (h : ∀ t, t < n → 0 ≤ A (89 + 4 * t + 1) ∧ A (89 + 4 * t + 1) ≤ 72) : ∀ i, i ≤ n → (-1 ≤ lR A i ∧ lR A i ≤ 72) ∧ ∀ t, t < i → A (89 + 4 * t + 1) ≤ lR A i
  | 0, _ => ⟨by unfold lR; decide, fun t ht => absurd ht (Nat.not_lt_zero t)⟩
  | i + 1, hi => by
    obtain ⟨h1, h2⟩ := lR_r h i (by omega)
    have h3 := h i (by omega)
    unfold lR
    refine ⟨by split <;> omega, fun t ht => ?_⟩
    by_cases z : t = i
    · subst z
      split <;> omega
    · have := h2 t (by omega)
      split <;> omega
theorem z_any_more {c : Nat → Bool} {n : Nat} (h : ∀ j, n ≤ j → c j = false) : ∀ d, z_any c (n + d) = z_any c n
  | 0 => rfl
  | d + 1 => by
    rw [← Nat.add_assoc]
    show (z_any c (n + d) || c (n + d)) = _
    rw [z_any_more h d, h (n + d) (by omega), Bool.or_false]
theorem s4_lastReadingHour {Q : Int → z_M → Prop} (hb : z_cl b = 4) (hx : rpR I b A P L) (h : Q (lR A (A 3).toNat) I) : CX4_lastReadingHour [aR b] I Q := by
  obtain ⟨o1, o2, o3, o4, o5, o6, o7, o8, o9, o10, n1, n2, n3, n4, n5, n6, n7, n8, n10⟩ := z_o hb
  obtain ⟨⟨r1, r2⟩, r3, r4⟩ := hx
  obtain ⟨n, hn⟩ : ∃ n : Nat, A 3 = n := ⟨(A 3).toNat, by omega⟩
  rw [hn] at r1 r2 r3 r4
  rw [hn, Int.toNat_natCast] at h
  refine eX4_lastReadingHour ?_
  refine X4_lastReadingHour_0 (k := ?_)
  refine X4_lastReadingHour_1 (k := ?_)
  refine X4_lastReadingHour_2 (k := ?_)
  refine X4_lastReadingHour_3 (k := ?_)
  refine z_for n (fun i => JX4_lastReadingHour Q 4 [aR b, aI (lR A i), aI i] [] I) ?_ (fun i hi ih => ?_) 0 (Nat.zero_le _)
  · refine X4_lastReadingHour_4 (k := ?_)
    refine X4_lastReadingHour_5 (k := ?_)
    refine X4_lastReadingHour_6 (k := ?_)
    rw [r3]
    refine X4_lastReadingHour_9 (kt := fun k9 => ?_) (kf := fun k9 => ?_)
    · refine X4_lastReadingHour_33 (k := ?_)
      refine X4_lastReadingHour_34 (hq := ?_)
      exact h
    · omega
  · refine X4_lastReadingHour_4 (k := ?_)
    refine X4_lastReadingHour_5 (k := ?_)
    refine X4_lastReadingHour_6 (k := ?_)
    rw [r3]
    refine X4_lastReadingHour_9 (kt := fun k9 => ?_) (kf := fun k9 => ?_)
    · omega
    · refine X4_lastReadingHour_12 (k := ?_)
      refine X4_lastReadingHour_13 (k := ?_)
      refine X4_lastReadingHour_14 (k := ?_)
      refine X4_lastReadingHour_17 (k := ?_)
      refine X4_lastReadingHour_18 (k := ?_)
      refine X4_lastReadingHour_19 (k := ?_)
      refine X4_lastReadingHour_20 (k := ?_)
      refine X4_lastReadingHour_21 (k := ?_)
      refine X4_lastReadingHour_22 (k := ?_)
      rw [show ((i : Int) * 4 + 1).toNat = 4 * i + 1 by omega, (r4 i (by omega)).1.2.1]
      refine X4_lastReadingHour_23 (k := ?_)
      refine X4_lastReadingHour_26 (k := ?_)
      refine X4_lastReadingHour_27 (k := ?_)
      refine X4_lastReadingHour_30 (k := ?_)
      exact ih
theorem s4_isAt {Q : Int → z_M → Prop} (hb : z_cl b = 4) {hr : Int} {K W Y tn : Nat → Int} {p : Nat} {x : Int} (hP : P ≤ 8) (hp : p < P) (hI : stC I b A P L hr K W Y tn) (h : Q (if W p = x then 1 else 0) I) : CX4_isAt [aR b, aI p, aI x] I Q := by
  obtain ⟨o1, o2, o3, o4, o5, o6, o7, o8, o9, o10, n1, n2, n3, n4, n5, n6, n7, n8, n10⟩ := z_o hb
  refine eX4_isAt ?_
  refine X4_isAt_0 (k := ?_)
  refine X4_isAt_1 (kt := fun k1 => ?_) (kf := fun k1 => ?_)
  · omega
  · refine X4_isAt_4 (k := ?_)
    refine X4_isAt_5 (k := ?_)
    refine X4_isAt_6 (k := ?_)
    rw [hI.2.2.1]
    refine X4_isAt_9 (kt := fun k9 => ?_) (kf := fun k9 => ?_)
    · omega
    · refine X4_isAt_12 (k := ?_)
      refine X4_isAt_13 (k := ?_)
      refine X4_isAt_16 (k := ?_)
      refine X4_isAt_17 (k := ?_)
      rw [Int.toNat_natCast, (hI.2.2.2.2 p hp).2.2.1]
      refine X4_isAt_18 (k := ?_)
      refine X4_isAt_19 (kt := fun k19 => ?_) (kf := fun k19 => ?_)
      · refine X4_isAt_26 (k := ?_)
        refine X4_isAt_27 (hq := ?_)
        rw [if_neg k19] at h
        exact h
      · refine X4_isAt_22 (k := ?_)
        refine X4_isAt_23 (k := ?_)
        refine X4_isAt_27 (hq := ?_)
        rw [if_pos k19] at h
        exact h
theorem s4_agreesWith {Q : Int → z_M → Prop} (hb : z_cl b = 4) (hc : z_cl c = 4) {hr : Int} {K W Y tn : Nat → Int} {m : Nat} (hm : m ≤ 100) (hP : P ≤ 8) (hx : rpR I b A P L) (hI : stC I c A P L hr K W Y tn) (h1 : pBd A W m = false → Q 1 I) (h0 : pBd A W m = true → Q 0 I) : CX4_agreesWith [aR b, aR c, aI m] I Q := by
  obtain ⟨o1, o2, o3, o4, o5, o6, o7, o8, o9, o10, n1, n2, n3, n4, n5, n6, n7, n8, n10⟩ := z_o hb
  obtain ⟨⟨r1, r2⟩, r3, r4⟩ := hx
  obtain ⟨n, hn⟩ : ∃ n : Nat, A 3 = n := ⟨(A 3).toNat, by omega⟩
  rw [hn] at r1 r2 r3 r4
  unfold pBd at h1 h0
  rw [hn, Int.toNat_natCast] at h1 h0
  refine eX4_agreesWith ?_
  refine X4_agreesWith_0 (k := ?_)
  refine X4_agreesWith_1 (k := ?_)
  have := z_for n (fun i => ∀ (v w : z_V), z_any (bR A W m) i = false → JX4_agreesWith Q 2 [aR b, aR c, aI m, aI i, v, w] [] I) (by
    intro v w z
    refine X4_agreesWith_2 (k := ?_)
    refine X4_agreesWith_3 (k := ?_)
    refine X4_agreesWith_4 (k := ?_)
    rw [r3]
    refine X4_agreesWith_7 (kt := fun k7 => ?_) (kf := fun k7 => ?_)
    · refine X4_agreesWith_81 (k := ?_)
      refine X4_agreesWith_82 (hq := ?_)
      exact h1 z
    · omega) (fun i hi ih => by
    intro v w z
    obtain ⟨⟨d0, d1, d2, d3⟩, g0, g1, g2, g3⟩ := r4 i (by omega)
    have zs : bR A W m i = false → z_any (bR A W m) (i + 1) = false := fun e => by unfold z_any; rw [z, e]; rfl
    obtain ⟨p, hp⟩ : ∃ p : Nat, A (89 + 4 * i) = p := ⟨(A (89 + 4 * i)).toNat, by omega⟩
    have e : bR A W m i = (decide (A (89 + 4 * i + 1) = (m : Int)) && (decide (W p = A (89 + 4 * i + 2)) != decide (A (89 + 4 * i + 3) = 1))) := by
      unfold bR
      rw [hp, Int.toNat_natCast]
    refine X4_agreesWith_2 (k := ?_)
    refine X4_agreesWith_3 (k := ?_)
    refine X4_agreesWith_4 (k := ?_)
    rw [r3]
    refine X4_agreesWith_7 (kt := fun k7 => ?_) (kf := fun k7 => ?_)
    · omega
    · refine X4_agreesWith_10 (k := ?_)
      refine X4_agreesWith_11 (k := ?_)
      refine X4_agreesWith_12 (k := ?_)
      refine X4_agreesWith_13 (k := ?_)
      refine X4_agreesWith_15 (k := ?_)
      refine X4_agreesWith_16 (k := ?_)
      refine X4_agreesWith_19 (k := ?_)
      refine X4_agreesWith_21 (k := ?_)
      refine X4_agreesWith_22 (k := ?_)
      refine X4_agreesWith_23 (k := ?_)
      rw [show ((i : Int) * 4 + 1).toNat = 4 * i + 1 by omega, d1]
      refine X4_agreesWith_24 (k := ?_)
      refine X4_agreesWith_25 (kt := fun k25 => ?_) (kf := fun k25 => ?_)
      · refine X4_agreesWith_75 (k := ?_)
        refine X4_agreesWith_78 (k := ?_)
        refine ih _ _ (zs ?_)
        rw [e, decide_eq_false k25]
        rfl
      · refine X4_agreesWith_28 (k := ?_)
        refine X4_agreesWith_29 (k := ?_)
        refine X4_agreesWith_30 (k := ?_)
        refine X4_agreesWith_33 (k := ?_)
        refine X4_agreesWith_35 (k := ?_)
        rw [show ((i : Int) * 4).toNat = 4 * i by omega, d0, hp]
        refine X4_agreesWith_36 (k := ?_)
        refine X4_agreesWith_37 (k := ?_)
        refine X4_agreesWith_40 (k := ?_)
        refine X4_agreesWith_42 (k := ?_)
        refine X4_agreesWith_43 (k := ?_)
        refine X4_agreesWith_44 (k := ?_)
        rw [show ((i : Int) * 4 + 2).toNat = 4 * i + 2 by omega, d2]
        refine X4_agreesWith_45 (k := ?_)
        refine s4_isAt hc hP (by omega) hI ?_
        refine X4_agreesWith_48 (k := ?_)
        refine X4_agreesWith_50 (k := ?_)
        refine X4_agreesWith_52 (k := ?_)
        refine X4_agreesWith_53 (k := ?_)
        refine X4_agreesWith_56 (k := ?_)
        refine X4_agreesWith_58 (k := ?_)
        refine X4_agreesWith_59 (k := ?_)
        refine X4_agreesWith_60 (k := ?_)
        rw [show ((i : Int) * 4 + 3).toNat = 4 * i + 3 by omega, d3]
        refine X4_agreesWith_61 (k := ?_)
        refine X4_agreesWith_62 (kt := fun k62 => ?_) (kf := fun k62 => ?_)
        · refine X4_agreesWith_69 (k := ?_)
          refine X4_agreesWith_70 (kt := fun k70 => ?_) (kf := fun k70 => ?_)
          · refine X4_agreesWith_75 (k := ?_)
            refine X4_agreesWith_78 (k := ?_)
            refine ih _ _ (zs ?_)
            have : ¬ W p = A (89 + 4 * i + 2) := fun q => by rw [if_pos q] at k70; omega
            rw [e, decide_eq_false this, decide_eq_false k62]
            simp
          · refine X4_agreesWith_73 (k := ?_)
            refine X4_agreesWith_74 (hq := ?_)
            refine h0 (z_any_t hi ?_)
            have : W p = A (89 + 4 * i + 2) := by
              apply Decidable.byContradiction
              intro q
              rw [if_neg q] at k70
              omega
            rw [e, decide_eq_true this, decide_eq_false k62, decide_eq_true k25]
            rfl
        · refine X4_agreesWith_65 (k := ?_)
          refine X4_agreesWith_66 (k := ?_)
          refine X4_agreesWith_70 (kt := fun k70 => ?_) (kf := fun k70 => ?_)
          · refine X4_agreesWith_75 (k := ?_)
            refine X4_agreesWith_78 (k := ?_)
            refine ih _ _ (zs ?_)
            have : W p = A (89 + 4 * i + 2) := by
              apply Decidable.byContradiction
              intro q
              rw [if_neg q] at k70
              omega
            rw [e, decide_eq_true this, decide_eq_true k62]
            simp
          · refine X4_agreesWith_73 (k := ?_)
            refine X4_agreesWith_74 (hq := ?_)
            refine h0 (z_any_t hi ?_)
            have : ¬ W p = A (89 + 4 * i + 2) := fun q => by rw [if_pos q] at k70; omega
            rw [e, decide_eq_false this, decide_eq_true k62, decide_eq_true k25]
            rfl) 0 (Nat.zero_le _)
  exact this _ _ rfl
theorem s10_areReadingsSo {Q : Int → z_M → Prop} {p k : Nat} (hk : k < 6) (hx : rpx I 8 A P L) (hI : stC I 19 A P L (sA A).1 (zu (kA A) p (k : Int)) (sA A).2.1 (sA A).2.2 (tA A)) (h : ∀ I' r, (mB A P L p k = true → r = 1) → (mB A P L p k = false → r = 0) → (∀ j, j < 19 ∨ 24 < j → I' j = I j) → Q r I') : CX10_areReadingsSo [aR 0] I Q := by
  have hA := rpx_A hx
  have hP := hA.2.2.1
  have hS : wfS P L (zu (kA A) p (k : Int)) (sA A).2.1 (sA A).2.2 := wfS_K (by omega) (rpx_S hx)
  have hR := hx.2.2.1
  obtain ⟨⟨l1, l2⟩, l3⟩ := lR_r (A := A) (n := (A 3).toNat) (fun t ht => (hR.2.2 t (by have := hR.1; omega)).2.2.1) (A 3).toNat (Nat.le_refl _)
  obtain ⟨l, hl⟩ : ∃ l : Nat, lR A (A 3).toNat = (l : Int) - 1 := ⟨(lR A (A 3).toNat + 1).toNat, by omega⟩
  have late : ∀ m, l ≤ m → pBd A (hK A P L p k m).2.1 m = false := fun m hm => by
    unfold pBd
    refine z_any_f.mpr (fun t ht => ?_)
    have := l3 t ht
    unfold bR
    rw [decide_eq_false (by omega)]
    rfl
  have hmore : z_any (fun m => pBd A (hK A P L p k m).2.1 m) 73 = z_any (fun m => pBd A (hK A P L p k m).2.1 m) l := by
    have := z_any_more (c := fun m => pBd A (hK A P L p k m).2.1 m) (n := l) late (73 - l)
    rw [show l + (73 - l) = 73 by omega] at this
    exact this
  have hmB : mB A P L p k = !z_any (fun m => pBd A (hK A P L p k m).2.1 m) l := by
    unfold mB
    rw [hmore]
  refine eX10_areReadingsSo ?_
  refine X10_areReadingsSo_0 (k := ?_)
  refine X10_areReadingsSo_1 (k := ?_)
  refine X10_areReadingsSo_4 (k := ?_)
  refine s4_lastReadingHour rfl hR ?_
  rw [hl]
  refine X10_areReadingsSo_7 (k := ?_)
  refine X10_areReadingsSo_8 (k := ?_)
  refine X10_areReadingsSo_9 (k := ?_)
  refine z_for l (fun i => ∀ I3, z_any (fun m => pBd A (hK A P L p k m).2.1 m) i = false → stC I3 19 A P L (hK A P L p k (i - 1)).1 (zu (kA A) p (k : Int)) (hK A P L p k (i - 1)).2.1 (hK A P L p k (i - 1)).2.2 (tA A) → (∀ j, j < 19 ∨ 24 < j → I3 j = I j) → JX10_areReadingsSo Q 10 [aR 0, aI ((l : Int) - 1), aI i] [] I3) ?_ (fun i hi ih => ?_) 0 (Nat.zero_le _) I rfl hI (fun _ _ => rfl)
  · intro I3 z f1 f2
    refine X10_areReadingsSo_10 (k := ?_)
    refine X10_areReadingsSo_11 (k := ?_)
    refine X10_areReadingsSo_12 (kt := fun k12 => ?_) (kf := fun k12 => ?_)
    · refine X10_areReadingsSo_53 (k := ?_)
      refine X10_areReadingsSo_54 (hq := ?_)
      exact h I3 1 (fun _ => rfl) (fun q => by rw [hmB, z] at q; cases q) f2
    · omega
  · intro I3 z f1 f2
    have tail : ∀ I4, stC I4 19 A P L (hK A P L p k i).1 (zu (kA A) p (k : Int)) (hK A P L p k i).2.1 (hK A P L p k i).2.2 (tA A) → (∀ j, j < 19 ∨ 24 < j → I4 j = I j) → JX10_areReadingsSo Q 30 [aR 0, aI ((l : Int) - 1), aI i] [] I4 := by
      intro I4 d1 d2
      refine X10_areReadingsSo_30 (k := ?_)
      refine X10_areReadingsSo_31 (k := ?_)
      refine X10_areReadingsSo_34 (k := ?_)
      refine X10_areReadingsSo_35 (k := ?_)
      refine X10_areReadingsSo_38 (k := ?_)
      refine X10_areReadingsSo_39 (k := ?_)
      refine s4_agreesWith rfl rfl (by omega) hP (rpR_cg hR (by rw [d2 8 (by decide)]) (d2 _ (by decide)) rfl (fun _ _ _ => rfl) (Nat.le_refl _) (Nat.le_refl _)) d1 (fun w => ?_) (fun w => ?_)
      · refine X10_areReadingsSo_42 (kt := fun k42 => ?_) (kf := fun k42 => ?_)
        · refine X10_areReadingsSo_47 (k := ?_)
          refine X10_areReadingsSo_50 (k := ?_)
          refine ih I4 ?_ d1 d2
          unfold z_any
          rw [z, w]
          rfl
        · omega
      · refine X10_areReadingsSo_42 (kt := fun k42 => ?_) (kf := fun k42 => ?_)
        · omega
        · refine X10_areReadingsSo_45 (k := ?_)
          refine X10_areReadingsSo_46 (hq := ?_)
          refine h I4 0 (fun q => ?_) (fun _ => rfl) d2
          rw [hmB, z_any_t (c := fun m => pBd A (hK A P L p k m).2.1 m) hi w] at q
          cases q
    refine X10_areReadingsSo_10 (k := ?_)
    refine X10_areReadingsSo_11 (k := ?_)
    refine X10_areReadingsSo_12 (kt := fun k12 => ?_) (kf := fun k12 => ?_)
    · omega
    · refine X10_areReadingsSo_15 (k := ?_)
      refine X10_areReadingsSo_16 (kt := fun k16 => ?_) (kf := fun k16 => ?_)
      · have : i = 0 := by omega
        subst this
        exact tail I3 f1 f2
      · obtain ⟨j, rfl⟩ : ∃ j, i = j + 1 := ⟨i - 1, by omega⟩
        refine X10_areReadingsSo_19 (k := ?_)
        refine X10_areReadingsSo_20 (k := ?_)
        refine X10_areReadingsSo_23 (k := ?_)
        refine X10_areReadingsSo_24 (k := ?_)
        refine X10_areReadingsSo_27 (k := ?_)
        refine s4_letHourGoBy rfl hA (wfS_hours (s := sA A) hS j) f1 (fun I4 m1 m2 m3 => ?_)
        exact tail I4 m1 (fun q hq => by rw [m2 q (by omega) (by omega) (by omega)]; exact f2 q hq)
end PN

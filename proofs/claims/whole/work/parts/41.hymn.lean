/-! hymns: what is played; plays, best, missing -/
section PK
variable {I I' : z_M} {b c : Nat} {A A' : Nat → Int} {P L : Nat}
theorem z_bs_bit (c : Nat → Bool) {p : Nat} : ∀ {n : Nat}, p < n → (z_bs c n / 2 ^ p) % 2 = if c p then 1 else 0
  | 0, h => absurd h (Nat.not_lt_zero p)
  | n + 1, h => by
    have hp : 0 < 2 ^ p := Nat.pos_of_ne_zero (by simp)
    by_cases z : p = n
    · subst z
      have hb := z_bs_lt c p
      unfold z_bs
      cases e : c p
      · simp [Nat.div_eq_of_lt hb]
      · simp only [if_true]
        rw [Nat.add_div_right _ hp, Nat.div_eq_of_lt hb]
    · have ih := z_bs_bit c (show p < n by omega)
      unfold z_bs
      cases e : c n
      · simpa using ih
      · simp only [if_true]
        obtain ⟨d, rfl⟩ : ∃ d, n = p + 1 + d := ⟨n - p - 1, by omega⟩
        rw [show 2 ^ (p + 1 + d) = 2 ^ p * (2 * 2 ^ d) by rw [Nat.pow_add, Nat.pow_succ, Nat.mul_assoc], Nat.add_mul_div_left _ _ hp]
        omega
theorem zbit_bs (c : Nat → Bool) {p n : Nat} (h : p < n) : zand (zshr (z_bs c n : Nat) p) 1 = if c p then 1 else 0 := by
  have := z_bs_bit c h
  unfold zshr
  rw [Int.toNat_natCast, Int.toNat_natCast, zand_1, this]
  split <;> rfl
/-- some pipe of C has the note v -/
def pPl (A : Nat → Int) (P : Nat) (C : Nat → Bool) (v : Int) : Bool := z_any (fun p => C p && decide (A (30 + 4 * p + 1) = v)) P
def pN (A : Nat → Int) (C : Nat → Bool) : Nat → Nat
  | 0 => 0
  | p + 1 => if C p then pN A C p ||| 2 ^ (A (30 + 4 * p + 1)).toNat else pN A C p
theorem pN_lt {C : Nat → Bool} (hA : ∀ p, p < P → 0 ≤ A (30 + 4 * p + 1) ∧ A (30 + 4 * p + 1) ≤ 35) : ∀ n, n ≤ P → pN A C n < 2 ^ 36
  | 0, _ => by unfold pN; decide
  | n + 1, h => by
    have ih := pN_lt hA (C := C) n (by omega)
    have := hA n (by omega)
    unfold pN
    split
    · exact Nat.or_lt_two_pow ih (Nat.pow_lt_pow_right (by decide) (by omega))
    · exact ih
theorem pN_bit {C : Nat → Bool} (hA : ∀ p, p < P → 0 ≤ A (30 + 4 * p + 1) ∧ A (30 + 4 * p + 1) ≤ 35) (v : Nat) : ∀ n, n ≤ P → Nat.testBit (pN A C n) v = pPl A n C v
  | 0, _ => by unfold pN pPl z_any; simp
  | n + 1, h => by
    have ih := pN_bit hA (C := C) v n (by omega)
    have := hA n (by omega)
    unfold pPl at ih ⊢
    unfold pN z_any
    cases e : C n
    · simp [ih]
    · simp only [if_true, Bool.true_and]
      rw [Nat.testBit_or, ih, Nat.testBit_two_pow]
      congr 1
      apply decide_eq_decide.mpr
      omega
theorem pPl_r {C : Nat → Bool} (hA : ∀ p, p < P → 0 ≤ A (30 + 4 * p + 1) ∧ A (30 + 4 * p + 1) ≤ 35) {v : Int} (h : pPl A P C v = true) : 0 ≤ v ∧ v ≤ 35 := by
  obtain ⟨p, hp, e⟩ := z_any_of h
  simp at e
  have := hA p hp
  omega
theorem wfA_n (hA : wfA A P L) : ∀ p, p < P → 0 ≤ A (30 + 4 * p + 1) ∧ A (30 + 4 * p + 1) ≤ 35 := fun p hp => (hA.2.2.2.2.2 p hp).2
theorem s10_hasNote {Q : Int → z_M → Prop} {C : Nat → Bool} {v : Int} (hA : wfA A P L) (h1 : pPl A P C v = true → Q 1 I) (h0 : pPl A P C v = false → Q 0 I) : CX10_hasNote [aL (pN A C P : Nat), aI v] I Q := by
  have hn := wfA_n hA
  have h36 := pN_lt hn (C := C) P (Nat.le_refl P)
  have no : ¬ (0 ≤ v ∧ v ≤ 35) → pPl A P C v = false := fun z => by
    cases e : pPl A P C v
    · rfl
    · exact absurd (pPl_r hn e) z
  refine eX10_hasNote ?_
  refine X10_hasNote_0 (k := ?_)
  refine X10_hasNote_1 (kt := fun k1 => ?_) (kf := fun k1 => ?_)
  · refine X10_hasNote_24 (k := ?_)
    refine X10_hasNote_25 (hq := ?_)
    exact h0 (no (by omega))
  · refine X10_hasNote_4 (k := ?_)
    refine X10_hasNote_5 (k := ?_)
    refine X10_hasNote_7 (kt := fun k7 => ?_) (kf := fun k7 => ?_)
    · refine X10_hasNote_24 (k := ?_)
      refine X10_hasNote_25 (hq := ?_)
      exact h0 (no (by omega))
    · obtain ⟨w, rfl⟩ : ∃ w : Nat, v = w := ⟨v.toNat, by omega⟩
      have hb := pN_bit hn (C := C) w P (Nat.le_refl P)
      rw [Nat.testBit_eq_decide_div_mod_eq] at hb
      refine X10_hasNote_10 (k := ?_)
      refine X10_hasNote_11 (k := ?_)
      refine X10_hasNote_12 (k := ?_)
      refine X10_hasNote_13 (k := ?_)
      refine X10_hasNote_14 (k := ?_)
      rw [show zand (zshr (pN A C P : Nat) w) 1 = ((pN A C P / 2 ^ w % 2 : Nat) : Int) by unfold zshr; rw [Int.toNat_natCast, Int.toNat_natCast, zand_1]]
      refine X10_hasNote_15 (k := ?_)
      refine X10_hasNote_16 (kt := fun k16 => ?_) (kf := fun k16 => ?_)
      · refine X10_hasNote_24 (k := ?_)
        refine X10_hasNote_25 (hq := ?_)
        refine h0 ?_
        rw [← hb]
        exact decide_eq_false (by omega)
      · refine X10_hasNote_20 (k := ?_)
        refine X10_hasNote_21 (k := ?_)
        refine X10_hasNote_25 (hq := ?_)
        refine h1 ?_
        rw [← hb]
        exact decide_eq_true (by omega)
theorem s4_notesInChurch {Q : Int → z_M → Prop} (hb : z_cl b = 4) {hr : Int} {K W Y tn : Nat → Int} (hA : wfA A P L) (hI : stC I b A P L hr K W Y tn) (h : Q (pN A (fun p => decide (W p = -1)) P : Nat) I) : CX4_notesInChurch [aR b] I Q := by
  obtain ⟨o1, o2, o3, o4, o5, o6, o7, o8, o9, o10, n1, n2, n3, n4, n5, n6, n7, n8, n10⟩ := z_o hb
  have hn := wfA_n hA
  have hP := hA.2.2.1
  refine eX4_notesInChurch ?_
  refine X4_notesInChurch_0 (k := ?_)
  refine X4_notesInChurch_1 (k := ?_)
  refine X4_notesInChurch_2 (k := ?_)
  refine X4_notesInChurch_3 (k := ?_)
  refine z_for P (fun i => JX4_notesInChurch Q 4 [aR b, aL (pN A (fun p => decide (W p = -1)) i : Nat), aU, aI i] [] I) ?_ (fun i hi ih => ?_) 0 (Nat.zero_le _)
  · refine X4_notesInChurch_4 (k := ?_)
    refine X4_notesInChurch_5 (k := ?_)
    refine X4_notesInChurch_6 (k := ?_)
    rw [hI.2.2.1]
    refine X4_notesInChurch_9 (kt := fun k9 => ?_) (kf := fun k9 => ?_)
    · refine X4_notesInChurch_39 (k := ?_)
      refine X4_notesInChurch_40 (hq := ?_)
      exact h
    · omega
  · have hni := hn i hi
    have h36 := pN_lt hn (C := fun p => decide (W p = -1)) i (by omega)
    refine X4_notesInChurch_4 (k := ?_)
    refine X4_notesInChurch_5 (k := ?_)
    refine X4_notesInChurch_6 (k := ?_)
    rw [hI.2.2.1]
    refine X4_notesInChurch_9 (kt := fun k9 => ?_) (kf := fun k9 => ?_)
    · omega
    · refine X4_notesInChurch_12 (k := ?_)
      refine X4_notesInChurch_13 (k := ?_)
      refine X4_notesInChurch_16 (k := ?_)
      refine X4_notesInChurch_17 (k := ?_)
      rw [Int.toNat_natCast, (hI.2.2.2.2 i hi).2.2.1]
      refine X4_notesInChurch_18 (k := ?_)
      refine X4_notesInChurch_19 (kt := fun k19 => ?_) (kf := fun k19 => ?_)
      · refine X4_notesInChurch_33 (k := ?_)
        refine X4_notesInChurch_36 (k := ?_)
        rw [pN, if_neg (by simp [k19])] at ih
        exact ih
      · refine X4_notesInChurch_22 (k := ?_)
        refine X4_notesInChurch_23 (k := ?_)
        refine X4_notesInChurch_24 (k := ?_)
        refine X4_notesInChurch_25 (k := ?_)
        refine X4_notesInChurch_28 (k := ?_)
        refine X4_notesInChurch_29 (k := ?_)
        rw [Int.toNat_natCast, (hI.2.2.2.2 i hi).2.1]
        refine X4_notesInChurch_30 (k := ?_)
        refine X4_notesInChurch_31 (k := ?_)
        rw [show zor (pN A (fun p => decide (W p = -1)) i : Nat) (zshl 1 (A (30 + 4 * i + 1))) = ((pN A (fun p => decide (W p = -1)) i ||| 2 ^ (A (30 + 4 * i + 1)).toNat : Nat) : Int) by unfold zor zshl; rw [Int.toNat_natCast, Int.toNat_natCast, show (1 : Int).toNat = 1 from rfl, Nat.one_mul]]
        refine X4_notesInChurch_32 (k := ?_)
        refine X4_notesInChurch_33 (k := ?_)
        refine X4_notesInChurch_36 (k := ?_)
        rw [pN, if_pos (by simp [k19])] at ih
        exact ih
def pPlays (A : Nat → Int) (P : Nat) (C : Nat → Bool) (x : Nat) (s : Int) : Nat := z_cnt (fun i => pPl A P C (A (63 + 9 * x + i) + s)) (A (62 + 9 * x)).toNat
theorem s4_hymnNote {Q : Int → z_M → Prop} (hb : z_cl b = 4) {x i : Nat} (hH : rpH I b A) (hx : x < 3) (hi : (i : Int) < A (62 + 9 * x)) (h : Q (A (63 + 9 * x + i)) I) : CX4_hymnNote [aR b, aI x, aI i] I Q := by
  obtain ⟨o1, o2, o3, o4, o5, o6, o7, o8, o9, o10, n1, n2, n3, n4, n5, n6, n7, n8, n10⟩ := z_o hb
  obtain ⟨h1, h2, h3⟩ := hH x hx
  refine eX4_hymnNote ?_
  refine X4_hymnNote_0 (k := ?_)
  refine X4_hymnNote_1 (k := ?_)
  refine X4_hymnNote_4 (k := ?_)
  refine X4_hymnNote_5 (k := ?_)
  refine X4_hymnNote_7 (k := ?_)
  refine X4_hymnNote_8 (k := ?_)
  refine X4_hymnNote_9 (k := ?_)
  refine X4_hymnNote_10 (k := ?_)
  rw [show ((x : Int) * 8 + i).toNat = 8 * x + i by omega, (h3 i hi).1]
  refine X4_hymnNote_11 (hq := ?_)
  exact h
theorem s4_howManyPlayed {Q : Int → z_M → Prop} (hb : z_cl b = 4) {x : Nat} {s : Int} {C : Nat → Bool} (hA : wfA A P L) (hH : rpH I b A) (hx : x < 3) (hs : -6 ≤ s ∧ s ≤ 6) (h : Q (pPlays A P C x s : Nat) I) : CX4_howManyPlayed [aR b, aI x, aI s, aL (pN A C P : Nat)] I Q := by
  obtain ⟨o1, o2, o3, o4, o5, o6, o7, o8, o9, o10, n1, n2, n3, n4, n5, n6, n7, n8, n10⟩ := z_o hb
  obtain ⟨h1, h2, h3⟩ := hH x hx
  obtain ⟨n, hn⟩ : ∃ n : Nat, A (62 + 9 * x) = n := ⟨(A (62 + 9 * x)).toNat, by omega⟩
  have hn8 : n ≤ 8 := by omega
  rw [hn] at h2
  unfold pPlays at h
  rw [hn, Int.toNat_natCast] at h
  refine eX4_howManyPlayed ?_
  refine X4_howManyPlayed_0 (k := ?_)
  refine X4_howManyPlayed_1 (k := ?_)
  refine X4_howManyPlayed_3 (k := ?_)
  refine X4_howManyPlayed_4 (k := ?_)
  refine z_for n (fun i => JX4_howManyPlayed Q 6 [aR b, aI x, aI s, aL (pN A C P : Nat), aU, aI (z_cnt (fun i => pPl A P C (A (63 + 9 * x + i) + s)) i : Nat), aI i] [] I) ?_ (fun i hi ih => ?_) 0 (Nat.zero_le _)
  · refine X4_howManyPlayed_6 (k := ?_)
    refine X4_howManyPlayed_8 (k := ?_)
    refine X4_howManyPlayed_9 (k := ?_)
    refine X4_howManyPlayed_12 (k := ?_)
    refine X4_howManyPlayed_13 (k := ?_)
    rw [Int.toNat_natCast, h2]
    refine X4_howManyPlayed_14 (kt := fun k14 => ?_) (kf := fun k14 => ?_)
    · refine X4_howManyPlayed_42 (k := ?_)
      refine X4_howManyPlayed_44 (hq := ?_)
      exact h
    · omega
  · have hc := z_cnt_le (fun i => pPl A P C (A (63 + 9 * x + i) + s)) i
    have hv := h3 i (by omega)
    refine X4_howManyPlayed_6 (k := ?_)
    refine X4_howManyPlayed_8 (k := ?_)
    refine X4_howManyPlayed_9 (k := ?_)
    refine X4_howManyPlayed_12 (k := ?_)
    refine X4_howManyPlayed_13 (k := ?_)
    rw [Int.toNat_natCast, h2]
    refine X4_howManyPlayed_14 (kt := fun k14 => ?_) (kf := fun k14 => ?_)
    · omega
    · refine X4_howManyPlayed_17 (k := ?_)
      refine X4_howManyPlayed_18 (k := ?_)
      refine X4_howManyPlayed_19 (k := ?_)
      refine X4_howManyPlayed_20 (k := ?_)
      refine X4_howManyPlayed_22 (k := ?_)
      refine s4_hymnNote hb hH hx (by omega) ?_
      refine X4_howManyPlayed_25 (k := ?_)
      refine X4_howManyPlayed_26 (k := ?_)
      refine X4_howManyPlayed_27 (k := ?_)
      refine s10_hasNote hA (fun z => ?_) (fun z => ?_)
      · rw [z_cnt_t (c := fun i => pPl A P C (A (63 + 9 * x + i) + s)) z] at ih
        refine X4_howManyPlayed_30 (kt := fun k30 => ?_) (kf := fun k30 => ?_)
        · omega
        · refine X4_howManyPlayed_33 (k := ?_)
          refine X4_howManyPlayed_36 (k := ?_)
          refine X4_howManyPlayed_39 (k := ?_)
          exact ih
      · rw [z_cnt_f (c := fun i => pPl A P C (A (63 + 9 * x + i) + s)) z] at ih
        refine X4_howManyPlayed_30 (kt := fun k30 => ?_) (kf := fun k30 => ?_)
        · refine X4_howManyPlayed_36 (k := ?_)
          refine X4_howManyPlayed_39 (k := ?_)
          exact ih
        · omega
theorem s11_isPlayed {Q : Int → z_M → Prop} {v c : Int} {C : Nat → Bool} (hc : c = (z_bs C P : Nat)) (hA : wfA A P L) (hI : I 61 = A) (h1 : pPl A P C v = true → Q 1 I) (h0 : pPl A P C v = false → Q 0 I) : CX11_isPlayed [aR 60, aI v, aI c] I Q := by
  have hP := hA.2.2.1
  subst hc
  refine eX11_isPlayed ?_
  refine X11_isPlayed_0 (k := ?_)
  refine X11_isPlayed_1 (k := ?_)
  refine X11_isPlayed_2 (k := ?_)
  refine X11_isPlayed_3 (k := ?_)
  refine z_for P (fun i => JX11_isPlayed Q 5 [aR 60, aI v, aI (z_bs C P : Nat), aI (if pPl A i C v = true then 1 else 0), aI i] [] I) ?_ (fun i hi ih => ?_) 0 (Nat.zero_le _)
  · refine X11_isPlayed_5 (k := ?_)
    refine X11_isPlayed_7 (k := ?_)
    refine X11_isPlayed_8 (k := ?_)
    refine s11_pipes ?_
    rw [hI, hA.1]
    refine X11_isPlayed_11 (kt := fun k11 => ?_) (kf := fun k11 => ?_)
    · refine X11_isPlayed_51 (k := ?_)
      refine X11_isPlayed_52 (hq := ?_)
      cases e : pPl A P C v
      · exact h0 e
      · exact h1 e
    · omega
  · have hs : pPl A (i + 1) C v = (pPl A i C v || (C i && decide (A (30 + 4 * i + 1) = v))) := rfl
    refine X11_isPlayed_5 (k := ?_)
    refine X11_isPlayed_7 (k := ?_)
    refine X11_isPlayed_8 (k := ?_)
    refine s11_pipes ?_
    rw [hI, hA.1]
    refine X11_isPlayed_11 (kt := fun k11 => ?_) (kf := fun k11 => ?_)
    · omega
    · refine X11_isPlayed_14 (k := ?_)
      refine X11_isPlayed_15 (kt := fun k15 => ?_) (kf := fun k15 => ?_)
      · have e : pPl A i C v = true := by
          cases e : pPl A i C v
          · rw [e] at k15
            exact absurd rfl k15
          · rfl
        refine X11_isPlayed_39 (k := ?_)
        refine X11_isPlayed_40 (k := ?_)
        refine X11_isPlayed_44 (k := ?_)
        refine X11_isPlayed_45 (k := ?_)
        refine X11_isPlayed_48 (k := ?_)
        rw [hs, e] at ih
        exact ih
      · have e : pPl A i C v = false := by
          cases e : pPl A i C v
          · rfl
          · rw [e] at k15
            exact absurd k15 (by decide)
        refine X11_isPlayed_18 (k := ?_)
        refine X11_isPlayed_19 (k := ?_)
        refine X11_isPlayed_21 (k := ?_)
        refine X11_isPlayed_22 (k := ?_)
        refine X11_isPlayed_23 (k := ?_)
        rw [zbit_bs C hi]
        refine X11_isPlayed_24 (k := ?_)
        refine X11_isPlayed_25 (kt := fun k25 => ?_) (kf := fun k25 => ?_)
        · refine X11_isPlayed_43 (k := ?_)
          refine X11_isPlayed_44 (k := ?_)
          refine X11_isPlayed_45 (k := ?_)
          refine X11_isPlayed_48 (k := ?_)
          have e2 : C i = false := by
            cases e2 : C i
            · rfl
            · rw [e2] at k25
              exact absurd rfl k25
          rw [hs, e, e2] at ih
          exact ih
        · have e2 : C i = true := by
            cases e2 : C i
            · rw [e2] at k25
              exact absurd k25 (by decide)
            · rfl
          refine X11_isPlayed_28 (k := ?_)
          refine X11_isPlayed_29 (k := ?_)
          refine X11_isPlayed_31 (k := ?_)
          refine X11_isPlayed_32 (k := ?_)
          refine s11_pipeHas (n := i) (k := 1) rfl rfl (by omega) ?_
          rw [hI]
          refine X11_isPlayed_35 (k := ?_)
          refine X11_isPlayed_36 (kt := fun k36 => ?_) (kf := fun k36 => ?_)
          · refine X11_isPlayed_43 (k := ?_)
            refine X11_isPlayed_44 (k := ?_)
            refine X11_isPlayed_45 (k := ?_)
            refine X11_isPlayed_48 (k := ?_)
            rw [hs, e, e2, decide_eq_false k36] at ih
            exact ih
          · refine X11_isPlayed_39 (k := ?_)
            refine X11_isPlayed_40 (k := ?_)
            refine X11_isPlayed_44 (k := ?_)
            refine X11_isPlayed_45 (k := ?_)
            refine X11_isPlayed_48 (k := ?_)
            rw [hs, e, e2, decide_eq_true k36] at ih
            exact ih
theorem s11_playsBy {Q : Int → z_M → Prop} {c s : Int} {x : Nat} {C : Nat → Bool} (hc : c = (z_bs C P : Nat)) (hA : wfA A P L) (hI : I 61 = A) (hx : x < 3) (hs : -6 ≤ s ∧ s ≤ 6) (hH : ∀ x, x < 3 → (0 ≤ A (62 + 9 * x) ∧ A (62 + 9 * x) ≤ 8) ∧ ∀ k : Nat, (k : Int) < A (62 + 9 * x) → 0 ≤ A (63 + 9 * x + k) ∧ A (63 + 9 * x + k) ≤ 35) (h : Q (pPlays A P C x s : Nat) I) : CX11_playsBy [aR 60, aI x, aI s, aI c] I Q := by
  obtain ⟨h1, h3⟩ := hH x hx
  obtain ⟨n, hn⟩ : ∃ n : Nat, A (62 + 9 * x) = n := ⟨(A (62 + 9 * x)).toNat, by omega⟩
  have hn8 : n ≤ 8 := by omega
  unfold pPlays at h
  rw [hn, Int.toNat_natCast] at h
  refine eX11_playsBy ?_
  refine X11_playsBy_0 (k := ?_)
  refine X11_playsBy_1 (k := ?_)
  refine X11_playsBy_3 (k := ?_)
  refine X11_playsBy_4 (k := ?_)
  refine z_for n (fun i => JX11_playsBy Q 6 [aR 60, aI x, aI s, aI c, aI (z_cnt (fun i => pPl A P C (A (63 + 9 * x + i) + s)) i : Nat), aI i] [] I) ?_ (fun i hi ih => ?_) 0 (Nat.zero_le _)
  · refine X11_playsBy_6 (k := ?_)
    refine X11_playsBy_8 (k := ?_)
    refine X11_playsBy_9 (k := ?_)
    refine X11_playsBy_10 (k := ?_)
    refine s11_notes rfl hx ?_
    rw [hI, hn]
    refine X11_playsBy_13 (kt := fun k13 => ?_) (kf := fun k13 => ?_)
    · refine X11_playsBy_49 (k := ?_)
      refine X11_playsBy_51 (hq := ?_)
      exact h
    · omega
  · have hcl := z_cnt_le (fun i => pPl A P C (A (63 + 9 * x + i) + s)) i
    have hv := h3 i (by omega)
    refine X11_playsBy_6 (k := ?_)
    refine X11_playsBy_8 (k := ?_)
    refine X11_playsBy_9 (k := ?_)
    refine X11_playsBy_10 (k := ?_)
    refine s11_notes rfl hx ?_
    rw [hI, hn]
    refine X11_playsBy_13 (kt := fun k13 => ?_) (kf := fun k13 => ?_)
    · omega
    · refine X11_playsBy_16 (k := ?_)
      refine X11_playsBy_18 (k := ?_)
      refine X11_playsBy_19 (k := ?_)
      refine X11_playsBy_20 (k := ?_)
      refine X11_playsBy_21 (k := ?_)
      refine X11_playsBy_23 (k := ?_)
      refine s11_noteOf rfl rfl hx (by omega) ?_
      rw [hI]
      refine X11_playsBy_26 (k := ?_)
      refine X11_playsBy_27 (k := ?_)
      refine X11_playsBy_28 (k := ?_)
      refine X11_playsBy_29 (k := ?_)
      refine s11_isPlayed hc hA hI (fun z => ?_) (fun z => ?_)
      · rw [z_cnt_t (c := fun i => pPl A P C (A (63 + 9 * x + i) + s)) z] at ih
        refine X11_playsBy_32 (kt := fun k32 => ?_) (kf := fun k32 => ?_)
        · omega
        · refine X11_playsBy_35 (k := ?_)
          refine X11_playsBy_36 (k := ?_)
          refine X11_playsBy_40 (k := ?_)
          refine X11_playsBy_41 (k := ?_)
          refine X11_playsBy_43 (k := ?_)
          refine X11_playsBy_46 (k := ?_)
          exact ih
      · rw [z_cnt_f (c := fun i => pPl A P C (A (63 + 9 * x + i) + s)) z] at ih
        refine X11_playsBy_32 (kt := fun k32 => ?_) (kf := fun k32 => ?_)
        · refine X11_playsBy_39 (k := ?_)
          refine X11_playsBy_40 (k := ?_)
          refine X11_playsBy_41 (k := ?_)
          rw [show (z_cnt (fun i => pPl A P C (A (63 + 9 * x + i) + s)) i : Int) + 0 = (z_cnt (fun i => pPl A P C (A (63 + 9 * x + i) + s)) i : Nat) by omega]
          refine X11_playsBy_43 (k := ?_)
          refine X11_playsBy_46 (k := ?_)
          exact ih
        · omega
end PK

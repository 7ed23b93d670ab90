/-! the language: words -/
section QM
variable {I I' : z_M} {B : Nat → Int} {n : Nat}
def wq (B : Nat → Int) (a i : Nat) : Nat → Bool
  | 0 => true
  | j + 1 => wq B a i j && decide (B (a + j) = z_ch i j)
theorem wq_f {a i j : Nat} (h : wq B a i j = false) : ∀ m, j ≤ m → wq B a i m = false
  | 0, hm => by
    have : j = 0 := by omega
    subst this
    exact h
  | m + 1, hm => by
    by_cases z : j = m + 1
    · rw [← z]
      exact h
    · rw [wq, wq_f h m (by omega)]
      rfl
def tkW (B : Nat → Int) (n i p : Nat) : Bool := decide (tkS B n p = 1 ∧ tkE B n p - tkA B n p = z_ln i) && wq B (tkA B n p) i (z_ln i)
def cX (I : z_M) (B : Nat → Int) (n : Nat) : Prop := n ≤ 150 ∧ I 54 0 = n ∧ I 55 = B ∧ ∀ k, k < n → 0 ≤ B k ∧ B k ≤ 127
/-- the class has looked at the token behind p -/
def cLk (I : z_M) (B : Nat → Int) (n p : Nat) : Prop := I 54 3 = tkS B n p ∧ I 54 4 = (tkA B n p : Nat) ∧ I 54 5 = (tkE B n p : Nat) ∧ (tkS B n p = 2 → I 54 6 = tkV B n p)
theorem x8_step {Q : z_M → Prop} {p : Nat} (hX : cX I B n) (hp : I 54 5 = p) (hpn : p ≤ n) (h : ∀ I' : z_M, cX I' B n → cLk I' B n p → (∀ k, k ≠ 54 → I' k = I k) → I' 54 0 = I 54 0 → Q I') : CX8_step [aR 54] I Q := by
  obtain ⟨h1, h2, h3, h4⟩ := hX
  exact s8_step h1 h2 hp hpn h3 h4 (fun I' f3 f4 f5 f6 fr => h I' ⟨h1, by rw [fr.2]; exact h2, by rw [fr.1 55 (by decide)]; exact h3, h4⟩ ⟨f3, f4, f5, f6⟩ fr.1 fr.2)
theorem s8_isWord {Q : Int → z_M → Prop} {i p : Nat} (hi : i < 4) (hX : cX I B n) (hT : cLk I B n p) (hpn : p ≤ n) (h1 : tkW B n i p = true → Q 1 I) (h0 : tkW B n i p = false → Q 0 I) : CX8_isWord [aR 54, aR (300 + i)] I Q := by
  obtain ⟨x1, x2, x3, x4⟩ := hX
  obtain ⟨f3, f4, f5, f6⟩ := hT
  have hl := z_ln_r i hi
  have hr := tkE_r (B := B) hpn
  unfold tkW at h1 h0
  refine eX8_isWord ?_
  refine X8_isWord_0 (k := ?_)
  refine X8_isWord_1 (k := ?_)
  rw [f3]
  refine X8_isWord_4 (k := ?_)
  refine X8_isWord_5 (kt := fun k5 => ?_) (kf := fun k5 => ?_)
  · refine X8_isWord_24 (k := ?_)
    refine X8_isWord_25 (hq := ?_)
    exact h0 (by rw [decide_eq_false (by omega)]; rfl)
  · refine X8_isWord_8 (k := ?_)
    refine X8_isWord_9 (k := ?_)
    rw [f5]
    refine X8_isWord_12 (k := ?_)
    refine X8_isWord_13 (k := ?_)
    rw [f4]
    refine X8_isWord_16 (k := ?_)
    refine X8_isWord_17 (k := ?_)
    refine X8_isWord_18 hi (k := ?_)
    refine X8_isWord_21 (kt := fun k21 => ?_) (kf := fun k21 => ?_)
    · rw [decide_eq_true (show tkS B n p = 1 ∧ tkE B n p - tkA B n p = z_ln i from ⟨by omega, by omega⟩), Bool.true_and] at h1 h0
      refine X8_isWord_26 (k := ?_)
      refine X8_isWord_27 (k := ?_)
      refine z_for (z_ln i) (fun j => wq B (tkA B n p) i j = true → JX8_isWord Q 28 [aR 54, aR (300 + i), aI j] [] I) ?_ (fun j hj ih => ?_) 0 (Nat.zero_le _) rfl
      · intro w
        refine X8_isWord_28 (k := ?_)
        refine X8_isWord_29 (k := ?_)
        refine X8_isWord_30 hi (k := ?_)
        refine X8_isWord_33 (kt := fun k33 => ?_) (kf := fun k33 => ?_)
        · refine X8_isWord_63 (k := ?_)
          refine X8_isWord_64 (hq := ?_)
          exact h1 w
        · omega
      · intro w
        refine X8_isWord_28 (k := ?_)
        refine X8_isWord_29 (k := ?_)
        refine X8_isWord_30 hi (k := ?_)
        refine X8_isWord_33 (kt := fun k33 => ?_) (kf := fun k33 => ?_)
        · omega
        · refine X8_isWord_36 (k := ?_)
          refine X8_isWord_37 (k := ?_)
          refine X8_isWord_40 (k := ?_)
          refine X8_isWord_41 (k := ?_)
          rw [f4]
          refine X8_isWord_44 (k := ?_)
          refine X8_isWord_45 (k := ?_)
          refine X8_isWord_46 (k := ?_)
          rw [show ((tkA B n p : Int) + j).toNat = tkA B n p + j by omega, x3]
          have xb := x4 (tkA B n p + j) (by omega)
          refine X8_isWord_47 (k := ?_)
          refine X8_isWord_48 (k := ?_)
          refine X8_isWord_49 hi (by omega) (by omega) (k := ?_)
          rw [Int.toNat_natCast]
          refine X8_isWord_52 (kt := fun k52 => ?_) (kf := fun k52 => ?_)
          · refine X8_isWord_57 (k := ?_)
            refine X8_isWord_60 (k := ?_)
            refine ih ?_
            rw [wq, w, decide_eq_true k52]
            rfl
          · refine X8_isWord_55 (k := ?_)
            refine X8_isWord_56 (hq := ?_)
            refine h0 (wq_f (j := j + 1) ?_ _ (by omega))
            rw [wq, w, decide_eq_false k52]
            rfl
    · refine X8_isWord_24 (k := ?_)
      refine X8_isWord_25 (hq := ?_)
      exact h0 (by rw [decide_eq_false (by omega)]; rfl)
theorem s11_isCalled {Q : Int → z_M → Prop} {i p : Nat} {c0 c1 c2 c3 c4 : Int} (hi : i < 4) (hn : n ≤ 150) (hB : ∀ k, k < n → I 71 k = B k ∧ 0 ≤ B k ∧ B k ≤ 127) (hT : mT I B n p) (hpn : p ≤ n) (hc : ∀ j, j < z_ln i → z_ch i j = if j = 0 then c0 else if j = 1 then c1 else if j = 2 then c2 else if j = 3 then c3 else c4) (h1 : tkW B n i p = true → Q 1 I) (h0 : tkW B n i p = false → Q 0 I) : CX11_isCalled [aR 60, aI (z_ln i : Nat), aI c0, aI c1, aI c2, aI c3, aI c4] I Q := by
  obtain ⟨f7, f8, f9, f0⟩ := hT
  have hl := z_ln_r i hi
  have hr := tkE_r (B := B) hpn
  unfold tkW at h1 h0
  refine eX11_isCalled ?_
  -- it isn't
  have no : ∀ k : Nat, tkS B n p = 1 ∧ tkE B n p - tkA B n p = z_ln i ∧ wq B (tkA B n p) i (z_ln i) = false ∨ ¬ (tkS B n p = 1 ∧ tkE B n p - tkA B n p = z_ln i) → JX11_isCalled Q 26 [aR 60, aI (z_ln i : Nat), aI c0, aI c1, aI c2, aI c3, aI c4, aI 0, aI k] [] I := by
    intro k hk
    have q : Q 0 I := by
      rcases hk with ⟨g1, g2, g3⟩ | g
      · exact h0 (by rw [g3, Bool.and_false])
      · exact h0 (by rw [decide_eq_false g]; rfl)
    refine X11_isCalled_26 (k := ?_)
    refine X11_isCalled_28 (k := ?_)
    refine X11_isCalled_29 (kt := fun k29 => ?_) (kf := fun k29 => ?_)
    · refine X11_isCalled_108 (k := ?_)
      refine X11_isCalled_110 (hq := ?_)
      exact q
    · refine X11_isCalled_32 (k := ?_)
      refine X11_isCalled_34 (kt := fun k34 => ?_) (kf := fun k34 => ?_)
      · refine X11_isCalled_108 (k := ?_)
        refine X11_isCalled_110 (hq := ?_)
        exact q
      · omega
  refine X11_isCalled_0 (k := ?_)
  refine X11_isCalled_1 (k := ?_)
  rw [f9]
  refine X11_isCalled_4 (k := ?_)
  refine X11_isCalled_5 (kt := fun k5 => ?_) (kf := fun k5 => ?_)
  · refine X11_isCalled_20 (k := ?_)
    refine X11_isCalled_21 (k := ?_)
    refine X11_isCalled_23 (k := ?_)
    refine X11_isCalled_24 (k := ?_)
    exact no 0 (Or.inr (fun w => k5 w.1))
  · refine X11_isCalled_8 (k := ?_)
    refine X11_isCalled_9 (k := ?_)
    rw [f8]
    refine X11_isCalled_12 (k := ?_)
    refine X11_isCalled_13 (kt := fun k13 => ?_) (kf := fun k13 => ?_)
    · refine X11_isCalled_20 (k := ?_)
      refine X11_isCalled_21 (k := ?_)
      refine X11_isCalled_23 (k := ?_)
      refine X11_isCalled_24 (k := ?_)
      exact no 0 (Or.inr (fun w => by omega))
    · have g1 : tkS B n p = 1 := by omega
      have g2 : tkE B n p - tkA B n p = z_ln i := by omega
      rw [decide_eq_true (show tkS B n p = 1 ∧ tkE B n p - tkA B n p = z_ln i from ⟨g1, g2⟩), Bool.true_and] at h1
      refine X11_isCalled_16 (k := ?_)
      refine X11_isCalled_17 (k := ?_)
      refine X11_isCalled_21 (k := ?_)
      refine X11_isCalled_23 (k := ?_)
      refine X11_isCalled_24 (k := ?_)
      refine z_for (z_ln i) (fun j => wq B (tkA B n p) i j = true → JX11_isCalled Q 26 [aR 60, aI (z_ln i : Nat), aI c0, aI c1, aI c2, aI c3, aI c4, aI 1, aI j] [] I) ?_ (fun j hj ih => ?_) 0 (Nat.zero_le _) rfl
      · intro w
        refine X11_isCalled_26 (k := ?_)
        refine X11_isCalled_28 (k := ?_)
        refine X11_isCalled_29 (kt := fun k29 => ?_) (kf := fun k29 => ?_)
        · refine X11_isCalled_108 (k := ?_)
          refine X11_isCalled_110 (hq := ?_)
          exact h1 w
        · omega
      · intro w
        have hcj := hc j hj
        have xb := hB (tkA B n p + j) (by omega)
        have fin : JX11_isCalled Q 92 [aR 60, aI (z_ln i : Nat), aI c0, aI c1, aI c2, aI c3, aI c4, aI 1, aI j] [aI (z_ch i j), aI (B (tkA B n p + j))] I := by
          refine X11_isCalled_92 (kt := fun k92 => ?_) (kf := fun k92 => ?_)
          · refine X11_isCalled_99 (k := ?_)
            refine X11_isCalled_100 (k := ?_)
            refine X11_isCalled_102 (k := ?_)
            refine X11_isCalled_105 (k := ?_)
            refine no (j + 1) (Or.inl ⟨g1, g2, wq_f (j := j + 1) ?_ _ (by omega)⟩)
            rw [wq, w, decide_eq_false k92]
            rfl
          · refine X11_isCalled_95 (k := ?_)
            refine X11_isCalled_96 (k := ?_)
            refine X11_isCalled_100 (k := ?_)
            refine X11_isCalled_102 (k := ?_)
            refine X11_isCalled_105 (k := ?_)
            refine ih ?_
            rw [wq, w, decide_eq_true k92]
            rfl
        refine X11_isCalled_26 (k := ?_)
        refine X11_isCalled_28 (k := ?_)
        refine X11_isCalled_29 (kt := fun k29 => ?_) (kf := fun k29 => ?_)
        · omega
        · refine X11_isCalled_32 (k := ?_)
          refine X11_isCalled_34 (kt := fun k34 => ?_) (kf := fun k34 => ?_)
          · omega
          · refine X11_isCalled_37 (k := ?_)
            refine X11_isCalled_38 (k := ?_)
            refine X11_isCalled_41 (k := ?_)
            refine X11_isCalled_42 (k := ?_)
            rw [f7]
            refine X11_isCalled_45 (k := ?_)
            refine X11_isCalled_47 (k := ?_)
            refine X11_isCalled_48 (k := ?_)
            rw [show ((tkA B n p : Int) + j).toNat = tkA B n p + j by omega, xb.1]
            refine X11_isCalled_49 (k := ?_)
            refine X11_isCalled_51 (kt := fun k51 => ?_) (kf := fun k51 => ?_)
            · refine X11_isCalled_58 (k := ?_)
              refine X11_isCalled_60 (k := ?_)
              refine X11_isCalled_61 (kt := fun k61 => ?_) (kf := fun k61 => ?_)
              · refine X11_isCalled_68 (k := ?_)
                refine X11_isCalled_70 (k := ?_)
                refine X11_isCalled_71 (kt := fun k71 => ?_) (kf := fun k71 => ?_)
                · refine X11_isCalled_79 (k := ?_)
                  refine X11_isCalled_81 (k := ?_)
                  refine X11_isCalled_82 (kt := fun k82 => ?_) (kf := fun k82 => ?_)
                  · refine X11_isCalled_90 (k := ?_)
                    rw [if_neg (by omega), if_neg (by omega), if_neg (by omega), if_neg (by omega)] at hcj
                    rw [hcj] at fin
                    exact fin
                  · refine X11_isCalled_85 (k := ?_)
                    refine X11_isCalled_87 (k := ?_)
                    rw [if_neg (by omega), if_neg (by omega), if_neg (by omega), if_pos (by omega)] at hcj
                    rw [hcj] at fin
                    exact fin
                · refine X11_isCalled_74 (k := ?_)
                  refine X11_isCalled_76 (k := ?_)
                  rw [if_neg (by omega), if_neg (by omega), if_pos (by omega)] at hcj
                  rw [hcj] at fin
                  exact fin
              · refine X11_isCalled_64 (k := ?_)
                refine X11_isCalled_65 (k := ?_)
                rw [if_neg (by omega), if_pos (by omega)] at hcj
                rw [hcj] at fin
                exact fin
            · refine X11_isCalled_54 (k := ?_)
              refine X11_isCalled_55 (k := ?_)
              rw [if_pos (by omega)] at hcj
              rw [hcj] at fin
              exact fin
end QM

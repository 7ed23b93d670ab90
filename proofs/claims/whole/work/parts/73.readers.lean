/-! the language: the class reads -/
section QO
variable {I I' : z_M} {B : Nat → Int} {n : Nat} {A A' : Nat → Int} {P L P' L' : Nat}
def cfr (I I' : z_M) : Prop := ∀ k, k < 19 ∨ (29 < k ∧ k ≠ 54 ∧ k ≠ 56) → I' k = I k
theorem cfr_t {I'' : z_M} (h : cfr I I') (h' : cfr I' I'') : cfr I I'' := fun k hk => (h' k hk).trans (h k hk)
theorem cfr_e (h : ∀ k, k ≠ 54 → k ≠ 56 → I' k = I k) : cfr I I' := fun k hk => h k (by omega) (by omega)
theorem s8_readNumber {Q : Int → z_M → Prop} {i p : Nat} {m : Int} (hi : i < 5) (hX : cX I B n) (hp : I 54 5 = p) (hpn : p ≤ n) (h1 : tkS B n p = 2 ∧ tkV B n p ≤ m → ∀ I' : z_M, cX I' B n → I' 54 5 = (tkE B n p : Nat) → I' 56 = zu (I 56) i (tkV B n p) → (∀ k, k ≠ 54 → k ≠ 56 → I' k = I k) → Q 1 I') (h0 : ¬ (tkS B n p = 2 ∧ tkV B n p ≤ m) → ∀ I' : z_M, cX I' B n → I' 54 4 = (tkA B n p : Nat) → (∀ k, k ≠ 54 → k ≠ 56 → I' k = I k) → Q 0 I') : CX8_readNumber [aR 54, aI i, aI m] I Q := by
  refine eX8_readNumber ?_
  refine X8_readNumber_0 (k := ?_)
  refine X8_readNumber_1 (k := ?_)
  refine x8_step hX hp hpn (fun I1 X1 T1 f1 g1 => ?_)
  obtain ⟨t3, t4, t5, t6⟩ := T1
  refine X8_readNumber_4 (k := ?_)
  refine X8_readNumber_5 (k := ?_)
  rw [t3]
  refine X8_readNumber_8 (k := ?_)
  refine X8_readNumber_9 (kt := fun k9 => ?_) (kf := fun k9 => ?_)
  · refine X8_readNumber_20 (k := ?_)
    refine X8_readNumber_21 (hq := ?_)
    exact h0 (fun w => by omega) I1 X1 t4 (fun k k1 _ => f1 k k1)
  · have t6 := t6 (by omega)
    refine X8_readNumber_12 (k := ?_)
    refine X8_readNumber_13 (k := ?_)
    rw [t6]
    refine X8_readNumber_16 (k := ?_)
    refine X8_readNumber_17 (kt := fun k17 => ?_) (kf := fun k17 => ?_)
    · refine X8_readNumber_22 (k := ?_)
      refine X8_readNumber_23 (k := ?_)
      refine X8_readNumber_26 (k := ?_)
      refine X8_readNumber_27 (k := ?_)
      refine X8_readNumber_28 (k := ?_)
      rw [t6]
      refine X8_readNumber_31 (k := ?_)
      refine X8_readNumber_32 (k := ?_)
      refine X8_readNumber_33 (hq := ?_)
      rw [Int.toNat_natCast]
      refine h1 ⟨by omega, by omega⟩ _ ?_ ?_ ?_ (fun k k1 k2 => by rw [z_up_n k2]; exact f1 k k1)
      · obtain ⟨x1, x2, x3, x4⟩ := X1
        exact ⟨x1, by rw [z_up_n (by decide)]; exact x2, by rw [z_up_n (by decide)]; exact x3, x4⟩
      · rw [z_up_n (by decide)]
        exact t5
      · rw [z_up_s, f1 56 (by decide)]
    · refine X8_readNumber_20 (k := ?_)
      refine X8_readNumber_21 (hq := ?_)
      exact h0 (fun w => by omega) I1 X1 t4 (fun k k1 _ => f1 k k1)
theorem s8_stepTo {Q : Int → z_M → Prop} {p : Nat} (hX : cX I B n) (hp : I 54 5 = p) (hpn : p ≤ n) (h1 : tkS B n p = 3 → ∀ I' : z_M, cX I' B n → I' 54 5 = (tkE B n p : Nat) → (∀ k, k ≠ 54 → I' k = I k) → Q 1 I') (h0 : ¬ tkS B n p = 3 → ∀ I' : z_M, cX I' B n → I' 54 4 = (tkA B n p : Nat) → (∀ k, k ≠ 54 → I' k = I k) → Q 0 I') : CX8_stepTo [aR 54, aI 3] I Q := by
  refine eX8_stepTo ?_
  refine X8_stepTo_0 (k := ?_)
  refine X8_stepTo_1 (k := ?_)
  refine x8_step hX hp hpn (fun I1 X1 T1 f1 g1 => ?_)
  obtain ⟨t3, t4, t5, t6⟩ := T1
  refine X8_stepTo_4 (k := ?_)
  refine X8_stepTo_5 (k := ?_)
  rw [t3]
  refine X8_stepTo_8 (k := ?_)
  refine X8_stepTo_9 (kt := fun k9 => ?_) (kf := fun k9 => ?_)
  · refine X8_stepTo_16 (k := ?_)
    refine X8_stepTo_17 (hq := ?_)
    exact h0 (by assumption) I1 X1 t4 f1
  · refine X8_stepTo_12 (k := ?_)
    refine X8_stepTo_13 (k := ?_)
    refine X8_stepTo_17 (hq := ?_)
    exact h1 (by assumption) I1 X1 t5 f1
theorem rd_if {c : Prop} {x y : zPR} {Dd : Decidable c} (h : c) : (@ite _ c Dd x y) = x := if_pos h
theorem s8_readPlace {Q : Int → z_M → Prop} {p : Nat} (hX : cX I B n) (hp : I 54 5 = p) (hpn : p ≤ n) (hr : rp I 19 A) (hL : A 1 < 5) (h1 : ∀ (p' : Nat) (A' : Nat → Int) (I' : z_M), rdPl B n A p = .inr (p', A') → cX I' B n → I' 54 5 = p' → rp I' 19 A' → cfr I I' → Q 1 I') (h0 : ∀ (q : Nat) (I' : z_M), rdPl B n A p = .inl q → cX I' B n → I' 54 4 = q → cfr I I' → Q 0 I') : CX8_readPlace [aR 54, aR 19] I Q := by
  obtain ⟨P, L, hs, -⟩ := id hr
  have hA1 : A 1 = L := hs.2.2.1.2.1
  unfold rdPl at h1 h0
  rw [show (A 1).toNat = L by omega] at h1 h0
  refine eX8_readPlace ?_
  refine X8_readPlace_0 (k := ?_)
  refine X8_readPlace_1 (k := ?_)
  refine X8_readPlace_2 (k := ?_)
  refine X8_readPlace_4 (k := ?_)
  refine s8_readNumber (i := 0) (by decide) hX hp hpn (fun e I1 X1 n1 r1 f1 => ?_) (fun e I1 X1 n1 f1 => ?_)
  · rw [rdN, if_pos e] at h1 h0
    have b1 := (tk_g (B := B) hpn e.1 (by decide)).2
    have v1 := tkV_r (B := B) e.1
    refine X8_readPlace_7 (kt := fun k7 => ?_) (kf := fun k7 => ?_)
    · omega
    refine X8_readPlace_10 (k := ?_)
    refine X8_readPlace_11 (k := ?_)
    refine X8_readPlace_12 (k := ?_)
    refine X8_readPlace_14 (k := ?_)
    refine s8_readNumber (i := 1) (by decide) X1 n1 b1 (fun e2 I2 X2 n2 r2 f2 => ?_) (fun e2 I2 X2 n2 f2 => ?_)
    · rw [rdN, if_pos e2] at h1 h0
      have b2 := (tk_g (B := B) b1 e2.1 (by decide)).2
      have v2 := tkV_r (B := B) e2.1
      refine X8_readPlace_17 (kt := fun k17 => ?_) (kf := fun k17 => ?_)
      · omega
      refine X8_readPlace_20 (k := ?_)
      refine X8_readPlace_21 (k := ?_)
      refine X8_readPlace_22 (k := ?_)
      refine X8_readPlace_24 (k := ?_)
      refine s8_readNumber (i := 2) (by decide) X2 n2 b2 (fun e3 I3 X3 n3 r3 f3 => ?_) (fun e3 I3 X3 n3 f3 => ?_)
      · rw [rdN, if_pos e3] at h1 h0
        have b3 := (tk_g (B := B) b2 e3.1 (by decide)).2
        have v3 := tkV_r (B := B) e3.1
        refine X8_readPlace_27 (kt := fun k27 => ?_) (kf := fun k27 => ?_)
        · omega
        refine X8_readPlace_30 (k := ?_)
        refine X8_readPlace_31 (k := ?_)
        refine X8_readPlace_32 (k := ?_)
        refine X8_readPlace_34 (k := ?_)
        refine s8_readNumber (i := 3) (by decide) X3 n3 b3 (fun e4 I4 X4 n4 r4 f4 => ?_) (fun e4 I4 X4 n4 f4 => ?_)
        · rw [rdN, if_pos e4] at h1 h0
          have b4 := (tk_g (B := B) b3 e4.1 (by decide)).2
          have v4 := tkV_r (B := B) e4.1
          refine X8_readPlace_37 (kt := fun k37 => ?_) (kf := fun k37 => ?_)
          · omega
          refine X8_readPlace_40 (k := ?_)
          refine X8_readPlace_41 (k := ?_)
          refine X8_readPlace_42 (k := ?_)
          refine X8_readPlace_44 (k := ?_)
          refine s8_readNumber (i := 4) (by decide) X4 n4 b4 (fun e5 I5 X5 n5 r5 f5 => ?_) (fun e5 I5 X5 n5 f5 => ?_)
          · rw [rdN, if_pos e5] at h1 h0
            have b5 := (tk_g (B := B) b4 e5.1 (by decide)).2
            have v5 := tkV_r (B := B) e5.1
            refine X8_readPlace_47 (kt := fun k47 => ?_) (kf := fun k47 => ?_)
            · omega
            refine X8_readPlace_50 (k := ?_)
            refine X8_readPlace_51 (k := ?_)
            refine X8_readPlace_52 (k := ?_)
            refine s8_stepTo X5 n5 b5 (fun e6 I6 X6 n6 f6 => ?_) (fun e6 I6 X6 n6 f6 => ?_)
            · rw [rdS, if_pos e6] at h1
              have fa : ∀ k, k ≠ 54 → k ≠ 56 → I6 k = I k := fun k k1 k2 => by rw [f6 k k1, f5 k k1 k2, f4 k k1 k2, f3 k k1 k2, f2 k k1 k2, f1 k k1 k2]
              have e56 : I6 56 = zu (zu (zu (zu (zu (I 56) 0 (tkV B n p)) 1 (tkV B n (tkE B n p))) 2 (tkV B n (tkE B n (tkE B n p)))) 3 (tkV B n (tkE B n (tkE B n (tkE B n p))))) 4 (tkV B n (tkE B n (tkE B n (tkE B n (tkE B n p))))) := by rw [f6 56 (by decide), r5, r4, r3, r2, r1]
              refine X8_readPlace_55 (kt := fun k55 => ?_) (kf := fun k55 => ?_)
              · omega
              refine X8_readPlace_58 (k := ?_)
              refine X8_readPlace_59 (k := ?_)
              refine X8_readPlace_60 (k := ?_)
              refine X8_readPlace_63 (k := ?_)
              refine X8_readPlace_64 (k := ?_)
              refine X8_readPlace_65 (k := ?_)
              refine X8_readPlace_66 (k := ?_)
              refine X8_readPlace_69 (k := ?_)
              refine X8_readPlace_70 (k := ?_)
              refine X8_readPlace_71 (k := ?_)
              refine X8_readPlace_72 (k := ?_)
              refine X8_readPlace_75 (k := ?_)
              refine X8_readPlace_76 (k := ?_)
              refine X8_readPlace_77 (k := ?_)
              refine X8_readPlace_78 (k := ?_)
              refine X8_readPlace_81 (k := ?_)
              refine X8_readPlace_82 (k := ?_)
              refine X8_readPlace_83 (k := ?_)
              refine X8_readPlace_84 (k := ?_)
              refine X8_readPlace_87 (k := ?_)
              refine X8_readPlace_88 (k := ?_)
              rw [show (0 : Int).toNat = 0 from rfl, show (1 : Int).toNat = 1 from rfl, show (2 : Int).toNat = 2 from rfl, show (3 : Int).toNat = 3 from rfl, show (4 : Int).toNat = 4 from rfl, e56]
              rw [show ∀ (f : Nat → Int) (a b c d e : Int), zu (zu (zu (zu (zu f 0 a) 1 b) 2 c) 3 d) 4 e 0 = a from fun f a b c d e => by simp [zu], show ∀ (f : Nat → Int) (a b c d e : Int), zu (zu (zu (zu (zu f 0 a) 1 b) 2 c) 3 d) 4 e 1 = b from fun f a b c d e => by simp [zu], show ∀ (f : Nat → Int) (a b c d e : Int), zu (zu (zu (zu (zu f 0 a) 1 b) 2 c) 3 d) 4 e 2 = c from fun f a b c d e => by simp [zu], show ∀ (f : Nat → Int) (a b c d e : Int), zu (zu (zu (zu (zu f 0 a) 1 b) 2 c) 3 d) 4 e 3 = d from fun f a b c d e => by simp [zu], show ∀ (f : Nat → Int) (a b c d e : Int), zu (zu (zu (zu (zu f 0 a) 1 b) 2 c) 3 d) 4 e 4 = e from fun f a b c d e => by simp [zu]]
              refine X8_readPlace_89 (k := ?_)
              refine s4_addPlace rfl (L := L) (by rw [fa 19 (by decide) (by decide)]; exact hs.1.2.1) (fun z => by omega) (fun z I7 q1 q0 qf => ?_)
              refine X8_readPlace_92 (kt := fun k92 => ?_) (kf := fun k92 => ?_)
              · omega
              refine X8_readPlace_95 (k := ?_)
              refine X8_readPlace_96 (k := ?_)
              refine X8_readPlace_100 (hq := ?_)
              obtain ⟨x1, x2, x3, x4⟩ := X6
              refine h1 _ _ I7 rfl ⟨x1, by rw [qf 54 (by decide) (by decide)]; exact x2, by rw [qf 55 (by decide) (by decide)]; exact x3, x4⟩ (by rw [qf 54 (by decide) (by decide)]; exact n6) ?_ (fun k hk => by rw [qf k (by omega) (by omega), fa k (by omega) (by omega)])
              exact rp_putP (I := I6) (rp_cg hr (fun k k1 k2 => fa k (by omega) (by omega))) hA1 (by omega) ⟨v1.1, e.2⟩ ⟨v2.1, e2.2⟩ ⟨v3.1, e3.2⟩ ⟨v4.1, e4.2⟩ ⟨v5.1, e5.2⟩ q1 q0 qf
            · refine X8_readPlace_55 (kt := fun k55 => ?_) (kf := fun k55 => ?_)
              · rw [rdS, if_neg e6] at h0
                refine X8_readPlace_99 (k := ?_)
                refine X8_readPlace_100 (hq := ?_)
                exact h0 _ I6 rfl X6 n6 (cfr_e (fun k k1 k2 => by rw [f6 k k1, f5 k k1 k2, f4 k k1 k2, f3 k k1 k2, f2 k k1 k2, f1 k k1 k2]))
              · omega
          · refine X8_readPlace_47 (kt := fun k47 => ?_) (kf := fun k47 => ?_)
            · rw [rdN, if_neg e5] at h0
              refine X8_readPlace_99 (k := ?_)
              refine X8_readPlace_100 (hq := ?_)
              exact h0 _ I5 rfl X5 n5 (cfr_e (fun k k1 k2 => by rw [f5 k k1 k2, f4 k k1 k2, f3 k k1 k2, f2 k k1 k2, f1 k k1 k2]))
            · omega
        · refine X8_readPlace_37 (kt := fun k37 => ?_) (kf := fun k37 => ?_)
          · rw [rdN, if_neg e4] at h0
            refine X8_readPlace_99 (k := ?_)
            refine X8_readPlace_100 (hq := ?_)
            exact h0 _ I4 rfl X4 n4 (cfr_e (fun k k1 k2 => by rw [f4 k k1 k2, f3 k k1 k2, f2 k k1 k2, f1 k k1 k2]))
          · omega
      · refine X8_readPlace_27 (kt := fun k27 => ?_) (kf := fun k27 => ?_)
        · rw [rdN, if_neg e3] at h0
          refine X8_readPlace_99 (k := ?_)
          refine X8_readPlace_100 (hq := ?_)
          exact h0 _ I3 rfl X3 n3 (cfr_e (fun k k1 k2 => by rw [f3 k k1 k2, f2 k k1 k2, f1 k k1 k2]))
        · omega
    · refine X8_readPlace_17 (kt := fun k17 => ?_) (kf := fun k17 => ?_)
      · rw [rdN, if_neg e2] at h0
        refine X8_readPlace_99 (k := ?_)
        refine X8_readPlace_100 (hq := ?_)
        exact h0 _ I2 rfl X2 n2 (cfr_e (fun k k1 k2 => by rw [f2 k k1 k2, f1 k k1 k2]))
      · omega
  · refine X8_readPlace_7 (kt := fun k7 => ?_) (kf := fun k7 => ?_)
    · rw [rdN, if_neg e] at h0
      refine X8_readPlace_99 (k := ?_)
      refine X8_readPlace_100 (hq := ?_)
      exact h0 _ I1 rfl X1 n1 (cfr_e f1)
    · omega
theorem s8_readPipe {Q : Int → z_M → Prop} {p : Nat} (hX : cX I B n) (hp : I 54 5 = p) (hpn : p ≤ n) (hr : rp I 19 A) (h4 : A 4 = 0) (hP : A 0 < 8) (h1 : ∀ (p' : Nat) (A' : Nat → Int) (I' : z_M), rdPi B n A p = .inr (p', A') → cX I' B n → I' 54 5 = p' → rp I' 19 A' → cfr I I' → Q 1 I') (h0 : ∀ (q : Nat) (I' : z_M), rdPi B n A p = .inl q → cX I' B n → I' 54 4 = q → cfr I I' → Q 0 I') : CX8_readPipe [aR 54, aR 19] I Q := by
  obtain ⟨P, L, hs, -⟩ := id hr
  have hA1 : A 0 = P := hs.2.2.1.1
  unfold rdPi at h1 h0
  rw [show (A 0).toNat = P by omega] at h1 h0
  refine eX8_readPipe ?_
  refine X8_readPipe_0 (k := ?_)
  refine X8_readPipe_1 (k := ?_)
  refine X8_readPipe_2 (k := ?_)
  refine X8_readPipe_3 (k := ?_)
  refine s8_readNumber (i := 0) (by decide) hX hp hpn (fun e I1 X1 n1 r1 f1 => ?_) (fun e I1 X1 n1 f1 => ?_)
  · rw [rdN, if_pos e] at h1 h0
    have b1 := (tk_g (B := B) hpn e.1 (by decide)).2
    have v1 := tkV_r (B := B) e.1
    refine X8_readPipe_6 (kt := fun k6 => ?_) (kf := fun k6 => ?_)
    · omega
    refine X8_readPipe_9 (k := ?_)
    refine X8_readPipe_10 (k := ?_)
    refine X8_readPipe_11 (k := ?_)
    refine X8_readPipe_13 (k := ?_)
    refine s8_readNumber (i := 1) (by decide) X1 n1 b1 (fun e2 I2 X2 n2 r2 f2 => ?_) (fun e2 I2 X2 n2 f2 => ?_)
    · rw [rdN, if_pos e2] at h1 h0
      have b2 := (tk_g (B := B) b1 e2.1 (by decide)).2
      have v2 := tkV_r (B := B) e2.1
      refine X8_readPipe_16 (kt := fun k16 => ?_) (kf := fun k16 => ?_)
      · omega
      refine X8_readPipe_19 (k := ?_)
      refine X8_readPipe_20 (k := ?_)
      refine X8_readPipe_21 (k := ?_)
      refine s8_stepTo X2 n2 b2 (fun e6 I6 X6 n6 f6 => ?_) (fun e6 I6 X6 n6 f6 => ?_)
      · rw [rdS, if_pos e6] at h1
        have fa : ∀ k, k ≠ 54 → k ≠ 56 → I6 k = I k := fun k k1 k2 => by rw [f6 k k1, f2 k k1 k2, f1 k k1 k2]
        have e56 : I6 56 = zu (zu (I 56) 0 (tkV B n p)) 1 (tkV B n (tkE B n p)) := by rw [f6 56 (by decide), r2, r1]
        refine X8_readPipe_24 (kt := fun k24 => ?_) (kf := fun k24 => ?_)
        · omega
        refine X8_readPipe_27 (k := ?_)
        refine X8_readPipe_28 (k := ?_)
        refine X8_readPipe_29 (k := ?_)
        refine X8_readPipe_32 (k := ?_)
        refine X8_readPipe_33 (k := ?_)
        refine X8_readPipe_34 (k := ?_)
        refine X8_readPipe_35 (k := ?_)
        refine X8_readPipe_38 (k := ?_)
        refine X8_readPipe_39 (k := ?_)
        rw [show (0 : Int).toNat = 0 from rfl, show (1 : Int).toNat = 1 from rfl, e56]
        rw [show ∀ (f : Nat → Int) (a b : Int), zu (zu f 0 a) 1 b 0 = a from fun f a b => by simp [zu], show ∀ (f : Nat → Int) (a b : Int), zu (zu f 0 a) 1 b 1 = b from fun f a b => by simp [zu]]
        refine X8_readPipe_40 (k := ?_)
        refine s4_addPipe rfl (P := P) (by rw [fa 19 (by decide) (by decide)]; exact hs.1.2.2.1) (fun z => by omega) (fun z I7 q2 q3 q4 q5 q0 qf => ?_)
        refine X8_readPipe_43 (kt := fun k43 => ?_) (kf := fun k43 => ?_)
        · omega
        refine X8_readPipe_46 (k := ?_)
        refine X8_readPipe_47 (k := ?_)
        refine X8_readPipe_51 (hq := ?_)
        obtain ⟨x1, x2, x3, x4⟩ := X6
        refine h1 _ _ I7 rfl ⟨x1, by rw [qf 54 (by decide)]; exact x2, by rw [qf 55 (by decide)]; exact x3, x4⟩ (by rw [qf 54 (by decide)]; exact n6) ?_ (fun k hk => by rw [qf k (by omega), fa k (by omega) (by omega)])
        exact rp_putQ (I := I6) (rp_cg hr (fun k k1 k2 => fa k (by omega) (by omega))) h4 hA1 (by omega) ⟨v1.1, e.2⟩ ⟨v2.1, e2.2⟩ q2 q3 q4 q5 q0 qf
      · refine X8_readPipe_24 (kt := fun k24 => ?_) (kf := fun k24 => ?_)
        · rw [rdS, if_neg e6] at h0
          refine X8_readPipe_50 (k := ?_)
          refine X8_readPipe_51 (hq := ?_)
          exact h0 _ I6 rfl X6 n6 (cfr_e (fun k k1 k2 => by rw [f6 k k1, f2 k k1 k2, f1 k k1 k2]))
        · omega
    · refine X8_readPipe_16 (kt := fun k16 => ?_) (kf := fun k16 => ?_)
      · rw [rdN, if_neg e2] at h0
        refine X8_readPipe_50 (k := ?_)
        refine X8_readPipe_51 (hq := ?_)
        exact h0 _ I2 rfl X2 n2 (cfr_e (fun k k1 k2 => by rw [f2 k k1 k2, f1 k k1 k2]))
      · omega
  · refine X8_readPipe_6 (kt := fun k6 => ?_) (kf := fun k6 => ?_)
    · rw [rdN, if_neg e] at h0
      refine X8_readPipe_50 (k := ?_)
      refine X8_readPipe_51 (hq := ?_)
      exact h0 _ I1 rfl X1 n1 (cfr_e f1)
    · omega
theorem s8_readHymn {Q : Int → z_M → Prop} {p : Nat} (hX : cX I B n) (hp : I 54 5 = p) (hpn : p ≤ n) (hr : rp I 19 A) (h1 : ∀ (p' : Nat) (A' : Nat → Int) (I' : z_M), rdH B n A p = .inr (p', A') → cX I' B n → I' 54 5 = p' → rp I' 19 A' → cfr I I' → Q 1 I') (h0 : ∀ (q : Nat) (I' : z_M), rdH B n A p = .inl q → cX I' B n → I' 54 4 = q → cfr I I' → Q 0 I') : CX8_readHymn [aR 54, aR 19] I Q := by
  unfold rdH at h1 h0
  refine eX8_readHymn ?_
  refine X8_readHymn_0 (k := ?_)
  refine X8_readHymn_1 (k := ?_)
  refine X8_readHymn_2 (k := ?_)
  refine X8_readHymn_3 (k := ?_)
  refine s8_readNumber (i := 0) (by decide) hX hp hpn (fun e I1 X1 n1 r1 f1 => ?_) (fun e I1 X1 n1 f1 => ?_)
  · rw [rdN, if_pos e] at h1 h0
    have b1 := (tk_g (B := B) hpn e.1 (by decide)).2
    have v1 := tkV_r (B := B) e.1
    obtain ⟨x, hx⟩ : ∃ x : Nat, tkV B n p = x := ⟨(tkV B n p).toNat, by omega⟩
    rw [hx, Int.toNat_natCast] at h1 h0
    rw [hx] at r1
    have hx3 : x < 3 := by omega
    refine X8_readHymn_6 (kt := fun k6 => ?_) (kf := fun k6 => ?_)
    rotate_left 1
    · omega
    refine X8_readHymn_11 (k := ?_)
    refine X8_readHymn_12 (k := ?_)
    refine X8_readHymn_13 (k := ?_)
    refine X8_readHymn_16 (k := ?_)
    refine X8_readHymn_17 (k := ?_)
    rw [show (0 : Int).toNat = 0 from rfl, r1, zu_s]
    refine X8_readHymn_18 (k := ?_)
    refine s4_emptyHymn rfl rfl hx3 ?_
    have loop : ∀ f, f ≤ 9 → ∀ (J : z_M) (q : Nat) (C : Nat → Int), cX J B n → J 54 5 = q → q ≤ n → rp J 19 C → C (62 + 9 * x) = ((9 - f : Nat) : Int) → J 56 0 = x → cfr I J → (∀ (p' : Nat) (A' : Nat → Int) (I' : z_M), rdNs B n x f C q = .inr (p', A') → cX I' B n → I' 54 5 = p' → rp I' 19 A' → cfr I I' → Q 1 I') → (∀ (q' : Nat) (I' : z_M), rdNs B n x f C q = .inl q' → cX I' B n → I' 54 4 = q' → cfr I I' → Q 0 I') → JX8_readHymn Q 23 [aR 54, aR 19, aI ((9 - f : Nat) : Int)] [] J := by
      intro f
      induction f with
      | zero =>
        intro _ J q C X nq hq hC c1 _ _ _ _
        have := (hC.choose_spec.choose_spec.2.1 x hx3).1
        rw [c1] at this
        omega
      | succ f ih =>
        intro hf J q C X nq hq hC c1 r0 fr g1 g0
        obtain ⟨P, L, -, hh, -⟩ := id hC
        obtain ⟨h8, h9, -⟩ := hh x hx3
        rw [rdNs] at g1 g0
        refine X8_readHymn_23 (k := ?_)
        refine X8_readHymn_24 (k := ?_)
        refine X8_readHymn_26 (kt := fun k26 => ?_) (kf := fun k26 => ?_)
        · omega
        · refine X8_readHymn_29 (k := ?_)
          refine X8_readHymn_30 (k := ?_)
          refine x8_step X nq hq (fun I3 X3 T3 f3 c3 => ?_)
          obtain ⟨t3, t4, t5, t6⟩ := T3
          have fr3 : cfr I I3 := cfr_t fr (fun k hk => f3 k (by omega))
          have hC3 : rp I3 19 C := rp_cg hC (fun k k1 k2 => f3 k (by omega))
          refine X8_readHymn_33 (k := ?_)
          refine X8_readHymn_34 (k := ?_)
          rw [t3]
          refine X8_readHymn_37 (k := ?_)
          refine X8_readHymn_38 (kt := fun k38 => ?_) (kf := fun k38 => ?_)
          · rw [if_neg (by omega)] at g1 g0
            refine X8_readHymn_43 (k := ?_)
            refine X8_readHymn_44 (k := ?_)
            rw [t3]
            refine X8_readHymn_47 (k := ?_)
            refine X8_readHymn_48 (kt := fun k48 => ?_) (kf := fun k48 => ?_)
            · rw [if_neg (fun w => by omega)] at g0
              refine X8_readHymn_77 (k := ?_)
              refine X8_readHymn_78 (hq := ?_)
              exact g0 _ I3 rfl X3 t4 fr3
            · have t6 := t6 (by omega)
              have s2 : tkS B n q = 2 := by omega
              have v2 := tkV_r (B := B) s2
              refine X8_readHymn_51 (k := ?_)
              refine X8_readHymn_52 (k := ?_)
              rw [t6]
              refine X8_readHymn_55 (k := ?_)
              refine X8_readHymn_57 (kt := fun k57 => ?_) (kf := fun k57 => ?_)
              · rw [if_neg (fun w => by omega)] at g0
                refine X8_readHymn_77 (k := ?_)
                refine X8_readHymn_78 (hq := ?_)
                exact g0 _ I3 rfl X3 t4 fr3
              · refine X8_readHymn_60 (k := ?_)
                refine X8_readHymn_61 (k := ?_)
                refine X8_readHymn_62 (k := ?_)
                refine X8_readHymn_65 (k := ?_)
                refine X8_readHymn_66 (k := ?_)
                rw [show (0 : Int).toNat = 0 from rfl, f3 56 (by decide), r0]
                refine X8_readHymn_67 (k := ?_)
                refine X8_readHymn_68 (k := ?_)
                rw [t6]
                refine X8_readHymn_71 (k := ?_)
                refine s4_addNote (h := x) (c := 9 - (f + 1)) rfl rfl hx3 (by rw [f3 (19 + 6) (by decide), h9, c1]) (by omega) (fun z => ?_) (fun z => ?_)
                · refine X8_readHymn_74 (kt := fun k74 => ?_) (kf := fun k74 => ?_)
                  · omega
                  · rw [if_neg (fun w => by omega)] at g0
                    refine X8_readHymn_77 (k := ?_)
                    refine X8_readHymn_78 (hq := ?_)
                    exact g0 _ I3 rfl X3 t4 fr3
                · rw [if_pos ⟨⟨s2, by omega⟩, by omega⟩, c1, Int.toNat_natCast] at g1 g0
                  refine X8_readHymn_74 (kt := fun k74 => ?_) (kf := fun k74 => ?_)
                  · refine X8_readHymn_79 (k := ?_)
                    refine X8_readHymn_82 (k := ?_)
                    have e9 : ((9 - (f + 1) : Nat) : Int) + 1 = ((9 - f : Nat) : Int) := by omega
                    have hN := rp_putN (b := 19) (v := tkV B n q) rfl hC3 hx3 c1 z ⟨v2.1, by omega⟩
                    rw [e9] at hN ⊢
                    obtain ⟨x1, x2, x3, x4⟩ := X3
                    refine ih (by omega) _ (tkE B n q) _ ⟨x1, by (try simp (disch := omega) only [z_up_n, z_up_s, zu_s, zu_n, Int.toNat_natCast]); exact x2, by (try simp (disch := omega) only [z_up_n, z_up_s, zu_s, zu_n, Int.toNat_natCast]); exact x3, x4⟩ (by (try simp (disch := omega) only [z_up_n, z_up_s, zu_s, zu_n, Int.toNat_natCast]); exact t5) (tk_g (B := B) hq s2 (by decide)).2 hN ?_ (by (try simp (disch := omega) only [z_up_n, z_up_s, zu_s, zu_n, Int.toNat_natCast]); rw [f3 56 (by decide)]; exact r0) (cfr_t fr3 (fun k hk => by (try simp (disch := omega) only [z_up_n, z_up_s, zu_s, zu_n, Int.toNat_natCast]))) g1 g0
                    unfold putN
                    rw [zu_s]
                    omega
                  · omega
          · rw [if_pos (by omega)] at g1
            refine X8_readHymn_41 (k := ?_)
            refine X8_readHymn_42 (hq := ?_)
            exact g1 _ _ I3 rfl X3 t5 hC3 fr3
    refine X8_readHymn_21 (k := ?_)
    refine X8_readHymn_22 (k := ?_)
    obtain ⟨x1, x2, x3, x4⟩ := X1
    refine loop 9 (Nat.le_refl _) _ (tkE B n p) _ ⟨x1, by (try simp (disch := omega) only [z_up_n, z_up_s, zu_s, zu_n, Int.toNat_natCast]); exact x2, by (try simp (disch := omega) only [z_up_n, z_up_s, zu_s, zu_n, Int.toNat_natCast]); exact x3, x4⟩ (by (try simp (disch := omega) only [z_up_n, z_up_s, zu_s, zu_n, Int.toNat_natCast]); exact n1) b1 (rp_put0 rfl (rp_cg hr (fun k k1 k2 => f1 k (by omega) (by omega))) hx3) (by rw [zu_s]; rfl) (by (try simp (disch := omega) only [z_up_n, z_up_s, zu_s, zu_n, Int.toNat_natCast]); rw [r1, zu_s]) (cfr_t (cfr_e f1) (fun k hk => by (try simp (disch := omega) only [z_up_n, z_up_s, zu_s, zu_n, Int.toNat_natCast]))) h1 h0
  · refine X8_readHymn_6 (kt := fun k6 => ?_) (kf := fun k6 => ?_)
    · omega
    · rw [rdN, if_neg e] at h0
      refine X8_readHymn_9 (k := ?_)
      refine X8_readHymn_10 (hq := ?_)
      exact h0 _ I1 rfl X1 n1 (cfr_e f1)
end QO

/-! the language: the model takes items -/
section QQ
variable {I I' : z_M} {B : Nat → Int} {n : Nat} {A A' : Nat → Int} {P L P' L' : Nat}
def mX (I : z_M) (B : Nat → Int) (n : Nat) : Prop := n ≤ 150 ∧ I 60 16 = n ∧ ∀ k, k < n → I 71 k = B k ∧ 0 ≤ B k ∧ B k ≤ 127
def mfr (I I' : z_M) : Prop := (∀ k, k ≠ 60 → k ≠ 72 → k ≠ 73 → I' k = I k) ∧ ∀ j, j < 17 ∨ 20 < j → I' 60 j = I 60 j
theorem mfr_t {I'' : z_M} (h : mfr I I') (h' : mfr I' I'') : mfr I I'' := ⟨fun k k1 k2 k3 => (h'.1 k k1 k2 k3).trans (h.1 k k1 k2 k3), fun j hj => (h'.2 j hj).trans (h.2 j hj)⟩
theorem mfr_m (h : mf I I') : mfr I I' := ⟨fun k k1 _ _ => h.1 k k1, h.2⟩
theorem mX_f (h : mX I B n) (f : mfr I I') : mX I' B n := ⟨h.1, by rw [f.2 16 (by decide)]; exact h.2.1, by rw [f.1 71 (by decide) (by decide) (by decide)]; exact h.2.2⟩
theorem mX_m (h : mX I B n) (f : mf I I') : mX I' B n := mX_f h (mfr_m f)
def rowM (I : z_M) (A : Nat → Int) : Prop := ∀ j, j < 113 → I 72 j = A j
theorem zu_cg {f g : Nat → Int} {s : Nat} {v : Int} (h : ∀ j, j < 113 → f j = g j) : ∀ j, j < 113 → zu f s v j = zu g s v j := fun j hj => by
  unfold zu
  split
  · rfl
  · exact h j hj
theorem x11_goBehind {Q : z_M → Prop} {p : Nat} (hX : mX I B n) (hT : mT I B n p) (hp : p ≤ n) (h : ∀ I' : z_M, mX I' B n → mT I' B n (tkE B n p) → mf I I' → Q I') : CX11_goBehind [aR 60] I Q := by
  have hr := tkE_r (B := B) hp
  obtain ⟨t7, t8, t9, t0⟩ := hT
  have hn := hX.1
  refine eX11_goBehind ?_
  refine X11_goBehind_0 (k := ?_)
  refine X11_goBehind_1 (k := ?_)
  refine X11_goBehind_2 (k := ?_)
  rw [t7]
  refine X11_goBehind_5 (k := ?_)
  refine X11_goBehind_6 (k := ?_)
  rw [t8]
  refine X11_goBehind_9 (k := ?_)
  rw [show (tkA B n p : Int) + ((tkE B n p - tkA B n p : Nat) : Int) = (tkE B n p : Nat) by omega]
  refine X11_goBehind_10 (k := ?_)
  refine s11_lookAt hX.1 hX.2.1 hr.2.2 hX.2.2 (fun I1 T1 f1 => ?_)
  refine X11_goBehind_13 (hq := ?_)
  exact h I1 (mX_m hX f1) T1 f1
theorem s11_takes {Q : Int → z_M → Prop} {i p : Nat} {m : Int} (hi : i < 5) (hm : m ≤ 100) (hX : mX I B n) (hT : mT I B n p) (hp : p ≤ n) (h1 : tkS B n p = 2 ∧ tkV B n p ≤ m → ∀ I' : z_M, mX I' B n → mT I' B n (tkE B n p) → I' 73 = zu (I 73) i (tkV B n p) → I' 72 = I 72 → mfr I I' → Q 1 I') (h0 : ¬ (tkS B n p = 2 ∧ tkV B n p ≤ m) → Q 0 I) : CX11_takes [aR 60, aI i, aI 0, aI m] I Q := by
  obtain ⟨t7, t8, t9, t0⟩ := id hT
  refine eX11_takes ?_
  refine X11_takes_0 (k := ?_)
  refine X11_takes_1 (k := ?_)
  rw [t9]
  refine X11_takes_4 (k := ?_)
  refine X11_takes_5 (kt := fun k5 => ?_) (kf := fun k5 => ?_)
  · refine X11_takes_23 (k := ?_)
    refine X11_takes_24 (hq := ?_)
    exact h0 (fun w => by omega)
  · have s2 : tkS B n p = 2 := by omega
    have t0 := t0 s2
    have v := tkV_r (B := B) s2
    refine X11_takes_8 (k := ?_)
    refine X11_takes_9 (k := ?_)
    rw [t0]
    refine X11_takes_12 (k := ?_)
    refine X11_takes_13 (k := ?_)
    refine X11_takes_14 (k := ?_)
    refine X11_takes_15 (k := ?_)
    refine X11_takes_16 (k := ?_)
    refine X11_takes_17 (k := ?_)
    refine s11_in (fun a b => ?_) (fun e => ?_)
    · refine X11_takes_20 (kt := fun k20 => ?_) (kf := fun k20 => ?_)
      rotate_left 1
      · omega
      refine X11_takes_25 (k := ?_)
      refine X11_takes_26 (k := ?_)
      refine X11_takes_29 (k := ?_)
      refine X11_takes_30 (k := ?_)
      refine X11_takes_31 (k := ?_)
      rw [t0]
      refine X11_takes_34 (k := ?_)
      rw [Int.toNat_natCast]
      refine X11_takes_35 (k := ?_)
      refine X11_takes_36 (k := ?_)
      have fr : mfr I (z_up I 73 i (tkV B n p)) := ⟨fun k k1 k2 k3 => by rw [z_up_n k3], fun j hj => by rw [z_up_n (by decide)]⟩
      refine x11_goBehind (p := p) (mX_f hX fr) (by unfold mT; rw [z_up_n (by decide)]; exact hT) hp (fun I1 X1 T1 f1 => ?_)
      refine X11_takes_39 (k := ?_)
      refine X11_takes_40 (hq := ?_)
      exact h1 ⟨s2, b⟩ I1 X1 T1 (by rw [f1.1 73 (by decide), z_up_s]) (by rw [f1.1 72 (by decide), z_up_n (by decide)]) (mfr_t fr (mfr_m f1))
    · refine X11_takes_20 (kt := fun k20 => ?_) (kf := fun k20 => ?_)
      · omega
      refine X11_takes_23 (k := ?_)
      refine X11_takes_24 (hq := ?_)
      exact h0 (fun w => by omega)
def rdR (B : Nat → Int) (n : Nat) (R : zPR) (v : Int) (p1 : Nat) (A' : Nat → Int) : Prop := v = 1 ∧ R = rdS B n p1 A' ∨ v = 0 ∧ R = .inl (tkA B n p1)
theorem s11_takesPlace {Q : Int → z_M → Prop} {p : Nat} (hX : mX I B n) (hT : mT I B n p) (hp : p ≤ n) (hR : rowM I A) (hA : nA A) (h : ∀ (v : Int) (p1 : Nat) (A' : Nat → Int) (I' : z_M), rdR B n (if A 1 < 5 then rdPl B n A (tkE B n p) else .inl (tkA B n p)) v p1 A' → p1 ≤ n → mX I' B n → mT I' B n p1 → (v = 1 → rowM I' A') → mfr I I' → Q v I') : CX11_takesPlace [aR 60] I Q := by
  obtain ⟨-, ⟨L, a1, a2⟩, -, -⟩ := id hA
  have hr := tkE_r (B := B) hp
  refine eX11_takesPlace ?_
  refine X11_takesPlace_0 (k := ?_)
  refine X11_takesPlace_1 (k := ?_)
  refine X11_takesPlace_4 (k := ?_)
  refine X11_takesPlace_5 (k := ?_)
  rw [show (1 : Int).toNat = 1 from rfl, hR 1 (by decide), a1]
  refine X11_takesPlace_6 (k := ?_)
  refine X11_takesPlace_7 (kt := fun k7 => ?_) (kf := fun k7 => ?_)
  · rw [if_pos (by omega)] at h
    unfold rdPl at h
    rw [show (A 1).toNat = L by omega] at h
    refine X11_takesPlace_12 (k := ?_)
    refine X11_takesPlace_13 (k := ?_)
    refine x11_goBehind hX hT hp (fun I0 X0 T0 f0 => ?_)
    refine X11_takesPlace_16 (k := ?_)
    refine X11_takesPlace_17 (k := ?_)
    refine X11_takesPlace_18 (k := ?_)
    refine X11_takesPlace_19 (k := ?_)
    refine X11_takesPlace_21 (k := ?_)
    refine s11_takes (i := 0) (by decide) (by decide) X0 T0 hr.2.2 (fun e I1 X1 T1 r1 c1 f1 => ?_) (fun e => ?_)
    · rw [rdN, if_pos e] at h
      have b1 := (tk_g (B := B) hr.2.2 e.1 (by decide)).2
      refine X11_takesPlace_24 (kt := fun k24 => ?_) (kf := fun k24 => ?_)
      · omega
      refine X11_takesPlace_27 (k := ?_)
      refine X11_takesPlace_28 (k := ?_)
      refine X11_takesPlace_29 (k := ?_)
      refine X11_takesPlace_30 (k := ?_)
      refine X11_takesPlace_32 (k := ?_)
      refine s11_takes (i := 1) (by decide) (by decide) X1 T1 b1 (fun e2 I2 X2 T2 r2 c2 f2 => ?_) (fun e2 => ?_)
      · rw [rdN, if_pos e2] at h
        have b2 := (tk_g (B := B) b1 e2.1 (by decide)).2
        refine X11_takesPlace_35 (kt := fun k35 => ?_) (kf := fun k35 => ?_)
        · omega
        refine X11_takesPlace_38 (k := ?_)
        refine X11_takesPlace_39 (k := ?_)
        refine X11_takesPlace_40 (k := ?_)
        refine X11_takesPlace_41 (k := ?_)
        refine X11_takesPlace_43 (k := ?_)
        refine s11_takes (i := 2) (by decide) (by decide) X2 T2 b2 (fun e3 I3 X3 T3 r3 c3 f3 => ?_) (fun e3 => ?_)
        · rw [rdN, if_pos e3] at h
          have b3 := (tk_g (B := B) b2 e3.1 (by decide)).2
          refine X11_takesPlace_46 (kt := fun k46 => ?_) (kf := fun k46 => ?_)
          · omega
          refine X11_takesPlace_49 (k := ?_)
          refine X11_takesPlace_50 (k := ?_)
          refine X11_takesPlace_51 (k := ?_)
          refine X11_takesPlace_52 (k := ?_)
          refine X11_takesPlace_54 (k := ?_)
          refine s11_takes (i := 3) (by decide) (by decide) X3 T3 b3 (fun e4 I4 X4 T4 r4 c4 f4 => ?_) (fun e4 => ?_)
          · rw [rdN, if_pos e4] at h
            have b4 := (tk_g (B := B) b3 e4.1 (by decide)).2
            refine X11_takesPlace_57 (kt := fun k57 => ?_) (kf := fun k57 => ?_)
            · omega
            refine X11_takesPlace_60 (k := ?_)
            refine X11_takesPlace_61 (k := ?_)
            refine X11_takesPlace_62 (k := ?_)
            refine X11_takesPlace_63 (k := ?_)
            refine X11_takesPlace_65 (k := ?_)
            refine s11_takes (i := 4) (by decide) (by decide) X4 T4 b4 (fun e5 I5 X5 T5 r5 c5 f5 => ?_) (fun e5 => ?_)
            · rw [rdN, if_pos e5] at h
              have b5 := (tk_g (B := B) b4 e5.1 (by decide)).2
              have fa : mfr I I5 := mfr_t (mfr_t (mfr_t (mfr_t (mfr_t (mfr_m f0) f1) f2) f3) f4) f5
              have e73 : I5 73 = zu (zu (zu (zu (zu (I0 73) 0 (tkV B n (tkE B n p))) 1 (tkV B n (tkE B n (tkE B n p)))) 2 (tkV B n (tkE B n (tkE B n (tkE B n p))))) 3 (tkV B n (tkE B n (tkE B n (tkE B n (tkE B n p)))))) 4 (tkV B n (tkE B n (tkE B n (tkE B n (tkE B n (tkE B n p)))))) := by rw [r5, r4, r3, r2, r1]
              have e72 : I5 72 = I 72 := by rw [c5, c4, c3, c2, c1, f0.1 72 (by decide)]
              refine X11_takesPlace_68 (kt := fun k68 => ?_) (kf := fun k68 => ?_)
              rotate_left 1
              · omega
              refine X11_takesPlace_73 (k := ?_)
              refine X11_takesPlace_74 (k := ?_)
              refine X11_takesPlace_77 (k := ?_)
              refine X11_takesPlace_78 (k := ?_)
              refine X11_takesPlace_81 (k := ?_)
              refine X11_takesPlace_82 (k := ?_)
              refine X11_takesPlace_83 (k := ?_)
              refine X11_takesPlace_84 (k := ?_)
              refine X11_takesPlace_87 (k := ?_)
              refine X11_takesPlace_88 (k := ?_)
              refine X11_takesPlace_89 (k := ?_)
              refine X11_takesPlace_90 (k := ?_)
              refine X11_takesPlace_93 (k := ?_)
              refine X11_takesPlace_94 (k := ?_)
              refine X11_takesPlace_95 (k := ?_)
              refine X11_takesPlace_96 (k := ?_)
              refine X11_takesPlace_99 (k := ?_)
              refine X11_takesPlace_100 (k := ?_)
              refine X11_takesPlace_101 (k := ?_)
              refine X11_takesPlace_102 (k := ?_)
              refine X11_takesPlace_105 (k := ?_)
              refine X11_takesPlace_106 (k := ?_)
              rw [show (0 : Int).toNat = 0 from rfl, show (1 : Int).toNat = 1 from rfl, show (2 : Int).toNat = 2 from rfl, show (3 : Int).toNat = 3 from rfl, show (4 : Int).toNat = 4 from rfl, e73]
              rw [show ∀ (f : Nat → Int) (a b c d e : Int), zu (zu (zu (zu (zu f 0 a) 1 b) 2 c) 3 d) 4 e 0 = a from fun f a b c d e => by simp [zu], show ∀ (f : Nat → Int) (a b c d e : Int), zu (zu (zu (zu (zu f 0 a) 1 b) 2 c) 3 d) 4 e 1 = b from fun f a b c d e => by simp [zu], show ∀ (f : Nat → Int) (a b c d e : Int), zu (zu (zu (zu (zu f 0 a) 1 b) 2 c) 3 d) 4 e 2 = c from fun f a b c d e => by simp [zu], show ∀ (f : Nat → Int) (a b c d e : Int), zu (zu (zu (zu (zu f 0 a) 1 b) 2 c) 3 d) 4 e 3 = d from fun f a b c d e => by simp [zu], show ∀ (f : Nat → Int) (a b c d e : Int), zu (zu (zu (zu (zu f 0 a) 1 b) 2 c) 3 d) 4 e 4 = e from fun f a b c d e => by simp [zu]]
              refine X11_takesPlace_107 (k := ?_)
              refine s11_layPlace (L := L) rfl (by decide) (by rw [e72, hR 1 (by decide), a1]) (by omega) (fun I6 q6 f6 => ?_)
              refine X11_takesPlace_110 (k := ?_)
              refine X11_takesPlace_111 (hq := ?_)
              have fr6 : mfr I5 I6 := ⟨fun k k1 k2 k3 => f6 k k2, fun j hj => by rw [f6 60 (by decide)]⟩
              refine h 1 _ _ I6 (Or.inl ⟨rfl, rfl⟩) b5 (mX_f X5 fr6) (by unfold mT; rw [f6 60 (by decide)]; exact T5) (fun _ j hj => ?_) (mfr_t fa fr6)
              rw [q6, e72]
              unfold putP row5
              exact zu_cg (zu_cg (zu_cg (zu_cg (zu_cg (zu_cg hR))))) j hj
            · rw [rdN, if_neg e5] at h
              refine X11_takesPlace_68 (kt := fun k68 => ?_) (kf := fun k68 => ?_)
              · omega
              refine X11_takesPlace_71 (k := ?_)
              refine X11_takesPlace_72 (hq := ?_)
              exact h 0 _ A I4 (Or.inr ⟨rfl, rfl⟩) b4 X4 T4 (fun z => absurd z (by decide)) (mfr_t (mfr_t (mfr_t (mfr_t (mfr_m f0) f1) f2) f3) f4)
          · rw [rdN, if_neg e4] at h
            refine X11_takesPlace_57 (kt := fun k57 => ?_) (kf := fun k57 => ?_)
            · refine X11_takesPlace_71 (k := ?_)
              refine X11_takesPlace_72 (hq := ?_)
              exact h 0 _ A I3 (Or.inr ⟨rfl, rfl⟩) b3 X3 T3 (fun z => absurd z (by decide)) (mfr_t (mfr_t (mfr_t (mfr_m f0) f1) f2) f3)
            · omega
        · rw [rdN, if_neg e3] at h
          refine X11_takesPlace_46 (kt := fun k46 => ?_) (kf := fun k46 => ?_)
          · refine X11_takesPlace_71 (k := ?_)
            refine X11_takesPlace_72 (hq := ?_)
            exact h 0 _ A I2 (Or.inr ⟨rfl, rfl⟩) b2 X2 T2 (fun z => absurd z (by decide)) (mfr_t (mfr_t (mfr_m f0) f1) f2)
          · omega
      · rw [rdN, if_neg e2] at h
        refine X11_takesPlace_35 (kt := fun k35 => ?_) (kf := fun k35 => ?_)
        · refine X11_takesPlace_71 (k := ?_)
          refine X11_takesPlace_72 (hq := ?_)
          exact h 0 _ A I1 (Or.inr ⟨rfl, rfl⟩) b1 X1 T1 (fun z => absurd z (by decide)) (mfr_t (mfr_m f0) f1)
        · omega
    · rw [rdN, if_neg e] at h
      refine X11_takesPlace_24 (kt := fun k24 => ?_) (kf := fun k24 => ?_)
      · refine X11_takesPlace_71 (k := ?_)
        refine X11_takesPlace_72 (hq := ?_)
        exact h 0 _ A I0 (Or.inr ⟨rfl, rfl⟩) hr.2.2 X0 T0 (fun z => absurd z (by decide)) (mfr_m f0)
      · omega
  · rw [if_neg (by omega)] at h
    refine X11_takesPlace_10 (k := ?_)
    refine X11_takesPlace_11 (hq := ?_)
    exact h 0 p A I (Or.inr ⟨rfl, rfl⟩) hp hX hT (fun z => absurd z (by decide)) (mfr_m mf_r)
theorem s11_takesPipe {Q : Int → z_M → Prop} {p : Nat} (hX : mX I B n) (hT : mT I B n p) (hp : p ≤ n) (hR : rowM I A) (hA : nA A) (h : ∀ (v : Int) (p1 : Nat) (A' : Nat → Int) (I' : z_M), rdR B n (if A 0 < 8 then rdPi B n A (tkE B n p) else .inl (tkA B n p)) v p1 A' → p1 ≤ n → mX I' B n → mT I' B n p1 → (v = 1 → rowM I' A') → mfr I I' → Q v I') : CX11_takesPipe [aR 60] I Q := by
  obtain ⟨-, -, ⟨P, a1, a2⟩, -⟩ := id hA
  have hr := tkE_r (B := B) hp
  refine eX11_takesPipe ?_
  refine X11_takesPipe_0 (k := ?_)
  refine X11_takesPipe_1 (k := ?_)
  refine X11_takesPipe_4 (k := ?_)
  refine X11_takesPipe_5 (k := ?_)
  rw [show (0 : Int).toNat = 0 from rfl, hR 0 (by decide), a1]
  refine X11_takesPipe_6 (k := ?_)
  refine X11_takesPipe_8 (kt := fun k8 => ?_) (kf := fun k8 => ?_)
  · rw [if_pos (by omega)] at h
    unfold rdPi at h
    rw [show (A 0).toNat = P by omega] at h
    refine X11_takesPipe_13 (k := ?_)
    refine X11_takesPipe_14 (k := ?_)
    refine x11_goBehind hX hT hp (fun I0 X0 T0 f0 => ?_)
    refine X11_takesPipe_17 (k := ?_)
    refine X11_takesPipe_18 (k := ?_)
    refine X11_takesPipe_19 (k := ?_)
    refine X11_takesPipe_20 (k := ?_)
    refine X11_takesPipe_21 (k := ?_)
    refine s11_takes (i := 0) (by decide) (by decide) X0 T0 hr.2.2 (fun e I1 X1 T1 r1 c1 f1 => ?_) (fun e => ?_)
    · rw [rdN, if_pos e] at h
      have b1 := (tk_g (B := B) hr.2.2 e.1 (by decide)).2
      refine X11_takesPipe_24 (kt := fun k24 => ?_) (kf := fun k24 => ?_)
      · omega
      refine X11_takesPipe_27 (k := ?_)
      refine X11_takesPipe_28 (k := ?_)
      refine X11_takesPipe_29 (k := ?_)
      refine X11_takesPipe_30 (k := ?_)
      refine X11_takesPipe_32 (k := ?_)
      refine s11_takes (i := 1) (by decide) (by decide) X1 T1 b1 (fun e2 I2 X2 T2 r2 c2 f2 => ?_) (fun e2 => ?_)
      · rw [rdN, if_pos e2] at h
        have b2 := (tk_g (B := B) b1 e2.1 (by decide)).2
        have fa : mfr I I2 := mfr_t (mfr_t (mfr_m f0) f1) f2
        have e73 : I2 73 = zu (zu (I0 73) 0 (tkV B n (tkE B n p))) 1 (tkV B n (tkE B n (tkE B n p))) := by rw [r2, r1]
        have e72 : I2 72 = I 72 := by rw [c2, c1, f0.1 72 (by decide)]
        refine X11_takesPipe_35 (kt := fun k35 => ?_) (kf := fun k35 => ?_)
        rotate_left 1
        · omega
        refine X11_takesPipe_40 (k := ?_)
        refine X11_takesPipe_41 (k := ?_)
        refine X11_takesPipe_44 (k := ?_)
        refine X11_takesPipe_45 (k := ?_)
        refine X11_takesPipe_48 (k := ?_)
        refine X11_takesPipe_49 (k := ?_)
        refine X11_takesPipe_50 (k := ?_)
        refine X11_takesPipe_51 (k := ?_)
        refine X11_takesPipe_54 (k := ?_)
        refine X11_takesPipe_55 (k := ?_)
        rw [show (0 : Int).toNat = 0 from rfl, show (1 : Int).toNat = 1 from rfl, e73]
        rw [show ∀ (f : Nat → Int) (a b : Int), zu (zu f 0 a) 1 b 0 = a from fun f a b => by simp [zu], show ∀ (f : Nat → Int) (a b : Int), zu (zu f 0 a) 1 b 1 = b from fun f a b => by simp [zu]]
        refine X11_takesPipe_56 (k := ?_)
        refine s11_layPipe (P := P) rfl (by decide) (by rw [e72, hR 0 (by decide), a1]) (by omega) (fun I6 q6 f6 => ?_)
        refine X11_takesPipe_59 (k := ?_)
        refine X11_takesPipe_60 (hq := ?_)
        have fr6 : mfr I2 I6 := ⟨fun k k1 k2 k3 => f6 k k2, fun j hj => by rw [f6 60 (by decide)]⟩
        refine h 1 _ _ I6 (Or.inl ⟨rfl, rfl⟩) b2 (mX_f X2 fr6) (by unfold mT; rw [f6 60 (by decide)]; exact T2) (fun _ j hj => ?_) (mfr_t fa fr6)
        rw [q6, e72]
        unfold putQ row4
        exact zu_cg (zu_cg (zu_cg (zu_cg (zu_cg hR)))) j hj
      · rw [rdN, if_neg e2] at h
        refine X11_takesPipe_35 (kt := fun k35 => ?_) (kf := fun k35 => ?_)
        · omega
        refine X11_takesPipe_38 (k := ?_)
        refine X11_takesPipe_39 (hq := ?_)
        exact h 0 _ A I1 (Or.inr ⟨rfl, rfl⟩) b1 X1 T1 (fun z => absurd z (by decide)) (mfr_t (mfr_m f0) f1)
    · rw [rdN, if_neg e] at h
      refine X11_takesPipe_24 (kt := fun k24 => ?_) (kf := fun k24 => ?_)
      · refine X11_takesPipe_38 (k := ?_)
        refine X11_takesPipe_39 (hq := ?_)
        exact h 0 _ A I0 (Or.inr ⟨rfl, rfl⟩) hr.2.2 X0 T0 (fun z => absurd z (by decide)) (mfr_m f0)
      · omega
  · rw [if_neg (by omega)] at h
    refine X11_takesPipe_11 (k := ?_)
    refine X11_takesPipe_12 (hq := ?_)
    exact h 0 p A I (Or.inr ⟨rfl, rfl⟩) hp hX hT (fun z => absurd z (by decide)) (mfr_m mf_r)
theorem s11_takesHymn {Q : Int → z_M → Prop} {p : Nat} (hX : mX I B n) (hT : mT I B n p) (hp : p ≤ n) (hR : rowM I A) (hA : nA A) (h : ∀ (v : Int) (p1 : Nat) (A' : Nat → Int) (I' : z_M), rdR B n (rdH B n A (tkE B n p)) v p1 A' → p1 ≤ n → mX I' B n → mT I' B n p1 → (v = 1 → rowM I' A') → mfr I I' → Q v I') : CX11_takesHymn [aR 60] I Q := by
  have hr := tkE_r (B := B) hp
  unfold rdH at h
  refine eX11_takesHymn ?_
  refine X11_takesHymn_0 (k := ?_)
  refine X11_takesHymn_1 (k := ?_)
  refine x11_goBehind hX hT hp (fun I0 X0 T0 f0 => ?_)
  refine X11_takesHymn_4 (k := ?_)
  refine X11_takesHymn_5 (k := ?_)
  refine X11_takesHymn_6 (k := ?_)
  refine X11_takesHymn_7 (k := ?_)
  refine X11_takesHymn_8 (k := ?_)
  refine s11_takes (i := 0) (by decide) (by decide) X0 T0 hr.2.2 (fun e I1 X1 T1 r1 c1 f1 => ?_) (fun e => ?_)
  · rw [rdN, if_pos e] at h
    have b1 := (tk_g (B := B) hr.2.2 e.1 (by decide)).2
    have v1 := tkV_r (B := B) e.1
    obtain ⟨x, hx⟩ : ∃ x : Nat, tkV B n (tkE B n p) = x := ⟨(tkV B n (tkE B n p)).toNat, by omega⟩
    rw [hx, Int.toNat_natCast] at h
    rw [hx] at r1
    have hx3 : x < 3 := by omega
    refine X11_takesHymn_11 (kt := fun k11 => ?_) (kf := fun k11 => ?_)
    rotate_left 1
    · omega
    refine X11_takesHymn_16 (k := ?_)
    refine X11_takesHymn_18 (k := ?_)
    refine X11_takesHymn_20 (k := ?_)
    refine X11_takesHymn_21 (k := ?_)
    refine X11_takesHymn_24 (k := ?_)
    refine X11_takesHymn_25 (k := ?_)
    rw [show (0 : Int).toNat = 0 from rfl, r1, zu_s]
    refine X11_takesHymn_26 (k := ?_)
    refine X11_takesHymn_27 (k := ?_)
    refine X11_takesHymn_28 (k := ?_)
    refine X11_takesHymn_29 (k := ?_)
    refine X11_takesHymn_30 (k := ?_)
    refine X11_takesHymn_33 (k := ?_)
    refine X11_takesHymn_34 (k := ?_)
    refine X11_takesHymn_35 (k := ?_)
    rw [show (62 + 9 * (x : Int)).toNat = 62 + 9 * x by omega]
    have loop : ∀ f, f ≤ 9 → ∀ (J : z_M) (q : Nat) (C : Nat → Int), mX J B n → mT J B n q → q ≤ n → rowM J C → nA C → C (62 + 9 * x) = ((9 - f : Nat) : Int) → mfr I J → (∀ (v : Int) (p1 : Nat) (A' : Nat → Int) (I' : z_M), rdR B n (rdNs B n x f C q) v p1 A' → p1 ≤ n → mX I' B n → mT I' B n p1 → (v = 1 → rowM I' A') → mfr I I' → Q v I') → JX11_takesHymn Q 36 [aR 60, aI (62 + 9 * (x : Int))] [] J := by
      intro f
      induction f with
      | zero =>
        intro _ J q C X T hq hR hN c1 _ _
        obtain ⟨c, g1, g2⟩ := hN.2.2.2 x hx3
        omega
      | succ f ih =>
        intro hf J q C X T hq hR hN c1 fr g
        rw [rdNs] at g
        refine X11_takesHymn_36 (k := ?_)
        refine X11_takesHymn_37 (k := ?_)
        rw [T.2.2.1]
        refine X11_takesHymn_40 (k := ?_)
        refine X11_takesHymn_41 (kt := fun k41 => ?_) (kf := fun k41 => ?_)
        · refine X11_takesHymn_102 (k := ?_)
          refine X11_takesHymn_103 (hq := ?_)
          refine g 1 q C J (Or.inl ⟨rfl, ?_⟩) hq X T (fun _ => hR) fr
          unfold rdS
          by_cases z : tkS B n q = 3
          · rw [if_pos z, if_pos z]
          · rw [if_neg z, if_neg z, if_neg (fun w => by omega)]
        · have s2 : tkS B n q = 2 := by omega
          rw [if_neg (by omega)] at g
          refine X11_takesHymn_44 (k := ?_)
          refine X11_takesHymn_45 (k := ?_)
          refine X11_takesHymn_48 (k := ?_)
          refine X11_takesHymn_49 (k := ?_)
          rw [show (62 + 9 * (x : Int)).toNat = 62 + 9 * x by omega, hR (62 + 9 * x) (by omega), c1]
          refine X11_takesHymn_50 (k := ?_)
          refine X11_takesHymn_52 (kt := fun k52 => ?_) (kf := fun k52 => ?_)
          · rw [if_neg (fun w => by omega)] at g
            refine X11_takesHymn_66 (k := ?_)
            refine X11_takesHymn_67 (hq := ?_)
            exact g 0 q C J (Or.inr ⟨rfl, rfl⟩) hq X T (fun z => absurd z (by decide)) fr
          · refine X11_takesHymn_55 (k := ?_)
            refine X11_takesHymn_56 (k := ?_)
            refine X11_takesHymn_57 (k := ?_)
            refine X11_takesHymn_58 (k := ?_)
            refine X11_takesHymn_60 (k := ?_)
            refine s11_takes (i := 1) (by decide) (by decide) X T hq (fun e J1 X1 T1 r1 c7 f1 => ?_) (fun e => ?_)
            · rw [if_pos ⟨e, by omega⟩, c1, Int.toNat_natCast] at g
              have b2 := (tk_g (B := B) hq s2 (by decide)).2
              refine X11_takesHymn_63 (kt := fun k63 => ?_) (kf := fun k63 => ?_)
              rotate_left 1
              · omega
              refine X11_takesHymn_68 (k := ?_)
              refine X11_takesHymn_69 (k := ?_)
              refine X11_takesHymn_72 (k := ?_)
              refine X11_takesHymn_73 (k := ?_)
              refine X11_takesHymn_74 (k := ?_)
              refine X11_takesHymn_75 (k := ?_)
              refine X11_takesHymn_76 (k := ?_)
              refine X11_takesHymn_79 (k := ?_)
              refine X11_takesHymn_80 (k := ?_)
              rw [show (62 + 9 * (x : Int)).toNat = 62 + 9 * x by omega, c7, hR (62 + 9 * x) (by omega), c1]
              refine X11_takesHymn_81 (k := ?_)
              refine X11_takesHymn_82 (k := ?_)
              refine X11_takesHymn_83 (k := ?_)
              refine X11_takesHymn_86 (k := ?_)
              refine X11_takesHymn_87 (k := ?_)
              rw [show (1 : Int).toNat = 1 from rfl, r1, zu_s]
              refine X11_takesHymn_88 (k := ?_)
              rw [show (62 + 9 * (x : Int) + 1 + ((9 - (f + 1) : Nat) : Int)).toNat = 63 + 9 * x + (9 - (f + 1)) by omega]
              refine X11_takesHymn_89 (k := ?_)
              refine X11_takesHymn_90 (k := ?_)
              refine X11_takesHymn_93 (k := ?_)
              refine X11_takesHymn_94 (k := ?_)
              refine X11_takesHymn_95 (k := ?_)
              rw [show (62 + 9 * (x : Int)).toNat = 62 + 9 * x by omega, z_up_s, zu_n (by omega), c7, hR (62 + 9 * x) (by omega), c1]
              refine X11_takesHymn_96 (k := ?_)
              refine X11_takesHymn_97 (k := ?_)
              refine X11_takesHymn_98 (k := ?_)
              rw [show (62 + 9 * (x : Int)).toNat = 62 + 9 * x by omega]
              refine X11_takesHymn_99 (k := ?_)
              have fr2 : mfr J1 (z_up (z_up J1 72 (63 + 9 * x + (9 - (f + 1))) (tkV B n q)) 72 (62 + 9 * x) (((9 - (f + 1) : Nat) : Int) + 1)) := ⟨fun k k1 k2 k3 => by rw [z_up_n k2, z_up_n k2], fun j hj => by rw [z_up_n (by decide), z_up_n (by decide)]⟩
              refine ih (by omega) _ (tkE B n q) (putN C x (9 - (f + 1)) (tkV B n q)) (mX_f X1 fr2) (by unfold mT; rw [z_up_n (by decide), z_up_n (by decide)]; exact T1) b2 (fun j hj => ?_) (nA_N hN hx3 (by omega)) ?_ (mfr_t (mfr_t fr f1) fr2) g
              · rw [z_up_s, z_up_s, c7]
                unfold putN
                exact zu_cg (zu_cg hR) j hj
              · unfold putN
                rw [zu_s]
                omega
            · rw [if_neg (fun w => e w.1)] at g
              refine X11_takesHymn_63 (kt := fun k63 => ?_) (kf := fun k63 => ?_)
              · omega
              refine X11_takesHymn_66 (k := ?_)
              refine X11_takesHymn_67 (hq := ?_)
              exact g 0 q C J (Or.inr ⟨rfl, rfl⟩) hq X T (fun z => absurd z (by decide)) fr
    have fr1 : mfr I1 (z_up I1 72 (62 + 9 * x) 0) := ⟨fun k k1 k2 k3 => by rw [z_up_n k2], fun j hj => by rw [z_up_n (by decide)]⟩
    refine loop 9 (Nat.le_refl _) _ _ (zu A (62 + 9 * x) 0) (mX_f X1 fr1) (by unfold mT; rw [z_up_n (by decide)]; exact T1) b1 (fun j hj => ?_) (nA_0 hA hx3) (by rw [zu_s]; rfl) (mfr_t (mfr_t (mfr_m f0) f1) fr1) h
    rw [z_up_s, c1, f0.1 72 (by decide)]
    exact zu_cg hR j hj
  · rw [rdN, if_neg e] at h
    refine X11_takesHymn_11 (kt := fun k11 => ?_) (kf := fun k11 => ?_)
    · omega
    refine X11_takesHymn_14 (k := ?_)
    refine X11_takesHymn_15 (hq := ?_)
    exact h 0 _ A I0 (Or.inr ⟨rfl, rfl⟩) hr.2.2 X0 T0 (fun z => absurd z (by decide)) (mfr_m f0)
end QQ

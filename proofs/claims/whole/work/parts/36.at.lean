/-! at; how far -/
section PF
variable {I I' : z_M} {b c : Nat} {A A' : Nat → Int} {P L : Nat}
def cE (A : Nat → Int) (x : Int) : Int := if x = -1 then 0 else A (5 + 5 * x.toNat + 3)
def cN (A : Nat → Int) (x : Int) : Int := if x = -1 then 0 else A (5 + 5 * x.toNat + 4)
def dI (x : Int) : Int := if 0 ≤ x then x else -x
def pFar (A : Nat → Int) (x y : Int) : Int := dI (cE A x - cE A y) + dI (cN A x - cN A y)
theorem cE_r {x : Int} (hA : wfA A P L) (hx : x = -1 ∨ (0 ≤ x ∧ x < L)) : 0 ≤ cE A x ∧ cE A x ≤ 30 := by
  unfold cE
  split
  · omega
  · exact (hA.2.2.2.2.1 x.toNat (by omega)).2.2.2.1
theorem cN_r {x : Int} (hA : wfA A P L) (hx : x = -1 ∨ (0 ≤ x ∧ x < L)) : 0 ≤ cN A x ∧ cN A x ≤ 30 := by
  unfold cN
  split
  · omega
  · exact (hA.2.2.2.2.1 x.toNat (by omega)).2.2.2.2
theorem s4_eastOf {Q : Int → z_M → Prop} (hb : z_cl b = 4) {x : Int} (hx : x = -1 ∨ (0 ≤ x ∧ x < L)) (hS : rpS I b A P L) (h : Q (cE A x) I) : CX4_eastOf [aR b, aI x] I Q := by
  obtain ⟨o1, o2, o3, o4, o5, o6, o7, o8, o9, o10, n1, n2, n3, n4, n5, n6, n7, n8, n10⟩ := z_o hb
  have hL := hS.2.2.1.2.2.2.1
  unfold cE at h
  refine eX4_eastOf ?_
  refine X4_eastOf_0 (k := ?_)
  refine X4_eastOf_1 (k := ?_)
  refine X4_eastOf_2 (kt := fun k2 => ?_) (kf := fun k2 => ?_)
  · rw [if_neg (by omega)] at h
    obtain ⟨e1, e2⟩ := hS.2.1 x.toNat (by omega)
    refine X4_eastOf_9 (k := ?_)
    refine X4_eastOf_10 (k := ?_)
    refine X4_eastOf_13 (k := ?_)
    refine X4_eastOf_14 (k := ?_)
    refine X4_eastOf_15 (k := ?_)
    refine X4_eastOf_16 (k := ?_)
    refine X4_eastOf_17 (k := ?_)
    refine X4_eastOf_18 (k := ?_)
    rw [show (x * 5 + 3).toNat = 5 * x.toNat + 3 by omega, e1]
    refine X4_eastOf_19 (hq := ?_)
    exact h
  · rw [if_pos (by omega)] at h
    refine X4_eastOf_5 (k := ?_)
    refine X4_eastOf_6 (k := ?_)
    refine X4_eastOf_19 (hq := ?_)
    exact h
theorem s4_northOf {Q : Int → z_M → Prop} (hb : z_cl b = 4) {x : Int} (hx : x = -1 ∨ (0 ≤ x ∧ x < L)) (hS : rpS I b A P L) (h : Q (cN A x) I) : CX4_northOf [aR b, aI x] I Q := by
  obtain ⟨o1, o2, o3, o4, o5, o6, o7, o8, o9, o10, n1, n2, n3, n4, n5, n6, n7, n8, n10⟩ := z_o hb
  have hL := hS.2.2.1.2.2.2.1
  unfold cN at h
  refine eX4_northOf ?_
  refine X4_northOf_0 (k := ?_)
  refine X4_northOf_1 (k := ?_)
  refine X4_northOf_2 (kt := fun k2 => ?_) (kf := fun k2 => ?_)
  · rw [if_neg (by omega)] at h
    obtain ⟨e1, e2⟩ := hS.2.1 x.toNat (by omega)
    refine X4_northOf_9 (k := ?_)
    refine X4_northOf_10 (k := ?_)
    refine X4_northOf_13 (k := ?_)
    refine X4_northOf_14 (k := ?_)
    refine X4_northOf_15 (k := ?_)
    refine X4_northOf_16 (k := ?_)
    refine X4_northOf_17 (k := ?_)
    refine X4_northOf_18 (k := ?_)
    rw [show (x * 5 + 4).toNat = 5 * x.toNat + 4 by omega, e2]
    refine X4_northOf_19 (hq := ?_)
    exact h
  · rw [if_pos (by omega)] at h
    refine X4_northOf_5 (k := ?_)
    refine X4_northOf_6 (k := ?_)
    refine X4_northOf_19 (hq := ?_)
    exact h
theorem dI_r {x : Int} : 0 ≤ dI x ∧ (dI x = x ∨ dI x = -x) := by
  unfold dI
  split <;> omega
theorem s4_howFar {Q : Int → z_M → Prop} (hb : z_cl b = 4) {x y : Int} (hx : x = -1 ∨ (0 ≤ x ∧ x < L)) (hy : y = -1 ∨ (0 ≤ y ∧ y < L)) (hS : rpS I b A P L) (h : Q (pFar A x y) I) : CX4_howFar [aR b, aI x, aI y] I Q := by
  have hA := hS.2.2.1
  have ex := cE_r hA hx
  have ey := cE_r hA hy
  have nx := cN_r hA hx
  have ny := cN_r hA hy
  have d1 := @dI_r (cE A x - cE A y)
  have d2 := @dI_r (cN A x - cN A y)
  refine eX4_howFar ?_
  refine X4_howFar_0 (k := ?_)
  refine X4_howFar_1 (k := ?_)
  refine X4_howFar_2 (k := ?_)
  refine s4_eastOf hb hx hS ?_
  refine X4_howFar_5 (k := ?_)
  refine X4_howFar_6 (k := ?_)
  refine X4_howFar_7 (k := ?_)
  refine s4_eastOf hb hy hS ?_
  refine X4_howFar_10 (k := ?_)
  refine X4_howFar_11 (k := ?_)
  rw [show (if 0 ≤ cE A x - cE A y then cE A x - cE A y else -(cE A x - cE A y)) = dI (cE A x - cE A y) from rfl]
  refine X4_howFar_14 (k := ?_)
  refine X4_howFar_15 (k := ?_)
  refine X4_howFar_16 (k := ?_)
  refine s4_northOf hb hx hS ?_
  refine X4_howFar_19 (k := ?_)
  refine X4_howFar_20 (k := ?_)
  refine X4_howFar_21 (k := ?_)
  refine s4_northOf hb hy hS ?_
  refine X4_howFar_24 (k := ?_)
  refine X4_howFar_25 (k := ?_)
  rw [show (if 0 ≤ cN A x - cN A y then cN A x - cN A y else -(cN A x - cN A y)) = dI (cN A x - cN A y) from rfl]
  refine X4_howFar_28 (k := ?_)
  refine X4_howFar_29 (hq := ?_)
  exact h
theorem s11_farOf {Q : Int → z_M → Prop} {x : Nat} (hx : x < L) (hA : wfA A P L) (hI : I 61 = A) (h : Q (pFar A (-1) x) I) : CX11_farOf [aR 60, aI x] I Q := by
  obtain ⟨a0, a1, a2, a3, a4, a5⟩ := id hA
  obtain ⟨-, -, -, r3, r4⟩ := a4 x hx
  have e : pFar A (-1) x = A (5 + 5 * x + 3) + A (5 + 5 * x + 4) := by
    unfold pFar cE cN dI
    rw [if_pos rfl, if_pos rfl, if_neg (show ¬ (x : Int) = -1 by omega), if_neg (show ¬ (x : Int) = -1 by omega), Int.toNat_natCast]
    split <;> split <;> omega
  rw [e] at h
  refine eX11_farOf ?_
  refine X11_farOf_0 (k := ?_)
  refine X11_farOf_1 (k := ?_)
  refine X11_farOf_2 (k := ?_)
  refine X11_farOf_3 (k := ?_)
  refine s11_placeHas (n := x) (k := 3) rfl rfl (by omega) ?_
  rw [hI]
  refine X11_farOf_6 (k := ?_)
  refine X11_farOf_7 (k := ?_)
  refine X11_farOf_8 (k := ?_)
  refine X11_farOf_9 (k := ?_)
  refine s11_placeHas (n := x) (k := 4) rfl rfl (by omega) ?_
  rw [hI]
  refine X11_farOf_12 (k := ?_)
  refine X11_farOf_13 (hq := ?_)
  exact h
theorem t_at {Q : Int → Int → z_M → Prop} {x0 x1 : Int} (h : RR I) (hq : ∀ r I', RR I' → Q r r I') : CX10_at [aR 0, aI x0, aI x1] I (fun r I1 => CX11_at [aR 60, aI x0, aI x1] I1 (fun r' I2 => Q r r' I2)) := by
  obtain ⟨⟨P, L, hx⟩, -⟩ := id h
  have hx : rpx I 8 (I 61) P L := hx
  have hA := rpx_A hx
  have hS := rpx_S hx
  have hC := rpx_C hx
  obtain ⟨a0, a1, a2, a3, a4, a5⟩ := id hA
  have i1 := hC.2.1
  have o8 := z_o (show z_cl 8 = 4 from rfl)
  have ref : ∀ (I1 : z_M) (r : Int), I1 61 = I 61 → (∀ p : Nat, x0 = p → p < L → ∀ I2, smM I1 I2 → (x1 = 0 → Q r (tA (I 61) p) I2) ∧ (x1 = 1 → Q r (if pWish (I 61) (sA (I 61)).1 p = true then 1 else 0) I2) ∧ (x1 = 2 → Q r (z_bs (fun q => decide ((sA (I 61)).2.1 q = p)) P : Nat) I2) ∧ (x1 = 3 → Q r (pFar (I 61) (-1) p) I2)) → (¬ ((0 ≤ x0 ∧ x0 < L) ∧ (0 ≤ x1 ∧ x1 ≤ 3)) → Q r (-2) (z_up I1 64 0 (i32 (I1 64 0 + 1)))) → CX11_at [aR 60, aI x0, aI x1] I1 (fun r' I2 => Q r r' I2) := by
    intro I1 r e1 g1 g0
    have eL : I1 61 1 = L := by rw [e1]; exact hA.2.1
    refine eX11_at ?_
    refine X11_at_0 (k := ?_)
    refine X11_at_1 (k := ?_)
    refine X11_at_2 (k := ?_)
    refine s11_isPlace (by first | assumption | omega) (by omega) (fun u2 u2b => ?_) (fun u2 => ?_)
    · refine X11_at_5 (kt := fun z => absurd z (by decide)) (kf := fun _ => ?_)
      refine X11_at_8 (k := ?_)
      refine X11_at_9 (k := ?_)
      refine X11_at_10 (k := ?_)
      refine X11_at_11 (k := ?_)
      refine X11_at_14 (k := ?_)
      refine s11_in (fun u14 u14b => ?_) (fun u14 => ?_)
      · refine X11_at_17 (kt := fun _ => ?_) (kf := fun z => absurd z (by decide))
        obtain ⟨p, rfl⟩ : ∃ p : Nat, x0 = p := ⟨x0.toNat, by omega⟩
        refine X11_at_27 (k := ?_)
        refine X11_at_28 (k := ?_)
        refine s11_layHand hA e1 (fun I2 l1 l2 l3 => ?_)
        have hs := smM_hand l2 l3
        obtain ⟨g1, g2, g3, g4⟩ := g1 p rfl (by omega) I2 hs
        refine X11_at_31 (k := ?_)
        refine X11_at_32 (kt := fun k32 => ?_) (kf := fun k32 => ?_)
        · refine X11_at_42 (k := ?_)
          refine X11_at_43 (k := ?_)
          refine X11_at_44 (kt := fun k44 => ?_) (kf := fun k44 => ?_)
          · refine X11_at_61 (k := ?_)
            refine X11_at_62 (k := ?_)
            refine X11_at_63 (k := ?_)
            refine X11_at_64 (k := ?_)
            refine z_for P (fun i => JX11_at (fun r' I2 => Q r r' I2) 66 [aR 60, aI p, aI x1, aI (z_bs (fun q => decide ((sA (I 61)).2.1 q = p)) i : Nat), aI i] [] I2) ?_ (fun i hi ih => ?_) 0 (Nat.zero_le _)
            · refine X11_at_66 (k := ?_)
              refine X11_at_68 (k := ?_)
              refine X11_at_69 (k := ?_)
              refine s11_pipes ?_
              rw [l1.1, a0]
              refine X11_at_72 (kt := fun k72 => ?_) (kf := fun k72 => ?_)
              · refine X11_at_103 (k := ?_)
                refine X11_at_104 (k := ?_)
                refine X11_at_105 (kt := fun k105 => ?_) (kf := fun k105 => ?_)
                · refine X11_at_112 (k := ?_)
                  refine X11_at_113 (k := ?_)
                  refine X11_at_114 (k := ?_)
                  refine s11_farOf (by omega) hA l1.1 ?_
                  refine X11_at_117 (hq := ?_)
                  exact g4 (by omega)
                · refine X11_at_108 (k := ?_)
                  refine X11_at_109 (k := ?_)
                  refine X11_at_117 (hq := ?_)
                  exact g3 (by omega)
              · omega
            · have hb := z_bs_lt (fun q => decide ((sA (I 61)).2.1 q = p)) i
              have hp := z_pow_lt (show i < 8 by omega)
              refine X11_at_66 (k := ?_)
              refine X11_at_68 (k := ?_)
              refine X11_at_69 (k := ?_)
              refine s11_pipes ?_
              rw [l1.1, a0]
              refine X11_at_72 (kt := fun k72 => ?_) (kf := fun k72 => ?_)
              · omega
              · refine X11_at_75 (k := ?_)
                refine X11_at_76 (k := ?_)
                refine X11_at_77 (k := ?_)
                refine X11_at_80 (k := ?_)
                refine X11_at_82 (k := ?_)
                rw [Int.toNat_natCast, (l1.2.2.1 i hi).2.1]
                refine X11_at_83 (k := ?_)
                refine X11_at_84 (kt := fun k84 => ?_) (kf := fun k84 => ?_)
                · refine X11_at_94 (k := ?_)
                  refine X11_at_95 (k := ?_)
                  rw [z_bs_f (by simp [k84])] at ih
                  rw [show zor (z_bs (fun q => decide ((sA (I 61)).2.1 q = p)) i : Int) 0 = (z_bs (fun q => decide ((sA (I 61)).2.1 q = p)) i : Nat) by simp [zor]]
                  refine X11_at_96 (k := ?_)
                  refine X11_at_97 (k := ?_)
                  refine X11_at_100 (k := ?_)
                  exact ih
                · refine X11_at_87 (k := ?_)
                  refine X11_at_88 (k := ?_)
                  refine X11_at_90 (k := ?_)
                  refine X11_at_91 (k := ?_)
                  refine X11_at_95 (k := ?_)
                  rw [zor_bs]
                  rw [z_bs_t (by simp [k84])] at ih
                  refine X11_at_96 (k := ?_)
                  refine X11_at_97 (k := ?_)
                  refine X11_at_100 (k := ?_)
                  exact ih
          · refine X11_at_47 (k := ?_)
            refine X11_at_48 (k := ?_)
            refine X11_at_49 (k := ?_)
            refine s11_isWished rfl (by omega) hA l1 (fun z => ?_) (fun z => ?_)
            · refine X11_at_52 (kt := fun k52 => ?_) (kf := fun k52 => ?_)
              · omega
              · refine X11_at_55 (k := ?_)
                refine X11_at_56 (k := ?_)
                refine X11_at_60 (hq := ?_)
                have g2 := g2 (by omega)
                rw [if_pos z] at g2
                exact g2
            · refine X11_at_52 (kt := fun k52 => ?_) (kf := fun k52 => ?_)
              · refine X11_at_59 (k := ?_)
                refine X11_at_60 (hq := ?_)
                have g2 := g2 (by omega)
                rw [if_neg (by rw [z]; decide)] at g2
                exact g2
              · omega
        · refine X11_at_35 (k := ?_)
          refine X11_at_36 (k := ?_)
          refine X11_at_37 (k := ?_)
          refine X11_at_38 (k := ?_)
          refine s11_placeHas (n := p) (k := 0) rfl rfl (by omega) ?_
          rw [l1.1]
          refine X11_at_41 (hq := ?_)
          exact g1 (by omega)
      · refine X11_at_17 (kt := fun z => absurd z (by decide)) (kf := fun _ => ?_)
        refine X11_at_20 (k := ?_)
        refine X11_at_21 (k := ?_)
        refine X11_at_23 (k := ?_)
        refine s11_bad ?_
        refine X11_at_26 (hq := ?_)
        exact g0 (by omega)
    · refine X11_at_5 (kt := fun _ => ?_) (kf := fun z => absurd z (by decide))
      refine X11_at_20 (k := ?_)
      refine X11_at_21 (k := ?_)
      refine X11_at_23 (k := ?_)
      refine s11_bad ?_
      refine X11_at_26 (hq := ?_)
      exact g0 (by omega)
  refine eX10_at ?_
  refine X10_at_0 (k := ?_)
  refine X10_at_1 (k := ?_)
  refine X10_at_2 (k := ?_)
  refine s10_isPlace (fun u2 u2b => ?_) (fun u2 => ?_)
  · refine X10_at_5 (kt := fun _ => ?_) (kf := fun z => absurd z (by decide))
    obtain ⟨p, rfl⟩ : ∃ p : Nat, x0 = p := ⟨x0.toNat, by omega⟩
    have hp : p < L := by omega
    have fin : ∀ (r : Int), (0 ≤ x1 ∧ x1 ≤ 3) → (x1 = 0 → r = tA (I 61) p) → (x1 = 1 → r = if pWish (I 61) (sA (I 61)).1 p = true then 1 else 0) → (x1 = 2 → r = (z_bs (fun q => decide ((sA (I 61)).2.1 q = p)) P : Nat)) → (x1 = 3 → r = pFar (I 61) (-1) p) → CX11_at [aR 60, aI p, aI x1] I (fun r' I2 => Q r r' I2) := by
      intro r z z0 z1 z2 z3
      refine ref _ _ rfl (fun q q1 q2 I2 hs => ?_) (fun q => by omega)
      have : q = p := by omega
      subst this
      have hr := RR_M h hs
      exact ⟨fun w => z0 w ▸ hq _ _ hr, fun w => z1 w ▸ hq _ _ hr, fun w => z2 w ▸ hq _ _ hr, fun w => z3 w ▸ hq _ _ hr⟩
    refine X10_at_13 (k := ?_)
    refine X10_at_14 (k0 := fun k14 => ?_) (k1 := fun k14 => ?_) (k2 := fun k14 => ?_) (k3 := fun k14 => ?_) (kd := fun k14 => ?_)
    · refine X10_at_44 (k := ?_)
      refine X10_at_45 (k := ?_)
      refine X10_at_48 (k := ?_)
      refine X10_at_49 (k := ?_)
      refine s4_toneWishedAt rfl hp hA hC ?_
      refine X10_at_52 (hq := ?_)
      exact fin _ (by omega) (fun _ => rfl) (fun _ => by omega) (fun _ => by omega) (fun _ => by omega)
    · refine X10_at_53 (k := ?_)
      refine X10_at_54 (k := ?_)
      refine X10_at_57 (k := ?_)
      refine X10_at_58 (k := ?_)
      refine s4_isWished rfl hp hA hC (fun z => ?_) (fun z => ?_)
      · refine X10_at_61 (kt := fun k61 => ?_) (kf := fun k61 => ?_)
        · omega
        · refine X10_at_64 (k := ?_)
          refine X10_at_65 (k := ?_)
          refine X10_at_69 (hq := ?_)
          exact fin _ (by omega) (fun _ => by omega) (fun _ => by rw [if_pos z]) (fun _ => by omega) (fun _ => by omega)
      · refine X10_at_61 (kt := fun k61 => ?_) (kf := fun k61 => ?_)
        · refine X10_at_68 (k := ?_)
          refine X10_at_69 (hq := ?_)
          exact fin _ (by omega) (fun _ => by omega) (fun _ => by rw [if_neg (by rw [z]; decide)]) (fun _ => by omega) (fun _ => by omega)
        · omega
    · refine X10_at_70 (k := ?_)
      refine X10_at_71 (k := ?_)
      refine X10_at_74 (k := ?_)
      refine X10_at_75 (k := ?_)
      refine s4_pipesAt rfl hA hC ?_
      refine X10_at_78 (hq := ?_)
      exact fin _ (by omega) (fun _ => by omega) (fun _ => by omega) (fun _ => rfl) (fun _ => by omega)
    · refine X10_at_79 (k := ?_)
      refine X10_at_80 (k := ?_)
      refine X10_at_83 (k := ?_)
      refine X10_at_84 (k := ?_)
      refine X10_at_85 (k := ?_)
      refine s4_howFar rfl (Or.inl rfl) (Or.inr ⟨by omega, by omega⟩) hx.1 ?_
      refine X10_at_88 (hq := ?_)
      exact fin _ (by omega) (fun _ => by omega) (fun _ => by omega) (fun _ => by omega) (fun _ => rfl)
    · refine X10_at_89 (k := ?_)
      refine X10_at_90 (k := ?_)
      refine s10_refuseBad ?_
      refine X10_at_93 (hq := ?_)
      refine ref _ _ (by rw [z_up_n (by decide)]) (fun q z z1 I2 hs => ⟨fun w => by omega, fun w => by omega, fun w => by omega, fun w => by omega⟩) (fun z => ?_)
      exact RR_bad (Q := Q) h (fun I' => hq _ I')
  · refine X10_at_5 (kt := fun z => absurd z (by decide)) (kf := fun _ => ?_)
    refine X10_at_8 (k := ?_)
    refine X10_at_9 (k := ?_)
    refine s10_refuseBad ?_
    refine X10_at_12 (hq := ?_)
    refine ref _ _ (by rw [z_up_n (by decide)]) (fun p z z1 I2 hs => by omega) (fun z => ?_)
    exact RR_bad (Q := Q) h (fun I' => hq _ I')
end PF

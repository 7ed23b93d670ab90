/-! looking ahead: then, left; of, at -/
section PE
variable {I I' : z_M} {b c : Nat} {A A' : Nat → Int} {P L : Nat}
theorem x10_tryHours {Q : z_M → Prop} {m : Nat} (hm : m ≤ 100) {K tn : Nat → Int} {s : Int × (Nat → Int) × (Nat → Int)} (hA : wfA A P L) (hS : wfS P L K s.2.1 s.2.2) (hI : stC I 19 A P L s.1 K s.2.1 s.2.2 tn) (h : ∀ I', stC I' 19 A P L (pHours A P L K tn s m).1 K (pHours A P L K tn s m).2.1 (pHours A P L K tn s m).2.2 tn → (∀ k, k < 19 ∨ 24 < k → I' k = I k) → Q I') : CX10_tryHours [aR 0, aI m] I Q := by
  refine eX10_tryHours ?_
  refine X10_tryHours_0 (k := ?_)
  refine X10_tryHours_1 (k := ?_)
  refine z_for m (fun i => ∀ I1, stC I1 19 A P L (pHours A P L K tn s i).1 K (pHours A P L K tn s i).2.1 (pHours A P L K tn s i).2.2 tn → (∀ k, k < 19 ∨ 24 < k → I1 k = I k) → JX10_tryHours Q 2 [aR 0, aI m, aI i] [] I1) ?_ (fun i hi ih => ?_) 0 (Nat.zero_le _) I hI (fun _ _ => rfl)
  · intro I1 f1 f2
    refine X10_tryHours_2 (k := ?_)
    refine X10_tryHours_3 (k := ?_)
    refine X10_tryHours_4 (kt := fun k4 => ?_) (kf := fun k4 => ?_)
    · refine X10_tryHours_24 (hq := ?_)
      exact h I1 f1 f2
    · omega
  · intro I1 f1 f2
    refine X10_tryHours_2 (k := ?_)
    refine X10_tryHours_3 (k := ?_)
    refine X10_tryHours_4 (kt := fun k4 => ?_) (kf := fun k4 => ?_)
    · omega
    · refine X10_tryHours_7 (k := ?_)
      refine X10_tryHours_8 (k := ?_)
      refine X10_tryHours_11 (k := ?_)
      refine X10_tryHours_12 (k := ?_)
      refine X10_tryHours_15 (k := ?_)
      refine s4_letHourGoBy rfl hA (wfS_hours hS i) f1 (fun I2 e1 e2 e3 => ?_)
      refine X10_tryHours_18 (k := ?_)
      refine X10_tryHours_21 (k := ?_)
      exact ih I2 e1 (fun k hk => by rw [e2 k (by omega) (by omega) (by omega)]; exact f2 k hk)
theorem s11_goHours {Q : z_M → Prop} {m : Nat} (hm : m ≤ 100) {K tn : Nat → Int} {s : Int × (Nat → Int) × (Nat → Int)} (hA : wfA A P L) (hS : wfS P L K s.2.1 s.2.2) (hI : stM I A P L s.1 K s.2.1 s.2.2 tn) (h : ∀ I', stM I' A P L (pHours A P L K tn s m).1 K (pHours A P L K tn s m).2.1 (pHours A P L K tn s m).2.2 tn → (∀ k, k ≠ 60 → k ≠ 66 → k ≠ 67 → I' k = I k) → (∀ j, j ≠ 6 → I' 60 j = I 60 j) → Q I') : CX11_goHours [aR 60, aI m] I Q := by
  refine eX11_goHours ?_
  refine X11_goHours_0 (k := ?_)
  refine X11_goHours_1 (k := ?_)
  refine z_for m (fun i => ∀ I1, stM I1 A P L (pHours A P L K tn s i).1 K (pHours A P L K tn s i).2.1 (pHours A P L K tn s i).2.2 tn → (∀ k, k ≠ 60 → k ≠ 66 → k ≠ 67 → I1 k = I k) → (∀ j, j ≠ 6 → I1 60 j = I 60 j) → JX11_goHours Q 2 [aR 60, aI m, aI i] [] I1) ?_ (fun i hi ih => ?_) 0 (Nat.zero_le _) I hI (fun _ _ _ _ => rfl) (fun _ _ => rfl)
  · intro I1 f1 f2 f3
    refine X11_goHours_2 (k := ?_)
    refine X11_goHours_3 (k := ?_)
    refine X11_goHours_4 (kt := fun k4 => ?_) (kf := fun k4 => ?_)
    · refine X11_goHours_17 (hq := ?_)
      exact h I1 f1 f2 f3
    · omega
  · intro I1 f1 f2 f3
    refine X11_goHours_2 (k := ?_)
    refine X11_goHours_3 (k := ?_)
    refine X11_goHours_4 (kt := fun k4 => ?_) (kf := fun k4 => ?_)
    · omega
    · refine X11_goHours_7 (k := ?_)
      refine X11_goHours_8 (k := ?_)
      refine s11_goHour hA (wfS_hours hS i) f1 (fun I2 e1 e2 e3 => ?_)
      refine X11_goHours_11 (k := ?_)
      refine X11_goHours_14 (k := ?_)
      exact ih I2 e1 (fun k k1 k2 k3 => by rw [e2 k k1 k2 k3]; exact f2 k k1 k2 k3) (fun j hj => by rw [e3 j hj]; exact f3 j hj)
/-- the trial takes the stage of now -/
theorem x4_trial {Q : z_M → Prop} (hx : rpx I 8 A P L) (h : ∀ I', stC I' 19 A P L (sA A).1 (kA A) (sA A).2.1 (sA A).2.2 (tA A) → (∀ k, k < 19 ∨ 24 < k → I' k = I k) → Q I') : CX4_takeStage [aR 19, aR 8] I Q :=
  s4_takeStage rfl rfl (by decide) (fun I' e1 e2 ef => h I' (stC_cp (rpx_A hx).2.2.1 (rpx_A hx).2.2.2.1 (rpx_C hx) e1) ef)
theorem smC_trial (e : ∀ k, k < 19 ∨ 24 < k → I' k = I k) : smC I I' := ⟨fun k hk => e k (by omega), by rw [e 54 (by decide)]⟩
theorem smM_hand (e : ∀ k, k ≠ 60 → k ≠ 65 → k ≠ 66 → k ≠ 67 → k ≠ 68 → I' k = I k) (e6 : ∀ j, j ≠ 6 → I' 60 j = I 60 j) : smM I I' := ⟨fun k hk => e k (by omega) (by omega) (by omega) (by omega) (by omega), e6 4 (by decide), e6 5 (by decide), e6 16 (by decide)⟩
def hF (A : Nat → Int) (P L m : Nat) : Int × (Nat → Int) × (Nat → Int) := pHours A P L (kA A) (tA A) (sA A) m
theorem t_then {Q : Int → Int → z_M → Prop} {x0 x1 : Int} (h : RR I) (hq : ∀ r I', RR I' → Q r r I') : CX10_then [aR 0, aI x0, aI x1] I (fun r I1 => CX11_then [aR 60, aI x0, aI x1] I1 (fun r' I2 => Q r r' I2)) := by
  obtain ⟨⟨P, L, hx⟩, -⟩ := id h
  have hx : rpx I 8 (I 61) P L := hx
  have hA := rpx_A hx
  have hS := rpx_S hx
  have hC := rpx_C hx
  have hP := hA.2.2.1
  have i2 := hC.2.2.1
  have o19 := z_o (show z_cl 19 = 4 from rfl)
  have ref : ∀ (I1 : z_M) (r : Int), I1 61 = I 61 → (∀ m p : Nat, x0 = m → x1 = p → m ≤ 72 → p < P → ∀ I2, smM I1 I2 → Q r ((hF (I 61) P L m).2.1 p) I2) → (¬ ((0 ≤ x0 ∧ x0 ≤ 72) ∧ (0 ≤ x1 ∧ x1 < P)) → Q r (-10) (z_up I1 64 0 (i32 (I1 64 0 + 1)))) → CX11_then [aR 60, aI x0, aI x1] I1 (fun r' I2 => Q r r' I2) := by
    intro I1 r e1 g1 g0
    have eP : I1 61 0 = P := by rw [e1]; exact hA.1
    refine eX11_then ?_
    refine X11_then_0 (k := ?_)
    refine X11_then_1 (k := ?_)
    refine s11_isThen (fun u1 u1b => ?_) (fun u1 => ?_)
    · refine X11_then_4 (kt := fun z => absurd z (by decide)) (kf := fun _ => ?_)
      refine X11_then_7 (k := ?_)
      refine X11_then_8 (k := ?_)
      refine X11_then_9 (k := ?_)
      refine s11_isPipe (by first | assumption | omega) (by omega) (fun u9 u9b => ?_) (fun u9 => ?_)
      · refine X11_then_12 (kt := fun _ => ?_) (kf := fun z => absurd z (by decide))
        obtain ⟨m, rfl⟩ : ∃ m : Nat, x0 = m := ⟨x0.toNat, by omega⟩
        obtain ⟨p, rfl⟩ : ∃ p : Nat, x1 = p := ⟨x1.toNat, by omega⟩
        have g1 := g1 m p rfl rfl (by omega) (by omega)
        refine X11_then_22 (k := ?_)
        refine X11_then_23 (k := ?_)
        refine s11_layHand hA e1 (fun I2 l1 l2 l3 => ?_)
        refine X11_then_26 (k := ?_)
        refine X11_then_27 (k := ?_)
        refine X11_then_28 (k := ?_)
        refine s11_goHours (by omega) hA hS l1 (fun I3 m1 m2 m3 => ?_)
        refine X11_then_31 (k := ?_)
        refine X11_then_32 (k := ?_)
        refine X11_then_35 (k := ?_)
        refine X11_then_36 (k := ?_)
        rw [Int.toNat_natCast, (m1.2.2.1 p (by omega)).2.1]
        refine X11_then_37 (hq := ?_)
        exact g1 I3 (smM_hand (fun k k1 k2 k3 k4 k5 => by rw [m2 k k1 k3 k4]; exact l2 k k1 k2 k3 k4 k5) (fun j hj => by rw [m3 j hj]; exact l3 j hj))
      · refine X11_then_12 (kt := fun z => absurd z (by decide)) (kf := fun _ => ?_)
        refine X11_then_15 (k := ?_)
        refine X11_then_16 (k := ?_)
        refine X11_then_18 (k := ?_)
        refine s11_bad ?_
        refine X11_then_21 (hq := ?_)
        exact g0 (by omega)
    · refine X11_then_4 (kt := fun _ => ?_) (kf := fun z => absurd z (by decide))
      refine X11_then_15 (k := ?_)
      refine X11_then_16 (k := ?_)
      refine X11_then_18 (k := ?_)
      refine s11_bad ?_
      refine X11_then_21 (hq := ?_)
      exact g0 (by omega)
  refine eX10_then ?_
  refine X10_then_0 (k := ?_)
  refine X10_then_1 (k := ?_)
  refine X10_then_3 (k := ?_)
  refine s10_isUpTo (fun u3 u3b => ?_) (fun u3 => ?_)
  · refine X10_then_6 (kt := fun z => absurd z (by decide)) (kf := fun _ => ?_)
    refine X10_then_9 (k := ?_)
    refine X10_then_10 (k := ?_)
    refine X10_then_11 (k := ?_)
    refine s10_isPipe (fun u11 u11b => ?_) (fun u11 => ?_)
    · refine X10_then_14 (kt := fun _ => ?_) (kf := fun z => absurd z (by decide))
      obtain ⟨m, rfl⟩ : ∃ m : Nat, x0 = m := ⟨x0.toNat, by omega⟩
      obtain ⟨p, rfl⟩ : ∃ p : Nat, x1 = p := ⟨x1.toNat, by omega⟩
      refine X10_then_22 (k := ?_)
      refine X10_then_23 (k := ?_)
      refine X10_then_26 (k := ?_)
      refine X10_then_27 (k := ?_)
      refine X10_then_30 (k := ?_)
      refine x4_trial hx (fun I1 c1 c2 => ?_)
      refine X10_then_33 (k := ?_)
      refine X10_then_34 (k := ?_)
      refine X10_then_35 (k := ?_)
      refine x10_tryHours (by omega) hA hS c1 (fun I2 d1 d2 => ?_)
      refine X10_then_38 (k := ?_)
      refine X10_then_39 (k := ?_)
      refine X10_then_42 (k := ?_)
      refine X10_then_45 (k := ?_)
      refine X10_then_46 (k := ?_)
      rw [Int.toNat_natCast, (d1.2.2.2.2 p (by omega)).2.2.1]
      refine X10_then_47 (hq := ?_)
      refine ref _ _ (by rw [d2 61 (by decide)]; exact c2 61 (by decide)) (fun m' p' z z1 z2 z3 I3 hs => ?_) (fun z => by omega)
      have : m' = m := by omega
      subst this
      have : p' = p := by omega
      subst this
      exact hq _ _ (RR_M (RR_C h (smC_trial (fun k hk => by rw [d2 k hk]; exact c2 k hk))) hs)
    · refine X10_then_14 (kt := fun z => absurd z (by decide)) (kf := fun _ => ?_)
      refine X10_then_17 (k := ?_)
      refine X10_then_18 (k := ?_)
      refine s10_refuseBadTen ?_
      refine X10_then_21 (hq := ?_)
      refine ref _ _ (by rw [z_up_n (by decide)]) (fun m p z z1 => by omega) (fun z => ?_)
      exact RR_bad (Q := Q) h (fun I' => hq _ I')
  · refine X10_then_6 (kt := fun _ => ?_) (kf := fun z => absurd z (by decide))
    refine X10_then_17 (k := ?_)
    refine X10_then_18 (k := ?_)
    refine s10_refuseBadTen ?_
    refine X10_then_21 (hq := ?_)
    refine ref _ _ (by rw [z_up_n (by decide)]) (fun m p z z1 => by omega) (fun z => ?_)
    exact RR_bad (Q := Q) h (fun I' => hq _ I')
theorem t_left {Q : Int → Int → z_M → Prop} {x0 : Int} (h : RR I) (hq : ∀ r I', RR I' → Q r r I') : CX10_left [aR 0, aI x0] I (fun r I1 => CX11_left [aR 60, aI x0] I1 (fun r' I2 => Q r r' I2)) := by
  obtain ⟨⟨P, L, hx⟩, -⟩ := id h
  have hx : rpx I 8 (I 61) P L := hx
  have hA := rpx_A hx
  have hS := rpx_S hx
  have hC := rpx_C hx
  have hP := hA.2.2.1
  have i2 := hC.2.2.1
  have o19 := z_o (show z_cl 19 = 4 from rfl)
  have ref : ∀ (I1 : z_M) (r : Int), I1 61 = I 61 → (∀ m : Nat, x0 = m → m ≤ 72 → ∀ I2, smM I1 I2 → Q r (z_cnt (fun p => decide ((hF (I 61) P L m).2.1 p = -1)) P : Nat) I2) → (¬ (0 ≤ x0 ∧ x0 ≤ 72) → Q r (-2) (z_up I1 64 0 (i32 (I1 64 0 + 1)))) → CX11_left [aR 60, aI x0] I1 (fun r' I2 => Q r r' I2) := by
    intro I1 r e1 g1 g0
    have eP : I1 61 0 = P := by rw [e1]; exact hA.1
    refine eX11_left ?_
    refine X11_left_0 (k := ?_)
    refine X11_left_1 (k := ?_)
    refine s11_isThen (fun u1 u1b => ?_) (fun u1 => ?_)
    · refine X11_left_4 (kt := fun _ => ?_) (kf := fun z => absurd z (by decide))
      obtain ⟨m, rfl⟩ : ∃ m : Nat, x0 = m := ⟨x0.toNat, by omega⟩
      have g1 := g1 m rfl (by omega)
      refine X11_left_14 (k := ?_)
      refine X11_left_15 (k := ?_)
      refine s11_layHand hA e1 (fun I2 l1 l2 l3 => ?_)
      refine X11_left_18 (k := ?_)
      refine X11_left_19 (k := ?_)
      refine X11_left_20 (k := ?_)
      refine s11_goHours (by omega) hA hS l1 (fun I3 m1 m2 m3 => ?_)
      refine X11_left_23 (k := ?_)
      refine X11_left_24 (k := ?_)
      refine s11_inChurch hA m1 ?_
      refine X11_left_27 (k := ?_)
      refine s11_bits rfl (by omega) ?_
      refine X11_left_30 (hq := ?_)
      exact g1 I3 (smM_hand (fun k k1 k2 k3 k4 k5 => by rw [m2 k k1 k3 k4]; exact l2 k k1 k2 k3 k4 k5) (fun j hj => by rw [m3 j hj]; exact l3 j hj))
    · refine X11_left_4 (kt := fun z => absurd z (by decide)) (kf := fun _ => ?_)
      refine X11_left_7 (k := ?_)
      refine X11_left_8 (k := ?_)
      refine X11_left_10 (k := ?_)
      refine s11_bad ?_
      refine X11_left_13 (hq := ?_)
      exact g0 (by omega)
  refine eX10_left ?_
  refine X10_left_0 (k := ?_)
  refine X10_left_1 (k := ?_)
  refine X10_left_3 (k := ?_)
  refine s10_isUpTo (fun u3 u3b => ?_) (fun u3 => ?_)
  · refine X10_left_6 (kt := fun _ => ?_) (kf := fun z => absurd z (by decide))
    obtain ⟨m, rfl⟩ : ∃ m : Nat, x0 = m := ⟨x0.toNat, by omega⟩
    refine X10_left_14 (k := ?_)
    refine X10_left_15 (k := ?_)
    refine X10_left_18 (k := ?_)
    refine X10_left_19 (k := ?_)
    refine X10_left_22 (k := ?_)
    refine x4_trial hx (fun I1 c1 c2 => ?_)
    refine X10_left_25 (k := ?_)
    refine X10_left_26 (k := ?_)
    refine X10_left_27 (k := ?_)
    refine x10_tryHours (by omega) hA hS c1 (fun I2 d1 d2 => ?_)
    refine X10_left_30 (k := ?_)
    refine X10_left_31 (k := ?_)
    refine X10_left_34 (k := ?_)
    rw [d1.2.2.1]
    refine X10_left_37 (k := ?_)
    refine X10_left_38 (k := ?_)
    refine X10_left_41 (k := ?_)
    refine s4_howManyAway rfl hP d1 ?_
    have hcn : z_cnt (fun p => decide ((hF (I 61) P L m).2.1 p = -1)) P + z_cnt (fun p => !decide ((hF (I 61) P L m).2.1 p = -1)) P = P := z_cnt_not (fun p => decide ((hF (I 61) P L m).2.1 p = -1)) P
    rw [show (fun p => !decide ((pHours (I 61) P L (kA (I 61)) (tA (I 61)) (sA (I 61)) m).2.1 p = -1)) = (fun p => !decide ((hF (I 61) P L m).2.1 p = -1)) from rfl]
    refine X10_left_44 (k := ?_)
    refine X10_left_45 (hq := ?_)
    refine ref _ _ (by rw [d2 61 (by decide)]; exact c2 61 (by decide)) (fun m' z z2 I3 hs => ?_) (fun z => by omega)
    have : m' = m := by omega
    subst this
    rw [show (P : Int) - (z_cnt (fun p => !decide ((hF (I 61) P L m').2.1 p = -1)) P : Nat) = (z_cnt (fun p => decide ((hF (I 61) P L m').2.1 p = -1)) P : Nat) by omega]
    exact hq _ _ (RR_M (RR_C h (smC_trial (fun k hk => by rw [d2 k hk]; exact c2 k hk))) hs)
  · refine X10_left_6 (kt := fun z => absurd z (by decide)) (kf := fun _ => ?_)
    refine X10_left_9 (k := ?_)
    refine X10_left_10 (k := ?_)
    refine s10_refuseBad ?_
    refine X10_left_13 (hq := ?_)
    refine ref _ _ (by rw [z_up_n (by decide)]) (fun m z => by omega) (fun z => ?_)
    exact RR_bad (Q := Q) h (fun I' => hq _ I')
theorem t_of {Q : Int → Int → z_M → Prop} {x0 x1 : Int} (h : RR I) (hq : ∀ r I', RR I' → Q r r I') : CX10_of [aR 0, aI x0, aI x1] I (fun r I1 => CX11_of [aR 60, aI x0, aI x1] I1 (fun r' I2 => Q r r' I2)) := by
  obtain ⟨⟨P, L, hx⟩, -⟩ := id h
  have hx : rpx I 8 (I 61) P L := hx
  have hA := rpx_A hx
  have hS := rpx_S hx
  have hC := rpx_C hx
  have hP := hA.2.2.1
  have i2 := hC.2.2.1
  have o8 := z_o (show z_cl 8 = 4 from rfl)
  have ref : ∀ (I1 : z_M) (r : Int), I1 61 = I 61 → (∀ p w : Nat, x0 = p → x1 = w → p < P → w < 4 → ∀ I2, smM I1 I2 → Q r (I 61 (30 + 4 * p + w)) I2) → (∀ p : Nat, x0 = p → x1 = 4 → p < P → ∀ I2, smM I1 I2 → Q r (if pGo P (sA (I 61)).1 (kA (I 61)) (sA (I 61)).2.1 p = true then 1 else 0) I2) → (¬ ((0 ≤ x0 ∧ x0 < P) ∧ (0 ≤ x1 ∧ x1 ≤ 4)) → Q r (-10) (z_up I1 64 0 (i32 (I1 64 0 + 1)))) → CX11_of [aR 60, aI x0, aI x1] I1 (fun r' I2 => Q r r' I2) := by
    intro I1 r e1 g1 g4 g0
    have eP : I1 61 0 = P := by rw [e1]; exact hA.1
    refine eX11_of ?_
    refine X11_of_0 (k := ?_)
    refine X11_of_1 (k := ?_)
    refine X11_of_2 (k := ?_)
    refine s11_isPipe (by first | assumption | omega) (by omega) (fun u2 u2b => ?_) (fun u2 => ?_)
    · refine X11_of_5 (kt := fun z => absurd z (by decide)) (kf := fun _ => ?_)
      refine X11_of_8 (k := ?_)
      refine X11_of_9 (k := ?_)
      refine X11_of_10 (k := ?_)
      refine X11_of_11 (k := ?_)
      refine X11_of_14 (k := ?_)
      refine s11_in (fun u14 u14b => ?_) (fun u14 => ?_)
      · refine X11_of_17 (kt := fun _ => ?_) (kf := fun z => absurd z (by decide))
        obtain ⟨p, rfl⟩ : ∃ p : Nat, x0 = p := ⟨x0.toNat, by omega⟩
        obtain ⟨w, rfl⟩ : ∃ w : Nat, x1 = w := ⟨x1.toNat, by omega⟩
        refine X11_of_27 (k := ?_)
        refine X11_of_28 (k := ?_)
        refine s11_layHand hA e1 (fun I2 l1 l2 l3 => ?_)
        have hs := smM_hand l2 l3
        refine X11_of_31 (k := ?_)
        refine X11_of_32 (k := ?_)
        refine X11_of_33 (kt := fun k33 => ?_) (kf := fun k33 => ?_)
        · refine X11_of_45 (k := ?_)
          refine X11_of_46 (k := ?_)
          refine X11_of_47 (k := ?_)
          refine s11_goes rfl (by omega) hA hS l1 (fun z => ?_) (fun z => ?_)
          · refine X11_of_50 (kt := fun k50 => ?_) (kf := fun k50 => ?_)
            · omega
            · refine X11_of_53 (k := ?_)
              refine X11_of_54 (k := ?_)
              refine X11_of_58 (hq := ?_)
              have g4 := g4 p rfl (by omega) (by omega) I2 hs
              rw [if_pos z] at g4
              exact g4
          · refine X11_of_50 (kt := fun k50 => ?_) (kf := fun k50 => ?_)
            · refine X11_of_57 (k := ?_)
              refine X11_of_58 (hq := ?_)
              have g4 := g4 p rfl (by omega) (by omega) I2 hs
              rw [if_neg (by rw [z]; decide)] at g4
              exact g4
            · omega
        · refine X11_of_36 (k := ?_)
          refine X11_of_37 (k := ?_)
          refine X11_of_38 (k := ?_)
          refine X11_of_39 (k := ?_)
          refine s11_pipeHas rfl rfl (by omega) ?_
          rw [l1.1]
          refine X11_of_42 (k := ?_)
          refine X11_of_58 (hq := ?_)
          exact g1 p w rfl rfl (by omega) (by omega) I2 hs
      · refine X11_of_17 (kt := fun z => absurd z (by decide)) (kf := fun _ => ?_)
        refine X11_of_20 (k := ?_)
        refine X11_of_21 (k := ?_)
        refine X11_of_23 (k := ?_)
        refine s11_bad ?_
        refine X11_of_26 (hq := ?_)
        exact g0 (by omega)
    · refine X11_of_5 (kt := fun _ => ?_) (kf := fun z => absurd z (by decide))
      refine X11_of_20 (k := ?_)
      refine X11_of_21 (k := ?_)
      refine X11_of_23 (k := ?_)
      refine s11_bad ?_
      refine X11_of_26 (hq := ?_)
      exact g0 (by omega)
  refine eX10_of ?_
  refine X10_of_0 (k := ?_)
  refine X10_of_1 (k := ?_)
  refine X10_of_2 (k := ?_)
  refine s10_isPipe (fun u2 u2b => ?_) (fun u2 => ?_)
  · refine X10_of_5 (kt := fun _ => ?_) (kf := fun z => absurd z (by decide))
    obtain ⟨p, rfl⟩ : ∃ p : Nat, x0 = p := ⟨x0.toNat, by omega⟩
    have hp : p < P := by omega
    obtain ⟨c1, c2, c3, c4⟩ := hC.2.2.2.2 p hp
    have fin : ∀ (w : Nat), x1 = w → w < 4 → CX11_of [aR 60, aI p, aI x1] I (fun r' I2 => Q (I 61 (30 + 4 * p + w)) r' I2) := by
      intro w z z1
      refine ref _ _ rfl (fun p' w' q1 q2 q3 q4 I2 hs => ?_) (fun p' q1 q2 => by omega) (fun q => by omega)
      have : p' = p := by omega
      subst this
      have : w' = w := by omega
      subst this
      exact hq _ _ (RR_M h hs)
    refine X10_of_13 (k := ?_)
    refine X10_of_14 (k0 := fun k14 => ?_) (k1 := fun k14 => ?_) (k2 := fun k14 => ?_) (k3 := fun k14 => ?_) (k4 := fun k14 => ?_) (kd := fun k14 => ?_)
    · refine X10_of_48 (k := ?_)
      refine X10_of_49 (k := ?_)
      refine X10_of_52 (k := ?_)
      refine X10_of_55 (k := ?_)
      refine X10_of_56 (k := ?_)
      rw [Int.toNat_natCast, c1]
      refine X10_of_57 (hq := ?_)
      exact fin 0 k14 (by decide)
    · refine X10_of_58 (k := ?_)
      refine X10_of_59 (k := ?_)
      refine X10_of_62 (k := ?_)
      refine X10_of_65 (k := ?_)
      refine X10_of_66 (k := ?_)
      rw [Int.toNat_natCast, c2]
      refine X10_of_67 (hq := ?_)
      exact fin 1 k14 (by decide)
    · refine X10_of_68 (k := ?_)
      refine X10_of_69 (k := ?_)
      refine X10_of_72 (k := ?_)
      refine X10_of_75 (k := ?_)
      refine X10_of_76 (k := ?_)
      rw [Int.toNat_natCast, c3]
      refine X10_of_77 (hq := ?_)
      exact fin 2 k14 (by decide)
    · refine X10_of_78 (k := ?_)
      refine X10_of_79 (k := ?_)
      refine X10_of_82 (k := ?_)
      refine X10_of_85 (k := ?_)
      refine X10_of_86 (k := ?_)
      rw [Int.toNat_natCast, c4]
      refine X10_of_87 (hq := ?_)
      exact fin 3 k14 (by decide)
    · have fin4 : ∀ r, r = (if pGo P (sA (I 61)).1 (kA (I 61)) (sA (I 61)).2.1 p = true then 1 else 0 : Int) → CX11_of [aR 60, aI p, aI x1] I (fun r' I2 => Q r r' I2) := by
        intro r hr
        refine ref _ _ rfl (fun p' w' q1 q2 q3 q4 I2 hs => by omega) (fun p' q1 q2 q3 I2 hs => ?_) (fun q => by omega)
        have : p' = p := by omega
        subst this
        rw [hr]
        exact hq _ _ (RR_M h hs)
      refine X10_of_88 (k := ?_)
      refine X10_of_89 (k := ?_)
      refine X10_of_92 (k := ?_)
      refine X10_of_93 (k := ?_)
      refine X10_of_94 (k := ?_)
      refine X10_of_97 (k := ?_)
      refine s4_wouldGo rfl hp hA hS hC (fun z => ?_) (fun z => ?_)
      · refine X10_of_100 (kt := fun k100 => ?_) (kf := fun k100 => ?_)
        · omega
        · refine X10_of_103 (k := ?_)
          refine X10_of_104 (k := ?_)
          refine X10_of_108 (hq := ?_)
          exact fin4 1 (by rw [if_pos z])
      · refine X10_of_100 (kt := fun k100 => ?_) (kf := fun k100 => ?_)
        · refine X10_of_107 (k := ?_)
          refine X10_of_108 (hq := ?_)
          exact fin4 0 (by rw [if_neg (by rw [z]; decide)])
        · omega
    · refine X10_of_109 (k := ?_)
      refine X10_of_110 (k := ?_)
      refine s10_refuseBadTen ?_
      refine X10_of_113 (hq := ?_)
      refine ref _ _ (by rw [z_up_n (by decide)]) (fun m p z z1 => by omega) (fun p z => by omega) (fun z => ?_)
      exact RR_bad (Q := Q) h (fun I' => hq _ I')
  · refine X10_of_5 (kt := fun z => absurd z (by decide)) (kf := fun _ => ?_)
    refine X10_of_8 (k := ?_)
    refine X10_of_9 (k := ?_)
    refine s10_refuseBadTen ?_
    refine X10_of_12 (hq := ?_)
    refine ref _ _ (by rw [z_up_n (by decide)]) (fun m p z z1 => by omega) (fun p z => by omega) (fun z => ?_)
    exact RR_bad (Q := Q) h (fun I' => hq _ I')
end PE

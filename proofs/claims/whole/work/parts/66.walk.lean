/-! walk -/
section QH
variable {I I' : z_M} {b c : Nat} {A A' : Nat → Int} {P L : Nat}
theorem s11_walkSet {Q : Int → z_M → Prop} {s : Nat} {x1 : Int} {W : Nat → Int} (hA : wfA A P L) (hI : I 61 = A) (hW : ∀ p, p < P → A (30 + 4 * p + 2) = W p ∧ -1 ≤ W p ∧ W p < L) (hs : s < 2 ^ P) (h : ∀ v4 v5 : z_V, JX11_walk Q 91 [aR 60, aI s, aI x1, aI (pO W (Nat.testBit s) P : Nat), v4, v5] [] I) : JX11_walk Q 35 [aR 60, aI s, aI x1, aU, aU, aU] [] I := by
  have hP := hA.2.2.1
  have hL := hA.2.2.2.1
  have eP : I 61 0 = P := by rw [hI]; exact hA.1
  have h8 : 2 ^ P ≤ 2 ^ 8 := Nat.pow_le_pow_right (by decide) hP
  have h5 : 2 ^ L ≤ 2 ^ 5 := Nat.pow_le_pow_right (by decide) hL
  refine X11_walk_35 (k := ?_)
  refine X11_walk_36 (k := ?_)
  refine X11_walk_37 (k := ?_)
  refine X11_walk_38 (k := ?_)
  have := z_for P (fun i => ∀ v : z_V, JX11_walk Q 40 [aR 60, aI s, aI x1, aI (pO W (Nat.testBit s) i : Nat), aI i, v] [] I) (by
    intro v
    refine X11_walk_40 (k := ?_)
    refine X11_walk_42 (k := ?_)
    refine X11_walk_43 (k := ?_)
    refine s11_pipes ?_
    rw [eP]
    refine X11_walk_46 (kt := fun k46 => ?_) (kf := fun k46 => ?_)
    · exact h _ _
    · omega) (fun i hi ih => by
    intro v
    have hw := (hW i hi).2
    have hlt := pO_lt (s := Nat.testBit s) (fun p hp => (hW p hp).2) i (by omega)
    unfold pO at ih
    refine X11_walk_40 (k := ?_)
    refine X11_walk_42 (k := ?_)
    refine X11_walk_43 (k := ?_)
    refine s11_pipes ?_
    rw [eP]
    refine X11_walk_46 (kt := fun k46 => ?_) (kf := fun k46 => ?_)
    · omega
    · refine X11_walk_49 (k := ?_)
      refine X11_walk_50 (k := ?_)
      refine X11_walk_52 (k := ?_)
      refine X11_walk_53 (k := ?_)
      refine s11_pipeHas (n := i) (k := 2) rfl rfl (by omega) ?_
      rw [hI, (hW i hi).1]
      refine X11_walk_56 (k := ?_)
      refine X11_walk_58 (k := ?_)
      refine X11_walk_59 (k := ?_)
      refine X11_walk_60 (k := ?_)
      refine X11_walk_62 (k := ?_)
      refine X11_walk_63 (k := ?_)
      refine X11_walk_64 (k := ?_)
      rw [bit_of hs hi]
      refine X11_walk_65 (k := ?_)
      refine X11_walk_66 (kt := fun k66 => ?_) (kf := fun k66 => ?_)
      · have e : Nat.testBit s i = false := by
          cases q : Nat.testBit s i
          · rfl
          · rw [q] at k66
            exact absurd rfl k66
        refine X11_walk_82 (k := ?_)
        refine X11_walk_83 (k := ?_)
        rw [zor_0]
        refine X11_walk_84 (k := ?_)
        refine X11_walk_85 (k := ?_)
        refine X11_walk_88 (k := ?_)
        rw [e, Bool.false_and, if_neg (by decide)] at ih
        exact ih _
      · have e : Nat.testBit s i = true := by
          cases q : Nat.testBit s i
          · rw [q] at k66
            exact absurd k66 (by decide)
          · rfl
        refine X11_walk_69 (k := ?_)
        refine X11_walk_71 (k := ?_)
        refine X11_walk_72 (kt := fun k72 => ?_) (kf := fun k72 => ?_)
        · refine X11_walk_82 (k := ?_)
          refine X11_walk_83 (k := ?_)
          rw [zor_0]
          refine X11_walk_84 (k := ?_)
          refine X11_walk_85 (k := ?_)
          refine X11_walk_88 (k := ?_)
          rw [e, decide_eq_true k72] at ih
          exact ih _
        · refine X11_walk_75 (k := ?_)
          refine X11_walk_76 (k := ?_)
          refine X11_walk_78 (k := ?_)
          refine X11_walk_79 (k := ?_)
          refine X11_walk_83 (k := ?_)
          rw [zor_M]
          refine X11_walk_84 (k := ?_)
          refine X11_walk_85 (k := ?_)
          refine X11_walk_88 (k := ?_)
          rw [e, decide_eq_false k72] at ih
          exact ih _) 0 (Nat.zero_le _)
  exact this _
theorem t_walk {Q : Int → Int → z_M → Prop} {x0 x1 : Int} (h : RR I) (hq : ∀ r I', RR I' → Q r r I') : CX10_walk [aR 0, aI x0, aI x1] I (fun r I1 => CX11_walk [aR 60, aI x0, aI x1] I1 (fun r' I2 => Q r r' I2)) := by
  obtain ⟨⟨P, L, hx⟩, -⟩ := id h
  have hx : rpx I 8 (I 61) P L := hx
  have hA := rpx_A hx
  have hS := rpx_S hx
  have hC := rpx_C hx
  have hP := hA.2.2.1
  have hL := hA.2.2.2.1
  have h8 : 2 ^ P ≤ 2 ^ 8 := Nat.pow_le_pow_right (by decide) hP
  have h5 : 2 ^ L ≤ 2 ^ 5 := Nat.pow_le_pow_right (by decide) hL
  have h2 : 0 < 2 ^ P := Nat.pow_pos (by decide)
  have ref : ∀ (I1 : z_M) (r : Int), I1 61 = I 61 → (∀ s : Nat, x0 = s → s < 2 ^ P → (x1 = 0 ∨ x1 = 1) → ∀ I2, smM I1 I2 → Q r (if x1 = 0 then (wR (I 61) L (pO (wA (I 61)) (Nat.testBit s) P)).1 else (wR (I 61) L (pO (wA (I 61)) (Nat.testBit s) P)).2) I2) → (¬ ((0 ≤ x0 ∧ x0 < (2 ^ P : Nat)) ∧ (0 ≤ x1 ∧ x1 ≤ 1)) → Q r (-10) (z_up I1 64 0 (i32 (I1 64 0 + 1)))) → CX11_walk [aR 60, aI x0, aI x1] I1 (fun r' I2 => Q r r' I2) := by
    intro I1 r e1 g1 g0
    have eP : I1 61 0 = P := by rw [e1]; exact hA.1
    refine eX11_walk ?_
    refine X11_walk_0 (k := ?_)
    refine X11_walk_1 (k := ?_)
    refine X11_walk_2 (k := ?_)
    refine X11_walk_3 (k := ?_)
    refine X11_walk_4 (k := ?_)
    refine X11_walk_5 (k := ?_)
    refine s11_pipes ?_
    rw [eP]
    refine X11_walk_8 (k := ?_)
    rw [zshl_1]
    refine X11_walk_9 (k := ?_)
    refine X11_walk_10 (k := ?_)
    refine X11_walk_11 (k := ?_)
    refine X11_walk_12 (k := ?_)
    refine s11_in (fun u12 u12b => ?_) (fun u12 => ?_)
    · refine X11_walk_15 (kt := fun z => absurd z (by decide)) (kf := fun _ => ?_)
      refine X11_walk_18 (k := ?_)
      refine X11_walk_19 (k := ?_)
      refine X11_walk_20 (k := ?_)
      refine X11_walk_21 (k := ?_)
      refine X11_walk_22 (k := ?_)
      refine s11_in (fun u22 u22b => ?_) (fun u22 => ?_)
      · refine X11_walk_25 (kt := fun _ => ?_) (kf := fun z => absurd z (by decide))
        obtain ⟨s, rfl⟩ : ∃ n : Nat, x0 = n := ⟨x0.toNat, by omega⟩
        have g1 := g1 s rfl (by omega) (by omega)
        refine s11_walkSet (W := wA (I 61)) hA e1 (fun p hp => ⟨rfl, (hS p hp).2.1⟩) (by omega) (fun v4 v5 => ?_)
        have hlt := pO_lt (P := P) (L := L) (W := wA (I 61)) (s := Nat.testBit s) (fun p hp => (hS p hp).2.1) P (Nat.le_refl _)
        refine X11_walk_91 (k := ?_)
        refine X11_walk_92 (k := ?_)
        refine X11_walk_93 (k := ?_)
        refine s11_layWalk hA e1 hlt (fun I2 y1 y2 y3 y4 => ?_)
        have hs : smM I1 I2 := ⟨fun k hk => y3 k (by omega) (by omega), y4 4 (by decide) (by decide), y4 5 (by decide) (by decide), y4 16 (by decide) (by decide)⟩
        have g1 := g1 I2 hs
        refine X11_walk_96 (k := ?_)
        refine X11_walk_97 (kt := fun k97 => ?_) (kf := fun k97 => ?_)
        · rw [if_neg (by omega)] at g1
          refine X11_walk_107 (k := ?_)
          refine X11_walk_108 (k := ?_)
          rw [y2]
          refine X11_walk_111 (hq := ?_)
          exact g1
        · rw [if_pos (by omega)] at g1
          refine X11_walk_100 (k := ?_)
          refine X11_walk_101 (k := ?_)
          rw [y1]
          refine X11_walk_104 (k := ?_)
          refine X11_walk_111 (hq := ?_)
          exact g1
      · refine X11_walk_25 (kt := fun z => absurd z (by decide)) (kf := fun _ => ?_)
        refine X11_walk_28 (k := ?_)
        refine X11_walk_29 (k := ?_)
        refine X11_walk_31 (k := ?_)
        refine s11_bad ?_
        refine X11_walk_34 (hq := ?_)
        exact g0 (by omega)
    · refine X11_walk_15 (kt := fun _ => ?_) (kf := fun z => absurd z (by decide))
      refine X11_walk_28 (k := ?_)
      refine X11_walk_29 (k := ?_)
      refine X11_walk_31 (k := ?_)
      refine s11_bad ?_
      refine X11_walk_34 (hq := ?_)
      exact g0 (by omega)
  refine eX10_walk ?_
  refine X10_walk_0 (k := ?_)
  refine X10_walk_1 (kt := fun k1 => ?_) (kf := fun k1 => ?_)
  · refine X10_walk_25 (k := ?_)
    refine X10_walk_26 (k := ?_)
    refine s10_refuseBadTen ?_
    refine X10_walk_29 (hq := ?_)
    refine ref _ _ (by rw [z_up_n (by decide)]) (fun s z z1 z2 => by omega) (fun z => ?_)
    exact RR_bad (Q := Q) h (fun I' => hq _ I')
  · refine X10_walk_4 (k := ?_)
    refine X10_walk_5 (k := ?_)
    refine X10_walk_6 (k := ?_)
    refine X10_walk_7 (k := ?_)
    refine X10_walk_10 (k := ?_)
    rw [hC.2.2.1]
    refine X10_walk_13 (k := ?_)
    rw [zshl_1]
    refine X10_walk_14 (kt := fun k14 => ?_) (kf := fun k14 => ?_)
    · refine X10_walk_25 (k := ?_)
      refine X10_walk_26 (k := ?_)
      refine s10_refuseBadTen ?_
      refine X10_walk_29 (hq := ?_)
      refine ref _ _ (by rw [z_up_n (by decide)]) (fun s z z1 z2 => by omega) (fun z => ?_)
      exact RR_bad (Q := Q) h (fun I' => hq _ I')
    · refine X10_walk_17 (k := ?_)
      refine X10_walk_18 (k := ?_)
      refine X10_walk_19 (k := ?_)
      refine s10_isUpTo (fun u19 u19b => ?_) (fun u19 => ?_)
      · refine X10_walk_22 (kt := fun _ => ?_) (kf := fun z => absurd z (by decide))
        obtain ⟨s, rfl⟩ : ∃ n : Nat, x0 = n := ⟨x0.toNat, by omega⟩
        have hlt := pO_lt (P := P) (L := L) (W := wA (I 61)) (s := Nat.testBit s) (fun p hp => (hS p hp).2.1) P (Nat.le_refl _)
        refine X10_walk_30 (k := ?_)
        refine X10_walk_31 (k := ?_)
        refine X10_walk_34 (k := ?_)
        refine X10_walk_35 (k := ?_)
        refine X10_walk_38 (k := ?_)
        refine X10_walk_39 (k := ?_)
        refine X10_walk_42 (k := ?_)
        refine X10_walk_43 (k := ?_)
        refine s4_placesOf rfl hA hS (by omega) hx.1.1 ?_
        refine X10_walk_46 (k := ?_)
        refine s9_find hx hlt (fun I2 y1 y2 y3 => ?_)
        have hs : smC I I2 := ⟨fun k hk => y3 k (by omega) (by omega), by rw [y3 54 (by decide) (by decide)]⟩
        refine X10_walk_49 (k := ?_)
        refine X10_walk_50 (kt := fun k50 => ?_) (kf := fun k50 => ?_)
        · refine X10_walk_63 (k := ?_)
          refine X10_walk_64 (k := ?_)
          refine X10_walk_67 (k := ?_)
          rw [y2]
          refine X10_walk_70 (hq := ?_)
          refine ref _ _ (y3 61 (by decide) (by decide)) (fun s' z z1 z2 I3 m => ?_) (fun z => by omega)
          have : s' = s := by omega
          subst this
          rw [if_neg (by omega)]
          exact hq _ _ (RR_M (RR_C h hs) m)
        · refine X10_walk_53 (k := ?_)
          refine X10_walk_54 (k := ?_)
          refine X10_walk_57 (k := ?_)
          rw [y1]
          refine X10_walk_60 (k := ?_)
          refine X10_walk_70 (hq := ?_)
          refine ref _ _ (y3 61 (by decide) (by decide)) (fun s' z z1 z2 I3 m => ?_) (fun z => by omega)
          have : s' = s := by omega
          subst this
          rw [if_pos (by omega)]
          exact hq _ _ (RR_M (RR_C h hs) m)
      · refine X10_walk_22 (kt := fun z => absurd z (by decide)) (kf := fun _ => ?_)
        refine X10_walk_25 (k := ?_)
        refine X10_walk_26 (k := ?_)
        refine s10_refuseBadTen ?_
        refine X10_walk_29 (hq := ?_)
        refine ref _ _ (by rw [z_up_n (by decide)]) (fun s z z1 z2 => by omega) (fun z => ?_)
        exact RR_bad (Q := Q) h (fun I' => hq _ I')
end QH

/-! wish -/
section PJ
variable {I I' : z_M} {b c : Nat} {A A' : Nat → Int} {P L : Nat}
theorem stC_tn {hr : Int} {K W Y tn : Nat → Int} {x : Nat} {t : Int} (h : stC I b A P L hr K W Y tn) : stC (z_up I (b + 1) (5 * x) t) b A P L hr K W Y (zu tn x t) := by
  obtain ⟨h0, h1, h2, h3, h4⟩ := h
  refine ⟨by rw [z_up_n (by omega)]; exact h0, by rw [z_up_n (by omega)]; exact h1, by rw [z_up_n (by omega)]; exact h2, fun y hy => ?_, fun p hp => ?_⟩
  · rw [z_up_s, zu_n (show 5 * y + 1 ≠ 5 * x by omega), zu_n (show 5 * y + 2 ≠ 5 * x by omega)]
    by_cases z : y = x
    · subst z
      rw [zu_s, zu_s]
      exact ⟨rfl, (h3 y hy).2⟩
    · rw [zu_n (show 5 * y ≠ 5 * x by omega), zu_n z]
      exact h3 y hy
  · rw [z_up_n (by omega), z_up_n (by omega), z_up_n (by omega), z_up_n (by omega)]
    exact h4 p hp
theorem stM_tn {hr : Int} {K W Y tn : Nat → Int} {x : Nat} {t : Int} (h : stM I A P L hr K W Y tn) : stM (z_up I 68 x t) A P L hr K W Y (zu tn x t) := by
  obtain ⟨h0, h1, h2, h3⟩ := h
  refine ⟨by rw [z_up_n (by decide)]; exact h0, by rw [z_up_n (by decide)]; exact h1, fun p hp => by rw [z_up_n (by decide), z_up_n (by decide), z_up_n (by decide)]; exact h2 p hp, fun y hy => ?_⟩
  rw [z_up_s]
  by_cases z : y = x
  · subst z
    rw [zu_s, zu_s]
  · rw [zu_n z, zu_n z]
    exact h3 y hy
def pB (g : Nat → Nat) : Nat → Nat × Int
  | 0 => (0, -1)
  | t + 1 => if (pB g t).2 < g t then (t, (g t : Int)) else pB g t
theorem pB_r {g : Nat → Nat} (hg : ∀ t, g t ≤ 8) : ∀ t, ((pB g t).2 = -1 → t = 0) ∧ -1 ≤ (pB g t).2 ∧ (pB g t).2 ≤ 8 ∧ (pB g t).1 ≤ t
  | 0 => ⟨fun _ => rfl, by unfold pB; decide, by unfold pB; decide, by unfold pB; decide⟩
  | t + 1 => by
    have h := pB_r hg t
    have h1 := hg t
    unfold pB
    split
    · dsimp only
      omega
    · refine ⟨fun z => ?_, h.2.1, h.2.2.1, by omega⟩
      omega
def gW (A : Nat → Int) (P L m x : Nat) (t : Nat) : Nat := z_cnt (fun p => decide ((pHours A P L (kA A) (zu (tA A) x t) (sA A) m).2.1 p = -1)) P
theorem t_wish {Q : Int → Int → z_M → Prop} {x0 x1 : Int} (h : RR I) (hq : ∀ r I', RR I' → Q r r I') : CX10_wish [aR 0, aI x0, aI x1] I (fun r I1 => CX11_wish [aR 60, aI x0, aI x1] I1 (fun r' I2 => Q r r' I2)) := by
  obtain ⟨⟨P, L, hx⟩, -⟩ := id h
  have hx : rpx I 8 (I 61) P L := hx
  have hA := rpx_A hx
  have hS := rpx_S hx
  have hC := rpx_C hx
  have hP := hA.2.2.1
  have hL := hA.2.2.2.1
  have i1 := hC.2.1
  have o19 := z_o (show z_cl 19 = 4 from rfl)
  have hg8 : ∀ m x t, gW (I 61) P L m x t ≤ 8 := fun m x t => Nat.le_trans (z_cnt_le _ _) hP
  have ref : ∀ (I1 : z_M) (r : Int), I1 61 = I 61 → (∀ x m : Nat, x0 = x → x < L → x1 = m → m ≤ 72 → ∀ I2, smM I1 I2 → Q r ((pB (gW (I 61) P L m x) 12).1 : Nat) I2) → (¬ ((0 ≤ x0 ∧ x0 < L) ∧ (0 ≤ x1 ∧ x1 ≤ 72)) → Q r (-2) (z_up I1 64 0 (i32 (I1 64 0 + 1)))) → CX11_wish [aR 60, aI x0, aI x1] I1 (fun r' I2 => Q r r' I2) := by
    intro I1 r e1 g1 g0
    have eL : I1 61 1 = L := by rw [e1]; exact hA.2.1
    refine eX11_wish ?_
    refine X11_wish_0 (k := ?_)
    refine X11_wish_1 (k := ?_)
    refine X11_wish_2 (k := ?_)
    refine s11_isPlace (by first | assumption | omega) (by omega) (fun u2 u2b => ?_) (fun u2 => ?_)
    · refine X11_wish_5 (kt := fun z => absurd z (by decide)) (kf := fun _ => ?_)
      refine X11_wish_8 (k := ?_)
      refine X11_wish_9 (k := ?_)
      refine s11_isThen (fun u9 u9b => ?_) (fun u9 => ?_)
      · refine X11_wish_12 (kt := fun _ => ?_) (kf := fun z => absurd z (by decide))
        obtain ⟨x, rfl⟩ : ∃ n : Nat, x0 = n := ⟨x0.toNat, by omega⟩
        obtain ⟨m, rfl⟩ : ∃ n : Nat, x1 = n := ⟨x1.toNat, by omega⟩
        have g1 := g1 x m rfl (by omega) rfl (by omega)
        obtain ⟨G, hG⟩ : ∃ G, G = pB (gW (I 61) P L m x) := ⟨_, rfl⟩
        rw [← hG] at g1
        refine X11_wish_22 (k := ?_)
        refine X11_wish_23 (k := ?_)
        refine X11_wish_24 (k := ?_)
        refine X11_wish_25 (k := ?_)
        refine X11_wish_27 (k := ?_)
        refine X11_wish_28 (k := ?_)
        have := z_for 12 (fun i => ∀ (I3 : z_M) (v : z_V), smM I1 I3 → JX11_wish (fun r' I2 => Q r r' I2) 30 [aR 60, aI x, aI m, aI ((G i).1 : Nat), aI (G i).2, aI i, v] [] I3) (by
          intro I3 v f2
          refine X11_wish_30 (k := ?_)
          refine X11_wish_32 (k := ?_)
          refine X11_wish_34 (kt := fun k34 => ?_) (kf := fun k34 => ?_)
          · refine X11_wish_99 (k := ?_)
            refine X11_wish_100 (hq := ?_)
            exact g1 I3 f2
          · omega) (fun i hi ih => by
          intro I3 v f2
          have hr := pB_r (hg8 m x) i
          have hg := hg8 m x i
          rw [← hG] at hr
          have hGs : G (i + 1) = if (G i).2 < (gW (I 61) P L m x i : Int) then (i, (gW (I 61) P L m x i : Int)) else G i := by rw [hG, pB]
          refine X11_wish_30 (k := ?_)
          refine X11_wish_32 (k := ?_)
          refine X11_wish_34 (kt := fun k34 => ?_) (kf := fun k34 => ?_)
          · omega
          · refine X11_wish_37 (k := ?_)
            refine X11_wish_38 (k := ?_)
            refine s11_layHand hA ((f2.1 61 (by omega)).trans e1) (fun I4 l1 l2 l3 => ?_)
            refine X11_wish_41 (k := ?_)
            refine X11_wish_42 (k := ?_)
            refine X11_wish_45 (k := ?_)
            refine X11_wish_46 (k := ?_)
            refine X11_wish_48 (k := ?_)
            rw [Int.toNat_natCast]
            refine X11_wish_49 (k := ?_)
            refine X11_wish_50 (k := ?_)
            refine X11_wish_51 (k := ?_)
            refine s11_goHours (by omega) hA hS (stM_tn l1) (fun I5 m1 m2 m3 => ?_)
            refine X11_wish_54 (k := ?_)
            refine X11_wish_55 (k := ?_)
            refine s11_inChurch hA m1 ?_
            refine X11_wish_58 (k := ?_)
            refine s11_bits rfl (by omega) ?_
            rw [show z_cnt (fun p => decide ((pHours (I 61) P L (kA (I 61)) (zu (tA (I 61)) x i) (sA (I 61)) m).2.1 p = -1)) P = gW (I 61) P L m x i from rfl]
            have hs : smM I1 I5 := smM_tr f2 ⟨fun k hk => by rw [m2 k (by omega) (by omega) (by omega), z_up_n (by omega), l2 k (by omega) (by omega) (by omega) (by omega) (by omega)], by rw [m3 4 (by decide), z_up_n (by decide), l3 4 (by decide)], by rw [m3 5 (by decide), z_up_n (by decide), l3 5 (by decide)], by rw [m3 16 (by decide), z_up_n (by decide), l3 16 (by decide)]⟩
            refine X11_wish_61 (k := ?_)
            refine X11_wish_63 (k := ?_)
            refine X11_wish_65 (k := ?_)
            refine X11_wish_67 (kt := fun k67 => ?_) (kf := fun k67 => ?_)
            · refine X11_wish_75 (k := ?_)
              refine X11_wish_76 (k := ?_)
              refine X11_wish_77 (k := ?_)
              refine X11_wish_79 (k := ?_)
              refine X11_wish_81 (kt := fun k81 => ?_) (kf := fun k81 => ?_)
              · refine X11_wish_89 (k := ?_)
                refine X11_wish_91 (k := ?_)
                refine X11_wish_93 (k := ?_)
                refine X11_wish_96 (k := ?_)
                rw [if_neg (by omega)] at hGs
                rw [hGs] at ih
                exact ih I5 _ hs
              · omega
            · refine X11_wish_70 (k := ?_)
              refine X11_wish_72 (k := ?_)
              refine X11_wish_76 (k := ?_)
              refine X11_wish_77 (k := ?_)
              refine X11_wish_79 (k := ?_)
              refine X11_wish_81 (kt := fun k81 => ?_) (kf := fun k81 => ?_)
              · omega
              · refine X11_wish_84 (k := ?_)
                refine X11_wish_86 (k := ?_)
                refine X11_wish_91 (k := ?_)
                refine X11_wish_93 (k := ?_)
                refine X11_wish_96 (k := ?_)
                rw [if_pos (by omega)] at hGs
                rw [hGs] at ih
                exact ih I5 _ hs) 0 (by decide)
        have t := this I1 aU (smM_rf I1)
        rw [show ((G 0).1 : Int) = 0 by rw [hG]; rfl, show (G 0).2 = -1 by rw [hG]; rfl] at t
        exact t
      · refine X11_wish_12 (kt := fun z => absurd z (by decide)) (kf := fun _ => ?_)
        refine X11_wish_15 (k := ?_)
        refine X11_wish_16 (k := ?_)
        refine X11_wish_18 (k := ?_)
        refine s11_bad ?_
        refine X11_wish_21 (hq := ?_)
        exact g0 (by omega)
    · refine X11_wish_5 (kt := fun _ => ?_) (kf := fun z => absurd z (by decide))
      refine X11_wish_15 (k := ?_)
      refine X11_wish_16 (k := ?_)
      refine X11_wish_18 (k := ?_)
      refine s11_bad ?_
      refine X11_wish_21 (hq := ?_)
      exact g0 (by omega)
  refine eX10_wish ?_
  refine X10_wish_0 (k := ?_)
  refine X10_wish_1 (k := ?_)
  refine X10_wish_2 (k := ?_)
  refine s10_isPlace (fun u2 u2b => ?_) (fun u2 => ?_)
  · refine X10_wish_5 (kt := fun z => absurd z (by decide)) (kf := fun _ => ?_)
    refine X10_wish_8 (k := ?_)
    refine X10_wish_9 (k := ?_)
    refine X10_wish_11 (k := ?_)
    refine s10_isUpTo (fun u11 u11b => ?_) (fun u11 => ?_)
    · refine X10_wish_14 (kt := fun _ => ?_) (kf := fun z => absurd z (by decide))
      obtain ⟨x, rfl⟩ : ∃ n : Nat, x0 = n := ⟨x0.toNat, by omega⟩
      obtain ⟨m, rfl⟩ : ∃ n : Nat, x1 = n := ⟨x1.toNat, by omega⟩
      obtain ⟨G, hG⟩ : ∃ G, G = pB (gW (I 61) P L m x) := ⟨_, rfl⟩
      refine X10_wish_22 (k := ?_)
      refine X10_wish_23 (k := ?_)
      refine X10_wish_24 (k := ?_)
      refine X10_wish_26 (k := ?_)
      refine X10_wish_28 (k := ?_)
      refine X10_wish_29 (k := ?_)
      have := z_for 12 (fun i => ∀ (I3 : z_M) (v : z_V) (f : Int), (∀ k, k < 19 ∨ 24 < k → I3 k = I k) → (i = 0 → f = 9) → (0 < i → f = P - (G i).2) → JX10_wish (fun r I1 => CX11_wish [aR 60, aI x, aI m] I1 (fun r' I2 => Q r r' I2)) 31 [aR 0, aI x, aI m, aI ((G i).1 : Nat), aI f, aI i, v] [] I3) (by
        intro I3 v f f2 f3 f4
        refine X10_wish_31 (k := ?_)
        refine X10_wish_33 (k := ?_)
        refine X10_wish_35 (kt := fun k35 => ?_) (kf := fun k35 => ?_)
        · refine X10_wish_93 (k := ?_)
          refine X10_wish_94 (hq := ?_)
          refine ref _ _ (f2 61 (by decide)) (fun x' m' z z1 z2 z3 I4 hs => ?_) (fun z => by omega)
          have : x' = x := by omega
          subst this
          have : m' = m := by omega
          subst this
          rw [← hG]
          exact hq _ _ (RR_M (RR_C h (smC_trial f2)) hs)
        · omega) (fun i hi ih => by
        intro I3 v f f2 f3 f4
        have hr := pB_r (hg8 m x) i
        have hg : gW (I 61) P L m x i ≤ P := z_cnt_le _ _
        rw [← hG] at hr
        have hGs : G (i + 1) = if (G i).2 < (gW (I 61) P L m x i : Int) then (i, (gW (I 61) P L m x i : Int)) else G i := by rw [hG, pB]
        have e8 : ∀ k, k < 19 → I3 k = I k := fun k hk => f2 k (Or.inl hk)
        have hz : i = 0 → (G i).2 = -1 := fun z => by rw [z, hG]; rfl
        refine X10_wish_31 (k := ?_)
        refine X10_wish_33 (k := ?_)
        refine X10_wish_35 (kt := fun k35 => ?_) (kf := fun k35 => ?_)
        · omega
        · refine X10_wish_38 (k := ?_)
          refine X10_wish_39 (k := ?_)
          refine X10_wish_42 (k := ?_)
          refine X10_wish_43 (k := ?_)
          refine X10_wish_46 (k := ?_)
          refine x4_trial (A := I 61) (P := P) (L := L) (I := I3) ?_ (fun I4 c1 c2 => ?_)
          · obtain ⟨q1, q2, q3, q4⟩ := hx
            exact ⟨rpS_cg q1 (fun k k1 k2 k3 => e8 k (by omega)) ⟨by rw [e8 8 (by decide)], by rw [e8 8 (by decide)], by rw [e8 8 (by decide)]⟩ (fun _ _ _ _ => rfl), rpH_cg q2 (e8 _ (by decide)) (e8 _ (by decide)) (fun _ _ _ => rfl), rpR_cg q3 (by rw [e8 8 (by decide)]) (e8 _ (by decide)) rfl (fun _ _ _ => rfl) (Nat.le_refl _) (Nat.le_refl _), rpU_cg q4 (e8 _ (by decide)) (e8 _ (by decide)) rfl (fun _ _ => rfl)⟩
          refine X10_wish_49 (k := ?_)
          refine X10_wish_50 (k := ?_)
          refine X10_wish_53 (k := ?_)
          refine X10_wish_54 (k := ?_)
          refine X10_wish_56 (k := ?_)
          refine eX4_wishTone ?_
          refine X4_wishTone_0 (k := ?_)
          refine X4_wishTone_1 (k := ?_)
          refine X4_wishTone_4 (k := ?_)
          refine X4_wishTone_5 (k := ?_)
          refine X4_wishTone_6 (k := ?_)
          refine X4_wishTone_7 (k := ?_)
          refine X4_wishTone_8 (k := ?_)
          refine X4_wishTone_9 (hq := ?_)
          rw [show ((x : Int) * 5).toNat = 5 * x by omega]
          refine X10_wish_59 (k := ?_)
          refine X10_wish_60 (k := ?_)
          refine X10_wish_61 (k := ?_)
          refine x10_tryHours (by omega) hA hS (stC_tn c1) (fun I5 d1 d2 => ?_)
          refine X10_wish_64 (k := ?_)
          refine X10_wish_65 (k := ?_)
          refine X10_wish_68 (k := ?_)
          refine s4_howManyAway rfl hP d1 ?_
          have hcn : gW (I 61) P L m x i + z_cnt (fun p => !decide ((pHours (I 61) P L (kA (I 61)) (zu (tA (I 61)) x i) (sA (I 61)) m).2.1 p = -1)) P = P := z_cnt_not (fun p => decide ((pHours (I 61) P L (kA (I 61)) (zu (tA (I 61)) x i) (sA (I 61)) m).2.1 p = -1)) P
          have ef : ∀ k, k < 19 ∨ 24 < k → I5 k = I k := fun k hk => by
            rw [d2 k hk, z_up_n (by omega), c2 k hk]
            exact f2 k hk
          generalize z_cnt (fun p => !decide ((pHours (I 61) P L (kA (I 61)) (zu (tA (I 61)) x i) (sA (I 61)) m).2.1 p = -1)) P = gone at hcn ⊢
          refine X10_wish_71 (k := ?_)
          refine X10_wish_73 (k := ?_)
          refine X10_wish_75 (k := ?_)
          refine X10_wish_77 (kt := fun k77 => ?_) (kf := fun k77 => ?_)
          · refine X10_wish_87 (k := ?_)
            refine X10_wish_90 (k := ?_)
            rw [if_neg (by omega)] at hGs
            rw [hGs] at ih
            exact ih I5 _ f ef (fun z => by omega) (fun _ => f4 (by omega))
          · refine X10_wish_80 (k := ?_)
            refine X10_wish_82 (k := ?_)
            refine X10_wish_84 (k := ?_)
            refine X10_wish_86 (k := ?_)
            refine X10_wish_87 (k := ?_)
            refine X10_wish_90 (k := ?_)
            rw [if_pos (by omega)] at hGs
            rw [hGs] at ih
            exact ih I5 _ _ ef (fun z => by omega) (fun _ => by dsimp only; omega)) 0 (by decide)
      have t := this I aU 9 (fun _ _ => rfl) (fun _ => rfl) (fun z => absurd z (Nat.lt_irrefl 0))
      rw [show ((G 0).1 : Int) = 0 by rw [hG]; rfl] at t
      exact t
    · refine X10_wish_14 (kt := fun z => absurd z (by decide)) (kf := fun _ => ?_)
      refine X10_wish_17 (k := ?_)
      refine X10_wish_18 (k := ?_)
      refine s10_refuseBad ?_
      refine X10_wish_21 (hq := ?_)
      refine ref _ _ (by rw [z_up_n (by decide)]) (fun x m z z1 => by omega) (fun z => ?_)
      exact RR_bad (Q := Q) h (fun I' => hq _ I')
  · refine X10_wish_5 (kt := fun _ => ?_) (kf := fun z => absurd z (by decide))
    refine X10_wish_17 (k := ?_)
    refine X10_wish_18 (k := ?_)
    refine s10_refuseBad ?_
    refine X10_wish_21 (hq := ?_)
    refine ref _ _ (by rw [z_up_n (by decide)]) (fun x m z z1 => by omega) (fun z => ?_)
    exact RR_bad (Q := Q) h (fun I' => hq _ I')
end PJ

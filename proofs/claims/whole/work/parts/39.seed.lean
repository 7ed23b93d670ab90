/-! hours, wish -/
section PI
variable {I I' : z_M} {b c : Nat} {A A' : Nat → Int} {P L : Nat}
def sdN (x : Int) : Int := (x * 1103515245 + 12345) % 2147483648
def sdP (P : Nat) (x : Int) : Nat := (sdN x / 65536 % (P : Int)).toNat
def pSeed (A : Nat → Int) (P L : Nat) (K tn : Nat → Int) (x : Int) (s : Int × (Nat → Int) × (Nat → Int)) : Nat → Int × Int × (Nat → Int) × (Nat → Int)
  | 0 => (x, s)
  | n + 1 => (sdN (pSeed A P L K tn x s n).1, pHour A P L K tn ((pSeed A P L K tn x s n).2.1, zu (pSeed A P L K tn x s n).2.2.1 (sdP P (pSeed A P L K tn x s n).1) (-1), zu (pSeed A P L K tn x s n).2.2.2 (sdP P (pSeed A P L K tn x s n).1) 0))
theorem sdN_r (x : Int) : 0 ≤ sdN x ∧ sdN x < 2147483648 := by unfold sdN; omega
theorem wfS_home {K W Y : Nat → Int} (h : wfS P L K W Y) (p : Nat) : wfS P L K (zu W p (-1)) (zu Y p 0) := by
  intro q hq
  have := h q hq
  by_cases z : q = p
  · subst z
    rw [zu_s, zu_s]
    exact ⟨this.1, by omega, fun _ => rfl⟩
  · rw [zu_n z, zu_n z]
    exact this
theorem wfS_seed {K tn : Nat → Int} {x : Int} {s : Int × (Nat → Int) × (Nat → Int)} (h : wfS P L K s.2.1 s.2.2) : ∀ n, wfS P L K (pSeed A P L K tn x s n).2.2.1 (pSeed A P L K tn x s n).2.2.2
  | 0 => h
  | n + 1 => wfS_hours (s := ((pSeed A P L K tn x s n).2.1, zu (pSeed A P L K tn x s n).2.2.1 (sdP P (pSeed A P L K tn x s n).1) (-1), zu (pSeed A P L K tn x s n).2.2.2 (sdP P (pSeed A P L K tn x s n).1) 0)) (wfS_home (wfS_seed h n) _) 1
theorem pSeed_r {K tn : Nat → Int} {x : Int} {s : Int × (Nat → Int) × (Nat → Int)} (hx : 0 ≤ x ∧ x < 2147483648) : ∀ n, 0 ≤ (pSeed A P L K tn x s n).1 ∧ (pSeed A P L K tn x s n).1 < 2147483648
  | 0 => hx
  | n + 1 => sdN_r _
theorem t_hours {Q : Int → Int → z_M → Prop} {x0 x1 : Int} (h : RR I) (hq : ∀ r I', RR I' → Q r r I') : CX10_hours [aR 0, aI x0, aI x1] I (fun r I1 => CX11_hours [aR 60, aI x0, aI x1] I1 (fun r' I2 => Q r r' I2)) := by
  obtain ⟨⟨P, L, hx⟩, -⟩ := id h
  have hx : rpx I 8 (I 61) P L := hx
  have hA := rpx_A hx
  have hS := rpx_S hx
  have hC := rpx_C hx
  have hP := hA.2.2.1
  have i2 := hC.2.2.1
  have o19 := z_o (show z_cl 19 = 4 from rfl)
  obtain ⟨G, hG⟩ : ∃ G, G = pSeed (I 61) P L (kA (I 61)) (tA (I 61)) x0 (sA (I 61)) := ⟨_, rfl⟩
  have ref : ∀ (I1 : z_M) (r : Int), I1 61 = I 61 → (∀ n : Nat, (0 ≤ x0 ∧ x0 ≤ 999999) → x1 = n → n ≤ 60 → 0 < P → ∀ I2, smM I1 I2 → Q r (z_cnt (fun p => !decide ((G n).2.2.1 p = -1)) P : Nat) I2) → ((0 ≤ x0 ∧ x0 ≤ 999999) → (0 ≤ x1 ∧ x1 ≤ 60) → P = 0 → Q r (-1) I1) → (¬ ((0 ≤ x0 ∧ x0 ≤ 999999) ∧ (0 ≤ x1 ∧ x1 ≤ 60)) → Q r (-2) (z_up I1 64 0 (i32 (I1 64 0 + 1)))) → CX11_hours [aR 60, aI x0, aI x1] I1 (fun r' I2 => Q r r' I2) := by
    intro I1 r e1 g1 g2 g0
    refine eX11_hours ?_
    refine X11_hours_0 (k := ?_)
    refine X11_hours_1 (k := ?_)
    refine X11_hours_2 (k := ?_)
    refine X11_hours_3 (k := ?_)
    refine X11_hours_6 (k := ?_)
    refine s11_in (fun u6 u6b => ?_) (fun u6 => ?_)
    · refine X11_hours_9 (kt := fun z => absurd z (by decide)) (kf := fun _ => ?_)
      refine X11_hours_12 (k := ?_)
      refine X11_hours_13 (k := ?_)
      refine X11_hours_14 (k := ?_)
      refine X11_hours_15 (k := ?_)
      refine X11_hours_18 (k := ?_)
      refine s11_in (fun u18 u18b => ?_) (fun u18 => ?_)
      · refine X11_hours_21 (kt := fun _ => ?_) (kf := fun z => absurd z (by decide))
        obtain ⟨n, rfl⟩ : ∃ n : Nat, x1 = n := ⟨x1.toNat, by omega⟩
        have g1 := g1 n (by omega) rfl (by omega)
        have g2 := g2 (by omega) (by omega)
        refine X11_hours_31 (k := ?_)
        refine X11_hours_32 (k := ?_)
        refine s11_pipes ?_
        rw [e1, hA.1]
        refine X11_hours_35 (kt := fun k35 => ?_) (kf := fun k35 => ?_)
        · have hP0 : 0 < P := by omega
          refine X11_hours_40 (k := ?_)
          refine X11_hours_41 (k := ?_)
          refine X11_hours_42 (k := ?_)
          refine X11_hours_43 (k := ?_)
          refine X11_hours_44 (k := ?_)
          refine s11_layHand hA e1 (fun I2 l1 l2 l3 => ?_)
          refine X11_hours_47 (k := ?_)
          refine X11_hours_48 (k := ?_)
          rw [show aL x0 = aL (G 0).1 from congrArg aL (by rw [hG]; rfl)]
          refine z_for n (fun i => ∀ (I3 : z_M) (v : z_V), stM I3 (I 61) P L (G i).2.1 (kA (I 61)) (G i).2.2.1 (G i).2.2.2 (tA (I 61)) → smM I1 I3 → JX11_hours (fun r' I2 => Q r r' I2) 50 [aR 60, aI x0, aI n, aL (G i).1, aU, aI i, v] [] I3) ?_ (fun i hi ih => ?_) 0 (Nat.zero_le _) I2 aU (by rw [hG]; exact l1) (smM_hand l2 l3)
          · intro I3 v f1 f2
            refine X11_hours_50 (k := ?_)
            refine X11_hours_52 (k := ?_)
            refine X11_hours_53 (kt := fun k53 => ?_) (kf := fun k53 => ?_)
            · refine X11_hours_110 (k := ?_)
              refine X11_hours_111 (k := ?_)
              refine s11_pipes ?_
              rw [f1.1, hA.1]
              refine X11_hours_114 (k := ?_)
              refine X11_hours_115 (k := ?_)
              refine s11_inChurch hA f1 ?_
              refine X11_hours_118 (k := ?_)
              refine s11_bits rfl (by omega) ?_
              have hcn : z_cnt (fun p => decide ((G n).2.2.1 p = -1)) P + z_cnt (fun p => !decide ((G n).2.2.1 p = -1)) P = P := z_cnt_not (fun p => decide ((G n).2.2.1 p = -1)) P
              refine X11_hours_121 (k := ?_)
              refine X11_hours_122 (hq := ?_)
              rw [show (P : Int) - (z_cnt (fun p => decide ((G n).2.2.1 p = -1)) P : Nat) = (z_cnt (fun p => !decide ((G n).2.2.1 p = -1)) P : Nat) by omega]
              exact g1 hP0 I3 f2
            · omega
          · intro I3 v f1 f2
            have hg : 0 ≤ (G i).1 ∧ (G i).1 < 2147483648 := by rw [hG]; exact pSeed_r (by omega) i
            have hgS : wfS P L (kA (I 61)) (G i).2.2.1 (G i).2.2.2 := by rw [hG]; exact wfS_seed hS i
            have hsd := sdN_r (G i).1
            have hq0 := Int.emod_nonneg (sdN (G i).1 / 65536) (show (P : Int) ≠ 0 by omega)
            have hq1 := Int.emod_lt_of_pos (sdN (G i).1 / 65536) (show (0 : Int) < P by omega)
            refine X11_hours_50 (k := ?_)
            refine X11_hours_52 (k := ?_)
            refine X11_hours_53 (kt := fun k53 => ?_) (kf := fun k53 => ?_)
            · omega
            · refine X11_hours_56 (k := ?_)
              refine X11_hours_57 (k := ?_)
              refine X11_hours_60 (k := ?_)
              refine X11_hours_61 (k := ?_)
              refine X11_hours_64 (k := ?_)
              refine X11_hours_65 (k := ?_)
              refine X11_hours_68 (k := ?_)
              rw [show ((G i).1 * 1103515245 + 12345) % 2147483648 = sdN (G i).1 from rfl]
              refine X11_hours_69 (k := ?_)
              refine X11_hours_70 (k := ?_)
              refine X11_hours_71 (k := ?_)
              refine X11_hours_74 (k := ?_)
              refine X11_hours_75 (k := ?_)
              refine X11_hours_76 (k := ?_)
              refine s11_pipes ?_
              rw [f1.1, hA.1]
              refine X11_hours_79 (k := ?_)
              refine X11_hours_80 (k := ?_)
              refine X11_hours_81 (k := ?_)
              refine X11_hours_82 (k := ?_)
              refine X11_hours_84 (k := ?_)
              refine X11_hours_85 (k := ?_)
              refine X11_hours_88 (k := ?_)
              refine X11_hours_90 (k := ?_)
              refine X11_hours_91 (k := ?_)
              refine X11_hours_92 (k := ?_)
              refine X11_hours_93 (k := ?_)
              refine X11_hours_96 (k := ?_)
              refine X11_hours_98 (k := ?_)
              refine X11_hours_99 (k := ?_)
              refine X11_hours_100 (k := ?_)
              rw [show (sdN (G i).1 / 65536 % (P : Int)).toNat = sdP P (G i).1 from rfl]
              refine X11_hours_101 (k := ?_)
              refine s11_goHour hA (wfS_home hgS (sdP P (G i).1)) (stM_y (stM_w f1 _ _) _ _) (fun I4 m1 m2 m3 => ?_)
              rw [show aL (sdN (G i).1) = aL (G (i + 1)).1 from congrArg aL (by rw [hG]; rfl)]
              refine X11_hours_104 (k := ?_)
              refine X11_hours_107 (k := ?_)
              refine ih I4 _ ?_ (smM_tr f2 ⟨fun k hk => by rw [m2 k (by omega) (by omega) (by omega), z_up_n (by omega), z_up_n (by omega)], by rw [m3 4 (by decide), z_up_n (by decide), z_up_n (by decide)], by rw [m3 5 (by decide), z_up_n (by decide), z_up_n (by decide)], by rw [m3 16 (by decide), z_up_n (by decide), z_up_n (by decide)]⟩)
              rw [hG] at m1 ⊢
              exact m1
        · refine X11_hours_38 (k := ?_)
          refine X11_hours_39 (hq := ?_)
          exact g2 (by omega)
      · refine X11_hours_21 (kt := fun z => absurd z (by decide)) (kf := fun _ => ?_)
        refine X11_hours_24 (k := ?_)
        refine X11_hours_25 (k := ?_)
        refine X11_hours_27 (k := ?_)
        refine s11_bad ?_
        refine X11_hours_30 (hq := ?_)
        exact g0 (by omega)
    · refine X11_hours_9 (kt := fun _ => ?_) (kf := fun z => absurd z (by decide))
      refine X11_hours_24 (k := ?_)
      refine X11_hours_25 (k := ?_)
      refine X11_hours_27 (k := ?_)
      refine s11_bad ?_
      refine X11_hours_30 (hq := ?_)
      exact g0 (by omega)
  refine eX10_hours ?_
  refine X10_hours_0 (k := ?_)
  refine X10_hours_1 (k := ?_)
  refine X10_hours_4 (k := ?_)
  refine s10_isUpTo (fun u4 u4b => ?_) (fun u4 => ?_)
  · refine X10_hours_7 (kt := fun z => absurd z (by decide)) (kf := fun _ => ?_)
    refine X10_hours_10 (k := ?_)
    refine X10_hours_11 (k := ?_)
    refine X10_hours_13 (k := ?_)
    refine s10_isUpTo (fun u13 u13b => ?_) (fun u13 => ?_)
    · refine X10_hours_16 (kt := fun _ => ?_) (kf := fun z => absurd z (by decide))
      obtain ⟨n, rfl⟩ : ∃ n : Nat, x1 = n := ⟨x1.toNat, by omega⟩
      refine X10_hours_24 (k := ?_)
      refine X10_hours_25 (k := ?_)
      refine X10_hours_28 (k := ?_)
      rw [i2]
      refine X10_hours_31 (kt := fun k31 => ?_) (kf := fun k31 => ?_)
      · have hP0 : 0 < P := by omega
        refine X10_hours_36 (k := ?_)
        refine X10_hours_37 (k := ?_)
        refine X10_hours_40 (k := ?_)
        refine X10_hours_41 (k := ?_)
        refine X10_hours_44 (k := ?_)
        refine x4_trial hx (fun I1 c1 c2 => ?_)
        refine X10_hours_47 (k := ?_)
        refine X10_hours_48 (k := ?_)
        refine X10_hours_49 (k := ?_)
        refine X10_hours_50 (k := ?_)
        refine X10_hours_51 (k := ?_)
        rw [show aL x0 = aL (G 0).1 from congrArg aL (by rw [hG]; rfl)]
        refine z_for n (fun i => ∀ I3, stC I3 19 (I 61) P L (G i).2.1 (kA (I 61)) (G i).2.2.1 (G i).2.2.2 (tA (I 61)) → (∀ k, k < 19 ∨ 24 < k → I3 k = I k) → JX10_hours (fun r I1 => CX11_hours [aR 60, aI x0, aI n] I1 (fun r' I2 => Q r r' I2)) 53 [aR 0, aI x0, aI n, aL (G i).1, aU, aI i] [] I3) ?_ (fun i hi ih => ?_) 0 (Nat.zero_le _) I1 (by rw [hG]; exact c1) c2
        · intro I3 f1 f2
          refine X10_hours_53 (k := ?_)
          refine X10_hours_55 (k := ?_)
          refine X10_hours_56 (kt := fun k56 => ?_) (kf := fun k56 => ?_)
          · refine X10_hours_112 (k := ?_)
            refine X10_hours_113 (k := ?_)
            refine X10_hours_116 (k := ?_)
            refine s4_howManyAway rfl hP f1 ?_
            refine X10_hours_119 (hq := ?_)
            refine ref _ _ (f2 61 (by decide)) (fun n' z z1 z2 z3 I4 hs => ?_) (fun z z1 z2 => by omega) (fun z => by omega)
            have : n' = n := by omega
            subst this
            exact hq _ _ (RR_M (RR_C h (smC_trial f2)) hs)
          · omega
        · intro I3 f1 f2
          have hg : 0 ≤ (G i).1 ∧ (G i).1 < 2147483648 := by rw [hG]; exact pSeed_r (by omega) i
          have hgS : wfS P L (kA (I 61)) (G i).2.2.1 (G i).2.2.2 := by rw [hG]; exact wfS_seed hS i
          have hsd := sdN_r (G i).1
          have hq0 := Int.emod_nonneg (sdN (G i).1 / 65536) (show (P : Int) ≠ 0 by omega)
          have hq1 := Int.emod_lt_of_pos (sdN (G i).1 / 65536) (show (0 : Int) < P by omega)
          refine X10_hours_53 (k := ?_)
          refine X10_hours_55 (k := ?_)
          refine X10_hours_56 (kt := fun k56 => ?_) (kf := fun k56 => ?_)
          · omega
          · refine X10_hours_59 (k := ?_)
            refine X10_hours_60 (k := ?_)
            refine X10_hours_63 (k := ?_)
            refine X10_hours_64 (k := ?_)
            refine X10_hours_67 (k := ?_)
            refine X10_hours_68 (k := ?_)
            refine X10_hours_71 (k := ?_)
            rw [show ((G i).1 * 1103515245 + 12345) % 2147483648 = sdN (G i).1 from rfl]
            refine X10_hours_72 (k := ?_)
            refine X10_hours_73 (k := ?_)
            refine X10_hours_74 (k := ?_)
            refine X10_hours_77 (k := ?_)
            refine X10_hours_78 (k := ?_)
            refine X10_hours_81 (k := ?_)
            refine X10_hours_82 (k := ?_)
            refine X10_hours_83 (k := ?_)
            refine X10_hours_86 (k := ?_)
            rw [f2 8 (by decide), i2]
            refine X10_hours_89 (k := ?_)
            refine X10_hours_90 (k := ?_)
            refine X10_hours_91 (k := ?_)
            rw [show (sdN (G i).1 / 65536 % (P : Int)) = (sdP P (G i).1 : Int) by unfold sdP; omega]
            refine X10_hours_92 (k := ?_)
            refine s4_bringHome rfl (by unfold sdP; omega) ?_
            refine X10_hours_95 (k := ?_)
            refine X10_hours_96 (k := ?_)
            refine X10_hours_99 (k := ?_)
            refine X10_hours_100 (k := ?_)
            refine X10_hours_103 (k := ?_)
            refine s4_letHourGoBy rfl hA (wfS_home hgS (sdP P (G i).1)) (stC_y (stC_w f1 _ _) _ _) (fun I4 m1 m2 m3 => ?_)
            rw [show aL (sdN (G i).1) = aL (G (i + 1)).1 from congrArg aL (by rw [hG]; rfl)]
            refine X10_hours_106 (k := ?_)
            refine X10_hours_109 (k := ?_)
            refine ih I4 ?_ (fun k hk => by rw [m2 k (by omega) (by omega) (by omega), z_up_n (by omega), z_up_n (by omega)]; exact f2 k hk)
            rw [hG] at m1 ⊢
            exact m1
      · refine X10_hours_34 (k := ?_)
        refine X10_hours_35 (hq := ?_)
        refine ref _ _ rfl (fun n' z z1 z2 z3 => by omega) (fun z z1 z2 => ?_) (fun z => by omega)
        exact hq _ _ h
    · refine X10_hours_16 (kt := fun z => absurd z (by decide)) (kf := fun _ => ?_)
      refine X10_hours_19 (k := ?_)
      refine X10_hours_20 (k := ?_)
      refine s10_refuseBad ?_
      refine X10_hours_23 (hq := ?_)
      refine ref _ _ (by rw [z_up_n (by decide)]) (fun n z z1 => by omega) (fun z z1 => by omega) (fun z => ?_)
      exact RR_bad (Q := Q) h (fun I' => hq _ I')
  · refine X10_hours_7 (kt := fun _ => ?_) (kf := fun z => absurd z (by decide))
    refine X10_hours_19 (k := ?_)
    refine X10_hours_20 (k := ?_)
    refine s10_refuseBad ?_
    refine X10_hours_23 (hq := ?_)
    refine ref _ _ (by rw [z_up_n (by decide)]) (fun n z z1 => by omega) (fun z z1 => by omega) (fun z => ?_)
    exact RR_bad (Q := Q) h (fun I' => hq _ I')
end PI

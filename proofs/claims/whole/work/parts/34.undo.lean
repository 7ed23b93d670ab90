/-! undo -/
section PD
variable {I I' : z_M} {b c : Nat} {A A' : Nat → Int} {P L : Nat}
theorem rpS_lay {s : Int × (Nat → Int) × (Nat → Int)} {P' : Nat} (hP' : P ≤ P' ∧ P' ≤ 8) (h : rpS I b A P L) (hS : wfS P L (kA A) s.2.1 s.2.2) (hI : stC I' b A P L s.1 (kA A) s.2.1 s.2.2 (tA A)) (e1 : I' (b + 1) = I (b + 1)) : rpS I' b (pLay A P' s) P L := by
  obtain ⟨-, s2, ⟨a0, a1, a2, a3, a4, a5⟩, -⟩ := h
  obtain ⟨j0, j1, j2, j3, j4⟩ := hI
  refine ⟨⟨by rw [pLay_2]; exact j0, j1, j2, fun x hx => ?_, fun p hp => ?_⟩, fun x hx => ?_, ⟨by rw [pLay_n (by decide) (by omega)]; exact a0, by rw [pLay_n (by decide) (by omega)]; exact a1, a2, a3, fun x hx => ?_, fun p hp => ?_⟩, fun p hp => ?_⟩
  · dsimp only
    rw [pLay_n (by omega) (by omega), pLay_n (by omega) (by omega), pLay_n (by omega) (by omega)]
    exact j3 x hx
  · dsimp only
    rw [pLay_n (by omega) (by omega), pLay_n (by omega) (by omega), pLay_w (by omega), pLay_y (by omega)]
    exact j4 p hp
  · rw [pLay_n (by omega) (by omega), pLay_n (by omega) (by omega), e1]
    exact s2 x hx
  · rw [pLay_n (by omega) (by omega), pLay_n (by omega) (by omega), pLay_n (by omega) (by omega), pLay_n (by omega) (by omega), pLay_n (by omega) (by omega)]
    exact a4 x hx
  · rw [pLay_n (by omega) (by omega), pLay_n (by omega) (by omega)]
    exact a5 p hp
  · dsimp only
    rw [pLay_n (by omega) (by omega), pLay_w (by omega), pLay_y (by omega)]
    exact hS p hp
def sU (A : Nat → Int) (u : Nat) : Int × (Nat → Int) × (Nat → Int) := (A (113 + 17 * u), fun p => A (113 + 17 * u + 1 + p), fun p => A (113 + 17 * u + 9 + p))
def pUndo (A : Nat → Int) (u : Nat) : Nat → Int := zu (pLay A 8 (sU A u)) 4 u
theorem x5_giveBack {Q : Int → z_M → Prop} (hb : z_cl b = 4) {U : Nat} (hx : rpx I b A P L) (hU : A 4 = U) (h0 : U = 0 → Q 0 I) (h1 : 0 < U → ∀ I', rpx I' b (pUndo A (U - 1)) P L → (∀ k, k ≠ b → k ≠ b + 4 → k ≠ b + 5 → k ≠ b + 9 → I' k = I k) → Q 1 I') : CX5_giveBack [aR (b + 9), aR b] I Q := by
  obtain ⟨o1, o2, o3, o4, o5, o6, o7, o8, o9, o10, n1, n2, n3, n4, n5, n6, n7, n8, n10⟩ := z_o hb
  have o10' : z_cl (b + 9 + 1) = 20 := o10
  have n10' : z_n (b + 9 + 1) = 136 := n10
  obtain ⟨hS, hH, hR, o, U0, u1, u2, u3, u4, u5, u6⟩ := id hx
  have : U0 = U := by omega
  subst this
  refine eX5_giveBack ?_
  refine X5_giveBack_0 (k := ?_)
  refine X5_giveBack_1 (k := ?_)
  rw [u5]
  refine X5_giveBack_4 (kt := fun k4 => ?_) (kf := fun k4 => ?_)
  · refine X5_giveBack_9 (k := ?_)
    refine X5_giveBack_10 (k := ?_)
    refine X5_giveBack_11 (k := ?_)
    rw [u5]
    refine X5_giveBack_14 (k := ?_)
    refine X5_giveBack_15 (k := ?_)
    refine X5_giveBack_16 (k := ?_)
    refine X5_giveBack_19 (k := ?_)
    refine X5_giveBack_20 (k := ?_)
    (try simp (disch := omega) only [z_up_n, z_up_s, zu_s, zu_n, Int.toNat_natCast])
    rw [u3]
    refine X5_giveBack_23 (k := ?_)
    refine X5_giveBack_24 (k := ?_)
    (try simp (disch := omega) only [z_up_n, z_up_s, zu_s, zu_n, Int.toNat_natCast])
    refine X5_giveBack_27 (k := ?_)
    refine X5_giveBack_28 (k := ?_)
    refine X5_giveBack_30 (k := ?_)
    obtain ⟨m, hm⟩ : ∃ m, m = (o + (U0 - 1)) % 8 := ⟨_, rfl⟩
    have hm8 : m < 8 := by omega
    rw [show ((o : Int) + ((U0 : Int) - 1)).tmod 8 = (m : Int) by rw [Int.tmod_eq_emod_of_nonneg (by omega)]; omega]
    refine X5_giveBack_31 (k := ?_)
    refine X5_giveBack_33 (k := ?_)
    refine X5_giveBack_34 (k := ?_)
    refine X5_giveBack_35 (k := ?_)
    refine X5_giveBack_36 (k := ?_)
    refine X5_giveBack_37 (k := ?_)
    refine X5_giveBack_40 (k := ?_)
    refine X5_giveBack_41 (k := ?_)
    rw [show ((m : Int) * 17).toNat = 17 * m by omega]
    refine X5_giveBack_42 (k := ?_)
    refine X5_giveBack_45 (k := ?_)
    refine X5_giveBack_46 (k := ?_)
    refine X5_giveBack_49 (k := ?_)
    refine X5_giveBack_50 (k := ?_)
    refine X5_giveBack_51 (k := ?_)
    refine X5_giveBack_52 (k := ?_)
    refine X5_giveBack_53 (k := ?_)
    refine X5_giveBack_56 (k := ?_)
    refine X5_giveBack_57 (k := ?_)
    refine X5_giveBack_59 (k := ?_)
    refine X5_giveBack_62 (k := ?_)
    refine X5_giveBack_63 (k := ?_)
    refine X5_giveBack_66 (k := ?_)
    refine X5_giveBack_67 (k := ?_)
    refine X5_giveBack_68 (k := ?_)
    refine X5_giveBack_69 (k := ?_)
    refine X5_giveBack_71 (k := ?_)
    refine X5_giveBack_72 (k := ?_)
    refine X5_giveBack_73 (k := ?_)
    refine X5_giveBack_76 (k := ?_)
    refine X5_giveBack_77 (k := ?_)
    refine X5_giveBack_79 (k := ?_)
    refine X5_giveBack_82 (k := ?_)
    refine X5_giveBack_83 (hq := ?_)
    rw [show ((m : Int) * 17 + 1).toNat = 17 * m + 1 by omega, show ((m : Int) * 17 + 1 + 8).toNat = 17 * m + 9 by omega, show (8 : Int).toNat = 8 from rfl, show (0 : Int).toNat = 0 from rfl]
    obtain ⟨v1, v2⟩ := u6 (U0 - 1) (by omega)
    rw [← hm] at v1 v2
    have e0 : ∀ j, j ≠ 0 → z_cp (z_cp (z_up (z_up I (b + 9) 0 (↑U0 - 1)) b 0 (z_up I (b + 9) 0 (↑U0 - 1) (b + 9 + 1) (17 * m))) (b + 9 + 1) (b + 4) (17 * m + 1) 0 8) (b + 9 + 1) (b + 5) (17 * m + 9) 0 8 b j = I b j := fun j hj => by
      rw [z_cp_n (by omega), z_cp_n (by omega), z_up_s, zu_n hj, z_up_n (by omega)]
    have e00 : z_cp (z_cp (z_up (z_up I (b + 9) 0 (↑U0 - 1)) b 0 (z_up I (b + 9) 0 (↑U0 - 1) (b + 9 + 1) (17 * m))) (b + 9 + 1) (b + 4) (17 * m + 1) 0 8) (b + 9 + 1) (b + 5) (17 * m + 9) 0 8 b 0 = I (b + 10) (17 * m) := by
      rw [z_cp_n (by omega), z_cp_n (by omega), z_up_s, zu_s, z_up_n (by omega)]
    have e4 : ∀ p, p < 8 → z_cp (z_cp (z_up (z_up I (b + 9) 0 (↑U0 - 1)) b 0 (z_up I (b + 9) 0 (↑U0 - 1) (b + 9 + 1) (17 * m))) (b + 9 + 1) (b + 4) (17 * m + 1) 0 8) (b + 9 + 1) (b + 5) (17 * m + 9) 0 8 (b + 4) p = I (b + 10) (17 * m + 1 + p) := fun p hp => by
      rw [z_cp_n (by omega), z_cp_s (by omega) (by omega), z_up_n (by omega), z_up_n (by omega)]
      rfl
    have e5 : ∀ p, p < 8 → z_cp (z_cp (z_up (z_up I (b + 9) 0 (↑U0 - 1)) b 0 (z_up I (b + 9) 0 (↑U0 - 1) (b + 9 + 1) (17 * m))) (b + 9 + 1) (b + 4) (17 * m + 1) 0 8) (b + 9 + 1) (b + 5) (17 * m + 9) 0 8 (b + 5) p = I (b + 10) (17 * m + 9 + p) := fun p hp => by
      rw [z_cp_s (by omega) (by omega), z_cp_n (by omega), z_up_n (by omega), z_up_n (by omega)]
      rfl
    have e9 : z_cp (z_cp (z_up (z_up I (b + 9) 0 (↑U0 - 1)) b 0 (z_up I (b + 9) 0 (↑U0 - 1) (b + 9 + 1) (17 * m))) (b + 9 + 1) (b + 4) (17 * m + 1) 0 8) (b + 9 + 1) (b + 5) (17 * m + 9) 0 8 (b + 9) = zu (I (b + 9)) 0 (↑U0 - 1) := by
      rw [z_cp_n (by omega), z_cp_n (by omega), z_up_n (by omega), z_up_s]
    have ef : ∀ k, k ≠ b → k ≠ b + 4 → k ≠ b + 5 → k ≠ b + 9 → z_cp (z_cp (z_up (z_up I (b + 9) 0 (↑U0 - 1)) b 0 (z_up I (b + 9) 0 (↑U0 - 1) (b + 9 + 1) (17 * m))) (b + 9 + 1) (b + 4) (17 * m + 1) 0 8) (b + 9 + 1) (b + 5) (17 * m + 9) 0 8 k = I k := fun k k1 k2 k3 k4 => by
      rw [z_cp_n k3, z_cp_n k2, z_up_n k1, z_up_n k4]
    generalize z_cp (z_cp (z_up (z_up I (b + 9) 0 (↑U0 - 1)) b 0 (z_up I (b + 9) 0 (↑U0 - 1) (b + 9 + 1) (17 * m))) (b + 9 + 1) (b + 4) (17 * m + 1) 0 8) (b + 9 + 1) (b + 5) (17 * m + 9) 0 8 = I9 at e0 e00 e4 e5 e9 ef ⊢
    have hP := hS.2.2.1.2.2.1
    have hC := hS.1
    have hS1 : rpS I9 b (pLay A 8 (sU A (U0 - 1))) P L := by
      refine rpS_lay ⟨hP, Nat.le_refl 8⟩ hS (fun p hp => ?_) ⟨by rw [e00]; exact v1, by rw [e0 1 (by decide)]; exact hC.2.1, by rw [e0 2 (by decide)]; exact hC.2.2.1, fun x hx => by rw [ef (b + 1) (by omega) (by omega) (by omega) (by omega)]; exact hC.2.2.2.1 x hx, fun p hp => ?_⟩ (ef (b + 1) (by omega) (by omega) (by omega) (by omega))
      · obtain ⟨-, -, w3, w4⟩ := v2 p hp
        exact ⟨(hS.2.2.2 p hp).1, w3, w4⟩
      · obtain ⟨w1, w2, -⟩ := v2 p hp
        obtain ⟨c1, c2, -⟩ := hC.2.2.2.2 p hp
        rw [ef (b + 2) (by omega) (by omega) (by omega) (by omega), ef (b + 3) (by omega) (by omega) (by omega) (by omega), e4 p (by omega), e5 p (by omega), w1, w2]
        exact ⟨c1, c2, rfl, rfl⟩
    have eN : ∀ j, (j < 30 ∨ 62 ≤ j) → j ≠ 2 → j ≠ 4 → pUndo A (U0 - 1) j = A j := fun j j1 j2 j4 => by
      unfold pUndo
      rw [zu_n j4, pLay_n j2 (by omega)]
    refine h1 (by omega) I9 ⟨rpS_cg hS1 (fun _ _ _ _ => rfl) ⟨rfl, rfl, rfl⟩ (fun j j1 j2 j3 => by unfold pUndo; rw [zu_n j3]), rpH_cg hH (ef _ (by omega) (by omega) (by omega) (by omega)) (ef _ (by omega) (by omega) (by omega) (by omega)) (fun j j1 j2 => eN j (by omega) (by omega) (by omega)), rpR_cg hR (e0 3 (by decide)) (ef _ (by omega) (by omega) (by omega) (by omega)) (eN 3 (by omega) (by decide) (by decide)) (fun j j1 j2 => eN j (by omega) (by omega) (by omega)) (Nat.le_refl _) (Nat.le_refl _), o, U0 - 1, u1, by omega, by rw [e9, zu_n (by decide)]; exact u3, by unfold pUndo; rw [zu_s], by rw [e9, zu_s]; omega, fun u hu => ?_⟩ ef
    obtain ⟨t1, t2⟩ := u6 u (by omega)
    rw [ef (b + 10) (by omega) (by omega) (by omega) (by omega), eN _ (by omega) (by omega) (by omega)]
    refine ⟨t1, fun p hp => ?_⟩
    rw [eN _ (by omega) (by omega) (by omega), eN _ (by omega) (by omega) (by omega)]
    exact t2 p hp
  · refine X5_giveBack_7 (k := ?_)
    refine X5_giveBack_8 (hq := ?_)
    exact h0 (by omega)
theorem t_undo {Q : Int → Int → z_M → Prop} (h : RR I) (hq : ∀ r I', RR I' → Q r r I') : CX10_undo [aR 0] I (fun r I1 => CX11_undo [aR 60] I1 (fun r' I2 => Q r r' I2)) := by
  obtain ⟨⟨P, L, hx⟩, -⟩ := id h
  have hx : rpx I 8 (I 61) P L := hx
  have hB := rpx_B hx
  obtain ⟨U, U1, U2⟩ := hB.2.2
  have ref : ∀ (I1 : z_M) (r : Int), I1 61 = I 61 → (0 < U → ∀ I2, I2 61 = pUndo (I 61) (U - 1) → (∀ k, k ≠ 61 → I2 k = I1 k) → Q r (I 61 (113 + 17 * (U - 1))) I2) → (U = 0 → Q r (-3) (z_up I1 64 1 (i32 (I1 64 1 + 1)))) → CX11_undo [aR 60] I1 (fun r' I2 => Q r r' I2) := by
    intro I1 r e1 g1 g0
    refine eX11_undo ?_
    refine X11_undo_0 (k := ?_)
    refine X11_undo_1 (k := ?_)
    refine X11_undo_4 (k := ?_)
    refine X11_undo_5 (k := ?_)
    rw [e1, show (4 : Int).toNat = 4 from rfl, U2]
    refine X11_undo_6 (kt := fun k6 => ?_) (kf := fun k6 => ?_)
    · have g1 := g1 (by omega)
      obtain ⟨u, hu⟩ : ∃ u, u = U - 1 := ⟨_, rfl⟩
      rw [← hu] at g1
      refine X11_undo_14 (k := ?_)
      refine X11_undo_15 (k := ?_)
      refine X11_undo_18 (k := ?_)
      refine X11_undo_19 (k := ?_)
      refine X11_undo_20 (k := ?_)
      rw [e1, show (4 : Int).toNat = 4 from rfl, U2, show (U : Int) = (u : Int) + 1 by omega]
      refine X11_undo_21 (k := ?_)
      refine X11_undo_22 (k := ?_)
      refine X11_undo_23 (k := ?_)
      refine X11_undo_24 (k := ?_)
      refine X11_undo_26 (k := ?_)
      refine X11_undo_28 (k := ?_)
      refine X11_undo_29 (k := ?_)
      refine X11_undo_32 (k := ?_)
      refine X11_undo_33 (k := ?_)
      (try simp (disch := omega) only [z_up_n, z_up_s, zu_s, zu_n, Int.toNat_natCast])
      rw [show (4 : Int).toNat = 4 from rfl]
      (try simp (disch := omega) only [z_up_n, z_up_s, zu_s, zu_n, Int.toNat_natCast])
      rw [show (u : Int) + 1 - 1 = u by omega]
      refine X11_undo_34 (k := ?_)
      refine X11_undo_35 (k := ?_)
      refine X11_undo_36 (k := ?_)
      refine X11_undo_37 (k := ?_)
      refine X11_undo_38 (k := ?_)
      refine X11_undo_41 (k := ?_)
      refine X11_undo_42 (k := ?_)
      refine X11_undo_43 (k := ?_)
      refine X11_undo_46 (k := ?_)
      refine X11_undo_47 (k := ?_)
      rw [show (113 + 17 * (u : Int)).toNat = 113 + 17 * u by omega, z_up_s, zu_n (by omega)]
      refine X11_undo_48 (k := ?_)
      refine X11_undo_49 (k := ?_)
      refine X11_undo_50 (k := ?_)
      rw [show (2 : Int).toNat = 2 from rfl]
      refine z_for 8 (fun i => ∀ I2, I2 61 = zu (pLay (I 61) i (sU (I 61) u)) 4 u → (∀ k, k ≠ 61 → I2 k = I1 k) → JX11_undo (fun r' I2 => Q r r' I2) 51 [aR 60, aI (113 + 17 * (u : Int)), aI i] [] I2) ?_ (fun i hi ih => ?_) 0 (by decide) _ ?_ (fun k hk => by rw [z_up_n hk, z_up_n hk])
      · intro I2 f1 f2
        refine X11_undo_51 (k := ?_)
        refine X11_undo_52 (k := ?_)
        refine X11_undo_54 (kt := fun k54 => ?_) (kf := fun k54 => ?_)
        · refine X11_undo_110 (k := ?_)
          refine X11_undo_111 (k := ?_)
          refine X11_undo_114 (k := ?_)
          refine X11_undo_115 (k := ?_)
          rw [f1, show (2 : Int).toNat = 2 from rfl, zu_n (by decide), pLay_2]
          refine X11_undo_116 (hq := ?_)
          exact g1 I2 f1 f2
        · omega
      · intro I2 f1 f2
        refine X11_undo_51 (k := ?_)
        refine X11_undo_52 (k := ?_)
        refine X11_undo_54 (kt := fun k54 => ?_) (kf := fun k54 => ?_)
        · omega
        · refine X11_undo_57 (k := ?_)
          refine X11_undo_58 (k := ?_)
          refine X11_undo_61 (k := ?_)
          refine X11_undo_63 (k := ?_)
          refine X11_undo_64 (k := ?_)
          refine X11_undo_65 (k := ?_)
          refine X11_undo_66 (k := ?_)
          refine X11_undo_67 (k := ?_)
          refine X11_undo_68 (k := ?_)
          refine X11_undo_69 (k := ?_)
          refine X11_undo_70 (k := ?_)
          refine X11_undo_73 (k := ?_)
          refine X11_undo_74 (k := ?_)
          refine X11_undo_75 (k := ?_)
          refine X11_undo_76 (k := ?_)
          refine X11_undo_77 (k := ?_)
          refine X11_undo_78 (k := ?_)
          rw [f1, show (113 + 17 * (u : Int) + 1 + i).toNat = 113 + 17 * u + 1 + i by omega, zu_n (by omega), pLay_n (by omega) (by omega)]
          refine X11_undo_79 (k := ?_)
          refine X11_undo_80 (k := ?_)
          refine X11_undo_81 (k := ?_)
          refine X11_undo_84 (k := ?_)
          refine X11_undo_86 (k := ?_)
          refine X11_undo_87 (k := ?_)
          refine X11_undo_88 (k := ?_)
          refine X11_undo_89 (k := ?_)
          refine X11_undo_90 (k := ?_)
          refine X11_undo_91 (k := ?_)
          refine X11_undo_92 (k := ?_)
          refine X11_undo_93 (k := ?_)
          refine X11_undo_96 (k := ?_)
          refine X11_undo_97 (k := ?_)
          refine X11_undo_99 (k := ?_)
          refine X11_undo_100 (k := ?_)
          refine X11_undo_101 (k := ?_)
          refine X11_undo_102 (k := ?_)
          rw [show (30 + 4 * (i : Int) + 2).toNat = 30 + 4 * i + 2 by omega, show (113 + 17 * (u : Int) + 9 + i).toNat = 113 + 17 * u + 9 + i by omega, z_up_s, zu_n (by omega), f1, zu_n (by omega), pLay_n (by omega) (by omega)]
          refine X11_undo_103 (k := ?_)
          refine X11_undo_104 (k := ?_)
          refine X11_undo_107 (k := ?_)
          rw [show (30 + 4 * (i : Int) + 3).toNat = 30 + 4 * i + 3 by omega]
          refine ih _ ?_ (fun k hk => by rw [z_up_n hk, z_up_n hk]; exact f2 k hk)
          rw [z_up_s, z_up_s, f1]
          funext j
          unfold zu pLay sU
          dsimp only
          by_cases h1 : j = 30 + 4 * i + 3
          · rw [if_pos h1, if_neg (by omega), if_neg (by omega), if_neg (by omega), if_pos (by omega)]
            exact congrArg _ (by omega)
          · rw [if_neg h1]
            by_cases h2 : j = 30 + 4 * i + 2
            · rw [if_pos h2, if_neg (by omega), if_neg (by omega), if_pos (by omega)]
              exact congrArg _ (by omega)
            · rw [if_neg h2]
              exact z_ite Iff.rfl (fun _ => rfl) (fun _ => z_ite Iff.rfl (fun _ => rfl) (fun _ => z_ite (by omega) (fun _ => rfl) (fun _ => z_ite (by omega) (fun _ => rfl) (fun _ => rfl))))
      · rw [z_up_s, z_up_s, e1]
        funext j
        unfold zu pLay sU
        dsimp only
        by_cases h1 : j = 2
        · rw [if_pos h1, if_neg (by omega), if_pos h1]
        · rw [if_neg h1]
          by_cases h2 : j = 4
          · rw [if_pos h2, if_pos h2]
          · rw [if_neg h2, if_neg h2, if_neg h1, if_neg (by omega), if_neg (by omega)]
    · refine X11_undo_9 (k := ?_)
      refine X11_undo_10 (k := ?_)
      refine s11_no ?_
      refine X11_undo_13 (hq := ?_)
      exact g0 (by omega)
  refine eX10_undo ?_
  refine X10_undo_0 (k := ?_)
  refine X10_undo_1 (k := ?_)
  refine X10_undo_4 (k := ?_)
  refine X10_undo_7 (k := ?_)
  refine X10_undo_8 (k := ?_)
  refine X10_undo_11 (k := ?_)
  refine x5_giveBack (A := I 61) rfl hx U2 (fun z => ?_) (fun z I1 hx1 ef => ?_)
  · refine X10_undo_14 (kt := fun k14 => ?_) (kf := fun k14 => ?_)
    · omega
    · refine X10_undo_17 (k := ?_)
      refine X10_undo_18 (k := ?_)
      refine s10_refuseNo ?_
      refine X10_undo_21 (hq := ?_)
      refine ref _ _ (by rw [z_up_n (by decide)]) (fun z1 => by omega) (fun z1 => ?_)
      exact RR_no (Q := Q) h (fun I' => hq _ I')
  · refine X10_undo_14 (kt := fun k14 => ?_) (kf := fun k14 => ?_)
    · have hC := rpx_C hx1
      have hr : I1 8 0 = I 61 (113 + 17 * (U - 1)) := by
        rw [hC.1]
        unfold sA pUndo
        dsimp only
        rw [zu_n (by decide), pLay_2]
        rfl
      refine X10_undo_22 (k := ?_)
      refine X10_undo_23 (k := ?_)
      refine X10_undo_26 (k := ?_)
      rw [hr]
      refine X10_undo_29 (hq := ?_)
      refine ref _ _ (ef 61 (by decide) (by decide) (by decide) (by decide)) (fun z1 I2 f1 f2 => ?_) (fun z1 => by omega)
      have er : ∀ k, k ≠ 8 → k ≠ 12 → k ≠ 13 → k ≠ 17 → k ≠ 61 → I2 k = I k := fun k k1 k2 k3 k4 k5 => by
        rw [f2 k k5]
        exact ef k k1 k2 k3 k4
      refine hq _ _ (RR_now h ?_ (fun k hk => er k (by omega) (by omega) (by omega) (by omega) (by omega)) (by rw [er 54 (by decide) (by decide) (by decide) (by decide) (by decide)]) (by rw [er 60 (by decide) (by decide) (by decide) (by decide) (by decide)]) (by rw [er 60 (by decide) (by decide) (by decide) (by decide) (by decide)]) (by rw [er 60 (by decide) (by decide) (by decide) (by decide) (by decide)]))
      rw [f1]
      exact rp_cg (rpx_rp hx1) (fun k k1 k2 => f2 k (by omega))
    · omega
end PD

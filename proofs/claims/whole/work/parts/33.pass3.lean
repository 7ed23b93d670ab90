/-! pass, fetch, undo -/
section PC
variable {I I' : z_M} {b c : Nat} {A A' : Nat → Int} {P L : Nat}
def wfB (A : Nat → Int) (P L : Nat) : Prop := wfA A P L ∧ wfS P L (kA A) (wA A) (yA A) ∧ ∃ U : Nat, U ≤ 8 ∧ A 4 = U
theorem rpx_B (h : rpx I b A P L) : wfB A P L := by
  refine ⟨rpx_A h, rpx_S h, ?_⟩
  obtain ⟨-, -, -, o, U, u1, u2, u3, u4, -⟩ := h
  exact ⟨U, u2, u4⟩
theorem wfA_cg (h : wfA A P L) (e : ∀ j, j < 62 → (j < 30 ∨ (j - 30) % 4 < 2) → j ≠ 2 → j ≠ 3 → j ≠ 4 → A' j = A j) : wfA A' P L := by
  obtain ⟨a0, a1, a2, a3, a4, a5⟩ := h
  refine ⟨by rw [e 0 (by decide) (by decide) (by decide) (by decide) (by decide)]; exact a0, by rw [e 1 (by decide) (by decide) (by decide) (by decide) (by decide)]; exact a1, a2, a3, fun x hx => ?_, fun p hp => ?_⟩
  · rw [e (5 + 5 * x) (by omega) (by omega) (by omega) (by omega) (by omega), e (5 + 5 * x + 1) (by omega) (by omega) (by omega) (by omega) (by omega), e (5 + 5 * x + 2) (by omega) (by omega) (by omega) (by omega) (by omega), e (5 + 5 * x + 3) (by omega) (by omega) (by omega) (by omega) (by omega), e (5 + 5 * x + 4) (by omega) (by omega) (by omega) (by omega) (by omega)]
    exact a4 x hx
  · rw [e (30 + 4 * p) (by omega) (by omega) (by omega) (by omega) (by omega), e (30 + 4 * p + 1) (by omega) (by omega) (by omega) (by omega) (by omega)]
    exact a5 p hp
theorem wfB_keep (h : wfB A P L) : wfB (pKeep A) P L := by
  obtain ⟨h1, h2, U, u1, u2⟩ := h
  have e : ∀ j, j < 113 → j ≠ 4 → pKeep A j = A j := fun j j1 j2 => pKeep_lo (by omega) j1 j2
  have hP := h1.2.2.1
  refine ⟨wfA_cg h1 (fun j j1 _ _ _ j4 => e j (by omega) j4), fun p hp => ?_, ?_⟩
  · unfold kA wA yA
    rw [e _ (by omega) (by omega), e _ (by omega) (by omega), e _ (by omega) (by omega)]
    exact h2 p hp
  · by_cases z : U = 8
    · refine ⟨8, by decide, ?_⟩
      unfold pKeep pMom
      rw [if_pos (by omega), if_neg (by omega), if_neg (by omega), if_neg (by omega), if_pos rfl]
      rfl
    · refine ⟨U + 1, by omega, ?_⟩
      unfold pKeep pMom
      rw [if_neg (by omega), if_neg (by omega), if_neg (by omega), if_neg (by omega), if_pos rfl]
      omega
theorem wfB_lay {s : Int × (Nat → Int) × (Nat → Int)} (h : wfB A P L) (hS : wfS P L (kA A) s.2.1 s.2.2) : wfB (pLay A P s) P L := by
  obtain ⟨h1, h2, U, u1, u2⟩ := h
  refine ⟨wfA_cg h1 (fun j _ j1 j2 _ _ => pLay_n j2 (by omega)), fun p hp => ?_, U, u1, by rw [pLay_n (by decide) (by omega)]; exact u2⟩
  unfold kA wA yA
  rw [pLay_n (by omega) (by omega), pLay_w hp, pLay_y hp]
  exact hS p hp
theorem wfB_next (h : wfB A P L) : wfB (pNext A P L) P L := wfB_lay h (wfS_hours (s := sA A) h.2.1 1)
theorem wfB_pass (h : wfB A P L) : ∀ n, wfB (pPass A P L n) P L
  | 0 => h
  | n + 1 => wfB_next (wfB_keep (wfB_pass h n))
theorem t_pass {Q : Int → Int → z_M → Prop} {x0 : Int} (h : RR I) (hq : ∀ r I', RR I' → Q r r I') : CX10_pass [aR 0, aI x0] I (fun r I1 => CX11_pass [aR 60, aI x0] I1 (fun r' I2 => Q r r' I2)) := by
  obtain ⟨⟨P, L, hx⟩, -⟩ := id h
  have hx : rpx I 8 (I 61) P L := hx
  have hB := rpx_B hx
  have hP := hB.1.2.2.1
  have ref : ∀ (I1 : z_M) (r : Int) (A : Nat → Int), wfB A P L → I1 61 = A → (∀ n : Nat, x0 = n → 1 ≤ n → n ≤ 48 → ∀ I2, I2 61 = pPass A P L n → (∀ k, k ≠ 60 → k ≠ 61 → (k < 65 ∨ 68 < k) → I2 k = I1 k) → (∀ j, j ≠ 6 → I2 60 j = I1 60 j) → Q r (z_cnt (fun p => decide (wA (pPass A P L n) p = -1)) P : Nat) I2) → (¬ (1 ≤ x0 ∧ x0 ≤ 48) → Q r (-2) (z_up I1 64 0 (i32 (I1 64 0 + 1)))) → CX11_pass [aR 60, aI x0] I1 (fun r' I2 => Q r r' I2) := by
    intro I1 r A hB e1 g1 g0
    refine eX11_pass ?_
    refine X11_pass_0 (k := ?_)
    refine X11_pass_1 (k := ?_)
    refine X11_pass_2 (k := ?_)
    refine X11_pass_3 (k := ?_)
    refine X11_pass_6 (k := ?_)
    refine s11_in (fun u6 u6b => ?_) (fun u6 => ?_)
    · refine X11_pass_9 (kt := fun _ => ?_) (kf := fun z => absurd z (by decide))
      obtain ⟨n, rfl⟩ : ∃ n : Nat, x0 = n := ⟨x0.toNat, by omega⟩
      have g1 := g1 n rfl (by omega) (by omega)
      refine X11_pass_19 (k := ?_)
      refine X11_pass_20 (k := ?_)
      refine z_for n (fun i => ∀ I2, I2 61 = pPass A P L i → (0 < i → ∀ p, p < P → I2 66 p = wA (pPass A P L i) p) → (∀ k, k ≠ 60 → k ≠ 61 → (k < 65 ∨ 68 < k) → I2 k = I1 k) → (∀ j, j ≠ 6 → I2 60 j = I1 60 j) → JX11_pass (fun r' I2 => Q r r' I2) 21 [aR 60, aI n, aI i] [] I2) ?_ (fun i hi ih => ?_) 0 (Nat.zero_le _) _ e1 (fun z => absurd z (Nat.lt_irrefl 0)) (fun _ _ _ _ => rfl) (fun _ _ => rfl)
      · intro I2 f1 f2 f3 f4
        have f2 := f2 (by omega)
        refine X11_pass_21 (k := ?_)
        refine X11_pass_22 (k := ?_)
        refine X11_pass_23 (kt := fun k23 => ?_) (kf := fun k23 => ?_)
        · refine X11_pass_48 (k := ?_)
          refine X11_pass_49 (k := ?_)
          refine s11_inChurch (hr := I2 60 6) (K := I2 65) (W := I2 66) (Y := I2 67) (tn := I2 68) (wfB_pass hB n).1 ⟨f1, rfl, fun p _ => ⟨rfl, rfl, rfl⟩, fun _ _ => rfl⟩ ?_
          refine X11_pass_52 (k := ?_)
          refine s11_bits rfl (by omega) ?_
          refine X11_pass_55 (hq := ?_)
          rw [z_cnt_c (d := fun p => decide (wA (pPass A P L n) p = -1)) P (fun p hp => by rw [f2 p hp])]
          exact g1 I2 f1 f3 f4
        · omega
      · intro I2 f1 f2 f3 f4
        have hBi := wfB_pass hB i
        have hBk := wfB_keep hBi
        obtain ⟨U, u1, u2⟩ := hBi.2.2
        refine X11_pass_21 (k := ?_)
        refine X11_pass_22 (k := ?_)
        refine X11_pass_23 (kt := fun k23 => ?_) (kf := fun k23 => ?_)
        · omega
        · refine X11_pass_26 (k := ?_)
          refine X11_pass_27 (k := ?_)
          refine s11_keep f1 u2 u1 (fun I3 k1 k2 => ?_)
          refine X11_pass_30 (k := ?_)
          refine X11_pass_31 (k := ?_)
          refine s11_layHand hBk.1 k1 (fun I4 l1 l2 l3 => ?_)
          refine X11_pass_34 (k := ?_)
          refine X11_pass_35 (k := ?_)
          refine s11_goHour hBk.1 hBk.2.1 l1 (fun I5 m1 m2 m3 => ?_)
          refine X11_pass_38 (k := ?_)
          refine X11_pass_39 (k := ?_)
          refine s11_layNow hBk.1 m1 (fun I6 n1 n2 => ?_)
          refine X11_pass_42 (k := ?_)
          refine X11_pass_45 (k := ?_)
          refine ih I6 n1 (fun _ p hp => ?_) (fun k z1 z2 z3 => ?_) (fun j hj => ?_)
          · rw [n2 66 (by decide), (m1.2.2.1 p hp).2.1]
            exact (pLay_w hp).symm
          · rw [n2 k z2, m2 k z1 (by omega) (by omega), l2 k z1 (by omega) (by omega) (by omega) (by omega), k2 k z2]
            exact f3 k z1 z2 z3
          · rw [n2 60 (by decide), m3 j hj, l3 j hj, k2 60 (by decide)]
            exact f4 j hj
    · refine X11_pass_9 (kt := fun z => absurd z (by decide)) (kf := fun _ => ?_)
      refine X11_pass_12 (k := ?_)
      refine X11_pass_13 (k := ?_)
      refine X11_pass_15 (k := ?_)
      refine s11_bad ?_
      refine X11_pass_18 (hq := ?_)
      exact g0 (by omega)
  refine eX10_pass ?_
  refine X10_pass_0 (k := ?_)
  refine X10_pass_1 (k := ?_)
  refine X10_pass_2 (kt := fun k2 => ?_) (kf := fun k2 => ?_)
  · refine X10_pass_11 (k := ?_)
    refine X10_pass_12 (k := ?_)
    refine s10_refuseBad ?_
    refine X10_pass_15 (hq := ?_)
    refine ref _ _ (I 61) hB (by rw [z_up_n (by decide)]) (fun n z => by omega) (fun z => ?_)
    exact RR_bad (Q := Q) h (fun I' => hq _ I')
  · refine X10_pass_5 (k := ?_)
    refine X10_pass_6 (k := ?_)
    refine X10_pass_8 (kt := fun k8 => ?_) (kf := fun k8 => ?_)
    · obtain ⟨n, rfl⟩ : ∃ n : Nat, x0 = n := ⟨x0.toNat, by omega⟩
      refine X10_pass_16 (k := ?_)
      refine X10_pass_17 (k := ?_)
      refine z_for n (fun i => ∀ I1, rpx I1 8 (pPass (I 61) P L i) P L → (∀ k, k ≠ 8 → k ≠ 12 → k ≠ 13 → k ≠ 17 → k ≠ 18 → I1 k = I k) → JX10_pass (fun r I1 => CX11_pass [aR 60, aI n] I1 (fun r' I2 => Q r r' I2)) 18 [aR 0, aI n, aI i] [] I1) ?_ (fun i hi ih => ?_) 0 (Nat.zero_le _) _ hx (fun _ _ _ _ _ _ => rfl)
      · intro I1 hx1 ef
        have hBn := rpx_B hx1
        refine X10_pass_18 (k := ?_)
        refine X10_pass_19 (k := ?_)
        refine X10_pass_20 (kt := fun k20 => ?_) (kf := fun k20 => ?_)
        · have hC := rpx_C hx1
          refine X10_pass_54 (k := ?_)
          refine X10_pass_55 (k := ?_)
          refine X10_pass_58 (k := ?_)
          rw [hC.2.2.1]
          refine X10_pass_61 (k := ?_)
          refine X10_pass_62 (k := ?_)
          refine X10_pass_65 (k := ?_)
          refine s4_howManyAway rfl hP hC ?_
          have hcn := z_cnt_not (fun p => decide ((sA (pPass (I 61) P L n)).2.1 p = -1)) P
          have hcl := z_cnt_le (fun p => !decide ((sA (pPass (I 61) P L n)).2.1 p = -1)) P
          refine X10_pass_68 (k := ?_)
          refine X10_pass_69 (hq := ?_)
          refine ref _ _ (I 61) hB (ef 61 (by decide) (by decide) (by decide) (by decide) (by decide)) (fun m z z1 z2 I2 f1 f2 f3 => ?_) (fun z => by omega)
          have : m = n := by omega
          subst this
          rw [show (P : Int) - (z_cnt (fun p => !decide ((sA (pPass (I 61) P L m)).2.1 p = -1)) P : Nat) = (z_cnt (fun p => decide (wA (pPass (I 61) P L m) p = -1)) P : Nat) by
            have hcn : z_cnt (fun p => decide (wA (pPass (I 61) P L m) p = -1)) P + z_cnt (fun p => !decide (wA (pPass (I 61) P L m) p = -1)) P = P := hcn
            have e2 : (fun p => !decide ((sA (pPass (I 61) P L m)).2.1 p = -1)) = (fun p => !decide (wA (pPass (I 61) P L m) p = -1)) := rfl
            rw [e2]
            omega]
          refine hq _ _ (RR_now h ?_ (fun k hk => by rw [f2 k (by omega) (by omega) (by omega)]; exact ef k (by omega) (by omega) (by omega) (by omega) (by omega)) (by rw [f2 54 (by decide) (by decide) (by decide), ef 54 (by decide) (by decide) (by decide) (by decide) (by decide)]) (by rw [f3 4 (by decide), ef 60 (by decide) (by decide) (by decide) (by decide) (by decide)]) (by rw [f3 5 (by decide), ef 60 (by decide) (by decide) (by decide) (by decide) (by decide)]) (by rw [f3 16 (by decide), ef 60 (by decide) (by decide) (by decide) (by decide) (by decide)]))
          rw [f1]
          exact rp_cg (rpx_rp hx1) (fun k k1 k2 => f2 k (by omega) (by omega) (by omega))
        · omega
      · intro I1 hx1 ef
        refine X10_pass_18 (k := ?_)
        refine X10_pass_19 (k := ?_)
        refine X10_pass_20 (kt := fun k20 => ?_) (kf := fun k20 => ?_)
        · omega
        · refine X10_pass_23 (k := ?_)
          refine X10_pass_24 (k := ?_)
          refine X10_pass_27 (k := ?_)
          refine X10_pass_30 (k := ?_)
          refine X10_pass_31 (k := ?_)
          refine X10_pass_34 (k := ?_)
          refine x5_keep rfl hx1 (fun I2 hx2 e2 => ?_)
          refine X10_pass_37 (k := ?_)
          refine X10_pass_38 (k := ?_)
          refine X10_pass_41 (k := ?_)
          refine X10_pass_42 (k := ?_)
          refine X10_pass_45 (k := ?_)
          refine x4_hour rfl hx2 (fun I3 hx3 e3 => ?_)
          refine X10_pass_48 (k := ?_)
          refine X10_pass_51 (k := ?_)
          refine ih I3 hx3 (fun k k1 k2 k3 k4 k5 => ?_)
          rw [e3 k k1 k2 k3, e2 k k4 k5]
          exact ef k k1 k2 k3 k4 k5
    · refine X10_pass_11 (k := ?_)
      refine X10_pass_12 (k := ?_)
      refine s10_refuseBad ?_
      refine X10_pass_15 (hq := ?_)
      refine ref _ _ (I 61) hB (by rw [z_up_n (by decide)]) (fun n z => by omega) (fun z => ?_)
      exact RR_bad (Q := Q) h (fun I' => hq _ I')
theorem rpx_home {p : Nat} (h : rpx I b A P L) (hp : p < P) (e4 : I' (b + 4) = zu (I (b + 4)) p (-1)) (e5 : I' (b + 5) = zu (I (b + 5)) p 0) (ef : ∀ k, b ≤ k → k ≤ b + 10 → k ≠ b + 4 → k ≠ b + 5 → I' k = I k) (eA : ∀ j, A' j = if j = 30 + 4 * p + 2 then -1 else if j = 30 + 4 * p + 3 then 0 else A j) : rpx I' b A' P L := by
  obtain ⟨⟨⟨i0, i1, i2, i3, i4⟩, s2, hA, hS⟩, hH, hR, hU⟩ := h
  obtain ⟨a0, a1, a2, a3, a4, a5⟩ := id hA
  have e : ∀ j, (j < 30 ∨ 62 ≤ j ∨ (j - 30) % 4 < 2) → A' j = A j := fun j hj => by rw [eA, if_neg (by omega), if_neg (by omega)]
  have eo : ∀ q, q ≠ p → A' (30 + 4 * q + 2) = A (30 + 4 * q + 2) ∧ A' (30 + 4 * q + 3) = A (30 + 4 * q + 3) := fun q hq => ⟨by rw [eA, if_neg (by omega), if_neg (by omega)], by rw [eA, if_neg (by omega), if_neg (by omega)]⟩
  have es : A' (30 + 4 * p + 2) = -1 ∧ A' (30 + 4 * p + 3) = 0 := ⟨by rw [eA, if_pos rfl], by rw [eA, if_neg (by omega), if_pos rfl]⟩
  have e0 := ef b (by omega) (by omega) (by omega) (by omega)
  refine ⟨⟨⟨by rw [e0, e 2 (by omega)]; exact i0, by rw [e0]; exact i1, by rw [e0]; exact i2, fun x hx => ?_, fun q hq => ?_⟩, fun x hx => ?_, wfA_cg hA (fun j j1 j2 _ _ _ => e j (by omega)), fun q hq => ?_⟩, rpH_cg hH (ef _ (by omega) (by omega) (by omega) (by omega)) (ef _ (by omega) (by omega) (by omega) (by omega)) (fun j j1 j2 => e j (by omega)), rpR_cg hR (by rw [e0]) (ef _ (by omega) (by omega) (by omega) (by omega)) (e 3 (by omega)) (fun j j1 j2 => e j (by omega)) (Nat.le_refl _) (Nat.le_refl _), rpU_cg hU (ef _ (by omega) (by omega) (by omega) (by omega)) (ef _ (by omega) (by omega) (by omega) (by omega)) (e 4 (by omega)) (fun j j1 => e j (by omega))⟩
  · dsimp only
    rw [ef (b + 1) (by omega) (by omega) (by omega) (by omega), e _ (by omega), e _ (by omega), e _ (by omega)]
    exact i3 x hx
  · dsimp only
    rw [ef (b + 2) (by omega) (by omega) (by omega) (by omega), ef (b + 3) (by omega) (by omega) (by omega) (by omega), e4, e5, e (30 + 4 * q) (by omega), e (30 + 4 * q + 1) (by omega)]
    by_cases z : q = p
    · subst z
      rw [zu_s, zu_s, es.1, es.2]
      exact ⟨(i4 q hq).1, (i4 q hq).2.1, rfl, rfl⟩
    · rw [zu_n z, zu_n z, (eo q z).1, (eo q z).2]
      exact i4 q hq
  · rw [ef (b + 1) (by omega) (by omega) (by omega) (by omega), e _ (by omega), e _ (by omega)]
    exact s2 x hx
  · dsimp only
    rw [e (30 + 4 * q) (by omega)]
    have := hS q hq
    dsimp only at this
    by_cases z : q = p
    · subst z
      rw [es.1, es.2]
      exact ⟨this.1, by omega, fun _ => rfl⟩
    · rw [(eo q z).1, (eo q z).2]
      exact this
theorem t_fetch {Q : Int → Int → z_M → Prop} {x0 : Int} (h : RR I) (hq : ∀ r I', RR I' → Q r r I') : CX10_fetch [aR 0, aI x0] I (fun r I1 => CX11_fetch [aR 60, aI x0] I1 (fun r' I2 => Q r r' I2)) := by
  obtain ⟨⟨P, L, hx⟩, -⟩ := id h
  have hx : rpx I 8 (I 61) P L := hx
  have hB := rpx_B hx
  have hC := rpx_C hx
  have hP := hB.1.2.2.1
  have i2 := hC.2.2.1
  have o8 := z_o (show z_cl 8 = 4 from rfl)
  obtain ⟨U, U1, U2⟩ := hB.2.2
  have ref : ∀ (I1 : z_M) (r : Int), I1 61 = I 61 → (∀ p : Nat, x0 = p → p < P → I 61 (30 + 4 * p + 2) ≠ -1 → ∀ I2, (∀ j, I2 61 j = if j = 30 + 4 * p + 2 then -1 else if j = 30 + 4 * p + 3 then 0 else pKeep (I 61) j) → (∀ k, k ≠ 61 → I2 k = I1 k) → Q r (I 61 (30 + 4 * p + 2)) I2) → (∀ p : Nat, x0 = p → p < P → I 61 (30 + 4 * p + 2) = -1 → Q r (-3) (z_up I1 64 1 (i32 (I1 64 1 + 1)))) → (¬ (0 ≤ x0 ∧ x0 < P) → Q r (-2) (z_up I1 64 0 (i32 (I1 64 0 + 1)))) → CX11_fetch [aR 60, aI x0] I1 (fun r' I2 => Q r r' I2) := by
    intro I1 r e1 g1 g2 g0
    have eP : I1 61 0 = P := by rw [e1]; exact hB.1.1
    refine eX11_fetch ?_
    refine X11_fetch_0 (k := ?_)
    refine X11_fetch_1 (k := ?_)
    refine X11_fetch_2 (k := ?_)
    refine s11_isPipe (by first | assumption | omega) (by omega) (fun u2 u2b => ?_) (fun u2 => ?_)
    · refine X11_fetch_5 (kt := fun _ => ?_) (kf := fun z => absurd z (by decide))
      obtain ⟨p, rfl⟩ : ∃ p : Nat, x0 = p := ⟨x0.toNat, by omega⟩
      have g1 := g1 p rfl (by omega)
      have g2 := g2 p rfl (by omega)
      refine X11_fetch_15 (k := ?_)
      refine X11_fetch_16 (k := ?_)
      refine X11_fetch_17 (k := ?_)
      refine X11_fetch_18 (k := ?_)
      refine s11_pipeHas (n := p) (k := 2) rfl rfl (by omega) ?_
      rw [e1]
      refine X11_fetch_21 (k := ?_)
      refine X11_fetch_22 (k := ?_)
      refine X11_fetch_23 (k := ?_)
      refine X11_fetch_24 (kt := fun k24 => ?_) (kf := fun k24 => ?_)
      · refine X11_fetch_32 (k := ?_)
        refine X11_fetch_33 (k := ?_)
        refine s11_keep e1 U2 U1 (fun I2 k1 k2 => ?_)
        refine X11_fetch_36 (k := ?_)
        refine X11_fetch_37 (k := ?_)
        refine X11_fetch_40 (k := ?_)
        refine X11_fetch_42 (k := ?_)
        refine X11_fetch_43 (k := ?_)
        refine X11_fetch_44 (k := ?_)
        refine X11_fetch_45 (k := ?_)
        refine X11_fetch_46 (k := ?_)
        refine X11_fetch_47 (k := ?_)
        refine X11_fetch_48 (k := ?_)
        refine X11_fetch_49 (k := ?_)
        refine X11_fetch_50 (k := ?_)
        refine X11_fetch_51 (k := ?_)
        refine X11_fetch_54 (k := ?_)
        refine X11_fetch_56 (k := ?_)
        refine X11_fetch_57 (k := ?_)
        refine X11_fetch_58 (k := ?_)
        refine X11_fetch_59 (k := ?_)
        refine X11_fetch_60 (k := ?_)
        refine X11_fetch_61 (k := ?_)
        refine X11_fetch_62 (k := ?_)
        refine X11_fetch_63 (k := ?_)
        rw [show (30 + 4 * (p : Int) + 2).toNat = 30 + 4 * p + 2 by omega, show (30 + 4 * (p : Int) + 3).toNat = 30 + 4 * p + 3 by omega]
        refine X11_fetch_64 (k := ?_)
        refine X11_fetch_65 (hq := ?_)
        refine g1 (by omega) _ (fun j => ?_) (fun k hk => by rw [z_up_n hk, z_up_n hk]; exact k2 k hk)
        rw [z_up_s, z_up_s, k1]
        unfold zu
        by_cases z1 : j = 30 + 4 * p + 2
        · rw [if_neg (by omega), if_pos z1, if_pos z1]
        · by_cases z2 : j = 30 + 4 * p + 3
          · rw [if_pos z2, if_neg z1, if_pos z2]
          · rw [if_neg z2, if_neg z1, if_neg z1, if_neg z2]
      · refine X11_fetch_27 (k := ?_)
        refine X11_fetch_28 (k := ?_)
        refine s11_no ?_
        refine X11_fetch_31 (hq := ?_)
        exact g2 (by omega)
    · refine X11_fetch_5 (kt := fun z => absurd z (by decide)) (kf := fun _ => ?_)
      refine X11_fetch_8 (k := ?_)
      refine X11_fetch_9 (k := ?_)
      refine X11_fetch_11 (k := ?_)
      refine s11_bad ?_
      refine X11_fetch_14 (hq := ?_)
      exact g0 (by omega)
  refine eX10_fetch ?_
  refine X10_fetch_0 (k := ?_)
  refine X10_fetch_1 (k := ?_)
  refine X10_fetch_2 (k := ?_)
  refine s10_isPipe (fun u2 u2b => ?_) (fun u2 => ?_)
  · refine X10_fetch_5 (kt := fun _ => ?_) (kf := fun z => absurd z (by decide))
    obtain ⟨p, rfl⟩ : ∃ p : Nat, x0 = p := ⟨x0.toNat, by omega⟩
    have hp : p < P := by omega
    have w := (hC.2.2.2.2 p hp).2.2.1
    have w : I (8 + 4) p = I 61 (30 + 4 * p + 2) := w
    refine X10_fetch_13 (k := ?_)
    refine X10_fetch_14 (k := ?_)
    refine X10_fetch_17 (k := ?_)
    refine X10_fetch_20 (k := ?_)
    refine X10_fetch_21 (k := ?_)
    rw [Int.toNat_natCast, w]
    refine X10_fetch_22 (k := ?_)
    refine X10_fetch_23 (k := ?_)
    refine X10_fetch_24 (k := ?_)
    refine X10_fetch_25 (kt := fun k25 => ?_) (kf := fun k25 => ?_)
    · refine X10_fetch_33 (k := ?_)
      refine X10_fetch_34 (k := ?_)
      refine X10_fetch_37 (k := ?_)
      refine X10_fetch_40 (k := ?_)
      refine X10_fetch_41 (k := ?_)
      refine X10_fetch_44 (k := ?_)
      refine x5_keep rfl hx (fun I1 hx1 e1 => ?_)
      refine X10_fetch_47 (k := ?_)
      refine X10_fetch_48 (k := ?_)
      refine X10_fetch_51 (k := ?_)
      refine X10_fetch_52 (k := ?_)
      refine s4_bringHome rfl (by omega) ?_
      refine X10_fetch_55 (k := ?_)
      refine X10_fetch_56 (hq := ?_)
      refine ref _ _ (by rw [z_up_n (by decide), z_up_n (by decide)]; exact e1 61 (by decide) (by decide)) (fun q z z1 z2 I2 f1 f2 => ?_) (fun q z z1 z2 => ?_) (fun z => by omega)
      · have : q = p := by omega
        subst this
        have er : ∀ k, k ≠ 12 → k ≠ 13 → k ≠ 17 → k ≠ 18 → k ≠ 61 → I2 k = I k := fun k k1 k2 k3 k4 k5 => by
          rw [f2 k k5, z_up_n k2, z_up_n k1]
          exact e1 k k3 k4
        refine hq _ _ (RR_now h ?_ (fun k hk => er k (by omega) (by omega) (by omega) (by omega) (by omega)) (by rw [er 54 (by decide) (by decide) (by decide) (by decide) (by decide)]) (by rw [er 60 (by decide) (by decide) (by decide) (by decide) (by decide)]) (by rw [er 60 (by decide) (by decide) (by decide) (by decide) (by decide)]) (by rw [er 60 (by decide) (by decide) (by decide) (by decide) (by decide)]))
        refine rpx_rp (rpx_home (I' := I2) (A' := I2 61) hx1 hp ?_ ?_ (fun k k1 k2 k3 k4 => ?_) f1)
        · rw [f2 _ (by decide), z_up_n (by decide), z_up_s]
        · rw [f2 _ (by decide), z_up_s, z_up_n (by decide)]
        · rw [f2 k (by omega), z_up_n k4, z_up_n k3]
      · have : q = p := by omega
        subst this
        omega
    · refine X10_fetch_28 (k := ?_)
      refine X10_fetch_29 (k := ?_)
      refine s10_refuseNo ?_
      refine X10_fetch_32 (hq := ?_)
      refine ref _ _ (by rw [z_up_n (by decide)]) (fun q z z1 z2 => ?_) (fun q z z1 z2 => ?_) (fun z => by omega)
      · have : q = p := by omega
        subst this
        omega
      · exact RR_no (Q := Q) h (fun I' => hq _ I')
  · refine X10_fetch_5 (kt := fun z => absurd z (by decide)) (kf := fun _ => ?_)
    refine X10_fetch_8 (k := ?_)
    refine X10_fetch_9 (k := ?_)
    refine s10_refuseBad ?_
    refine X10_fetch_12 (hq := ?_)
    refine ref _ _ (by rw [z_up_n (by decide)]) (fun p z => by omega) (fun p z => by omega) (fun z => ?_)
    exact RR_bad (Q := Q) h (fun I' => hq _ I')
end PC

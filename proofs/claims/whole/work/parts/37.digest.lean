/-! count, digest -/
section PG
variable {I I' : z_M} {b c : Nat} {A A' : Nat → Int} {P L : Nat}
def pHow (A : Nat → Int) (P L n w : Nat) : Int := if w = 0 then P else if w = 1 then L else if w = 2 then A 2 else if w = 3 then (z_cnt (fun p => !decide (wA A p = -1)) P : Nat) else if w = 4 then A 3 else if w = 5 then A 4 else n
theorem s10_howMany {Q : Int → z_M → Prop} {n w : Nat} (hx : rpx I 8 A P L) (ht : I 54 0 = n) (hw : w ≤ 6) (h : Q (pHow A P L n w) I) : CX10_howMany [aR 0, aI w] I Q := by
  have hC := rpx_C hx
  have hP := (rpx_A hx).2.2.1
  obtain ⟨-, -, ⟨-, r3, -⟩, o, U, -, -, -, u4, u5, -⟩ := hx
  unfold pHow at h
  refine eX10_howMany ?_
  refine X10_howMany_0 (k := ?_)
  refine X10_howMany_1 (k0 := fun k1 => ?_) (k1 := fun k1 => ?_) (k2 := fun k1 => ?_) (k3 := fun k1 => ?_) (k4 := fun k1 => ?_) (k5 := fun k1 => ?_) (kd := fun k1 => ?_)
  · rw [if_pos (by omega)] at h
    refine X10_howMany_40 (k := ?_)
    refine X10_howMany_41 (k := ?_)
    refine X10_howMany_44 (k := ?_)
    rw [hC.2.2.1]
    refine X10_howMany_47 (hq := ?_)
    exact h
  · rw [if_neg (by omega), if_pos (by omega)] at h
    refine X10_howMany_48 (k := ?_)
    refine X10_howMany_49 (k := ?_)
    refine X10_howMany_52 (k := ?_)
    rw [hC.2.1]
    refine X10_howMany_55 (hq := ?_)
    exact h
  · rw [if_neg (by omega), if_neg (by omega), if_pos (by omega)] at h
    refine X10_howMany_56 (k := ?_)
    refine X10_howMany_57 (k := ?_)
    refine X10_howMany_60 (k := ?_)
    rw [hC.1]
    refine X10_howMany_63 (hq := ?_)
    exact h
  · rw [if_neg (by omega), if_neg (by omega), if_neg (by omega), if_pos (by omega)] at h
    refine X10_howMany_64 (k := ?_)
    refine X10_howMany_65 (k := ?_)
    refine X10_howMany_68 (k := ?_)
    refine s4_howManyAway rfl hP hC ?_
    refine X10_howMany_71 (hq := ?_)
    exact h
  · rw [if_neg (by omega), if_neg (by omega), if_neg (by omega), if_neg (by omega), if_pos (by omega)] at h
    refine X10_howMany_72 (k := ?_)
    refine X10_howMany_73 (k := ?_)
    refine X10_howMany_76 (k := ?_)
    rw [r3]
    refine X10_howMany_79 (hq := ?_)
    exact h
  · rw [if_neg (by omega), if_neg (by omega), if_neg (by omega), if_neg (by omega), if_neg (by omega), if_pos (by omega)] at h
    refine X10_howMany_80 (k := ?_)
    refine X10_howMany_81 (k := ?_)
    refine X10_howMany_84 (k := ?_)
    refine X10_howMany_87 (k := ?_)
    rw [u5, ← u4]
    refine X10_howMany_90 (hq := ?_)
    exact h
  · rw [if_neg (by omega), if_neg (by omega), if_neg (by omega), if_neg (by omega), if_neg (by omega), if_neg (by omega)] at h
    refine X10_howMany_91 (k := ?_)
    refine X10_howMany_92 (k := ?_)
    refine X10_howMany_95 (k := ?_)
    rw [ht]
    refine X10_howMany_98 (hq := ?_)
    exact h
theorem s11_churchNow {Q : Int → z_M → Prop} (hA : wfA A P L) (hI : I 61 = A) (h : ∀ I', smM I I' → Q (z_bs (fun p => decide (wA A p = -1)) P : Nat) I') : CX11_churchNow [aR 60] I Q := by
  refine eX11_churchNow ?_
  refine X11_churchNow_0 (k := ?_)
  refine X11_churchNow_1 (k := ?_)
  refine s11_layHand hA hI (fun I2 l1 l2 l3 => ?_)
  refine X11_churchNow_4 (k := ?_)
  refine X11_churchNow_5 (k := ?_)
  refine s11_inChurch hA l1 ?_
  refine X11_churchNow_8 (hq := ?_)
  exact h I2 (smM_hand l2 l3)
theorem s11_counted {Q : Int → z_M → Prop} {n w : Nat} (hA : wfA A P L) (hI : I 61 = A) (ht : I 60 16 = n) (hw : w ≤ 6) (h : ∀ I', smM I I' → Q (pHow A P L n w) I') : CX11_counted [aR 60, aI w] I Q := by
  have hP := hA.2.2.1
  have h0 := h I (smM_rf I)
  unfold pHow at h h0
  refine eX11_counted ?_
  refine X11_counted_0 (k := ?_)
  refine X11_counted_1 (k0 := fun k1 => ?_) (k1 := fun k1 => ?_) (k2 := fun k1 => ?_) (k3 := fun k1 => ?_) (k4 := fun k1 => ?_) (k5 := fun k1 => ?_) (kd := fun k1 => ?_)
  · rw [if_pos (by omega)] at h0
    refine X11_counted_40 (k := ?_)
    refine X11_counted_41 (k := ?_)
    refine s11_pipes ?_
    rw [hI, hA.1]
    refine X11_counted_44 (hq := ?_)
    exact h0
  · rw [if_neg (by omega), if_pos (by omega)] at h0
    refine X11_counted_45 (k := ?_)
    refine X11_counted_46 (k := ?_)
    refine s11_places ?_
    rw [hI, hA.2.1]
    refine X11_counted_49 (hq := ?_)
    exact h0
  · rw [if_neg (by omega), if_neg (by omega), if_pos (by omega)] at h0
    refine X11_counted_50 (k := ?_)
    refine X11_counted_51 (k := ?_)
    refine X11_counted_54 (k := ?_)
    refine X11_counted_55 (k := ?_)
    rw [hI, show (2 : Int).toNat = 2 from rfl]
    refine X11_counted_56 (hq := ?_)
    exact h0
  · rw [if_neg (by omega), if_neg (by omega), if_neg (by omega), if_pos (by omega)] at h
    refine X11_counted_57 (k := ?_)
    refine X11_counted_58 (k := ?_)
    refine s11_pipes ?_
    rw [hI, hA.1]
    refine X11_counted_61 (k := ?_)
    refine X11_counted_62 (k := ?_)
    refine s11_churchNow hA hI (fun I' hs => ?_)
    refine X11_counted_65 (k := ?_)
    refine s11_bits rfl (by omega) ?_
    have hcn : z_cnt (fun p => decide (wA A p = -1)) P + z_cnt (fun p => !decide (wA A p = -1)) P = P := z_cnt_not (fun p => decide (wA A p = -1)) P
    refine X11_counted_68 (k := ?_)
    refine X11_counted_69 (hq := ?_)
    rw [show (P : Int) - (z_cnt (fun p => decide (wA A p = -1)) P : Nat) = (z_cnt (fun p => !decide (wA A p = -1)) P : Nat) by omega]
    exact h I' hs
  · rw [if_neg (by omega), if_neg (by omega), if_neg (by omega), if_neg (by omega), if_pos (by omega)] at h0
    refine X11_counted_70 (k := ?_)
    refine X11_counted_71 (k := ?_)
    refine X11_counted_74 (k := ?_)
    refine X11_counted_75 (k := ?_)
    rw [hI, show (3 : Int).toNat = 3 from rfl]
    refine X11_counted_76 (hq := ?_)
    exact h0
  · rw [if_neg (by omega), if_neg (by omega), if_neg (by omega), if_neg (by omega), if_neg (by omega), if_pos (by omega)] at h0
    refine X11_counted_77 (k := ?_)
    refine X11_counted_78 (k := ?_)
    refine X11_counted_81 (k := ?_)
    refine X11_counted_82 (k := ?_)
    rw [hI, show (4 : Int).toNat = 4 from rfl]
    refine X11_counted_83 (hq := ?_)
    exact h0
  · rw [if_neg (by omega), if_neg (by omega), if_neg (by omega), if_neg (by omega), if_neg (by omega), if_neg (by omega)] at h0
    refine X11_counted_84 (k := ?_)
    refine X11_counted_85 (k := ?_)
    rw [ht]
    refine X11_counted_88 (hq := ?_)
    exact h0
theorem t_count {Q : Int → Int → z_M → Prop} {x0 : Int} (h : RR I) (hq : ∀ r I', RR I' → Q r r I') : CX10_count [aR 0, aI x0] I (fun r I1 => CX11_count [aR 60, aI x0] I1 (fun r' I2 => Q r r' I2)) := by
  obtain ⟨⟨P, L, hx⟩, -, ⟨n, t1, t2, t3, t4⟩, -⟩ := id h
  have hx : rpx I 8 (I 61) P L := hx
  have hA := rpx_A hx
  have ref : ∀ (I1 : z_M) (r : Int), I1 61 = I 61 → I1 60 16 = n → (∀ w : Nat, x0 = w → w ≤ 6 → ∀ I2, smM I1 I2 → Q r (pHow (I 61) P L n w) I2) → (¬ (0 ≤ x0 ∧ x0 ≤ 6) → Q r (-2) (z_up I1 64 0 (i32 (I1 64 0 + 1)))) → CX11_count [aR 60, aI x0] I1 (fun r' I2 => Q r r' I2) := by
    intro I1 r e1 e2 g1 g0
    refine eX11_count ?_
    refine X11_count_0 (k := ?_)
    refine X11_count_1 (k := ?_)
    refine X11_count_2 (k := ?_)
    refine X11_count_3 (k := ?_)
    refine X11_count_6 (k := ?_)
    refine s11_in (fun u6 u6b => ?_) (fun u6 => ?_)
    · refine X11_count_9 (kt := fun z => absurd z (by decide)) (kf := fun _ => ?_)
      obtain ⟨w, rfl⟩ : ∃ w : Nat, x0 = w := ⟨x0.toNat, by omega⟩
      refine X11_count_12 (k := ?_)
      refine X11_count_13 (k := ?_)
      refine X11_count_14 (k := ?_)
      refine s11_counted hA e1 e2 (by omega) (fun I2 hs => ?_)
      refine X11_count_17 (k := ?_)
      refine X11_count_26 (hq := ?_)
      exact g1 w rfl (by omega) I2 hs
    · refine X11_count_9 (kt := fun _ => ?_) (kf := fun z => absurd z (by decide))
      refine X11_count_20 (k := ?_)
      refine X11_count_21 (k := ?_)
      refine X11_count_23 (k := ?_)
      refine s11_bad ?_
      refine X11_count_26 (hq := ?_)
      exact g0 (by omega)
  refine eX10_count ?_
  refine X10_count_0 (k := ?_)
  refine X10_count_1 (k := ?_)
  refine X10_count_3 (k := ?_)
  refine s10_isUpTo (fun u3 u3b => ?_) (fun u3 => ?_)
  · refine X10_count_6 (kt := fun _ => ?_) (kf := fun z => absurd z (by decide))
    obtain ⟨w, rfl⟩ : ∃ w : Nat, x0 = w := ⟨x0.toNat, by omega⟩
    refine X10_count_14 (k := ?_)
    refine X10_count_15 (k := ?_)
    refine X10_count_16 (k := ?_)
    refine s10_howMany hx t3 (by omega) ?_
    refine X10_count_19 (hq := ?_)
    refine ref _ _ rfl t2 (fun w' z z1 I2 hs => ?_) (fun z => by omega)
    have : w' = w := by omega
    subst this
    exact hq _ _ (RR_M h hs)
  · refine X10_count_6 (kt := fun z => absurd z (by decide)) (kf := fun _ => ?_)
    refine X10_count_9 (k := ?_)
    refine X10_count_10 (k := ?_)
    refine s10_refuseBad ?_
    refine X10_count_13 (hq := ?_)
    refine ref _ _ (by rw [z_up_n (by decide)]) (by rw [z_up_n (by decide)]; exact t2) (fun w z => by omega) (fun z => ?_)
    exact RR_bad (Q := Q) h (fun I' => hq _ I')
def dg (f : Nat → Int) (h : Int) : Nat → Int
  | 0 => h
  | n + 1 => i64 (i64 (31 * dg f h n) + f n)
theorem dg_c {f g : Nat → Int} {h : Int} : ∀ n, (∀ i, i < n → f i = g i) → dg f h n = dg g h n
  | 0, _ => rfl
  | n + 1, e => by rw [dg, dg, dg_c n (fun i hi => e i (by omega)), e n (by omega)]
theorem dg_s {f : Nat → Int} {h : Int} : ∀ n, dg f h (n + 1) = dg (fun i => f (i + 1)) (i64 (i64 (31 * h) + f 0)) n
  | 0 => rfl
  | n + 1 => by rw [dg, dg_s n, dg]
theorem s4_digestRow {Q : Int → z_M → Prop} {q s n : Nat} {h0 : Int} (hq : z_cl q = 20) (hn : s + n ≤ z_n q) (hz : z_n q ≤ 300) (h : Q (dg (fun i => I q (s + i)) h0 n) I) : CX4_digestRow [aL h0, aR q, aI s, aI n] I Q := by
  refine eX4_digestRow ?_
  refine X4_digestRow_0 (k := ?_)
  refine X4_digestRow_1 (k := ?_)
  refine z_for n (fun i => JX4_digestRow Q 3 [aL (dg (fun i => I q (s + i)) h0 i), aU, aR q, aI s, aI n, aI i] [] I) ?_ (fun i hi ih => ?_) 0 (Nat.zero_le _)
  · refine X4_digestRow_3 (k := ?_)
    refine X4_digestRow_5 (k := ?_)
    refine X4_digestRow_7 (kt := fun k7 => ?_) (kf := fun k7 => ?_)
    · refine X4_digestRow_30 (k := ?_)
      refine X4_digestRow_31 (hq := ?_)
      exact h
    · omega
  · refine X4_digestRow_3 (k := ?_)
    refine X4_digestRow_5 (k := ?_)
    refine X4_digestRow_7 (kt := fun k7 => ?_) (kf := fun k7 => ?_)
    · omega
    · refine X4_digestRow_10 (k := ?_)
      refine X4_digestRow_13 (k := ?_)
      refine X4_digestRow_14w (k := ?_)
      refine X4_digestRow_15 (k := ?_)
      refine X4_digestRow_16 (k := ?_)
      refine X4_digestRow_17 (k := ?_)
      refine X4_digestRow_19 (k := ?_)
      refine X4_digestRow_20 (k := ?_)
      rw [show ((s : Int) + i).toNat = s + i by omega]
      refine X4_digestRow_21 (k := ?_)
      refine X4_digestRow_22w (k := ?_)
      refine X4_digestRow_23 (k := ?_)
      refine X4_digestRow_24 (k := ?_)
      refine X4_digestRow_27 (k := ?_)
      exact ih
theorem s11_sums {Q : Int → z_M → Prop} {s n : Nat} {h0 : Int} (hI : I 61 = A) (hn : s + n ≤ 249) (h : Q (dg (fun i => A (s + i)) h0 n) I) : CX11_sums [aR 60, aL h0, aI s, aI n] I Q := by
  refine eX11_sums ?_
  refine X11_sums_0 (k := ?_)
  refine X11_sums_1 (k := ?_)
  refine X11_sums_3 (k := ?_)
  refine X11_sums_4 (k := ?_)
  refine z_for n (fun i => JX11_sums Q 6 [aR 60, aL h0, aU, aI s, aI n, aL (dg (fun i => A (s + i)) h0 i), aU, aI i] [] I) ?_ (fun i hi ih => ?_) 0 (Nat.zero_le _)
  · refine X11_sums_6 (k := ?_)
    refine X11_sums_8 (k := ?_)
    refine X11_sums_10 (kt := fun k10 => ?_) (kf := fun k10 => ?_)
    · refine X11_sums_38 (k := ?_)
      refine X11_sums_40 (hq := ?_)
      exact h
    · omega
  · refine X11_sums_6 (k := ?_)
    refine X11_sums_8 (k := ?_)
    refine X11_sums_10 (kt := fun k10 => ?_) (kf := fun k10 => ?_)
    · omega
    · refine X11_sums_13 (k := ?_)
      refine X11_sums_16 (k := ?_)
      refine X11_sums_18w (k := ?_)
      refine X11_sums_19 (k := ?_)
      refine X11_sums_20 (k := ?_)
      refine X11_sums_23 (k := ?_)
      refine X11_sums_24 (k := ?_)
      refine X11_sums_26 (k := ?_)
      refine X11_sums_27 (k := ?_)
      rw [show ((s : Int) + i).toNat = s + i by omega, hI]
      refine X11_sums_28 (k := ?_)
      refine X11_sums_29w (k := ?_)
      refine X11_sums_30 (k := ?_)
      refine X11_sums_32 (k := ?_)
      refine X11_sums_35 (k := ?_)
      exact ih
end PG

/-! digest -/
section PH
variable {I I' : z_M} {b c : Nat} {A A' : Nat → Int} {P L : Nat}
def dgH (A : Nat → Int) (h : Int) : Nat → Int
  | 0 => h
  | x + 1 => dg (fun i => A (62 + 9 * x + i)) (dgH A h x) (1 + (A (62 + 9 * x)).toNat)
def dgA (A : Nat → Int) (P L : Nat) (h : Int) : Int := dg (fun i => A (89 + i)) (dgH A (dg (fun i => A (30 + i)) (dg (fun i => A (5 + i)) h (5 * L)) (4 * P)) 3) (4 * (A 3).toNat)
theorem rpx_rows (hx : rpx I b A P L) : (∀ i, i < 5 * L → I (b + 1) i = A (5 + i)) ∧ (∀ x k : Nat, x < 3 → (k : Int) < A (62 + 9 * x) → I (b + 7) (8 * x + k) = A (63 + 9 * x + k)) ∧ ∀ i, i < 4 * (A 3).toNat → I (b + 8) i = A (89 + i) := by
  obtain ⟨⟨hC, s2, -⟩, hH, ⟨r1, r2, r3⟩, -⟩ := hx
  refine ⟨fun i hi => ?_, fun x k hx hk => ((hH x hx).2.2 k hk).1, fun i hi => ?_⟩
  · obtain ⟨x, r, hr, rfl⟩ : ∃ x r, r < 5 ∧ i = 5 * x + r := ⟨i / 5, i % 5, by omega, by omega⟩
    obtain ⟨d0, d1, d2⟩ := hC.2.2.2.1 x (by omega)
    obtain ⟨d3, d4⟩ := s2 x (by omega)
    rw [show 5 + (5 * x + r) = 5 + 5 * x + r by omega]
    rcases (show r = 0 ∨ r = 1 ∨ r = 2 ∨ r = 3 ∨ r = 4 by omega) with rfl | rfl | rfl | rfl | rfl
    · exact d0
    · exact d1
    · exact d2
    · exact d3
    · exact d4
  · obtain ⟨t, r, hr, rfl⟩ : ∃ x r, r < 4 ∧ i = 4 * x + r := ⟨i / 4, i % 4, by omega, by omega⟩
    obtain ⟨⟨d0, d1, d2, d3⟩, -⟩ := r3 t (by omega)
    rw [show 89 + (4 * t + r) = 89 + 4 * t + r by omega]
    rcases (show r = 0 ∨ r = 1 ∨ r = 2 ∨ r = 3 by omega) with rfl | rfl | rfl | rfl
    · exact d0
    · exact d1
    · exact d2
    · exact d3
theorem x4_digestOn {Q : Int → z_M → Prop} (hb : z_cl b = 4) {h0 : Int} (hx : rpx I b A P L) (h : Q (dgA A P L h0) I) : CX4_digestOn [aR b, aL h0] I Q := by
  obtain ⟨o1, o2, o3, o4, o5, o6, o7, o8, o9, o10, n1, n2, n3, n4, n5, n6, n7, n8, n10⟩ := z_o hb
  have hC := rpx_C hx
  obtain ⟨a0, a1, a2, a3, a4, a5⟩ := rpx_A hx
  obtain ⟨w1, w2, w3⟩ := rpx_rows hx
  have hH := hx.2.1
  have hR := hx.2.2.1
  obtain ⟨⟨r1, r2⟩, r3, -⟩ := id hR
  refine eX4_digestOn ?_
  refine X4_digestOn_0 (k := ?_)
  refine X4_digestOn_1 (k := ?_)
  refine X4_digestOn_2 (k := ?_)
  refine X4_digestOn_5 (k := ?_)
  refine X4_digestOn_6 (k := ?_)
  refine X4_digestOn_7 (k := ?_)
  rw [hC.2.1]
  refine X4_digestOn_10 (k := ?_)
  refine X4_digestOn_11 (k := ?_)
  rw [show (L : Int) * 5 = ((5 * L : Nat) : Int) by omega]
  refine X4_digestOn_12 (k := ?_)
  refine s4_digestRow (s := 0) o1 (by omega) (by omega) ?_
  rw [dg_c (g := fun i => A (5 + i)) (5 * L) (fun i hi => by rw [Nat.zero_add]; exact w1 i hi)]
  refine X4_digestOn_15 (k := ?_)
  refine X4_digestOn_16 (k := ?_)
  refine X4_digestOn_17 (k := ?_)
  refine z_for P (fun i => JX4_digestOn Q 18 [aR b, aL (dg (fun i => A (30 + i)) (dg (fun i => A (5 + i)) h0 (5 * L)) (4 * i)), aU, aI i] [] I) ?_ (fun i hi ih => ?_) 0 (Nat.zero_le _)
  · refine X4_digestOn_18 (k := ?_)
    refine X4_digestOn_19 (k := ?_)
    refine X4_digestOn_20 (k := ?_)
    rw [hC.2.2.1]
    refine X4_digestOn_23 (kt := fun k23 => ?_) (kf := fun k23 => ?_)
    · refine X4_digestOn_88 (k := ?_)
      refine X4_digestOn_89 (k := ?_)
      refine z_for 3 (fun x => JX4_digestOn Q 90 [aR b, aL (dgH A (dg (fun i => A (30 + i)) (dg (fun i => A (5 + i)) h0 (5 * L)) (4 * P)) x), aU, aI x] [] I) ?_ (fun x hx ih => ?_) 0 (by decide)
      · refine X4_digestOn_90 (k := ?_)
        refine X4_digestOn_91 (k := ?_)
        refine X4_digestOn_92 (kt := fun k92 => ?_) (kf := fun k92 => ?_)
        · refine X4_digestOn_134 (k := ?_)
          refine X4_digestOn_135 (k := ?_)
          refine X4_digestOn_136 (k := ?_)
          refine X4_digestOn_139 (k := ?_)
          refine X4_digestOn_140 (k := ?_)
          refine X4_digestOn_141 (k := ?_)
          rw [r3, show A 3 = (((A 3).toNat : Nat) : Int) by omega]
          refine X4_digestOn_144 (k := ?_)
          refine X4_digestOn_145 (k := ?_)
          rw [show (((A 3).toNat : Nat) : Int) * 4 = ((4 * (A 3).toNat : Nat) : Int) by omega]
          refine X4_digestOn_146 (k := ?_)
          refine s4_digestRow (s := 0) o8 (by omega) (by omega) ?_
          rw [dg_c (f := fun i => I (b + 8) (0 + i)) (g := fun i => A (89 + i)) _ (fun i hi => by rw [Nat.zero_add]; exact w3 i hi)]
          refine X4_digestOn_149 (hq := ?_)
          exact h
        · omega
      · obtain ⟨h1, h2, h3⟩ := hH x hx
        obtain ⟨c, hc⟩ : ∃ c : Nat, A (62 + 9 * x) = c := ⟨(A (62 + 9 * x)).toNat, by omega⟩
        refine X4_digestOn_90 (k := ?_)
        refine X4_digestOn_91 (k := ?_)
        refine X4_digestOn_92 (kt := fun k92 => ?_) (kf := fun k92 => ?_)
        · omega
        · refine X4_digestOn_95 (k := ?_)
          refine X4_digestOn_98 (k := ?_)
          refine X4_digestOn_99w (k := ?_)
          refine X4_digestOn_100 (k := ?_)
          refine X4_digestOn_101 (k := ?_)
          refine X4_digestOn_104 (k := ?_)
          refine X4_digestOn_105 (k := ?_)
          rw [Int.toNat_natCast, h2, hc]
          refine X4_digestOn_106 (k := ?_)
          refine X4_digestOn_107w (k := ?_)
          refine X4_digestOn_108 (k := ?_)
          refine X4_digestOn_109 (k := ?_)
          refine X4_digestOn_110 (k := ?_)
          refine X4_digestOn_111 (k := ?_)
          refine X4_digestOn_114 (k := ?_)
          refine X4_digestOn_115 (k := ?_)
          refine X4_digestOn_117 (k := ?_)
          refine X4_digestOn_118 (k := ?_)
          refine X4_digestOn_119 (k := ?_)
          refine X4_digestOn_122 (k := ?_)
          refine X4_digestOn_123 (k := ?_)
          rw [Int.toNat_natCast, h2, hc]
          rw [show (x : Int) * 8 = ((8 * x : Nat) : Int) by omega]
          refine X4_digestOn_124 (k := ?_)
          refine s4_digestRow o7 (by omega) (by omega) ?_
          refine X4_digestOn_127 (k := ?_)
          refine X4_digestOn_128 (k := ?_)
          refine X4_digestOn_131 (k := ?_)
          have e : dgH A (dg (fun i => A (30 + i)) (dg (fun i => A (5 + i)) h0 (5 * L)) (4 * P)) (x + 1) = dg (fun i => I (b + 7) (8 * x + i)) (i64 (i64 (31 * dgH A (dg (fun i => A (30 + i)) (dg (fun i => A (5 + i)) h0 (5 * L)) (4 * P)) x) + c)) c := by
            rw [dgH, hc, Int.toNat_natCast, Nat.add_comm 1 c, dg_s, Nat.add_zero, hc]
            exact dg_c _ (fun i hi => by rw [w2 x i hx (by omega)]; exact congrArg _ (by omega))
          rw [e] at ih
          exact ih
    · omega
  · obtain ⟨d1, d2, d3, d4⟩ := hC.2.2.2.2 i hi
    refine X4_digestOn_18 (k := ?_)
    refine X4_digestOn_19 (k := ?_)
    refine X4_digestOn_20 (k := ?_)
    rw [hC.2.2.1]
    refine X4_digestOn_23 (kt := fun k23 => ?_) (kf := fun k23 => ?_)
    · omega
    · refine X4_digestOn_26 (k := ?_)
      refine X4_digestOn_29 (k := ?_)
      refine X4_digestOn_30w (k := ?_)
      refine X4_digestOn_31 (k := ?_)
      refine X4_digestOn_32 (k := ?_)
      refine X4_digestOn_35 (k := ?_)
      refine X4_digestOn_36 (k := ?_)
      rw [Int.toNat_natCast, d1]
      refine X4_digestOn_37 (k := ?_)
      refine X4_digestOn_38w (k := ?_)
      refine X4_digestOn_39 (k := ?_)
      refine X4_digestOn_40 (k := ?_)
      refine X4_digestOn_43 (k := ?_)
      refine X4_digestOn_44w (k := ?_)
      refine X4_digestOn_45 (k := ?_)
      refine X4_digestOn_46 (k := ?_)
      refine X4_digestOn_49 (k := ?_)
      refine X4_digestOn_50 (k := ?_)
      rw [Int.toNat_natCast, d2]
      refine X4_digestOn_51 (k := ?_)
      refine X4_digestOn_52w (k := ?_)
      refine X4_digestOn_53 (k := ?_)
      refine X4_digestOn_54 (k := ?_)
      refine X4_digestOn_57 (k := ?_)
      refine X4_digestOn_58w (k := ?_)
      refine X4_digestOn_59 (k := ?_)
      refine X4_digestOn_60 (k := ?_)
      refine X4_digestOn_63 (k := ?_)
      refine X4_digestOn_64 (k := ?_)
      rw [Int.toNat_natCast, d3]
      refine X4_digestOn_65 (k := ?_)
      refine X4_digestOn_66w (k := ?_)
      refine X4_digestOn_67 (k := ?_)
      refine X4_digestOn_68 (k := ?_)
      refine X4_digestOn_71 (k := ?_)
      refine X4_digestOn_72w (k := ?_)
      refine X4_digestOn_73 (k := ?_)
      refine X4_digestOn_74 (k := ?_)
      refine X4_digestOn_77 (k := ?_)
      refine X4_digestOn_78 (k := ?_)
      rw [Int.toNat_natCast, d4]
      refine X4_digestOn_79 (k := ?_)
      refine X4_digestOn_80w (k := ?_)
      refine X4_digestOn_81 (k := ?_)
      refine X4_digestOn_82 (k := ?_)
      refine X4_digestOn_85 (k := ?_)
      exact ih
theorem t_digest {Q : Int → Int → z_M → Prop} (h : RR I) (hq : ∀ r I', RR I' → Q r r I') : CX10_digest [aR 0] I (fun r I1 => CX11_digest [aR 60] I1 (fun r' I2 => Q r r' I2)) := by
  obtain ⟨⟨P, L, hx⟩, -, ⟨n, t1, t2, t3, t4⟩, f1, f2, -⟩ := id h
  have hx : rpx I 8 (I 61) P L := hx
  have hA := rpx_A hx
  obtain ⟨a0, a1, a2, a3, a4, a5⟩ := id hA
  have hH := hx.2.1
  obtain ⟨⟨r1, r2⟩, r3, -⟩ := id hx.2.2.1
  obtain ⟨A, hAe⟩ : ∃ A, A = I 61 := ⟨_, rfl⟩
  rw [← hAe] at hx hA a0 a1 a4 a5 hH r1 r2 r3
  have ref : ∀ (I1 : z_M) (r : Int), I1 61 = A → I1 60 16 = n → (∀ I2, smM I1 I2 → Q r (i64 (i64 (31 * i64 (i64 (31 * dgA A P L (dg (pHow A P L n) 983 7)) + I1 60 4)) + I1 60 5)) I2) → CX11_digest [aR 60] I1 (fun r' I2 => Q r r' I2) := by
    intro I1 r e1 e2 g
    refine eX11_digest ?_
    refine X11_digest_0 (k := ?_)
    refine X11_digest_3 (k := ?_)
    refine X11_digest_4 (k := ?_)
    refine X11_digest_5 (k := ?_)
    refine z_for 7 (fun i => ∀ I2, smM I1 I2 → JX11_digest (fun r' I2 => Q r r' I2) 6 [aR 60, aL (dg (pHow A P L n) 983 i), aU, aI i] [] I2) ?_ (fun i hi ih => ?_) 0 (by decide) I1 (smM_rf I1)
    · intro I2 hs
      have e1' : I2 61 = A := (hs.1 61 (by omega)).trans e1
      refine X11_digest_6 (k := ?_)
      refine X11_digest_7 (k := ?_)
      refine X11_digest_9 (kt := fun k9 => ?_) (kf := fun k9 => ?_)
      · refine X11_digest_31 (k := ?_)
        refine X11_digest_32 (k := ?_)
        refine X11_digest_33 (k := ?_)
        refine X11_digest_34 (k := ?_)
        refine X11_digest_35 (k := ?_)
        refine X11_digest_36 (k := ?_)
        refine s11_places ?_
        rw [e1', a1]
        refine X11_digest_39 (k := ?_)
        rw [show 5 * (L : Int) = ((5 * L : Nat) : Int) by omega]
        refine X11_digest_40 (k := ?_)
        refine s11_sums (s := 5) e1' (by omega) ?_
        refine X11_digest_43 (k := ?_)
        refine X11_digest_44 (k := ?_)
        refine X11_digest_45 (k := ?_)
        refine X11_digest_46 (k := ?_)
        refine X11_digest_48 (k := ?_)
        refine X11_digest_49 (k := ?_)
        refine X11_digest_50 (k := ?_)
        refine s11_pipes ?_
        rw [e1', a0]
        refine X11_digest_53 (k := ?_)
        rw [show 4 * (P : Int) = ((4 * P : Nat) : Int) by omega]
        refine X11_digest_54 (k := ?_)
        refine s11_sums (s := 30) e1' (by omega) ?_
        refine X11_digest_57 (k := ?_)
        refine X11_digest_58 (k := ?_)
        refine X11_digest_59 (k := ?_)
        refine z_for 3 (fun x => JX11_digest (fun r' I2 => Q r r' I2) 60 [aR 60, aL (dgH A (dg (fun i => A (30 + i)) (dg (fun i => A (5 + i)) (dg (pHow A P L n) 983 7) (5 * L)) (4 * P)) x), aU, aI x] [] I2) ?_ (fun x hx ih => ?_) 0 (by decide)
        · refine X11_digest_60 (k := ?_)
          refine X11_digest_61 (k := ?_)
          refine X11_digest_62 (kt := fun k62 => ?_) (kf := fun k62 => ?_)
          · refine X11_digest_91 (k := ?_)
            refine X11_digest_92 (k := ?_)
            refine X11_digest_93 (k := ?_)
            refine X11_digest_95 (k := ?_)
            refine X11_digest_96 (k := ?_)
            refine X11_digest_97 (k := ?_)
            refine X11_digest_100 (k := ?_)
            refine X11_digest_101 (k := ?_)
            rw [e1', show (3 : Int).toNat = 3 from rfl, show A 3 = (((A 3).toNat : Nat) : Int) by omega]
            refine X11_digest_102 (k := ?_)
            rw [show 4 * (((A 3).toNat : Nat) : Int) = ((4 * (A 3).toNat : Nat) : Int) by omega]
            refine X11_digest_103 (k := ?_)
            refine s11_sums (s := 89) e1' (by omega) ?_
            refine X11_digest_106 (k := ?_)
            refine X11_digest_107 (k := ?_)
            refine X11_digest_110 (k := ?_)
            refine X11_digest_113 (k := ?_)
            refine X11_digest_114w (k := ?_)
            refine X11_digest_115 (k := ?_)
            refine X11_digest_116 (k := ?_)
            refine X11_digest_119w (k := ?_)
            refine X11_digest_120w (k := ?_)
            refine X11_digest_121 (k := ?_)
            refine X11_digest_122 (k := ?_)
            refine X11_digest_125w (k := ?_)
            refine X11_digest_126 (hq := ?_)
            have := g I2 hs
            rw [← hs.2.1, ← hs.2.2.1] at this
            exact this
          · omega
        · obtain ⟨h1, h2, h3⟩ := hH x hx
          obtain ⟨c, hc⟩ : ∃ c : Nat, A (62 + 9 * x) = c := ⟨(A (62 + 9 * x)).toNat, by omega⟩
          refine X11_digest_60 (k := ?_)
          refine X11_digest_61 (k := ?_)
          refine X11_digest_62 (kt := fun k62 => ?_) (kf := fun k62 => ?_)
          · omega
          · refine X11_digest_65 (k := ?_)
            refine X11_digest_66 (k := ?_)
            refine X11_digest_67 (k := ?_)
            refine X11_digest_69 (k := ?_)
            refine X11_digest_71 (k := ?_)
            refine X11_digest_72 (k := ?_)
            refine X11_digest_73 (k := ?_)
            refine X11_digest_74 (k := ?_)
            refine X11_digest_75 (k := ?_)
            refine X11_digest_76 (k := ?_)
            refine X11_digest_77 (k := ?_)
            refine s11_notes rfl hx ?_
            rw [e1', hc]
            refine X11_digest_80 (k := ?_)
            rw [show 1 + (c : Int) = ((1 + c : Nat) : Int) by omega, show 62 + 9 * (x : Int) = ((62 + 9 * x : Nat) : Int) by omega]
            refine X11_digest_81 (k := ?_)
            refine s11_sums e1' (by omega) ?_
            refine X11_digest_84 (k := ?_)
            refine X11_digest_85 (k := ?_)
            refine X11_digest_88 (k := ?_)
            rw [dgH, hc, Int.toNat_natCast] at ih
            exact ih
      · omega
    · intro I2 hs
      refine X11_digest_6 (k := ?_)
      refine X11_digest_7 (k := ?_)
      refine X11_digest_9 (kt := fun k9 => ?_) (kf := fun k9 => ?_)
      · omega
      · refine X11_digest_12 (k := ?_)
        refine X11_digest_15 (k := ?_)
        refine X11_digest_16w (k := ?_)
        refine X11_digest_17 (k := ?_)
        refine X11_digest_18 (k := ?_)
        refine X11_digest_19 (k := ?_)
        refine s11_counted hA ((hs.1 61 (by omega)).trans e1) (hs.2.2.2.trans e2) (by omega) (fun I3 hs2 => ?_)
        refine X11_digest_22 (k := ?_)
        refine X11_digest_23w (k := ?_)
        refine X11_digest_24 (k := ?_)
        refine X11_digest_25 (k := ?_)
        refine X11_digest_28 (k := ?_)
        exact ih I3 (smM_tr hs hs2)
  refine eX10_digest ?_
  refine X10_digest_0 (k := ?_)
  refine X10_digest_3 (k := ?_)
  refine X10_digest_4 (k := ?_)
  refine X10_digest_5 (k := ?_)
  refine z_for 7 (fun i => JX10_digest (fun r I1 => CX11_digest [aR 60] I1 (fun r' I2 => Q r r' I2)) 6 [aR 0, aL (dg (pHow A P L n) 983 i), aU, aI i] [] I) ?_ (fun i hi ih => ?_) 0 (by decide)
  · refine X10_digest_6 (k := ?_)
    refine X10_digest_7 (k := ?_)
    refine X10_digest_9 (kt := fun k9 => ?_) (kf := fun k9 => ?_)
    · refine X10_digest_31 (k := ?_)
      refine X10_digest_32 (k := ?_)
      refine X10_digest_35 (k := ?_)
      refine X10_digest_36 (k := ?_)
      refine x4_digestOn rfl hx ?_
      refine X10_digest_39 (k := ?_)
      refine X10_digest_40 (k := ?_)
      refine X10_digest_43 (k := ?_)
      refine X10_digest_44w (k := ?_)
      refine X10_digest_45 (k := ?_)
      refine X10_digest_46 (k := ?_)
      refine X10_digest_49w (k := ?_)
      refine X10_digest_50 (k := ?_)
      refine X10_digest_51 (k := ?_)
      refine X10_digest_54 (k := ?_)
      refine X10_digest_55w (k := ?_)
      refine X10_digest_56 (k := ?_)
      refine X10_digest_57 (k := ?_)
      refine X10_digest_60w (k := ?_)
      refine X10_digest_61 (hq := ?_)
      refine ref _ _ hAe.symm t2 (fun I2 hs => ?_)
      rw [← f1, ← f2]
      exact hq _ _ (RR_M h hs)
    · omega
  · refine X10_digest_6 (k := ?_)
    refine X10_digest_7 (k := ?_)
    refine X10_digest_9 (kt := fun k9 => ?_) (kf := fun k9 => ?_)
    · omega
    · refine X10_digest_12 (k := ?_)
      refine X10_digest_15 (k := ?_)
      refine X10_digest_16w (k := ?_)
      refine X10_digest_17 (k := ?_)
      refine X10_digest_18 (k := ?_)
      refine X10_digest_19 (k := ?_)
      refine s10_howMany hx t3 (by omega) ?_
      refine X10_digest_22 (k := ?_)
      refine X10_digest_23w (k := ?_)
      refine X10_digest_24 (k := ?_)
      refine X10_digest_25 (k := ?_)
      refine X10_digest_28 (k := ?_)
      exact ih
end PH

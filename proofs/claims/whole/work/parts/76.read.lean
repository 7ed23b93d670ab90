/-! read -/
section QR
variable {I I' : z_M} {B : Nat → Int} {n : Nat} {A A' : Nat → Int} {P L P' L' : Nat}
theorem s11_takesItem {Q : Int → z_M → Prop} {p : Nat} (hX : mX I B n) (hT : mT I B n p) (hp : p ≤ n) (hR : rowM I A) (hA : nA A) (h : ∀ (v : Int) (p1 : Nat) (A' : Nat → Int) (I' : z_M), rdR B n (rdItem B n A p) v p1 A' → p1 ≤ n → mX I' B n → mT I' B n p1 → (v = 1 → rowM I' A') → mfr I I' → Q v I') : CX11_takesItem [aR 60] I Q := by
  have h01 : ∀ {R : zPR} {v : Int} {p1 : Nat} {A' : Nat → Int}, rdR B n R v p1 A' → v = 0 ∨ v = 1 := fun q => by
    rcases q with ⟨q, -⟩ | ⟨q, -⟩
    · exact Or.inr q
    · exact Or.inl q
  unfold rdItem at h
  refine eX11_takesItem ?_
  refine X11_takesItem_0 (k := ?_)
  refine X11_takesItem_1 (k := ?_)
  refine X11_takesItem_2 (k := ?_)
  refine X11_takesItem_4 (k := ?_)
  refine X11_takesItem_6 (k := ?_)
  refine X11_takesItem_8 (k := ?_)
  refine X11_takesItem_10 (k := ?_)
  refine X11_takesItem_12 (k := ?_)
  refine s11_isCalled (i := 1) (by decide) hX.1 hX.2.2 hT hp (by decide +kernel) (fun e => ?_) (fun e => ?_)
  · rw [if_pos e] at h
    refine X11_takesItem_15 (kt := fun k15 => ?_) (kf := fun k15 => ?_)
    · omega
    refine X11_takesItem_18 (k := ?_)
    refine X11_takesItem_19 (k := ?_)
    refine s11_takesPlace hX hT hp hR hA (fun v p1 A' I1 g1 g2 g3 g4 g5 g6 => ?_)
    have := h01 g1
    refine X11_takesItem_22 (hq := ?_)
    exact h v p1 A' I1 g1 g2 g3 g4 g5 g6
  · rw [if_neg (by rw [e]; decide)] at h
    refine X11_takesItem_15 (kt := fun k15 => ?_) (kf := fun k15 => ?_)
    rotate_left 1
    · omega
    refine X11_takesItem_23 (k := ?_)
    refine X11_takesItem_24 (k := ?_)
    refine X11_takesItem_25 (k := ?_)
    refine X11_takesItem_27 (k := ?_)
    refine X11_takesItem_29 (k := ?_)
    refine X11_takesItem_31 (k := ?_)
    refine X11_takesItem_33 (k := ?_)
    refine X11_takesItem_34 (k := ?_)
    refine s11_isCalled (i := 2) (by decide) hX.1 hX.2.2 hT hp (by decide +kernel) (fun e => ?_) (fun e => ?_)
    · rw [if_pos e] at h
      refine X11_takesItem_37 (kt := fun k37 => ?_) (kf := fun k37 => ?_)
      · omega
      refine X11_takesItem_40 (k := ?_)
      refine X11_takesItem_41 (k := ?_)
      refine s11_takesPipe hX hT hp hR hA (fun v p1 A' I1 g1 g2 g3 g4 g5 g6 => ?_)
      have := h01 g1
      refine X11_takesItem_44 (hq := ?_)
      exact h v p1 A' I1 g1 g2 g3 g4 g5 g6
    · rw [if_neg (by rw [e]; decide)] at h
      refine X11_takesItem_37 (kt := fun k37 => ?_) (kf := fun k37 => ?_)
      rotate_left 1
      · omega
      refine X11_takesItem_45 (k := ?_)
      refine X11_takesItem_46 (k := ?_)
      refine X11_takesItem_47 (k := ?_)
      refine X11_takesItem_49 (k := ?_)
      refine X11_takesItem_51 (k := ?_)
      refine X11_takesItem_53 (k := ?_)
      refine X11_takesItem_55 (k := ?_)
      refine X11_takesItem_56 (k := ?_)
      refine s11_isCalled (i := 3) (by decide) hX.1 hX.2.2 hT hp (by decide +kernel) (fun e => ?_) (fun e => ?_)
      · rw [if_pos e] at h
        refine X11_takesItem_59 (kt := fun k59 => ?_) (kf := fun k59 => ?_)
        · omega
        refine X11_takesItem_62 (k := ?_)
        refine X11_takesItem_63 (k := ?_)
        refine s11_takesHymn hX hT hp hR hA (fun v p1 A' I1 g1 g2 g3 g4 g5 g6 => ?_)
        have hv := h01 g1
        refine X11_takesItem_66 (kt := fun k66 => ?_) (kf := fun k66 => ?_)
        · refine X11_takesItem_73 (k := ?_)
          refine X11_takesItem_74 (hq := ?_)
          have : v = 0 := by omega
          subst this
          exact h 0 p1 A' I1 g1 g2 g3 g4 g5 g6
        · refine X11_takesItem_69 (k := ?_)
          refine X11_takesItem_70 (k := ?_)
          refine X11_takesItem_74 (hq := ?_)
          have : v = 1 := by omega
          subst this
          exact h 1 p1 A' I1 g1 g2 g3 g4 g5 g6
      · rw [if_neg (by rw [e]; decide)] at h
        refine X11_takesItem_59 (kt := fun k59 => ?_) (kf := fun k59 => ?_)
        · refine X11_takesItem_73 (k := ?_)
          refine X11_takesItem_74 (hq := ?_)
          exact h 0 p A I (Or.inr ⟨rfl, rfl⟩) hp hX hT (fun z => absurd z (by decide)) (mfr_m mf_r)
        · omega
theorem s11_read {Q : Int → z_M → Prop} (hX : mX I B n) (h1 : ∀ (c : Nat) (A' : Nat → Int) (I' : z_M), rdAll B n = .inr (c, A') → nA A' → (∀ j, j < 113 → I' 61 j = A' j) → (∀ k, k ≠ 60 → k ≠ 61 → k ≠ 72 → k ≠ 73 → I' k = I k) → (∀ j, j < 17 ∨ 20 < j → I' 60 j = I 60 j) → Q c I') (h0 : ∀ (q : Nat) (I' : z_M), rdAll B n = .inl q → mfr I I' → Q (-10 - q) I') : CX11_read [aR 60] I Q := by
  have hn := hX.1
  unfold rdAll at h1 h0
  refine eX11_read ?_
  refine X11_read_0 (k := ?_)
  refine X11_read_1 (k := ?_)
  refine X11_read_2 (k := ?_)
  refine s11_lookAt (p := 0) hX.1 hX.2.1 (Nat.zero_le _) hX.2.2 (fun I1 T1 f1 => ?_)
  have X1 := mX_m hX f1
  have ha0 := tkE_r (B := B) (Nat.zero_le n)
  refine X11_read_5 (k := ?_)
  refine X11_read_6 (k := ?_)
  refine X11_read_7 (k := ?_)
  refine X11_read_9 (k := ?_)
  refine X11_read_11 (k := ?_)
  refine X11_read_13 (k := ?_)
  refine X11_read_15 (k := ?_)
  refine X11_read_17 (k := ?_)
  refine s11_isCalled (i := 0) (by decide) X1.1 X1.2.2 T1 (Nat.zero_le _) (by decide +kernel) (fun e => ?_) (fun e => ?_)
  · rw [if_pos e] at h1 h0
    refine X11_read_20 (kt := fun k20 => ?_) (kf := fun k20 => ?_)
    rotate_left 1
    · omega
    refine X11_read_31 (k := ?_)
    refine X11_read_32 (k := ?_)
    refine x11_goBehind X1 T1 (Nat.zero_le _) (fun I2 X2 T2 f2 => ?_)
    have fr2 : mfr I I2 := mfr_t (mfr_m f1) (mfr_m f2)
    refine X11_read_35 (k := ?_)
    refine X11_read_36 (k := ?_)
    rw [T2.2.2.1]
    refine X11_read_39 (k := ?_)
    refine X11_read_40 (kt := fun k40 => ?_) (kf := fun k40 => ?_)
    · have e3 : tkS B n (tkE B n 0) = 3 := by assumption
      rw [if_pos e3] at h1 h0
      have b3 := tk_g (B := B) ha0.2.2 e3 (by decide)
      refine X11_read_51 (k := ?_)
      refine X11_read_52 (k := ?_)
      refine x11_goBehind X2 T2 ha0.2.2 (fun I3 X3 T3 f3 => ?_)
      have fr3 : mfr I I3 := mfr_t fr2 (mfr_m f3)
      refine X11_read_55 (k := ?_)
      refine X11_read_56 (k := ?_)
      refine X11_read_59 (k := ?_)
      refine s11_begin rfl (by decide) (fun I4 z0 z1 zf => ?_)
      have fr34 : mfr I3 I4 := ⟨fun k k1 k2 k3 => zf k k2, fun j hj => by rw [zf 60 (by decide)]⟩
      have loop : ∀ (f c : Nat), c + f = 151 → ∀ (J : z_M) (p : Nat) (C : Nat → Int) (v2 : z_V), mX J B n → mT J B n p → p ≤ n → c ≤ p → rowM J C → nA C → mfr I J → (∀ (c' : Nat) (A' : Nat → Int) (I' : z_M), rdItems B n f c C p = .inr (c', A') → nA A' → (∀ j, j < 113 → I' 61 j = A' j) → (∀ k, k ≠ 60 → k ≠ 61 → k ≠ 72 → k ≠ 73 → I' k = I k) → (∀ j, j < 17 ∨ 20 < j → I' 60 j = I 60 j) → Q c' I') → (∀ (q : Nat) (I' : z_M), rdItems B n f c C p = .inl q → mfr I I' → Q (-10 - q) I') → JX11_read Q 64 [aR 60, aI c, aU] [] J := by
        intro f
        induction f with
        | zero =>
          intro c hc J p C v2 X T hp hcp hR hN fr k1 k0
          omega
        | succ f ih =>
          intro c hc J p C v2 X T hp hcp hR hN fr k1 k0
          rw [rdItems] at k1 k0
          have hr := tkE_r (B := B) hp
          refine X11_read_64 (k := ?_)
          refine X11_read_65 (k := ?_)
          rw [T.2.2.1]
          refine X11_read_68 (kt := fun k68 => ?_) (kf := fun k68 => ?_)
          · rw [if_pos (by assumption)] at k1
            refine X11_read_104 (k := ?_)
            refine X11_read_105 (k := ?_)
            refine z_for 113 (fun i => ∀ J2 : z_M, (∀ j, j < i → J2 61 j = C j) → (∀ k, k ≠ 61 → J2 k = J k) → JX11_read Q 106 [aR 60, aI c, aI i] [] J2) ?_ (fun i hi ih2 => ?_) 0 (Nat.zero_le _) J (fun j hj => absurd hj (Nat.not_lt_zero j)) (fun _ _ => rfl)
            · intro J2 y1 y2
              refine X11_read_106 (k := ?_)
              refine X11_read_107 (k := ?_)
              refine X11_read_109 (kt := fun k109 => ?_) (kf := fun k109 => ?_)
              · refine X11_read_130 (k := ?_)
                refine X11_read_131 (hq := ?_)
                exact k1 c C J2 rfl hN y1 (fun k q1 q2 q3 q4 => by rw [y2 k q2, fr.1 k q1 q3 q4]) (fun j hj => by rw [y2 60 (by decide), fr.2 j hj])
              · omega
            · intro J2 y1 y2
              refine X11_read_106 (k := ?_)
              refine X11_read_107 (k := ?_)
              refine X11_read_109 (kt := fun k109 => ?_) (kf := fun k109 => ?_)
              · omega
              · refine X11_read_112 (k := ?_)
                refine X11_read_113 (k := ?_)
                refine X11_read_116 (k := ?_)
                refine X11_read_117 (k := ?_)
                refine X11_read_118 (k := ?_)
                refine X11_read_121 (k := ?_)
                refine X11_read_122 (k := ?_)
                rw [Int.toNat_natCast, y2 72 (by decide), hR i hi]
                refine X11_read_123 (k := ?_)
                rw [Int.toNat_natCast]
                refine X11_read_124 (k := ?_)
                refine X11_read_127 (k := ?_)
                refine ih2 _ (fun j hj => ?_) (fun k hk => by rw [z_up_n hk]; exact y2 k hk)
                rw [z_up_s]
                by_cases w : j = i
                · subst w
                  rw [zu_s]
                · rw [zu_n w]
                  exact y1 j (by omega)
          · rw [if_neg (by assumption)] at k1 k0
            refine X11_read_71 (k := ?_)
            refine X11_read_72 (k := ?_)
            refine s11_takesItem X T hp hR hN (fun v p1 A' J1 g1 g2 g3 g4 g5 g6 => ?_)
            rcases g1 with ⟨rfl, g1⟩ | ⟨rfl, g1⟩
            · refine X11_read_75 (kt := fun k75 => ?_) (kf := fun k75 => ?_)
              · omega
              refine X11_read_78 (k := ?_)
              refine X11_read_79 (k := ?_)
              rw [g4.2.2.1]
              unfold rdS at g1
              refine X11_read_82 (k := ?_)
              refine X11_read_83 (kt := fun k83 => ?_) (kf := fun k83 => ?_)
              · have s3 : tkS B n p1 = 3 := by assumption
                rw [if_pos s3] at g1
                have hg := rdItem_g hp g1
                rw [g1, rdGo] at k1 k0
                refine X11_read_94 (k := ?_)
                refine X11_read_95 (k := ?_)
                refine x11_goBehind g3 g4 g2 (fun J2 X2 T2 f2 => ?_)
                refine X11_read_98 (k := ?_)
                refine X11_read_101 (k := ?_)
                exact ih (c + 1) (by omega) J2 (tkE B n p1) A' aU X2 T2 hg.2 (by have := hg.1; dsimp only at this; omega) (fun j hj => by rw [f2.1 72 (by decide)]; exact g5 rfl j hj) (rdItem_n hN g1) (mfr_t (mfr_t fr g6) (mfr_m f2)) k1 k0
              · rw [if_neg (by assumption)] at g1
                rw [g1, rdGo] at k0
                have := tkE_r (B := B) g2
                refine X11_read_86 (k := ?_)
                refine X11_read_88 (k := ?_)
                refine X11_read_89 (k := ?_)
                rw [g4.1]
                refine X11_read_92 (k := ?_)
                refine X11_read_93 (hq := ?_)
                exact k0 _ J1 rfl (mfr_t fr g6)
            · rw [g1, rdGo] at k0
              have := tkE_r (B := B) g2
              refine X11_read_75 (kt := fun k75 => ?_) (kf := fun k75 => ?_)
              rotate_left 1
              · omega
              refine X11_read_86 (k := ?_)
              refine X11_read_88 (k := ?_)
              refine X11_read_89 (k := ?_)
              rw [g4.1]
              refine X11_read_92 (k := ?_)
              refine X11_read_93 (hq := ?_)
              exact k0 _ J1 rfl (mfr_t fr g6)
      refine X11_read_62 (k := ?_)
      refine X11_read_63 (k := ?_)
      exact loop 150 1 rfl I4 _ (fun _ => 0) aU (mX_f X3 fr34) (by unfold mT; rw [zf 60 (by decide)]; exact T3) b3.2 (by omega) z0 nA_z (mfr_t fr3 fr34) h1 h0
    · rw [if_neg (by assumption)] at h0
      have := tkE_r (B := B) ha0.2.2
      refine X11_read_43 (k := ?_)
      refine X11_read_45 (k := ?_)
      refine X11_read_46 (k := ?_)
      rw [T2.1]
      refine X11_read_49 (k := ?_)
      refine X11_read_50 (hq := ?_)
      exact h0 _ I2 rfl fr2
  · rw [if_neg (by rw [e]; decide)] at h0
    refine X11_read_20 (kt := fun k20 => ?_) (kf := fun k20 => ?_)
    · omega
    refine X11_read_23 (k := ?_)
    refine X11_read_25 (k := ?_)
    refine X11_read_26 (k := ?_)
    rw [T1.1]
    refine X11_read_29 (k := ?_)
    refine X11_read_30 (hq := ?_)
    exact h0 _ I1 rfl (mfr_m f1)
theorem rp_113 {b : Nat} (h : rp I b A) (h4 : A 4 = 0) (e : ∀ j, j < 113 → A' j = A j) : rp I b A' := by
  obtain ⟨P, L, hs, hh, hr, o, U, u1, u2, u3, u4, u5, u6⟩ := h
  have : U = 0 := by omega
  subst this
  exact ⟨P, L, rpS_cg hs (fun _ _ _ _ => rfl) ⟨rfl, rfl, rfl⟩ (fun j j1 _ _ => e j (by omega)), rpH_cg hh rfl rfl (fun j _ j2 => e j (by omega)), rpR_cg hr rfl rfl (e 3 (by decide)) (fun j _ j2 => e j j2) (Nat.le_refl _) (Nat.le_refl _), o, 0, u1, u2, u3, by rw [e 4 (by decide)]; exact u4, u5, fun u hu => absurd hu (Nat.not_lt_zero u)⟩
theorem t_read {Q : Int → Int → z_M → Prop} (h : RR I) (hq : ∀ r I', RR I' → Q r r I') : CX10_read [aR 0] I (fun r I1 => CX11_read [aR 60] I1 (fun r' I2 => Q r r' I2)) := by
  obtain ⟨-, -, ⟨n, t1, t2, t3, t4⟩, -⟩ := id h
  have hX : cX I (I 55) n := ⟨t1, t3, rfl, fun k hk => by rw [(t4 k hk).1]; exact (t4 k hk).2⟩
  have mx : ∀ I1 : z_M, (∀ k, 60 ≤ k → I1 k = I k) → mX I1 (I 55) n := fun I1 e => ⟨t1, by rw [e 60 (by decide)]; exact t2, fun k hk => by
    rw [e 71 (by decide)]
    obtain ⟨a, b⟩ := t4 k hk
    rw [a]
    exact ⟨rfl, b⟩⟩
  refine eX10_read ?_
  refine X10_read_0 (k := ?_)
  refine X10_read_1 (k := ?_)
  refine X10_read_4 (k := ?_)
  refine X10_read_5 (k := ?_)
  refine X10_read_8 (k := ?_)
  refine s8_readInto hX (fun c A' I1 g1 g2 g3 g4 => ?_) (fun q I1 g1 g5 g2 g4 => ?_)
  · refine X10_read_11 (k := ?_)
    refine X10_read_12 (k := ?_)
    refine X10_read_13 (kt := fun k13 => ?_) (kf := fun k13 => ?_)
    · omega
    refine X10_read_16 (k := ?_)
    refine X10_read_17 (k := ?_)
    refine X10_read_20 (k := ?_)
    refine X10_read_21 (k := ?_)
    refine X10_read_24 (k := ?_)
    refine s4_takeAll rfl rfl (by omega) (fun I2 e1 ef => ?_)
    have er : ∀ k, (k < 8 ∨ 29 < k) → k ≠ 54 → k ≠ 56 → I2 k = I k := fun k k1 k2 k3 => by
      rw [ef k (by omega)]
      exact g4 k (by omega)
    refine X10_read_27 (k := ?_)
    refine X10_read_28 (hq := ?_)
    refine s11_read (mx I2 (fun k hk => er k (by omega) (by omega) (by omega))) (fun c2 A2 I3 y1 y2 y3 y4 y5 => ?_) (fun q I3 y1 y2 => ?_)
    · rw [g1] at y1
      cases y1
      refine hq _ _ (RR_now h ?_ (fun k hk => by rw [y4 k (by omega) (by omega) (by omega) (by omega)]; exact er k (by omega) (by omega) (by omega)) ?_ ?_ ?_ ?_)
      · refine rp_113 (A := A') ?_ y2.1 y3
        exact rp_cg (rp_cp g3 e1) (fun k k1 k2 => y4 k (by omega) (by omega) (by omega) (by omega))
      · rw [y4 54 (by decide) (by decide) (by decide) (by decide), ef 54 (by decide), g2.2.1, t3]
      · rw [y5 4 (by decide), er 60 (by decide) (by decide) (by decide)]
      · rw [y5 5 (by decide), er 60 (by decide) (by decide) (by decide)]
      · rw [y5 16 (by decide), er 60 (by decide) (by decide) (by decide)]
    · rw [g1] at y1
      cases y1
  · refine X10_read_11 (k := ?_)
    refine X10_read_12 (k := ?_)
    refine X10_read_13 (kt := fun k13 => ?_) (kf := fun k13 => ?_)
    rotate_left 1
    · omega
    refine X10_read_27 (k := ?_)
    refine X10_read_28 (hq := ?_)
    refine s11_read (mx I1 (fun k hk => g4 k (by omega))) (fun c2 A2 I3 y1 y2 y3 y4 y5 => ?_) (fun q2 I3 y1 y2 => ?_)
    · rw [g1] at y1
      cases y1
    · rw [g1] at y1
      cases y1
      refine hq _ _ (RR_M (RR_C h ⟨fun k hk => g4 k (by omega), by rw [g2.2.1, t3]⟩) ⟨fun k hk => y2.1 k (by omega) (by omega) (by omega), y2.2 4 (by decide), y2.2 5 (by decide), y2.2 16 (by decide)⟩)
end QR

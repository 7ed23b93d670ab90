/-! pipe, note, hush, reading, forget -/
section O2
variable {I I' : z_M} {b : Nat} {A A' : Nat → Int} {P L P' L' : Nat}
theorem s4_addPipe {Q : Int → z_M → Prop} (hb : z_cl b = 4) {v0 v1 : Int} (hP : I b 2 = P) (h0 : 8 ≤ P → Q 0 I) (h1 : P < 8 → ∀ I', I' (b + 2) = zu (I (b + 2)) P v0 → I' (b + 3) = zu (I (b + 3)) P v1 → I' (b + 4) = zu (I (b + 4)) P (-1) → I' (b + 5) = zu (I (b + 5)) P 0 → I' b = zu (I b) 2 (P + 1) → (∀ k, k < b ∨ k = b + 1 ∨ b + 5 < k → I' k = I k) → Q 1 I') : CX4_addPipe [aR b, aI v0, aI v1] I Q := by
  obtain ⟨o1, o2, o3, o4, o5, o6, o7, o8, o9, o10, n1, n2, n3, n4, n5, n6, n7, n8, n10⟩ := z_o hb
  refine eX4_addPipe ?_
  refine X4_addPipe_0 (k := ?_)
  refine X4_addPipe_1 (k := ?_)
  refine X4_addPipe_4 (k := ?_)
  refine X4_addPipe_6 (kt := fun k6 => ?_) (kf := fun k6 => ?_)
  · rw [hP] at k6
    refine X4_addPipe_11 (k := ?_)
    refine X4_addPipe_12 (k := ?_)
    refine X4_addPipe_15 (k := ?_)
    refine X4_addPipe_16 (k := ?_)
    rw [hP]
    refine X4_addPipe_19 (k := ?_)
    refine X4_addPipe_20 (k := ?_)
    refine X4_addPipe_21 (k := ?_)
    refine X4_addPipe_22 (k := ?_)
    refine X4_addPipe_25 (k := ?_)
    refine X4_addPipe_26 (k := ?_)
    (try simp (disch := omega) only [z_up_n, z_up_s, zu_s, zu_n, Int.toNat_natCast])
    rw [hP]
    refine X4_addPipe_29 (k := ?_)
    refine X4_addPipe_30 (k := ?_)
    refine X4_addPipe_31 (k := ?_)
    refine X4_addPipe_32 (k := ?_)
    refine X4_addPipe_33 (k := ?_)
    (try simp (disch := omega) only [z_up_n, z_up_s, zu_s, zu_n, Int.toNat_natCast])
    rw [hP]
    refine X4_addPipe_36 (k := ?_)
    refine s4_bringHome hb (by omega) ?_
    refine X4_addPipe_39 (k := ?_)
    refine X4_addPipe_40 (k := ?_)
    refine X4_addPipe_41 (k := ?_)
    (try simp (disch := omega) only [z_up_n, z_up_s, zu_s, zu_n, Int.toNat_natCast])
    rw [hP]
    refine X4_addPipe_44 (k := ?_)
    refine X4_addPipe_45 (k := ?_)
    refine X4_addPipe_46 (k := ?_)
    refine X4_addPipe_49 (k := ?_)
    refine X4_addPipe_50 (hq := ?_)
    refine h1 (by omega) _ ?_ ?_ ?_ ?_ ?_ (fun k hk => ?_)
    all_goals (try simp (disch := omega) only [z_up_n, z_up_s, zu_s, zu_n, Int.toNat_natCast])
  · refine X4_addPipe_9 (k := ?_)
    refine X4_addPipe_10 (hq := ?_)
    exact h0 (by omega)
theorem s11_layPipe {Q : z_M → Prop} {r : Nat} (hr : z_cl r = 20) (hn : 113 ≤ z_n r) {v0 v1 : Int} (hP : I r 0 = P) (hP8 : P < 8) (h : ∀ I', I' r = zu (row4 (I r) (30 + 4 * P) v0 v1 (-1) 0) 0 (P + 1) → (∀ k, k ≠ r → I' k = I k) → Q I') : CX11_layPipe [aR r, aI v0, aI v1] I Q := by
  refine eX11_layPipe ?_
  refine X11_layPipe_0 (k := ?_)
  refine X11_layPipe_2 (k := ?_)
  refine X11_layPipe_3 (k := ?_)
  refine X11_layPipe_4 (k := ?_)
  refine X11_layPipe_5 (k := ?_)
  rw [show (0 : Int).toNat = 0 from rfl, hP]
  refine X11_layPipe_6 (k := ?_)
  refine X11_layPipe_7 (k := ?_)
  refine X11_layPipe_8 (k := ?_)
  refine X11_layPipe_9 (k := ?_)
  refine X11_layPipe_10 (k := ?_)
  refine X11_layPipe_11 (k := ?_)
  refine X11_layPipe_12 (k := ?_)
  refine X11_layPipe_13 (k := ?_)
  refine X11_layPipe_14 (k := ?_)
  refine X11_layPipe_15 (k := ?_)
  refine X11_layPipe_16 (k := ?_)
  refine X11_layPipe_17 (k := ?_)
  refine X11_layPipe_18 (k := ?_)
  refine X11_layPipe_19 (k := ?_)
  refine X11_layPipe_20 (k := ?_)
  refine X11_layPipe_21 (k := ?_)
  refine X11_layPipe_22 (k := ?_)
  refine X11_layPipe_23 (k := ?_)
  refine X11_layPipe_24 (k := ?_)
  refine X11_layPipe_25 (k := ?_)
  refine X11_layPipe_26 (k := ?_)
  refine X11_layPipe_27 (k := ?_)
  refine X11_layPipe_28 (k := ?_)
  refine X11_layPipe_29 (k := ?_)
  refine X11_layPipe_30 (k := ?_)
  refine X11_layPipe_31 (k := ?_)
  refine X11_layPipe_32 (k := ?_)
  refine X11_layPipe_33 (k := ?_)
  refine X11_layPipe_34 (k := ?_)
  refine X11_layPipe_35 (k := ?_)
  refine X11_layPipe_36 (k := ?_)
  rw [show (30 + 4 * (P : Int) + 0).toNat = 30 + 4 * P by omega, show (30 + 4 * (P : Int) + 1).toNat = 30 + 4 * P + 1 by omega, show (30 + 4 * (P : Int) + 2).toNat = 30 + 4 * P + 2 by omega, show (30 + 4 * (P : Int) + 3).toNat = 30 + 4 * P + 3 by omega, show (0 : Int).toNat = 0 from rfl]
  (try simp (disch := omega) only [z_up_n, z_up_s, zu_s, zu_n, Int.toNat_natCast])
  rw [hP]
  refine X11_layPipe_37 (k := ?_)
  refine X11_layPipe_38 (k := ?_)
  refine X11_layPipe_39 (k := ?_)
  refine X11_layPipe_40 (hq := ?_)
  refine h _ ?_ (fun k hk => by (try simp (disch := omega) only [z_up_n, z_up_s, zu_s, zu_n, Int.toNat_natCast]))
  (try simp (disch := omega) only [z_up_n, z_up_s, zu_s, zu_n, Int.toNat_natCast])
  rfl
theorem rpS_pipe {v0 v1 : Int} (h : rpS I b A P L) (hP : P < 8) (r0 : 0 ≤ v0 ∧ v0 ≤ 5) (r1 : 0 ≤ v1 ∧ v1 ≤ 35)
    (e2 : I' (b + 2) = zu (I (b + 2)) P v0) (e3 : I' (b + 3) = zu (I (b + 3)) P v1) (e4 : I' (b + 4) = zu (I (b + 4)) P (-1)) (e5 : I' (b + 5) = zu (I (b + 5)) P 0) (e0 : I' b = zu (I b) 2 (P + 1)) (e1 : I' (b + 1) = I (b + 1)) (eP : ∀ j, j < 4 → A' (30 + 4 * P + j) = row4 A (30 + 4 * P) v0 v1 (-1) 0 (30 + 4 * P + j)) (eA0 : A' 0 = P + 1) (eA : ∀ j, j < 62 → j ≠ 0 → j ≠ 3 → j ≠ 4 → (j < 30 + 4 * P ∨ 30 + 4 * P + 3 < j) → A' j = A j) : rpS I' b A' (P + 1) L := by
  obtain ⟨⟨i0, i1, i2, i3, i4⟩, s2, ⟨a0, a1, a2, a3, a4, a5⟩, s4⟩ := h
  obtain ⟨d0, d1, d2, d3⟩ := row4_at (f := A) (s := 30 + 4 * P) (v0 := v0) (v1 := v1) (v2 := -1) (v3 := 0)
  have f0 := (eP 0 (by decide)).trans d0
  have f1 := (eP 1 (by decide)).trans d1
  have f2 := (eP 2 (by decide)).trans d2
  have f3 := (eP 3 (by decide)).trans d3
  rw [Nat.add_zero] at f0
  refine ⟨⟨?_, ?_, ?_, fun x hx => ?_, fun p hp => ?_⟩, fun x hx => ?_, ⟨by rw [eA0]; omega, by rw [eA 1 (by omega) (by omega) (by omega) (by omega) (by omega)]; exact a1, by omega, a3, fun x hx => ?_, fun p hp => ?_⟩, fun p hp => ?_⟩
  · rw [e0, zu_n (by decide), eA 2 (by omega) (by omega) (by omega) (by omega) (by omega)]; exact i0
  · rw [e0, zu_n (by decide)]; exact i1
  · rw [e0, zu_s]; rfl
  · dsimp only
    rw [e1, eA (5 + 5 * x) (by omega) (by omega) (by omega) (by omega) (by omega), eA (5 + 5 * x + 1) (by omega) (by omega) (by omega) (by omega) (by omega), eA (5 + 5 * x + 2) (by omega) (by omega) (by omega) (by omega) (by omega)]
    exact i3 x hx
  · dsimp only
    rw [e2, e3, e4, e5]
    by_cases z : p = P
    · subst z
      rw [zu_s, zu_s, zu_s, zu_s, f0, f1, f2, f3]
      exact ⟨rfl, rfl, rfl, rfl⟩
    · rw [zu_n z, zu_n z, zu_n z, zu_n z, eA (30 + 4 * p) (by omega) (by omega) (by omega) (by omega) (by omega), eA (30 + 4 * p + 1) (by omega) (by omega) (by omega) (by omega) (by omega), eA (30 + 4 * p + 2) (by omega) (by omega) (by omega) (by omega) (by omega), eA (30 + 4 * p + 3) (by omega) (by omega) (by omega) (by omega) (by omega)]
      exact i4 p (by omega)
  · rw [e1, eA (5 + 5 * x + 3) (by omega) (by omega) (by omega) (by omega) (by omega), eA (5 + 5 * x + 4) (by omega) (by omega) (by omega) (by omega) (by omega)]
    exact s2 x hx
  · rw [eA (5 + 5 * x) (by omega) (by omega) (by omega) (by omega) (by omega), eA (5 + 5 * x + 1) (by omega) (by omega) (by omega) (by omega) (by omega), eA (5 + 5 * x + 2) (by omega) (by omega) (by omega) (by omega) (by omega), eA (5 + 5 * x + 3) (by omega) (by omega) (by omega) (by omega) (by omega), eA (5 + 5 * x + 4) (by omega) (by omega) (by omega) (by omega) (by omega)]
    exact a4 x hx
  · by_cases z : p = P
    · subst z
      rw [f0, f1]
      exact ⟨r0, r1⟩
    · rw [eA (30 + 4 * p) (by omega) (by omega) (by omega) (by omega) (by omega), eA (30 + 4 * p + 1) (by omega) (by omega) (by omega) (by omega) (by omega)]
      exact a5 p (by omega)
  · dsimp only
    by_cases z : p = P
    · subst z
      rw [f0, f2, f3]
      exact ⟨r0, by omega, fun _ => rfl⟩
    · rw [eA (30 + 4 * p) (by omega) (by omega) (by omega) (by omega) (by omega), eA (30 + 4 * p + 2) (by omega) (by omega) (by omega) (by omega) (by omega), eA (30 + 4 * p + 3) (by omega) (by omega) (by omega) (by omega) (by omega)]
      exact s4 p (by omega)
theorem t_pipe {Q : Int → Int → z_M → Prop} {x0 x1 : Int} (h : RR I) (hq : ∀ r I', RR I' → Q r r I') : CX10_pipe [aR 0, aI x0, aI x1] I (fun r I1 => CX11_pipe [aR 60, aI x0, aI x1] I1 (fun r' I2 => Q r r' I2)) := by
  obtain ⟨⟨P, L, hs, hh, hr, hu⟩, -⟩ := id h
  obtain ⟨⟨i0, i1, i2, i3, i4⟩, s2, ⟨a0, a1, a2, a3, a4, a5⟩, s4⟩ := id hs
  have ref : ∀ (I1 : z_M) (r : Int), I1 61 0 = P → ((0 ≤ x0 ∧ x0 ≤ 5) ∧ (0 ≤ x1 ∧ x1 ≤ 35) → P < 8 → ∀ I2, I2 61 = zu (zu (row4 (I1 61) (30 + 4 * P) x0 x1 (-1) 0) 0 (P + 1)) 4 0 → (∀ k, k ≠ 61 → I2 k = I1 k) → Q r P I2) → ((0 ≤ x0 ∧ x0 ≤ 5) ∧ (0 ≤ x1 ∧ x1 ≤ 35) → P = 8 → Q r (-4) (z_up I1 64 2 (i32 (I1 64 2 + 1)))) → (¬ ((0 ≤ x0 ∧ x0 ≤ 5) ∧ (0 ≤ x1 ∧ x1 ≤ 35)) → Q r (-2) (z_up I1 64 0 (i32 (I1 64 0 + 1)))) → CX11_pipe [aR 60, aI x0, aI x1] I1 (fun r' I2 => Q r r' I2) := by
    intro I1 r e g1 g2 g0
    refine eX11_pipe ?_
    refine X11_pipe_0 (k := ?_)
    refine X11_pipe_1 (k := ?_)
    refine X11_pipe_2 (k := ?_)
    refine X11_pipe_3 (k := ?_)
    refine X11_pipe_6 (k := ?_)
    refine s11_in (fun u6 u6b => ?_) (fun u6 => ?_)
    · refine X11_pipe_9 (kt := fun z => absurd z (by decide)) (kf := fun _ => ?_)
      refine X11_pipe_12 (k := ?_)
      refine X11_pipe_13 (k := ?_)
      refine X11_pipe_14 (k := ?_)
      refine X11_pipe_15 (k := ?_)
      refine X11_pipe_18 (k := ?_)
      refine s11_in (fun u18 u18b => ?_) (fun u18 => ?_)
      · refine X11_pipe_21 (kt := fun _ => ?_) (kf := fun z => absurd z (by decide))
        refine X11_pipe_31 (k := ?_)
        refine X11_pipe_32 (k := ?_)
        refine s11_pipes ?_
        refine X11_pipe_35 (k := ?_)
        refine X11_pipe_37 (kt := fun k37 => ?_) (kf := fun k37 => ?_)
        · have g1 := g1 (by omega) (by omega)
          refine X11_pipe_45 (k := ?_)
          refine X11_pipe_46 (k := ?_)
          refine X11_pipe_49 (k := ?_)
          refine X11_pipe_50 (k := ?_)
          refine X11_pipe_51 (k := ?_)
          refine s11_layPipe rfl (by decide) e (by omega) (fun I2 e2 ef => ?_)
          refine X11_pipe_54 (k := ?_)
          refine X11_pipe_55 (k := ?_)
          refine X11_pipe_58 (k := ?_)
          refine X11_pipe_59 (k := ?_)
          refine X11_pipe_60 (k := ?_)
          refine X11_pipe_61 (k := ?_)
          refine X11_pipe_62 (k := ?_)
          refine s11_pipes ?_
          (try simp (disch := omega) only [z_up_n, z_up_s, zu_s, zu_n, Int.toNat_natCast])
          rw [e2]
          (try simp (disch := omega) only [z_up_n, z_up_s, zu_s, zu_n, Int.toNat_natCast])
          refine X11_pipe_65 (k := ?_)
          refine X11_pipe_66 (k := ?_)
          refine X11_pipe_67 (hq := ?_)
          rw [show (P : Int) + 1 - 1 = P by omega]
          refine g1 _ ?_ (fun k hk => ?_)
          · rw [z_up_s, e2]
            rfl
          · rw [z_up_n hk]
            exact ef k hk
        · refine X11_pipe_40 (k := ?_)
          refine X11_pipe_41 (k := ?_)
          refine s11_full ?_
          refine X11_pipe_44 (hq := ?_)
          exact g2 (by omega) (by omega)
      · refine X11_pipe_21 (kt := fun z => absurd z (by decide)) (kf := fun _ => ?_)
        refine X11_pipe_24 (k := ?_)
        refine X11_pipe_25 (k := ?_)
        refine X11_pipe_27 (k := ?_)
        refine s11_bad ?_
        refine X11_pipe_30 (hq := ?_)
        exact g0 (by omega)
    · refine X11_pipe_9 (kt := fun _ => ?_) (kf := fun z => absurd z (by decide))
      refine X11_pipe_24 (k := ?_)
      refine X11_pipe_25 (k := ?_)
      refine X11_pipe_27 (k := ?_)
      refine s11_bad ?_
      refine X11_pipe_30 (hq := ?_)
      exact g0 (by omega)
  refine eX10_pipe ?_
  refine X10_pipe_0 (k := ?_)
  refine X10_pipe_1 (k := ?_)
  refine X10_pipe_2 (k := ?_)
  refine s10_isUpTo (fun u2 u2b => ?_) (fun u2 => ?_)
  · refine X10_pipe_5 (kt := fun z => absurd z (by decide)) (kf := fun _ => ?_)
    refine X10_pipe_8 (k := ?_)
    refine X10_pipe_9 (k := ?_)
    refine X10_pipe_11 (k := ?_)
    refine s10_isUpTo (fun u11 u11b => ?_) (fun u11 => ?_)
    · refine X10_pipe_14 (kt := fun _ => ?_) (kf := fun z => absurd z (by decide))
      refine X10_pipe_22 (k := ?_)
      refine X10_pipe_23 (k := ?_)
      refine X10_pipe_26 (k := ?_)
      refine X10_pipe_27 (k := ?_)
      refine X10_pipe_28 (k := ?_)
      refine s4_addPipe rfl i2 (fun z => ?_) (fun z I1 e2 e3 e4 e5 e0 ef => ?_)
      · refine X10_pipe_31 (kt := fun k31 => ?_) (kf := fun k31 => ?_)
        · omega
        · refine X10_pipe_34 (k := ?_)
          refine X10_pipe_35 (k := ?_)
          refine s10_refuseFull ?_
          refine X10_pipe_38 (hq := ?_)
          refine ref _ _ (by rw [z_up_n (by decide)]; exact a0) (fun z => by omega) (fun z1 z2 => ?_) (fun z => by omega)
          exact RR_full (Q := Q) h (fun I' => hq _ I')
      · refine X10_pipe_31 (kt := fun k31 => ?_) (kf := fun k31 => ?_)
        · refine X10_pipe_39 (k := ?_)
          refine X10_pipe_40 (k := ?_)
          refine X10_pipe_43 (k := ?_)
          refine X10_pipe_46 (k := ?_)
          refine s5_reset rfl ?_
          refine X10_pipe_49 (k := ?_)
          refine X10_pipe_50 (k := ?_)
          refine X10_pipe_53 (k := ?_)
          (try simp (disch := omega) only [z_up_n, z_up_s, zu_s, zu_n, Int.toNat_natCast])
          rw [e0]
          (try simp (disch := omega) only [z_up_n, z_up_s, zu_s, zu_n, Int.toNat_natCast])
          refine X10_pipe_56 (k := ?_)
          refine X10_pipe_57 (k := ?_)
          refine X10_pipe_58 (hq := ?_)
          rw [show (P : Int) + 1 - 1 = P by omega]
          refine ref _ _ (by (try simp (disch := omega) only [z_up_n, z_up_s, zu_s, zu_n, Int.toNat_natCast]); rw [ef 61 (by decide)]; exact a0) (fun _ _ I2 f2 ef2 => ?_) (fun z => by omega) (fun z => by omega)
          have e61 : z_up (z_up I1 17 0 0) 17 1 0 61 = I 61 := by
            (try simp (disch := omega) only [z_up_n, z_up_s, zu_s, zu_n, Int.toNat_natCast])
            exact ef 61 (by decide)
          rw [e61] at f2
          have e' : ∀ k, k ≠ 17 → k ≠ 61 → I2 k = I1 k := fun k k1 k2 => by
            rw [ef2 k k2]
            (try simp (disch := omega) only [z_up_n, z_up_s, zu_s, zu_n, Int.toNat_natCast])
          have er : ∀ k, k < 8 ∨ k = 9 ∨ 13 < k → k ≠ 17 → k ≠ 61 → I2 k = I k := fun k k1 k3 k4 => by
            rw [e' k k3 k4]
            exact ef k (by omega)
          have eA : ∀ j, j ≠ 0 → j ≠ 4 → (j < 30 + 4 * P ∨ 30 + 4 * P + 3 < j) → I2 61 j = I 61 j := fun j j1 j4 j5 => by rw [f2, zu_n j4, zu_n j1, row4_n j5]
          refine hq _ _ (RR_now h ⟨P + 1, L, ?_, ?_, ?_, ?_⟩ (fun k hk => er k (by omega) (by omega) (by omega)) (by rw [er 54 (by decide) (by decide) (by decide)]) (by rw [er 60 (by decide) (by decide) (by decide)]) (by rw [er 60 (by decide) (by decide) (by decide)]) (by rw [er 60 (by decide) (by decide) (by decide)]))
          · exact rpS_pipe hs z ⟨u2, u2b⟩ ⟨u11, u11b⟩ (by rw [e' 10 (by decide) (by decide)]; exact e2) (by rw [e' 11 (by decide) (by decide)]; exact e3) (by rw [e' 12 (by decide) (by decide)]; exact e4) (by rw [e' 13 (by decide) (by decide)]; exact e5) (by rw [e' 8 (by decide) (by decide)]; exact e0) (er 9 (by decide) (by decide) (by decide)) (fun j hj => by rw [f2, zu_n (by omega), zu_n (by omega)]) (by rw [f2, zu_n (by decide), zu_s]) (fun j j1 j2 j3 j4 j5 => eA j j2 j4 j5)
          · exact rpH_cg hh (er 14 (by decide) (by decide) (by decide)) (er 15 (by decide) (by decide) (by decide)) (fun j j1 j2 => eA j (by omega) (by omega) (by omega))
          · exact rpR_cg hr (by rw [e' 8 (by decide) (by decide), e0, zu_n (by decide)]) (er 16 (by decide) (by decide) (by decide)) (eA 3 (by decide) (by decide) (by omega)) (fun j j1 j2 => eA j (by omega) (by omega) (by omega)) (Nat.le_succ _) (Nat.le_refl _)
          · exact rpU_0 (b := 17) (by rw [ef2 17 (by decide)]; simp [z_up]) (by rw [ef2 17 (by decide)]; simp [z_up]) (by rw [f2, zu_s]) rfl
        · omega
    · refine X10_pipe_14 (kt := fun z => absurd z (by decide)) (kf := fun _ => ?_)
      refine X10_pipe_17 (k := ?_)
      refine X10_pipe_18 (k := ?_)
      refine s10_refuseBad ?_
      refine X10_pipe_21 (hq := ?_)
      refine ref _ _ (by rw [z_up_n (by decide)]; exact a0) (fun z => by omega) (fun z => by omega) (fun z => ?_)
      exact RR_bad (Q := Q) h (fun I' => hq _ I')
  · refine X10_pipe_5 (kt := fun _ => ?_) (kf := fun z => absurd z (by decide))
    refine X10_pipe_17 (k := ?_)
    refine X10_pipe_18 (k := ?_)
    refine s10_refuseBad ?_
    refine X10_pipe_21 (hq := ?_)
    refine ref _ _ (by rw [z_up_n (by decide)]; exact a0) (fun z => by omega) (fun z => by omega) (fun z => ?_)
    exact RR_bad (Q := Q) h (fun I' => hq _ I')
theorem t_forget {Q : Int → Int → z_M → Prop} (h : RR I) (hq : ∀ r I', RR I' → Q r r I') : CX10_forget [aR 0] I (fun r I1 => CX11_forget [aR 60] I1 (fun r' I2 => Q r r' I2)) := by
  obtain ⟨⟨P, L, hs, hh, hr, hu⟩, -⟩ := id h
  refine eX10_forget ?_
  refine X10_forget_0 (k := ?_)
  refine X10_forget_1 (k := ?_)
  refine X10_forget_4 (k := ?_)
  refine X10_forget_7 (k := ?_)
  refine X10_forget_8 (k := ?_)
  refine X10_forget_9 (k := ?_)
  refine X10_forget_12 (k := ?_)
  refine X10_forget_13 (k := ?_)
  refine X10_forget_16 (k := ?_)
  refine X10_forget_17 (hq := ?_)
  refine eX11_forget ?_
  refine X11_forget_0 (k := ?_)
  refine X11_forget_1 (k := ?_)
  refine X11_forget_4 (k := ?_)
  refine X11_forget_5 (k := ?_)
  refine X11_forget_6 (k := ?_)
  refine X11_forget_7 (k := ?_)
  refine X11_forget_8 (k := ?_)
  refine X11_forget_11 (k := ?_)
  refine X11_forget_12 (k := ?_)
  refine X11_forget_13 (k := ?_)
  refine X11_forget_14 (k := ?_)
  refine X11_forget_15 (hq := ?_)
  rw [show (3 : Int).toNat = 3 from rfl, z_up_n (show (61 : Nat) ≠ 8 by decide), hr.2.1]
  refine hq _ _ (RR_now h ⟨P, L, rpS_cg hs (fun k k1 k2 k3 => by (try simp (disch := omega) only [z_up_n, z_up_s, zu_s, zu_n, Int.toNat_natCast])) (by simp [z_up]) (fun j j1 j2 j3 => by simp [z_up, j2]), rpH_cg hh (by (try simp (disch := omega) only [z_up_n, z_up_s, zu_s, zu_n, Int.toNat_natCast])) (by (try simp (disch := omega) only [z_up_n, z_up_s, zu_s, zu_n, Int.toNat_natCast])) (fun j j1 j2 => by (try simp (disch := omega) only [z_up_n, z_up_s, zu_s, zu_n, Int.toNat_natCast])), ?_, rpU_cg hu (by (try simp (disch := omega) only [z_up_n, z_up_s, zu_s, zu_n, Int.toNat_natCast])) (by (try simp (disch := omega) only [z_up_n, z_up_s, zu_s, zu_n, Int.toNat_natCast])) (by (try simp (disch := omega) only [z_up_n, z_up_s, zu_s, zu_n, Int.toNat_natCast])) (fun j j1 => by (try simp (disch := omega) only [z_up_n, z_up_s, zu_s, zu_n, Int.toNat_natCast]))⟩ (fun k hk => by (try simp (disch := omega) only [z_up_n, z_up_s, zu_s, zu_n, Int.toNat_natCast])) (by (try simp (disch := omega) only [z_up_n, z_up_s, zu_s, zu_n, Int.toNat_natCast])) (by (try simp (disch := omega) only [z_up_n, z_up_s, zu_s, zu_n, Int.toNat_natCast])) (by (try simp (disch := omega) only [z_up_n, z_up_s, zu_s, zu_n, Int.toNat_natCast])) (by (try simp (disch := omega) only [z_up_n, z_up_s, zu_s, zu_n, Int.toNat_natCast])))
  refine ⟨by simp [z_up], by simp [z_up], fun t ht => ?_⟩
  simp [z_up] at ht
  omega
end O2

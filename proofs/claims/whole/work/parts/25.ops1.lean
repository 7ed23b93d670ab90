/-! organ, place, pipe, note, hush, reading, forget: class and reference alike -/
section O1
variable {I I' : z_M} {b : Nat} {A A' : Nat → Int} {P L P' L' : Nat}
theorem rpH_cg (h : rpH I b A) (e6 : I' (b + 6) = I (b + 6)) (e7 : I' (b + 7) = I (b + 7)) (eA : ∀ j, 62 ≤ j → j < 89 → A' j = A j) : rpH I' b A' := by
  intro x hx
  obtain ⟨h1, h2, h3⟩ := h x hx
  rw [e6, e7, eA (62 + 9 * x) (by omega) (by omega)]
  refine ⟨h1, h2, fun k hk => ?_⟩
  rw [eA (63 + 9 * x + k) (by omega) (by omega)]
  exact h3 k hk
theorem rpR_cg (h : rpR I b A P L) (e3 : I' b 3 = I b 3) (e8 : I' (b + 8) = I (b + 8)) (eA3 : A' 3 = A 3) (eA : ∀ j, 89 ≤ j → j < 113 → A' j = A j) (hP : P ≤ P') (hL : L ≤ L') : rpR I' b A' P' L' := by
  obtain ⟨h1, h2, h3⟩ := h
  refine ⟨by rw [eA3]; exact h1, by rw [e3, eA3]; exact h2, fun t ht => ?_⟩
  rw [eA3] at ht
  rw [e8, eA (89 + 4 * t) (by omega) (by omega), eA (89 + 4 * t + 1) (by omega) (by omega), eA (89 + 4 * t + 2) (by omega) (by omega), eA (89 + 4 * t + 3) (by omega) (by omega)]
  obtain ⟨g1, g2, g3, g4, g5⟩ := h3 t ht
  exact ⟨g1, by omega, g3, by omega, g5⟩
theorem rpU_0 (h0 : I b 0 = 0) (h1 : I b 1 = 0) (hA : A 4 = 0) {c : Nat} (hc : c + 9 = b) : rpU I c A P L := by
  subst hc
  exact ⟨0, 0, by decide, by decide, h1, hA, h0, fun u hu => absurd hu (Nat.not_lt_zero u)⟩
theorem rpU_cg (h : rpU I b A P L) (e9 : I' (b + 9) = I (b + 9)) (e10 : I' (b + 10) = I (b + 10)) (eA4 : A' 4 = A 4) (eA : ∀ j, 113 ≤ j → A' j = A j) : rpU I' b A' P L := by
  obtain ⟨o, U, u1, u2, u3, u4, u5, u6⟩ := h
  refine ⟨o, U, u1, u2, by rw [e9]; exact u3, by rw [eA4]; exact u4, by rw [e9]; exact u5, fun u hu => ?_⟩
  rw [e10, eA (113 + 17 * u) (by omega)]
  refine ⟨(u6 u hu).1, fun p hp => ?_⟩
  rw [eA (113 + 17 * u + 1 + p) (by omega), eA (113 + 17 * u + 9 + p) (by omega)]
  exact (u6 u hu).2 p hp
theorem rpS_cg (h : rpS I b A P L) (e : ∀ k, b ≤ k → k ≤ b + 5 → k ≠ b → I' k = I k) (e0 : I' b 0 = I b 0 ∧ I' b 1 = I b 1 ∧ I' b 2 = I b 2) (eA : ∀ j, j < 62 → j ≠ 3 → j ≠ 4 → A' j = A j) : rpS I' b A' P L := by
  obtain ⟨⟨i0, i1, i2, i3, i4⟩, s2, ⟨a0, a1, a2, a3, a4, a5⟩, s4⟩ := h
  refine ⟨⟨by rw [e0.1, eA 2 (by omega) (by omega) (by omega)]; exact i0, by rw [e0.2.1]; exact i1, by rw [e0.2.2]; exact i2, fun x hx => ?_, fun p hp => ?_⟩, fun x hx => ?_, ⟨by rw [eA 0 (by omega) (by omega) (by omega)]; exact a0, by rw [eA 1 (by omega) (by omega) (by omega)]; exact a1, a2, a3, fun x hx => ?_, fun p hp => ?_⟩, fun p hp => ?_⟩
  · dsimp only
    rw [e (b + 1) (by omega) (by omega) (by omega), eA (5 + 5 * x) (by omega) (by omega) (by omega), eA (5 + 5 * x + 1) (by omega) (by omega) (by omega), eA (5 + 5 * x + 2) (by omega) (by omega) (by omega)]
    exact i3 x hx
  · dsimp only
    rw [e (b + 2) (by omega) (by omega) (by omega), e (b + 3) (by omega) (by omega) (by omega), e (b + 4) (by omega) (by omega) (by omega), e (b + 5) (by omega) (by omega) (by omega), eA (30 + 4 * p) (by omega) (by omega) (by omega), eA (30 + 4 * p + 1) (by omega) (by omega) (by omega), eA (30 + 4 * p + 2) (by omega) (by omega) (by omega), eA (30 + 4 * p + 3) (by omega) (by omega) (by omega)]
    exact i4 p hp
  · rw [e (b + 1) (by omega) (by omega) (by omega), eA (5 + 5 * x + 3) (by omega) (by omega) (by omega), eA (5 + 5 * x + 4) (by omega) (by omega) (by omega)]
    exact s2 x hx
  · rw [eA (5 + 5 * x) (by omega) (by omega) (by omega), eA (5 + 5 * x + 1) (by omega) (by omega) (by omega), eA (5 + 5 * x + 2) (by omega) (by omega) (by omega), eA (5 + 5 * x + 3) (by omega) (by omega) (by omega), eA (5 + 5 * x + 4) (by omega) (by omega) (by omega)]
    exact a4 x hx
  · rw [eA (30 + 4 * p) (by omega) (by omega) (by omega), eA (30 + 4 * p + 1) (by omega) (by omega) (by omega)]
    exact a5 p hp
  · dsimp only
    rw [eA (30 + 4 * p) (by omega) (by omega) (by omega), eA (30 + 4 * p + 2) (by omega) (by omega) (by omega), eA (30 + 4 * p + 3) (by omega) (by omega) (by omega)]
    exact s4 p hp
/-- only now and its row were changed -/
theorem RR_now (h : RR I) (hr : rp I' 8 (I' 61)) (e : ∀ k, k < 8 ∨ (30 ≤ k ∧ k ≤ 53) ∨ k = 55 ∨ (62 ≤ k ∧ k ≤ 64) ∨ k = 71 → I' k = I k) (e54 : I' 54 0 = I 54 0) (e4 : I' 60 4 = I 60 4) (e5 : I' 60 5 = I 60 5) (e16 : I' 60 16 = I 60 16) : RR I' := by
  obtain ⟨h1, h2, ⟨n, t1, t2, t3, t4⟩, f1, f2, f3, f4, f5⟩ := h
  refine ⟨hr, fun i hi => ?_, ⟨n, t1, by rw [e16]; exact t2, by rw [e54]; exact t3, fun k hk => by rw [e 55 (by omega), e 71 (by omega)]; exact t4 k hk⟩, by rw [e 0 (by omega), e4]; exact f1, by rw [e 0 (by omega), e5]; exact f2, by rw [e 0 (by omega), e 64 (by omega)]; exact f3, by rw [e 0 (by omega), e 64 (by omega)]; exact f4, by rw [e 0 (by omega), e 64 (by omega)]; exact f5⟩
  rw [e 53 (by omega), e 62 (by omega), e 63 (by omega)]
  obtain ⟨g1, g2, g3⟩ := h2 i hi
  exact ⟨g1, g2, fun z => rp_cg (g3 z) (fun k k1 k2 => e k (by omega))⟩
theorem t_organ {Q : Int → Int → z_M → Prop} (h : RR I) (hq : ∀ r I', RR I' → Q r r I') : CX10_organ [aR 0] I (fun r I1 => CX11_organ [aR 60] I1 (fun r' I2 => Q r r' I2)) := by
  obtain ⟨⟨P, L, ⟨s1, s2, s3, s4⟩, hh, hr, hu⟩, -⟩ := id h
  refine eX10_organ ?_
  refine X10_organ_0 (k := ?_)
  refine X10_organ_1 (k := ?_)
  refine X10_organ_4 (k := ?_)
  refine X10_organ_7 (k := ?_)
  refine X10_organ_8 (k := ?_)
  refine X10_organ_9 (k := ?_)
  refine X10_organ_12 (k := ?_)
  refine s4_reset rfl (fun I1 g0 g1 g2 g3 g6 g9 g91 gf => ?_)
  refine X10_organ_15 (k := ?_)
  refine X10_organ_16 (hq := ?_)
  have e60 : ∀ k, 30 ≤ k → I1 k = I k := fun k hk => gf k (by omega) (by omega) (by omega)
  refine eX11_organ ?_
  refine X11_organ_0 (k := ?_)
  refine X11_organ_1 (k := ?_)
  refine s11_pipes ?_
  refine X11_organ_4 (k := ?_)
  refine X11_organ_5 (k := ?_)
  refine X11_organ_6 (k := ?_)
  refine X11_organ_9 (k := ?_)
  refine s11_begin rfl (by decide) (fun I2 b0 b1 bf => ?_)
  refine X11_organ_12 (k := ?_)
  refine X11_organ_13 (hq := ?_)
  rw [e60 61 (by omega), s1.2.2.1, s3.1]
  refine hq _ _ (RR_now h ⟨0, 0, ⟨⟨?_, ?_, ?_, fun x hx => absurd hx (Nat.not_lt_zero x), fun x hx => absurd hx (Nat.not_lt_zero x)⟩, fun x hx => absurd hx (Nat.not_lt_zero x), ⟨?_, ?_, by decide, by decide, fun x hx => absurd hx (Nat.not_lt_zero x), fun x hx => absurd hx (Nat.not_lt_zero x)⟩, fun x hx => absurd hx (Nat.not_lt_zero x)⟩, ?_, ?_, ?_⟩ ?_ ?_ ?_ ?_ ?_)
  · rw [bf 8 (by decide), g0, b0 2 (by decide)]
  · rw [bf 8 (by decide), g1]; rfl
  · rw [bf 8 (by decide), g2]; rfl
  · exact b0 0 (by decide)
  · exact b0 1 (by decide)
  · intro x hx
    rw [b0 (62 + 9 * x) (by omega), bf 14 (by decide), g6 x hx]
    exact ⟨by decide, rfl, fun k hk => by omega⟩
  · refine ⟨by rw [b0 3 (by decide)]; decide, by rw [bf 8 (by decide), g3, b0 3 (by decide)], fun t ht => ?_⟩
    rw [b0 3 (by decide)] at ht
    omega
  · exact rpU_0 (b := 17) (by rw [bf 17 (by decide)]; exact g9) (by rw [bf 17 (by decide)]; exact g91) (b0 4 (by decide)) rfl
  · intro k hk
    rw [bf k (by omega), gf k (by omega) (by omega) (by omega)]
  · rw [bf 54 (by decide), gf 54 (by decide) (by decide) (by decide)]
  · rw [bf 60 (by decide), gf 60 (by decide) (by decide) (by decide)]
  · rw [bf 60 (by decide), gf 60 (by decide) (by decide) (by decide)]
  · rw [bf 60 (by decide), gf 60 (by decide) (by decide) (by decide)]
/-- a place comes -/
theorem rpS_place {v0 v1 v2 v3 v4 : Int} (h : rpS I b A P L) (hL : L < 5) (r0 : 0 ≤ v0 ∧ v0 ≤ 11) (r1 : 0 ≤ v1 ∧ v1 ≤ 23) (r2 : 0 ≤ v2 ∧ v2 ≤ 24) (r3 : 0 ≤ v3 ∧ v3 ≤ 30) (r4 : 0 ≤ v4 ∧ v4 ≤ 30)
    (e1 : I' (b + 1) = row5 (I (b + 1)) (5 * L) v0 v1 v2 v3 v4) (e0 : I' b = zu (I b) 1 (L + 1)) (e : ∀ k, b + 2 ≤ k → k ≤ b + 5 → I' k = I k) (eL : ∀ j, j < 5 → A' (5 + 5 * L + j) = row5 A (5 + 5 * L) v0 v1 v2 v3 v4 (5 + 5 * L + j)) (eA1 : A' 1 = L + 1) (eA : ∀ j, j < 62 → j ≠ 1 → j ≠ 3 → j ≠ 4 → (j < 5 + 5 * L ∨ 5 + 5 * L + 4 < j) → A' j = A j) : rpS I' b A' P (L + 1) := by
  obtain ⟨⟨i0, i1, i2, i3, i4⟩, s2, ⟨a0, a1, a2, a3, a4, a5⟩, s4⟩ := h
  obtain ⟨c0, c1, c2, c3, c4⟩ := row5_at (f := I (b + 1)) (s := 5 * L) (v0 := v0) (v1 := v1) (v2 := v2) (v3 := v3) (v4 := v4)
  obtain ⟨d0, d1, d2, d3, d4⟩ := row5_at (f := A) (s := 5 + 5 * L) (v0 := v0) (v1 := v1) (v2 := v2) (v3 := v3) (v4 := v4)
  have f0 := (eL 0 (by decide)).trans d0
  have f1 := (eL 1 (by decide)).trans d1
  have f2 := (eL 2 (by decide)).trans d2
  have f3 := (eL 3 (by decide)).trans d3
  have f4 := (eL 4 (by decide)).trans d4
  rw [Nat.add_zero] at f0
  refine ⟨⟨?_, ?_, ?_, fun x hx => ?_, fun p hp => ?_⟩, fun x hx => ?_, ⟨by rw [eA 0 (by omega) (by omega) (by omega) (by omega) (by omega)]; exact a0, by rw [eA1]; omega, a2, by omega, fun x hx => ?_, fun p hp => ?_⟩, fun p hp => ?_⟩
  · rw [e0, zu_n (by decide), eA 2 (by omega) (by omega) (by omega) (by omega) (by omega)]; exact i0
  · rw [e0, zu_s]; rfl
  · rw [e0, zu_n (by decide)]; exact i2
  · dsimp only
    rw [e1]
    by_cases z : x = L
    · subst z
      rw [c0, c1, c2, f0, f1, f2]
      exact ⟨rfl, rfl, rfl⟩
    · rw [row5_n (by omega), row5_n (by omega), row5_n (by omega), eA (5 + 5 * x) (by omega) (by omega) (by omega) (by omega) (by omega), eA (5 + 5 * x + 1) (by omega) (by omega) (by omega) (by omega) (by omega), eA (5 + 5 * x + 2) (by omega) (by omega) (by omega) (by omega) (by omega)]
      exact i3 x (by omega)
  · dsimp only
    rw [e (b + 2) (by omega) (by omega), e (b + 3) (by omega) (by omega), e (b + 4) (by omega) (by omega), e (b + 5) (by omega) (by omega), eA (30 + 4 * p) (by omega) (by omega) (by omega) (by omega) (by omega), eA (30 + 4 * p + 1) (by omega) (by omega) (by omega) (by omega) (by omega), eA (30 + 4 * p + 2) (by omega) (by omega) (by omega) (by omega) (by omega), eA (30 + 4 * p + 3) (by omega) (by omega) (by omega) (by omega) (by omega)]
    exact i4 p hp
  · rw [e1]
    by_cases z : x = L
    · subst z
      rw [c3, c4, f3, f4]
      exact ⟨rfl, rfl⟩
    · rw [row5_n (by omega), row5_n (by omega), eA (5 + 5 * x + 3) (by omega) (by omega) (by omega) (by omega) (by omega), eA (5 + 5 * x + 4) (by omega) (by omega) (by omega) (by omega) (by omega)]
      exact s2 x (by omega)
  · by_cases z : x = L
    · subst z
      rw [f0, f1, f2, f3, f4]
      exact ⟨r0, r1, r2, r3, r4⟩
    · rw [eA (5 + 5 * x) (by omega) (by omega) (by omega) (by omega) (by omega), eA (5 + 5 * x + 1) (by omega) (by omega) (by omega) (by omega) (by omega), eA (5 + 5 * x + 2) (by omega) (by omega) (by omega) (by omega) (by omega), eA (5 + 5 * x + 3) (by omega) (by omega) (by omega) (by omega) (by omega), eA (5 + 5 * x + 4) (by omega) (by omega) (by omega) (by omega) (by omega)]
      exact a4 x (by omega)
  · rw [eA (30 + 4 * p) (by omega) (by omega) (by omega) (by omega) (by omega), eA (30 + 4 * p + 1) (by omega) (by omega) (by omega) (by omega) (by omega)]
    exact a5 p hp
  · dsimp only
    rw [eA (30 + 4 * p) (by omega) (by omega) (by omega) (by omega) (by omega), eA (30 + 4 * p + 2) (by omega) (by omega) (by omega) (by omega) (by omega), eA (30 + 4 * p + 3) (by omega) (by omega) (by omega) (by omega) (by omega)]
    have s := s4 p hp
    dsimp only at s
    obtain ⟨g1, g2, g3⟩ := s
    exact ⟨g1, by omega, g3⟩
theorem t_place {Q : Int → Int → z_M → Prop} {v0 v1 v2 v3 v4 : Int} (h : RR I) (hq : ∀ r I', RR I' → Q r r I') : CX10_place [aR 0, aI v0, aI v1, aI v2, aI v3, aI v4] I (fun r I1 => CX11_place [aR 60, aI v0, aI v1, aI v2, aI v3, aI v4] I1 (fun r' I2 => Q r r' I2)) := by
  obtain ⟨⟨P, L, hs, hh, hr, hu⟩, -⟩ := id h
  obtain ⟨⟨i0, i1, i2, i3, i4⟩, s2, ⟨a0, a1, a2, a3, a4, a5⟩, s4⟩ := id hs
  have ref : ∀ (I1 : z_M) (r : Int), I1 61 1 = L → ((0 ≤ v0 ∧ v0 ≤ 11) ∧ (0 ≤ v1 ∧ v1 ≤ 23) ∧ (0 ≤ v2 ∧ v2 ≤ 24) ∧ (0 ≤ v3 ∧ v3 ≤ 30) ∧ (0 ≤ v4 ∧ v4 ≤ 30) → L < 5 → ∀ I2, I2 61 = zu (zu (row5 (I1 61) (5 + 5 * L) v0 v1 v2 v3 v4) 1 (L + 1)) 4 0 → (∀ k, k ≠ 61 → I2 k = I1 k) → Q r L I2) → ((0 ≤ v0 ∧ v0 ≤ 11) ∧ (0 ≤ v1 ∧ v1 ≤ 23) ∧ (0 ≤ v2 ∧ v2 ≤ 24) ∧ (0 ≤ v3 ∧ v3 ≤ 30) ∧ (0 ≤ v4 ∧ v4 ≤ 30) → L = 5 → Q r (-4) (z_up I1 64 2 (i32 (I1 64 2 + 1)))) → (¬ ((0 ≤ v0 ∧ v0 ≤ 11) ∧ (0 ≤ v1 ∧ v1 ≤ 23) ∧ (0 ≤ v2 ∧ v2 ≤ 24) ∧ (0 ≤ v3 ∧ v3 ≤ 30) ∧ (0 ≤ v4 ∧ v4 ≤ 30)) → Q r (-2) (z_up I1 64 0 (i32 (I1 64 0 + 1)))) → CX11_place [aR 60, aI v0, aI v1, aI v2, aI v3, aI v4] I1 (fun r' I2 => Q r r' I2) := by
    intro I1 r e g1 g2 g0
    refine eX11_place ?_
    refine X11_place_0 (k := ?_)
    refine X11_place_1 (k := ?_)
    refine X11_place_2 (k := ?_)
    refine X11_place_3 (k := ?_)
    refine X11_place_6 (k := ?_)
    refine s11_in (fun u6 u6b => ?_) (fun u6 => ?_)
    · refine X11_place_9 (kt := fun z => absurd z (by decide)) (kf := fun _ => ?_)
      refine X11_place_12 (k := ?_)
      refine X11_place_13 (k := ?_)
      refine X11_place_14 (k := ?_)
      refine X11_place_15 (k := ?_)
      refine X11_place_18 (k := ?_)
      refine s11_in (fun u18 u18b => ?_) (fun u18 => ?_)
      · refine X11_place_21 (kt := fun z => absurd z (by decide)) (kf := fun _ => ?_)
        refine X11_place_24 (k := ?_)
        refine X11_place_25 (k := ?_)
        refine X11_place_26 (k := ?_)
        refine X11_place_27 (k := ?_)
        refine X11_place_30 (k := ?_)
        refine s11_in (fun u30 u30b => ?_) (fun u30 => ?_)
        · refine X11_place_33 (kt := fun z => absurd z (by decide)) (kf := fun _ => ?_)
          refine X11_place_36 (k := ?_)
          refine X11_place_38 (k := ?_)
          refine X11_place_39 (k := ?_)
          refine X11_place_40 (k := ?_)
          refine X11_place_43 (k := ?_)
          refine s11_in (fun u43 u43b => ?_) (fun u43 => ?_)
          · refine X11_place_46 (kt := fun z => absurd z (by decide)) (kf := fun _ => ?_)
            refine X11_place_49 (k := ?_)
            refine X11_place_51 (k := ?_)
            refine X11_place_52 (k := ?_)
            refine X11_place_53 (k := ?_)
            refine X11_place_56 (k := ?_)
            refine s11_in (fun u56 u56b => ?_) (fun u56 => ?_)
            · refine X11_place_59 (kt := fun _ => ?_) (kf := fun z => absurd z (by decide))
              refine X11_place_69 (k := ?_)
              refine X11_place_70 (k := ?_)
              refine s11_places ?_
              refine X11_place_73 (k := ?_)
              refine X11_place_74 (kt := fun k74 => ?_) (kf := fun k74 => ?_)
              · have g1 := g1 (by omega) (by omega)
                refine X11_place_82 (k := ?_)
                refine X11_place_83 (k := ?_)
                refine X11_place_86 (k := ?_)
                refine X11_place_87 (k := ?_)
                refine X11_place_88 (k := ?_)
                refine X11_place_89 (k := ?_)
                refine X11_place_91 (k := ?_)
                refine X11_place_93 (k := ?_)
                refine s11_layPlace rfl (by decide) e (by omega) (fun I2 e2 ef => ?_)
                refine X11_place_96 (k := ?_)
                refine X11_place_97 (k := ?_)
                refine X11_place_100 (k := ?_)
                refine X11_place_101 (k := ?_)
                refine X11_place_102 (k := ?_)
                refine X11_place_103 (k := ?_)
                refine X11_place_104 (k := ?_)
                refine s11_places ?_
                (try simp (disch := omega) only [z_up_n, z_up_s, zu_s, zu_n, Int.toNat_natCast])
                rw [e2]
                (try simp (disch := omega) only [z_up_n, z_up_s, zu_s, zu_n, Int.toNat_natCast])
                refine X11_place_107 (k := ?_)
                refine X11_place_108 (k := ?_)
                refine X11_place_109 (hq := ?_)
                rw [show (L : Int) + 1 - 1 = L by omega]
                refine g1 _ ?_ (fun k hk => ?_)
                · rw [z_up_s, e2]
                  rfl
                · rw [z_up_n hk]
                  exact ef k hk
              · refine X11_place_77 (k := ?_)
                refine X11_place_78 (k := ?_)
                refine s11_full ?_
                refine X11_place_81 (hq := ?_)
                exact g2 (by omega) (by omega)
            · refine X11_place_59 (kt := fun z => absurd z (by decide)) (kf := fun _ => ?_)
              refine X11_place_62 (k := ?_)
              refine X11_place_63 (k := ?_)
              refine X11_place_65 (k := ?_)
              refine s11_bad ?_
              refine X11_place_68 (hq := ?_)
              exact g0 (by omega)
          · refine X11_place_46 (kt := fun _ => ?_) (kf := fun z => absurd z (by decide))
            refine X11_place_62 (k := ?_)
            refine X11_place_63 (k := ?_)
            refine X11_place_65 (k := ?_)
            refine s11_bad ?_
            refine X11_place_68 (hq := ?_)
            exact g0 (by omega)
        · refine X11_place_33 (kt := fun _ => ?_) (kf := fun z => absurd z (by decide))
          refine X11_place_62 (k := ?_)
          refine X11_place_63 (k := ?_)
          refine X11_place_65 (k := ?_)
          refine s11_bad ?_
          refine X11_place_68 (hq := ?_)
          exact g0 (by omega)
      · refine X11_place_21 (kt := fun _ => ?_) (kf := fun z => absurd z (by decide))
        refine X11_place_62 (k := ?_)
        refine X11_place_63 (k := ?_)
        refine X11_place_65 (k := ?_)
        refine s11_bad ?_
        refine X11_place_68 (hq := ?_)
        exact g0 (by omega)
    · refine X11_place_9 (kt := fun _ => ?_) (kf := fun z => absurd z (by decide))
      refine X11_place_62 (k := ?_)
      refine X11_place_63 (k := ?_)
      refine X11_place_65 (k := ?_)
      refine s11_bad ?_
      refine X11_place_68 (hq := ?_)
      exact g0 (by omega)
  refine eX10_place ?_
  refine X10_place_0 (k := ?_)
  refine X10_place_1 (k := ?_)
  refine X10_place_3 (k := ?_)
  refine s10_isUpTo (fun u3 u3b => ?_) (fun u3 => ?_)
  · refine X10_place_6 (kt := fun z => absurd z (by decide)) (kf := fun _ => ?_)
    refine X10_place_9 (k := ?_)
    refine X10_place_10 (k := ?_)
    refine X10_place_12 (k := ?_)
    refine s10_isUpTo (fun u12 u12b => ?_) (fun u12 => ?_)
    · refine X10_place_15 (kt := fun z => absurd z (by decide)) (kf := fun _ => ?_)
      refine X10_place_18 (k := ?_)
      refine X10_place_19 (k := ?_)
      refine X10_place_21 (k := ?_)
      refine s10_isUpTo (fun u21 u21b => ?_) (fun u21 => ?_)
      · refine X10_place_24 (kt := fun z => absurd z (by decide)) (kf := fun _ => ?_)
        refine X10_place_27 (k := ?_)
        refine X10_place_29 (k := ?_)
        refine X10_place_31 (k := ?_)
        refine s10_isUpTo (fun u31 u31b => ?_) (fun u31 => ?_)
        · refine X10_place_34 (kt := fun z => absurd z (by decide)) (kf := fun _ => ?_)
          refine X10_place_37 (k := ?_)
          refine X10_place_39 (k := ?_)
          refine X10_place_41 (k := ?_)
          refine s10_isUpTo (fun u41 u41b => ?_) (fun u41 => ?_)
          · refine X10_place_44 (kt := fun _ => ?_) (kf := fun z => absurd z (by decide))
            refine X10_place_52 (k := ?_)
            refine X10_place_53 (k := ?_)
            refine X10_place_56 (k := ?_)
            refine X10_place_57 (k := ?_)
            refine X10_place_58 (k := ?_)
            refine X10_place_59 (k := ?_)
            refine X10_place_61 (k := ?_)
            refine X10_place_63 (k := ?_)
            refine s4_addPlace rfl i1 (fun z => ?_) (fun z I1 e1 e0 ef => ?_)
            · refine X10_place_66 (kt := fun k66 => ?_) (kf := fun k66 => ?_)
              · omega
              · refine X10_place_69 (k := ?_)
                refine X10_place_70 (k := ?_)
                refine s10_refuseFull ?_
                refine X10_place_73 (hq := ?_)
                refine ref _ _ (by rw [z_up_n (by decide)]; exact a1) (fun z => by omega) (fun z1 z2 => ?_) (fun z => by omega)
                exact RR_full (Q := Q) h (fun I' => hq _ I')
            · refine X10_place_66 (kt := fun k66 => ?_) (kf := fun k66 => ?_)
              · refine X10_place_74 (k := ?_)
                refine X10_place_75 (k := ?_)
                refine X10_place_78 (k := ?_)
                refine X10_place_81 (k := ?_)
                refine s5_reset rfl ?_
                refine X10_place_84 (k := ?_)
                refine X10_place_85 (k := ?_)
                refine X10_place_88 (k := ?_)
                (try simp (disch := omega) only [z_up_n, z_up_s, zu_s, zu_n, Int.toNat_natCast])
                rw [e0]
                (try simp (disch := omega) only [z_up_n, z_up_s, zu_s, zu_n, Int.toNat_natCast])
                refine X10_place_91 (k := ?_)
                refine X10_place_92 (k := ?_)
                refine X10_place_93 (hq := ?_)
                rw [show (L : Int) + 1 - 1 = L by omega]
                refine ref _ _ (by (try simp (disch := omega) only [z_up_n, z_up_s, zu_s, zu_n, Int.toNat_natCast]); rw [ef 61 (by decide) (by decide)]; exact a1) (fun _ _ I2 e2 ef2 => ?_) (fun z => by omega) (fun z => by omega)
                have e61 : z_up (z_up I1 17 0 0) 17 1 0 61 = I 61 := by
                  (try simp (disch := omega) only [z_up_n, z_up_s, zu_s, zu_n, Int.toNat_natCast])
                  exact ef 61 (by decide) (by decide)
                rw [e61] at e2
                have er : ∀ k, k ≠ 8 → k ≠ 9 → k ≠ 17 → k ≠ 61 → I2 k = I k := fun k k1 k2 k3 k4 => by
                  rw [ef2 k k4]
                  (try simp (disch := omega) only [z_up_n, z_up_s, zu_s, zu_n, Int.toNat_natCast])
                  exact ef k k1 k2
                have e8 : I2 8 = zu (I 8) 1 (L + 1) := by
                  rw [ef2 8 (by decide)]
                  (try simp (disch := omega) only [z_up_n, z_up_s, zu_s, zu_n, Int.toNat_natCast])
                  exact e0
                have e9 : I2 9 = row5 (I 9) (5 * L) v0 v1 v2 v3 v4 := by
                  rw [ef2 9 (by decide)]
                  (try simp (disch := omega) only [z_up_n, z_up_s, zu_s, zu_n, Int.toNat_natCast])
                  exact e1
                have eA : ∀ j, j ≠ 1 → j ≠ 4 → (j < 5 + 5 * L ∨ 5 + 5 * L + 4 < j) → I2 61 j = I 61 j := fun j j1 j4 j5 => by rw [e2, zu_n j4, zu_n j1, row5_n j5]
                refine hq _ _ (RR_now h ⟨P, L + 1, ?_, ?_, ?_, ?_⟩ (fun k hk => er k (by omega) (by omega) (by omega) (by omega)) (by rw [er 54 (by decide) (by decide) (by decide) (by decide)]) (by rw [er 60 (by decide) (by decide) (by decide) (by decide)]) (by rw [er 60 (by decide) (by decide) (by decide) (by decide)]) (by rw [er 60 (by decide) (by decide) (by decide) (by decide)]))
                · exact rpS_place hs z ⟨u3, u3b⟩ ⟨u12, u12b⟩ ⟨u21, u21b⟩ ⟨u31, u31b⟩ ⟨u41, u41b⟩ e9 e8 (fun k k1 k2 => er k (by omega) (by omega) (by omega) (by omega)) (fun j hj => by rw [e2, zu_n (by omega), zu_n (by omega)]) (by rw [e2, zu_n (by decide), zu_s]) (fun j j1 j2 j3 j4 j5 => eA j j2 j4 j5)
                · exact rpH_cg hh (er 14 (by decide) (by decide) (by decide) (by decide)) (er 15 (by decide) (by decide) (by decide) (by decide)) (fun j j1 j2 => eA j (by omega) (by omega) (by omega))
                · exact rpR_cg hr (by rw [e8, zu_n (by decide)]) (er 16 (by decide) (by decide) (by decide) (by decide)) (eA 3 (by decide) (by decide) (by omega)) (fun j j1 j2 => eA j (by omega) (by omega) (by omega)) (Nat.le_refl _) (Nat.le_succ _)
                · exact rpU_0 (b := 17) (by rw [ef2 17 (by decide)]; simp [z_up]) (by rw [ef2 17 (by decide)]; simp [z_up]) (by rw [e2, zu_s]) rfl
              · omega
          · refine X10_place_44 (kt := fun z => absurd z (by decide)) (kf := fun _ => ?_)
            refine X10_place_47 (k := ?_)
            refine X10_place_48 (k := ?_)
            refine s10_refuseBad ?_
            refine X10_place_51 (hq := ?_)
            refine ref _ _ (by rw [z_up_n (by decide)]; exact a1) (fun z => by omega) (fun z => by omega) (fun z => ?_)
            exact RR_bad (Q := Q) h (fun I' => hq _ I')
        · refine X10_place_34 (kt := fun _ => ?_) (kf := fun z => absurd z (by decide))
          refine X10_place_47 (k := ?_)
          refine X10_place_48 (k := ?_)
          refine s10_refuseBad ?_
          refine X10_place_51 (hq := ?_)
          refine ref _ _ (by rw [z_up_n (by decide)]; exact a1) (fun z => by omega) (fun z => by omega) (fun z => ?_)
          exact RR_bad (Q := Q) h (fun I' => hq _ I')
      · refine X10_place_24 (kt := fun _ => ?_) (kf := fun z => absurd z (by decide))
        refine X10_place_47 (k := ?_)
        refine X10_place_48 (k := ?_)
        refine s10_refuseBad ?_
        refine X10_place_51 (hq := ?_)
        refine ref _ _ (by rw [z_up_n (by decide)]; exact a1) (fun z => by omega) (fun z => by omega) (fun z => ?_)
        exact RR_bad (Q := Q) h (fun I' => hq _ I')
    · refine X10_place_15 (kt := fun _ => ?_) (kf := fun z => absurd z (by decide))
      refine X10_place_47 (k := ?_)
      refine X10_place_48 (k := ?_)
      refine s10_refuseBad ?_
      refine X10_place_51 (hq := ?_)
      refine ref _ _ (by rw [z_up_n (by decide)]; exact a1) (fun z => by omega) (fun z => by omega) (fun z => ?_)
      exact RR_bad (Q := Q) h (fun I' => hq _ I')
  · refine X10_place_6 (kt := fun _ => ?_) (kf := fun z => absurd z (by decide))
    refine X10_place_47 (k := ?_)
    refine X10_place_48 (k := ?_)
    refine s10_refuseBad ?_
    refine X10_place_51 (hq := ?_)
    refine ref _ _ (by rw [z_up_n (by decide)]; exact a1) (fun z => by omega) (fun z => by omega) (fun z => ?_)
    exact RR_bad (Q := Q) h (fun I' => hq _ I')
end O1

/-! note, hush, reading -/
section O3
variable {I I' : z_M} {b : Nat} {A A' : Nat → Int} {P L P' L' : Nat}
theorem s4_addNote {Q : Int → z_M → Prop} (hb : z_cl b = 4) {x v : Int} {h c : Nat} (hx : x = h) (hh : h < 3) (hc : I (b + 6) h = c) (hc8 : c ≤ 8) (h0 : c = 8 → Q 0 I) (h1 : c < 8 → Q 1 (z_up (z_up I (b + 7) (8 * h + c) v) (b + 6) h (c + 1))) : CX4_addNote [aR b, aI x, aI v] I Q := by
  obtain ⟨o1, o2, o3, o4, o5, o6, o7, o8, o9, o10, n1, n2, n3, n4, n5, n6, n7, n8, n10⟩ := z_o hb
  subst hx
  refine eX4_addNote ?_
  refine X4_addNote_0 (k := ?_)
  refine X4_addNote_1 (k := ?_)
  refine X4_addNote_4 (k := ?_)
  refine X4_addNote_5 (k := ?_)
  rw [Int.toNat_natCast, hc]
  refine X4_addNote_6 (k := ?_)
  refine X4_addNote_7 (k := ?_)
  refine X4_addNote_8 (k := ?_)
  refine X4_addNote_10 (kt := fun k10 => ?_) (kf := fun k10 => ?_)
  · refine X4_addNote_15 (k := ?_)
    refine X4_addNote_16 (k := ?_)
    refine X4_addNote_19 (k := ?_)
    refine X4_addNote_20 (k := ?_)
    refine X4_addNote_22 (k := ?_)
    refine X4_addNote_23 (k := ?_)
    refine X4_addNote_24 (k := ?_)
    refine X4_addNote_25 (k := ?_)
    refine X4_addNote_26 (k := ?_)
    rw [show ((h : Int) * 8 + c).toNat = 8 * h + c by omega]
    refine X4_addNote_27 (k := ?_)
    refine X4_addNote_28 (k := ?_)
    refine X4_addNote_31 (k := ?_)
    refine X4_addNote_32 (k := ?_)
    refine X4_addNote_33 (k := ?_)
    refine X4_addNote_34 (k := ?_)
    refine X4_addNote_35 (k := ?_)
    rw [Int.toNat_natCast]
    refine X4_addNote_36 (k := ?_)
    refine X4_addNote_37 (hq := ?_)
    exact h1 (by omega)
  · refine X4_addNote_13 (k := ?_)
    refine X4_addNote_14 (hq := ?_)
    exact h0 (by omega)
/-- a hymn's row changes -/
theorem rpH_set {h : Nat} {c : Int} (hh : h < 3) (hH : rpH I b A) (e6 : I' (b + 6) = zu (I (b + 6)) h c) (eA : A' (62 + 9 * h) = c) (eo : ∀ g, g < 3 → g ≠ h → A' (62 + 9 * g) = A (62 + 9 * g)) (hc : 0 ≤ c ∧ c ≤ 8) (e7 : ∀ g k : Nat, g < 3 → g ≠ h → k < 8 → I' (b + 7) (8 * g + k) = I (b + 7) (8 * g + k) ∧ A' (63 + 9 * g + k) = A (63 + 9 * g + k)) (e8 : ∀ k : Nat, (k : Int) < c → I' (b + 7) (8 * h + k) = A' (63 + 9 * h + k) ∧ 0 ≤ A' (63 + 9 * h + k) ∧ A' (63 + 9 * h + k) ≤ 35) : rpH I' b A' := by
  intro g hg
  by_cases z : g = h
  · subst z
    rw [e6, zu_s, eA]
    exact ⟨hc, rfl, e8⟩
  · obtain ⟨h1, h2, h3⟩ := hH g hg
    rw [e6, zu_n z, eo g hg z]
    refine ⟨h1, h2, fun k hk => ?_⟩
    obtain ⟨d1, d2⟩ := e7 g k hg z (by omega)
    rw [d1, d2]
    exact h3 k hk
theorem t_note {Q : Int → Int → z_M → Prop} {x0 x1 : Int} (h : RR I) (hq : ∀ r I', RR I' → Q r r I') : CX10_note [aR 0, aI x0, aI x1] I (fun r I1 => CX11_note [aR 60, aI x0, aI x1] I1 (fun r' I2 => Q r r' I2)) := by
  obtain ⟨⟨P, L, hs, hh, hr, hu⟩, -⟩ := id h
  have ref : ∀ (I1 : z_M) (r : Int), (∀ x : Nat, x < 3 → 0 ≤ I1 61 (62 + 9 * x) ∧ I1 61 (62 + 9 * x) ≤ 8) → (∀ x c : Nat, x0 = x → x < 3 → (0 ≤ x1 ∧ x1 ≤ 35) → I1 61 (62 + 9 * x) = c → c < 8 → Q r (c + 1) (z_up (z_up I1 61 (63 + 9 * x + c) x1) 61 (62 + 9 * x) (c + 1))) → (∀ x : Nat, x0 = x → x < 3 → (0 ≤ x1 ∧ x1 ≤ 35) → I1 61 (62 + 9 * x) = 8 → Q r (-4) (z_up I1 64 2 (i32 (I1 64 2 + 1)))) → (¬ ((0 ≤ x0 ∧ x0 ≤ 2) ∧ (0 ≤ x1 ∧ x1 ≤ 35)) → Q r (-2) (z_up I1 64 0 (i32 (I1 64 0 + 1)))) → CX11_note [aR 60, aI x0, aI x1] I1 (fun r' I2 => Q r r' I2) := by
    intro I1 r e g1 g2 g0
    refine eX11_note ?_
    refine X11_note_0 (k := ?_)
    refine X11_note_1 (k := ?_)
    refine s11_isHymn (fun u1 u1b => ?_) (fun u1 => ?_)
    · refine X11_note_4 (kt := fun z => absurd z (by decide)) (kf := fun _ => ?_)
      refine X11_note_7 (k := ?_)
      refine X11_note_8 (k := ?_)
      refine X11_note_9 (k := ?_)
      refine X11_note_10 (k := ?_)
      refine X11_note_13 (k := ?_)
      refine s11_in (fun u13 u13b => ?_) (fun u13 => ?_)
      · refine X11_note_16 (kt := fun _ => ?_) (kf := fun z => absurd z (by decide))
        obtain ⟨x, rfl⟩ : ∃ x : Nat, x0 = x := ⟨x0.toNat, by omega⟩
        obtain ⟨e1, e2⟩ := e x (by omega)
        obtain ⟨c, hc⟩ : ∃ c : Nat, I1 61 (62 + 9 * x) = c := ⟨(I1 61 (62 + 9 * x)).toNat, by omega⟩
        have g1 := g1 x c rfl (by omega) (by omega) hc
        have g2 := g2 x rfl (by omega) (by omega)
        refine X11_note_26 (k := ?_)
        refine X11_note_27 (k := ?_)
        refine X11_note_28 (k := ?_)
        refine s11_notes rfl (by omega) ?_
        rw [hc]
        refine X11_note_31 (k := ?_)
        refine X11_note_33 (kt := fun k33 => ?_) (kf := fun k33 => ?_)
        · refine X11_note_41 (k := ?_)
          refine X11_note_42 (k := ?_)
          refine X11_note_45 (k := ?_)
          refine X11_note_47 (k := ?_)
          refine X11_note_49 (k := ?_)
          refine X11_note_50 (k := ?_)
          refine X11_note_51 (k := ?_)
          refine X11_note_52 (k := ?_)
          refine X11_note_53 (k := ?_)
          refine X11_note_54 (k := ?_)
          refine X11_note_55 (k := ?_)
          refine X11_note_56 (k := ?_)
          refine s11_notes rfl (by omega) ?_
          rw [hc]
          refine X11_note_59 (k := ?_)
          refine X11_note_60 (k := ?_)
          refine X11_note_61 (k := ?_)
          rw [show (62 + 9 * (x : Int) + 1 + c).toNat = 63 + 9 * x + c by omega]
          refine X11_note_62 (k := ?_)
          refine X11_note_63 (k := ?_)
          refine X11_note_66 (k := ?_)
          refine X11_note_68 (k := ?_)
          refine X11_note_70 (k := ?_)
          refine X11_note_71 (k := ?_)
          refine X11_note_72 (k := ?_)
          refine X11_note_73 (k := ?_)
          refine X11_note_74 (k := ?_)
          (try simp (disch := omega) only [z_up_n, z_up_s, zu_s, zu_n, Int.toNat_natCast])
          rw [show (62 + 9 * (x : Int)).toNat = 62 + 9 * x by omega, hc]
          refine X11_note_75 (k := ?_)
          refine X11_note_76 (k := ?_)
          refine X11_note_77 (k := ?_)
          rw [show (62 + 9 * (x : Int)).toNat = 62 + 9 * x by omega]
          refine X11_note_78 (k := ?_)
          refine X11_note_79 (k := ?_)
          refine X11_note_80 (k := ?_)
          refine s11_notes rfl (by omega) ?_
          (try simp (disch := omega) only [z_up_n, z_up_s, zu_s, zu_n, Int.toNat_natCast])
          refine X11_note_83 (hq := ?_)
          exact g1 (by omega)
        · refine X11_note_36 (k := ?_)
          refine X11_note_37 (k := ?_)
          refine s11_full ?_
          refine X11_note_40 (hq := ?_)
          exact g2 (by omega)
      · refine X11_note_16 (kt := fun z => absurd z (by decide)) (kf := fun _ => ?_)
        refine X11_note_19 (k := ?_)
        refine X11_note_20 (k := ?_)
        refine X11_note_22 (k := ?_)
        refine s11_bad ?_
        refine X11_note_25 (hq := ?_)
        exact g0 (by omega)
    · refine X11_note_4 (kt := fun _ => ?_) (kf := fun z => absurd z (by decide))
      refine X11_note_19 (k := ?_)
      refine X11_note_20 (k := ?_)
      refine X11_note_22 (k := ?_)
      refine s11_bad ?_
      refine X11_note_25 (hq := ?_)
      exact g0 (by omega)
  refine eX10_note ?_
  refine X10_note_0 (k := ?_)
  refine X10_note_1 (k := ?_)
  refine s10_isHymn (fun u1 u1b => ?_) (fun u1 => ?_)
  · refine X10_note_4 (kt := fun z => absurd z (by decide)) (kf := fun _ => ?_)
    refine X10_note_7 (k := ?_)
    refine X10_note_8 (k := ?_)
    refine X10_note_10 (k := ?_)
    refine s10_isUpTo (fun u10 u10b => ?_) (fun u10 => ?_)
    · refine X10_note_13 (kt := fun _ => ?_) (kf := fun z => absurd z (by decide))
      refine X10_note_21 (k := ?_)
      refine X10_note_22 (k := ?_)
      refine X10_note_25 (k := ?_)
      refine X10_note_26 (k := ?_)
      refine X10_note_27 (k := ?_)
      obtain ⟨x, rfl⟩ : ∃ x : Nat, x0 = x := ⟨x0.toNat, by omega⟩
      obtain ⟨⟨f1, f2⟩, f3, f4⟩ := hh x (by omega)
      obtain ⟨c, hc⟩ : ∃ c : Nat, I 61 (62 + 9 * x) = c := ⟨(I 61 (62 + 9 * x)).toNat, by omega⟩
      rw [hc] at f1 f2 f3 f4
      refine s4_addNote rfl rfl (by omega) f3 (by omega) (fun z => ?_) (fun z => ?_)
      · refine X10_note_30 (kt := fun k30 => ?_) (kf := fun k30 => ?_)
        · omega
        · refine X10_note_33 (k := ?_)
          refine X10_note_34 (k := ?_)
          refine s10_refuseFull ?_
          refine X10_note_37 (hq := ?_)
          refine ref _ _ (fun y hy => by rw [z_up_n (by decide)]; exact (hh y hy).1) (fun y d z1 z2 z3 z4 => ?_) (fun y z1 z2 z3 z4 => ?_) (fun z => by omega)
          · have : y = x := by omega
            subst this
            rw [z_up_n (by decide), hc] at z4
            omega
          exact RR_full (Q := Q) h (fun I' => hq _ I')
      · refine X10_note_30 (kt := fun k30 => ?_) (kf := fun k30 => ?_)
        · have o8 := z_o (show z_cl 8 = 4 from rfl)
          refine X10_note_38 (k := ?_)
          refine X10_note_39 (k := ?_)
          refine X10_note_42 (k := ?_)
          refine X10_note_45 (k := ?_)
          refine X10_note_46 (k := ?_)
          rw [Int.toNat_natCast]
          (try simp (disch := omega) only [z_up_n, z_up_s, zu_s, zu_n, Int.toNat_natCast])
          refine X10_note_47 (hq := ?_)
          refine ref _ _ (fun y hy => by (try simp (disch := omega) only [z_up_n, z_up_s, zu_s, zu_n, Int.toNat_natCast]); exact (hh y hy).1) (fun y d z1 z2 z3 z4 z5 => ?_) (fun y z1 z2 z3 z4 => ?_) (fun z => by omega)
          · have : y = x := by omega
            subst this
            have z6 : I 61 (62 + 9 * y) = d := by
              rw [← z4]
              (try simp (disch := omega) only [z_up_n, z_up_s, zu_s, zu_n, Int.toNat_natCast])
            have : d = c := by omega
            subst this
            have e6 : ∀ k, k ≠ 14 → k ≠ 15 → k ≠ 61 → (z_up (z_up (z_up (z_up I 15 (8 * y + d) x1) 14 y (d + 1)) 61 (63 + 9 * y + d) x1) 61 (62 + 9 * y) (d + 1)) k = I k := fun k k1 k2 k3 => by (try simp (disch := omega) only [z_up_n, z_up_s, zu_s, zu_n, Int.toNat_natCast])
            have e61 : (z_up (z_up (z_up (z_up I 15 (8 * y + d) x1) 14 y (d + 1)) 61 (63 + 9 * y + d) x1) 61 (62 + 9 * y) (d + 1)) 61 = zu (zu (I 61) (63 + 9 * y + d) x1) (62 + 9 * y) (d + 1) := by (try simp (disch := omega) only [z_up_n, z_up_s, zu_s, zu_n, Int.toNat_natCast])
            have e14 : (z_up (z_up (z_up (z_up I 15 (8 * y + d) x1) 14 y (d + 1)) 61 (63 + 9 * y + d) x1) 61 (62 + 9 * y) (d + 1)) 14 = zu (I 14) y (d + 1) := by (try simp (disch := omega) only [z_up_n, z_up_s, zu_s, zu_n, Int.toNat_natCast])
            have e15 : (z_up (z_up (z_up (z_up I 15 (8 * y + d) x1) 14 y (d + 1)) 61 (63 + 9 * y + d) x1) 61 (62 + 9 * y) (d + 1)) 15 = zu (I 15) (8 * y + d) x1 := by (try simp (disch := omega) only [z_up_n, z_up_s, zu_s, zu_n, Int.toNat_natCast])
            generalize (z_up (z_up (z_up (z_up I 15 (8 * y + d) x1) 14 y (d + 1)) 61 (63 + 9 * y + d) x1) 61 (62 + 9 * y) (d + 1)) = I9 at e6 e61 e14 e15 ⊢
            have eA : ∀ j, j < 62 ∨ 89 ≤ j → I9 61 j = I 61 j := fun j j1 => by
              rw [e61]
              (try simp (disch := omega) only [z_up_n, z_up_s, zu_s, zu_n, Int.toNat_natCast])
            refine hq _ _ (RR_now h ⟨P, L, ?_, ?_, ?_, ?_⟩ (fun k hk => e6 k (by omega) (by omega) (by omega)) (by rw [e6 54 (by decide) (by decide) (by decide)]) (by rw [e6 60 (by decide) (by decide) (by decide)]) (by rw [e6 60 (by decide) (by decide) (by decide)]) (by rw [e6 60 (by decide) (by decide) (by decide)]))
            · exact rpS_cg hs (fun k k1 k2 k3 => e6 k (by omega) (by omega) (by omega)) ⟨by rw [e6 8 (by decide) (by decide) (by decide)], by rw [e6 8 (by decide) (by decide) (by decide)], by rw [e6 8 (by decide) (by decide) (by decide)]⟩ (fun j j1 j2 j3 => eA j (by omega))
            · refine rpH_set (h := y) (by omega) hh e14 (by rw [e61, zu_s]) (fun g g1 g2 => ?_) (by omega) (fun g k g1 g2 g3 => ?_) (fun k hk => ?_)
              · rw [e61]
                (try simp (disch := omega) only [z_up_n, z_up_s, zu_s, zu_n, Int.toNat_natCast])
              · rw [e61]
                refine ⟨?_, by (try simp (disch := omega) only [z_up_n, z_up_s, zu_s, zu_n, Int.toNat_natCast])⟩
                rw [show 8 + 7 = 15 from rfl, e15]
                (try simp (disch := omega) only [z_up_n, z_up_s, zu_s, zu_n, Int.toNat_natCast])
              · rw [e61, show 8 + 7 = 15 from rfl, e15]
                by_cases z : k = d
                · subst z
                  (try simp (disch := omega) only [z_up_n, z_up_s, zu_s, zu_n, Int.toNat_natCast])
                  exact ⟨trivial, by omega, by omega⟩
                · (try simp (disch := omega) only [z_up_n, z_up_s, zu_s, zu_n, Int.toNat_natCast])
                  exact f4 k (by omega)
            · exact rpR_cg hr (by rw [e6 8 (by decide) (by decide) (by decide)]) (e6 16 (by decide) (by decide) (by decide)) (eA 3 (by decide)) (fun j j1 j2 => eA j (by omega)) (Nat.le_refl _) (Nat.le_refl _)
            · exact rpU_cg hu (e6 17 (by decide) (by decide) (by decide)) (e6 18 (by decide) (by decide) (by decide)) (eA 4 (by decide)) (fun j j1 => eA j (by omega))
          · have : y = x := by omega
            subst this
            have z6 : I 61 (62 + 9 * y) = 8 := by
              rw [← z4]
              (try simp (disch := omega) only [z_up_n, z_up_s, zu_s, zu_n, Int.toNat_natCast])
            omega
        · omega
    · refine X10_note_13 (kt := fun z => absurd z (by decide)) (kf := fun _ => ?_)
      refine X10_note_16 (k := ?_)
      refine X10_note_17 (k := ?_)
      refine s10_refuseBad ?_
      refine X10_note_20 (hq := ?_)
      refine ref _ _ (fun x hx => by rw [z_up_n (by decide)]; exact (hh x hx).1) (fun x c z => by omega) (fun x z => by omega) (fun z => ?_)
      exact RR_bad (Q := Q) h (fun I' => hq _ I')
  · refine X10_note_4 (kt := fun _ => ?_) (kf := fun z => absurd z (by decide))
    refine X10_note_16 (k := ?_)
    refine X10_note_17 (k := ?_)
    refine s10_refuseBad ?_
    refine X10_note_20 (hq := ?_)
    refine ref _ _ (fun x hx => by rw [z_up_n (by decide)]; exact (hh x hx).1) (fun x c z => by omega) (fun x z => by omega) (fun z => ?_)
    exact RR_bad (Q := Q) h (fun I' => hq _ I')
theorem t_hush {Q : Int → Int → z_M → Prop} {x0 : Int} (h : RR I) (hq : ∀ r I', RR I' → Q r r I') : CX10_hush [aR 0, aI x0] I (fun r I1 => CX11_hush [aR 60, aI x0] I1 (fun r' I2 => Q r r' I2)) := by
  obtain ⟨⟨P, L, hs, hh, hr, hu⟩, -⟩ := id h
  have o8 := z_o (show z_cl 8 = 4 from rfl)
  have ref : ∀ (I1 : z_M) (r : Int), (∀ x : Nat, x0 = x → x < 3 → Q r (I1 61 (62 + 9 * x)) (z_up I1 61 (62 + 9 * x) 0)) → (¬ (0 ≤ x0 ∧ x0 ≤ 2) → Q r (-2) (z_up I1 64 0 (i32 (I1 64 0 + 1)))) → CX11_hush [aR 60, aI x0] I1 (fun r' I2 => Q r r' I2) := by
    intro I1 r g1 g0
    refine eX11_hush ?_
    refine X11_hush_0 (k := ?_)
    refine X11_hush_1 (k := ?_)
    refine s11_isHymn (fun u1 u1b => ?_) (fun u1 => ?_)
    · refine X11_hush_4 (kt := fun _ => ?_) (kf := fun z => absurd z (by decide))
      obtain ⟨x, rfl⟩ : ∃ x : Nat, x0 = x := ⟨x0.toNat, by omega⟩
      refine X11_hush_14 (k := ?_)
      refine X11_hush_15 (k := ?_)
      refine X11_hush_16 (k := ?_)
      refine s11_notes rfl (by omega) ?_
      refine X11_hush_19 (k := ?_)
      refine X11_hush_20 (k := ?_)
      refine X11_hush_21 (k := ?_)
      refine X11_hush_24 (k := ?_)
      refine X11_hush_26 (k := ?_)
      refine X11_hush_28 (k := ?_)
      refine X11_hush_29 (k := ?_)
      refine X11_hush_30 (k := ?_)
      refine X11_hush_31 (k := ?_)
      refine X11_hush_32 (k := ?_)
      rw [show (62 + 9 * (x : Int)).toNat = 62 + 9 * x by omega]
      refine X11_hush_33 (k := ?_)
      refine X11_hush_34 (hq := ?_)
      exact g1 x rfl (by omega)
    · refine X11_hush_4 (kt := fun z => absurd z (by decide)) (kf := fun _ => ?_)
      refine X11_hush_7 (k := ?_)
      refine X11_hush_8 (k := ?_)
      refine X11_hush_10 (k := ?_)
      refine s11_bad ?_
      refine X11_hush_13 (hq := ?_)
      exact g0 (by omega)
  refine eX10_hush ?_
  refine X10_hush_0 (k := ?_)
  refine X10_hush_1 (k := ?_)
  refine s10_isHymn (fun u1 u1b => ?_) (fun u1 => ?_)
  · refine X10_hush_4 (kt := fun _ => ?_) (kf := fun z => absurd z (by decide))
    refine X10_hush_12 (k := ?_)
    refine X10_hush_13 (k := ?_)
    refine X10_hush_16 (k := ?_)
    refine X10_hush_19 (k := ?_)
    refine X10_hush_20 (k := ?_)
    refine X10_hush_21 (k := ?_)
    refine X10_hush_22 (k := ?_)
    refine X10_hush_23 (k := ?_)
    refine X10_hush_26 (k := ?_)
    refine X10_hush_27 (k := ?_)
    obtain ⟨x, rfl⟩ : ∃ x : Nat, x0 = x := ⟨x0.toNat, by omega⟩
    obtain ⟨⟨f1, f2⟩, f3, f4⟩ := hh x (by omega)
    refine s4_emptyHymn rfl rfl (by omega) ?_
    refine X10_hush_30 (k := ?_)
    refine X10_hush_31 (hq := ?_)
    refine ref _ _ (fun y z z1 => ?_) (fun z => by omega)
    have : y = x := by omega
    subst this
    rw [Int.toNat_natCast, show (8 : Nat) + 6 = 14 from rfl, z_up_n (show (61 : Nat) ≠ 14 by decide), ← f3]
    refine hq _ _ (RR_now h ⟨P, L, rpS_cg hs (fun k k1 k2 k3 => by (try simp (disch := omega) only [z_up_n, z_up_s, zu_s, zu_n, Int.toNat_natCast])) (by simp [z_up]) (fun j j1 j2 j3 => by (try simp (disch := omega) only [z_up_n, z_up_s, zu_s, zu_n, Int.toNat_natCast])), rpH_set (h := y) (by omega) hh (by (try simp (disch := omega) only [z_up_n, z_up_s, zu_s, zu_n, Int.toNat_natCast])) (by (try simp (disch := omega) only [z_up_n, z_up_s, zu_s, zu_n, Int.toNat_natCast])) (fun g g1 g2 => by (try simp (disch := omega) only [z_up_n, z_up_s, zu_s, zu_n, Int.toNat_natCast])) (c := 0) (by decide) (fun g k g1 g2 g3 => ⟨by (try simp (disch := omega) only [z_up_n, z_up_s, zu_s, zu_n, Int.toNat_natCast]), by (try simp (disch := omega) only [z_up_n, z_up_s, zu_s, zu_n, Int.toNat_natCast])⟩) (fun k hk => by omega), rpR_cg hr (by (try simp (disch := omega) only [z_up_n, z_up_s, zu_s, zu_n, Int.toNat_natCast])) (by (try simp (disch := omega) only [z_up_n, z_up_s, zu_s, zu_n, Int.toNat_natCast])) (by (try simp (disch := omega) only [z_up_n, z_up_s, zu_s, zu_n, Int.toNat_natCast])) (fun j j1 j2 => by (try simp (disch := omega) only [z_up_n, z_up_s, zu_s, zu_n, Int.toNat_natCast])) (Nat.le_refl _) (Nat.le_refl _), rpU_cg hu (by (try simp (disch := omega) only [z_up_n, z_up_s, zu_s, zu_n, Int.toNat_natCast])) (by (try simp (disch := omega) only [z_up_n, z_up_s, zu_s, zu_n, Int.toNat_natCast])) (by (try simp (disch := omega) only [z_up_n, z_up_s, zu_s, zu_n, Int.toNat_natCast])) (fun j j1 => by (try simp (disch := omega) only [z_up_n, z_up_s, zu_s, zu_n, Int.toNat_natCast]))⟩ (fun k hk => by (try simp (disch := omega) only [z_up_n, z_up_s, zu_s, zu_n, Int.toNat_natCast])) (by (try simp (disch := omega) only [z_up_n, z_up_s, zu_s, zu_n, Int.toNat_natCast])) (by (try simp (disch := omega) only [z_up_n, z_up_s, zu_s, zu_n, Int.toNat_natCast])) (by (try simp (disch := omega) only [z_up_n, z_up_s, zu_s, zu_n, Int.toNat_natCast])) (by (try simp (disch := omega) only [z_up_n, z_up_s, zu_s, zu_n, Int.toNat_natCast])))
  · refine X10_hush_4 (kt := fun z => absurd z (by decide)) (kf := fun _ => ?_)
    refine X10_hush_7 (k := ?_)
    refine X10_hush_8 (k := ?_)
    refine s10_refuseBad ?_
    refine X10_hush_11 (hq := ?_)
    refine ref _ _ (fun x z => by omega) (fun z => ?_)
    exact RR_bad (Q := Q) h (fun I' => hq _ I')
theorem s4_addReading {Q : Int → z_M → Prop} (hb : z_cl b = 4) {v0 v1 v2 v3 : Int} {c : Nat} (hc : I b 3 = c) (h0 : 6 ≤ c → Q 0 I) (h1 : c < 6 → ∀ I', I' (b + 8) = row4 (I (b + 8)) (4 * c) v0 v1 v2 v3 → I' b = zu (I b) 3 (c + 1) → (∀ k, k ≠ b → k ≠ b + 8 → I' k = I k) → Q 1 I') : CX4_addReading [aR b, aI v0, aI v1, aI v2, aI v3] I Q := by
  obtain ⟨o1, o2, o3, o4, o5, o6, o7, o8, o9, o10, n1, n2, n3, n4, n5, n6, n7, n8, n10⟩ := z_o hb
  refine eX4_addReading ?_
  refine X4_addReading_0 (k := ?_)
  refine X4_addReading_1 (k := ?_)
  rw [hc]
  refine X4_addReading_4 (k := ?_)
  refine X4_addReading_6 (kt := fun k6 => ?_) (kf := fun k6 => ?_)
  · refine X4_addReading_11 (k := ?_)
    refine X4_addReading_12 (k := ?_)
    rw [hc]
    refine X4_addReading_15 (k := ?_)
    refine X4_addReading_16 (k := ?_)
    refine X4_addReading_17 (k := ?_)
    refine X4_addReading_19 (k := ?_)
    refine X4_addReading_20 (k := ?_)
    refine X4_addReading_23 (k := ?_)
    refine X4_addReading_25 (k := ?_)
    refine X4_addReading_26 (k := ?_)
    refine X4_addReading_27 (k := ?_)
    refine X4_addReading_28 (k := ?_)
    refine X4_addReading_31 (k := ?_)
    refine X4_addReading_33 (k := ?_)
    refine X4_addReading_34 (k := ?_)
    refine X4_addReading_35 (k := ?_)
    refine X4_addReading_36 (k := ?_)
    refine X4_addReading_37 (k := ?_)
    refine X4_addReading_38 (k := ?_)
    refine X4_addReading_41 (k := ?_)
    refine X4_addReading_43 (k := ?_)
    refine X4_addReading_44 (k := ?_)
    refine X4_addReading_45 (k := ?_)
    refine X4_addReading_46 (k := ?_)
    refine X4_addReading_47 (k := ?_)
    refine X4_addReading_48 (k := ?_)
    refine X4_addReading_51 (k := ?_)
    refine X4_addReading_53 (k := ?_)
    refine X4_addReading_54 (k := ?_)
    refine X4_addReading_55 (k := ?_)
    refine X4_addReading_57 (k := ?_)
    rw [show ((c : Int) * 4).toNat = 4 * c by omega, show ((c : Int) * 4 + 1).toNat = 4 * c + 1 by omega, show ((c : Int) * 4 + 2).toNat = 4 * c + 2 by omega, show ((c : Int) * 4 + 3).toNat = 4 * c + 3 by omega]
    refine X4_addReading_58 (k := ?_)
    refine X4_addReading_59 (k := ?_)
    refine X4_addReading_60 (k := ?_)
    (try simp (disch := omega) only [z_up_n, z_up_s, zu_s, zu_n, Int.toNat_natCast])
    rw [hc]
    refine X4_addReading_63 (k := ?_)
    refine X4_addReading_64 (k := ?_)
    refine X4_addReading_65 (k := ?_)
    refine X4_addReading_68 (k := ?_)
    refine X4_addReading_69 (hq := ?_)
    refine h1 (by omega) _ ?_ ?_ (fun k k1 k2 => by (try simp (disch := omega) only [z_up_n, z_up_s, zu_s, zu_n, Int.toNat_natCast]))
    · (try simp (disch := omega) only [z_up_n, z_up_s, zu_s, zu_n, Int.toNat_natCast])
      rfl
    · (try simp (disch := omega) only [z_up_n, z_up_s, zu_s, zu_n, Int.toNat_natCast])
  · refine X4_addReading_9 (k := ?_)
    refine X4_addReading_10 (hq := ?_)
    exact h0 (by omega)
theorem t_reading {Q : Int → Int → z_M → Prop} {x0 x1 x2 x3 : Int} (h : RR I) (hq : ∀ r I', RR I' → Q r r I') : CX10_reading [aR 0, aI x0, aI x1, aI x2, aI x3] I (fun r I1 => CX11_reading [aR 60, aI x0, aI x1, aI x2, aI x3] I1 (fun r' I2 => Q r r' I2)) := by
  obtain ⟨⟨P, L, hs, hh, hr, hu⟩, -⟩ := id h
  obtain ⟨⟨i0, i1, i2, i3, i4⟩, s2, ⟨a0, a1, a2, a3, a4, a5⟩, s4⟩ := id hs
  obtain ⟨⟨r1, r2⟩, r3, r4⟩ := id hr
  obtain ⟨c, hc⟩ : ∃ c : Nat, I 61 3 = c := ⟨(I 61 3).toNat, by omega⟩
  rw [hc] at r1 r2 r3 r4
  have o8 := z_o (show z_cl 8 = 4 from rfl)
  have ref : ∀ (I1 : z_M) (r : Int), I1 61 0 = P → I1 61 1 = L → I1 61 3 = c → ((0 ≤ x0 ∧ x0 < P) ∧ (0 ≤ x1 ∧ x1 ≤ 72) ∧ (0 ≤ x2 ∧ x2 < L) ∧ (0 ≤ x3 ∧ x3 ≤ 1) → c < 6 → ∀ I2, I2 61 = zu (row4 (I1 61) (89 + 4 * c) x0 x1 x2 x3) 3 (c + 1) → (∀ k, k ≠ 61 → I2 k = I1 k) → Q r (c + 1) I2) → ((0 ≤ x0 ∧ x0 < P) ∧ (0 ≤ x1 ∧ x1 ≤ 72) ∧ (0 ≤ x2 ∧ x2 < L) ∧ (0 ≤ x3 ∧ x3 ≤ 1) → c = 6 → Q r (-4) (z_up I1 64 2 (i32 (I1 64 2 + 1)))) → (¬ ((0 ≤ x0 ∧ x0 < P) ∧ (0 ≤ x1 ∧ x1 ≤ 72) ∧ (0 ≤ x2 ∧ x2 < L) ∧ (0 ≤ x3 ∧ x3 ≤ 1)) → Q r (-2) (z_up I1 64 0 (i32 (I1 64 0 + 1)))) → CX11_reading [aR 60, aI x0, aI x1, aI x2, aI x3] I1 (fun r' I2 => Q r r' I2) := by
    intro I1 r eP eL e g1 g2 g0
    refine eX11_reading ?_
    refine X11_reading_0 (k := ?_)
    refine X11_reading_1 (k := ?_)
    refine X11_reading_2 (k := ?_)
    refine s11_isPipe (by first | assumption | omega) (by omega) (fun u2 u2b => ?_) (fun u2 => ?_)
    · refine X11_reading_5 (kt := fun z => absurd z (by decide)) (kf := fun _ => ?_)
      refine X11_reading_8 (k := ?_)
      refine X11_reading_9 (k := ?_)
      refine s11_isThen (fun u9 u9b => ?_) (fun u9 => ?_)
      · refine X11_reading_12 (kt := fun z => absurd z (by decide)) (kf := fun _ => ?_)
        refine X11_reading_15 (k := ?_)
        refine X11_reading_16 (k := ?_)
        refine X11_reading_17 (k := ?_)
        refine s11_isPlace (by first | assumption | omega) (by omega) (fun u17 u17b => ?_) (fun u17 => ?_)
        · refine X11_reading_20 (kt := fun z => absurd z (by decide)) (kf := fun _ => ?_)
          refine X11_reading_23 (k := ?_)
          refine X11_reading_25 (k := ?_)
          refine X11_reading_26 (k := ?_)
          refine X11_reading_27 (k := ?_)
          refine X11_reading_28 (k := ?_)
          refine s11_in (fun u28 u28b => ?_) (fun u28 => ?_)
          · refine X11_reading_31 (kt := fun _ => ?_) (kf := fun z => absurd z (by decide))
            have g1 := g1 (by omega)
            have g2 := g2 (by omega)
            refine X11_reading_41 (k := ?_)
            refine X11_reading_42 (k := ?_)
            refine X11_reading_45 (k := ?_)
            refine X11_reading_46 (k := ?_)
            rw [show (3 : Int).toNat = 3 from rfl, e]
            refine X11_reading_47 (k := ?_)
            refine X11_reading_49 (kt := fun k49 => ?_) (kf := fun k49 => ?_)
            · refine X11_reading_57 (k := ?_)
              refine X11_reading_59 (k := ?_)
              refine X11_reading_60 (k := ?_)
              refine X11_reading_61 (k := ?_)
              refine X11_reading_64 (k := ?_)
              refine X11_reading_65 (k := ?_)
              rw [show (3 : Int).toNat = 3 from rfl, e]
              refine X11_reading_66 (k := ?_)
              refine X11_reading_67 (k := ?_)
              refine X11_reading_68 (k := ?_)
              refine X11_reading_70 (k := ?_)
              refine X11_reading_71 (k := ?_)
              refine X11_reading_74 (k := ?_)
              refine X11_reading_76 (k := ?_)
              refine X11_reading_77 (k := ?_)
              refine X11_reading_78 (k := ?_)
              refine X11_reading_79 (k := ?_)
              refine X11_reading_82 (k := ?_)
              refine X11_reading_84 (k := ?_)
              refine X11_reading_85 (k := ?_)
              refine X11_reading_86 (k := ?_)
              refine X11_reading_87 (k := ?_)
              refine X11_reading_88 (k := ?_)
              refine X11_reading_89 (k := ?_)
              refine X11_reading_92 (k := ?_)
              refine X11_reading_94 (k := ?_)
              refine X11_reading_95 (k := ?_)
              refine X11_reading_96 (k := ?_)
              refine X11_reading_97 (k := ?_)
              refine X11_reading_98 (k := ?_)
              refine X11_reading_99 (k := ?_)
              refine X11_reading_102 (k := ?_)
              refine X11_reading_104 (k := ?_)
              refine X11_reading_105 (k := ?_)
              refine X11_reading_106 (k := ?_)
              refine X11_reading_108 (k := ?_)
              rw [show (89 + 4 * (c : Int)).toNat = 89 + 4 * c by omega, show (89 + 4 * (c : Int) + 1).toNat = 89 + 4 * c + 1 by omega, show (89 + 4 * (c : Int) + 2).toNat = 89 + 4 * c + 2 by omega, show (89 + 4 * (c : Int) + 3).toNat = 89 + 4 * c + 3 by omega]
              refine X11_reading_109 (k := ?_)
              refine X11_reading_110 (k := ?_)
              refine X11_reading_113 (k := ?_)
              refine X11_reading_114 (k := ?_)
              refine X11_reading_115 (k := ?_)
              rw [show (3 : Int).toNat = 3 from rfl]
              (try simp (disch := omega) only [z_up_n, z_up_s, zu_s, zu_n, Int.toNat_natCast])
              rw [e]
              refine X11_reading_116 (k := ?_)
              refine X11_reading_117 (k := ?_)
              refine X11_reading_118 (k := ?_)
              refine X11_reading_119 (k := ?_)
              refine X11_reading_120 (k := ?_)
              refine X11_reading_123 (k := ?_)
              refine X11_reading_124 (k := ?_)
              rw [show (3 : Int).toNat = 3 from rfl]
              (try simp (disch := omega) only [z_up_n, z_up_s, zu_s, zu_n, Int.toNat_natCast])
              refine X11_reading_125 (hq := ?_)
              refine g1 (by omega) _ ?_ (fun k hk => by (try simp (disch := omega) only [z_up_n, z_up_s, zu_s, zu_n, Int.toNat_natCast]))
              (try simp (disch := omega) only [z_up_n, z_up_s, zu_s, zu_n, Int.toNat_natCast])
              rfl
            · refine X11_reading_52 (k := ?_)
              refine X11_reading_53 (k := ?_)
              refine s11_full ?_
              refine X11_reading_56 (hq := ?_)
              exact g2 (by omega)
          · refine X11_reading_31 (kt := fun z => absurd z (by decide)) (kf := fun _ => ?_)
            refine X11_reading_34 (k := ?_)
            refine X11_reading_35 (k := ?_)
            refine X11_reading_37 (k := ?_)
            refine s11_bad ?_
            refine X11_reading_40 (hq := ?_)
            exact g0 (by omega)
        · refine X11_reading_20 (kt := fun _ => ?_) (kf := fun z => absurd z (by decide))
          refine X11_reading_34 (k := ?_)
          refine X11_reading_35 (k := ?_)
          refine X11_reading_37 (k := ?_)
          refine s11_bad ?_
          refine X11_reading_40 (hq := ?_)
          exact g0 (by omega)
      · refine X11_reading_12 (kt := fun _ => ?_) (kf := fun z => absurd z (by decide))
        refine X11_reading_34 (k := ?_)
        refine X11_reading_35 (k := ?_)
        refine X11_reading_37 (k := ?_)
        refine s11_bad ?_
        refine X11_reading_40 (hq := ?_)
        exact g0 (by omega)
    · refine X11_reading_5 (kt := fun _ => ?_) (kf := fun z => absurd z (by decide))
      refine X11_reading_34 (k := ?_)
      refine X11_reading_35 (k := ?_)
      refine X11_reading_37 (k := ?_)
      refine s11_bad ?_
      refine X11_reading_40 (hq := ?_)
      exact g0 (by omega)
  refine eX10_reading ?_
  refine X10_reading_0 (k := ?_)
  refine X10_reading_1 (k := ?_)
  refine X10_reading_2 (k := ?_)
  refine s10_isPipe (fun u2 u2b => ?_) (fun u2 => ?_)
  · refine X10_reading_5 (kt := fun z => absurd z (by decide)) (kf := fun _ => ?_)
    refine X10_reading_8 (k := ?_)
    refine X10_reading_9 (k := ?_)
    refine X10_reading_11 (k := ?_)
    refine s10_isUpTo (fun u11 u11b => ?_) (fun u11 => ?_)
    · refine X10_reading_14 (kt := fun z => absurd z (by decide)) (kf := fun _ => ?_)
      refine X10_reading_17 (k := ?_)
      refine X10_reading_18 (k := ?_)
      refine X10_reading_19 (k := ?_)
      refine s10_isPlace (fun u19 u19b => ?_) (fun u19 => ?_)
      · refine X10_reading_22 (kt := fun z => absurd z (by decide)) (kf := fun _ => ?_)
        refine X10_reading_25 (k := ?_)
        refine X10_reading_27 (k := ?_)
        refine X10_reading_28 (k := ?_)
        refine s10_isUpTo (fun u28 u28b => ?_) (fun u28 => ?_)
        · refine X10_reading_31 (kt := fun _ => ?_) (kf := fun z => absurd z (by decide))
          refine X10_reading_39 (k := ?_)
          refine X10_reading_40 (k := ?_)
          refine X10_reading_43 (k := ?_)
          refine X10_reading_44 (k := ?_)
          refine X10_reading_45 (k := ?_)
          refine X10_reading_46 (k := ?_)
          refine X10_reading_48 (k := ?_)
          refine s4_addReading rfl r3 (fun z => ?_) (fun z I1 e1 e0 ef => ?_)
          · refine X10_reading_51 (kt := fun k51 => ?_) (kf := fun k51 => ?_)
            · omega
            · refine X10_reading_54 (k := ?_)
              refine X10_reading_55 (k := ?_)
              refine s10_refuseFull ?_
              refine X10_reading_58 (hq := ?_)
              refine ref _ _ (by rw [z_up_n (by decide)]; exact a0) (by rw [z_up_n (by decide)]; exact a1) (by rw [z_up_n (by decide)]; exact hc) (fun z => by omega) (fun z1 z2 => ?_) (fun z => by omega)
              exact RR_full (Q := Q) h (fun I' => hq _ I')
          · refine X10_reading_51 (kt := fun k51 => ?_) (kf := fun k51 => ?_)
            · refine X10_reading_59 (k := ?_)
              refine X10_reading_60 (k := ?_)
              refine X10_reading_63 (k := ?_)
              rw [e0, zu_s]
              refine X10_reading_66 (hq := ?_)
              have e61 := ef 61 (by decide) (by decide)
              refine ref _ _ (by rw [e61]; exact a0) (by rw [e61]; exact a1) (by rw [e61]; exact hc) (fun z0 z1 I2 f1 f2 => ?_) (fun z => by omega) (fun z => by omega)
              rw [e61] at f1
              have er : ∀ k, k ≠ 8 → k ≠ 16 → k ≠ 61 → I2 k = I k := fun k k1 k2 k3 => by
                rw [f2 k k3]
                exact ef k k1 k2
              have e8 : I2 8 = zu (I 8) 3 (c + 1) := by
                rw [f2 8 (by decide)]
                exact e0
              have e16 : I2 16 = row4 (I 16) (4 * c) x0 x1 x2 x3 := by
                rw [f2 16 (by decide)]
                exact e1
              have eA : ∀ j, j ≠ 3 → (j < 89 + 4 * c ∨ 89 + 4 * c + 3 < j) → I2 61 j = I 61 j := fun j j1 j5 => by rw [f1, zu_n j1, row4_n j5]
              refine hq _ _ (RR_now h ⟨P, L, ?_, ?_, ?_, ?_⟩ (fun k hk => er k (by omega) (by omega) (by omega)) (by rw [er 54 (by decide) (by decide) (by decide)]) (by rw [er 60 (by decide) (by decide) (by decide)]) (by rw [er 60 (by decide) (by decide) (by decide)]) (by rw [er 60 (by decide) (by decide) (by decide)]))
              · exact rpS_cg hs (fun k k1 k2 k3 => er k (by omega) (by omega) (by omega)) ⟨by rw [e8, zu_n (by decide)], by rw [e8, zu_n (by decide)], by rw [e8, zu_n (by decide)]⟩ (fun j j1 j2 j3 => eA j j2 (by omega))
              · exact rpH_cg hh (er 14 (by decide) (by decide) (by decide)) (er 15 (by decide) (by decide) (by decide)) (fun j j1 j2 => eA j (by omega) (by omega))
              · have e3 : I2 61 3 = c + 1 := by rw [f1, zu_s]
                refine ⟨by omega, by rw [e8, zu_s, e3], fun t ht => ?_⟩
                rw [e3] at ht
                rw [show (8 : Nat) + 8 = 16 from rfl, e16]
                by_cases z : t = c
                · subst z
                  obtain ⟨d0, d1, d2, d3⟩ := row4_at (f := I 16) (s := 4 * t) (v0 := x0) (v1 := x1) (v2 := x2) (v3 := x3)
                  obtain ⟨b0, b1, b2, b3⟩ := row4_at (f := I 61) (s := 89 + 4 * t) (v0 := x0) (v1 := x1) (v2 := x2) (v3 := x3)
                  rw [d0, d1, d2, d3, f1, zu_n (by omega), zu_n (by omega), zu_n (by omega), zu_n (by omega), b0, b1, b2, b3]
                  exact ⟨⟨rfl, rfl, rfl, rfl⟩, ⟨by omega, by omega⟩, ⟨by omega, by omega⟩, ⟨by omega, by omega⟩, by omega⟩
                · rw [row4_n (by omega), row4_n (by omega), row4_n (by omega), row4_n (by omega), eA _ (by omega) (by omega), eA _ (by omega) (by omega), eA _ (by omega) (by omega), eA _ (by omega) (by omega)]
                  exact r4 t (by omega)
              · exact rpU_cg hu (er 17 (by decide) (by decide) (by decide)) (er 18 (by decide) (by decide) (by decide)) (eA 4 (by decide) (by omega)) (fun j j1 => eA j (by omega) (by omega))
            · omega
        · refine X10_reading_31 (kt := fun z => absurd z (by decide)) (kf := fun _ => ?_)
          refine X10_reading_34 (k := ?_)
          refine X10_reading_35 (k := ?_)
          refine s10_refuseBad ?_
          refine X10_reading_38 (hq := ?_)
          refine ref _ _ (by rw [z_up_n (by decide)]; exact a0) (by rw [z_up_n (by decide)]; exact a1) (by rw [z_up_n (by decide)]; exact hc) (fun z => by omega) (fun z => by omega) (fun z => ?_)
          exact RR_bad (Q := Q) h (fun I' => hq _ I')
      · refine X10_reading_22 (kt := fun _ => ?_) (kf := fun z => absurd z (by decide))
        refine X10_reading_34 (k := ?_)
        refine X10_reading_35 (k := ?_)
        refine s10_refuseBad ?_
        refine X10_reading_38 (hq := ?_)
        refine ref _ _ (by rw [z_up_n (by decide)]; exact a0) (by rw [z_up_n (by decide)]; exact a1) (by rw [z_up_n (by decide)]; exact hc) (fun z => by omega) (fun z => by omega) (fun z => ?_)
        exact RR_bad (Q := Q) h (fun I' => hq _ I')
    · refine X10_reading_14 (kt := fun _ => ?_) (kf := fun z => absurd z (by decide))
      refine X10_reading_34 (k := ?_)
      refine X10_reading_35 (k := ?_)
      refine s10_refuseBad ?_
      refine X10_reading_38 (hq := ?_)
      refine ref _ _ (by rw [z_up_n (by decide)]; exact a0) (by rw [z_up_n (by decide)]; exact a1) (by rw [z_up_n (by decide)]; exact hc) (fun z => by omega) (fun z => by omega) (fun z => ?_)
      exact RR_bad (Q := Q) h (fun I' => hq _ I')
  · refine X10_reading_5 (kt := fun _ => ?_) (kf := fun z => absurd z (by decide))
    refine X10_reading_34 (k := ?_)
    refine X10_reading_35 (k := ?_)
    refine s10_refuseBad ?_
    refine X10_reading_38 (hq := ?_)
    refine ref _ _ (by rw [z_up_n (by decide)]; exact a0) (by rw [z_up_n (by decide)]; exact a1) (by rw [z_up_n (by decide)]; exact hc) (fun z => by omega) (fun z => by omega) (fun z => ?_)
    exact RR_bad (Q := Q) h (fun I' => hq _ I')
end O3

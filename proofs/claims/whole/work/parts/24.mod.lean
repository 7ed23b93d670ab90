/-! what changes an organ: places, pipes, hymns, readings -/
def row5 (f : Nat → Int) (s : Nat) (v0 v1 v2 v3 v4 : Int) : Nat → Int := zu (zu (zu (zu (zu f s v0) (s + 1) v1) (s + 2) v2) (s + 3) v3) (s + 4) v4
theorem row5_n {f : Nat → Int} {s j : Nat} {v0 v1 v2 v3 v4 : Int} (h : j < s ∨ s + 4 < j) : row5 f s v0 v1 v2 v3 v4 j = f j := by
  unfold row5
  rw [zu_n (by omega), zu_n (by omega), zu_n (by omega), zu_n (by omega), zu_n (by omega)]
theorem row5_at {f : Nat → Int} {s : Nat} {v0 v1 v2 v3 v4 : Int} : row5 f s v0 v1 v2 v3 v4 s = v0 ∧ row5 f s v0 v1 v2 v3 v4 (s + 1) = v1 ∧ row5 f s v0 v1 v2 v3 v4 (s + 2) = v2 ∧ row5 f s v0 v1 v2 v3 v4 (s + 3) = v3 ∧ row5 f s v0 v1 v2 v3 v4 (s + 4) = v4 := by
  unfold row5
  simp [zu]
def row4 (f : Nat → Int) (s : Nat) (v0 v1 v2 v3 : Int) : Nat → Int := zu (zu (zu (zu f s v0) (s + 1) v1) (s + 2) v2) (s + 3) v3
theorem row4_n {f : Nat → Int} {s j : Nat} {v0 v1 v2 v3 : Int} (h : j < s ∨ s + 3 < j) : row4 f s v0 v1 v2 v3 j = f j := by
  unfold row4
  rw [zu_n (by omega), zu_n (by omega), zu_n (by omega), zu_n (by omega)]
theorem row4_at {f : Nat → Int} {s : Nat} {v0 v1 v2 v3 : Int} : row4 f s v0 v1 v2 v3 s = v0 ∧ row4 f s v0 v1 v2 v3 (s + 1) = v1 ∧ row4 f s v0 v1 v2 v3 (s + 2) = v2 ∧ row4 f s v0 v1 v2 v3 (s + 3) = v3 := by
  unfold row4
  simp [zu]
section MO
variable {I I' : z_M} {b : Nat} {A A' : Nat → Int} {P L P' L' : Nat}
theorem s5_reset {Q : z_M → Prop} {q : Nat} (hq : z_cl q = 5) (h : Q (z_up (z_up I q 0 0) q 1 0)) : CX5_reset [aR q] I Q := by
  refine eX5_reset ?_
  refine X5_reset_0 (k := ?_)
  refine X5_reset_1 (k := ?_)
  refine X5_reset_2 (k := ?_)
  refine X5_reset_5 (k := ?_)
  refine X5_reset_6 (k := ?_)
  refine X5_reset_7 (k := ?_)
  refine X5_reset_10 (hq := ?_)
  exact h
theorem s4_emptyHymn {Q : z_M → Prop} (hb : z_cl b = 4) {x : Int} {h : Nat} (hx : x = h) (hh : h < 3) (hq : Q (z_up I (b + 6) h 0)) : CX4_emptyHymn [aR b, aI x] I Q := by
  obtain ⟨o1, o2, o3, o4, o5, o6, o7, o8, o9, o10, n1, n2, n3, n4, n5, n6, n7, n8, n10⟩ := z_o hb
  refine eX4_emptyHymn ?_
  refine X4_emptyHymn_0 (k := ?_)
  refine X4_emptyHymn_1 (k := ?_)
  refine X4_emptyHymn_4 (k := ?_)
  refine X4_emptyHymn_5 (k := ?_)
  refine X4_emptyHymn_6 (k := ?_)
  refine X4_emptyHymn_7 (hq := ?_)
  rw [show x.toNat = h by omega]
  exact hq
theorem s4_reset {Q : z_M → Prop} (hb : z_cl b = 4) (h : ∀ I', I' b 0 = 0 → I' b 1 = 0 → I' b 2 = 0 → I' b 3 = 0 → (∀ k, k < 3 → I' (b + 6) k = 0) → I' (b + 9) 0 = 0 → I' (b + 9) 1 = 0 → (∀ k, k ≠ b → k ≠ b + 6 → k ≠ b + 9 → I' k = I k) → Q I') : CX4_reset [aR b] I Q := by
  obtain ⟨o1, o2, o3, o4, o5, o6, o7, o8, o9, o10, n1, n2, n3, n4, n5, n6, n7, n8, n10⟩ := z_o hb
  refine eX4_reset ?_
  refine X4_reset_0 (k := ?_)
  refine X4_reset_1 (k := ?_)
  refine X4_reset_2 (k := ?_)
  refine X4_reset_5 (k := ?_)
  refine X4_reset_6 (k := ?_)
  refine X4_reset_7 (k := ?_)
  refine X4_reset_10 (k := ?_)
  refine X4_reset_11 (k := ?_)
  refine X4_reset_12 (k := ?_)
  refine X4_reset_15 (k := ?_)
  refine X4_reset_16 (k := ?_)
  refine X4_reset_17 (k := ?_)
  refine X4_reset_20 (k := ?_)
  refine X4_reset_21 (k := ?_)
  refine z_for 3 (fun i => ∀ I', I' b 0 = 0 → I' b 1 = 0 → I' b 2 = 0 → I' b 3 = 0 → (∀ k, k < i → I' (b + 6) k = 0) → (∀ k, k ≠ b → k ≠ b + 6 → k ≠ b + 9 → I' k = I k) → JX4_reset Q 22 [aR b, aI i] [] I') ?_ (fun i hi ih => ?_) 0 (Nat.zero_le _) _ (by simp [z_up]) (by simp [z_up]) (by simp [z_up]) (by simp [z_up]) (fun k hk => absurd hk (Nat.not_lt_zero k)) (fun k k1 k2 k3 => by (try simp (disch := omega) only [z_up_n, z_up_s, zu_s, zu_n, Int.toNat_natCast]))
  · intro I' g0 g1 g2 g3 g6 gf
    refine X4_reset_22 (k := ?_)
    refine X4_reset_23 (k := ?_)
    refine X4_reset_24 (kt := fun k24 => ?_) (kf := fun k24 => ?_)
    · refine X4_reset_38 (k := ?_)
      refine X4_reset_39 (k := ?_)
      refine X4_reset_42 (k := ?_)
      refine s5_reset o9 ?_
      refine X4_reset_45 (hq := ?_)
      refine h _ ?_ ?_ ?_ ?_ (fun k hk => ?_) ?_ ?_ (fun k k1 k2 k3 => ?_)
      · (try simp (disch := omega) only [z_up_n, z_up_s, zu_s, zu_n, Int.toNat_natCast])
        exact g0
      · (try simp (disch := omega) only [z_up_n, z_up_s, zu_s, zu_n, Int.toNat_natCast])
        exact g1
      · (try simp (disch := omega) only [z_up_n, z_up_s, zu_s, zu_n, Int.toNat_natCast])
        exact g2
      · (try simp (disch := omega) only [z_up_n, z_up_s, zu_s, zu_n, Int.toNat_natCast])
        exact g3
      · (try simp (disch := omega) only [z_up_n, z_up_s, zu_s, zu_n, Int.toNat_natCast])
        exact g6 k hk
      · simp [z_up]
      · simp [z_up]
      · (try simp (disch := omega) only [z_up_n, z_up_s, zu_s, zu_n, Int.toNat_natCast])
        exact gf k k1 k2 k3
    · omega
  · intro I' g0 g1 g2 g3 g6 gf
    refine X4_reset_22 (k := ?_)
    refine X4_reset_23 (k := ?_)
    refine X4_reset_24 (kt := fun k24 => ?_) (kf := fun k24 => ?_)
    · omega
    · refine X4_reset_27 (k := ?_)
      refine X4_reset_28 (k := ?_)
      refine X4_reset_29 (k := ?_)
      refine s4_emptyHymn hb (h := i) rfl hi ?_
      refine X4_reset_32 (k := ?_)
      refine X4_reset_35 (k := ?_)
      refine ih _ ?_ ?_ ?_ ?_ (fun k hk => ?_) (fun k k1 k2 k3 => ?_)
      · (try simp (disch := omega) only [z_up_n, z_up_s, zu_s, zu_n, Int.toNat_natCast])
        exact g0
      · (try simp (disch := omega) only [z_up_n, z_up_s, zu_s, zu_n, Int.toNat_natCast])
        exact g1
      · (try simp (disch := omega) only [z_up_n, z_up_s, zu_s, zu_n, Int.toNat_natCast])
        exact g2
      · (try simp (disch := omega) only [z_up_n, z_up_s, zu_s, zu_n, Int.toNat_natCast])
        exact g3
      · rw [z_up_s]
        by_cases e : k = i
        · rw [e, zu_s]
        · rw [zu_n e]
          exact g6 k (by omega)
      · (try simp (disch := omega) only [z_up_n, z_up_s, zu_s, zu_n, Int.toNat_natCast])
        exact gf k k1 k2 k3
theorem s11_begin {Q : z_M → Prop} {r : Nat} (hr : z_cl r = 20) (hn : 113 ≤ z_n r) (h : ∀ I', (∀ j, j < 113 → I' r j = 0) → (∀ j, 113 ≤ j → I' r j = I r j) → (∀ k, k ≠ r → I' k = I k) → Q I') : CX11_begin [aR r] I Q := by
  refine eX11_begin ?_
  refine X11_begin_0 (k := ?_)
  refine X11_begin_1 (k := ?_)
  refine z_for 113 (fun i => ∀ I', (∀ j, j < i → I' r j = 0) → (∀ j, 113 ≤ j → I' r j = I r j) → (∀ k, k ≠ r → I' k = I k) → JX11_begin Q 2 [aR r, aI i] [] I') ?_ (fun i hi ih => ?_) 0 (Nat.zero_le _) _ (fun k hk => absurd hk (Nat.not_lt_zero k)) (fun _ _ => rfl) (fun _ _ => rfl)
  · intro I' g0 g1 g2
    refine X11_begin_2 (k := ?_)
    refine X11_begin_3 (k := ?_)
    refine X11_begin_5 (kt := fun k5 => ?_) (kf := fun k5 => ?_)
    · refine X11_begin_18 (hq := ?_)
      exact h I' g0 g1 g2
    · omega
  · intro I' g0 g1 g2
    refine X11_begin_2 (k := ?_)
    refine X11_begin_3 (k := ?_)
    refine X11_begin_5 (kt := fun k5 => ?_) (kf := fun k5 => ?_)
    · omega
    · refine X11_begin_8 (k := ?_)
      refine X11_begin_9 (k := ?_)
      refine X11_begin_10 (k := ?_)
      refine X11_begin_11 (k := ?_)
      refine X11_begin_12 (k := ?_)
      refine X11_begin_15 (k := ?_)
      refine ih _ (fun j hj => ?_) (fun j hj => ?_) (fun k hk => ?_)
      · rw [z_up_s]
        by_cases e : j = i
        · subst e
          (try simp (disch := omega) only [z_up_n, z_up_s, zu_s, zu_n, Int.toNat_natCast])
        · rw [zu_n (by omega)]
          exact g0 j (by omega)
      · rw [z_up_s, zu_n (by omega)]
        exact g1 j hj
      · rw [z_up_n hk]
        exact g2 k hk
theorem s4_addPlace {Q : Int → z_M → Prop} (hb : z_cl b = 4) {v0 v1 v2 v3 v4 : Int} (hL : I b 1 = L) (h0 : 5 ≤ L → Q 0 I) (h1 : L < 5 → ∀ I', I' (b + 1) = row5 (I (b + 1)) (5 * L) v0 v1 v2 v3 v4 → I' b = zu (I b) 1 (L + 1) → (∀ k, k ≠ b → k ≠ b + 1 → I' k = I k) → Q 1 I') : CX4_addPlace [aR b, aI v0, aI v1, aI v2, aI v3, aI v4] I Q := by
  obtain ⟨o1, o2, o3, o4, o5, o6, o7, o8, o9, o10, n1, n2, n3, n4, n5, n6, n7, n8, n10⟩ := z_o hb
  refine eX4_addPlace ?_
  refine X4_addPlace_0 (k := ?_)
  refine X4_addPlace_1 (k := ?_)
  refine X4_addPlace_4 (k := ?_)
  refine X4_addPlace_5 (kt := fun k5 => ?_) (kf := fun k5 => ?_)
  · rw [hL] at k5
    refine X4_addPlace_10 (k := ?_)
    refine X4_addPlace_11 (k := ?_)
    refine X4_addPlace_14 (k := ?_)
    refine X4_addPlace_15 (k := ?_)
    refine X4_addPlace_16 (k := ?_)
    rw [hL]
    refine X4_addPlace_18 (k := ?_)
    refine X4_addPlace_19 (k := ?_)
    refine X4_addPlace_22 (k := ?_)
    refine X4_addPlace_24 (k := ?_)
    refine X4_addPlace_25 (k := ?_)
    refine X4_addPlace_26 (k := ?_)
    refine X4_addPlace_27 (k := ?_)
    refine X4_addPlace_30 (k := ?_)
    refine X4_addPlace_32 (k := ?_)
    refine X4_addPlace_33 (k := ?_)
    refine X4_addPlace_34 (k := ?_)
    refine X4_addPlace_35 (k := ?_)
    refine X4_addPlace_36 (k := ?_)
    refine X4_addPlace_37 (k := ?_)
    refine X4_addPlace_40 (k := ?_)
    refine X4_addPlace_42 (k := ?_)
    refine X4_addPlace_43 (k := ?_)
    refine X4_addPlace_44 (k := ?_)
    refine X4_addPlace_45 (k := ?_)
    refine X4_addPlace_46 (k := ?_)
    refine X4_addPlace_47 (k := ?_)
    refine X4_addPlace_50 (k := ?_)
    refine X4_addPlace_52 (k := ?_)
    refine X4_addPlace_53 (k := ?_)
    refine X4_addPlace_54 (k := ?_)
    refine X4_addPlace_56 (k := ?_)
    refine X4_addPlace_57 (k := ?_)
    refine X4_addPlace_58 (k := ?_)
    refine X4_addPlace_61 (k := ?_)
    refine X4_addPlace_63 (k := ?_)
    refine X4_addPlace_64 (k := ?_)
    refine X4_addPlace_65 (k := ?_)
    refine X4_addPlace_67 (k := ?_)
    refine X4_addPlace_68 (k := ?_)
    refine X4_addPlace_69 (k := ?_)
    refine X4_addPlace_70 (k := ?_)
    (try simp (disch := omega) only [z_up_n, z_up_s, zu_s, zu_n, Int.toNat_natCast])
    rw [hL]
    refine X4_addPlace_73 (k := ?_)
    refine X4_addPlace_74 (k := ?_)
    refine X4_addPlace_75 (k := ?_)
    refine X4_addPlace_78 (k := ?_)
    refine X4_addPlace_79 (hq := ?_)
    rw [show ((L : Int) * 5).toNat = 5 * L by omega, show ((L : Int) * 5 + 1).toNat = 5 * L + 1 by omega, show ((L : Int) * 5 + 2).toNat = 5 * L + 2 by omega, show ((L : Int) * 5 + 3).toNat = 5 * L + 3 by omega, show ((L : Int) * 5 + 4).toNat = 5 * L + 4 by omega]
    refine h1 (by omega) _ ?_ ?_ (fun k k1 k2 => ?_)
    · (try simp (disch := omega) only [z_up_n, z_up_s, zu_s, zu_n, Int.toNat_natCast])
      rfl
    · (try simp (disch := omega) only [z_up_n, z_up_s, zu_s, zu_n, Int.toNat_natCast])
    · (try simp (disch := omega) only [z_up_n, z_up_s, zu_s, zu_n, Int.toNat_natCast])
  · refine X4_addPlace_8 (k := ?_)
    refine X4_addPlace_9 (hq := ?_)
    exact h0 (by omega)
theorem s11_layPlace {Q : z_M → Prop} {r : Nat} (hr : z_cl r = 20) (hn : 113 ≤ z_n r) {v0 v1 v2 v3 v4 : Int} (hL : I r 1 = L) (hL5 : L < 5) (h : ∀ I', I' r = zu (row5 (I r) (5 + 5 * L) v0 v1 v2 v3 v4) 1 (L + 1) → (∀ k, k ≠ r → I' k = I k) → Q I') : CX11_layPlace [aR r, aI v0, aI v1, aI v2, aI v3, aI v4] I Q := by
  refine eX11_layPlace ?_
  refine X11_layPlace_0 (k := ?_)
  refine X11_layPlace_1 (k := ?_)
  refine X11_layPlace_2 (k := ?_)
  refine X11_layPlace_3 (k := ?_)
  refine X11_layPlace_4 (k := ?_)
  rw [show (1 : Int).toNat = 1 from rfl, hL]
  refine X11_layPlace_5 (k := ?_)
  refine X11_layPlace_6 (k := ?_)
  refine X11_layPlace_7 (k := ?_)
  refine X11_layPlace_9 (k := ?_)
  refine X11_layPlace_10 (k := ?_)
  refine X11_layPlace_12 (k := ?_)
  refine X11_layPlace_13 (k := ?_)
  refine X11_layPlace_14 (k := ?_)
  refine X11_layPlace_15 (k := ?_)
  refine X11_layPlace_16 (k := ?_)
  refine X11_layPlace_17 (k := ?_)
  refine X11_layPlace_19 (k := ?_)
  refine X11_layPlace_20 (k := ?_)
  refine X11_layPlace_21 (k := ?_)
  refine X11_layPlace_22 (k := ?_)
  refine X11_layPlace_23 (k := ?_)
  refine X11_layPlace_24 (k := ?_)
  refine X11_layPlace_26 (k := ?_)
  refine X11_layPlace_27 (k := ?_)
  refine X11_layPlace_28 (k := ?_)
  refine X11_layPlace_29 (k := ?_)
  refine X11_layPlace_30 (k := ?_)
  refine X11_layPlace_31 (k := ?_)
  refine X11_layPlace_33 (k := ?_)
  refine X11_layPlace_34 (k := ?_)
  refine X11_layPlace_35 (k := ?_)
  refine X11_layPlace_37 (k := ?_)
  refine X11_layPlace_38 (k := ?_)
  refine X11_layPlace_39 (k := ?_)
  refine X11_layPlace_41 (k := ?_)
  refine X11_layPlace_42 (k := ?_)
  refine X11_layPlace_43 (k := ?_)
  refine X11_layPlace_45 (k := ?_)
  refine X11_layPlace_46 (k := ?_)
  refine X11_layPlace_47 (k := ?_)
  refine X11_layPlace_48 (k := ?_)
  refine X11_layPlace_49 (k := ?_)
  rw [show (5 + 5 * (L : Int) + 0).toNat = 5 + 5 * L by omega, show (5 + 5 * (L : Int) + 1).toNat = 5 + 5 * L + 1 by omega, show (5 + 5 * (L : Int) + 2).toNat = 5 + 5 * L + 2 by omega, show (5 + 5 * (L : Int) + 3).toNat = 5 + 5 * L + 3 by omega, show (5 + 5 * (L : Int) + 4).toNat = 5 + 5 * L + 4 by omega, show (1 : Int).toNat = 1 from rfl]
  (try simp (disch := omega) only [z_up_n, z_up_s, zu_s, zu_n, Int.toNat_natCast])
  rw [hL]
  refine X11_layPlace_50 (k := ?_)
  refine X11_layPlace_51 (k := ?_)
  refine X11_layPlace_52 (k := ?_)
  refine X11_layPlace_53 (hq := ?_)
  refine h _ ?_ (fun k hk => by (try simp (disch := omega) only [z_up_n, z_up_s, zu_s, zu_n, Int.toNat_natCast]))
  (try simp (disch := omega) only [z_up_n, z_up_s, zu_s, zu_n, Int.toNat_natCast])
  rfl
end MO

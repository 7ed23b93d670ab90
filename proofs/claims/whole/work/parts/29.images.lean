/-! image, from -/
section IM
variable {I I' : z_M} {b c : Nat} {A A' : Nat → Int} {P L : Nat}
theorem rpU_A (h : rpU I b A P L) (hP : P ≤ 8) (e : ∀ j, j < 249 → A' j = A j) : rpU I b A' P L := by
  obtain ⟨o, U, u1, u2, u3, u4, u5, u6⟩ := h
  refine ⟨o, U, u1, u2, u3, by rw [e 4 (by decide)]; exact u4, u5, fun u hu => ?_⟩
  obtain ⟨g1, g2⟩ := u6 u hu
  rw [e _ (by omega)]
  refine ⟨g1, fun p hp => ?_⟩
  rw [e _ (by omega), e _ (by omega)]
  exact g2 p hp
theorem rp_A (h : rp I b A) (e : ∀ j, j < 249 → A' j = A j) : rp I b A' := by
  obtain ⟨P, L, s, hh, hr, hu⟩ := h
  have hP := s.2.2.1.2.2.1
  refine ⟨P, L, rpS_cg s (fun k _ _ _ => rfl) ⟨rfl, rfl, rfl⟩ (fun j j1 _ _ => e j (by omega)), rpH_cg hh rfl rfl (fun j _ j2 => e j (by omega)), rpR_cg hr rfl rfl (e 3 (by decide)) (fun j _ j2 => e j (by omega)) (Nat.le_refl _) (Nat.le_refl _), rpU_A hu hP e⟩
theorem z_cp_up {k0 k1 d n : Nat} {v : Int} (hk : k0 ≠ k1) (hv : v = I k0 n) : z_up (z_cp I k0 k1 0 d n) k1 (d + n) v = z_cp I k0 k1 0 d (n + 1) := by
  funext a j
  unfold z_up z_cp z_row va_cpy
  by_cases ha : a = k1
  · subst ha
    by_cases z : j = d + n
    · subst z
      rw [if_pos ⟨rfl, rfl⟩, if_pos rfl, if_pos (by omega), hv]
      congr 1
      omega
    · rw [if_neg (by omega), if_pos rfl, if_pos rfl]
      by_cases z2 : d ≤ j ∧ j < d + n
      · rw [if_pos z2, if_pos (by omega)]
      · rw [if_neg z2, if_neg (by omega)]
  · rw [if_neg (by omega), if_neg ha, if_neg ha]
theorem z_cp_e {k0 k1 d : Nat} : z_cp I k0 k1 0 d 0 = I := by
  funext a j
  unfold z_cp z_row va_cpy
  by_cases ha : a = k1
  · subst ha
    rw [if_pos rfl, if_neg (by omega)]
  · rw [if_neg ha]
theorem X11_image_loop {Q : Int → z_M → Prop} {i : Nat} (hi : i < 2) (h : JX11_image Q 50 [aR 60, aI i, aI 249] [] (z_cp I 61 62 0 (249 * i) 249)) : JX11_image Q 19 [aR 60, aI i, aI 0] [] I := by
  have := z_for 249 (fun n => JX11_image Q 19 [aR 60, aI i, aI (n : Int)] [] (z_cp I 61 62 0 (249 * i) n)) (by
    refine X11_image_19 (k := ?_)
    refine X11_image_20 (k := ?_)
    refine X11_image_23 (kt := fun k23 => ?_) (kf := fun k23 => ?_)
    · exact h
    · omega) (fun n hn ih => by
    refine X11_image_19 (k := ?_)
    refine X11_image_20 (k := ?_)
    refine X11_image_23 (kt := fun k23 => ?_) (kf := fun k23 => ?_)
    · omega
    · refine X11_image_26 (k := ?_)
      refine X11_image_27 (k := ?_)
      refine X11_image_30 (k := ?_)
      refine X11_image_33 (k := ?_)
      refine X11_image_34 (k := ?_)
      refine X11_image_35 (k := ?_)
      refine X11_image_36 (k := ?_)
      refine X11_image_37 (k := ?_)
      refine X11_image_38 (k := ?_)
      refine X11_image_41 (k := ?_)
      refine X11_image_42 (k := ?_)
      rw [Int.toNat_natCast, z_cp_n (show 61 ≠ 62 by decide)]
      refine X11_image_43 (k := ?_)
      rw [show (249 * (i : Int) + n).toNat = 249 * i + n by omega, z_cp_up (by decide) rfl]
      refine X11_image_44 (k := ?_)
      refine X11_image_47 (k := ?_)
      exact ih) 0 (by decide)
  rw [z_cp_e] at this
  exact this
theorem X11_from_loop {Q : Int → z_M → Prop} {i : Nat} (hi : i < 2) (h : ∀ I', (∀ j, j < 249 → I' 61 j = I 62 (249 * i + j)) → (∀ k, k ≠ 61 → I' k = I k) → JX11_from Q 64 [aR 60, aI i, aI 249] [] I') : JX11_from Q 33 [aR 60, aI i, aI 0] [] I := by
  have := z_for 249 (fun n => ∀ I', (∀ j, j < n → I' 61 j = I 62 (249 * i + j)) → (∀ k, k ≠ 61 → I' k = I k) → JX11_from Q 33 [aR 60, aI i, aI (n : Int)] [] I') (by
    intro I' e1 e2
    refine X11_from_33 (k := ?_)
    refine X11_from_34 (k := ?_)
    refine X11_from_37 (kt := fun k37 => ?_) (kf := fun k37 => ?_)
    · exact h I' e1 e2
    · omega) (fun n hn ih => by
    intro I' e1 e2
    refine X11_from_33 (k := ?_)
    refine X11_from_34 (k := ?_)
    refine X11_from_37 (kt := fun k37 => ?_) (kf := fun k37 => ?_)
    · omega
    · refine X11_from_40 (k := ?_)
      refine X11_from_41 (k := ?_)
      refine X11_from_44 (k := ?_)
      refine X11_from_45 (k := ?_)
      refine X11_from_46 (k := ?_)
      refine X11_from_49 (k := ?_)
      refine X11_from_52 (k := ?_)
      refine X11_from_53 (k := ?_)
      refine X11_from_54 (k := ?_)
      refine X11_from_55 (k := ?_)
      refine X11_from_56 (k := ?_)
      rw [show (249 * (i : Int) + n).toNat = 249 * i + n by omega, e2 62 (by decide)]
      refine X11_from_57 (k := ?_)
      refine X11_from_58 (k := ?_)
      refine X11_from_61 (k := ?_)
      refine ih _ (fun j hj => ?_) (fun k hk => by (try simp (disch := omega) only [z_up_n, z_up_s, zu_s, zu_n, Int.toNat_natCast]); exact e2 k hk)
      (try simp (disch := omega) only [z_up_n, z_up_s, zu_s, zu_n, Int.toNat_natCast])
      by_cases z : j = n
      · subst z
        (try simp (disch := omega) only [z_up_n, z_up_s, zu_s, zu_n, Int.toNat_natCast])
      · (try simp (disch := omega) only [z_up_n, z_up_s, zu_s, zu_n, Int.toNat_natCast])
        exact e1 j (by omega)) 0 (by decide)
  exact this I (fun j hj => absurd hj (Nat.not_lt_zero j)) (fun _ _ => rfl)
theorem t_image {Q : Int → Int → z_M → Prop} {x0 : Int} (h : RR I) (hq : ∀ r I', RR I' → Q r r I') : CX10_image [aR 0, aI x0] I (fun r I1 => CX11_image [aR 60, aI x0] I1 (fun r' I2 => Q r r' I2)) := by
  have ref : ∀ (I1 : z_M) (r : Int), (∀ x : Nat, x0 = x → x < 2 → Q r 1 (z_up (z_cp I1 61 62 0 (249 * x) 249) 63 x 1)) → (¬ (0 ≤ x0 ∧ x0 ≤ 1) → Q r (-2) (z_up I1 64 0 (i32 (I1 64 0 + 1)))) → CX11_image [aR 60, aI x0] I1 (fun r' I2 => Q r r' I2) := by
    intro I1 r g1 g0
    refine eX11_image ?_
    refine X11_image_0 (k := ?_)
    refine X11_image_1 (k := ?_)
    refine X11_image_2 (k := ?_)
    refine X11_image_3 (k := ?_)
    refine X11_image_4 (k := ?_)
    refine s11_in (fun u4 u4b => ?_) (fun u4 => ?_)
    · refine X11_image_7 (kt := fun _ => ?_) (kf := fun z => absurd z (by decide))
      obtain ⟨x, rfl⟩ : ∃ x : Nat, x0 = x := ⟨x0.toNat, by omega⟩
      refine X11_image_17 (k := ?_)
      refine X11_image_18 (k := ?_)
      refine X11_image_loop (by omega) ?_
      refine X11_image_50 (k := ?_)
      refine X11_image_51 (k := ?_)
      refine X11_image_54 (k := ?_)
      refine X11_image_55 (k := ?_)
      refine X11_image_56z (k := ?_)
      rw [Int.toNat_natCast]
      refine X11_image_57 (k := ?_)
      refine X11_image_58 (hq := ?_)
      exact g1 x rfl (by omega)
    · refine X11_image_7 (kt := fun z => absurd z (by decide)) (kf := fun _ => ?_)
      refine X11_image_10 (k := ?_)
      refine X11_image_11 (k := ?_)
      refine X11_image_13 (k := ?_)
      refine s11_bad ?_
      refine X11_image_16 (hq := ?_)
      exact g0 (by omega)
  refine eX10_image ?_
  refine X10_image_0 (k := ?_)
  refine X10_image_1 (k := ?_)
  refine X10_image_2 (k := ?_)
  refine s10_isUpTo (fun u2 u2b => ?_) (fun u2 => ?_)
  · refine X10_image_5 (kt := fun _ => ?_) (kf := fun z => absurd z (by decide))
    obtain ⟨x, rfl⟩ : ∃ x : Nat, x0 = x := ⟨x0.toNat, by omega⟩
    refine X10_image_13 (k := ?_)
    refine X10_image_14 (k := ?_)
    refine X10_image_17 (k := ?_)
    refine X10_image_18g (k := ?_)
    rw [Int.toNat_natCast]
    have ox : z_cl (31 + 11 * x) = 4 := by rcases (show x = 0 ∨ x = 1 by omega) with rfl | rfl <;> rfl
    refine X10_image_19 (k := ?_)
    refine X10_image_20 (k := ?_)
    refine X10_image_23 (k := ?_)
    refine s4_takeAll ox rfl (by omega) (fun I1 e1 ef => ?_)
    refine X10_image_26 (k := ?_)
    refine X10_image_27 (k := ?_)
    refine X10_image_30 (k := ?_)
    refine X10_image_31 (k := ?_)
    refine X10_image_32z (k := ?_)
    rw [Int.toNat_natCast]
    refine X10_image_33 (k := ?_)
    refine X10_image_34 (hq := ?_)
    refine ref _ _ (fun y z z1 => ?_) (fun z => by omega)
    have : y = x := by omega
    subst this
    have g1 : ∀ k, k ≠ 53 → k ≠ 62 → k ≠ 63 → (k < 31 + 11 * y ∨ 31 + 11 * y + 10 < k) → (z_up (z_cp (z_up I1 53 y 1) 61 62 0 (249 * y) 249) 63 y 1) k = I k := fun k k1 k2 k3 k4 => by
      rw [z_up_n k3, z_cp_n k2, z_up_n k1]
      exact ef k k4
    have g2 : ∀ k, 31 + 11 * y ≤ k → k ≤ 31 + 11 * y + 10 → (z_up (z_cp (z_up I1 53 y 1) 61 62 0 (249 * y) 249) 63 y 1) k = I1 k := fun k k1 k2 => by
      rw [z_up_n (by omega), z_cp_n (by omega), z_up_n (by omega)]
    have g53 : (z_up (z_cp (z_up I1 53 y 1) 61 62 0 (249 * y) 249) 63 y 1) 53 = zu (I 53) y 1 := by
      rw [z_up_n (by decide), z_cp_n (by decide), z_up_s, ef 53 (by omega)]
    have g63 : (z_up (z_cp (z_up I1 53 y 1) 61 62 0 (249 * y) 249) 63 y 1) 63 = zu (I 63) y 1 := by
      rw [z_up_s, z_cp_n (by decide), z_up_n (by decide), ef 63 (by omega)]
    have g62 : ∀ j, j < 249 → (z_up (z_cp (z_up I1 53 y 1) 61 62 0 (249 * y) 249) 63 y 1) 62 (249 * y + j) = I 61 j := fun j hj => by
      rw [z_up_n (by decide), z_cp_s (by omega) (by omega), z_up_n (by decide), ef 61 (by omega)]
      congr 1
      omega
    have g62o : ∀ i j, i < 2 → i ≠ y → j < 249 → (z_up (z_cp (z_up I1 53 y 1) 61 62 0 (249 * y) 249) 63 y 1) 62 (249 * i + j) = I 62 (249 * i + j) := fun i j h1 h2 h3 => by
      rw [z_up_n (by decide), z_cp_o (by omega), z_up_n (by decide), ef 62 (by omega)]
    generalize (z_up (z_cp (z_up I1 53 y 1) 61 62 0 (249 * y) 249) 63 y 1) = I9 at g1 g2 g53 g63 g62 g62o ⊢
    obtain ⟨h1, h2, ⟨n, t1, t2, t3, t4⟩, f1, f2, f3, f4, f5⟩ := h
    refine hq _ _ ⟨?_, fun i hi => ?_, ⟨n, t1, by rw [g1 60 (by decide) (by decide) (by decide) (by omega)]; exact t2, by rw [g1 54 (by decide) (by decide) (by decide) (by omega)]; exact t3, fun k hk => by rw [g1 55 (by decide) (by decide) (by decide) (by omega), g1 71 (by decide) (by decide) (by decide) (by omega)]; exact t4 k hk⟩, ?_⟩
    · rw [g1 61 (by decide) (by decide) (by decide) (by omega)]
      exact rp_cg h1 (fun k k1 k2 => g1 k (by omega) (by omega) (by omega) (by omega))
    · rw [g53, g63]
      by_cases z : i = y
      · subst z
        rw [zu_s, zu_s]
        refine ⟨rfl, Or.inr rfl, fun _ => ?_⟩
        refine rp_A (A := I 61) ?_ (fun j hj => g62 j hj)
        refine rp_cg ?_ g2
        exact rp_cp h1 e1
      · obtain ⟨p1, p2, p3⟩ := h2 i hi
        rw [zu_n z, zu_n z]
        refine ⟨p1, p2, fun q => ?_⟩
        refine rp_A (A := fun j => I 62 (249 * i + j)) ?_ (fun j hj => g62o i j hi z hj)
        exact rp_cg (p3 q) (fun k k1 k2 => g1 k (by omega) (by omega) (by omega) (by omega))
    · unfold rpF
      rw [g1 0 (by decide) (by decide) (by decide) (by omega), g1 60 (by decide) (by decide) (by decide) (by omega), g1 64 (by decide) (by decide) (by decide) (by omega)]
      exact ⟨f1, f2, f3, f4, f5⟩
  · refine X10_image_5 (kt := fun z => absurd z (by decide)) (kf := fun _ => ?_)
    refine X10_image_8 (k := ?_)
    refine X10_image_9 (k := ?_)
    refine s10_refuseBad ?_
    refine X10_image_12 (hq := ?_)
    refine ref _ _ (fun x z => by omega) (fun z => ?_)
    exact RR_bad (Q := Q) h (fun I' => hq _ I')
theorem t_from {Q : Int → Int → z_M → Prop} {x0 : Int} (h : RR I) (hq : ∀ r I', RR I' → Q r r I') : CX10_from [aR 0, aI x0] I (fun r I1 => CX11_from [aR 60, aI x0] I1 (fun r' I2 => Q r r' I2)) := by
  have ref : ∀ (I1 : z_M) (r : Int), (∀ x : Nat, x0 = x → x < 2 → I1 63 x = 1 → ∀ I2, (∀ j, j < 249 → I2 61 j = I1 62 (249 * x + j)) → (∀ k, k ≠ 61 → I2 k = I1 k) → Q r 1 I2) → (∀ x : Nat, x0 = x → x < 2 → I1 63 x = 0 → Q r (-3) (z_up I1 64 1 (i32 (I1 64 1 + 1)))) → (∀ x : Nat, x < 2 → I1 63 x = 0 ∨ I1 63 x = 1) → (¬ (0 ≤ x0 ∧ x0 ≤ 1) → Q r (-2) (z_up I1 64 0 (i32 (I1 64 0 + 1)))) → CX11_from [aR 60, aI x0] I1 (fun r' I2 => Q r r' I2) := by
    intro I1 r g1 g2 e g0
    refine eX11_from ?_
    refine X11_from_0 (k := ?_)
    refine X11_from_1 (k := ?_)
    refine X11_from_2 (k := ?_)
    refine X11_from_3 (k := ?_)
    refine X11_from_4 (k := ?_)
    refine s11_in (fun u4 u4b => ?_) (fun u4 => ?_)
    · refine X11_from_7 (kt := fun _ => ?_) (kf := fun z => absurd z (by decide))
      obtain ⟨x, rfl⟩ : ∃ x : Nat, x0 = x := ⟨x0.toNat, by omega⟩
      refine X11_from_17 (k := ?_)
      refine X11_from_18 (k := ?_)
      refine X11_from_21 (k := ?_)
      refine X11_from_22z (k := ?_)
      rw [Int.toNat_natCast]
      have ex := e x (by omega)
      refine X11_from_23 (kt := fun k23 => ?_) (kf := fun k23 => ?_)
      · refine X11_from_31 (k := ?_)
        refine X11_from_32 (k := ?_)
        refine X11_from_loop (by omega) (fun I2 e1 e2 => ?_)
        refine X11_from_64 (k := ?_)
        refine X11_from_65 (hq := ?_)
        exact g1 x rfl (by omega) (by omega) I2 e1 e2
      · refine X11_from_26 (k := ?_)
        refine X11_from_27 (k := ?_)
        refine s11_no ?_
        refine X11_from_30 (hq := ?_)
        exact g2 x rfl (by omega) (by omega)
    · refine X11_from_7 (kt := fun z => absurd z (by decide)) (kf := fun _ => ?_)
      refine X11_from_10 (k := ?_)
      refine X11_from_11 (k := ?_)
      refine X11_from_13 (k := ?_)
      refine s11_bad ?_
      refine X11_from_16 (hq := ?_)
      exact g0 (by omega)
  obtain ⟨h1, h2, h3, f1, f2, f3, f4, f5⟩ := id h
  refine eX10_from ?_
  refine X10_from_0 (k := ?_)
  refine X10_from_1 (k := ?_)
  refine X10_from_2 (k := ?_)
  refine s10_isUpTo (fun u2 u2b => ?_) (fun u2 => ?_)
  · refine X10_from_5 (kt := fun _ => ?_) (kf := fun z => absurd z (by decide))
    obtain ⟨x, rfl⟩ : ∃ x : Nat, x0 = x := ⟨x0.toNat, by omega⟩
    obtain ⟨p1, p2, p3⟩ := h2 x (by omega)
    refine X10_from_13 (k := ?_)
    refine X10_from_14 (k := ?_)
    refine X10_from_17 (k := ?_)
    refine X10_from_18z (k := ?_)
    rw [Int.toNat_natCast, p1]
    refine X10_from_19 (kt := fun k19 => ?_) (kf := fun k19 => ?_)
    · refine X10_from_27 (k := ?_)
      refine X10_from_28 (k := ?_)
      refine X10_from_31 (k := ?_)
      refine X10_from_32 (k := ?_)
      refine X10_from_35 (k := ?_)
      refine X10_from_36g (k := ?_)
      rw [Int.toNat_natCast]
      have ox : z_cl (31 + 11 * x) = 4 := by rcases (show x = 0 ∨ x = 1 by omega) with rfl | rfl <;> rfl
      refine X10_from_37 (k := ?_)
      refine s4_takeAll rfl ox (by omega) (fun I1 e1 ef => ?_)
      refine X10_from_40 (k := ?_)
      refine X10_from_41 (hq := ?_)
      have p4 : I 63 x = 1 := by omega
      refine ref _ _ (fun y z z1 z2 I2 g1 g2 => ?_) (fun y z z1 z2 => ?_) (fun y hy => by rw [ef 63 (by decide)]; exact (h2 y hy).2.1) (fun z => by omega)
      · have : y = x := by omega
        subst this
        have er : ∀ k, (k < 8 ∨ 18 < k) → k ≠ 61 → I2 k = I k := fun k k1 k2 => by
          rw [g2 k k2]
          exact ef k k1
        refine hq _ _ (RR_now h ?_ (fun k hk => er k (by omega) (by omega)) (by rw [er 54 (by decide) (by decide)]) (by rw [er 60 (by decide) (by decide)]) (by rw [er 60 (by decide) (by decide)]) (by rw [er 60 (by decide) (by decide)]))
        refine rp_A (A := fun j => I 62 (249 * y + j)) ?_ (fun j hj => by rw [g1 j hj, ef 62 (by decide)])
        refine rp_cg (I := I1) ?_ (fun k k1 k2 => g2 k (by omega))
        exact rp_cp (p3 p4) e1
      · have : y = x := by omega
        subst this
        rw [ef 63 (by decide)] at z2
        omega
    · refine X10_from_22 (k := ?_)
      refine X10_from_23 (k := ?_)
      refine s10_refuseNo ?_
      refine X10_from_26 (hq := ?_)
      refine ref _ _ (fun y z z1 z2 => ?_) (fun y z z1 z2 => ?_) (fun y hy => by rw [z_up_n (by decide)]; exact (h2 y hy).2.1) (fun z => by omega)
      · have : y = x := by omega
        subst this
        rw [z_up_n (by decide)] at z2
        omega
      · exact RR_no (Q := Q) h (fun I' => hq _ I')
  · refine X10_from_5 (kt := fun z => absurd z (by decide)) (kf := fun _ => ?_)
    refine X10_from_8 (k := ?_)
    refine X10_from_9 (k := ?_)
    refine s10_refuseBad ?_
    refine X10_from_12 (hq := ?_)
    refine ref _ _ (fun x z => by omega) (fun x z => by omega) (fun x hx => by rw [z_up_n (by decide)]; exact (h2 x hx).2.1) (fun z => ?_)
    exact RR_bad (Q := Q) h (fun I' => hq _ I')
end IM

/-! small methods of the class, and the small calls -/
section C1
variable {I : z_M}
theorem s10_isHymn {Q : Int → z_M → Prop} {x : Int} (h1 : 0 ≤ x → x ≤ 2 → Q 1 I) (h0 : ¬ (0 ≤ x ∧ x ≤ 2) → Q 0 I) : CX10_isHymn [aI x] I Q := by
  refine eX10_isHymn ?_
  refine X10_isHymn_0 (k := ?_)
  refine X10_isHymn_1 (k := ?_)
  refine X10_isHymn_2 (k := ?_)
  refine s10_isUpTo (fun u2 u2b => ?_) (fun u2 => ?_)
  · refine X10_isHymn_5 (hq := ?_)
    first | exact h1 (by omega) (by omega) | exact h0 (by omega)
  · refine X10_isHymn_5 (hq := ?_)
    first | exact h1 (by omega) (by omega) | exact h0 (by omega)
theorem s10_isShift {Q : Int → z_M → Prop} {x : Int} (h1 : -6 ≤ x → x ≤ 6 → Q 1 I) (h0 : ¬ (-6 ≤ x ∧ x ≤ 6) → Q 0 I) : CX10_isShift [aI x] I Q := by
  refine eX10_isShift ?_
  refine X10_isShift_0 (k := ?_)
  refine X10_isShift_1 (k := ?_)
  refine X10_isShift_3 (kt := fun k3 => ?_) (kf := fun k3 => ?_)
  · refine X10_isShift_16 (k := ?_)
    refine X10_isShift_17 (hq := ?_)
    first | exact h1 (by omega) (by omega) | exact h0 (by omega)
  · refine X10_isShift_6 (k := ?_)
    refine X10_isShift_7 (k := ?_)
    refine X10_isShift_9 (kt := fun k9 => ?_) (kf := fun k9 => ?_)
    · refine X10_isShift_16 (k := ?_)
      refine X10_isShift_17 (hq := ?_)
      first | exact h1 (by omega) (by omega) | exact h0 (by omega)
    · refine X10_isShift_12 (k := ?_)
      refine X10_isShift_13 (k := ?_)
      refine X10_isShift_17 (hq := ?_)
      first | exact h1 (by omega) (by omega) | exact h0 (by omega)
theorem s10_isPipe {Q : Int → z_M → Prop} {x : Int} (h1 : 0 ≤ x → x < I 8 2 → Q 1 I) (h0 : ¬ (0 ≤ x ∧ x < I 8 2) → Q 0 I) (hr : 0 ≤ I 8 2 ∧ I 8 2 ≤ 8 := by omega) : CX10_isPipe [aR 0, aI x] I Q := by
  refine eX10_isPipe ?_
  refine X10_isPipe_0 (k := ?_)
  refine X10_isPipe_1 (k := ?_)
  refine X10_isPipe_2 (k := ?_)
  refine X10_isPipe_5 (k := ?_)
  refine X10_isPipe_8 (k := ?_)
  refine X10_isPipe_9 (k := ?_)
  refine X10_isPipe_10 (k := ?_)
  refine s10_isUpTo (fun u10 u10b => ?_) (fun u10 => ?_)
  · refine X10_isPipe_13 (hq := ?_)
    first | exact h1 (by omega) (by omega) | exact h0 (by omega)
  · refine X10_isPipe_13 (hq := ?_)
    first | exact h1 (by omega) (by omega) | exact h0 (by omega)
theorem s10_isPlace {Q : Int → z_M → Prop} {x : Int} (h1 : 0 ≤ x → x < I 8 1 → Q 1 I) (h0 : ¬ (0 ≤ x ∧ x < I 8 1) → Q 0 I) (hr : 0 ≤ I 8 1 ∧ I 8 1 ≤ 5 := by omega) : CX10_isPlace [aR 0, aI x] I Q := by
  refine eX10_isPlace ?_
  refine X10_isPlace_0 (k := ?_)
  refine X10_isPlace_1 (k := ?_)
  refine X10_isPlace_2 (k := ?_)
  refine X10_isPlace_5 (k := ?_)
  refine X10_isPlace_8 (k := ?_)
  refine X10_isPlace_9 (k := ?_)
  refine X10_isPlace_10 (k := ?_)
  refine s10_isUpTo (fun u10 u10b => ?_) (fun u10 => ?_)
  · refine X10_isPlace_13 (hq := ?_)
    first | exact h1 (by omega) (by omega) | exact h0 (by omega)
  · refine X10_isPlace_13 (hq := ?_)
    first | exact h1 (by omega) (by omega) | exact h0 (by omega)
theorem s10_refuseBad {Q : Int → z_M → Prop} (h : Q (-2) (z_up I 0 10 (i32 (I 0 10 + 1)))) : CX10_refuseBad [aR 0] I Q := by
  refine eX10_refuseBad ?_
  refine X10_refuseBad_0 (k := ?_)
  refine X10_refuseBad_1 (k := ?_)
  refine X10_refuseBad_2 (k := ?_)
  refine X10_refuseBad_5 (k := ?_)
  refine X10_refuseBad_6w (k := ?_)
  refine X10_refuseBad_7 (k := ?_)
  refine X10_refuseBad_10 (k := ?_)
  refine X10_refuseBad_12 (hq := ?_)
  exact h
theorem s10_refuseBadTen {Q : Int → z_M → Prop} (h : Q (-10) (z_up I 0 10 (i32 (I 0 10 + 1)))) : CX10_refuseBadTen [aR 0] I Q := by
  refine eX10_refuseBadTen ?_
  refine X10_refuseBadTen_0 (k := ?_)
  refine X10_refuseBadTen_1 (k := ?_)
  refine X10_refuseBadTen_2 (k := ?_)
  refine X10_refuseBadTen_5 (k := ?_)
  refine X10_refuseBadTen_6w (k := ?_)
  refine X10_refuseBadTen_7 (k := ?_)
  refine X10_refuseBadTen_10 (k := ?_)
  refine X10_refuseBadTen_12 (hq := ?_)
  exact h
theorem s10_refuseNo {Q : Int → z_M → Prop} (h : Q (-3) (z_up I 0 11 (i32 (I 0 11 + 1)))) : CX10_refuseNo [aR 0] I Q := by
  refine eX10_refuseNo ?_
  refine X10_refuseNo_0 (k := ?_)
  refine X10_refuseNo_1 (k := ?_)
  refine X10_refuseNo_2 (k := ?_)
  refine X10_refuseNo_5 (k := ?_)
  refine X10_refuseNo_6w (k := ?_)
  refine X10_refuseNo_7 (k := ?_)
  refine X10_refuseNo_10 (k := ?_)
  refine X10_refuseNo_12 (hq := ?_)
  exact h
theorem s10_refuseFull {Q : Int → z_M → Prop} (h : Q (-4) (z_up I 0 12 (i32 (I 0 12 + 1)))) : CX10_refuseFull [aR 0] I Q := by
  refine eX10_refuseFull ?_
  refine X10_refuseFull_0 (k := ?_)
  refine X10_refuseFull_1 (k := ?_)
  refine X10_refuseFull_2 (k := ?_)
  refine X10_refuseFull_5 (k := ?_)
  refine X10_refuseFull_6w (k := ?_)
  refine X10_refuseFull_7 (k := ?_)
  refine X10_refuseFull_10 (k := ?_)
  refine X10_refuseFull_12 (hq := ?_)
  exact h
theorem z_up2 {I : z_M} {j k : Nat} {v : Int} (h : k ≠ 0) : z_up I 0 j v k = I k := z_up_n h
/-- the three refusals, class then reference -/
theorem RR_bad {Q : Int → Int → z_M → Prop} {t : Int} (h : RR I) (hq : ∀ I', RR I' → Q t t I') : Q t t (z_up (z_up I 0 10 (i32 (I 0 10 + 1))) 64 0 (i32 (z_up I 0 10 (i32 (I 0 10 + 1)) 64 0 + 1))) := by
  rw [z_up2 (by decide)]
  exact hq _ (RR_ref h 0 (by decide))
theorem RR_no {Q : Int → Int → z_M → Prop} {t : Int} (h : RR I) (hq : ∀ I', RR I' → Q t t I') : Q t t (z_up (z_up I 0 11 (i32 (I 0 11 + 1))) 64 1 (i32 (z_up I 0 11 (i32 (I 0 11 + 1)) 64 1 + 1))) := by
  rw [z_up2 (by decide)]
  exact hq _ (RR_ref h 1 (by decide))
theorem RR_full {Q : Int → Int → z_M → Prop} {t : Int} (h : RR I) (hq : ∀ I', RR I' → Q t t I') : Q t t (z_up (z_up I 0 12 (i32 (I 0 12 + 1))) 64 2 (i32 (z_up I 0 12 (i32 (I 0 12 + 1)) 64 2 + 1))) := by
  rw [z_up2 (by decide)]
  exact hq _ (RR_ref h 2 (by decide))
theorem t_status {Q : Int → Int → z_M → Prop} {x : Int} (h : RR I) (hq : ∀ r I', RR I' → Q r r I') : CX10_status [aR 0, aI x] I (fun r I1 => CX11_status [aR 60, aI x] I1 (fun r' I2 => Q r r' I2)) := by
  obtain ⟨-, -, -, -, -, f3, f4, f5⟩ := id h
  have ref : ∀ (I1 : z_M) (r : Int), (0 ≤ x ∧ x ≤ 2 → Q r (I1 64 x.toNat) I1) → (¬ (0 ≤ x ∧ x ≤ 2) → Q r (-1) (z_up I1 64 0 (i32 (I1 64 0 + 1)))) → CX11_status [aR 60, aI x] I1 (fun r' I2 => Q r r' I2) := by
    intro I1 r g1 g0
    refine eX11_status ?_
    refine X11_status_0 (k := ?_)
    refine X11_status_1 (k := ?_)
    refine X11_status_2 (k := ?_)
    refine X11_status_3 (k := ?_)
    refine X11_status_6 (k := ?_)
    refine s11_in (fun u6 u6b => ?_) (fun u6 => ?_)
    · refine X11_status_9 (kt := fun z => absurd z (by decide)) (kf := fun _ => ?_)
      refine X11_status_12 (k := ?_)
      refine X11_status_13 (k := ?_)
      refine X11_status_16 (k := ?_)
      refine X11_status_17 (k := ?_)
      refine X11_status_18 (k := ?_)
      refine X11_status_26 (hq := ?_)
      first | exact g1 (by omega) | exact g0 (by omega)
    · refine X11_status_9 (kt := fun _ => ?_) (kf := fun z => absurd z (by decide))
      refine X11_status_21 (k := ?_)
      refine X11_status_22 (k := ?_)
      refine X11_status_23 (k := ?_)
      refine s11_bad ?_
      refine X11_status_26 (hq := ?_)
      first | exact g1 (by omega) | exact g0 (by omega)
  refine eX10_status ?_
  refine X10_status_0 (k := ?_)
  refine X10_status_1 (k0 := fun k1 => ?_) (k1 := fun k1 => ?_) (k2 := fun k1 => ?_) (kd := fun k1 => ?_)
  · refine X10_status_28 (k := ?_)
    refine X10_status_29 (k := ?_)
    refine X10_status_32 (hq := ?_)
    refine ref _ _ (fun _ => ?_) (fun z => by omega)
    rw [k1, f3]
    exact hq _ _ h
  · refine X10_status_33 (k := ?_)
    refine X10_status_34 (k := ?_)
    refine X10_status_37 (hq := ?_)
    refine ref _ _ (fun _ => ?_) (fun z => by omega)
    rw [k1, f4]
    exact hq _ _ h
  · refine X10_status_38 (k := ?_)
    refine X10_status_39 (k := ?_)
    refine X10_status_42 (hq := ?_)
    refine ref _ _ (fun _ => ?_) (fun z => by omega)
    rw [k1, f5]
    exact hq _ _ h
  · refine X10_status_43 (k := ?_)
    refine X10_status_44 (k := ?_)
    refine s10_refuseBad ?_
    refine X10_status_47 (k := ?_)
    refine X10_status_48 (k := ?_)
    refine X10_status_49 (hq := ?_)
    refine ref _ _ (fun _ => by omega) (fun z => ?_)
    exact RR_bad (Q := Q) h (fun I' => hq _ I')
theorem t_part {Q : Int → Int → z_M → Prop} {x : Int} (h : RR I) (hq : ∀ r I', RR I' → Q r r I') : CX10_part [aR 0, aI x] I (fun r I1 => CX11_part [aR 60, aI x] I1 (fun r' I2 => Q r r' I2)) := by
  obtain ⟨-, -, -, f1, f2, -⟩ := id h
  have ref : ∀ (I1 : z_M) (r : Int), (x = 0 → Q r (I1 60 4) I1) → (x = 1 → Q r (I1 60 5) I1) → (¬ (0 ≤ x ∧ x ≤ 1) → Q r (-2) (z_up I1 64 0 (i32 (I1 64 0 + 1)))) → CX11_part [aR 60, aI x] I1 (fun r' I2 => Q r r' I2) := by
    intro I1 r g0 g1 gb
    refine eX11_part ?_
    refine X11_part_0 (k := ?_)
    refine X11_part_1 (kt := fun k1 => ?_) (kf := fun k1 => ?_)
    · refine X11_part_11 (k := ?_)
      refine X11_part_12 (k := ?_)
      refine X11_part_13 (kt := fun k13 => ?_) (kf := fun k13 => ?_)
      · refine X11_part_23 (k := ?_)
        refine X11_part_24 (k := ?_)
        refine X11_part_26 (k := ?_)
        refine s11_bad ?_
        refine X11_part_29 (k := ?_)
        refine X11_part_30 (hq := ?_)
        first | exact g0 (by omega) | exact g1 (by omega) | exact gb (by omega)
      · refine X11_part_16 (k := ?_)
        refine X11_part_17 (k := ?_)
        refine X11_part_20 (k := ?_)
        refine X11_part_30 (hq := ?_)
        first | exact g0 (by omega) | exact g1 (by omega) | exact gb (by omega)
    · refine X11_part_4 (k := ?_)
      refine X11_part_5 (k := ?_)
      refine X11_part_8 (k := ?_)
      refine X11_part_30 (hq := ?_)
      first | exact g0 (by omega) | exact g1 (by omega) | exact gb (by omega)
  refine eX10_part ?_
  refine X10_part_0 (k := ?_)
  refine X10_part_1 (k := ?_)
  refine X10_part_2 (k := ?_)
  refine s10_isUpTo (fun u2 u2b => ?_) (fun u2 => ?_)
  · refine X10_part_5 (kt := fun _ => ?_) (kf := fun z => absurd z (by decide))
    refine X10_part_14 (k := ?_)
    refine X10_part_15 (kt := fun k15 => ?_) (kf := fun k15 => ?_)
    · refine X10_part_25 (k := ?_)
      refine X10_part_26 (k := ?_)
      refine X10_part_29 (hq := ?_)
      refine ref _ _ (fun z => by omega) (fun z => ?_) (fun z => by omega)
      exact f2 ▸ hq _ _ h
    · refine X10_part_18 (k := ?_)
      refine X10_part_19 (k := ?_)
      refine X10_part_22 (k := ?_)
      refine X10_part_29 (hq := ?_)
      refine ref _ _ (fun z => ?_) (fun z => by omega) (fun z => by omega)
      exact f1 ▸ hq _ _ h
  · refine X10_part_5 (kt := fun z => absurd z (by decide)) (kf := fun _ => ?_)
    refine X10_part_8 (k := ?_)
    refine X10_part_9 (k := ?_)
    refine s10_refuseBad ?_
    refine X10_part_12 (k := ?_)
    refine X10_part_13 (hq := ?_)
    refine ref _ _ (fun z => by omega) (fun z => by omega) (fun z => ?_)
    exact RR_bad (Q := Q) h (fun I' => hq _ I')
theorem t_clear {Q : Int → Int → z_M → Prop} (h : RR I) (hq : ∀ r I', RR I' → Q r r I') : CX10_clear [aR 0] I (fun r I1 => CX11_clear [aR 60] I1 (fun r' I2 => Q r r' I2)) := by
  obtain ⟨h1, h2, ⟨n, t1, t2, t3, t4⟩, f⟩ := id h
  refine eX10_clear ?_
  refine X10_clear_0 (k := ?_)
  refine X10_clear_1 (k := ?_)
  refine X10_clear_4 (k := ?_)
  refine X10_clear_7 (k := ?_)
  refine X10_clear_8 (k := ?_)
  refine X10_clear_9 (k := ?_)
  refine X10_clear_12 (k := ?_)
  refine X10_clear_13 (k := ?_)
  refine X10_clear_16 (k := ?_)
  refine X10_clear_17 (hq := ?_)
  refine eX11_clear ?_
  refine X11_clear_0 (k := ?_)
  refine X11_clear_1 (k := ?_)
  refine X11_clear_4 (k := ?_)
  refine X11_clear_5 (k := ?_)
  refine X11_clear_6 (k := ?_)
  refine X11_clear_7 (k := ?_)
  refine X11_clear_10 (k := ?_)
  refine X11_clear_11 (hq := ?_)
  rw [z_up_n (by decide), t2, t3]
  refine hq _ _ ⟨?_, fun i hi => ?_, ⟨0, by omega, by simp [z_up], by simp [z_up], fun k hk => absurd hk (Nat.not_lt_zero k)⟩, ?_⟩
  · rw [z_up_n (by decide), z_up_n (by decide)]
    exact rp_cg h1 (fun k k1 k2 => by rw [z_up_n (by omega), z_up_n (by omega)])
  · rw [z_up_n (by decide), z_up_n (by decide), z_up_n (by decide), z_up_n (by decide), z_up_n (by decide), z_up_n (by decide)]
    obtain ⟨g1, g2, g3⟩ := h2 i hi
    exact ⟨g1, g2, fun z => rp_cg (g3 z) (fun k k1 k2 => by rw [z_up_n (by omega), z_up_n (by omega)])⟩
  · obtain ⟨f1, f2, f3, f4, f5⟩ := f
    simp [z_up, rpF, f1, f2, f3, f4, f5]
theorem s8_add {Q : Int → z_M → Prop} {x : Int} (hx : 0 ≤ x ∧ x ≤ 127) (hn : 0 ≤ I 54 0) (h0 : 150 ≤ I 54 0 → Q 0 I) (h1 : I 54 0 < 150 → Q 1 (z_up (z_up I 55 (I 54 0).toNat x) 54 0 (I 54 0 + 1))) : CX8_add [aR 54, aI x] I Q := by
  refine eX8_add ?_
  refine X8_add_0 (k := ?_)
  refine X8_add_1 (k := ?_)
  refine X8_add_4 (k := ?_)
  refine X8_add_7 (kt := fun k7 => ?_) (kf := fun k7 => ?_)
  · refine X8_add_12 (k := ?_)
    refine X8_add_13 (k := ?_)
    refine X8_add_16 (k := ?_)
    refine X8_add_17 (k := ?_)
    refine X8_add_20 (k := ?_)
    refine X8_add_21 (k := ?_)
    refine X8_add_22 (k := ?_)
    refine X8_add_23 (k := ?_)
    refine X8_add_24 (k := ?_)
    refine X8_add_25 (k := ?_)
    rw [z_up_n (show (54 : Nat) ≠ 55 by decide)]
    refine X8_add_28 (k := ?_)
    refine X8_add_29 (k := ?_)
    refine X8_add_30 (k := ?_)
    refine X8_add_33 (k := ?_)
    refine X8_add_34 (hq := ?_)
    exact h1 k7
  · refine X8_add_10 (k := ?_)
    refine X8_add_11 (hq := ?_)
    exact h0 k7
theorem t_type {Q : Int → Int → z_M → Prop} {x : Int} (h : RR I) (hq : ∀ r I', RR I' → Q r r I') : CX10_type [aR 0, aI x] I (fun r I1 => CX11_type [aR 60, aI x] I1 (fun r' I2 => Q r r' I2)) := by
  obtain ⟨h1, h2, ⟨n, t1, t2, t3, t4⟩, f⟩ := id h
  have ref : ∀ (I1 : z_M) (r : Int), I1 60 16 = n → (0 ≤ x ∧ x ≤ 127 → n < 150 → Q r (n + 1) (z_up (z_up I1 71 n x) 60 16 (n + 1))) → (0 ≤ x ∧ x ≤ 127 → n = 150 → Q r (-4) (z_up I1 64 2 (i32 (I1 64 2 + 1)))) → (¬ (0 ≤ x ∧ x ≤ 127) → Q r (-2) (z_up I1 64 0 (i32 (I1 64 0 + 1)))) → CX11_type [aR 60, aI x] I1 (fun r' I2 => Q r r' I2) := by
    intro I1 r e g1 g2 g0
    refine eX11_type ?_
    refine X11_type_0 (k := ?_)
    refine X11_type_1 (k := ?_)
    refine X11_type_2 (k := ?_)
    refine X11_type_3 (k := ?_)
    refine X11_type_6 (k := ?_)
    refine s11_in (fun u6 u6b => ?_) (fun u6 => ?_)
    · refine X11_type_9 (kt := fun _ => ?_) (kf := fun z => absurd z (by decide))
      refine X11_type_19 (k := ?_)
      refine X11_type_20 (k := ?_)
      refine X11_type_23 (k := ?_)
      refine X11_type_26 (kt := fun k26 => ?_) (kf := fun k26 => ?_)
      · have g1 := g1 ⟨u6, u6b⟩ (by omega)
        have en : (I1 60 16).toNat = n := by omega
        refine X11_type_34 (k := ?_)
        refine X11_type_35 (k := ?_)
        refine X11_type_38 (k := ?_)
        refine X11_type_39 (k := ?_)
        refine X11_type_42 (k := ?_)
        refine X11_type_43 (k := ?_)
        refine X11_type_44 (k := ?_)
        refine X11_type_45 (k := ?_)
        refine X11_type_46 (k := ?_)
        rw [z_up_n (show (60 : Nat) ≠ 71 by decide)]
        refine X11_type_49 (k := ?_)
        refine X11_type_50 (k := ?_)
        refine X11_type_51 (k := ?_)
        refine X11_type_54 (k := ?_)
        refine X11_type_55 (k := ?_)
        refine X11_type_58 (hq := ?_)
        simp only [z_up_n (show (60 : Nat) ≠ 71 by decide), z_up_s, zu_s, e, Int.toNat_natCast]
        exact g1
      · refine X11_type_29 (k := ?_)
        refine X11_type_30 (k := ?_)
        refine s11_full ?_
        refine X11_type_33 (hq := ?_)
        exact g2 ⟨u6, u6b⟩ (by omega)
    · refine X11_type_9 (kt := fun z => absurd z (by decide)) (kf := fun _ => ?_)
      refine X11_type_12 (k := ?_)
      refine X11_type_13 (k := ?_)
      refine X11_type_15 (k := ?_)
      refine s11_bad ?_
      refine X11_type_18 (hq := ?_)
      exact g0 u6
  refine eX10_type ?_
  refine X10_type_0 (k := ?_)
  refine X10_type_1 (k := ?_)
  refine X10_type_3 (k := ?_)
  refine s10_isUpTo (fun u3 u3b => ?_) (fun u3 => ?_)
  · refine X10_type_6 (kt := fun _ => ?_) (kf := fun z => absurd z (by decide))
    refine X10_type_14 (k := ?_)
    refine X10_type_15 (k := ?_)
    refine X10_type_18 (k := ?_)
    refine X10_type_19 (k := ?_)
    refine s8_add ⟨u3, u3b⟩ (by omega) (fun z => ?_) (fun z => ?_)
    · refine X10_type_22 (kt := fun k22 => ?_) (kf := fun k22 => ?_)
      · omega
      · refine X10_type_25 (k := ?_)
        refine X10_type_26 (k := ?_)
        refine s10_refuseFull ?_
        refine X10_type_29 (hq := ?_)
        refine ref _ _ (by rw [z_up_n (by decide)]; exact t2) (fun z => by omega) (fun z1 z2 => ?_) (fun z => absurd ⟨u3, u3b⟩ z)
        exact RR_full (Q := Q) h (fun I' => hq _ I')
    · refine X10_type_22 (kt := fun k22 => ?_) (kf := fun k22 => ?_)
      · refine X10_type_30 (k := ?_)
        refine X10_type_31 (k := ?_)
        refine X10_type_34 (k := ?_)
        refine X10_type_37 (hq := ?_)
        rw [t3]
        refine ref _ _ (by rw [z_up_n (by decide), z_up_n (by decide)]; exact t2) (fun z1 z2 => ?_) (fun z => by omega) (fun z => absurd ⟨u3, u3b⟩ z)
        rw [show z_up (z_up I 55 (n : Int).toNat x) 54 0 ((n : Int) + 1) 54 0 = (n : Int) + 1 from by simp [z_up]]
        have e55 : ∀ k, k ≠ 54 → k ≠ 55 → k ≠ 60 → k ≠ 71 → z_up (z_up (z_up (z_up I 55 (n : Int).toNat x) 54 0 ((n : Int) + 1)) 71 n x) 60 16 ((n : Int) + 1) k = I k := fun k a b c d => by rw [z_up_n c, z_up_n d, z_up_n a, z_up_n b]
        refine hq _ _ ⟨?_, fun i hi => ?_, ⟨n + 1, by omega, by simp [z_up], by simp [z_up], fun k hk => ?_⟩, ?_⟩
        · rw [e55 61 (by decide) (by decide) (by decide) (by decide)]
          exact rp_cg h1 (fun k k1 k2 => e55 k (by omega) (by omega) (by omega) (by omega))
        · rw [e55 53 (by decide) (by decide) (by decide) (by decide), e55 62 (by decide) (by decide) (by decide) (by decide), e55 63 (by decide) (by decide) (by decide) (by decide)]
          obtain ⟨g1, g2, g3⟩ := h2 i hi
          exact ⟨g1, g2, fun z => rp_cg (g3 z) (fun k k1 k2 => e55 k (by omega) (by omega) (by omega) (by omega))⟩
        · simp only [z_up_n (show (55 : Nat) ≠ 60 by decide), z_up_n (show (55 : Nat) ≠ 71 by decide), z_up_n (show (55 : Nat) ≠ 54 by decide), z_up_n (show (71 : Nat) ≠ 60 by decide), z_up_s, z_up_n (show (71 : Nat) ≠ 54 by decide), z_up_n (show (71 : Nat) ≠ 55 by decide), Int.toNat_natCast]
          by_cases e : k = n
          · subst e; rw [zu_s, zu_s]; exact ⟨rfl, u3, u3b⟩
          · rw [zu_n e, zu_n e]; exact t4 k (by omega)
        · obtain ⟨f1, f2, f3, f4, f5⟩ := f
          refine ⟨?_, ?_, ?_, ?_, ?_⟩
          all_goals rw [e55 0 (by decide) (by decide) (by decide) (by decide)]
          · simp [z_up, f1]
          · simp [z_up, f2]
          all_goals rw [e55 64 (by decide) (by decide) (by decide) (by decide)]
          · exact f3
          · exact f4
          · exact f5
      · omega
  · refine X10_type_6 (kt := fun z => absurd z (by decide)) (kf := fun _ => ?_)
    refine X10_type_9 (k := ?_)
    refine X10_type_10 (k := ?_)
    refine s10_refuseBad ?_
    refine X10_type_13 (hq := ?_)
    refine ref _ _ (by rw [z_up_n (by decide)]; exact t2) (fun z => absurd z u3) (fun z => absurd z u3) (fun z => ?_)
    exact RR_bad (Q := Q) h (fun I' => hq _ I')
end C1

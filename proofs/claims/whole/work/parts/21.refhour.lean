/-! THE REFERENCE: an hour on its hand -/
section RH
variable {I : z_M} {A : Nat → Int} {P L : Nat} {hr : Int} {K W Y tn : Nat → Int} {p : Nat}
theorem s11_placeFor {Q : Int → z_M → Prop} {y : Int} (hy : y = p) (hp : p < P) (hA : wfA A P L) (hI : stM I A P L hr K W Y tn) (h : Q (pFor A P L hr W tn p) I) : CX11_placeFor [aR 60, aI y] I Q := by
  obtain ⟨a0, a1, a2, a3, a4, a5⟩ := id hA
  obtain ⟨i0, i1, i2, i3⟩ := id hI
  refine eX11_placeFor ?_
  refine X11_placeFor_0 (k := ?_)
  refine X11_placeFor_1 (k := ?_)
  refine z_for L (fun x => z_any (fun x => decide (tn x = (A (30 + 4 * p + 1)).tmod 12) && (pWish A hr x && !pTaken P W x)) x = false → JX11_placeFor Q 2 [aR 60, aI y, aI x] [] I) ?_ (fun x hx ih => ?_) 0 (Nat.zero_le _) rfl
  · intro hz
    refine X11_placeFor_2 (k := ?_)
    refine X11_placeFor_3 (k := ?_)
    refine X11_placeFor_4 (k := ?_)
    refine s11_places ?_
    rw [i0, a1]
    refine X11_placeFor_7 (kt := fun k7 => ?_) (kf := fun k7 => ?_)
    · refine X11_placeFor_52 (k := ?_)
      refine X11_placeFor_53 (hq := ?_)
      have e : pFor A P L hr W tn p = -1 := z_fst_none hz
      rw [e] at h
      exact h
    · omega
  · intro hz
    have ht := i3 x hx
    have nx : (decide (tn x = (A (30 + 4 * p + 1)).tmod 12) && (pWish A hr x && !pTaken P W x)) = false → JX11_placeFor Q 46 [aR 60, aI y, aI x] [] I := by
      intro hn
      refine X11_placeFor_46 (k := ?_)
      refine X11_placeFor_49 (k := ?_)
      refine ih ?_
      rw [z_any, hz, hn]
      rfl
    refine X11_placeFor_2 (k := ?_)
    refine X11_placeFor_3 (k := ?_)
    refine X11_placeFor_4 (k := ?_)
    refine s11_places ?_
    rw [i0, a1]
    refine X11_placeFor_7 (kt := fun k7 => ?_) (kf := fun k7 => ?_)
    · omega
    · refine X11_placeFor_10 (k := ?_)
      refine X11_placeFor_11 (k := ?_)
      refine X11_placeFor_14 (k := ?_)
      refine X11_placeFor_15 (k := ?_)
      simp only [Int.toNat_natCast, ht]
      refine X11_placeFor_16 (k := ?_)
      refine X11_placeFor_17 (k := ?_)
      refine X11_placeFor_18 (k := ?_)
      refine X11_placeFor_19 (k := ?_)
      refine s11_pipeHas (n := p) (k := 1) hy rfl (by omega) ?_
      rw [i0]
      refine X11_placeFor_22 (k := ?_)
      refine X11_placeFor_24 (k := ?_)
      refine X11_placeFor_25 (kt := fun k25 => ?_) (kf := fun k25 => ?_)
      · exact nx (by rw [decide_eq_false k25]; rfl)
      · refine X11_placeFor_28 (k := ?_)
        refine X11_placeFor_29 (k := ?_)
        refine X11_placeFor_30 (k := ?_)
        refine s11_isWished (x := x) rfl hx hA hI (fun z => ?_) (fun z => ?_)
        · refine X11_placeFor_33 (kt := fun k33 => ?_) (kf := fun k33 => ?_)
          · omega
          · refine X11_placeFor_36 (k := ?_)
            refine X11_placeFor_37 (k := ?_)
            refine X11_placeFor_38 (k := ?_)
            refine s11_isTaken (x := x) rfl hA hI (fun z2 => ?_) (fun z2 => ?_)
            · refine X11_placeFor_41 (kt := fun k41 => ?_) (kf := fun k41 => ?_)
              · exact nx (by rw [z2]; simp)
              · omega
            · refine X11_placeFor_41 (kt := fun k41 => ?_) (kf := fun k41 => ?_)
              · omega
              · refine X11_placeFor_44 (k := ?_)
                refine X11_placeFor_45 (hq := ?_)
                have e : pFor A P L hr W tn p = x := z_fst_hit hz (by rw [z, z2, decide_eq_true k25]; rfl) hx
                rw [e] at h
                exact h
        · refine X11_placeFor_33 (kt := fun k33 => ?_) (kf := fun k33 => ?_)
          · exact nx (by rw [z]; simp)
          · omega
theorem s11_goes {Q : Int → z_M → Prop} {y : Int} (hy : y = p) (hp : p < P) (hA : wfA A P L) (hS : wfS P L K W Y) (hI : stM I A P L hr K W Y tn) (h1 : pGo P hr K W p = true → Q 1 I) (h0 : pGo P hr K W p = false → Q 0 I) : CX11_goes [aR 60, aI y] I Q := by
  obtain ⟨a0, a1, a2, a3, a4, a5⟩ := id hA
  obtain ⟨i0, i1, i2, i3⟩ := id hI
  have hk := (i2 p hp).1
  have hk2 := (hS p hp).1
  refine eX11_goes ?_
  refine X11_goes_0 (k := ?_)
  refine X11_goes_1 (k := ?_)
  refine X11_goes_4 (k := ?_)
  refine X11_goes_5 (k := ?_)
  rw [show y.toNat = p by omega, hk]
  refine X11_goes_6 (k2 := fun k6 => ?_) (k3 := fun k6 => ?_) (k4 := fun k6 => ?_) (k5 := fun k6 => ?_) (kd := fun k6 => ?_)
  · have k6 : K p = 2 := k6
    refine X11_goes_36 (k := ?_)
    refine X11_goes_37 (k := ?_)
    refine X11_goes_38 (k := ?_)
    refine s11_isOtherAway hy hA hI (fun z => ?_) (fun z => ?_)
    · refine X11_goes_41 (hq := ?_)
      exact h1 (by simp [pGo, k6, z])
    · refine X11_goes_41 (hq := ?_)
      exact h0 (by simp [pGo, k6, z])
  · have k6 : K p = 3 := k6
    refine X11_goes_42 (k := ?_)
    refine X11_goes_43 (k := ?_)
    refine s11_isNight i1 (fun z => ?_) (fun z => ?_)
    · refine X11_goes_46 (hq := ?_)
      exact h1 (by simp [pGo, k6, z])
    · refine X11_goes_46 (hq := ?_)
      exact h0 (by simp [pGo, k6, z])
  · have k6 : K p = 4 := k6
    refine X11_goes_68 (k := ?_)
    refine X11_goes_69 (hq := ?_)
    exact h1 (by simp [pGo, k6])
  · have k6 : K p = 5 := k6
    refine X11_goes_47 (k := ?_)
    refine X11_goes_48 (k := ?_)
    refine X11_goes_49 (k := ?_)
    refine s11_isOtherAway hy hA hI (fun z => ?_) (fun z => ?_)
    · refine X11_goes_52 (kt := fun k52 => ?_) (kf := fun k52 => ?_)
      · omega
      · refine X11_goes_55 (k := ?_)
        refine X11_goes_56 (k := ?_)
        refine s11_isNight i1 (fun z2 => ?_) (fun z2 => ?_)
        · refine X11_goes_59 (kt := fun k59 => ?_) (kf := fun k59 => ?_)
          · omega
          · refine X11_goes_62 (k := ?_)
            refine X11_goes_63 (k := ?_)
            refine X11_goes_67 (hq := ?_)
            exact h1 (by simp [pGo, k6, z, z2])
        · refine X11_goes_59 (kt := fun k59 => ?_) (kf := fun k59 => ?_)
          · refine X11_goes_66 (k := ?_)
            refine X11_goes_67 (hq := ?_)
            exact h0 (by simp [pGo, k6, z, z2])
          · omega
    · refine X11_goes_52 (kt := fun k52 => ?_) (kf := fun k52 => ?_)
      · refine X11_goes_66 (k := ?_)
        refine X11_goes_67 (hq := ?_)
        exact h0 (by simp [pGo, k6, z])
      · omega
  · refine X11_goes_68 (k := ?_)
    refine X11_goes_69 (hq := ?_)
    have : K p = 0 ∨ K p = 1 := by omega
    refine h1 ?_
    rcases this with e | e <;> simp [pGo, e]
theorem s11_comesBack {Q : Int → z_M → Prop} {y : Int} (hy : y = p) (hp : p < P) (hW : W p ≠ -1) (hA : wfA A P L) (hS : wfS P L K W Y) (hI : stM I A P L hr K W Y tn) (h1 : pBack A hr K W Y p = true → Q 1 I) (h0 : pBack A hr K W Y p = false → Q 0 I) : CX11_comesBack [aR 60, aI y] I Q := by
  obtain ⟨a0, a1, a2, a3, a4, a5⟩ := id hA
  obtain ⟨i0, i1, i2, i3⟩ := id hI
  obtain ⟨hk, hw, hyy⟩ := i2 p hp
  obtain ⟨hk2, hw2, -⟩ := hS p hp
  have ey : y.toNat = p := by omega
  have main : ∀ u : Int, (u = if pWish A hr (W p).toNat then 0 else 1) → JX11_comesBack Q 18 [aR 60, aI y, aU] [aI u] I := by
    intro u hu
    have hu2 : u = 0 ∨ u = 1 := by rw [hu]; split <;> omega
    refine X11_comesBack_18 (k := ?_)
    refine X11_comesBack_19 (k := ?_)
    refine X11_comesBack_20 (k := ?_)
    refine X11_comesBack_23 (k := ?_)
    refine X11_comesBack_24 (k := ?_)
    rw [ey, hk]
    have hu3 : u = 0 → pWish A hr (W p).toNat = true := by
      intro z
      cases e : pWish A hr (W p).toNat with
      | true => rfl
      | false => rw [e] at hu; rw [z] at hu; exact absurd hu (by decide)
    have hu4 : u ≠ 0 → pWish A hr (W p).toNat = false := by
      intro z
      cases e : pWish A hr (W p).toNat with
      | false => rfl
      | true => rw [e] at hu; exact absurd hu z
    have c13 : K p = 1 ∨ K p = 3 → JX11_comesBack Q 60 [aR 60, aI y, aI u] [] I := by
      intro hk3
      refine X11_comesBack_60 (k := ?_)
      refine X11_comesBack_61 (kt := fun k61 => ?_) (kf := fun k61 => ?_)
      · refine X11_comesBack_78 (k := ?_)
        refine X11_comesBack_79 (hq := ?_)
        exact h0 (by unfold pBack; rw [if_pos hk3, hu3 k61]; rfl)
      · refine X11_comesBack_64 (k := ?_)
        refine X11_comesBack_65 (k := ?_)
        refine X11_comesBack_68 (k := ?_)
        refine X11_comesBack_69 (k := ?_)
        rw [ey, hyy]
        refine X11_comesBack_70 (k := ?_)
        refine X11_comesBack_71 (kt := fun k71 => ?_) (kf := fun k71 => ?_)
        · refine X11_comesBack_78 (k := ?_)
          refine X11_comesBack_79 (hq := ?_)
          exact h0 (by unfold pBack; rw [if_pos hk3, decide_eq_false (by omega), Bool.and_false])
        · refine X11_comesBack_74 (k := ?_)
          refine X11_comesBack_75 (k := ?_)
          refine X11_comesBack_79 (hq := ?_)
          exact h1 (by unfold pBack; rw [if_pos hk3, hu4 k61, decide_eq_true (by omega)]; rfl)
    have cpl : K p = 0 ∨ K p = 2 → JX11_comesBack Q 102 [aR 60, aI y, aI u] [] I := by
      intro hk3
      have e : pBack A hr K W Y p = !pWish A hr (W p).toNat := by
        unfold pBack
        rw [if_neg (by omega), if_neg (by omega), if_neg (by omega)]
      refine X11_comesBack_102 (k := ?_)
      refine X11_comesBack_103 (hq := ?_)
      rcases hu2 with z | z
      · rw [z]; exact h0 (by rw [e, hu3 z]; rfl)
      · rw [z]; exact h1 (by rw [e, hu4 (by omega)]; rfl)
    refine X11_comesBack_25 (k1 := fun k25 => ?_) (k2 := fun k25 => ?_) (k3 := fun k25 => ?_) (k4 := fun k25 => ?_) (k5 := fun k25 => ?_) (kd := fun k25 => ?_)
    · exact c13 (Or.inl k25)
    · exact cpl (Or.inr k25)
    · exact c13 (Or.inr k25)
    · have k25 : K p = 4 := k25
      refine X11_comesBack_80 (k := ?_)
      refine X11_comesBack_81 (kt := fun k81 => ?_) (kf := fun k81 => ?_)
      · refine X11_comesBack_94 (k := ?_)
        refine X11_comesBack_95 (k := ?_)
        refine X11_comesBack_99 (hq := ?_)
        exact h1 (by unfold pBack; rw [if_neg (by omega), if_pos k25, hu4 k81]; rfl)
      · refine X11_comesBack_84 (k := ?_)
        refine X11_comesBack_85 (k := ?_)
        refine X11_comesBack_88 (k := ?_)
        refine X11_comesBack_89 (k := ?_)
        rw [ey, hyy]
        refine X11_comesBack_90 (k := ?_)
        refine X11_comesBack_91 (kt := fun k91 => ?_) (kf := fun k91 => ?_)
        · refine X11_comesBack_98 (k := ?_)
          refine X11_comesBack_99 (hq := ?_)
          exact h0 (by unfold pBack; rw [if_neg (by omega), if_pos k25, hu3 k81, decide_eq_false (by omega)]; rfl)
        · refine X11_comesBack_94 (k := ?_)
          refine X11_comesBack_95 (k := ?_)
          refine X11_comesBack_99 (hq := ?_)
          exact h1 (by unfold pBack; rw [if_neg (by omega), if_pos k25, decide_eq_true (by omega), Bool.or_true])
    · have k25 : K p = 5 := k25
      refine X11_comesBack_100 (k := ?_)
      refine X11_comesBack_101 (hq := ?_)
      exact h0 (by unfold pBack; rw [if_neg (by omega), if_neg (by omega), if_pos k25])
    · exact cpl (by omega)
  refine eX11_comesBack ?_
  refine X11_comesBack_0 (k := ?_)
  refine X11_comesBack_1 (k := ?_)
  refine X11_comesBack_2 (k := ?_)
  refine X11_comesBack_5 (k := ?_)
  refine X11_comesBack_6 (k := ?_)
  rw [ey, hw]
  refine X11_comesBack_7 (k := ?_)
  refine s11_isWished (x := (W p).toNat) (by omega) (by omega) hA hI (fun z => ?_) (fun z => ?_)
  · refine X11_comesBack_10 (kt := fun k10 => ?_) (kf := fun k10 => ?_)
    · refine X11_comesBack_17 (k := ?_)
      exact main 0 (by rw [z]; rfl)
    · omega
  · refine X11_comesBack_10 (kt := fun k10 => ?_) (kf := fun k10 => ?_)
    · omega
    · refine X11_comesBack_13 (k := ?_)
      refine X11_comesBack_14 (k := ?_)
      exact main 1 (by rw [z]; rfl)
theorem stM_h (h : stM I A P L hr K W Y tn) (v : Int) : stM (z_up I 60 6 v) A P L v K W Y tn := by
  obtain ⟨i0, i1, i2, i3⟩ := h
  exact ⟨by rw [z_up_n (by decide)]; exact i0, by rw [z_up_s, zu_s], fun p hp => by rw [z_up_n (by decide), z_up_n (by decide), z_up_n (by decide)]; exact i2 p hp, fun x hx => by rw [z_up_n (by decide)]; exact i3 x hx⟩
theorem stM_w (h : stM I A P L hr K W Y tn) (q : Nat) (v : Int) : stM (z_up I 66 q v) A P L hr K (zu W q v) Y tn := by
  obtain ⟨i0, i1, i2, i3⟩ := h
  refine ⟨by rw [z_up_n (by decide)]; exact i0, by rw [z_up_n (by decide)]; exact i1, fun p hp => ?_, fun x hx => by rw [z_up_n (by decide)]; exact i3 x hx⟩
  obtain ⟨g1, g2, g3⟩ := i2 p hp
  rw [z_up_n (by decide), z_up_s, z_up_n (by decide)]
  exact ⟨g1, by unfold zu; rw [g2], g3⟩
theorem stM_y (h : stM I A P L hr K W Y tn) (q : Nat) (v : Int) : stM (z_up I 67 q v) A P L hr K W (zu Y q v) tn := by
  obtain ⟨i0, i1, i2, i3⟩ := h
  refine ⟨by rw [z_up_n (by decide)]; exact i0, by rw [z_up_n (by decide)]; exact i1, fun p hp => ?_, fun x hx => by rw [z_up_n (by decide)]; exact i3 x hx⟩
  obtain ⟨g1, g2, g3⟩ := i2 p hp
  rw [z_up_n (by decide), z_up_n (by decide), z_up_s]
  exact ⟨g1, g2, by unfold zu; rw [g3]⟩
theorem s11_goHour {Q : z_M → Prop} (hA : wfA A P L) (hS : wfS P L K W Y) (hI : stM I A P L hr K W Y tn)
    (h : ∀ I', stM I' A P L (pHour A P L K tn (hr, W, Y)).1 K (pHour A P L K tn (hr, W, Y)).2.1 (pHour A P L K tn (hr, W, Y)).2.2 tn → (∀ k, k ≠ 60 → k ≠ 66 → k ≠ 67 → I' k = I k) → (∀ j, j ≠ 6 → I' 60 j = I 60 j) → Q I') : CX11_goHour [aR 60] I Q := by
  obtain ⟨a0, a1, a2, a3, a4, a5⟩ := id hA
  refine eX11_goHour ?_
  refine X11_goHour_0 (k := ?_)
  refine X11_goHour_1 (k := ?_)
  refine X11_goHour_2 (k := ?_)
  refine X11_goHour_5 (k := ?_)
  refine X11_goHour_6w (k := ?_)
  refine X11_goHour_7 (k := ?_)
  refine X11_goHour_10 (k := ?_)
  refine X11_goHour_11 (k := ?_)
  rw [hI.2.1]
  refine z_for P (fun i => ∀ I', stM I' A P L (i32 (hr + 1)) K (pTurns A P L (i32 (hr + 1)) K tn (W, Y) i).1 (pTurns A P L (i32 (hr + 1)) K tn (W, Y) i).2 tn → (∀ k, k ≠ 60 → k ≠ 66 → k ≠ 67 → I' k = I k) → (∀ j, j ≠ 6 → I' 60 j = I 60 j) → JX11_goHour Q 12 [aR 60, aI i] [] I') ?_ (fun i hi ih => ?_) 0 (Nat.zero_le _) _ (stM_h hI _) (fun k k1 _ _ => by rw [z_up_n k1]) (fun j hj => by rw [z_up_s, zu_n hj])
  · intro I' hI' hf hf0
    obtain ⟨i0, i1, i2, i3⟩ := id hI'
    refine X11_goHour_12 (k := ?_)
    refine X11_goHour_13 (k := ?_)
    refine X11_goHour_14 (k := ?_)
    refine s11_pipes ?_
    rw [i0, a0]
    refine X11_goHour_17 (kt := fun k17 => ?_) (kf := fun k17 => ?_)
    · refine X11_goHour_90 (hq := ?_)
      exact h I' hI' hf hf0
    · omega
  · intro I' hI' hf hf0
    obtain ⟨i0, i1, i2, i3⟩ := id hI'
    have hS' := wfS_turns (A := A) (hr := i32 (hr + 1)) (tn := tn) (s := (W, Y)) hS i
    have hsn : pTurns A P L (i32 (hr + 1)) K tn (W, Y) (i + 1) = pStep A P L (i32 (hr + 1)) K tn i (pTurns A P L (i32 (hr + 1)) K tn (W, Y) i) := rfl
    generalize pTurns A P L (i32 (hr + 1)) K tn (W, Y) i = s at hI' hS' hsn i2
    rw [hsn] at ih
    obtain ⟨w, y⟩ := s
    dsimp only at hI' hS' i2
    have fin : ∀ I'', stM I'' A P L (i32 (hr + 1)) K (pStep A P L (i32 (hr + 1)) K tn i (w, y)).1 (pStep A P L (i32 (hr + 1)) K tn i (w, y)).2 tn → (∀ k, k ≠ 60 → k ≠ 66 → k ≠ 67 → I'' k = I k) → (∀ j, j ≠ 6 → I'' 60 j = I 60 j) → JX11_goHour Q 84 [aR 60, aI i] [] I'' := by
      intro I'' h1 h2 h3
      refine X11_goHour_84 (k := ?_)
      refine X11_goHour_87 (k := ?_)
      exact ih I'' h1 h2 h3
    have hw := (i2 i hi).2.1
    have hy := (i2 i hi).2.2
    refine X11_goHour_12 (k := ?_)
    refine X11_goHour_13 (k := ?_)
    refine X11_goHour_14 (k := ?_)
    refine s11_pipes ?_
    rw [i0, a0]
    refine X11_goHour_17 (kt := fun k17 => ?_) (kf := fun k17 => ?_)
    · omega
    · refine X11_goHour_20 (k := ?_)
      refine X11_goHour_21 (k := ?_)
      refine X11_goHour_24 (k := ?_)
      refine X11_goHour_25 (k := ?_)
      simp only [Int.toNat_natCast, hw]
      refine X11_goHour_26 (k := ?_)
      refine X11_goHour_27 (kt := fun k27 => ?_) (kf := fun k27 => ?_)
      · refine X11_goHour_65 (k := ?_)
        refine X11_goHour_66 (k := ?_)
        refine X11_goHour_67 (k := ?_)
        refine s11_goes (p := i) rfl hi hA hS' hI' (fun z => ?_) (fun z => ?_)
        · refine X11_goHour_70 (kt := fun k70 => ?_) (kf := fun k70 => ?_)
          · omega
          · refine X11_goHour_73 (k := ?_)
            refine X11_goHour_74 (k := ?_)
            refine X11_goHour_77 (k := ?_)
            refine X11_goHour_78 (k := ?_)
            refine X11_goHour_79 (k := ?_)
            refine X11_goHour_80 (k := ?_)
            refine s11_placeFor (p := i) rfl hi hA hI' ?_
            refine X11_goHour_83 (k := ?_)
            simp only [Int.toNat_natCast]
            have e : pStep A P L (i32 (hr + 1)) K tn i (w, y) = (zu w i (pFor A P L (i32 (hr + 1)) w tn i), y) := by
              unfold pStep
              rw [if_pos k27, if_pos z]
            refine fin _ ?_ (fun k k1 k2 k3 => by rw [z_up_n k2]; exact hf k k1 k2 k3) (fun j hj => by rw [z_up_n (by decide)]; exact hf0 j hj)
            rw [e]
            exact stM_w hI' i _
        · refine X11_goHour_70 (kt := fun k70 => ?_) (kf := fun k70 => ?_)
          · have e : pStep A P L (i32 (hr + 1)) K tn i (w, y) = (w, y) := by
              unfold pStep
              rw [if_pos k27, if_neg (by rw [z]; decide)]
            refine fin _ ?_ hf hf0
            rw [e]
            exact hI'
          · omega
      · refine X11_goHour_30 (k := ?_)
        refine X11_goHour_31 (k := ?_)
        refine X11_goHour_34 (k := ?_)
        refine X11_goHour_35 (k := ?_)
        refine X11_goHour_36 (k := ?_)
        simp only [Int.toNat_natCast, hy]
        refine X11_goHour_37 (k := ?_)
        refine X11_goHour_38w (k := ?_)
        refine X11_goHour_39 (k := ?_)
        refine X11_goHour_40 (k := ?_)
        refine X11_goHour_41 (k := ?_)
        have hI2 := stM_y hI' i (i32 (y i + 1))
        have hS2 : wfS P L K w (zu y i (i32 (y i + 1))) := by
          intro q hq
          obtain ⟨g1, g2, g3⟩ := hS' q hq
          refine ⟨g1, g2, fun z => ?_⟩
          by_cases e : q = i
          · rw [e] at z; exact absurd z k27
          · rw [zu_n e]; exact g3 z
        refine X11_goHour_42 (k := ?_)
        refine s11_comesBack (p := i) rfl hi k27 hA hS2 hI2 (fun z => ?_) (fun z => ?_)
        · refine X11_goHour_45 (kt := fun k45 => ?_) (kf := fun k45 => ?_)
          · omega
          · refine X11_goHour_48 (k := ?_)
            refine X11_goHour_49 (k := ?_)
            refine X11_goHour_52 (k := ?_)
            refine X11_goHour_53 (k := ?_)
            refine X11_goHour_54 (k := ?_)
            refine X11_goHour_55 (k := ?_)
            refine X11_goHour_56 (k := ?_)
            refine X11_goHour_59 (k := ?_)
            refine X11_goHour_60 (k := ?_)
            refine X11_goHour_61 (k := ?_)
            refine X11_goHour_62 (k := ?_)
            simp only [Int.toNat_natCast]
            refine fin _ ?_ (fun k k1 k2 k3 => by rw [z_up_n k3, z_up_n k2, z_up_n k3]; exact hf k k1 k2 k3) (fun j hj => by rw [z_up_n (by omega), z_up_n (by omega), z_up_n (by omega)]; exact hf0 j hj)
            have e : pStep A P L (i32 (hr + 1)) K tn i (w, y) = (zu w i (-1), zu (zu y i (i32 (y i + 1))) i 0) := by
              unfold pStep
              rw [if_neg k27, if_pos z]
            rw [e]
            exact stM_y (stM_w hI2 i (-1)) i 0
        · refine X11_goHour_45 (kt := fun k45 => ?_) (kf := fun k45 => ?_)
          · have e : pStep A P L (i32 (hr + 1)) K tn i (w, y) = (w, zu y i (i32 (y i + 1))) := by
              unfold pStep
              rw [if_neg k27, if_neg (by rw [z]; decide)]
            refine fin _ ?_ (fun k k1 k2 k3 => by rw [z_up_n k3]; exact hf k k1 k2 k3) (fun j hj => by rw [z_up_n (by omega)]; exact hf0 j hj)
            rw [e]
            exact hI2
          · omega
end RH

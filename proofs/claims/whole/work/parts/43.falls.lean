/-! missing, falls -/
section PM
variable {I I' : z_M} {b c : Nat} {A A' : Nat → Int} {P L : Nat}
def pM (A : Nat → Int) (P : Nat) (C : Nat → Bool) (x : Nat) (s : Int) : Nat → Nat
  | 0 => 0
  | i + 1 => if pPl A P C (A (63 + 9 * x + i) + s) then pM A P C x s i else pM A P C x s i ||| 2 ^ ((A (63 + 9 * x + i)).tmod 12).toNat
theorem tm12 {v : Int} (h : 0 ≤ v) : 0 ≤ v.tmod 12 ∧ v.tmod 12 < 12 := by
  rw [Int.tmod_eq_emod_of_nonneg h]
  omega
theorem pM_lt {C : Nat → Bool} {x : Nat} {s : Int} {n : Nat} (hv : ∀ i : Nat, i < n → 0 ≤ A (63 + 9 * x + i)) : ∀ i, i ≤ n → pM A P C x s i < 2 ^ 12
  | 0, _ => by unfold pM; decide
  | i + 1, h => by
    have ih := pM_lt (C := C) (s := s) hv i (by omega)
    have ht := tm12 (hv i (by omega))
    unfold pM
    split
    · exact ih
    · exact Nat.or_lt_two_pow ih (Nat.pow_lt_pow_right (by decide) (by omega))
theorem zor_M {a : Nat} {v : Int} : zor (a : Int) (zshl 1 v) = ((a ||| 2 ^ v.toNat : Nat) : Int) := by
  unfold zor zshl
  rw [Int.toNat_natCast, Int.toNat_natCast, show (1 : Int).toNat = 1 from rfl, Nat.one_mul]
theorem zor_0 {a : Nat} : zor (a : Int) 0 = (a : Int) := by
  unfold zor
  rw [Int.toNat_natCast, show (0 : Int).toNat = 0 from rfl, Nat.or_zero]
theorem t_missing {Q : Int → Int → z_M → Prop} {x0 x1 : Int} (h : RR I) (hq : ∀ r I', RR I' → Q r r I') : CX10_missing [aR 0, aI x0, aI x1] I (fun r I1 => CX11_missing [aR 60, aI x0, aI x1] I1 (fun r' I2 => Q r r' I2)) := by
  obtain ⟨⟨P, L, hx⟩, -⟩ := id h
  have hx : rpx I 8 (I 61) P L := hx
  have hA := rpx_A hx
  have hC := rpx_C hx
  have hH := hx.2.1
  have o8 := z_o (show z_cl 8 = 4 from rfl)
  have ref : ∀ (I1 : z_M) (r : Int), I1 61 = I 61 → (∀ x : Nat, x0 = x → x < 3 → (-6 ≤ x1 ∧ x1 ≤ 6) → ∀ I2, smM I1 I2 → Q r (pM (I 61) P (cC (I 61)) x x1 (I 61 (62 + 9 * x)).toNat : Nat) I2) → (¬ ((0 ≤ x0 ∧ x0 ≤ 2) ∧ (-6 ≤ x1 ∧ x1 ≤ 6)) → Q r (-2) (z_up I1 64 0 (i32 (I1 64 0 + 1)))) → CX11_missing [aR 60, aI x0, aI x1] I1 (fun r' I2 => Q r r' I2) := by
    intro I1 r e1 g1 g0
    refine eX11_missing ?_
    refine X11_missing_0 (k := ?_)
    refine X11_missing_1 (k := ?_)
    refine s11_isHymn (fun u1 u1b => ?_) (fun u1 => ?_)
    · refine X11_missing_4 (kt := fun z => absurd z (by decide)) (kf := fun _ => ?_)
      refine X11_missing_7 (k := ?_)
      refine X11_missing_8 (k := ?_)
      refine s11_isShift (fun u8 u8b => ?_) (fun u8 => ?_)
      · refine X11_missing_11 (kt := fun _ => ?_) (kf := fun z => absurd z (by decide))
        obtain ⟨x, rfl⟩ : ∃ x : Nat, x0 = x := ⟨x0.toNat, by omega⟩
        have g1 := g1 x rfl (by omega) (by omega)
        obtain ⟨h1, h2, h3⟩ := hH x (by omega)
        obtain ⟨n, hn⟩ : ∃ n : Nat, I 61 (62 + 9 * x) = n := ⟨(I 61 (62 + 9 * x)).toNat, by omega⟩
        rw [hn, Int.toNat_natCast] at g1
        refine X11_missing_21 (k := ?_)
        refine X11_missing_22 (k := ?_)
        refine s11_churchNow hA e1 (fun I2 hs => ?_)
        have e2 : I2 61 = I 61 := (hs.1 61 (by omega)).trans e1
        refine X11_missing_25 (k := ?_)
        refine X11_missing_26 (k := ?_)
        refine X11_missing_27 (k := ?_)
        refine X11_missing_29 (k := ?_)
        refine X11_missing_30 (k := ?_)
        have := z_for n (fun i => ∀ v : z_V, JX11_missing (fun r' I2 => Q r r' I2) 32 [aR 60, aI x, aI x1, aI (z_bs (cC (I 61)) P : Nat), aI (pM (I 61) P (cC (I 61)) x x1 i : Nat), aI i, v] [] I2) (by
          intro v
          refine X11_missing_32 (k := ?_)
          refine X11_missing_34 (k := ?_)
          refine X11_missing_35 (k := ?_)
          refine X11_missing_36 (k := ?_)
          refine s11_notes rfl (by omega) ?_
          rw [e2, hn]
          refine X11_missing_39 (kt := fun k39 => ?_) (kf := fun k39 => ?_)
          · refine X11_missing_85 (k := ?_)
            refine X11_missing_87 (hq := ?_)
            exact g1 I2 hs
          · omega) (fun i hi ih => by
          intro v
          have hv := (h3 i (by omega)).2
          have ht := tm12 hv.1
          have hm := pM_lt (P := P) (C := cC (I 61)) (s := x1) (A := I 61) (x := x) (n := n) (fun j hj => (h3 j (by omega)).2.1) i (by omega)
          refine X11_missing_32 (k := ?_)
          refine X11_missing_34 (k := ?_)
          refine X11_missing_35 (k := ?_)
          refine X11_missing_36 (k := ?_)
          refine s11_notes rfl (by omega) ?_
          rw [e2, hn]
          refine X11_missing_39 (kt := fun k39 => ?_) (kf := fun k39 => ?_)
          · omega
          · refine X11_missing_42 (k := ?_)
            refine X11_missing_43 (k := ?_)
            refine X11_missing_44 (k := ?_)
            refine X11_missing_46 (k := ?_)
            refine s11_noteOf rfl rfl (by omega) (by omega) ?_
            rw [e2]
            refine X11_missing_49 (k := ?_)
            refine X11_missing_51 (k := ?_)
            refine X11_missing_53 (k := ?_)
            refine X11_missing_54 (k := ?_)
            refine X11_missing_56 (k := ?_)
            refine X11_missing_57 (k := ?_)
            refine X11_missing_58 (k := ?_)
            refine X11_missing_59 (k := ?_)
            refine s11_isPlayed (C := cC (I 61)) rfl hA e2 (fun z => ?_) (fun z => ?_)
            · refine X11_missing_62 (kt := fun k62 => ?_) (kf := fun k62 => ?_)
              · omega
              · refine X11_missing_65 (k := ?_)
                refine X11_missing_66 (k := ?_)
                refine X11_missing_76 (k := ?_)
                rw [zor_0]
                refine X11_missing_77 (k := ?_)
                refine X11_missing_79 (k := ?_)
                refine X11_missing_82 (k := ?_)
                unfold pM at ih
                rw [if_pos z] at ih
                exact ih _
            · refine X11_missing_62 (kt := fun k62 => ?_) (kf := fun k62 => ?_)
              · refine X11_missing_69 (k := ?_)
                refine X11_missing_70 (k := ?_)
                refine X11_missing_72 (k := ?_)
                refine X11_missing_74 (k := ?_)
                refine X11_missing_75 (k := ?_)
                refine X11_missing_76 (k := ?_)
                rw [zor_M]
                refine X11_missing_77 (k := ?_)
                refine X11_missing_79 (k := ?_)
                refine X11_missing_82 (k := ?_)
                unfold pM at ih
                rw [if_neg (by rw [z]; decide)] at ih
                exact ih _
              · omega) 0 (Nat.zero_le _)
        exact this _
      · refine X11_missing_11 (kt := fun z => absurd z (by decide)) (kf := fun _ => ?_)
        refine X11_missing_14 (k := ?_)
        refine X11_missing_15 (k := ?_)
        refine X11_missing_17 (k := ?_)
        refine s11_bad ?_
        refine X11_missing_20 (hq := ?_)
        exact g0 (by omega)
    · refine X11_missing_4 (kt := fun _ => ?_) (kf := fun z => absurd z (by decide))
      refine X11_missing_14 (k := ?_)
      refine X11_missing_15 (k := ?_)
      refine X11_missing_17 (k := ?_)
      refine s11_bad ?_
      refine X11_missing_20 (hq := ?_)
      exact g0 (by omega)
  refine eX10_missing ?_
  refine X10_missing_0 (k := ?_)
  refine X10_missing_1 (k := ?_)
  refine s10_isHymn (fun u1 u1b => ?_) (fun u1 => ?_)
  · refine X10_missing_4 (kt := fun z => absurd z (by decide)) (kf := fun _ => ?_)
    refine X10_missing_7 (k := ?_)
    refine X10_missing_8 (k := ?_)
    refine s10_isShift (fun u8 u8b => ?_) (fun u8 => ?_)
    · refine X10_missing_11 (kt := fun _ => ?_) (kf := fun z => absurd z (by decide))
      obtain ⟨x, rfl⟩ : ∃ x : Nat, x0 = x := ⟨x0.toNat, by omega⟩
      obtain ⟨h1, h2, h3⟩ := hH x (by omega)
      obtain ⟨n, hn⟩ : ∃ n : Nat, I 61 (62 + 9 * x) = n := ⟨(I 61 (62 + 9 * x)).toNat, by omega⟩
      rw [hn] at h2
      refine X10_missing_19 (k := ?_)
      refine X10_missing_20 (k := ?_)
      refine X10_missing_23 (k := ?_)
      refine s4_notesInChurch rfl hA hC ?_
      rw [show (fun p => decide ((sA (I 61)).2.1 p = -1)) = cC (I 61) from rfl]
      refine X10_missing_26 (k := ?_)
      refine X10_missing_27 (k := ?_)
      refine X10_missing_28 (k := ?_)
      refine X10_missing_30 (k := ?_)
      refine X10_missing_31 (k := ?_)
      have := z_for n (fun i => ∀ v : z_V, JX10_missing (fun r I1 => CX11_missing [aR 60, aI x, aI x1] I1 (fun r' I2 => Q r r' I2)) 33 [aR 0, aI x, aI x1, aL (pN (I 61) (cC (I 61)) P : Nat), aU, aI (pM (I 61) P (cC (I 61)) x x1 i : Nat), aI i, v] [] I) (by
        intro v
        refine X10_missing_33 (k := ?_)
        refine X10_missing_35 (k := ?_)
        refine X10_missing_36 (k := ?_)
        refine X10_missing_39 (k := ?_)
        refine X10_missing_42 (k := ?_)
        refine X10_missing_43 (k := ?_)
        rw [Int.toNat_natCast, h2]
        refine X10_missing_44 (kt := fun k44 => ?_) (kf := fun k44 => ?_)
        · refine X10_missing_88 (k := ?_)
          refine X10_missing_90 (hq := ?_)
          refine ref _ _ rfl (fun x' z z1 z2 I2 hs => ?_) (fun z => by omega)
          have : x' = x := by omega
          subst this
          rw [hn, Int.toNat_natCast]
          exact hq _ _ (RR_M h hs)
        · omega) (fun i hi ih => by
        intro v
        have hv := (h3 i (by omega)).2
        have ht := tm12 hv.1
        have hm := pM_lt (P := P) (C := cC (I 61)) (s := x1) (A := I 61) (x := x) (n := n) (fun j hj => (h3 j (by omega)).2.1) i (by omega)
        refine X10_missing_33 (k := ?_)
        refine X10_missing_35 (k := ?_)
        refine X10_missing_36 (k := ?_)
        refine X10_missing_39 (k := ?_)
        refine X10_missing_42 (k := ?_)
        refine X10_missing_43 (k := ?_)
        rw [Int.toNat_natCast, h2]
        refine X10_missing_44 (kt := fun k44 => ?_) (kf := fun k44 => ?_)
        · omega
        · refine X10_missing_47 (k := ?_)
          refine X10_missing_48 (k := ?_)
          refine X10_missing_51 (k := ?_)
          refine X10_missing_52 (k := ?_)
          refine X10_missing_54 (k := ?_)
          refine s4_hymnNote rfl hH (by omega) (by omega) ?_
          refine X10_missing_57 (k := ?_)
          refine X10_missing_59 (k := ?_)
          refine X10_missing_60 (k := ?_)
          refine X10_missing_62 (k := ?_)
          refine X10_missing_63 (k := ?_)
          refine X10_missing_64 (k := ?_)
          refine s10_hasNote hA (fun z => ?_) (fun z => ?_)
          · refine X10_missing_67 (kt := fun k67 => ?_) (kf := fun k67 => ?_)
            · refine X10_missing_82 (k := ?_)
              refine X10_missing_85 (k := ?_)
              unfold pM at ih
              rw [if_pos z] at ih
              exact ih _
            · omega
          · refine X10_missing_67 (kt := fun k67 => ?_) (kf := fun k67 => ?_)
            · omega
            · refine X10_missing_70 (k := ?_)
              refine X10_missing_72 (k := ?_)
              refine X10_missing_73 (k := ?_)
              refine X10_missing_75 (k := ?_)
              refine X10_missing_77 (k := ?_)
              refine X10_missing_78 (k := ?_)
              refine X10_missing_79 (k := ?_)
              rw [zor_M]
              refine X10_missing_80 (k := ?_)
              refine X10_missing_82 (k := ?_)
              refine X10_missing_85 (k := ?_)
              unfold pM at ih
              rw [if_neg (by rw [z]; decide)] at ih
              exact ih _) 0 (Nat.zero_le _)
      exact this _
    · refine X10_missing_11 (kt := fun z => absurd z (by decide)) (kf := fun _ => ?_)
      refine X10_missing_14 (k := ?_)
      refine X10_missing_15 (k := ?_)
      refine s10_refuseBad ?_
      refine X10_missing_18 (hq := ?_)
      refine ref _ _ (by rw [z_up_n (by decide)]) (fun x z z1 => by omega) (fun z => ?_)
      exact RR_bad (Q := Q) h (fun I' => hq _ I')
  · refine X10_missing_4 (kt := fun _ => ?_) (kf := fun z => absurd z (by decide))
    refine X10_missing_14 (k := ?_)
    refine X10_missing_15 (k := ?_)
    refine s10_refuseBad ?_
    refine X10_missing_18 (hq := ?_)
    refine ref _ _ (by rw [z_up_n (by decide)]) (fun x z z1 => by omega) (fun z => ?_)
    exact RR_bad (Q := Q) h (fun I' => hq _ I')
def pWh (A : Nat → Int) (P : Nat) (C : Nat → Bool) (x : Nat) : Bool := z_any (fun i => decide ((pPlays A P C x ((i : Int) - 6) : Int) = A (62 + 9 * x))) 13
theorem s4_canBeWhole {Q : Int → z_M → Prop} (hb : z_cl b = 4) {x : Nat} {C : Nat → Bool} (hA : wfA A P L) (hH : rpH I b A) (hx : x < 3) (h1 : pWh A P C x = true → Q 1 I) (h0 : pWh A P C x = false → Q 0 I) : CX4_canBeWhole [aR b, aI x, aL (pN A C P : Nat)] I Q := by
  obtain ⟨o1, o2, o3, o4, o5, o6, o7, o8, o9, o10, n1, n2, n3, n4, n5, n6, n7, n8, n10⟩ := z_o hb
  obtain ⟨f1, f2, f3⟩ := hH x hx
  refine eX4_canBeWhole ?_
  refine X4_canBeWhole_0 (k := ?_)
  refine X4_canBeWhole_2 (k := ?_)
  refine z_for 13 (fun i => z_any (fun i => decide ((pPlays A P C x ((i : Int) - 6) : Int) = A (62 + 9 * x))) i = false → JX4_canBeWhole Q 4 [aR b, aI x, aL (pN A C P : Nat), aU, aI ((i : Int) - 6)] [] I) ?_ (fun i hi ih => ?_) 0 (by decide) rfl
  · intro z
    refine X4_canBeWhole_4 (k := ?_)
    refine X4_canBeWhole_6 (k := ?_)
    refine X4_canBeWhole_8 (kt := fun k8 => ?_) (kf := fun k8 => ?_)
    · refine X4_canBeWhole_36 (k := ?_)
      refine X4_canBeWhole_37 (hq := ?_)
      exact h0 z
    · omega
  · intro z
    refine X4_canBeWhole_4 (k := ?_)
    refine X4_canBeWhole_6 (k := ?_)
    refine X4_canBeWhole_8 (kt := fun k8 => ?_) (kf := fun k8 => ?_)
    · omega
    · refine X4_canBeWhole_11 (k := ?_)
      refine X4_canBeWhole_12 (k := ?_)
      refine X4_canBeWhole_13 (k := ?_)
      refine X4_canBeWhole_15 (k := ?_)
      refine X4_canBeWhole_16 (k := ?_)
      refine s4_howManyPlayed hb hA hH hx ⟨by omega, by omega⟩ ?_
      refine X4_canBeWhole_19 (k := ?_)
      refine X4_canBeWhole_20 (k := ?_)
      refine X4_canBeWhole_23 (k := ?_)
      refine X4_canBeWhole_24 (k := ?_)
      rw [Int.toNat_natCast, f2]
      refine X4_canBeWhole_25 (kt := fun k25 => ?_) (kf := fun k25 => ?_)
      · refine X4_canBeWhole_30 (k := ?_)
        refine X4_canBeWhole_33 (k := ?_)
        rw [show (i : Int) - 6 + 1 = ((i + 1 : Nat) : Int) - 6 by omega]
        refine ih ?_
        unfold z_any
        rw [z, decide_eq_false k25]
        rfl
      · refine X4_canBeWhole_28 (k := ?_)
        refine X4_canBeWhole_29 (hq := ?_)
        exact h1 (z_any_t hi (decide_eq_true k25))
theorem s11_isWhole {Q : Int → z_M → Prop} {x : Nat} {c : Int} {C : Nat → Bool} (hc : c = (z_bs C P : Nat)) (hA : wfA A P L) (hI : I 61 = A) (hH : wfH A) (hx : x < 3) (h1 : pWh A P C x = true → Q 1 I) (h0 : pWh A P C x = false → Q 0 I) : CX11_isWhole [aR 60, aI x, aI c] I Q := by
  obtain ⟨f1, f2⟩ := hH x hx
  refine eX11_isWhole ?_
  refine X11_isWhole_0 (k := ?_)
  refine X11_isWhole_1 (k := ?_)
  refine X11_isWhole_2 (k := ?_)
  refine X11_isWhole_4 (k := ?_)
  refine z_for 13 (fun i => z_any (fun i => decide ((pPlays A P C x ((i : Int) - 6) : Int) = A (62 + 9 * x))) i = false → JX11_isWhole Q 6 [aR 60, aI x, aI c, aI 0, aI ((i : Int) - 6)] [] I) ?_ (fun i hi ih => ?_) 0 (by decide) rfl
  · intro z
    refine X11_isWhole_6 (k := ?_)
    refine X11_isWhole_8 (k := ?_)
    refine X11_isWhole_10 (kt := fun k10 => ?_) (kf := fun k10 => ?_)
    · refine X11_isWhole_45 (k := ?_)
      refine X11_isWhole_46 (hq := ?_)
      exact h0 z
    · omega
  · intro z
    refine X11_isWhole_6 (k := ?_)
    refine X11_isWhole_8 (k := ?_)
    refine X11_isWhole_10 (kt := fun k10 => ?_) (kf := fun k10 => ?_)
    · omega
    · refine X11_isWhole_13 (k := ?_)
      refine X11_isWhole_14 (kt := fun k14 => ?_) (kf := fun k14 => ?_)
      · omega
      · refine X11_isWhole_17 (k := ?_)
        refine X11_isWhole_18 (k := ?_)
        refine X11_isWhole_19 (k := ?_)
        refine X11_isWhole_21 (k := ?_)
        refine X11_isWhole_22 (k := ?_)
        refine s11_playsBy hc hA hI hx ⟨by omega, by omega⟩ hH ?_
        refine X11_isWhole_25 (k := ?_)
        refine X11_isWhole_26 (k := ?_)
        refine X11_isWhole_27 (k := ?_)
        refine s11_notes rfl hx ?_
        rw [hI]
        refine X11_isWhole_30 (kt := fun k30 => ?_) (kf := fun k30 => ?_)
        · refine X11_isWhole_37 (k := ?_)
          refine X11_isWhole_38 (k := ?_)
          refine X11_isWhole_39 (k := ?_)
          refine X11_isWhole_42 (k := ?_)
          rw [show (i : Int) - 6 + 1 = ((i + 1 : Nat) : Int) - 6 by omega]
          refine ih ?_
          unfold z_any
          rw [z, decide_eq_false k30]
          rfl
        · refine X11_isWhole_33 (k := ?_)
          refine X11_isWhole_34 (k := ?_)
          refine X11_isWhole_38 (k := ?_)
          refine X11_isWhole_39 (k := ?_)
          refine X11_isWhole_42 (k := ?_)
          have e := z_any_t (c := fun i => decide ((pPlays A P C x ((i : Int) - 6) : Int) = A (62 + 9 * x))) hi (decide_eq_true k30)
          refine X11_isWhole_6 (k := ?_)
          refine X11_isWhole_8 (k := ?_)
          refine X11_isWhole_10 (kt := fun k10 => ?_) (kf := fun k10 => ?_)
          · refine X11_isWhole_45 (k := ?_)
            refine X11_isWhole_46 (hq := ?_)
            exact h1 e
          · refine X11_isWhole_13 (k := ?_)
            refine X11_isWhole_14 (kt := fun k14 => ?_) (kf := fun k14 => ?_)
            · refine X11_isWhole_45 (k := ?_)
              refine X11_isWhole_46 (hq := ?_)
              exact h1 e
            · omega
def fW (A : Nat → Int) (P L x m : Nat) : Bool := !pWh A P (fun p => decide ((hF A P L m).2.1 p = -1)) x
theorem t_falls {Q : Int → Int → z_M → Prop} {x0 : Int} (h : RR I) (hq : ∀ r I', RR I' → Q r r I') : CX10_falls [aR 0, aI x0] I (fun r I1 => CX11_falls [aR 60, aI x0] I1 (fun r' I2 => Q r r' I2)) := by
  obtain ⟨⟨P, L, hx⟩, -⟩ := id h
  have hx : rpx I 8 (I 61) P L := hx
  have hA := rpx_A hx
  have hS := rpx_S hx
  have hH := hx.2.1
  have ref : ∀ (I1 : z_M) (r : Int), I1 61 = I 61 → (∀ x : Nat, x0 = x → x < 3 → ∀ I2, smM I1 I2 → Q r (z_fst (fW (I 61) P L x) 49) I2) → (¬ (0 ≤ x0 ∧ x0 ≤ 2) → Q r (-2) (z_up I1 64 0 (i32 (I1 64 0 + 1)))) → CX11_falls [aR 60, aI x0] I1 (fun r' I2 => Q r r' I2) := by
    intro I1 r e1 g1 g0
    refine eX11_falls ?_
    refine X11_falls_0 (k := ?_)
    refine X11_falls_1 (k := ?_)
    refine s11_isHymn (fun u1 u1b => ?_) (fun u1 => ?_)
    · refine X11_falls_4 (kt := fun _ => ?_) (kf := fun z => absurd z (by decide))
      obtain ⟨x, rfl⟩ : ∃ x : Nat, x0 = x := ⟨x0.toNat, by omega⟩
      have g1 := g1 x rfl (by omega)
      refine X11_falls_14 (k := ?_)
      refine X11_falls_15 (k := ?_)
      refine s11_layHand hA e1 (fun I2 l1 l2 l3 => ?_)
      refine X11_falls_18 (k := ?_)
      refine X11_falls_19 (k := ?_)
      refine z_for 49 (fun i => ∀ I3, z_any (fW (I 61) P L x) i = false → stM I3 (I 61) P L (hF (I 61) P L i).1 (kA (I 61)) (hF (I 61) P L i).2.1 (hF (I 61) P L i).2.2 (tA (I 61)) → smM I1 I3 → JX11_falls (fun r' I2 => Q r r' I2) 20 [aR 60, aI x, aI i] [] I3) ?_ (fun i hi ih => ?_) 0 (by decide) I2 rfl l1 (smM_hand l2 l3)
      · intro I3 z f1 f2
        refine X11_falls_20 (k := ?_)
        refine X11_falls_21 (k := ?_)
        refine X11_falls_23 (kt := fun k23 => ?_) (kf := fun k23 => ?_)
        · refine X11_falls_50 (k := ?_)
          refine X11_falls_51 (hq := ?_)
          rw [z_fst_none z] at g1
          exact g1 I3 f2
        · omega
      · intro I3 z f1 f2
        refine X11_falls_20 (k := ?_)
        refine X11_falls_21 (k := ?_)
        refine X11_falls_23 (kt := fun k23 => ?_) (kf := fun k23 => ?_)
        · omega
        · refine X11_falls_26 (k := ?_)
          refine X11_falls_27 (k := ?_)
          refine X11_falls_28 (k := ?_)
          refine X11_falls_29 (k := ?_)
          refine s11_inChurch hA f1 ?_
          refine X11_falls_32 (k := ?_)
          refine s11_isWhole rfl hA f1.1 (rpH_w hH) (by omega) (fun w => ?_) (fun w => ?_)
          · have e : fW (I 61) P L x i = false := by unfold fW; rw [w]; rfl
            refine X11_falls_35 (kt := fun k35 => ?_) (kf := fun k35 => ?_)
            · refine X11_falls_40 (k := ?_)
              refine X11_falls_41 (k := ?_)
              refine s11_goHour hA (wfS_hours (s := sA (I 61)) hS i) f1 (fun I4 m1 m2 m3 => ?_)
              refine X11_falls_44 (k := ?_)
              refine X11_falls_47 (k := ?_)
              refine ih I4 ?_ m1 (smM_tr f2 ⟨fun k hk => m2 k (by omega) (by omega) (by omega), m3 4 (by decide), m3 5 (by decide), m3 16 (by decide)⟩)
              unfold z_any
              rw [z, e]
              rfl
            · omega
          · have e : fW (I 61) P L x i = true := by unfold fW; rw [w]; rfl
            refine X11_falls_35 (kt := fun k35 => ?_) (kf := fun k35 => ?_)
            · omega
            · refine X11_falls_38 (k := ?_)
              refine X11_falls_39 (hq := ?_)
              rw [z_fst_hit z e hi] at g1
              exact g1 I3 f2
    · refine X11_falls_4 (kt := fun z => absurd z (by decide)) (kf := fun _ => ?_)
      refine X11_falls_7 (k := ?_)
      refine X11_falls_8 (k := ?_)
      refine X11_falls_10 (k := ?_)
      refine s11_bad ?_
      refine X11_falls_13 (hq := ?_)
      exact g0 (by omega)
  refine eX10_falls ?_
  refine X10_falls_0 (k := ?_)
  refine X10_falls_1 (k := ?_)
  refine s10_isHymn (fun u1 u1b => ?_) (fun u1 => ?_)
  · refine X10_falls_4 (kt := fun _ => ?_) (kf := fun z => absurd z (by decide))
    obtain ⟨x, rfl⟩ : ∃ x : Nat, x0 = x := ⟨x0.toNat, by omega⟩
    have fin : ∀ (r : Int) (I3 : z_M), r = z_fst (fW (I 61) P L x) 49 → (∀ k, k < 19 ∨ 24 < k → I3 k = I k) → CX11_falls [aR 60, aI x] I3 (fun r' I2 => Q r r' I2) := by
      intro r I3 hr f2
      refine ref _ _ (f2 61 (by decide)) (fun x' z z1 I4 hs => ?_) (fun z => by omega)
      have : x' = x := by omega
      subst this
      rw [hr]
      exact hq _ _ (RR_M (RR_C h (smC_trial f2)) hs)
    refine X10_falls_12 (k := ?_)
    refine X10_falls_13 (k := ?_)
    refine X10_falls_16 (k := ?_)
    refine X10_falls_17 (k := ?_)
    refine X10_falls_20 (k := ?_)
    refine x4_trial hx (fun I1 c1 c2 => ?_)
    refine X10_falls_23 (k := ?_)
    refine X10_falls_24 (k := ?_)
    refine z_for 49 (fun i => ∀ I3, z_any (fW (I 61) P L x) i = false → stC I3 19 (I 61) P L (hF (I 61) P L (i - 1)).1 (kA (I 61)) (hF (I 61) P L (i - 1)).2.1 (hF (I 61) P L (i - 1)).2.2 (tA (I 61)) → (∀ k, k < 19 ∨ 24 < k → I3 k = I k) → JX10_falls (fun r I1 => CX11_falls [aR 60, aI x] I1 (fun r' I2 => Q r r' I2)) 25 [aR 0, aI x, aI i] [] I3) ?_ (fun i hi ih => ?_) 0 (by decide) I1 rfl c1 c2
    · intro I3 z f1 f2
      refine X10_falls_25 (k := ?_)
      refine X10_falls_26 (k := ?_)
      refine X10_falls_28 (kt := fun k28 => ?_) (kf := fun k28 => ?_)
      · refine X10_falls_72 (k := ?_)
        refine X10_falls_73 (hq := ?_)
        exact fin _ I3 (z_fst_none z).symm f2
      · omega
    · intro I3 z f1 f2
      have tail : ∀ I4, stC I4 19 (I 61) P L (hF (I 61) P L i).1 (kA (I 61)) (hF (I 61) P L i).2.1 (hF (I 61) P L i).2.2 (tA (I 61)) → (∀ k, k < 19 ∨ 24 < k → I4 k = I k) → JX10_falls (fun r I1 => CX11_falls [aR 60, aI x] I1 (fun r' I2 => Q r r' I2)) 46 [aR 0, aI x, aI i] [] I4 := by
        intro I4 d1 d2
        refine X10_falls_46 (k := ?_)
        refine X10_falls_47 (k := ?_)
        refine X10_falls_50 (k := ?_)
        refine X10_falls_51 (k := ?_)
        refine X10_falls_52 (k := ?_)
        refine X10_falls_55 (k := ?_)
        refine s4_notesInChurch rfl hA d1 ?_
        refine X10_falls_58 (k := ?_)
        refine s4_canBeWhole rfl hA (rpH_cg hH (d2 _ (by decide)) (d2 _ (by decide)) (fun _ _ _ => rfl)) (by omega) (fun w => ?_) (fun w => ?_)
        · have e : fW (I 61) P L x i = false := by unfold fW; rw [w]; rfl
          refine X10_falls_61 (kt := fun k61 => ?_) (kf := fun k61 => ?_)
          · refine X10_falls_66 (k := ?_)
            refine X10_falls_69 (k := ?_)
            refine ih I4 ?_ d1 d2
            unfold z_any
            rw [z, e]
            rfl
          · omega
        · have e : fW (I 61) P L x i = true := by unfold fW; rw [w]; rfl
          refine X10_falls_61 (kt := fun k61 => ?_) (kf := fun k61 => ?_)
          · omega
          · refine X10_falls_64 (k := ?_)
            refine X10_falls_65 (hq := ?_)
            exact fin _ I4 (z_fst_hit z e hi).symm d2
      refine X10_falls_25 (k := ?_)
      refine X10_falls_26 (k := ?_)
      refine X10_falls_28 (kt := fun k28 => ?_) (kf := fun k28 => ?_)
      · omega
      · refine X10_falls_31 (k := ?_)
        refine X10_falls_32 (kt := fun k32 => ?_) (kf := fun k32 => ?_)
        · have : i = 0 := by omega
          subst this
          exact tail I3 f1 f2
        · obtain ⟨j, rfl⟩ : ∃ j, i = j + 1 := ⟨i - 1, by omega⟩
          refine X10_falls_35 (k := ?_)
          refine X10_falls_36 (k := ?_)
          refine X10_falls_39 (k := ?_)
          refine X10_falls_40 (k := ?_)
          refine X10_falls_43 (k := ?_)
          refine s4_letHourGoBy rfl hA (wfS_hours (s := sA (I 61)) hS j) f1 (fun I4 m1 m2 m3 => ?_)
          exact tail I4 m1 (fun k hk => by rw [m2 k (by omega) (by omega) (by omega)]; exact f2 k hk)
  · refine X10_falls_4 (kt := fun z => absurd z (by decide)) (kf := fun _ => ?_)
    refine X10_falls_7 (k := ?_)
    refine X10_falls_8 (k := ?_)
    refine s10_refuseBad ?_
    refine X10_falls_11 (hq := ?_)
    refine ref _ _ (by rw [z_up_n (by decide)]) (fun x z z1 => by omega) (fun z => ?_)
    exact RR_bad (Q := Q) h (fun I' => hq _ I')
end PM

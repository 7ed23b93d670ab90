/-! plays, best, missing -/
section PL
variable {I I' : z_M} {b c : Nat} {A A' : Nat → Int} {P L : Nat}
def wfH (A : Nat → Int) : Prop := ∀ x, x < 3 → (0 ≤ A (62 + 9 * x) ∧ A (62 + 9 * x) ≤ 8) ∧ ∀ k : Nat, (k : Int) < A (62 + 9 * x) → 0 ≤ A (63 + 9 * x + k) ∧ A (63 + 9 * x + k) ≤ 35
theorem rpH_w (h : rpH I b A) : wfH A := fun x hx => ⟨(h x hx).1, fun k hk => ((h x hx).2.2 k hk).2⟩
def cC (A : Nat → Int) : Nat → Bool := fun p => decide (wA A p = -1)
theorem t_plays {Q : Int → Int → z_M → Prop} {x0 x1 : Int} (h : RR I) (hq : ∀ r I', RR I' → Q r r I') : CX10_plays [aR 0, aI x0, aI x1] I (fun r I1 => CX11_plays [aR 60, aI x0, aI x1] I1 (fun r' I2 => Q r r' I2)) := by
  obtain ⟨⟨P, L, hx⟩, -⟩ := id h
  have hx : rpx I 8 (I 61) P L := hx
  have hA := rpx_A hx
  have hC := rpx_C hx
  have hH := hx.2.1
  have ref : ∀ (I1 : z_M) (r : Int), I1 61 = I 61 → (∀ x : Nat, x0 = x → x < 3 → (-6 ≤ x1 ∧ x1 ≤ 6) → ∀ I2, smM I1 I2 → Q r (pPlays (I 61) P (cC (I 61)) x x1 : Nat) I2) → (¬ ((0 ≤ x0 ∧ x0 ≤ 2) ∧ (-6 ≤ x1 ∧ x1 ≤ 6)) → Q r (-2) (z_up I1 64 0 (i32 (I1 64 0 + 1)))) → CX11_plays [aR 60, aI x0, aI x1] I1 (fun r' I2 => Q r r' I2) := by
    intro I1 r e1 g1 g0
    refine eX11_plays ?_
    refine X11_plays_0 (k := ?_)
    refine X11_plays_1 (k := ?_)
    refine s11_isHymn (fun u1 u1b => ?_) (fun u1 => ?_)
    · refine X11_plays_4 (kt := fun z => absurd z (by decide)) (kf := fun _ => ?_)
      refine X11_plays_7 (k := ?_)
      refine X11_plays_8 (k := ?_)
      refine s11_isShift (fun u8 u8b => ?_) (fun u8 => ?_)
      · refine X11_plays_11 (kt := fun z => absurd z (by decide)) (kf := fun _ => ?_)
        obtain ⟨x, rfl⟩ : ∃ x : Nat, x0 = x := ⟨x0.toNat, by omega⟩
        refine X11_plays_14 (k := ?_)
        refine X11_plays_15 (k := ?_)
        refine X11_plays_16 (k := ?_)
        refine X11_plays_17 (k := ?_)
        refine X11_plays_18 (k := ?_)
        refine s11_churchNow hA e1 (fun I2 hs => ?_)
        refine X11_plays_21 (k := ?_)
        refine s11_playsBy (C := cC (I 61)) rfl hA ((hs.1 61 (by omega)).trans e1) (by omega) ⟨by omega, by omega⟩ (rpH_w hH) ?_
        refine X11_plays_24 (k := ?_)
        refine X11_plays_33 (hq := ?_)
        exact g1 x rfl (by omega) (by omega) I2 hs
      · refine X11_plays_11 (kt := fun _ => ?_) (kf := fun z => absurd z (by decide))
        refine X11_plays_27 (k := ?_)
        refine X11_plays_28 (k := ?_)
        refine X11_plays_30 (k := ?_)
        refine s11_bad ?_
        refine X11_plays_33 (hq := ?_)
        exact g0 (by omega)
    · refine X11_plays_4 (kt := fun _ => ?_) (kf := fun z => absurd z (by decide))
      refine X11_plays_27 (k := ?_)
      refine X11_plays_28 (k := ?_)
      refine X11_plays_30 (k := ?_)
      refine s11_bad ?_
      refine X11_plays_33 (hq := ?_)
      exact g0 (by omega)
  refine eX10_plays ?_
  refine X10_plays_0 (k := ?_)
  refine X10_plays_1 (k := ?_)
  refine s10_isHymn (fun u1 u1b => ?_) (fun u1 => ?_)
  · refine X10_plays_4 (kt := fun z => absurd z (by decide)) (kf := fun _ => ?_)
    refine X10_plays_7 (k := ?_)
    refine X10_plays_8 (k := ?_)
    refine s10_isShift (fun u8 u8b => ?_) (fun u8 => ?_)
    · refine X10_plays_11 (kt := fun _ => ?_) (kf := fun z => absurd z (by decide))
      obtain ⟨x, rfl⟩ : ∃ x : Nat, x0 = x := ⟨x0.toNat, by omega⟩
      refine X10_plays_19 (k := ?_)
      refine X10_plays_20 (k := ?_)
      refine X10_plays_23 (k := ?_)
      refine X10_plays_24 (k := ?_)
      refine X10_plays_25 (k := ?_)
      refine X10_plays_26 (k := ?_)
      refine X10_plays_29 (k := ?_)
      refine s4_notesInChurch rfl hA hC ?_
      refine X10_plays_32 (k := ?_)
      refine s4_howManyPlayed (C := cC (I 61)) rfl hA hH (by omega) ⟨by omega, by omega⟩ ?_
      refine X10_plays_35 (hq := ?_)
      refine ref _ _ rfl (fun x' z z1 z2 I2 hs => ?_) (fun z => by omega)
      have : x' = x := by omega
      subst this
      exact hq _ _ (RR_M h hs)
    · refine X10_plays_11 (kt := fun z => absurd z (by decide)) (kf := fun _ => ?_)
      refine X10_plays_14 (k := ?_)
      refine X10_plays_15 (k := ?_)
      refine s10_refuseBad ?_
      refine X10_plays_18 (hq := ?_)
      refine ref _ _ (by rw [z_up_n (by decide)]) (fun x z z1 => by omega) (fun z => ?_)
      exact RR_bad (Q := Q) h (fun I' => hq _ I')
  · refine X10_plays_4 (kt := fun _ => ?_) (kf := fun z => absurd z (by decide))
    refine X10_plays_14 (k := ?_)
    refine X10_plays_15 (k := ?_)
    refine s10_refuseBad ?_
    refine X10_plays_18 (hq := ?_)
    refine ref _ _ (by rw [z_up_n (by decide)]) (fun x z z1 => by omega) (fun z => ?_)
    exact RR_bad (Q := Q) h (fun I' => hq _ I')
/-- best: the changes by growing size, the lower one first -/
def bSt (g : Int → Nat) (d : Int) (s : Int × Nat) : Int × Nat := if s.2 < g d then (d, g d) else s
def bLo (g : Int → Nat) : Nat → Int × Nat
  | 0 => (0, g 0)
  | n + 1 => bSt g (n + 1 : Nat) (bSt g (-((n + 1 : Nat) : Int)) (bLo g n))
theorem bSt_r {g : Int → Nat} {d : Int} {s : Int × Nat} (hg : ∀ d, g d ≤ 8) (hd : -6 ≤ d ∧ d ≤ 6) (h : s.2 ≤ 8 ∧ -6 ≤ s.1 ∧ s.1 ≤ 6) : (bSt g d s).2 ≤ 8 ∧ -6 ≤ (bSt g d s).1 ∧ (bSt g d s).1 ≤ 6 := by
  have := hg d
  unfold bSt
  split
  · dsimp only
    omega
  · exact h
theorem bLo_r {g : Int → Nat} (hg : ∀ d, g d ≤ 8) : ∀ n, n ≤ 6 → (bLo g n).2 ≤ 8 ∧ -6 ≤ (bLo g n).1 ∧ (bLo g n).1 ≤ 6
  | 0, _ => ⟨hg 0, show (-6 : Int) ≤ 0 by decide, show (0 : Int) ≤ 6 by decide⟩
  | n + 1, h => bSt_r hg (by omega) (bSt_r hg (by omega) (bLo_r hg n (by omega)))
theorem t_best {Q : Int → Int → z_M → Prop} {x0 : Int} (h : RR I) (hq : ∀ r I', RR I' → Q r r I') : CX10_best [aR 0, aI x0] I (fun r I1 => CX11_best [aR 60, aI x0] I1 (fun r' I2 => Q r r' I2)) := by
  obtain ⟨⟨P, L, hx⟩, -⟩ := id h
  have hx : rpx I 8 (I 61) P L := hx
  have hA := rpx_A hx
  have hC := rpx_C hx
  have hH := hx.2.1
  have hw := rpH_w hH
  have hg8 : ∀ x, x < 3 → ∀ d, pPlays (I 61) P (cC (I 61)) x d ≤ 8 := fun x hx d => Nat.le_trans (z_cnt_le _ _) (by have := (hw x hx).1; omega)
  have ref : ∀ (I1 : z_M) (r : Int), I1 61 = I 61 → (∀ x : Nat, x0 = x → x < 3 → ∀ I2, smM I1 I2 → Q r (bLo (pPlays (I 61) P (cC (I 61)) x) 6).1 I2) → (¬ (0 ≤ x0 ∧ x0 ≤ 2) → Q r (-10) (z_up I1 64 0 (i32 (I1 64 0 + 1)))) → CX11_best [aR 60, aI x0] I1 (fun r' I2 => Q r r' I2) := by
    intro I1 r e1 g1 g0
    refine eX11_best ?_
    refine X11_best_0 (k := ?_)
    refine X11_best_1 (k := ?_)
    refine s11_isHymn (fun u1 u1b => ?_) (fun u1 => ?_)
    · refine X11_best_4 (kt := fun _ => ?_) (kf := fun z => absurd z (by decide))
      obtain ⟨x, rfl⟩ : ∃ x : Nat, x0 = x := ⟨x0.toNat, by omega⟩
      have g1 := g1 x rfl (by omega)
      have hg := hg8 x (by omega)
      obtain ⟨g, hge⟩ : ∃ g, g = pPlays (I 61) P (cC (I 61)) x := ⟨_, rfl⟩
      rw [← hge] at g1 hg
      refine X11_best_14 (k := ?_)
      refine X11_best_15 (k := ?_)
      refine s11_churchNow hA e1 (fun I2 hs => ?_)
      have e2 : I2 61 = I 61 := (hs.1 61 (by omega)).trans e1
      have pb : ∀ (d : Int) (Q' : Int → z_M → Prop), -6 ≤ d ∧ d ≤ 6 → Q' (g d : Nat) I2 → CX11_playsBy [aR 60, aI x, aI d, aI (z_bs (fun p => decide (wA (I 61) p = -1)) P : Nat)] I2 Q' := fun d Q' hd q => s11_playsBy (C := cC (I 61)) rfl hA e2 (by omega) hd hw (by rw [← hge]; exact q)
      -- a step of the inner loop
      have st : ∀ (n : Nat) (d : Int) (v : z_V) (s : Int × Nat), n + 1 ≤ 6 → (d = -((n + 1 : Nat) : Int) ∨ d = ((n + 1 : Nat) : Int)) → (s.2 ≤ 8 ∧ -6 ≤ s.1 ∧ s.1 ≤ 6) → (∀ v', JX11_best (fun r' I2 => Q r r' I2) 45 [aR 60, aI x, aI (z_bs (fun p => decide (wA (I 61) p = -1)) P : Nat), aI (bSt g d s).1, aI ((bSt g d s).2 : Nat), aI ((n + 1 : Nat) : Int), aI (d + 2 * ((n + 1 : Nat) : Int)), v'] [] I2) → JX11_best (fun r' I2 => Q r r' I2) 45 [aR 60, aI x, aI (z_bs (fun p => decide (wA (I 61) p = -1)) P : Nat), aI s.1, aI (s.2 : Nat), aI ((n + 1 : Nat) : Int), aI d, v] [] I2 := by
        intro n d v s hn hd hs8 k
        have hgd := hg d
        refine X11_best_45 (k := ?_)
        refine X11_best_47 (k := ?_)
        refine X11_best_49 (kt := fun k49 => ?_) (kf := fun k49 => ?_)
        · omega
        · refine X11_best_52 (k := ?_)
          refine X11_best_53 (k := ?_)
          refine X11_best_54 (k := ?_)
          refine X11_best_56 (k := ?_)
          refine X11_best_57 (k := ?_)
          refine pb d _ (by omega) ?_
          refine X11_best_60 (k := ?_)
          refine X11_best_62 (k := ?_)
          refine X11_best_64 (k := ?_)
          refine X11_best_66 (kt := fun k66 => ?_) (kf := fun k66 => ?_)
          · refine X11_best_74 (k := ?_)
            refine X11_best_75 (k := ?_)
            refine X11_best_76 (k := ?_)
            refine X11_best_78 (k := ?_)
            refine X11_best_80 (kt := fun k80 => ?_) (kf := fun k80 => ?_)
            · refine X11_best_88 (k := ?_)
              refine X11_best_90 (k := ?_)
              refine X11_best_92 (k := ?_)
              refine X11_best_94 (k := ?_)
              refine X11_best_95 (k := ?_)
              refine X11_best_97 (k := ?_)
              refine X11_best_98 (k := ?_)
              refine X11_best_99 (k := ?_)
              refine X11_best_101 (k := ?_)
              unfold bSt at k
              rw [if_neg (by omega)] at k
              exact k _
            · omega
          · refine X11_best_69 (k := ?_)
            refine X11_best_71 (k := ?_)
            refine X11_best_75 (k := ?_)
            refine X11_best_76 (k := ?_)
            refine X11_best_78 (k := ?_)
            refine X11_best_80 (kt := fun k80 => ?_) (kf := fun k80 => ?_)
            · omega
            · refine X11_best_83 (k := ?_)
              refine X11_best_85 (k := ?_)
              refine X11_best_90 (k := ?_)
              refine X11_best_92 (k := ?_)
              refine X11_best_94 (k := ?_)
              refine X11_best_95 (k := ?_)
              refine X11_best_97 (k := ?_)
              refine X11_best_98 (k := ?_)
              refine X11_best_99 (k := ?_)
              refine X11_best_101 (k := ?_)
              unfold bSt at k
              rw [if_pos (by omega)] at k
              exact k _
      refine X11_best_18 (k := ?_)
      refine X11_best_19 (k := ?_)
      refine X11_best_20 (k := ?_)
      refine X11_best_21 (k := ?_)
      refine X11_best_22 (k := ?_)
      refine X11_best_23 (k := ?_)
      refine X11_best_24 (k := ?_)
      refine X11_best_25 (k := ?_)
      refine pb 0 _ (by decide) ?_
      refine X11_best_28 (k := ?_)
      refine X11_best_30 (k := ?_)
      refine X11_best_31 (k := ?_)
      have := z_for 6 (fun n => ∀ (v w : z_V), JX11_best (fun r' I2 => Q r r' I2) 33 [aR 60, aI x, aI (z_bs (fun p => decide (wA (I 61) p = -1)) P : Nat), aI (bLo g n).1, aI ((bLo g n).2 : Nat), aI ((n + 1 : Nat) : Int), v, w] [] I2) (by
        intro v w
        refine X11_best_33 (k := ?_)
        refine X11_best_35 (k := ?_)
        refine X11_best_37 (kt := fun k37 => ?_) (kf := fun k37 => ?_)
        · refine X11_best_110 (k := ?_)
          refine X11_best_111 (hq := ?_)
          exact g1 I2 hs
        · omega) (fun n hn ih => by
        intro v w
        have hr := bLo_r hg n (by omega)
        refine X11_best_33 (k := ?_)
        refine X11_best_35 (k := ?_)
        refine X11_best_37 (kt := fun k37 => ?_) (kf := fun k37 => ?_)
        · omega
        · refine X11_best_40 (k := ?_)
          refine X11_best_42 (k := ?_)
          refine X11_best_43 (k := ?_)
          refine st n _ w _ (by omega) (Or.inl rfl) hr (fun v' => ?_)
          rw [show -((n + 1 : Nat) : Int) + 2 * ((n + 1 : Nat) : Int) = ((n + 1 : Nat) : Int) by omega]
          refine st n _ v' _ (by omega) (Or.inr rfl) (bSt_r hg (by omega) hr) (fun v'' => ?_)
          refine X11_best_45 (k := ?_)
          refine X11_best_47 (k := ?_)
          refine X11_best_49 (kt := fun k49 => ?_) (kf := fun k49 => ?_)
          · refine X11_best_104 (k := ?_)
            refine X11_best_107 (k := ?_)
            exact ih _ _
          · omega) 0 (by decide)
      exact this _ _
    · refine X11_best_4 (kt := fun z => absurd z (by decide)) (kf := fun _ => ?_)
      refine X11_best_7 (k := ?_)
      refine X11_best_8 (k := ?_)
      refine X11_best_10 (k := ?_)
      refine s11_bad ?_
      refine X11_best_13 (hq := ?_)
      exact g0 (by omega)
  refine eX10_best ?_
  refine X10_best_0 (k := ?_)
  refine X10_best_1 (k := ?_)
  refine s10_isHymn (fun u1 u1b => ?_) (fun u1 => ?_)
  · refine X10_best_4 (kt := fun _ => ?_) (kf := fun z => absurd z (by decide))
    obtain ⟨x, rfl⟩ : ∃ x : Nat, x0 = x := ⟨x0.toNat, by omega⟩
    have hg := hg8 x (by omega)
    obtain ⟨g, hge⟩ : ∃ g, g = pPlays (I 61) P (cC (I 61)) x := ⟨_, rfl⟩
    rw [← hge] at hg
    have pb : ∀ (d : Int) (Q' : Int → z_M → Prop), -6 ≤ d ∧ d ≤ 6 → Q' (g d : Nat) I → CX4_howManyPlayed [aR 8, aI x, aI d, aL (pN (I 61) (cC (I 61)) P : Nat)] I Q' := fun d Q' hd q => s4_howManyPlayed (C := cC (I 61)) rfl hA hH (by omega) hd (by rw [← hge]; exact q)
    refine X10_best_12 (k := ?_)
    refine X10_best_13 (k := ?_)
    refine X10_best_16 (k := ?_)
    refine s4_notesInChurch rfl hA hC ?_
    rw [show (fun p => decide ((sA (I 61)).2.1 p = -1)) = cC (I 61) from rfl]
    refine X10_best_19 (k := ?_)
    refine X10_best_20 (k := ?_)
    refine X10_best_21 (k := ?_)
    refine X10_best_23 (k := ?_)
    refine X10_best_24 (k := ?_)
    refine X10_best_27 (k := ?_)
    refine X10_best_28 (k := ?_)
    refine X10_best_29 (k := ?_)
    refine X10_best_30 (k := ?_)
    refine pb 0 _ (by decide) ?_
    refine X10_best_33 (k := ?_)
    refine X10_best_35 (k := ?_)
    refine X10_best_36 (k := ?_)
    have := z_for 6 (fun n => ∀ (v w : z_V), JX10_best (fun r I1 => CX11_best [aR 60, aI x] I1 (fun r' I2 => Q r r' I2)) 38 [aR 0, aI x, aL (pN (I 61) (cC (I 61)) P : Nat), aU, aI (bLo g n).1, aI ((bLo g n).2 : Nat), aI ((n + 1 : Nat) : Int), v, w] [] I) (by
      intro v w
      refine X10_best_38 (k := ?_)
      refine X10_best_40 (k := ?_)
      refine X10_best_42 (kt := fun k42 => ?_) (kf := fun k42 => ?_)
      · refine X10_best_109 (k := ?_)
        refine X10_best_111 (hq := ?_)
        refine ref _ _ rfl (fun x' z z1 I2 hs => ?_) (fun z => by omega)
        have : x' = x := by omega
        subst this
        rw [← hge]
        exact hq _ _ (RR_M h hs)
      · omega) (fun n hn ih => by
      intro v w
      have hr := bLo_r hg n (by omega)
      have hr2 := bSt_r (d := -((n + 1 : Nat) : Int)) hg (by omega) hr
      have hg1 := hg (-((n + 1 : Nat) : Int))
      have hg2 := hg ((n + 1 : Nat) : Int)
      have hb1 : bSt g (-((n + 1 : Nat) : Int)) (bLo g n) = if (bLo g n).2 < g (-((n + 1 : Nat) : Int)) then (-((n + 1 : Nat) : Int), g (-((n + 1 : Nat) : Int))) else bLo g n := rfl
      have hb2 : bLo g (n + 1) = if (bSt g (-((n + 1 : Nat) : Int)) (bLo g n)).2 < g ((n + 1 : Nat) : Int) then (((n + 1 : Nat) : Int), g ((n + 1 : Nat) : Int)) else bSt g (-((n + 1 : Nat) : Int)) (bLo g n) := rfl
      have second : ∀ (v' : Int) (w' : z_V), JX10_best (fun r I1 => CX11_best [aR 60, aI x] I1 (fun r' I2 => Q r r' I2)) 75 [aR 0, aI x, aL (pN (I 61) (cC (I 61)) P : Nat), aU, aI (bSt g (-((n + 1 : Nat) : Int)) (bLo g n)).1, aI ((bSt g (-((n + 1 : Nat) : Int)) (bLo g n)).2 : Nat), aI ((n + 1 : Nat) : Int), aI v', w'] [] I := by
        intro v' w'
        refine X10_best_75 (k := ?_)
        refine X10_best_76 (k := ?_)
        refine X10_best_79 (k := ?_)
        refine X10_best_80 (k := ?_)
        refine X10_best_82 (k := ?_)
        refine X10_best_83 (k := ?_)
        refine pb _ _ (by omega) ?_
        refine X10_best_86 (k := ?_)
        refine X10_best_88 (k := ?_)
        refine X10_best_90 (k := ?_)
        refine X10_best_92 (kt := fun k92 => ?_) (kf := fun k92 => ?_)
        · refine X10_best_103 (k := ?_)
          refine X10_best_106 (k := ?_)
          rw [if_neg (by omega)] at hb2
          rw [hb2] at ih
          exact ih _ _
        · refine X10_best_95 (k := ?_)
          refine X10_best_97 (k := ?_)
          refine X10_best_99 (k := ?_)
          refine X10_best_101 (k := ?_)
          refine X10_best_103 (k := ?_)
          refine X10_best_106 (k := ?_)
          rw [if_pos (by omega)] at hb2
          rw [hb2] at ih
          exact ih _ _
      refine X10_best_38 (k := ?_)
      refine X10_best_40 (k := ?_)
      refine X10_best_42 (kt := fun k42 => ?_) (kf := fun k42 => ?_)
      · omega
      · refine X10_best_45 (k := ?_)
        refine X10_best_46 (k := ?_)
        refine X10_best_49 (k := ?_)
        refine X10_best_50 (k := ?_)
        refine X10_best_52 (k := ?_)
        refine X10_best_53 (k := ?_)
        refine X10_best_54 (k := ?_)
        refine pb _ _ (by omega) ?_
        refine X10_best_57 (k := ?_)
        refine X10_best_59 (k := ?_)
        refine X10_best_61 (k := ?_)
        refine X10_best_63 (kt := fun k63 => ?_) (kf := fun k63 => ?_)
        · rw [if_neg (by omega)] at hb1
          rw [hb1] at second
          exact second _ _
        · refine X10_best_66 (k := ?_)
          refine X10_best_68 (k := ?_)
          refine X10_best_70 (k := ?_)
          refine X10_best_72 (k := ?_)
          refine X10_best_73 (k := ?_)
          rw [if_pos (by omega)] at hb1
          rw [hb1] at second
          exact second _ _) 0 (by decide)
    exact this _ _
  · refine X10_best_4 (kt := fun z => absurd z (by decide)) (kf := fun _ => ?_)
    refine X10_best_7 (k := ?_)
    refine X10_best_8 (k := ?_)
    refine s10_refuseBadTen ?_
    refine X10_best_11 (hq := ?_)
    refine ref _ _ (by rw [z_up_n (by decide)]) (fun x z z1 => by omega) (fun z => ?_)
    exact RR_bad (Q := Q) h (fun I' => hq _ I')
end PL

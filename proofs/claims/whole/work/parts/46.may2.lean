/-! may, on both sides -/
section PO
variable {I I' : z_M} {b c : Nat} {A A' : Nat → Int} {P L : Nat}
theorem rpx_cg (h : rpx I b A P L) (e : ∀ k, b ≤ k → k ≤ b + 10 → I' k = I k) : rpx I' b A P L := by
  obtain ⟨q1, q2, q3, q4⟩ := h
  have e0 := e b (by omega) (by omega)
  exact ⟨rpS_cg q1 (fun k k1 k2 _ => e k (by omega) (by omega)) ⟨by rw [e0], by rw [e0], by rw [e0]⟩ (fun _ _ _ _ => rfl), rpH_cg q2 (e _ (by omega) (by omega)) (e _ (by omega) (by omega)) (fun _ _ _ => rfl), rpR_cg q3 (by rw [e0]) (e _ (by omega) (by omega)) rfl (fun _ _ _ => rfl) (Nat.le_refl _) (Nat.le_refl _), rpU_cg q4 (e _ (by omega) (by omega)) (e _ (by omega) (by omega)) rfl (fun _ _ => rfl)⟩
theorem s10_kindsThatMayBe {Q : Int → z_M → Prop} {p : Nat} (hp : p < P) (hx : rpx I 8 A P L) (h : ∀ I', (∀ k, k < 19 ∨ 24 < k → I' k = I k) → Q (z_bs (mB A P L p) 6 : Nat) I') : CX10_kindsThatMayBe [aR 0, aI p] I Q := by
  have hP := (rpx_A hx).2.2.1
  have o19 := z_o (show z_cl 19 = 4 from rfl)
  refine eX10_kindsThatMayBe ?_
  refine X10_kindsThatMayBe_0 (k := ?_)
  refine X10_kindsThatMayBe_1 (k := ?_)
  refine X10_kindsThatMayBe_2 (k := ?_)
  refine X10_kindsThatMayBe_3 (k := ?_)
  refine z_for 6 (fun i => ∀ I3, (∀ k, k < 19 ∨ 24 < k → I3 k = I k) → JX10_kindsThatMayBe Q 4 [aR 0, aI p, aI (z_bs (mB A P L p) i : Nat), aI i] [] I3) ?_ (fun i hi ih => ?_) 0 (by decide) I (fun _ _ => rfl)
  · intro I3 f
    refine X10_kindsThatMayBe_4 (k := ?_)
    refine X10_kindsThatMayBe_5 (k := ?_)
    refine X10_kindsThatMayBe_7 (kt := fun k7 => ?_) (kf := fun k7 => ?_)
    · refine X10_kindsThatMayBe_50 (k := ?_)
      refine X10_kindsThatMayBe_51 (hq := ?_)
      exact h I3 f
    · omega
  · intro I3 f
    have hb := z_bs_lt (mB A P L p) i
    have h2 := z_pow_lt (show i < 8 by omega)
    refine X10_kindsThatMayBe_4 (k := ?_)
    refine X10_kindsThatMayBe_5 (k := ?_)
    refine X10_kindsThatMayBe_7 (kt := fun k7 => ?_) (kf := fun k7 => ?_)
    · omega
    · refine X10_kindsThatMayBe_10 (k := ?_)
      refine X10_kindsThatMayBe_11 (k := ?_)
      refine X10_kindsThatMayBe_14 (k := ?_)
      refine X10_kindsThatMayBe_15 (k := ?_)
      refine X10_kindsThatMayBe_18 (k := ?_)
      refine x4_trial (A := A) (P := P) (L := L) (rpx_cg hx (fun k k1 k2 => f k (by omega))) (fun I4 c1 c2 => ?_)
      refine X10_kindsThatMayBe_21 (k := ?_)
      refine X10_kindsThatMayBe_22 (k := ?_)
      refine X10_kindsThatMayBe_25 (k := ?_)
      refine X10_kindsThatMayBe_28 (k := ?_)
      refine X10_kindsThatMayBe_29 (k := ?_)
      refine X10_kindsThatMayBe_30 (k := ?_)
      rw [Int.toNat_natCast]
      refine X10_kindsThatMayBe_31 (k := ?_)
      refine X10_kindsThatMayBe_32 (k := ?_)
      have ef : ∀ k, k < 19 ∨ 24 < k → z_up I4 (19 + 2) p (i : Int) k = I k := fun k hk => by
        rw [z_up_n (by omega), c2 k hk]
        exact f k hk
      refine s10_areReadingsSo (p := p) hi (rpx_cg hx (fun k k1 k2 => ef k (by omega))) (stC_K c1) (fun I5 r h1 h0 d2 => ?_)
      cases e : mB A P L p i
      · have hr := h0 e
        subst hr
        refine X10_kindsThatMayBe_35 (kt := fun k35 => ?_) (kf := fun k35 => ?_)
        · refine X10_kindsThatMayBe_44 (k := ?_)
          refine X10_kindsThatMayBe_47 (k := ?_)
          rw [z_bs_f e] at ih
          exact ih I5 (fun k hk => by rw [d2 k hk]; exact ef k hk)
        · omega
      · have hr := h1 e
        subst hr
        refine X10_kindsThatMayBe_35 (kt := fun k35 => ?_) (kf := fun k35 => ?_)
        · omega
        · refine X10_kindsThatMayBe_38 (k := ?_)
          refine X10_kindsThatMayBe_39 (k := ?_)
          refine X10_kindsThatMayBe_40 (k := ?_)
          refine X10_kindsThatMayBe_41 (k := ?_)
          refine X10_kindsThatMayBe_42 (k := ?_)
          rw [zor_bs]
          refine X10_kindsThatMayBe_43 (k := ?_)
          refine X10_kindsThatMayBe_44 (k := ?_)
          refine X10_kindsThatMayBe_47 (k := ?_)
          rw [z_bs_t e] at ih
          exact ih I5 (fun k hk => by rw [d2 k hk]; exact ef k hk)
def wfR (A : Nat → Int) (P : Nat) : Prop := (0 ≤ A 3 ∧ A 3 ≤ 6) ∧ ∀ t : Nat, (t : Int) < A 3 → 0 ≤ A (89 + 4 * t) ∧ A (89 + 4 * t) < P
theorem rpR_w (h : rpR I b A P L) : wfR A P := ⟨h.1, fun t ht => (h.2.2 t ht).2.1⟩
theorem s11_isReadSo {Q : Int → z_M → Prop} {hr : Int} {K W Y tn : Nat → Int} {t p : Nat} (ht : t < 6) (hp : A (89 + 4 * t) = p) (hpP : p < P) (hP : P ≤ 8) (hI : stM I A P L hr K W Y tn) (h1 : decide (W p = A (89 + 4 * t + 2)) = decide (A (89 + 4 * t + 3) = 1) → Q 1 I) (h0 : decide (W p = A (89 + 4 * t + 2)) ≠ decide (A (89 + 4 * t + 3) = 1) → Q 0 I) : CX11_isReadSo [aR 60, aI t] I Q := by
  refine eX11_isReadSo ?_
  refine X11_isReadSo_0 (k := ?_)
  refine X11_isReadSo_2 (k := ?_)
  refine X11_isReadSo_3 (k := ?_)
  refine X11_isReadSo_4 (k := ?_)
  refine X11_isReadSo_5 (k := ?_)
  refine X11_isReadSo_6 (k := ?_)
  refine X11_isReadSo_7 (k := ?_)
  refine X11_isReadSo_8 (k := ?_)
  refine X11_isReadSo_11 (k := ?_)
  refine X11_isReadSo_12 (k := ?_)
  refine X11_isReadSo_15 (k := ?_)
  refine X11_isReadSo_16 (k := ?_)
  rw [show (89 + 4 * (t : Int)).toNat = 89 + 4 * t by omega, hI.1, hp]
  refine X11_isReadSo_17 (k := ?_)
  rw [Int.toNat_natCast, (hI.2.2.1 p hpP).2.1]
  refine X11_isReadSo_18 (k := ?_)
  refine X11_isReadSo_19 (k := ?_)
  refine X11_isReadSo_22 (k := ?_)
  refine X11_isReadSo_23 (k := ?_)
  refine X11_isReadSo_24 (k := ?_)
  refine X11_isReadSo_25 (k := ?_)
  rw [show (89 + 4 * (t : Int) + 2).toNat = 89 + 4 * t + 2 by omega, hI.1]
  refine X11_isReadSo_26 (kt := fun k26 => ?_) (kf := fun k26 => ?_)
  · refine X11_isReadSo_33 (k := ?_)
    refine X11_isReadSo_34 (k := ?_)
    refine X11_isReadSo_35 (k := ?_)
    refine X11_isReadSo_38 (k := ?_)
    refine X11_isReadSo_39 (k := ?_)
    refine X11_isReadSo_40 (k := ?_)
    refine X11_isReadSo_41 (k := ?_)
    rw [show (89 + 4 * (t : Int) + 3).toNat = 89 + 4 * t + 3 by omega, hI.1]
    rw [decide_eq_false k26] at h1 h0
    refine X11_isReadSo_42 (k := ?_)
    refine X11_isReadSo_43 (kt := fun k43 => ?_) (kf := fun k43 => ?_)
    · rw [decide_eq_false k43] at h1 h0
      refine X11_isReadSo_50 (k := ?_)
      refine X11_isReadSo_51 (kt := fun k51 => ?_) (kf := fun k51 => ?_)
      · omega
      · refine X11_isReadSo_54 (k := ?_)
        refine X11_isReadSo_55 (k := ?_)
        refine X11_isReadSo_59 (hq := ?_)
        exact h1 rfl
    · rw [decide_eq_true k43] at h1 h0
      refine X11_isReadSo_46 (k := ?_)
      refine X11_isReadSo_47 (k := ?_)
      refine X11_isReadSo_51 (kt := fun k51 => ?_) (kf := fun k51 => ?_)
      · refine X11_isReadSo_58 (k := ?_)
        refine X11_isReadSo_59 (hq := ?_)
        exact h0 (by decide)
      · omega
  · refine X11_isReadSo_29 (k := ?_)
    refine X11_isReadSo_30 (k := ?_)
    refine X11_isReadSo_34 (k := ?_)
    refine X11_isReadSo_35 (k := ?_)
    refine X11_isReadSo_38 (k := ?_)
    refine X11_isReadSo_39 (k := ?_)
    refine X11_isReadSo_40 (k := ?_)
    refine X11_isReadSo_41 (k := ?_)
    rw [show (89 + 4 * (t : Int) + 3).toNat = 89 + 4 * t + 3 by omega, hI.1]
    rw [decide_eq_true k26] at h1 h0
    refine X11_isReadSo_42 (k := ?_)
    refine X11_isReadSo_43 (kt := fun k43 => ?_) (kf := fun k43 => ?_)
    · rw [decide_eq_false k43] at h1 h0
      refine X11_isReadSo_50 (k := ?_)
      refine X11_isReadSo_51 (kt := fun k51 => ?_) (kf := fun k51 => ?_)
      · refine X11_isReadSo_58 (k := ?_)
        refine X11_isReadSo_59 (hq := ?_)
        exact h0 (by decide)
      · omega
    · rw [decide_eq_true k43] at h1 h0
      refine X11_isReadSo_46 (k := ?_)
      refine X11_isReadSo_47 (k := ?_)
      refine X11_isReadSo_51 (kt := fun k51 => ?_) (kf := fun k51 => ?_)
      · omega
      · refine X11_isReadSo_54 (k := ?_)
        refine X11_isReadSo_55 (k := ?_)
        refine X11_isReadSo_59 (hq := ?_)
        exact h1 rfl
theorem s11_mayBe {Q : Int → z_M → Prop} {p k : Nat} (hp : p < P) (hk : k < 6) (hA : wfA A P L) (hS : wfS P L (kA A) (sA A).2.1 (sA A).2.2) (hR : wfR A P) (hI : I 61 = A) (h : ∀ I' r, (mB A P L p k = true → r = 1) → (mB A P L p k = false → r = 0) → smM I I' → Q r I') : CX11_mayBe [aR 60, aI p, aI k] I Q := by
  have hP := hA.2.2.1
  have hS' : wfS P L (zu (kA A) p (k : Int)) (sA A).2.1 (sA A).2.2 := wfS_K (by omega) hS
  obtain ⟨⟨r1, r2⟩, r3⟩ := hR
  obtain ⟨n, hn⟩ : ∃ n : Nat, A 3 = n := ⟨(A 3).toNat, by omega⟩
  rw [hn] at r1 r2 r3
  have bd : ∀ W m, pBd A W m = z_any (bR A W m) n := fun W m => by unfold pBd; rw [hn, Int.toNat_natCast]
  refine eX11_mayBe ?_
  refine X11_mayBe_0 (k := ?_)
  refine X11_mayBe_1 (k := ?_)
  refine X11_mayBe_2 (k := ?_)
  refine X11_mayBe_3 (k := ?_)
  refine s11_layHand hA hI (fun I2 l1 l2 l3 => ?_)
  refine X11_mayBe_6 (k := ?_)
  refine X11_mayBe_7 (k := ?_)
  refine X11_mayBe_10 (k := ?_)
  refine X11_mayBe_11 (k := ?_)
  refine X11_mayBe_12 (k := ?_)
  rw [Int.toNat_natCast]
  refine X11_mayBe_13 (k := ?_)
  refine X11_mayBe_14 (k := ?_)
  have hs : smM I (z_up I2 65 p (k : Int)) := smM_tr (smM_hand l2 l3) ⟨fun q hq => z_up_n (by omega), by rw [z_up_n (by decide)], by rw [z_up_n (by decide)], by rw [z_up_n (by decide)]⟩
  have := z_for 73 (fun i => ∀ (I3 : z_M) (v : z_V) (f : Int), (z_any (fun m => pBd A (hK A P L p k m).2.1 m) i = true → f = 0) → (z_any (fun m => pBd A (hK A P L p k m).2.1 m) i = false → f = 1) → stM I3 A P L (hK A P L p k i).1 (zu (kA A) p (k : Int)) (hK A P L p k i).2.1 (hK A P L p k i).2.2 (tA A) → smM I I3 → JX11_mayBe Q 16 [aR 60, aI p, aI k, aI f, aI i, v] [] I3) (by
    intro I3 v f g1 g0 f1 f2
    have hf : f = 0 ∨ f = 1 := by
      cases e : z_any (fun m => pBd A (hK A P L p k m).2.1 m) 73
      · exact Or.inr (g0 e)
      · exact Or.inl (g1 e)
    refine X11_mayBe_16 (k := ?_)
    refine X11_mayBe_18 (k := ?_)
    refine X11_mayBe_20 (kt := fun k20 => ?_) (kf := fun k20 => ?_)
    · refine X11_mayBe_95 (k := ?_)
      refine X11_mayBe_96 (hq := ?_)
      exact h I3 f (fun q => g0 (by unfold mB at q; simpa using q)) (fun q => g1 (by unfold mB at q; simpa using q)) f2
    · omega) (fun i hi ih => by
    intro I3 v f g1 g0 f1 f2
    refine X11_mayBe_16 (k := ?_)
    refine X11_mayBe_18 (k := ?_)
    refine X11_mayBe_20 (kt := fun k20 => ?_) (kf := fun k20 => ?_)
    · omega
    · refine X11_mayBe_23 (k := ?_)
      refine X11_mayBe_24 (kt := fun k24 => ?_) (kf := fun k24 => ?_)
      · have e : z_any (fun m => pBd A (hK A P L p k m).2.1 m) i = true := by
          cases e : z_any (fun m => pBd A (hK A P L p k m).2.1 m) i
          · have := g0 e
            omega
          · rfl
        have em : mB A P L p k = false := by
          unfold mB
          obtain ⟨j, hj, hj2⟩ := z_any_of e
          rw [z_any_t (c := fun m => pBd A (hK A P L p k m).2.1 m) (show j < 73 by omega) hj2]
          rfl
        refine X11_mayBe_95 (k := ?_)
        refine X11_mayBe_96 (hq := ?_)
        exact h I3 f (fun q => by rw [em] at q; cases q) (fun _ => k24) f2
      · have e : z_any (fun m => pBd A (hK A P L p k m).2.1 m) i = false := by
          cases e : z_any (fun m => pBd A (hK A P L p k m).2.1 m) i
          · rfl
          · have := g1 e
            omega
        have hf := g0 e
        subst hf
        refine X11_mayBe_27 (k := ?_)
        refine X11_mayBe_28 (k := ?_)
        have inner := z_for n (fun t => ∀ f : Int, (z_any (bR A (hK A P L p k i).2.1 i) t = true → f = 0) → (z_any (bR A (hK A P L p k i).2.1 i) t = false → f = 1) → JX11_mayBe Q 30 [aR 60, aI p, aI k, aI f, aI i, aI t] [] I3) (by
          intro f q1 q0
          refine X11_mayBe_30 (k := ?_)
          refine X11_mayBe_32 (k := ?_)
          refine X11_mayBe_33 (k := ?_)
          refine X11_mayBe_36 (k := ?_)
          refine X11_mayBe_37 (k := ?_)
          rw [f1.1, show (3 : Int).toNat = 3 from rfl, hn]
          refine X11_mayBe_38 (kt := fun k38 => ?_) (kf := fun k38 => ?_)
          · refine X11_mayBe_85 (k := ?_)
            refine X11_mayBe_86 (k := ?_)
            refine s11_goHour hA (wfS_hours (s := sA A) hS' i) f1 (fun I4 m1 m2 m3 => ?_)
            refine X11_mayBe_89 (k := ?_)
            refine X11_mayBe_92 (k := ?_)
            have hs' : z_any (fun m => pBd A (hK A P L p k m).2.1 m) (i + 1) = z_any (bR A (hK A P L p k i).2.1 i) n := by
              show (z_any (fun m => pBd A (hK A P L p k m).2.1 m) i || pBd A (hK A P L p k i).2.1 i) = _
              rw [e, Bool.false_or]
              exact bd _ _
            refine ih I4 _ f (fun q => q1 (hs' ▸ q)) (fun q => q0 (hs' ▸ q)) m1 (smM_tr f2 ⟨fun k hk => m2 k (by omega) (by omega) (by omega), m3 4 (by decide), m3 5 (by decide), m3 16 (by decide)⟩)
          · omega) (fun t ht iht => by
          intro f q1 q0
          obtain ⟨w1, w2⟩ := r3 t (by omega)
          obtain ⟨pt, hpt⟩ : ∃ p : Nat, A (89 + 4 * t) = p := ⟨(A (89 + 4 * t)).toNat, by omega⟩
          have er : bR A (hK A P L p k i).2.1 i t = (decide (A (89 + 4 * t + 1) = (i : Int)) && (decide ((hK A P L p k i).2.1 pt = A (89 + 4 * t + 2)) != decide (A (89 + 4 * t + 3) = 1))) := by
            unfold bR
            rw [hpt, Int.toNat_natCast]
          have es : z_any (bR A (hK A P L p k i).2.1 i) (t + 1) = (z_any (bR A (hK A P L p k i).2.1 i) t || bR A (hK A P L p k i).2.1 i t) := rfl
          refine X11_mayBe_30 (k := ?_)
          refine X11_mayBe_32 (k := ?_)
          refine X11_mayBe_33 (k := ?_)
          refine X11_mayBe_36 (k := ?_)
          refine X11_mayBe_37 (k := ?_)
          rw [f1.1, show (3 : Int).toNat = 3 from rfl, hn]
          refine X11_mayBe_38 (kt := fun k38 => ?_) (kf := fun k38 => ?_)
          · omega
          · refine X11_mayBe_41 (k := ?_)
            refine X11_mayBe_42 (kt := fun k42 => ?_) (kf := fun k42 => ?_)
            · have e2 : z_any (bR A (hK A P L p k i).2.1 i) t = true := by
                cases e2 : z_any (bR A (hK A P L p k i).2.1 i) t
                · have := q0 e2
                  omega
                · rfl
              refine X11_mayBe_77 (k := ?_)
              refine X11_mayBe_78 (k := ?_)
              refine X11_mayBe_79 (k := ?_)
              refine X11_mayBe_82 (k := ?_)
              refine iht 0 (fun _ => rfl) (fun q => ?_)
              rw [es, e2] at q
              cases q
            · have e2 : z_any (bR A (hK A P L p k i).2.1 i) t = false := by
                cases e2 : z_any (bR A (hK A P L p k i).2.1 i) t
                · rfl
                · have := q1 e2
                  omega
              rw [e2, Bool.false_or] at es
              refine X11_mayBe_45 (k := ?_)
              refine X11_mayBe_46 (k := ?_)
              refine X11_mayBe_49 (k := ?_)
              refine X11_mayBe_51 (k := ?_)
              refine X11_mayBe_52 (k := ?_)
              refine X11_mayBe_54 (k := ?_)
              refine X11_mayBe_55 (k := ?_)
              refine X11_mayBe_56 (k := ?_)
              refine X11_mayBe_57 (k := ?_)
              refine X11_mayBe_58 (k := ?_)
              rw [show (89 + 4 * (t : Int) + 1).toNat = 89 + 4 * t + 1 by omega, f1.1]
              refine X11_mayBe_59 (k := ?_)
              refine X11_mayBe_61 (kt := fun k61 => ?_) (kf := fun k61 => ?_)
              · refine X11_mayBe_73 (k := ?_)
                refine X11_mayBe_74 (k := ?_)
                refine X11_mayBe_78 (k := ?_)
                refine X11_mayBe_79 (k := ?_)
                refine X11_mayBe_82 (k := ?_)
                refine iht 1 (fun q => ?_) (fun _ => rfl)
                rw [es, er, decide_eq_false k61] at q
                cases q
              · refine X11_mayBe_64 (k := ?_)
                refine X11_mayBe_65 (k := ?_)
                refine X11_mayBe_67 (k := ?_)
                refine s11_isReadSo (by omega) hpt (by omega) hP f1 (fun z => ?_) (fun z => ?_)
                · refine X11_mayBe_70 (kt := fun k70 => ?_) (kf := fun k70 => ?_)
                  · omega
                  · refine X11_mayBe_73 (k := ?_)
                    refine X11_mayBe_74 (k := ?_)
                    refine X11_mayBe_78 (k := ?_)
                    refine X11_mayBe_79 (k := ?_)
                    refine X11_mayBe_82 (k := ?_)
                    refine iht 1 (fun q => ?_) (fun _ => rfl)
                    rw [es, er, z, decide_eq_true k61] at q
                    simp at q
                · refine X11_mayBe_70 (kt := fun k70 => ?_) (kf := fun k70 => ?_)
                  · refine X11_mayBe_77 (k := ?_)
                    refine X11_mayBe_78 (k := ?_)
                    refine X11_mayBe_79 (k := ?_)
                    refine X11_mayBe_82 (k := ?_)
                    refine iht 0 (fun _ => rfl) (fun q => ?_)
                    rw [es, er, decide_eq_true k61] at q
                    simp only [Bool.true_and, bne_eq_false_iff_eq] at q
                    exact absurd q z
                  · omega) 0 (Nat.zero_le _)
        exact inner 1 (fun q => by cases q) (fun _ => rfl)) 0 (by decide)
  exact this _ _ 1 (fun q => by cases q) (fun _ => rfl) (stM_K l1) hs
theorem s11_kindsOf {Q : Int → z_M → Prop} {p : Nat} (hp : p < P) (hA : wfA A P L) (hS : wfS P L (kA A) (sA A).2.1 (sA A).2.2) (hR : wfR A P) (hI : I 61 = A) (h : ∀ I', smM I I' → Q (z_bs (mB A P L p) 6 : Nat) I') : CX11_kindsOf [aR 60, aI p] I Q := by
  refine eX11_kindsOf ?_
  refine X11_kindsOf_0 (k := ?_)
  refine X11_kindsOf_1 (k := ?_)
  refine X11_kindsOf_2 (k := ?_)
  refine X11_kindsOf_3 (k := ?_)
  refine z_for 6 (fun i => ∀ I3, smM I I3 → JX11_kindsOf Q 4 [aR 60, aI p, aI (z_bs (mB A P L p) i : Nat), aI i] [] I3) ?_ (fun i hi ih => ?_) 0 (by decide) I (smM_rf I)
  · intro I3 f
    refine X11_kindsOf_4 (k := ?_)
    refine X11_kindsOf_5 (k := ?_)
    refine X11_kindsOf_6 (kt := fun k6 => ?_) (kf := fun k6 => ?_)
    · refine X11_kindsOf_34 (k := ?_)
      refine X11_kindsOf_35 (hq := ?_)
      exact h I3 f
    · omega
  · intro I3 f
    have hb := z_bs_lt (mB A P L p) i
    have h2 := z_pow_lt (show i < 8 by omega)
    refine X11_kindsOf_4 (k := ?_)
    refine X11_kindsOf_5 (k := ?_)
    refine X11_kindsOf_6 (kt := fun k6 => ?_) (kf := fun k6 => ?_)
    · omega
    · refine X11_kindsOf_9 (k := ?_)
      refine X11_kindsOf_10 (k := ?_)
      refine X11_kindsOf_11 (k := ?_)
      refine X11_kindsOf_12 (k := ?_)
      refine X11_kindsOf_13 (k := ?_)
      refine s11_mayBe hp hi hA hS hR ((f.1 61 (by omega)).trans hI) (fun I4 r h1 h0 hs => ?_)
      cases e : mB A P L p i
      · have hr := h0 e
        subst hr
        refine X11_kindsOf_16 (kt := fun k16 => ?_) (kf := fun k16 => ?_)
        · refine X11_kindsOf_25 (k := ?_)
          refine X11_kindsOf_26 (k := ?_)
          rw [zor_0]
          refine X11_kindsOf_27 (k := ?_)
          refine X11_kindsOf_28 (k := ?_)
          refine X11_kindsOf_31 (k := ?_)
          rw [z_bs_f e] at ih
          exact ih I4 (smM_tr f hs)
        · omega
      · have hr := h1 e
        subst hr
        refine X11_kindsOf_16 (kt := fun k16 => ?_) (kf := fun k16 => ?_)
        · omega
        · refine X11_kindsOf_19 (k := ?_)
          refine X11_kindsOf_20 (k := ?_)
          refine X11_kindsOf_21 (k := ?_)
          refine X11_kindsOf_22 (k := ?_)
          refine X11_kindsOf_26 (k := ?_)
          rw [zor_bs]
          refine X11_kindsOf_27 (k := ?_)
          refine X11_kindsOf_28 (k := ?_)
          refine X11_kindsOf_31 (k := ?_)
          rw [z_bs_t e] at ih
          exact ih I4 (smM_tr f hs)
theorem t_may {Q : Int → Int → z_M → Prop} {x0 : Int} (h : RR I) (hq : ∀ r I', RR I' → Q r r I') : CX10_may [aR 0, aI x0] I (fun r I1 => CX11_may [aR 60, aI x0] I1 (fun r' I2 => Q r r' I2)) := by
  obtain ⟨⟨P, L, hx⟩, -⟩ := id h
  have hx : rpx I 8 (I 61) P L := hx
  have hA := rpx_A hx
  have hP := hA.2.2.1
  have hS := rpx_S hx
  have i2 := (rpx_C hx).2.2.1
  have ref : ∀ (I1 : z_M) (r : Int), I1 61 = I 61 → (∀ p : Nat, x0 = p → p < P → ∀ I2, smM I1 I2 → Q r (z_bs (mB (I 61) P L p) 6 : Nat) I2) → (¬ (0 ≤ x0 ∧ x0 < P) → Q r (-2) (z_up I1 64 0 (i32 (I1 64 0 + 1)))) → CX11_may [aR 60, aI x0] I1 (fun r' I2 => Q r r' I2) := by
    intro I1 r e1 g1 g0
    have eP : I1 61 0 = P := by rw [e1]; exact hA.1
    refine eX11_may ?_
    refine X11_may_0 (k := ?_)
    refine X11_may_1 (k := ?_)
    refine X11_may_2 (k := ?_)
    refine s11_isPipe (by first | assumption | omega) (by omega) (fun u2 u2b => ?_) (fun u2 => ?_)
    · refine X11_may_5 (kt := fun z => absurd z (by decide)) (kf := fun _ => ?_)
      obtain ⟨p, rfl⟩ : ∃ x : Nat, x0 = x := ⟨x0.toNat, by omega⟩
      refine X11_may_8 (k := ?_)
      refine X11_may_9 (k := ?_)
      refine X11_may_10 (k := ?_)
      refine s11_kindsOf (by omega) hA hS (rpR_w hx.2.2.1) e1 (fun I2 hs => ?_)
      refine X11_may_13 (k := ?_)
      refine X11_may_22 (hq := ?_)
      exact g1 p rfl (by omega) I2 hs
    · refine X11_may_5 (kt := fun _ => ?_) (kf := fun z => absurd z (by decide))
      refine X11_may_16 (k := ?_)
      refine X11_may_17 (k := ?_)
      refine X11_may_19 (k := ?_)
      refine s11_bad ?_
      refine X11_may_22 (hq := ?_)
      exact g0 (by omega)
  refine eX10_may ?_
  refine X10_may_0 (k := ?_)
  refine X10_may_1 (k := ?_)
  refine X10_may_2 (k := ?_)
  refine s10_isPipe (fun u2 u2b => ?_) (fun u2 => ?_)
  · refine X10_may_5 (kt := fun _ => ?_) (kf := fun z => absurd z (by decide))
    obtain ⟨p, rfl⟩ : ∃ x : Nat, x0 = x := ⟨x0.toNat, by omega⟩
    refine X10_may_13 (k := ?_)
    refine X10_may_14 (k := ?_)
    refine X10_may_15 (k := ?_)
    refine s10_kindsThatMayBe (by omega) hx (fun I1 ef => ?_)
    refine X10_may_18 (hq := ?_)
    refine ref _ _ (ef 61 (by decide)) (fun p' z z1 I2 hs => ?_) (fun z => by omega)
    have : p' = p := by omega
    subst this
    exact hq _ _ (RR_M (RR_C h (smC_trial ef)) hs)
  · refine X10_may_5 (kt := fun z => absurd z (by decide)) (kf := fun _ => ?_)
    refine X10_may_8 (k := ?_)
    refine X10_may_9 (k := ?_)
    refine s10_refuseBad ?_
    refine X10_may_12 (hq := ?_)
    refine ref _ _ (by rw [z_up_n (by decide)]) (fun p z z1 => by omega) (fun z => ?_)
    exact RR_bad (Q := Q) h (fun I' => hq _ I')
end PO

/-! listen -/
section PQ
variable {I I' : z_M} {b c : Nat} {A A' : Nat → Int} {P L : Nat}
def wK (A : Nat → Int) (P L p m k : Nat) : Int := (hK A P L p k m).2.1 p
def cT (B : Nat → Bool) (w : Nat → Int) (x : Nat) : Nat := z_cnt (fun k => B k && decide (w k = (x : Int))) 6
def gLi (B : Nat → Bool) (w : Nat → Int) (x : Nat) : Nat := if cT B w x < z_cnt B 6 - cT B w x then z_cnt B 6 - cT B w x else cT B w x
theorem cT_le {B : Nat → Bool} {w : Nat → Int} {x : Nat} : ∀ n, z_cnt (fun k => B k && decide (w k = (x : Int))) n ≤ z_cnt B n
  | 0 => Nat.le_refl 0
  | n + 1 => by
    have := cT_le (B := B) (w := w) (x := x) n
    unfold z_cnt
    cases B n <;> cases decide (w n = (x : Int)) <;> simp <;> omega
def pLs (g : Nat → Nat) : Nat → Int × Int
  | 0 => (-1, 7)
  | x + 1 => if (g x : Int) < (pLs g x).2 then ((x : Int), (g x : Int)) else pLs g x
theorem pLs_r {g : Nat → Nat} (hg : ∀ x, g x ≤ 6) : ∀ x, (0 ≤ (pLs g x).2 ∧ (pLs g x).2 ≤ 7) ∧ (-1 ≤ (pLs g x).1 ∧ (pLs g x).1 < x) ∧ (0 < x → (pLs g x).2 ≤ 6)
  | 0 => ⟨by unfold pLs; decide, by unfold pLs; decide, fun h => absurd h (Nat.lt_irrefl 0)⟩
  | x + 1 => by
    have h := pLs_r hg x
    have h1 := hg x
    unfold pLs
    split
    · dsimp only
      omega
    · refine ⟨h.1, by omega, fun _ => ?_⟩
      omega
theorem x10_tryKinds {Q : z_M → Prop} {p m : Nat} (hp : p < P) (hm : m ≤ 72) (hx : rpx I 8 A P L) (h : ∀ I', (∀ k, k < 6 → I' 59 k = wK A P L p m k) → (∀ k, k < 19 ∨ 24 < k → k ≠ 59 → I' k = I k) → Q I') : CX10_tryKinds [aR 0, aI p, aI m] I Q := by
  have hA := rpx_A hx
  have hP := hA.2.2.1
  have o19 := z_o (show z_cl 19 = 4 from rfl)
  refine eX10_tryKinds ?_
  refine X10_tryKinds_0 (k := ?_)
  refine X10_tryKinds_1 (k := ?_)
  refine z_for 6 (fun i => ∀ I3, (∀ k, k < i → I3 59 k = wK A P L p m k) → (∀ k, k < 19 ∨ 24 < k → k ≠ 59 → I3 k = I k) → JX10_tryKinds Q 2 [aR 0, aI p, aI m, aI i] [] I3) ?_ (fun i hi ih => ?_) 0 (by decide) I (fun k hk => absurd hk (Nat.not_lt_zero k)) (fun _ _ _ => rfl)
  · intro I3 f1 f2
    refine X10_tryKinds_2 (k := ?_)
    refine X10_tryKinds_3 (k := ?_)
    refine X10_tryKinds_5 (kt := fun k5 => ?_) (kf := fun k5 => ?_)
    · refine X10_tryKinds_55 (hq := ?_)
      exact h I3 f1 f2
    · omega
  · intro I3 f1 f2
    refine X10_tryKinds_2 (k := ?_)
    refine X10_tryKinds_3 (k := ?_)
    refine X10_tryKinds_5 (kt := fun k5 => ?_) (kf := fun k5 => ?_)
    · omega
    · refine X10_tryKinds_8 (k := ?_)
      refine X10_tryKinds_9 (k := ?_)
      refine X10_tryKinds_12 (k := ?_)
      refine X10_tryKinds_13 (k := ?_)
      refine X10_tryKinds_16 (k := ?_)
      refine x4_trial (A := A) (P := P) (L := L) (rpx_cg hx (fun k k1 k2 => f2 k (by omega) (by omega))) (fun I4 c1 c2 => ?_)
      refine X10_tryKinds_19 (k := ?_)
      refine X10_tryKinds_20 (k := ?_)
      refine X10_tryKinds_23 (k := ?_)
      refine X10_tryKinds_26 (k := ?_)
      refine X10_tryKinds_27 (k := ?_)
      refine X10_tryKinds_28 (k := ?_)
      rw [Int.toNat_natCast]
      refine X10_tryKinds_29 (k := ?_)
      refine X10_tryKinds_30 (k := ?_)
      refine X10_tryKinds_31 (k := ?_)
      refine x10_tryHours (by omega) hA (wfS_K (by omega) (rpx_S hx)) (stC_K (q := p) (v := (i : Int)) c1) (fun I5 d1 d2 => ?_)
      refine X10_tryKinds_34 (k := ?_)
      refine X10_tryKinds_35 (k := ?_)
      refine X10_tryKinds_38 (k := ?_)
      refine X10_tryKinds_39 (k := ?_)
      refine X10_tryKinds_40 (k := ?_)
      refine X10_tryKinds_43 (k := ?_)
      refine X10_tryKinds_46 (k := ?_)
      refine X10_tryKinds_47 (k := ?_)
      rw [Int.toNat_natCast, (d1.2.2.2.2 p hp).2.2.1]
      refine X10_tryKinds_48 (k := ?_)
      refine X10_tryKinds_49 (k := ?_)
      refine X10_tryKinds_52 (k := ?_)
      rw [Int.toNat_natCast]
      refine ih _ (fun k hk => ?_) (fun k k1 k2 => by rw [z_up_n k2, d2 k k1, z_up_n (by omega), c2 k k1]; exact f2 k k1 k2)
      rw [z_up_s]
      by_cases z : k = i
      · subst z
        rw [zu_s]
        rfl
      · rw [zu_n z, d2 59 (by decide), z_up_n (by decide), c2 59 (by decide)]
        exact f1 k (by omega)
theorem x10_greaterPart {Q : Int → z_M → Prop} {x : Nat} {B : Nat → Bool} {w : Nat → Int} (hx : x < 5) (hw : ∀ k, k < 6 → I 59 k = w k) (h : Q (gLi B w x : Nat) I) : CX10_greaterPart [aR 0, aI (z_bs B 6 : Nat), aI x] I Q := by
  have hb := z_bs_lt B 6
  refine eX10_greaterPart ?_
  refine X10_greaterPart_0 (k := ?_)
  refine X10_greaterPart_1 (k := ?_)
  refine X10_greaterPart_2 (k := ?_)
  refine X10_greaterPart_3 (k := ?_)
  refine z_for 6 (fun i => JX10_greaterPart Q 5 [aR 0, aI (z_bs B 6 : Nat), aI x, aI (z_cnt (fun k => B k && decide (w k = (x : Int))) i : Nat), aI i] [] I) ?_ (fun i hi ih => ?_) 0 (by decide)
  · have h1 := cT_le (B := B) (w := w) (x := x) 6
    have h2 := z_cnt_le B 6
    refine X10_greaterPart_5 (k := ?_)
    refine X10_greaterPart_7 (k := ?_)
    refine X10_greaterPart_9 (kt := fun k9 => ?_) (kf := fun k9 => ?_)
    · refine X10_greaterPart_42 (k := ?_)
      refine X10_greaterPart_43 (k := ?_)
      refine X10_greaterPart_44 (k := ?_)
      refine j6_bitCount (by omega) ?_
      rw [bC_bs 6 B (by decide)]
      refine X10_greaterPart_47 (k := ?_)
      refine X10_greaterPart_48 (k := ?_)
      refine X10_greaterPart_49 (k := ?_)
      unfold gLi cT at h
      refine X10_greaterPart_52 (hq := ?_)
      refine Eq.mp ?_ h
      congr 1
      split <;> split <;> omega
    · omega
  · have hc := z_cnt_le (fun k => B k && decide (w k = (x : Int))) i
    refine X10_greaterPart_5 (k := ?_)
    refine X10_greaterPart_7 (k := ?_)
    refine X10_greaterPart_9 (kt := fun k9 => ?_) (kf := fun k9 => ?_)
    · omega
    · refine X10_greaterPart_12 (k := ?_)
      refine X10_greaterPart_13 (k := ?_)
      refine X10_greaterPart_15 (k := ?_)
      refine X10_greaterPart_16 (k := ?_)
      refine X10_greaterPart_17 (k := ?_)
      rw [zbit_bs B hi]
      refine X10_greaterPart_18 (k := ?_)
      refine X10_greaterPart_19 (kt := fun k19 => ?_) (kf := fun k19 => ?_)
      · have e : B i = false := by
          cases e : B i
          · rfl
          · rw [e] at k19
            exact absurd rfl k19
        refine X10_greaterPart_36 (k := ?_)
        refine X10_greaterPart_39 (k := ?_)
        rw [z_cnt_f (c := fun k => B k && decide (w k = (x : Int))) (by rw [e]; rfl)] at ih
        exact ih
      · have e : B i = true := by
          cases e : B i
          · rw [e] at k19
            exact absurd k19 (by decide)
          · rfl
        refine X10_greaterPart_22 (k := ?_)
        refine X10_greaterPart_23 (k := ?_)
        refine X10_greaterPart_26 (k := ?_)
        refine X10_greaterPart_28 (k := ?_)
        rw [Int.toNat_natCast, hw i hi]
        refine X10_greaterPart_29 (k := ?_)
        refine X10_greaterPart_30 (kt := fun k30 => ?_) (kf := fun k30 => ?_)
        · refine X10_greaterPart_36 (k := ?_)
          refine X10_greaterPart_39 (k := ?_)
          rw [z_cnt_f (c := fun k => B k && decide (w k = (x : Int))) (by rw [e, decide_eq_false k30]; rfl)] at ih
          exact ih
        · refine X10_greaterPart_33 (k := ?_)
          refine X10_greaterPart_36 (k := ?_)
          refine X10_greaterPart_39 (k := ?_)
          rw [z_cnt_t (c := fun k => B k && decide (w k = (x : Int))) (by rw [e, decide_eq_true k30]; rfl)] at ih
          exact ih
theorem t_listen {Q : Int → Int → z_M → Prop} {x0 x1 : Int} (h : RR I) (hq : ∀ r I', RR I' → Q r r I') : CX10_listen [aR 0, aI x0, aI x1] I (fun r I1 => CX11_listen [aR 60, aI x0, aI x1] I1 (fun r' I2 => Q r r' I2)) := by
  obtain ⟨⟨P, L, hx⟩, -⟩ := id h
  have hx : rpx I 8 (I 61) P L := hx
  have hA := rpx_A hx
  have hP := hA.2.2.1
  have hL := hA.2.2.2.1
  have hS := rpx_S hx
  have hC := rpx_C hx
  have i2 := hC.2.2.1
  have i1 := hC.2.1
  have hg6 : ∀ B w x, gLi B w x ≤ 6 := fun B w x => by
    have h1 := cT_le (B := B) (w := w) (x := x) 6
    have h2 := z_cnt_le B 6
    unfold gLi cT
    split <;> omega
  have ref : ∀ (I1 : z_M) (r : Int), I1 61 = I 61 → (∀ p m : Nat, x0 = p → p < P → x1 = m → m ≤ 72 → ∀ I2, smM I1 I2 → Q r (if z_bs (mB (I 61) P L p) 6 = 0 then -1 else (pLs (gLi (mB (I 61) P L p) (wK (I 61) P L p m)) L).1) I2) → (¬ ((0 ≤ x0 ∧ x0 < P) ∧ (0 ≤ x1 ∧ x1 ≤ 72)) → Q r (-2) (z_up I1 64 0 (i32 (I1 64 0 + 1)))) → CX11_listen [aR 60, aI x0, aI x1] I1 (fun r' I2 => Q r r' I2) := by
    intro I1 r e1 g1 g0
    have eP : I1 61 0 = P := by rw [e1]; exact hA.1
    refine eX11_listen ?_
    refine X11_listen_0 (k := ?_)
    refine X11_listen_1 (k := ?_)
    refine X11_listen_2 (k := ?_)
    refine s11_isPipe (by first | assumption | omega) (by omega) (fun u2 u2b => ?_) (fun u2 => ?_)
    · refine X11_listen_5 (kt := fun z => absurd z (by decide)) (kf := fun _ => ?_)
      refine X11_listen_8 (k := ?_)
      refine X11_listen_9 (k := ?_)
      refine s11_isThen (fun u9 u9b => ?_) (fun u9 => ?_)
      · refine X11_listen_12 (kt := fun _ => ?_) (kf := fun z => absurd z (by decide))
        obtain ⟨p, rfl⟩ : ∃ x : Nat, x0 = x := ⟨x0.toNat, by omega⟩
        obtain ⟨m, rfl⟩ : ∃ x : Nat, x1 = x := ⟨x1.toNat, by omega⟩
        have g1 := g1 p m rfl (by omega) rfl (by omega)
        have hp : p < P := by omega
        refine X11_listen_22 (k := ?_)
        refine X11_listen_23 (k := ?_)
        refine X11_listen_24 (k := ?_)
        refine s11_kindsOf hp hA hS (rpR_w hx.2.2.1) e1 (fun I2 hs => ?_)
        obtain ⟨B, hB⟩ : ∃ B, B = mB (I 61) P L p := ⟨_, rfl⟩
        obtain ⟨w, hw⟩ : ∃ w, w = wK (I 61) P L p m := ⟨_, rfl⟩
        rw [← hB, ← hw] at g1
        rw [← hB]
        have hb := z_bs_lt B 6
        refine X11_listen_27 (k := ?_)
        refine X11_listen_28 (k := ?_)
        refine X11_listen_29 (k := ?_)
        have first := z_for 6 (fun i => ∀ I3, smM I1 I3 → (∀ k, k < i → I3 70 k = w k) → JX11_listen (fun r' I2 => Q r r' I2) 31 [aR 60, aI p, aI m, aI (z_bs B 6 : Nat), aI i, aU, aU, aU, aU] [] I3) (by
          intro I3 f1 f2
          refine X11_listen_31 (k := ?_)
          refine X11_listen_33 (k := ?_)
          refine X11_listen_35 (kt := fun k35 => ?_) (kf := fun k35 => ?_)
          · refine X11_listen_74 (k := ?_)
            refine X11_listen_75 (k := ?_)
            refine X11_listen_77 (k := ?_)
            refine X11_listen_79 (k := ?_)
            refine X11_listen_81 (k := ?_)
            refine X11_listen_82 (k := ?_)
            by_cases z : z_bs B 6 = 0
            · rw [if_pos z] at g1
              refine X11_listen_84 (k := ?_)
              refine X11_listen_86 (k := ?_)
              refine X11_listen_87 (k := ?_)
              refine s11_places ?_
              rw [f1.1 61 (by omega), e1, hA.2.1]
              refine X11_listen_90 (kt := fun k90 => ?_) (kf := fun k90 => ?_)
              · refine X11_listen_211 (k := ?_)
                refine X11_listen_213 (hq := ?_)
                exact g1 I3 f1
              · refine X11_listen_93 (k := ?_)
                refine X11_listen_94 (kt := fun k94 => ?_) (kf := fun k94 => ?_)
                · refine X11_listen_211 (k := ?_)
                  refine X11_listen_213 (hq := ?_)
                  exact g1 I3 f1
                · omega
            rw [if_neg z] at g1
            have second := z_for L (fun x => ∀ (v7 v8 : z_V) (least : Int), (x = 0 → least = 1000000) → (0 < x → least = (pLs (gLi B w) x).2) → JX11_listen (fun r' I2 => Q r r' I2) 84 [aR 60, aI p, aI m, aI (z_bs B 6 : Nat), aI (pLs (gLi B w) x).1, aI least, aI x, v7, v8] [] I3) (by
              intro v7 v8 least q1 q2
              have hr := pLs_r (hg6 B w) L
              refine X11_listen_84 (k := ?_)
              refine X11_listen_86 (k := ?_)
              refine X11_listen_87 (k := ?_)
              refine s11_places ?_
              rw [f1.1 61 (by omega), e1, hA.2.1]
              refine X11_listen_90 (kt := fun k90 => ?_) (kf := fun k90 => ?_)
              · refine X11_listen_211 (k := ?_)
                refine X11_listen_213 (hq := ?_)
                exact g1 I3 f1
              · omega) (fun x hxL ihx => by
              intro v7 v8 least q1 q2
              have hr := pLs_r (hg6 B w) x
              have hz : x = 0 → (pLs (gLi B w) x).2 = 7 := fun z => by rw [z]; rfl
              have hg := hg6 B w x
              have hgs : pLs (gLi B w) (x + 1) = if (gLi B w x : Int) < (pLs (gLi B w) x).2 then ((x : Int), (gLi B w x : Int)) else pLs (gLi B w) x := rfl
              have h1 := cT_le (B := B) (w := w) (x := x) 6
              have h2 := z_cnt_le B 6
              have hgd : gLi B w x = if cT B w x < z_cnt B 6 - cT B w x then z_cnt B 6 - cT B w x else cT B w x := rfl
              rw [show z_cnt (fun k => B k && decide (w k = (x : Int))) 6 = cT B w x from rfl] at h1
              have tail : ∀ v8 : z_V, JX11_listen (fun r' I2 => Q r r' I2) 173 [aR 60, aI p, aI m, aI (z_bs B 6 : Nat), aI (pLs (gLi B w) x).1, aI least, aI x, v8, aI (gLi B w x : Nat)] [] I3 := by
                intro v8
                refine X11_listen_173 (k := ?_)
                refine X11_listen_175 (k := ?_)
                refine X11_listen_177 (kt := fun k177 => ?_) (kf := fun k177 => ?_)
                · refine X11_listen_185 (k := ?_)
                  refine X11_listen_187 (k := ?_)
                  refine X11_listen_189 (k := ?_)
                  refine X11_listen_191 (k := ?_)
                  refine X11_listen_193 (kt := fun k193 => ?_) (kf := fun k193 => ?_)
                  · refine X11_listen_201 (k := ?_)
                    refine X11_listen_203 (k := ?_)
                    refine X11_listen_205 (k := ?_)
                    refine X11_listen_208 (k := ?_)
                    rw [if_neg (by omega)] at hgs
                    rw [hgs] at ihx
                    exact ihx _ _ _ (fun q => by omega) (fun _ => q2 (by omega))
                  · omega
                · refine X11_listen_180 (k := ?_)
                  refine X11_listen_182 (k := ?_)
                  refine X11_listen_187 (k := ?_)
                  refine X11_listen_189 (k := ?_)
                  refine X11_listen_191 (k := ?_)
                  refine X11_listen_193 (kt := fun k193 => ?_) (kf := fun k193 => ?_)
                  · omega
                  · refine X11_listen_196 (k := ?_)
                    refine X11_listen_198 (k := ?_)
                    refine X11_listen_203 (k := ?_)
                    refine X11_listen_205 (k := ?_)
                    refine X11_listen_208 (k := ?_)
                    rw [if_pos (by omega)] at hgs
                    rw [hgs] at ihx
                    exact ihx _ _ _ (fun q => by omega) (fun _ => rfl)
              refine X11_listen_84 (k := ?_)
              refine X11_listen_86 (k := ?_)
              refine X11_listen_87 (k := ?_)
              refine s11_places ?_
              rw [f1.1 61 (by omega), e1, hA.2.1]
              refine X11_listen_90 (kt := fun k90 => ?_) (kf := fun k90 => ?_)
              · omega
              · refine X11_listen_93 (k := ?_)
                refine X11_listen_94 (kt := fun k94 => ?_) (kf := fun k94 => ?_)
                · omega
                · refine X11_listen_97 (k := ?_)
                  refine X11_listen_98 (k := ?_)
                  refine X11_listen_100 (k := ?_)
                  refine X11_listen_101 (k := ?_)
                  refine z_for 6 (fun i => JX11_listen (fun r' I2 => Q r r' I2) 103 [aR 60, aI p, aI m, aI (z_bs B 6 : Nat), aI (pLs (gLi B w) x).1, aI least, aI x, aI (z_cnt (fun k => B k && decide (w k = (x : Int))) i : Nat), aI i] [] I3) ?_ (fun i hi ih => ?_) 0 (by decide)
                  · refine X11_listen_103 (k := ?_)
                    refine X11_listen_105 (k := ?_)
                    refine X11_listen_107 (kt := fun k107 => ?_) (kf := fun k107 => ?_)
                    · rw [show z_cnt (fun k => B k && decide (w k = (x : Int))) 6 = cT B w x from rfl]
                      refine X11_listen_148 (k := ?_)
                      refine X11_listen_149 (k := ?_)
                      refine X11_listen_151 (k := ?_)
                      refine X11_listen_152 (k := ?_)
                      refine X11_listen_153 (k := ?_)
                      refine s11_bits rfl (by decide) ?_
                      refine X11_listen_156 (kt := fun k156 => ?_) (kf := fun k156 => ?_)
                      · refine X11_listen_164 (k := ?_)
                        refine X11_listen_165 (k := ?_)
                        refine s11_bits rfl (by decide) ?_
                        refine X11_listen_168 (k := ?_)
                        refine X11_listen_170 (k := ?_)
                        refine X11_listen_171 (k := ?_)
                        rw [show (z_cnt B 6 : Int) - (cT B w x : Nat) = (gLi B w x : Nat) by rw [hgd]; split <;> omega]
                        exact tail _
                      · refine X11_listen_159 (k := ?_)
                        refine X11_listen_161 (k := ?_)
                        refine X11_listen_171 (k := ?_)
                        rw [show (cT B w x : Int) = (gLi B w x : Nat) by rw [hgd]; split <;> omega]
                        exact tail _
                    · omega
                  · have hc := z_cnt_le (fun k => B k && decide (w k = (x : Int))) i
                    refine X11_listen_103 (k := ?_)
                    refine X11_listen_105 (k := ?_)
                    refine X11_listen_107 (kt := fun k107 => ?_) (kf := fun k107 => ?_)
                    · omega
                    · refine X11_listen_110 (k := ?_)
                      refine X11_listen_112 (k := ?_)
                      refine X11_listen_113 (k := ?_)
                      refine X11_listen_115 (k := ?_)
                      refine X11_listen_116 (k := ?_)
                      refine X11_listen_117 (k := ?_)
                      rw [zbit_bs B hi]
                      refine X11_listen_118 (k := ?_)
                      refine X11_listen_119 (kt := fun k119 => ?_) (kf := fun k119 => ?_)
                      · have e : B i = false := by
                          cases e : B i
                          · rfl
                          · rw [e] at k119
                            exact absurd rfl k119
                        refine X11_listen_138 (k := ?_)
                        refine X11_listen_139 (k := ?_)
                        rw [Int.add_zero]
                        refine X11_listen_140 (k := ?_)
                        refine X11_listen_142 (k := ?_)
                        refine X11_listen_145 (k := ?_)
                        rw [z_cnt_f (c := fun k => B k && decide (w k = (x : Int))) (by rw [e]; rfl)] at ih
                        exact ih
                      · have e : B i = true := by
                          cases e : B i
                          · rw [e] at k119
                            exact absurd k119 (by decide)
                          · rfl
                        refine X11_listen_122 (k := ?_)
                        refine X11_listen_123 (k := ?_)
                        refine X11_listen_126 (k := ?_)
                        refine X11_listen_128 (k := ?_)
                        rw [Int.toNat_natCast, f2 i hi]
                        refine X11_listen_129 (k := ?_)
                        refine X11_listen_131 (kt := fun k131 => ?_) (kf := fun k131 => ?_)
                        · refine X11_listen_138 (k := ?_)
                          refine X11_listen_139 (k := ?_)
                          rw [Int.add_zero]
                          refine X11_listen_140 (k := ?_)
                          refine X11_listen_142 (k := ?_)
                          refine X11_listen_145 (k := ?_)
                          rw [z_cnt_f (c := fun k => B k && decide (w k = (x : Int))) (by rw [e, decide_eq_false k131]; rfl)] at ih
                          exact ih
                        · refine X11_listen_134 (k := ?_)
                          refine X11_listen_135 (k := ?_)
                          refine X11_listen_139 (k := ?_)
                          refine X11_listen_140 (k := ?_)
                          refine X11_listen_142 (k := ?_)
                          refine X11_listen_145 (k := ?_)
                          rw [z_cnt_t (c := fun k => B k && decide (w k = (x : Int))) (by rw [e, decide_eq_true k131]; rfl)] at ih
                          exact ih) 0 (Nat.zero_le _)
            exact second _ _ _ (fun _ => rfl) (fun z => absurd z (Nat.lt_irrefl 0))
          · omega) (fun i hi ih => by
          intro I3 f1 f2
          refine X11_listen_31 (k := ?_)
          refine X11_listen_33 (k := ?_)
          refine X11_listen_35 (kt := fun k35 => ?_) (kf := fun k35 => ?_)
          · omega
          · refine X11_listen_38 (k := ?_)
            refine X11_listen_39 (k := ?_)
            refine s11_layHand hA ((f1.1 61 (by omega)).trans e1) (fun I4 l1 l2 l3 => ?_)
            refine X11_listen_42 (k := ?_)
            refine X11_listen_43 (k := ?_)
            refine X11_listen_46 (k := ?_)
            refine X11_listen_47 (k := ?_)
            refine X11_listen_49 (k := ?_)
            rw [Int.toNat_natCast]
            refine X11_listen_50 (k := ?_)
            refine X11_listen_51 (k := ?_)
            refine X11_listen_52 (k := ?_)
            refine s11_goHours (by omega) hA (wfS_K (by omega) hS) (stM_K (q := p) (v := (i : Int)) l1) (fun I5 m1 m2 m3 => ?_)
            refine X11_listen_55 (k := ?_)
            refine X11_listen_56 (k := ?_)
            refine X11_listen_59 (k := ?_)
            refine X11_listen_61 (k := ?_)
            refine X11_listen_62 (k := ?_)
            refine X11_listen_65 (k := ?_)
            refine X11_listen_66 (k := ?_)
            rw [Int.toNat_natCast, (m1.2.2.1 p hp).2.1]
            refine X11_listen_67 (k := ?_)
            refine X11_listen_68 (k := ?_)
            refine X11_listen_71 (k := ?_)
            rw [Int.toNat_natCast]
            refine ih _ (smM_tr f1 ⟨fun k hk => by rw [z_up_n (by omega), m2 k (by omega) (by omega) (by omega), z_up_n (by omega), l2 k (by omega) (by omega) (by omega) (by omega) (by omega)], by rw [z_up_n (by decide), m3 4 (by decide), z_up_n (by decide), l3 4 (by decide)], by rw [z_up_n (by decide), m3 5 (by decide), z_up_n (by decide), l3 5 (by decide)], by rw [z_up_n (by decide), m3 16 (by decide), z_up_n (by decide), l3 16 (by decide)]⟩) (fun k hk => ?_)
            rw [z_up_s]
            by_cases z : k = i
            · subst z
              rw [zu_s, hw]
              rfl
            · rw [zu_n z, m2 70 (by decide) (by decide) (by decide), z_up_n (by decide), l2 70 (by decide) (by decide) (by decide) (by decide) (by decide)]
              exact f2 k (by omega)) 0 (by decide)
        exact first I2 (smM_tr ⟨fun _ _ => rfl, rfl, rfl, rfl⟩ hs) (fun k hk => absurd hk (Nat.not_lt_zero k))
      · refine X11_listen_12 (kt := fun z => absurd z (by decide)) (kf := fun _ => ?_)
        refine X11_listen_15 (k := ?_)
        refine X11_listen_16 (k := ?_)
        refine X11_listen_18 (k := ?_)
        refine s11_bad ?_
        refine X11_listen_21 (hq := ?_)
        exact g0 (by omega)
    · refine X11_listen_5 (kt := fun _ => ?_) (kf := fun z => absurd z (by decide))
      refine X11_listen_15 (k := ?_)
      refine X11_listen_16 (k := ?_)
      refine X11_listen_18 (k := ?_)
      refine s11_bad ?_
      refine X11_listen_21 (hq := ?_)
      exact g0 (by omega)
  refine eX10_listen ?_
  refine X10_listen_0 (k := ?_)
  refine X10_listen_1 (k := ?_)
  refine X10_listen_2 (k := ?_)
  refine s10_isPipe (fun u2 u2b => ?_) (fun u2 => ?_)
  · refine X10_listen_5 (kt := fun z => absurd z (by decide)) (kf := fun _ => ?_)
    refine X10_listen_8 (k := ?_)
    refine X10_listen_9 (k := ?_)
    refine X10_listen_11 (k := ?_)
    refine s10_isUpTo (fun u11 u11b => ?_) (fun u11 => ?_)
    · refine X10_listen_14 (kt := fun _ => ?_) (kf := fun z => absurd z (by decide))
      obtain ⟨p, rfl⟩ : ∃ x : Nat, x0 = x := ⟨x0.toNat, by omega⟩
      obtain ⟨m, rfl⟩ : ∃ x : Nat, x1 = x := ⟨x1.toNat, by omega⟩
      have hp : p < P := by omega
      have fin : ∀ (r : Int) (I3 : z_M), r = (if z_bs (mB (I 61) P L p) 6 = 0 then -1 else (pLs (gLi (mB (I 61) P L p) (wK (I 61) P L p m)) L).1) → (∀ k, k < 19 ∨ 24 < k → k ≠ 59 → I3 k = I k) → CX11_listen [aR 60, aI p, aI m] I3 (fun r' I2 => Q r r' I2) := by
        intro r I3 hr f2
        refine ref _ _ (f2 61 (by decide) (by decide)) (fun p' m' z z1 z2 z3 I4 hs => ?_) (fun z => by omega)
        have : p' = p := by omega
        subst this
        have : m' = m := by omega
        subst this
        rw [hr]
        exact hq _ _ (RR_M (RR_C h ⟨fun k hk => f2 k (by omega) (by omega), by rw [f2 54 (by decide) (by decide)]⟩) hs)
      refine X10_listen_22 (k := ?_)
      refine X10_listen_23 (k := ?_)
      refine X10_listen_24 (k := ?_)
      refine s10_kindsThatMayBe hp hx (fun I1 ef => ?_)
      obtain ⟨B, hB⟩ : ∃ B, B = mB (I 61) P L p := ⟨_, rfl⟩
      obtain ⟨w, hw⟩ : ∃ w, w = wK (I 61) P L p m := ⟨_, rfl⟩
      rw [← hB, ← hw] at fin
      rw [← hB]
      refine X10_listen_27 (k := ?_)
      refine X10_listen_28 (k := ?_)
      refine X10_listen_29 (kt := fun k29 => ?_) (kf := fun k29 => ?_)
      · refine X10_listen_34 (k := ?_)
        refine X10_listen_35 (k := ?_)
        refine X10_listen_36 (k := ?_)
        refine X10_listen_37 (k := ?_)
        refine x10_tryKinds hp (by omega) (rpx_cg hx (fun k k1 k2 => ef k (by omega))) (fun I2 t1 t2 => ?_)
        rw [← hw] at t1
        have t3 : ∀ k, k < 19 ∨ 24 < k → k ≠ 59 → I2 k = I k := fun k k1 k2 => by rw [t2 k k1 k2]; exact ef k k1
        refine X10_listen_40 (k := ?_)
        refine X10_listen_41 (k := ?_)
        refine X10_listen_43 (k := ?_)
        refine X10_listen_45 (k := ?_)
        refine X10_listen_47 (k := ?_)
        refine X10_listen_48 (k := ?_)
        have := z_for L (fun x => ∀ (v : z_V), JX10_listen (fun r I1 => CX11_listen [aR 60, aI p, aI m] I1 (fun r' I2 => Q r r' I2)) 50 [aR 0, aI p, aI m, aI (z_bs B 6 : Nat), aI (pLs (gLi B w) x).1, aI (pLs (gLi B w) x).2, aI x, v] [] I2) (by
          intro v
          refine X10_listen_50 (k := ?_)
          refine X10_listen_52 (k := ?_)
          refine X10_listen_53 (k := ?_)
          refine X10_listen_56 (k := ?_)
          rw [t3 8 (by decide) (by decide), i1]
          refine X10_listen_59 (kt := fun k59 => ?_) (kf := fun k59 => ?_)
          · refine X10_listen_92 (k := ?_)
            refine X10_listen_94 (hq := ?_)
            exact fin _ I2 (by rw [if_neg (by omega)]) t3
          · omega) (fun x hxL ih => by
          intro v
          have hr := pLs_r (hg6 B w) x
          have hg := hg6 B w x
          have hgs : pLs (gLi B w) (x + 1) = if (gLi B w x : Int) < (pLs (gLi B w) x).2 then ((x : Int), (gLi B w x : Int)) else pLs (gLi B w) x := rfl
          refine X10_listen_50 (k := ?_)
          refine X10_listen_52 (k := ?_)
          refine X10_listen_53 (k := ?_)
          refine X10_listen_56 (k := ?_)
          rw [t3 8 (by decide) (by decide), i1]
          refine X10_listen_59 (kt := fun k59 => ?_) (kf := fun k59 => ?_)
          · omega
          · refine X10_listen_62 (k := ?_)
            refine X10_listen_63 (k := ?_)
            refine X10_listen_64 (k := ?_)
            refine X10_listen_66 (k := ?_)
            refine x10_greaterPart (w := w) (by omega) t1 ?_
            refine X10_listen_69 (k := ?_)
            refine X10_listen_71 (k := ?_)
            refine X10_listen_73 (k := ?_)
            refine X10_listen_75 (kt := fun k75 => ?_) (kf := fun k75 => ?_)
            · refine X10_listen_86 (k := ?_)
              refine X10_listen_89 (k := ?_)
              rw [if_neg (by omega)] at hgs
              rw [hgs] at ih
              exact ih _
            · refine X10_listen_78 (k := ?_)
              refine X10_listen_80 (k := ?_)
              refine X10_listen_82 (k := ?_)
              refine X10_listen_84 (k := ?_)
              refine X10_listen_86 (k := ?_)
              refine X10_listen_89 (k := ?_)
              rw [if_pos (by omega)] at hgs
              rw [hgs] at ih
              exact ih _) 0 (Nat.zero_le _)
        exact this _
      · refine X10_listen_32 (k := ?_)
        refine X10_listen_33 (hq := ?_)
        exact fin _ I1 (by rw [if_pos (by omega)]) (fun k k1 _ => ef k k1)
    · refine X10_listen_14 (kt := fun z => absurd z (by decide)) (kf := fun _ => ?_)
      refine X10_listen_17 (k := ?_)
      refine X10_listen_18 (k := ?_)
      refine s10_refuseBad ?_
      refine X10_listen_21 (hq := ?_)
      refine ref _ _ (by rw [z_up_n (by decide)]) (fun p m z z1 z2 => by omega) (fun z => ?_)
      exact RR_bad (Q := Q) h (fun I' => hq _ I')
  · refine X10_listen_5 (kt := fun _ => ?_) (kf := fun z => absurd z (by decide))
    refine X10_listen_17 (k := ?_)
    refine X10_listen_18 (k := ?_)
    refine s10_refuseBad ?_
    refine X10_listen_21 (hq := ?_)
    refine ref _ _ (by rw [z_up_n (by decide)]) (fun p m z z1 z2 => by omega) (fun z => ?_)
    exact RR_bad (Q := Q) h (fun I' => hq _ I')
end PQ

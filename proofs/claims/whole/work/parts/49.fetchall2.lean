/-! fetchAll on both sides -/
section PS
variable {I I' : z_M} {b c : Nat} {A A' : Nat → Int} {P L : Nat}
theorem s4_firstOfNote {Q : Int → z_M → Prop} (hb : z_cl b = 4) {hr v : Int} {K W Y tn : Nat → Int} (hP : P ≤ 8) (hI : stC I b A P L hr K W Y tn) (h : Q (tF A P v) I) : CX4_firstOfNote [aR b, aI v] I Q := by
  obtain ⟨o1, o2, o3, o4, o5, o6, o7, o8, o9, o10, n1, n2, n3, n4, n5, n6, n7, n8, n10⟩ := z_o hb
  unfold tF at h
  refine eX4_firstOfNote ?_
  refine X4_firstOfNote_0 (k := ?_)
  refine X4_firstOfNote_1 (k := ?_)
  refine z_for P (fun i => z_any (fun q => decide (tN A q = v)) i = false → JX4_firstOfNote Q 2 [aR b, aI v, aI i] [] I) ?_ (fun i hi ih => ?_) 0 (Nat.zero_le _) rfl
  · intro z
    rw [z_fst_none z] at h
    refine X4_firstOfNote_2 (k := ?_)
    refine X4_firstOfNote_3 (k := ?_)
    refine X4_firstOfNote_4 (k := ?_)
    rw [hI.2.2.1]
    refine X4_firstOfNote_7 (kt := fun k7 => ?_) (kf := fun k7 => ?_)
    · refine X4_firstOfNote_28 (k := ?_)
      refine X4_firstOfNote_29 (hq := ?_)
      exact h
    · omega
  · intro z
    refine X4_firstOfNote_2 (k := ?_)
    refine X4_firstOfNote_3 (k := ?_)
    refine X4_firstOfNote_4 (k := ?_)
    rw [hI.2.2.1]
    refine X4_firstOfNote_7 (kt := fun k7 => ?_) (kf := fun k7 => ?_)
    · omega
    · refine X4_firstOfNote_10 (k := ?_)
      refine X4_firstOfNote_11 (k := ?_)
      refine X4_firstOfNote_14 (k := ?_)
      refine X4_firstOfNote_15 (k := ?_)
      rw [Int.toNat_natCast, (hI.2.2.2.2 i hi).2.1]
      refine X4_firstOfNote_16 (k := ?_)
      refine X4_firstOfNote_17 (kt := fun k17 => ?_) (kf := fun k17 => ?_)
      · refine X4_firstOfNote_22 (k := ?_)
        refine X4_firstOfNote_25 (k := ?_)
        refine ih ?_
        unfold z_any
        rw [z, decide_eq_false (show ¬ tN A i = v from k17)]
        rfl
      · rw [z_fst_hit z (decide_eq_true (show tN A i = v from k17)) hi] at h
        refine X4_firstOfNote_20 (k := ?_)
        refine X4_firstOfNote_21 (hq := ?_)
        exact h
theorem s4_pipesToFetch {Q : Int → z_M → Prop} (hb : z_cl b = 4) {x n j : Nat} {C : Nat → Bool} {hr : Int} {K W Y tn : Nat → Int} (hA : wfA A P L) (hI : stC I b A P L hr K W Y tn) (hH : rpH I b A) (hx : x < 3) (hj : j < 13) (hn : A (62 + 9 * x) = n) (h1 : okT A P C x ((j : Int) - 6) n → Q (z_bs (tP A P C x ((j : Int) - 6) n) P : Nat) I) (h0 : ¬ okT A P C x ((j : Int) - 6) n → Q (-1) I) : CX4_pipesToFetch [aR b, aI x, aI ((j : Int) - 6), aL (pN A C P : Nat)] I Q := by
  obtain ⟨o1, o2, o3, o4, o5, o6, o7, o8, o9, o10, n1, n2, n3, n4, n5, n6, n7, n8, n10⟩ := z_o hb
  obtain ⟨f1, f2, f3⟩ := hH x hx
  have hP := hA.2.2.1
  rw [hn] at f1 f2
  refine eX4_pipesToFetch ?_
  refine X4_pipesToFetch_0 (k := ?_)
  refine X4_pipesToFetch_1 (k := ?_)
  refine X4_pipesToFetch_3 (k := ?_)
  refine X4_pipesToFetch_4 (k := ?_)
  have := z_for n (fun i => ∀ (v w : z_V), okT A P C x ((j : Int) - 6) i → JX4_pipesToFetch Q 6 [aR b, aI x, aI ((j : Int) - 6), aL (pN A C P : Nat), aU, aI (z_bs (tP A P C x ((j : Int) - 6) i) P : Nat), aI i, v, w] [] I) (by
    intro v w ok
    refine X4_pipesToFetch_6 (k := ?_)
    refine X4_pipesToFetch_8 (k := ?_)
    refine X4_pipesToFetch_9 (k := ?_)
    refine X4_pipesToFetch_12 (k := ?_)
    refine X4_pipesToFetch_13 (k := ?_)
    rw [Int.toNat_natCast, f2]
    refine X4_pipesToFetch_14 (kt := fun k14 => ?_) (kf := fun k14 => ?_)
    · refine X4_pipesToFetch_68 (k := ?_)
      refine X4_pipesToFetch_70 (hq := ?_)
      exact h1 ok
    · omega) (fun i hi ih => by
    intro v w ok
    have hv := (f3 i (by omega)).2
    refine X4_pipesToFetch_6 (k := ?_)
    refine X4_pipesToFetch_8 (k := ?_)
    refine X4_pipesToFetch_9 (k := ?_)
    refine X4_pipesToFetch_12 (k := ?_)
    refine X4_pipesToFetch_13 (k := ?_)
    rw [Int.toNat_natCast, f2]
    refine X4_pipesToFetch_14 (kt := fun k14 => ?_) (kf := fun k14 => ?_)
    · omega
    · refine X4_pipesToFetch_17 (k := ?_)
      refine X4_pipesToFetch_18 (k := ?_)
      refine X4_pipesToFetch_19 (k := ?_)
      refine X4_pipesToFetch_21 (k := ?_)
      refine s4_hymnNote hb hH hx (by omega) ?_
      refine X4_pipesToFetch_24 (k := ?_)
      refine X4_pipesToFetch_25 (k := ?_)
      refine X4_pipesToFetch_26 (k := ?_)
      refine X4_pipesToFetch_28 (k := ?_)
      refine X4_pipesToFetch_29 (k := ?_)
      refine X4_pipesToFetch_31 (k := ?_)
      obtain ⟨y, hy⟩ : ∃ y, y = A (63 + 9 * x + i) + ((j : Int) - 6) := ⟨_, rfl⟩
      rw [← hy]
      refine s10_hasNote hA (fun z => ?_) (fun z => ?_)
      · have e : z_bs (tP A P C x ((j : Int) - 6) (i + 1)) P = z_bs (tP A P C x ((j : Int) - 6) i) P := z_bs_c P (fun p hp => by
          rw [tP_s]
          by_cases q : A (63 + 9 * x + i) + ((j : Int) - 6) = tN A p
          · rw [← q, ← hy, z]
            simp
          · rw [decide_eq_false q]
            simp)
        refine X4_pipesToFetch_34 (kt := fun k34 => ?_) (kf := fun k34 => ?_)
        · refine X4_pipesToFetch_62 (k := ?_)
          refine X4_pipesToFetch_65 (k := ?_)
          rw [e] at ih
          refine ih _ _ (fun k hk => ?_)
          by_cases q : k = i
          · subst q
            rw [← hy]
            exact Or.inl z
          · exact ok k (by omega)
        · omega
      · refine X4_pipesToFetch_34 (kt := fun k34 => ?_) (kf := fun k34 => ?_)
        · omega
        · refine X4_pipesToFetch_37 (k := ?_)
          refine X4_pipesToFetch_38 (k := ?_)
          refine X4_pipesToFetch_40 (k := ?_)
          refine s4_firstOfNote hb hP hI ?_
          by_cases q : ∃ p, p < P ∧ tN A p = y
          · obtain ⟨p, hp, q1⟩ := q
            obtain ⟨f, g1, g2, g3⟩ := tF_hit hp q1
            rw [g1]
            have hz : z_bs (tP A P C x ((j : Int) - 6) i) P ||| 2 ^ f = z_bs (tP A P C x ((j : Int) - 6) (i + 1)) P := by
              refine z_bs_of (Nat.or_lt_two_pow (z_bs_lt _ _) (Nat.pow_lt_pow_right (by decide) (by omega))) (fun r hr => ?_)
              rw [Nat.testBit_or, z_bs_tb, decide_eq_true hr, Bool.true_and, Nat.testBit_two_pow, tP_s]
              congr 1
              rw [← hy]
              by_cases w : f = r
              · subst w
                rw [g3, g1, z, decide_eq_true rfl]
                simp
              · rw [decide_eq_false w]
                by_cases w2 : y = tN A r
                · rw [← w2, g1, decide_eq_false (show ¬ ((f : Int) = (r : Int)) by omega)]
                  rfl
                · rw [decide_eq_false w2]
                  simp
            refine X4_pipesToFetch_43 (k := ?_)
            refine X4_pipesToFetch_45 (k := ?_)
            refine X4_pipesToFetch_47 (k := ?_)
            refine X4_pipesToFetch_48 (kt := fun k48 => ?_) (kf := fun k48 => ?_)
            · refine X4_pipesToFetch_53 (k := ?_)
              refine X4_pipesToFetch_55 (k := ?_)
              refine X4_pipesToFetch_56 (k := ?_)
              refine X4_pipesToFetch_58 (k := ?_)
              refine X4_pipesToFetch_59 (k := ?_)
              rw [zor_M, Int.toNat_natCast, hz]
              refine X4_pipesToFetch_60 (k := ?_)
              refine X4_pipesToFetch_62 (k := ?_)
              refine X4_pipesToFetch_65 (k := ?_)
              refine ih _ _ (fun k hk => ?_)
              by_cases q : k = i
              · subst q
                rw [← hy]
                exact Or.inr ⟨p, hp, q1⟩
              · exact ok k (by omega)
            · omega
          · have q' : ∀ p, p < P → tN A p ≠ y := fun p hp e => q ⟨p, hp, e⟩
            rw [tF_none q']
            refine X4_pipesToFetch_43 (k := ?_)
            refine X4_pipesToFetch_45 (k := ?_)
            refine X4_pipesToFetch_47 (k := ?_)
            refine X4_pipesToFetch_48 (kt := fun k48 => ?_) (kf := fun k48 => ?_)
            · omega
            · refine X4_pipesToFetch_51 (k := ?_)
              refine X4_pipesToFetch_52 (hq := ?_)
              refine h0 (fun ok2 => ?_)
              rcases ok2 i hi with w | ⟨p, hp, w⟩
              · rw [← hy, z] at w
                cases w
              · exact q' p hp (by rw [hy]; exact w)) 0 (Nat.zero_le _)
  have t := this aU aU (fun k hk => absurd hk (Nat.not_lt_zero k))
  rw [show z_bs (tP A P C x ((j : Int) - 6) 0) P = 0 from z_bs_0.mpr (z_any_f.mpr (fun p hp => by unfold tP z_any; simp))] at t
  exact t
def bst (P : Nat) (S : Nat → Prop) (r : Int) : Prop := (r = -1 ∧ ∀ s, ¬ S s) ∨ ∃ s : Nat, r = s ∧ S s ∧ s < 2 ^ P ∧ ∀ t, S t → lq P s t
theorem lq_tr {s t u : Nat} (h1 : lq P s t) (h2 : lq P t u) : lq P s u := by
  unfold lq at *
  omega
theorem lq_rf {s : Nat} : lq P s s := Or.inr ⟨rfl, Nat.le_refl s⟩
theorem bst_un {S T : Nat → Prop} {r q : Int} (h1 : bst P S r) (h2 : bst P T q) (hST : ∀ s, S s → ∃ t, T t ∧ lq P t s) (hTS : ∀ t, T t → S t) : r = q := by
  rcases h1 with ⟨a, b⟩ | ⟨s, a, b, a2, c⟩ <;> rcases h2 with ⟨d, e⟩ | ⟨t, d, e, d2, f⟩
  · omega
  · exact absurd (hTS t e) (b t)
  · obtain ⟨u, u1, _⟩ := hST s b
    exact absurd u1 (e u)
  · obtain ⟨u, u1, u2⟩ := hST s b
    have h3 := lq_tr (f u u1) u2
    have h4 := c t (hTS t e)
    unfold lq at h3 h4
    omega
theorem s10_isFewer {Q : Int → z_M → Prop} {s t : Nat} (hP : P ≤ 8) (hs : s < 2 ^ P) (ht : t < 2 ^ P) (h1 : ¬ lq P t s → Q 1 I) (h0 : lq P t s → Q 0 I) : CX10_isFewer [aI s, aI t] I Q := by
  have h8 : 2 ^ P ≤ 2 ^ 8 := Nat.pow_le_pow_right (by decide) hP
  have es : s = z_bs (Nat.testBit s) P := z_bs_of hs (fun _ _ => rfl)
  have et : t = z_bs (Nat.testBit t) P := z_bs_of ht (fun _ _ => rfl)
  have bs : bC s = z_cnt (Nat.testBit s) P := by
    have := bC_bs P (Nat.testBit s) hP
    rw [← es] at this
    exact this
  have bt : bC t = z_cnt (Nat.testBit t) P := by
    have := bC_bs P (Nat.testBit t) hP
    rw [← et] at this
    exact this
  have c1 := z_cnt_le (Nat.testBit s) P
  have c2 := z_cnt_le (Nat.testBit t) P
  unfold lq at h1 h0
  refine eX10_isFewer ?_
  refine X10_isFewer_0 (k := ?_)
  refine X10_isFewer_1 (k := ?_)
  refine j6_bitCount (by omega) ?_
  rw [bs]
  refine X10_isFewer_4 (k := ?_)
  refine X10_isFewer_5 (k := ?_)
  refine X10_isFewer_6 (k := ?_)
  refine j6_bitCount (by omega) ?_
  rw [bt]
  refine X10_isFewer_9 (k := ?_)
  refine X10_isFewer_10 (k := ?_)
  refine X10_isFewer_11 (k := ?_)
  refine X10_isFewer_12 (kt := fun k12 => ?_) (kf := fun k12 => ?_)
  · refine X10_isFewer_25 (k := ?_)
    refine X10_isFewer_26 (k := ?_)
    refine X10_isFewer_30 (hq := ?_)
    exact h1 (by omega)
  · refine X10_isFewer_15 (k := ?_)
    refine X10_isFewer_16 (k := ?_)
    refine X10_isFewer_17 (kt := fun k17 => ?_) (kf := fun k17 => ?_)
    · refine X10_isFewer_29 (k := ?_)
      refine X10_isFewer_30 (hq := ?_)
      exact h0 (by omega)
    · refine X10_isFewer_20 (k := ?_)
      refine X10_isFewer_21 (k := ?_)
      refine X10_isFewer_22 (kt := fun k22 => ?_) (kf := fun k22 => ?_)
      · refine X10_isFewer_29 (k := ?_)
        refine X10_isFewer_30 (hq := ?_)
        exact h0 (by omega)
      · refine X10_isFewer_25 (k := ?_)
        refine X10_isFewer_26 (k := ?_)
        refine X10_isFewer_30 (hq := ?_)
        exact h1 (by omega)
theorem lq_tot {s t : Nat} (h : ¬ lq P s t) : lq P t s := by
  unfold lq at *
  omega
theorem bst_1 {S S' : Nat → Prop} {r : Int} {t : Nat} (h : bst P S r) (hr : r = -1) (hS : ∀ s, S' s ↔ S s ∨ s = t) (ht : t < 2 ^ P) : bst P S' (t : Int) := by
  rcases h with ⟨a, b⟩ | ⟨s, a, b, a2, c⟩
  · refine Or.inr ⟨t, rfl, (hS t).mpr (Or.inr rfl), ht, fun u hu => ?_⟩
    rcases (hS u).mp hu with h | h
    · exact absurd h (b u)
    · rw [h]
      exact lq_rf
  · omega
theorem bst_2 {S S' : Nat → Prop} {s t : Nat} (h : bst P S (s : Int)) (hS : ∀ s, S' s ↔ S s ∨ s = t) (ht : t < 2 ^ P) (hl : ¬ lq P s t) : bst P S' (t : Int) := by
  rcases h with ⟨a, b⟩ | ⟨s', a, b, a2, c⟩
  · omega
  · have : s' = s := by omega
    subst this
    refine Or.inr ⟨t, rfl, (hS t).mpr (Or.inr rfl), ht, fun u hu => ?_⟩
    rcases (hS u).mp hu with h | h
    · exact lq_tr (lq_tot hl) (c u h)
    · rw [h]
      exact lq_rf
theorem bst_3 {S S' : Nat → Prop} {s t : Nat} (h : bst P S (s : Int)) (hS : ∀ s, S' s ↔ S s ∨ s = t) (hl : lq P s t) : bst P S' (s : Int) := by
  rcases h with ⟨a, b⟩ | ⟨s', a, b, a2, c⟩
  · omega
  · have : s' = s := by omega
    subst this
    refine Or.inr ⟨s', rfl, (hS s').mpr (Or.inl b), a2, fun u hu => ?_⟩
    rcases (hS u).mp hu with h | h
    · exact c u h
    · rw [h]
      exact hl
theorem bst_4 {S S' : Nat → Prop} {r : Int} (h : bst P S r) (hS : ∀ s, S' s ↔ S s) : bst P S' r := by
  rcases h with ⟨a, b⟩ | ⟨s, a, b, a2, c⟩
  · exact Or.inl ⟨a, fun s hs => b s ((hS s).mp hs)⟩
  · exact Or.inr ⟨s, a, (hS s).mpr b, a2, fun t ht => c t ((hS t).mp ht)⟩
theorem z_dis {C : Nat → Bool} {s : Nat} (hs : s < 2 ^ P) : (s &&& z_bs C P = 0) ↔ ∀ p, p < P → Nat.testBit s p = true → C p = false := by
  constructor
  · intro h p hp h1
    have := congrArg (fun m => Nat.testBit m p) h
    rw [Nat.testBit_and, z_bs_tb, decide_eq_true hp, h1, Nat.zero_testBit] at this
    simpa using this
  · intro h
    apply Nat.eq_of_testBit_eq
    intro p
    rw [Nat.testBit_and, z_bs_tb, Nat.zero_testBit]
    by_cases z : p < P
    · cases e : Nat.testBit s p
      · rfl
      · rw [h p z e]
        simp
    · rw [decide_eq_false z]
      simp
theorem t_fetchAll {Q : Int → Int → z_M → Prop} {x0 : Int} (h : RR I) (hq : ∀ r I', RR I' → Q r r I') : CX10_fetchAll [aR 0, aI x0] I (fun r I1 => CX11_fetchAll [aR 60, aI x0] I1 (fun r' I2 => Q r r' I2)) := by
  obtain ⟨⟨P, L, hx⟩, -⟩ := id h
  have hx : rpx I 8 (I 61) P L := hx
  have hA := rpx_A hx
  have hP := hA.2.2.1
  have h8 : 2 ^ P ≤ 2 ^ 8 := Nat.pow_le_pow_right (by decide) hP
  have hC := rpx_C hx
  have hH := hx.2.1
  have ref : ∀ (I1 : z_M) (r : Int), I1 61 = I 61 → (∀ x : Nat, x0 = x → x < 3 → ∀ I2 r', smM I1 I2 → bst P (inS (I 61) P (cC (I 61)) x) r' → Q r r' I2) → (¬ (0 ≤ x0 ∧ x0 ≤ 2) → Q r (-2) (z_up I1 64 0 (i32 (I1 64 0 + 1)))) → CX11_fetchAll [aR 60, aI x0] I1 (fun r' I2 => Q r r' I2) := by
    intro I1 r e1 g1 g0
    refine eX11_fetchAll ?_
    refine X11_fetchAll_0 (k := ?_)
    refine X11_fetchAll_1 (k := ?_)
    refine s11_isHymn (fun u1 u1b => ?_) (fun u1 => ?_)
    · refine X11_fetchAll_4 (kt := fun _ => ?_) (kf := fun z => absurd z (by decide))
      obtain ⟨x, rfl⟩ : ∃ x : Nat, x0 = x := ⟨x0.toNat, by omega⟩
      have g1 := g1 x rfl (by omega)
      have hx3 : x < 3 := by omega
      refine X11_fetchAll_14 (k := ?_)
      refine X11_fetchAll_15 (k := ?_)
      refine s11_churchNow hA e1 (fun I2 hs => ?_)
      have e2 : I2 61 = I 61 := (hs.1 61 (by omega)).trans e1
      rw [show (fun p => decide (wA (I 61) p = -1)) = cC (I 61) from rfl]
      obtain ⟨C, hCe⟩ : ∃ C, C = cC (I 61) := ⟨_, rfl⟩
      rw [← hCe] at g1 ⊢
      have hcb := z_bs_lt C P
      refine X11_fetchAll_18 (k := ?_)
      refine X11_fetchAll_19 (k := ?_)
      refine X11_fetchAll_20 (k := ?_)
      refine X11_fetchAll_21 (k := ?_)
      refine X11_fetchAll_22 (k := ?_)
      have := z_for (2 ^ P) (fun i => ∀ (v : z_V) (r' : Int), bst P (fun s => s < i ∧ inS (I 61) P C x s) r' → JX11_fetchAll (fun r' I2 => Q r r' I2) 24 [aR 60, aI x, aI (z_bs C P : Nat), aI r', aI i, v] [] I2) (by
        intro v r' hb
        refine X11_fetchAll_24 (k := ?_)
        refine X11_fetchAll_26 (k := ?_)
        refine X11_fetchAll_27 (k := ?_)
        refine X11_fetchAll_28 (k := ?_)
        refine s11_pipes ?_
        rw [e2, hA.1]
        refine X11_fetchAll_31 (k := ?_)
        rw [zshl_1]
        refine X11_fetchAll_32 (kt := fun k32 => ?_) (kf := fun k32 => ?_)
        · refine X11_fetchAll_96 (k := ?_)
          refine X11_fetchAll_97 (hq := ?_)
          exact g1 I2 r' hs (bst_4 hb (fun s => ⟨fun w => ⟨w.1, w⟩, fun w => w.2⟩))
        · omega) (fun i hi ih => by
        intro v r' hb
        have ei : i = z_bs (Nat.testBit i) P := z_bs_of hi (fun _ _ => rfl)
        have hbr : -1 ≤ r' ∧ r' < 256 := by
          rcases hb with ⟨a, b⟩ | ⟨s, a, b, a2, c⟩ <;> omega
        have hSi : ∀ s, (s < i + 1 ∧ inS (I 61) P C x s) ↔ (s < i ∧ inS (I 61) P C x s) ∨ (s = i ∧ inS (I 61) P C x s) := fun s => by
          constructor
          · rintro ⟨w1, w2⟩
            by_cases z : s = i
            · exact Or.inr ⟨z, w2⟩
            · exact Or.inl ⟨by omega, w2⟩
          · rintro (⟨w1, w2⟩ | ⟨w1, w2⟩)
            · exact ⟨by omega, w2⟩
            · exact ⟨by omega, w2⟩
        have skip_ : (¬ inS (I 61) P C x i ∨ ∃ s : Nat, r' = s ∧ lq P s i) → ∀ v, JX11_fetchAll (fun r' I2 => Q r r' I2) 24 [aR 60, aI x, aI (z_bs C P : Nat), aI r', aI ((i : Int) + 1), v] [] I2 := by
          intro z v
          refine ih v r' ?_
          by_cases w : inS (I 61) P C x i
          · rcases z with z | ⟨s, z1, z2⟩
            · exact absurd w z
            · subst z1
              exact bst_3 hb (t := i) (fun s => by rw [hSi s]; exact ⟨fun q => q.elim Or.inl (fun q => Or.inr q.1), fun q => q.elim Or.inl (fun q => Or.inr ⟨q, q ▸ w⟩)⟩) z2
          · exact bst_4 hb (fun s => by rw [hSi s]; exact ⟨fun q => q.elim id (fun q => absurd (q.1 ▸ q.2) w), Or.inl⟩)
        have isF : ∀ (t : z_V → z_V), True := fun _ => trivial
        -- whole or not, once it is better
        have better : (∀ p, p < P → Nat.testBit i p = true → C p = false) → (∀ s : Nat, r' = s → ¬ lq P s i) → JX11_fetchAll (fun r' I2 => Q r r' I2) 66 [aR 60, aI x, aI (z_bs C P : Nat), aI r', aI i, aI 1] [] I2 := by
          intro hd hl
          refine X11_fetchAll_66 (k := ?_)
          refine X11_fetchAll_68 (kt := fun k68 => ?_) (kf := fun k68 => ?_)
          · omega
          · refine X11_fetchAll_71 (k := ?_)
            refine X11_fetchAll_72 (k := ?_)
            refine X11_fetchAll_73 (k := ?_)
            refine X11_fetchAll_74 (k := ?_)
            refine X11_fetchAll_76 (k := ?_)
            have eor : zor (z_bs C P : Nat) (i : Int) = ((z_bs (fun p => C p || Nat.testBit i p) P : Nat) : Int) := by
              unfold zor
              rw [Int.toNat_natCast, Int.toNat_natCast]
              refine congrArg _ (z_bs_of (Nat.or_lt_two_pow hcb hi) (fun p hp => ?_))
              rw [Nat.testBit_or, z_bs_tb, decide_eq_true hp, Bool.true_and]
            rw [eor]
            refine X11_fetchAll_77 (k := ?_)
            refine s11_isWhole (C := fun p => C p || Nat.testBit i p) rfl hA e2 (rpH_w hH) hx3 (fun w => ?_) (fun w => ?_)
            · have hin : inS (I 61) P C x i := ⟨hi, hd, w⟩
              have hSS : ∀ s, (s < i + 1 ∧ inS (I 61) P C x s) ↔ (s < i ∧ inS (I 61) P C x s) ∨ s = i := fun s => by
                rw [hSi s]
                exact ⟨fun q => q.elim Or.inl (fun q => Or.inr q.1), fun q => q.elim Or.inl (fun q => Or.inr ⟨q, q ▸ hin⟩)⟩
              refine X11_fetchAll_80 (kt := fun k80 => ?_) (kf := fun k80 => ?_)
              · omega
              · refine X11_fetchAll_83 (k := ?_)
                refine X11_fetchAll_85 (k := ?_)
                refine X11_fetchAll_89 (k := ?_)
                refine X11_fetchAll_90 (k := ?_)
                refine X11_fetchAll_93 (k := ?_)
                refine ih _ _ ?_
                by_cases z : r' = -1
                · exact bst_1 hb z hSS hi
                · obtain ⟨s, rfl⟩ : ∃ s : Nat, r' = s := ⟨r'.toNat, by omega⟩
                  exact bst_2 hb hSS hi (hl s rfl)
            · refine X11_fetchAll_80 (kt := fun k80 => ?_) (kf := fun k80 => ?_)
              · refine X11_fetchAll_88 (k := ?_)
                refine X11_fetchAll_89 (k := ?_)
                refine X11_fetchAll_90 (k := ?_)
                refine X11_fetchAll_93 (k := ?_)
                exact skip_ (Or.inl (fun q => by rw [q.2.2] at w; cases w)) _
              · omega
        have worse : (¬ inS (I 61) P C x i ∨ ∃ s : Nat, r' = s ∧ lq P s i) → JX11_fetchAll (fun r' I2 => Q r r' I2) 66 [aR 60, aI x, aI (z_bs C P : Nat), aI r', aI i, aI 0] [] I2 := by
          intro z
          refine X11_fetchAll_66 (k := ?_)
          refine X11_fetchAll_68 (kt := fun k68 => ?_) (kf := fun k68 => ?_)
          · refine X11_fetchAll_88 (k := ?_)
            refine X11_fetchAll_89 (k := ?_)
            refine X11_fetchAll_90 (k := ?_)
            refine X11_fetchAll_93 (k := ?_)
            exact skip_ z _
          · omega
        refine X11_fetchAll_24 (k := ?_)
        refine X11_fetchAll_26 (k := ?_)
        refine X11_fetchAll_27 (k := ?_)
        refine X11_fetchAll_28 (k := ?_)
        refine s11_pipes ?_
        rw [e2, hA.1]
        refine X11_fetchAll_31 (k := ?_)
        rw [zshl_1]
        refine X11_fetchAll_32 (kt := fun k32 => ?_) (kf := fun k32 => ?_)
        · omega
        · refine X11_fetchAll_35 (k := ?_)
          refine X11_fetchAll_37 (k := ?_)
          refine X11_fetchAll_38 (k := ?_)
          rw [zand_n]
          refine X11_fetchAll_39 (kt := fun k39 => ?_) (kf := fun k39 => ?_)
          · refine X11_fetchAll_63 (k := ?_)
            refine X11_fetchAll_64 (k := ?_)
            refine worse (Or.inl (fun q => ?_))
            have := (z_dis (C := C) hi).mpr q.2.1
            omega
          · have hd := (z_dis (C := C) hi).mp (by omega)
            refine X11_fetchAll_42 (k := ?_)
            refine X11_fetchAll_43 (k := ?_)
            refine X11_fetchAll_44 (kt := fun k44 => ?_) (kf := fun k44 => ?_)
            · refine X11_fetchAll_59 (k := ?_)
              refine X11_fetchAll_60 (k := ?_)
              refine X11_fetchAll_64 (k := ?_)
              exact better hd (fun s z => by omega)
            · obtain ⟨s, rfl⟩ : ∃ s : Nat, r' = s := ⟨r'.toNat, by omega⟩
              have hs2 : s < 2 ^ P ∧ s < i := by
                rcases hb with ⟨a, b⟩ | ⟨s', a, b, a2, c⟩
                · omega
                · have := b.1
                  omega
              have es : s = z_bs (Nat.testBit s) P := z_bs_of hs2.1 (fun _ _ => rfl)
              refine X11_fetchAll_47 (k := ?_)
              refine X11_fetchAll_49 (k := ?_)
              refine s11_bits (c := Nat.testBit i) (n := P) (by rw [← ei]) (by omega) ?_
              refine X11_fetchAll_52 (k := ?_)
              refine X11_fetchAll_53 (k := ?_)
              refine s11_bits (c := Nat.testBit s) (n := P) (by rw [← es]) (by omega) ?_
              refine X11_fetchAll_56 (kt := fun k56 => ?_) (kf := fun k56 => ?_)
              · refine X11_fetchAll_63 (k := ?_)
                refine X11_fetchAll_64 (k := ?_)
                refine worse (Or.inr ⟨s, rfl, ?_⟩)
                unfold lq
                omega
              · refine X11_fetchAll_59 (k := ?_)
                refine X11_fetchAll_60 (k := ?_)
                refine X11_fetchAll_64 (k := ?_)
                refine better hd (fun s' z => ?_)
                have : s' = s := by omega
                subst this
                unfold lq
                omega) 0 (Nat.zero_le _)
      exact this aU (-1) (Or.inl ⟨rfl, fun s q => absurd q.1 (Nat.not_lt_zero s)⟩)
    · refine X11_fetchAll_4 (kt := fun z => absurd z (by decide)) (kf := fun _ => ?_)
      refine X11_fetchAll_7 (k := ?_)
      refine X11_fetchAll_8 (k := ?_)
      refine X11_fetchAll_10 (k := ?_)
      refine s11_bad ?_
      refine X11_fetchAll_13 (hq := ?_)
      exact g0 (by omega)
  refine eX10_fetchAll ?_
  refine X10_fetchAll_0 (k := ?_)
  refine X10_fetchAll_1 (k := ?_)
  refine s10_isHymn (fun u1 u1b => ?_) (fun u1 => ?_)
  · refine X10_fetchAll_4 (kt := fun _ => ?_) (kf := fun z => absurd z (by decide))
    obtain ⟨x, rfl⟩ : ∃ x : Nat, x0 = x := ⟨x0.toNat, by omega⟩
    have hx3 : x < 3 := by omega
    obtain ⟨n, hn⟩ : ∃ n : Nat, I 61 (62 + 9 * x) = n := ⟨(I 61 (62 + 9 * x)).toNat, by have := (hH x hx3).1; omega⟩
    refine X10_fetchAll_12 (k := ?_)
    refine X10_fetchAll_13 (k := ?_)
    refine X10_fetchAll_16 (k := ?_)
    refine s4_notesInChurch rfl hA hC ?_
    rw [show (fun p => decide ((sA (I 61)).2.1 p = -1)) = cC (I 61) from rfl]
    refine X10_fetchAll_19 (k := ?_)
    refine X10_fetchAll_20 (k := ?_)
    refine X10_fetchAll_21 (k := ?_)
    refine X10_fetchAll_23 (k := ?_)
    refine X10_fetchAll_25 (k := ?_)
    obtain ⟨T, hT⟩ : ∃ T : Nat → Nat, T = fun (j : Nat) => z_bs (tP (I 61) P (cC (I 61)) x ((j : Int) - 6) n) P := ⟨_, rfl⟩
    have hTj : ∀ j : Nat, z_bs (tP (I 61) P (cC (I 61)) x ((j : Int) - 6) n) P = T j := fun j => by rw [hT]
    have hT2 : ∀ j, T j < 2 ^ P := fun j => by rw [← hTj]; exact z_bs_lt _ _
    have := z_for 13 (fun i => ∀ (v : z_V) (r : Int), bst P (fun s => ∃ j, j < i ∧ okT (I 61) P (cC (I 61)) x ((j : Int) - 6) n ∧ s = T j) r → JX10_fetchAll (fun r I1 => CX11_fetchAll [aR 60, aI x] I1 (fun r' I2 => Q r r' I2)) 27 [aR 0, aI x, aL (pN (I 61) (cC (I 61)) P : Nat), aU, aI r, aI ((i : Int) - 6), v] [] I) (by
      intro v r hb
      refine X10_fetchAll_27 (k := ?_)
      refine X10_fetchAll_29 (k := ?_)
      refine X10_fetchAll_31 (kt := fun k31 => ?_) (kf := fun k31 => ?_)
      · refine X10_fetchAll_79 (k := ?_)
        refine X10_fetchAll_81 (hq := ?_)
        refine ref _ _ rfl (fun x' z z1 I2 r' hs hb' => ?_) (fun z => by omega)
        have : x' = x := by omega
        subst this
        have : r' = r := bst_un hb' hb (fun s q => by
          obtain ⟨j, hj, ok, hl⟩ := tP_lq (wfA_n hA) hn q
          exact ⟨T j, ⟨j, hj, ok, rfl⟩, by rw [← hTj]; exact hl⟩) (fun t q => by
          obtain ⟨j, hj, ok, rfl⟩ := q
          rw [← hTj]
          exact tP_in hn hj ok)
        rw [this]
        exact hq _ _ (RR_M h hs)
      · omega) (fun i hi ih => by
      intro v r hb
      have hbr : -1 ≤ r ∧ r < 256 := by
        rcases hb with ⟨a, b⟩ | ⟨s, a, b, a2, c⟩ <;> omega
      have hSi : ∀ s, (∃ j, j < i + 1 ∧ okT (I 61) P (cC (I 61)) x ((j : Int) - 6) n ∧ s = T j) ↔ (∃ j, j < i ∧ okT (I 61) P (cC (I 61)) x ((j : Int) - 6) n ∧ s = T j) ∨ (okT (I 61) P (cC (I 61)) x ((i : Int) - 6) n ∧ s = T i) := fun s => by
        constructor
        · rintro ⟨j, w1, w2⟩
          by_cases z : j = i
          · exact Or.inr (z ▸ w2)
          · exact Or.inl ⟨j, by omega, w2⟩
        · rintro (⟨j, w1, w2⟩ | w2)
          · exact ⟨j, by omega, w2⟩
          · exact ⟨i, by omega, w2⟩
      have step : ∀ (v : z_V) (r : Int), bst P (fun s => ∃ j, j < i + 1 ∧ okT (I 61) P (cC (I 61)) x ((j : Int) - 6) n ∧ s = T j) r → JX10_fetchAll (fun r I1 => CX11_fetchAll [aR 60, aI x] I1 (fun r' I2 => Q r r' I2)) 27 [aR 0, aI x, aL (pN (I 61) (cC (I 61)) P : Nat), aU, aI r, aI ((i : Int) - 6 + 1), v] [] I := by
        intro v r hb
        rw [show (i : Int) - 6 + 1 = ((i + 1 : Nat) : Int) - 6 by omega]
        exact ih v r hb
      refine X10_fetchAll_27 (k := ?_)
      refine X10_fetchAll_29 (k := ?_)
      refine X10_fetchAll_31 (kt := fun k31 => ?_) (kf := fun k31 => ?_)
      · omega
      · refine X10_fetchAll_34 (k := ?_)
        refine X10_fetchAll_35 (k := ?_)
        refine X10_fetchAll_38 (k := ?_)
        refine X10_fetchAll_39 (k := ?_)
        refine X10_fetchAll_41 (k := ?_)
        refine X10_fetchAll_42 (k := ?_)
        refine s4_pipesToFetch rfl hA hC hH hx3 hi hn (fun ok => ?_) (fun ok => ?_)
        · rw [hTj]
          have hS' : ∀ s, (∃ j, j < i + 1 ∧ okT (I 61) P (cC (I 61)) x ((j : Int) - 6) n ∧ s = T j) ↔ (∃ j, j < i ∧ okT (I 61) P (cC (I 61)) x ((j : Int) - 6) n ∧ s = T j) ∨ s = T i := fun s => by
            rw [hSi s]
            exact ⟨fun q => q.elim Or.inl (fun q => Or.inr q.2), fun q => q.elim Or.inl (fun q => Or.inr ⟨ok, q⟩)⟩
          have hTi := hT2 i
          refine X10_fetchAll_45 (k := ?_)
          refine X10_fetchAll_47 (k := ?_)
          refine X10_fetchAll_49 (k := ?_)
          refine X10_fetchAll_50 (kt := fun k50 => ?_) (kf := fun k50 => ?_)
          · omega
          · refine X10_fetchAll_53 (k := ?_)
            refine X10_fetchAll_55 (k := ?_)
            refine X10_fetchAll_56 (kt := fun k56 => ?_) (kf := fun k56 => ?_)
            · refine X10_fetchAll_69 (k := ?_)
              refine X10_fetchAll_71 (k := ?_)
              refine X10_fetchAll_73 (k := ?_)
              refine X10_fetchAll_76 (k := ?_)
              exact step _ _ (bst_1 hb (by omega) hS' hTi)
            · obtain ⟨s, rfl⟩ : ∃ s : Nat, r = s := ⟨r.toNat, by omega⟩
              have hs2 : s < 2 ^ P := by
                rcases hb with ⟨a, b⟩ | ⟨s', a, b, a2, c⟩ <;> omega
              refine X10_fetchAll_59 (k := ?_)
              refine X10_fetchAll_61 (k := ?_)
              refine X10_fetchAll_63 (k := ?_)
              refine s10_isFewer hP hTi hs2 (fun z => ?_) (fun z => ?_)
              · refine X10_fetchAll_66 (kt := fun k66 => ?_) (kf := fun k66 => ?_)
                · omega
                · refine X10_fetchAll_69 (k := ?_)
                  refine X10_fetchAll_71 (k := ?_)
                  refine X10_fetchAll_73 (k := ?_)
                  refine X10_fetchAll_76 (k := ?_)
                  exact step _ _ (bst_2 hb hS' hTi z)
              · refine X10_fetchAll_66 (kt := fun k66 => ?_) (kf := fun k66 => ?_)
                · refine X10_fetchAll_73 (k := ?_)
                  refine X10_fetchAll_76 (k := ?_)
                  exact step _ _ (bst_3 hb hS' z)
                · omega
        · refine X10_fetchAll_45 (k := ?_)
          refine X10_fetchAll_47 (k := ?_)
          refine X10_fetchAll_49 (k := ?_)
          refine X10_fetchAll_50 (kt := fun k50 => ?_) (kf := fun k50 => ?_)
          · refine X10_fetchAll_73 (k := ?_)
            refine X10_fetchAll_76 (k := ?_)
            refine step _ _ (bst_4 hb (fun s => ?_))
            rw [hSi s]
            exact ⟨fun q => q.elim id (fun q => absurd q.1 ok), Or.inl⟩
          · omega) 0 (by decide)
    exact this aU (-1) (Or.inl ⟨rfl, fun s q => by obtain ⟨j, hj, _⟩ := q; exact absurd hj (Nat.not_lt_zero j)⟩)
  · refine X10_fetchAll_4 (kt := fun z => absurd z (by decide)) (kf := fun _ => ?_)
    refine X10_fetchAll_7 (k := ?_)
    refine X10_fetchAll_8 (k := ?_)
    refine s10_refuseBad ?_
    refine X10_fetchAll_11 (hq := ?_)
    refine ref _ _ (by rw [z_up_n (by decide)]) (fun x z z1 => by omega) (fun z => ?_)
    exact RR_bad (Q := Q) h (fun I' => hq _ I')
end PS

/-! feast on both sides -/
section PW
variable {I I' : z_M} {b c : Nat} {A A' : Nat → Int} {P L : Nat}
theorem RR_frac {I2 : z_M} {u v : Int} (h : RR I) (e : smM (z_up (z_up I 0 8 u) 0 9 v) I2) : RR (z_up (z_up I2 60 4 u) 60 5 v) := by
  obtain ⟨e1, e2, e3, e4⟩ := e
  have ek : ∀ k, k ≠ 0 → (k < 60 ∨ (61 ≤ k ∧ k ≤ 64) ∨ k = 71) → z_up (z_up I2 60 4 u) 60 5 v k = I k := fun k k1 k2 => by
    rw [z_up_n (by omega), z_up_n (by omega), e1 k k2, z_up_n k1, z_up_n k1]
  have e0 : ∀ j, z_up (z_up I2 60 4 u) 60 5 v 0 j = zu (zu (I 0) 8 u) 9 v j := fun j => by
    rw [z_up_n (by decide), z_up_n (by decide), e1 0 (by decide), z_up_s, z_up_s]
  have e60 : ∀ j, j ≠ 4 → j ≠ 5 → z_up (z_up I2 60 4 u) 60 5 v 60 j = I2 60 j := fun j j1 j2 => by
    rw [z_up_s, zu_n j2, z_up_s, zu_n j1]
  have e604 : z_up (z_up I2 60 4 u) 60 5 v 60 4 = u := by rw [z_up_s, zu_n (by decide), z_up_s, zu_s]
  have e605 : z_up (z_up I2 60 4 u) 60 5 v 60 5 = v := by rw [z_up_s, zu_s]
  rw [z_up_n (by decide), z_up_n (by decide)] at e4
  generalize z_up (z_up I2 60 4 u) 60 5 v = I9 at ek e0 e60 e604 e605 ⊢
  obtain ⟨h1, h2, ⟨n, t1, t2, t3, t4⟩, f1, f2, f3, f4, f5⟩ := h
  refine ⟨?_, fun i hi => ?_, ⟨n, t1, by rw [e60 16 (by decide) (by decide), e4]; exact t2, by rw [ek 54 (by decide) (by decide)]; exact t3, fun k hk => by rw [ek 55 (by decide) (by decide), ek 71 (by decide) (by decide)]; exact t4 k hk⟩, ?_, ?_, ?_, ?_, ?_⟩
  · rw [ek 61 (by decide) (by decide)]
    exact rp_cg h1 (fun k k1 k2 => ek k (by omega) (by omega))
  · rw [ek 53 (by decide) (by decide), ek 62 (by decide) (by decide), ek 63 (by decide) (by decide)]
    obtain ⟨g1, g2, g3⟩ := h2 i hi
    exact ⟨g1, g2, fun z => rp_cg (g3 z) (fun k k1 k2 => ek k (by omega) (by omega))⟩
  · rw [e0, e604, zu_n (by decide), zu_s]
  · rw [e0, e605, zu_s]
  · rw [e0, ek 64 (by decide) (by decide), zu_n (by decide), zu_n (by decide)]
    exact f3
  · rw [e0, ek 64 (by decide) (by decide), zu_n (by decide), zu_n (by decide)]
    exact f4
  · rw [e0, ek 64 (by decide) (by decide), zu_n (by decide), zu_n (by decide)]
    exact f5
theorem okS_iff {C : Nat → Bool} {s : Nat} (hs : s < 2 ^ P) : okS C (Nat.testBit s) P = true ↔ s &&& z_bs C P = 0 := by
  rw [z_dis hs]
  unfold okS
  rw [Bool.not_eq_true', z_any_f]
  constructor
  · intro h p hp w
    have := h p hp
    rw [w, Bool.and_true] at this
    exact this
  · intro h p hp
    cases e : Nat.testBit s p
    · simp
    · rw [h p hp e]
      rfl
theorem hit_iff {C s : Nat → Bool} {x n : Nat} {d : Int} (hA : wfA A P L) (hn : A (62 + 9 * x) = n) (hv : ∀ i, i < n → 0 ≤ A (63 + 9 * x + i) ∧ A (63 + 9 * x + i) ≤ 35) (hd : -6 ≤ d ∧ d ≤ 6) : hit (nT A) (mD A P C x d n) s P = true ↔ pPlays A P (fun p => C p || s p) x d = n := by
  have hN := wfA_n hA
  unfold pPlays hit
  rw [hn, Int.toNat_natCast, z_cnt_all, Bool.not_eq_true', z_any_f]
  constructor
  · intro h i hi
    cases e : pPl A P C (A (63 + 9 * x + i) + d)
    · have hvi := hv i hi
      obtain ⟨u, hu⟩ : ∃ u : Nat, A (63 + 9 * x + i) + d + 6 = u := ⟨(A (63 + 9 * x + i) + d + 6).toNat, by omega⟩
      have hm : mD A P C x d n u = true := z_any_t (c := fun i => decide (A (63 + 9 * x + i) + d + 6 = (u : Int)) && !pPl A P C (A (63 + 9 * x + i) + d)) hi (by rw [e, decide_eq_true hu]; rfl)
      have := h u (by omega)
      rw [hm, Bool.true_and, Bool.not_eq_false'] at this
      obtain ⟨p, hp, w⟩ := z_any_of this
      rw [Bool.and_eq_true] at w
      have w2 := of_decide_eq_true w.2
      have := hN p hp
      refine pPl_t hp (by rw [w.1, Bool.or_true]) ?_
      unfold nT at w2
      unfold tN at w2 ⊢
      omega
    · obtain ⟨p, hp, c1, c2⟩ := pPl_of e
      exact pPl_t hp (by rw [c1]; rfl) c2
  · intro h v hv48
    cases e : mD A P C x d n v
    · rfl
    · obtain ⟨i, hi, w⟩ := z_any_of e
      rw [Bool.and_eq_true] at w
      have w1 := of_decide_eq_true w.1
      have w2 := w.2
      obtain ⟨p, hp, c1, c2⟩ := pPl_of (h i hi)
      rw [Bool.true_and, Bool.not_eq_false']
      refine z_any_t (c := fun p => s p && decide (nT A p = v)) hp ?_
      rcases Bool.or_eq_true_iff.mp c1 with c1 | c1
      · rw [pPl_t hp c1 c2] at w2
        cases w2
      · rw [c1, decide_eq_true (show nT A p = v by unfold nT; omega)]
        rfl
theorem z_bs_not (C : Nat → Bool) : ∀ n, z_bs C n + z_bs (fun p => !C p) n + 1 = 2 ^ n
  | 0 => rfl
  | n + 1 => by
    have := z_bs_not C n
    unfold z_bs
    rw [Nat.pow_succ]
    cases C n <;> simp <;> omega
theorem wS_le {C s : Nat → Bool} {c q : Nat} (hc : c ≤ 10) (hq : q ≤ 10) : ∀ n, wS C c q s n ≤ 10 ^ n
  | 0 => Nat.le_refl 1
  | n + 1 => by
    rw [wS, Nat.pow_succ]
    refine Nat.mul_le_mul (wS_le hc hq n) ?_
    split
    · decide
    · split <;> omega
theorem z_sum_bd {f : Nat → Nat} {B : Nat} : ∀ n, (∀ i, i < n → f i ≤ B) → z_sum f n ≤ n * B
  | 0, _ => Nat.zero_le _
  | n + 1, h => by
    have h1 := z_sum_bd n (fun i hi => h i (by omega))
    have h2 := h n (by omega)
    rw [z_sum, Nat.succ_mul]
    omega
theorem t_feast {Q : Int → Int → z_M → Prop} {x0 x1 x2 : Int} (h : RR I) (hq : ∀ r I', RR I' → Q r r I') : CX10_feast [aR 0, aI x0, aI x1, aI x2] I (fun r I1 => CX11_feast [aR 60, aI x0, aI x1, aI x2] I1 (fun r' I2 => Q r r' I2)) := by
  obtain ⟨⟨P, L, hx⟩, -⟩ := id h
  have hx : rpx I 8 (I 61) P L := hx
  have hA := rpx_A hx
  have hP := hA.2.2.1
  have hC := rpx_C hx
  have hH := hx.2.1
  have hN := nT_lt hA
  obtain ⟨A, hAe⟩ : ∃ A, A = I 61 := ⟨_, rfl⟩
  rw [← hAe] at hA hC hH hN hx
  have o8 := z_o (show z_cl 8 = 4 from rfl)
  have h8 : 2 ^ P ≤ 2 ^ 8 := Nat.pow_le_pow_right (by decide) hP
  have ref : ∀ (I1 : z_M) (r : Int), I1 61 = A → (∀ x n c : Nat, x0 = x → x < 3 → A (62 + 9 * x) = n → (-6 ≤ x1 ∧ x1 ≤ 6) → x2 = c → c ≤ 10 → ∀ I2, smM I1 I2 → Q r 1 (z_up (z_up I2 60 4 (fG A P (cC A) x x1 (10 - c) n / Nat.gcd (fA A P (cC A) x x1 n) (fG A P (cC A) x x1 (10 - c) n) : Nat)) 60 5 (fA A P (cC A) x x1 n / Nat.gcd (fA A P (cC A) x x1 n) (fG A P (cC A) x x1 (10 - c) n) : Nat))) → (¬ ((0 ≤ x0 ∧ x0 ≤ 2) ∧ (-6 ≤ x1 ∧ x1 ≤ 6) ∧ (0 ≤ x2 ∧ x2 ≤ 10)) → Q r (-2) (z_up I1 64 0 (i32 (I1 64 0 + 1)))) → CX11_feast [aR 60, aI x0, aI x1, aI x2] I1 (fun r' I2 => Q r r' I2) := by
    intro I1 r e1 g1 g0
    refine eX11_feast ?_
    refine X11_feast_0 (k := ?_)
    refine X11_feast_1 (k := ?_)
    refine s11_isHymn (fun u1 u1b => ?_) (fun u1 => ?_)
    · refine X11_feast_4 (kt := fun z => absurd z (by decide)) (kf := fun _ => ?_)
      refine X11_feast_7 (k := ?_)
      refine X11_feast_8 (k := ?_)
      refine s11_isShift (fun u8 u8b => ?_) (fun u8 => ?_)
      · refine X11_feast_11 (kt := fun z => absurd z (by decide)) (kf := fun _ => ?_)
        refine X11_feast_14 (k := ?_)
        refine X11_feast_15 (k := ?_)
        refine X11_feast_16 (k := ?_)
        refine X11_feast_17 (k := ?_)
        refine X11_feast_20 (k := ?_)
        refine s11_in (fun u20 u20b => ?_) (fun u20 => ?_)
        · refine X11_feast_23 (kt := fun _ => ?_) (kf := fun z => absurd z (by decide))
          obtain ⟨x, rfl⟩ : ∃ x : Nat, x0 = x := ⟨x0.toNat, by omega⟩
          obtain ⟨c, rfl⟩ : ∃ x : Nat, x2 = x := ⟨x2.toNat, by omega⟩
          have hx3 : x < 3 := by omega
          have hc10 : c ≤ 10 := by omega
          obtain ⟨h1, h2, h3⟩ := hH x hx3
          obtain ⟨n, hn⟩ : ∃ n : Nat, A (62 + 9 * x) = n := ⟨(A (62 + 9 * x)).toNat, by omega⟩
          have g1 := g1 x n c rfl hx3 hn (by omega) rfl hc10
          have hv : ∀ i, i < n → 0 ≤ A (63 + 9 * x + i) ∧ A (63 + 9 * x + i) ≤ 35 := fun i hi => (h3 i (by omega)).2
          refine X11_feast_33 (k := ?_)
          refine X11_feast_34 (k := ?_)
          refine s11_churchNow hA e1 (fun I2 hs => ?_)
          have e2 : I2 61 = A := (hs.1 61 (by omega)).trans e1
          rw [show (fun p => decide (wA A p = -1)) = cC A from rfl]
          obtain ⟨C, hCe⟩ : ∃ C, C = cC A := ⟨_, rfl⟩
          rw [← hCe] at g1 ⊢
          have hcb := z_bs_lt C P
          have hnb := z_bs_not C P
          refine X11_feast_37 (k := ?_)
          refine X11_feast_39 (k := ?_)
          refine X11_feast_40 (k := ?_)
          refine X11_feast_41 (k := ?_)
          refine s11_pipes ?_
          rw [e2, hA.1]
          refine X11_feast_44 (k := ?_)
          rw [zshl_1]
          refine X11_feast_45 (k := ?_)
          refine X11_feast_46 (k := ?_)
          refine X11_feast_47 (k := ?_)
          refine X11_feast_49 (k := ?_)
          rw [show ((2 ^ P : Nat) : Int) - 1 - (z_bs C P : Nat) = (z_bs (fun p => !C p) P : Nat) by omega]
          refine X11_feast_50 (k := ?_)
          refine X11_feast_52 (k := ?_)
          refine X11_feast_53 (k := ?_)
          refine X11_feast_55 (k := ?_)
          refine X11_feast_56 (k := ?_)
          refine X11_feast_58 (k := ?_)
          refine X11_feast_59 (k := ?_)
          obtain ⟨N, hNe⟩ : ∃ N, N = z_cnt (fun p => !C p) P := ⟨_, rfl⟩
          have hN8 : N ≤ 8 := by
            have := z_cnt_le (fun p => !C p) P
            omega
          have bd : ∀ i, i ≤ 8 → 10 ^ i ≤ 100000000 := fun i hi => Nat.pow_le_pow_right (by decide) hi
          refine z_for N (fun i => JX11_feast (fun r' I2 => Q r r' I2) 61 [aR 60, aI x, aI x1, aI c, aI (z_bs C P : Nat), aI (z_bs (fun p => !C p) P : Nat), aL 0, aU, aL (10 ^ i : Nat), aU, aI i, aU, aU, aU] [] I2) ?_ (fun i hi ih => ?_) 0 (Nat.zero_le _)
          · refine X11_feast_61 (k := ?_)
            refine X11_feast_63 (k := ?_)
            refine X11_feast_65 (k := ?_)
            refine s11_bits rfl (by omega) ?_
            rw [← hNe]
            refine X11_feast_68 (kt := fun k68 => ?_) (kf := fun k68 => ?_)
            · refine X11_feast_85 (k := ?_)
              refine X11_feast_86 (k := ?_)
              have outer := z_for (2 ^ P) (fun s => ∀ (v w u : z_V), JX11_feast (fun r' I2 => Q r r' I2) 88 [aR 60, aI x, aI x1, aI c, aI (z_bs C P : Nat), aI (z_bs (fun p => !C p) P : Nat), aL (z_sum (fun s => if okS C (Nat.testBit s) P && hit (nT A) (mD A P C x x1 n) (Nat.testBit s) P then wS C c (10 - c) (Nat.testBit s) P else 0) s : Nat), aU, aL (10 ^ N : Nat), aU, aI s, v, w, u] [] I2) (by
                intro v w u
                refine X11_feast_88 (k := ?_)
                refine X11_feast_90 (k := ?_)
                refine X11_feast_91 (k := ?_)
                refine X11_feast_92 (k := ?_)
                refine s11_pipes ?_
                rw [e2, hA.1]
                refine X11_feast_95 (k := ?_)
                rw [zshl_1]
                refine X11_feast_96 (kt := fun k96 => ?_) (kf := fun k96 => ?_)
                · refine X11_feast_200 (k := ?_)
                  refine X11_feast_201 (k := ?_)
                  refine X11_feast_203 (k := ?_)
                  refine X11_feast_205 (k := ?_)
                  have es := eS_prod (C := C) (nt := nT A) (show c + (10 - c) = 10 by omega) P (mD A P C x x1 n) hN
                  unfold eS at es
                  rw [es, fG_R, hNe, fA_R (A := A) (C := C) (x := x) (d := x1) (n := n) hN]
                  have la := fA_le (A := A) (C := C) (x := x) (d := x1) (n := n) hP hN
                  have lg := fG_le (A := A) (P := P) (C := C) (x := x) (d := x1) (q := 10 - c) (n := n)
                  have pa := fA_pos (A := A) (P := P) (C := C) (x := x) (d := x1) (n := n)
                  have pr := fR_pos (A := A) (P := P) (C := C) (x := x) (d := x1) (n := n)
                  have eAR := fA_R (A := A) (C := C) (x := x) (d := x1) (n := n) hN
                  have b8 := bd N hN8
                  rw [← hNe] at eAR
                  have lAR : fA A P C x x1 n * fR A P C x x1 n < 2 ^ 40 := by
                    have : (2 : Nat) ^ 40 = 1099511627776 := by decide
                    omega
                  have lGR : fG A P C x x1 (10 - c) n * fR A P C x x1 n < 2 ^ 40 := Nat.lt_of_le_of_lt (Nat.mul_le_mul_right _ lg) lAR
                  refine s11_fraction lGR ⟨Nat.mul_pos pa pr, lAR⟩ ?_
                  rw [(frac_eq pr).1, (frac_eq pr).2]
                  refine X11_feast_208 (k := ?_)
                  refine X11_feast_209 (hq := ?_)
                  exact g1 I2 hs
                · omega) (fun s hsP ih => by
                intro v w u
                obtain ⟨f, hf⟩ : ∃ f : Nat → Nat, f = fun s => if okS C (Nat.testBit s) P && hit (nT A) (mD A P C x x1 n) (Nat.testBit s) P then wS C c (10 - c) (Nat.testBit s) P else 0 := ⟨_, rfl⟩
                rw [← hf] at ih ⊢
                have es : s = z_bs (Nat.testBit s) P := z_bs_of hsP (fun _ _ => rfl)
                have w8 : ∀ s i, i ≤ P → wS C c (10 - c) (Nat.testBit s) i ≤ 100000000 := fun s i hi => Nat.le_trans (wS_le hc10 (by omega) i) (bd i (by omega))
                have fb : ∀ i, f i ≤ 100000000 := fun i => by
                  rw [hf]
                  dsimp only
                  split
                  · exact w8 i P (Nat.le_refl P)
                  · omega
                have sb := z_sum_bd (f := f) s (fun i _ => fb i)
                have fs : f s = if okS C (Nat.testBit s) P && hit (nT A) (mD A P C x x1 n) (Nat.testBit s) P then wS C c (10 - c) (Nat.testBit s) P else 0 := by rw [hf]
                have hss : z_sum f (s + 1) = z_sum f s + f s := rfl
                have hok := okS_iff (C := C) hsP
                have hhit := hit_iff (C := C) (s := Nat.testBit s) (x := x) (d := x1) hA hn hv (by omega)
                have no : f s = 0 → ∀ v w u, JX11_feast (fun r' I2 => Q r r' I2) 194 [aR 60, aI x, aI x1, aI c, aI (z_bs C P : Nat), aI (z_bs (fun p => !C p) P : Nat), aL (z_sum f s : Nat), aU, aL (10 ^ N : Nat), aU, aI s, v, w, u] [] I2 := by
                  intro z v w u
                  refine X11_feast_194 (k := ?_)
                  refine X11_feast_197 (k := ?_)
                  rw [hss, z, Nat.add_zero] at ih
                  exact ih v w u
                refine X11_feast_88 (k := ?_)
                refine X11_feast_90 (k := ?_)
                refine X11_feast_91 (k := ?_)
                refine X11_feast_92 (k := ?_)
                refine s11_pipes ?_
                rw [e2, hA.1]
                refine X11_feast_95 (k := ?_)
                rw [zshl_1]
                refine X11_feast_96 (kt := fun k96 => ?_) (kf := fun k96 => ?_)
                · omega
                · refine X11_feast_99 (k := ?_)
                  refine X11_feast_101 (k := ?_)
                  refine X11_feast_103 (k := ?_)
                  rw [zand_n]
                  refine X11_feast_104 (kt := fun k104 => ?_) (kf := fun k104 => ?_)
                  · refine no ?_ _ _ _
                    rw [fs, show okS C (Nat.testBit s) P = false by
                      cases q : okS C (Nat.testBit s) P
                      · rfl
                      · have := hok.mp q
                        omega]
                    rfl
                  · have ok1 := hok.mpr (by omega)
                    refine X11_feast_107 (k := ?_)
                    refine X11_feast_108 (k := ?_)
                    refine X11_feast_109 (k := ?_)
                    refine X11_feast_110 (k := ?_)
                    refine X11_feast_112 (k := ?_)
                    refine X11_feast_114 (k := ?_)
                    have eor : zor (z_bs C P : Nat) (s : Int) = ((z_bs (fun p => C p || Nat.testBit s p) P : Nat) : Int) := by
                      unfold zor
                      rw [Int.toNat_natCast, Int.toNat_natCast]
                      refine congrArg _ (z_bs_of (Nat.or_lt_two_pow hcb hsP) (fun p hp => ?_))
                      rw [Nat.testBit_or, z_bs_tb, decide_eq_true hp, Bool.true_and]
                    rw [eor]
                    refine X11_feast_115 (k := ?_)
                    refine s11_playsBy (C := fun p => C p || Nat.testBit s p) rfl hA e2 hx3 ⟨by omega, by omega⟩ (rpH_w hH) ?_
                    refine X11_feast_118 (k := ?_)
                    refine X11_feast_119 (k := ?_)
                    refine X11_feast_120 (k := ?_)
                    refine s11_notes rfl hx3 ?_
                    rw [e2, hn]
                    refine X11_feast_123 (kt := fun k123 => ?_) (kf := fun k123 => ?_)
                    · refine no ?_ _ _ _
                      rw [fs, ok1, show hit (nT A) (mD A P C x x1 n) (Nat.testBit s) P = false by
                        cases q : hit (nT A) (mD A P C x x1 n) (Nat.testBit s) P
                        · rfl
                        · have := hhit.mp q
                          omega]
                      rfl
                    · have hi1 := hhit.mpr (by omega)
                      rw [ok1, hi1] at fs
                      have fs : f s = wS C c (10 - c) (Nat.testBit s) P := fs
                      refine X11_feast_126 (k := ?_)
                      refine X11_feast_127 (k := ?_)
                      refine X11_feast_129 (k := ?_)
                      refine X11_feast_130 (k := ?_)
                      refine z_for P (fun p => JX11_feast (fun r' I2 => Q r r' I2) 132 [aR 60, aI x, aI x1, aI c, aI (z_bs C P : Nat), aI (z_bs (fun p => !C p) P : Nat), aL (z_sum f s : Nat), aU, aL (10 ^ N : Nat), aU, aI s, aL (wS C c (10 - c) (Nat.testBit s) p : Nat), aU, aI p] [] I2) ?_ (fun p hp ihp => ?_) 0 (Nat.zero_le _)
                      · have fbs := fb s
                        refine X11_feast_132 (k := ?_)
                        refine X11_feast_134 (k := ?_)
                        refine X11_feast_135 (k := ?_)
                        refine s11_pipes ?_
                        rw [e2, hA.1]
                        refine X11_feast_138 (kt := fun k138 => ?_) (kf := fun k138 => ?_)
                        · rw [← fs]
                          refine X11_feast_187 (k := ?_)
                          refine X11_feast_189 (k := ?_)
                          refine X11_feast_191 (k := ?_)
                          rw [show (z_sum f s : Int) + (f s : Nat) = (z_sum f (s + 1) : Nat) by rw [hss]; omega]
                          refine X11_feast_192 (k := ?_)
                          refine X11_feast_194 (k := ?_)
                          refine X11_feast_197 (k := ?_)
                          exact ih _ _ _
                        · omega
                      · have hw := w8 s p (by omega)
                        have hws : wS C c (10 - c) (Nat.testBit s) (p + 1) = wS C c (10 - c) (Nat.testBit s) p * (if C p then 1 else if Nat.testBit s p then c else 10 - c) := rfl
                        have mul : ∀ t : Nat, t ≤ 10 → wS C c (10 - c) (Nat.testBit s) (p + 1) = wS C c (10 - c) (Nat.testBit s) p * t → JX11_feast (fun r' I2 => Q r r' I2) 178 [aR 60, aI x, aI x1, aI c, aI (z_bs C P : Nat), aI (z_bs (fun p => !C p) P : Nat), aL (z_sum f s : Nat), aU, aL (10 ^ N : Nat), aU, aI s, aL (wS C c (10 - c) (Nat.testBit s) p : Nat), aU, aI p] [aL t, aL (wS C c (10 - c) (Nat.testBit s) p : Nat)] I2 := by
                          intro t ht e
                          have hw' := w8 s (p + 1) (by omega)
                          have e' : ((wS C c (10 - c) (Nat.testBit s) p : Nat) : Int) * (t : Int) = (wS C c (10 - c) (Nat.testBit s) (p + 1) : Nat) := by
                            rw [e]
                            rfl
                          refine X11_feast_178 (hr := by rw [e']; omega) (k := ?_)
                          rw [e']
                          refine X11_feast_179 (k := ?_)
                          refine X11_feast_181 (k := ?_)
                          refine X11_feast_184 (k := ?_)
                          exact ihp
                        refine X11_feast_132 (k := ?_)
                        refine X11_feast_134 (k := ?_)
                        refine X11_feast_135 (k := ?_)
                        refine s11_pipes ?_
                        rw [e2, hA.1]
                        refine X11_feast_138 (kt := fun k138 => ?_) (kf := fun k138 => ?_)
                        · omega
                        · refine X11_feast_141 (k := ?_)
                          refine X11_feast_143 (k := ?_)
                          refine X11_feast_145 (k := ?_)
                          refine X11_feast_147 (k := ?_)
                          refine X11_feast_148 (k := ?_)
                          refine X11_feast_149 (k := ?_)
                          rw [zbit_bs (fun p => !C p) hp]
                          refine X11_feast_150 (kt := fun k150 => ?_) (kf := fun k150 => ?_)
                          · have eC : C p = false := by
                              cases q : C p
                              · rfl
                              · rw [q] at k150
                                exact absurd rfl k150
                            rw [eC] at hws
                            refine X11_feast_157 (k := ?_)
                            refine X11_feast_159 (k := ?_)
                            refine X11_feast_161 (k := ?_)
                            refine X11_feast_162 (k := ?_)
                            refine X11_feast_163 (k := ?_)
                            rw [es, zbit_bs (Nat.testBit s) hp, ← es]
                            refine X11_feast_164 (k := ?_)
                            refine X11_feast_165 (kt := fun k165 => ?_) (kf := fun k165 => ?_)
                            · have eS2 : Nat.testBit s p = false := by
                                cases q : Nat.testBit s p
                                · rfl
                                · rw [q] at k165
                                  exact absurd rfl k165
                              rw [eS2] at hws
                              refine X11_feast_173 (k := ?_)
                              refine X11_feast_175 (k := ?_)
                              refine X11_feast_176 (k := ?_)
                              refine X11_feast_177 (k := ?_)
                              rw [show (10 : Int) - (c : Int) = ((10 - c : Nat) : Int) by omega]
                              exact mul (10 - c) (by omega) hws
                            · have eS2 : Nat.testBit s p = true := by
                                cases q : Nat.testBit s p
                                · rw [q] at k165
                                  exact absurd k165 (by decide)
                                · rfl
                              rw [eS2] at hws
                              refine X11_feast_168 (k := ?_)
                              refine X11_feast_169 (k := ?_)
                              refine X11_feast_170 (k := ?_)
                              exact mul c hc10 hws
                          · have eC : C p = true := by
                              cases q : C p
                              · rw [q] at k150
                                exact absurd k150 (by decide)
                              · rfl
                            rw [eC] at hws
                            refine X11_feast_153 (k := ?_)
                            refine X11_feast_154 (k := ?_)
                            exact mul 1 (by decide) hws) 0 (Nat.zero_le _)
              exact outer _ _ _
            · omega
          · have e : ((10 ^ i : Nat) : Int) * 10 = ((10 ^ (i + 1) : Nat) : Int) := by
              rw [Nat.pow_succ]
              rfl
            have b8 := bd i (by omega)
            refine X11_feast_61 (k := ?_)
            refine X11_feast_63 (k := ?_)
            refine X11_feast_65 (k := ?_)
            refine s11_bits rfl (by omega) ?_
            rw [← hNe]
            refine X11_feast_68 (kt := fun k68 => ?_) (kf := fun k68 => ?_)
            · omega
            · refine X11_feast_71 (k := ?_)
              refine X11_feast_73 (k := ?_)
              refine X11_feast_76 (hr := by
                generalize 10 ^ i = t at b8 ⊢
                omega) (k := ?_)
              rw [e]
              refine X11_feast_77 (k := ?_)
              refine X11_feast_79 (k := ?_)
              refine X11_feast_82 (k := ?_)
              exact ih
        · refine X11_feast_23 (kt := fun z => absurd z (by decide)) (kf := fun _ => ?_)
          refine X11_feast_26 (k := ?_)
          refine X11_feast_27 (k := ?_)
          refine X11_feast_29 (k := ?_)
          refine s11_bad ?_
          refine X11_feast_32 (hq := ?_)
          exact g0 (by omega)
      · refine X11_feast_11 (kt := fun _ => ?_) (kf := fun z => absurd z (by decide))
        refine X11_feast_26 (k := ?_)
        refine X11_feast_27 (k := ?_)
        refine X11_feast_29 (k := ?_)
        refine s11_bad ?_
        refine X11_feast_32 (hq := ?_)
        exact g0 (by omega)
    · refine X11_feast_4 (kt := fun _ => ?_) (kf := fun z => absurd z (by decide))
      refine X11_feast_26 (k := ?_)
      refine X11_feast_27 (k := ?_)
      refine X11_feast_29 (k := ?_)
      refine s11_bad ?_
      refine X11_feast_32 (hq := ?_)
      exact g0 (by omega)
  refine eX10_feast ?_
  refine X10_feast_0 (k := ?_)
  refine X10_feast_1 (k := ?_)
  refine s10_isHymn (fun u1 u1b => ?_) (fun u1 => ?_)
  · refine X10_feast_4 (kt := fun z => absurd z (by decide)) (kf := fun _ => ?_)
    refine X10_feast_7 (k := ?_)
    refine X10_feast_8 (k := ?_)
    refine s10_isShift (fun u8 u8b => ?_) (fun u8 => ?_)
    · refine X10_feast_11 (kt := fun z => absurd z (by decide)) (kf := fun _ => ?_)
      refine X10_feast_14 (k := ?_)
      refine X10_feast_15 (k := ?_)
      refine X10_feast_17 (k := ?_)
      refine s10_isUpTo (fun u17 u17b => ?_) (fun u17 => ?_)
      · refine X10_feast_20 (kt := fun _ => ?_) (kf := fun z => absurd z (by decide))
        obtain ⟨x, rfl⟩ : ∃ x : Nat, x0 = x := ⟨x0.toNat, by omega⟩
        obtain ⟨c, rfl⟩ : ∃ x : Nat, x2 = x := ⟨x2.toNat, by omega⟩
        have hx3 : x < 3 := by omega
        have hc10 : c ≤ 10 := by omega
        obtain ⟨h1, h2, h3⟩ := hH x hx3
        obtain ⟨n, hn⟩ : ∃ n : Nat, A (62 + 9 * x) = n := ⟨(A (62 + 9 * x)).toNat, by omega⟩
        rw [hn] at h2
        obtain ⟨C, hCe⟩ : ∃ C, C = cC A := ⟨_, rfl⟩
        obtain ⟨q, hqe⟩ : ∃ q, q = 10 - c := ⟨_, rfl⟩
        refine X10_feast_28 (k := ?_)
        refine X10_feast_29 (k := ?_)
        refine X10_feast_32 (k := ?_)
        refine s4_notesInChurch rfl hA hC ?_
        rw [show (fun p => decide ((sA A).2.1 p = -1)) = C from hCe.symm]
        refine X10_feast_35 (k := ?_)
        refine X10_feast_37 (k := ?_)
        refine X10_feast_38 (k := ?_)
        refine X10_feast_40 (k := ?_)
        refine X10_feast_41 (k := ?_)
        refine X10_feast_43 (k := ?_)
        refine X10_feast_44 (k := ?_)
        have la := fun i => fA_le (A := A) (C := C) (x := x) (d := x1) (n := i) hP hN
        have lg := fun i => fG_le (A := A) (P := P) (C := C) (x := x) (d := x1) (q := q) (n := i)
        have loop := z_for n (fun i => ∀ (v w : z_V), JX10_feast (fun r I1 => CX11_feast [aR 60, aI x, aI x1, aI c] I1 (fun r' I2 => Q r r' I2)) 46 [aR 0, aI x, aI x1, aI c, aL (pN A C P : Nat), aU, aL (fG A P C x x1 q i : Nat), aU, aL (fA A P C x x1 i : Nat), aU, aI i, v, w] [] I) (by
          intro v w
          refine X10_feast_46 (k := ?_)
          refine X10_feast_48 (k := ?_)
          refine X10_feast_49 (k := ?_)
          refine X10_feast_52 (k := ?_)
          refine X10_feast_55 (k := ?_)
          refine X10_feast_56 (k := ?_)
          rw [Int.toNat_natCast, h2]
          refine X10_feast_57 (kt := fun k57 => ?_) (kf := fun k57 => ?_)
          · have l1 := la n
            have l2 := lg n
            have pa := fA_pos (A := A) (P := P) (C := C) (x := x) (d := x1) (n := n)
            have big : (2 : Nat) ^ 40 = 1099511627776 := by decide
            refine X10_feast_151 (k := ?_)
            refine X10_feast_152 (k := ?_)
            refine X10_feast_154 (k := ?_)
            refine X10_feast_156 (k := ?_)
            refine x10_setFraction (by omega) ⟨pa, by omega⟩ ?_
            refine X10_feast_159 (k := ?_)
            refine X10_feast_160 (hq := ?_)
            refine ref _ _ (by rw [z_up_n (by decide), z_up_n (by decide)]; exact hAe.symm) (fun x' n' c' z z1 z2 z3 z4 z5 I2 hs => ?_) (fun z => by omega)
            have : x' = x := by omega
            subst this
            have : n' = n := by omega
            subst this
            have : c' = c := by omega
            subst this
            rw [← hCe, ← hqe]
            exact hq _ _ (RR_frac h hs)
          · omega) (fun i hi ih => by
          intro v w
          have hv := (h3 i (by omega)).2
          obtain ⟨u, hu⟩ : ∃ u : Nat, A (63 + 9 * x + i) + x1 + 6 = u := ⟨(A (63 + 9 * x + i) + x1 + 6).toNat, by omega⟩
          have same : mD A P C x x1 (i + 1) = mD A P C x x1 i → ∀ (v w : z_V), JX10_feast (fun r I1 => CX11_feast [aR 60, aI x, aI x1, aI c] I1 (fun r' I2 => Q r r' I2)) 145 [aR 0, aI x, aI x1, aI c, aL (pN A C P : Nat), aU, aL (fG A P C x x1 q i : Nat), aU, aL (fA A P C x x1 i : Nat), aU, aI i, v, w] [] I := by
            intro z v w
            refine X10_feast_145 (k := ?_)
            refine X10_feast_148 (k := ?_)
            unfold fG fA at ih ⊢
            rw [z] at ih
            exact ih v w
          refine X10_feast_46 (k := ?_)
          refine X10_feast_48 (k := ?_)
          refine X10_feast_49 (k := ?_)
          refine X10_feast_52 (k := ?_)
          refine X10_feast_55 (k := ?_)
          refine X10_feast_56 (k := ?_)
          rw [Int.toNat_natCast, h2]
          refine X10_feast_57 (kt := fun k57 => ?_) (kf := fun k57 => ?_)
          · omega
          · refine X10_feast_60 (k := ?_)
            refine X10_feast_61 (k := ?_)
            refine X10_feast_64 (k := ?_)
            refine X10_feast_65 (k := ?_)
            refine X10_feast_67 (k := ?_)
            refine s4_hymnNote rfl hH hx3 (by omega) ?_
            refine X10_feast_70 (k := ?_)
            refine X10_feast_71 (k := ?_)
            refine X10_feast_72 (k := ?_)
            refine X10_feast_74 (k := ?_)
            refine X10_feast_76 (k := ?_)
            refine X10_feast_78 (k := ?_)
            refine s10_hasNote hA (fun z => ?_) (fun z => ?_)
            · refine X10_feast_81 (kt := fun k81 => ?_) (kf := fun k81 => ?_)
              · exact same (mD_same (Or.inl z)) _ _
              · omega
            · refine X10_feast_81 (kt := fun k81 => ?_) (kf := fun k81 => ?_)
              · omega
              · refine X10_feast_84 (k := ?_)
                refine X10_feast_85 (k := ?_)
                refine X10_feast_88 (k := ?_)
                refine X10_feast_89 (k := ?_)
                refine X10_feast_91 (k := ?_)
                refine s4_isFirst rfl hH hx3 (by omega) (fun y => ?_) (fun y => ?_)
                · refine X10_feast_94 (kt := fun k94 => ?_) (kf := fun k94 => ?_)
                  · omega
                  · refine X10_feast_97 (k := ?_)
                    refine X10_feast_98 (k := ?_)
                    refine X10_feast_101 (k := ?_)
                    refine X10_feast_103 (k := ?_)
                    refine s4_howManyAwayOf rfl hP hC ?_
                    obtain ⟨k, hk⟩ : ∃ k, k = kV C (nT A) P u := ⟨_, rfl⟩
                    have ek : z_cnt (fun p => !decide ((sA A).2.1 p = -1) && decide (tN A p = A (63 + 9 * x + i) + x1)) P = k := by
                      have e := kV_away (P := P) (C := C) (v := A (63 + 9 * x + i) + x1) hA (by omega)
                      rw [hu, Int.toNat_natCast, ← hk, hCe] at e
                      exact e
                    rw [ek]
                    have hk8 : k ≤ 8 := by
                      rw [← ek]
                      exact Nat.le_trans (z_cnt_le _ _) hP
                    have eA : fA A P C x x1 (i + 1) = fA A P C x x1 i * 10 ^ k := by
                      rw [hk]
                      exact fX_new (fun v => 10 ^ kV C (nT A) P v) hu (by omega) z y
                    have eG : fG A P C x x1 q (i + 1) = fG A P C x x1 q i * (10 ^ k - q ^ k) := by
                      have := fX_new (A := A) (P := P) (C := C) (x := x) (d := x1) (n := i) (u := u) (fun v => gV q (kV C (nT A) P v) true) hu (by omega) z y
                      rw [hk]
                      exact this
                    have l1 := la (i + 1)
                    have l2 := lg (i + 1)
                    have lq : q ^ k ≤ 10 ^ k := Nat.pow_le_pow_left (by omega) k
                    have l10 : 10 ^ k ≤ 100000000 := Nat.pow_le_pow_right (by decide) hk8
                    obtain ⟨t, ht⟩ : ∃ t, t = 10 ^ k := ⟨_, rfl⟩
                    obtain ⟨y2, hy2⟩ : ∃ y, y = q ^ k := ⟨_, rfl⟩
                    rw [← ht] at lq l10 eA eG
                    rw [← hy2] at lq eG
                    have eG' : ((fG A P C x x1 q i : Nat) : Int) * ((t : Int) - (y2 : Int)) = (fG A P C x x1 q (i + 1) : Nat) := by
                      rw [eG, show (t : Int) - (y2 : Int) = ((t - y2 : Nat) : Int) by omega]
                      rfl
                    have eA' : ((fA A P C x x1 i : Nat) : Int) * (t : Int) = (fA A P C x x1 (i + 1) : Nat) := by
                      rw [eA]
                      rfl
                    refine X10_feast_106 (k := ?_)
                    refine X10_feast_108 (k := ?_)
                    refine X10_feast_110 (k := ?_)
                    refine X10_feast_113 (k := ?_)
                    refine X10_feast_115 (k := ?_)
                    refine x10_power (q := 10) (k := k) (by decide) hk8 ?_
                    rw [← ht]
                    refine X10_feast_118 (k := ?_)
                    refine X10_feast_120 (k := ?_)
                    refine X10_feast_121 (k := ?_)
                    refine X10_feast_122 (k := ?_)
                    refine X10_feast_123 (k := ?_)
                    rw [show (10 : Int) - (c : Int) = ((q : Nat) : Int) by omega]
                    refine X10_feast_125 (k := ?_)
                    refine x10_power (q := q) (k := k) (by omega) hk8 ?_
                    rw [← hy2]
                    refine X10_feast_128 (k := ?_)
                    refine X10_feast_129 (hr := by rw [eG']; omega) (k := ?_)
                    rw [eG']
                    refine X10_feast_130 (k := ?_)
                    refine X10_feast_132 (k := ?_)
                    refine X10_feast_134 (k := ?_)
                    refine X10_feast_137 (k := ?_)
                    refine X10_feast_139 (k := ?_)
                    refine x10_power (q := 10) (k := k) (by decide) hk8 ?_
                    rw [← ht]
                    refine X10_feast_142 (hr := by rw [eA']; omega) (k := ?_)
                    rw [eA']
                    refine X10_feast_143 (k := ?_)
                    refine X10_feast_145 (k := ?_)
                    refine X10_feast_148 (k := ?_)
                    exact ih _ _
                · refine X10_feast_94 (kt := fun k94 => ?_) (kf := fun k94 => ?_)
                  · exact same (mD_same (Or.inr y)) _ _
                  · omega) 0 (Nat.zero_le _)
        have t := loop aU aU
        rw [show fG A P C x x1 q 0 = 1 from z_prod_1 48, show fA A P C x x1 0 = 1 from z_prod_1 48] at t
        exact t
      · refine X10_feast_20 (kt := fun z => absurd z (by decide)) (kf := fun _ => ?_)
        refine X10_feast_23 (k := ?_)
        refine X10_feast_24 (k := ?_)
        refine s10_refuseBad ?_
        refine X10_feast_27 (hq := ?_)
        refine ref _ _ (by rw [z_up_n (by decide)]; exact hAe.symm) (fun x n c z z1 => by omega) (fun z => ?_)
        exact RR_bad (Q := Q) h (fun I' => hq _ I')
    · refine X10_feast_11 (kt := fun _ => ?_) (kf := fun z => absurd z (by decide))
      refine X10_feast_23 (k := ?_)
      refine X10_feast_24 (k := ?_)
      refine s10_refuseBad ?_
      refine X10_feast_27 (hq := ?_)
      refine ref _ _ (by rw [z_up_n (by decide)]; exact hAe.symm) (fun x n c z z1 => by omega) (fun z => ?_)
      exact RR_bad (Q := Q) h (fun I' => hq _ I')
  · refine X10_feast_4 (kt := fun _ => ?_) (kf := fun z => absurd z (by decide))
    refine X10_feast_23 (k := ?_)
    refine X10_feast_24 (k := ?_)
    refine s10_refuseBad ?_
    refine X10_feast_27 (hq := ?_)
    refine ref _ _ (by rw [z_up_n (by decide)]; exact hAe.symm) (fun x n c z z1 => by omega) (fun z => ?_)
    exact RR_bad (Q := Q) h (fun I' => hq _ I')
end PW

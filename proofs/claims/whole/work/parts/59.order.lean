/-! walk, the model's side: the next order -/
section QC
variable {I I' : z_M} {b c : Nat} {A A' : Nat → Int} {P L : Nat}
def pv (o : Nat → Nat) : Nat → Int
  | 0 => -1
  | n + 1 => if o (n + 1) < o n then pv o n else n
def js (o : Nat → Nat) (i : Nat) : Nat → Nat
  | 0 => 0
  | n + 1 => if o (n + 1) < o i then js o i n else n + 1
def sw (o : Nat → Nat) (i j : Nat) : Nat → Nat := fun t => if t = j then o i else if t = i then o j else o t
def rv : Nat → (Nat → Nat) → Nat → Nat → Nat → Nat
  | 0, o, _, _ => o
  | f + 1, o, a, b => if a < b then rv f (sw o a b) (a + 1) (b - 1) else o
def nx (k : Nat) (o : Nat → Nat) (i : Nat) : Nat → Nat := rv 5 (sw o i (js o i (k - 1))) (i + 1) (k - 1)
def ord (I : z_M) (k : Nat) (o : Nat → Nat) : Prop := ∀ t, t < k → I 69 t = (o t : Int)
theorem pv_r {o : Nat → Nat} : ∀ n, -1 ≤ pv o n ∧ pv o n < n
  | 0 => ⟨by unfold pv; decide, by unfold pv; decide⟩
  | n + 1 => by
    have := pv_r (o := o) n
    unfold pv
    split <;> omega
theorem js_r {o : Nat → Nat} {i : Nat} : ∀ n, i ≤ n → i ≤ js o i n ∧ js o i n ≤ n
  | 0, h => ⟨h, Nat.le_refl 0⟩
  | n + 1, h => by
    unfold js
    split
    · rename_i e
      have : i ≤ n := by
        apply Decidable.byContradiction
        intro q
        have : i = n + 1 := by omega
        subst this
        omega
      have := js_r (o := o) (i := i) n this
      omega
    · omega
theorem ord_sw {k i j : Nat} {o : Nat → Nat} {u v : Int} (h : ord I k o) (hu : u = o j) (hv : v = o i) : ord (z_up (z_up I 69 i u) 69 j v) k (sw o i j) := by
  intro t ht
  rw [z_up_s, z_up_s]
  unfold zu sw
  by_cases z : t = j
  · rw [if_pos z, if_pos z, hv]
  · rw [if_neg z, if_neg z]
    by_cases w : t = i
    · rw [if_pos w, if_pos w, hu]
    · rw [if_neg w, if_neg w]
      exact h t ht
theorem s11_nextOrder {Q : Int → z_M → Prop} {o : Nat → Nat} {k : Nat} (hk : 0 < k) (hk5 : k ≤ 5) (hO : ord I k o) (h0 : pv o (k - 1) = -1 → Q 0 I) (h1 : ∀ i : Nat, pv o (k - 1) = i → ∀ I', ord I' k (nx k o i) → (∀ q, q ≠ 69 → I' q = I q) → Q 1 I') : CX11_nextOrder [aR 60, aI k] I Q := by
  -- from the pivot on
  have back : ∀ (i : Nat), i + 1 < k → (∀ I', ord I' k (nx k o i) → (∀ q, q ≠ 69 → I' q = I q) → Q 1 I') → JX11_nextOrder Q 31 [aR 60, aI k, aI i, aU, aU, aU, aU, aU] [] I := by
    intro i hi q
    have rev : ∀ (f a b' : Nat) (o' : Nat → Nat) (I1 : z_M) (v3 : Int) (v4 : Int) (v7 : z_V), b' < k → b' ≤ a + 2 * f → ord I1 k o' → (∀ q, q ≠ 69 → I1 q = I q) → (∀ I', ord I' k (rv f o' a b') → (∀ q, q ≠ 69 → I' q = I q) → Q 1 I') → JX11_nextOrder Q 100 [aR 60, aI k, aI i, aI v3, aI v4, aI a, aI b', v7] [] I1 := by
      intro f
      induction f with
      | zero =>
        intro a b' o' I1 v3 v4 v7 hb hf g1 g2 g3
        refine X11_nextOrder_100 (k := ?_)
        refine X11_nextOrder_102 (k := ?_)
        refine X11_nextOrder_104 (kt := fun k104 => ?_) (kf := fun k104 => ?_)
        · refine X11_nextOrder_148 (k := ?_)
          refine X11_nextOrder_149 (hq := ?_)
          exact g3 I1 g1 g2
        · omega
      | succ f ih =>
        intro a b' o' I1 v3 v4 v7 hb hf g1 g2 g3
        unfold rv at g3
        refine X11_nextOrder_100 (k := ?_)
        refine X11_nextOrder_102 (k := ?_)
        refine X11_nextOrder_104 (kt := fun k104 => ?_) (kf := fun k104 => ?_)
        · rw [if_neg (by omega)] at g3
          refine X11_nextOrder_148 (k := ?_)
          refine X11_nextOrder_149 (hq := ?_)
          exact g3 I1 g1 g2
        · rw [if_pos (by omega)] at g3
          refine X11_nextOrder_107 (k := ?_)
          refine X11_nextOrder_108 (k := ?_)
          refine X11_nextOrder_111 (k := ?_)
          refine X11_nextOrder_113 (k := ?_)
          rw [Int.toNat_natCast, g1 a (by omega)]
          refine X11_nextOrder_114 (k := ?_)
          refine X11_nextOrder_116 (k := ?_)
          refine X11_nextOrder_117 (k := ?_)
          refine X11_nextOrder_120 (k := ?_)
          refine X11_nextOrder_122 (k := ?_)
          refine X11_nextOrder_123 (k := ?_)
          refine X11_nextOrder_126 (k := ?_)
          refine X11_nextOrder_128 (k := ?_)
          rw [Int.toNat_natCast, g1 b' hb]
          refine X11_nextOrder_129 (k := ?_)
          refine X11_nextOrder_130 (k := ?_)
          refine X11_nextOrder_131 (k := ?_)
          refine X11_nextOrder_134 (k := ?_)
          refine X11_nextOrder_136 (k := ?_)
          refine X11_nextOrder_138 (k := ?_)
          rw [Int.toNat_natCast, Int.toNat_natCast]
          refine X11_nextOrder_139 (k := ?_)
          refine X11_nextOrder_142 (k := ?_)
          refine X11_nextOrder_145 (k := ?_)
          rw [show (b' : Int) + -1 = ((b' - 1 : Nat) : Int) by omega]
          exact ih (a + 1) (b' - 1) (sw o' a b') _ _ _ _ (by omega) (by omega) (ord_sw g1 rfl rfl) (fun q hq => by rw [z_up_n hq, z_up_n hq]; exact g2 q hq) g3
    have fin : ∀ j : Nat, j < k → j = js o i (k - 1) → JX11_nextOrder Q 62 [aR 60, aI k, aI i, aI j, aU, aU, aU, aU] [] I := by
      intro j hj e
      refine X11_nextOrder_62 (k := ?_)
      refine X11_nextOrder_63 (k := ?_)
      refine X11_nextOrder_66 (k := ?_)
      refine X11_nextOrder_67 (k := ?_)
      rw [Int.toNat_natCast, hO i (by omega)]
      refine X11_nextOrder_68 (k := ?_)
      refine X11_nextOrder_70 (k := ?_)
      refine X11_nextOrder_71 (k := ?_)
      refine X11_nextOrder_74 (k := ?_)
      refine X11_nextOrder_75 (k := ?_)
      refine X11_nextOrder_76 (k := ?_)
      refine X11_nextOrder_79 (k := ?_)
      refine X11_nextOrder_80 (k := ?_)
      rw [Int.toNat_natCast, hO j hj]
      refine X11_nextOrder_81 (k := ?_)
      refine X11_nextOrder_82 (k := ?_)
      refine X11_nextOrder_83 (k := ?_)
      refine X11_nextOrder_86 (k := ?_)
      refine X11_nextOrder_87 (k := ?_)
      refine X11_nextOrder_89 (k := ?_)
      rw [Int.toNat_natCast, Int.toNat_natCast]
      refine X11_nextOrder_90 (k := ?_)
      refine X11_nextOrder_91 (k := ?_)
      refine X11_nextOrder_92 (k := ?_)
      refine X11_nextOrder_93 (k := ?_)
      refine X11_nextOrder_95 (k := ?_)
      refine X11_nextOrder_96 (k := ?_)
      refine X11_nextOrder_97 (k := ?_)
      refine X11_nextOrder_98 (k := ?_)
      rw [show (k : Int) - 1 = ((k - 1 : Nat) : Int) by omega]
      refine rev 5 (i + 1) (k - 1) (sw o i j) _ _ _ _ (by omega) (by omega) (ord_sw hO rfl rfl) (fun q hq => by rw [z_up_n hq, z_up_n hq]) ?_
      rw [e]
      exact q
    have find : ∀ n, i ≤ n → n < k → js o i n = js o i (k - 1) → JX11_nextOrder Q 41 [aR 60, aI k, aI i, aI n, aU, aU, aU, aU] [] I := by
      intro n
      induction n with
      | zero =>
        intro h2 h3 e
        have : i = 0 := by omega
        subst this
        refine X11_nextOrder_41 (k := ?_)
        refine X11_nextOrder_42 (k := ?_)
        refine X11_nextOrder_45 (k := ?_)
        refine X11_nextOrder_46 (k := ?_)
        rw [Int.toNat_natCast, hO 0 (by omega)]
        refine X11_nextOrder_47 (k := ?_)
        refine X11_nextOrder_48 (k := ?_)
        refine X11_nextOrder_51 (k := ?_)
        refine X11_nextOrder_52 (k := ?_)
        rw [Int.toNat_natCast, hO 0 (by omega)]
        refine X11_nextOrder_53 (kt := fun k53 => ?_) (kf := fun k53 => ?_)
        · exact fin 0 h3 e
        · omega
      | succ n ih =>
        intro h2 h3 e
        refine X11_nextOrder_41 (k := ?_)
        refine X11_nextOrder_42 (k := ?_)
        refine X11_nextOrder_45 (k := ?_)
        refine X11_nextOrder_46 (k := ?_)
        rw [Int.toNat_natCast, hO (n + 1) h3]
        refine X11_nextOrder_47 (k := ?_)
        refine X11_nextOrder_48 (k := ?_)
        refine X11_nextOrder_51 (k := ?_)
        refine X11_nextOrder_52 (k := ?_)
        rw [Int.toNat_natCast, hO i (by omega)]
        rw [show js o i (n + 1) = if o (n + 1) < o i then js o i n else n + 1 from rfl] at e
        refine X11_nextOrder_53 (kt := fun k53 => ?_) (kf := fun k53 => ?_)
        · rw [if_neg (by omega)] at e
          exact fin (n + 1) h3 e
        · rw [if_pos (by omega)] at e
          have : i ≤ n := by
            apply Decidable.byContradiction
            intro w
            have : i = n + 1 := by omega
            subst this
            omega
          refine X11_nextOrder_56 (k := ?_)
          refine X11_nextOrder_59 (k := ?_)
          rw [show ((n + 1 : Nat) : Int) + -1 = (n : Int) by omega]
          exact ih this (by omega) e
    refine X11_nextOrder_31 (k := ?_)
    refine X11_nextOrder_32 (kt := fun k32 => ?_) (kf := fun k32 => ?_)
    · refine X11_nextOrder_37 (k := ?_)
      refine X11_nextOrder_38 (k := ?_)
      refine X11_nextOrder_39 (k := ?_)
      refine X11_nextOrder_40 (k := ?_)
      rw [show (k : Int) - 1 = ((k - 1 : Nat) : Int) by omega]
      exact find (k - 1) (by omega) (by omega) rfl
    · omega
  have pivot : ∀ n, n < k → pv o n = pv o (k - 1) → JX11_nextOrder Q 4 [aR 60, aI k, aI ((n : Int) - 1), aU, aU, aU, aU, aU] [] I := by
    intro n
    induction n with
    | zero =>
      intro hn e
      refine X11_nextOrder_4 (k := ?_)
      refine X11_nextOrder_5 (kt := fun k5 => ?_) (kf := fun k5 => ?_)
      · refine X11_nextOrder_31 (k := ?_)
        refine X11_nextOrder_32 (kt := fun k32 => ?_) (kf := fun k32 => ?_)
        · omega
        · refine X11_nextOrder_35 (k := ?_)
          refine X11_nextOrder_36 (hq := ?_)
          exact h0 e.symm
      · omega
    | succ n ih =>
      intro hn e
      rw [show ((n + 1 : Nat) : Int) - 1 = (n : Int) by omega]
      rw [show pv o (n + 1) = if o (n + 1) < o n then pv o n else (n : Int) from rfl] at e
      refine X11_nextOrder_4 (k := ?_)
      refine X11_nextOrder_5 (kt := fun k5 => ?_) (kf := fun k5 => ?_)
      · omega
      · refine X11_nextOrder_8 (k := ?_)
        refine X11_nextOrder_9 (k := ?_)
        refine X11_nextOrder_12 (k := ?_)
        refine X11_nextOrder_13 (k := ?_)
        rw [Int.toNat_natCast, hO n (by omega)]
        refine X11_nextOrder_14 (k := ?_)
        refine X11_nextOrder_15 (k := ?_)
        refine X11_nextOrder_18 (k := ?_)
        refine X11_nextOrder_19 (k := ?_)
        refine X11_nextOrder_20 (k := ?_)
        refine X11_nextOrder_21 (k := ?_)
        rw [show ((n : Int) + 1).toNat = n + 1 by omega, hO (n + 1) hn]
        refine X11_nextOrder_22 (kt := fun k22 => ?_) (kf := fun k22 => ?_)
        · rw [if_neg (by omega)] at e
          exact back n hn (h1 n e.symm)
        · rw [if_pos (by omega)] at e
          refine X11_nextOrder_25 (k := ?_)
          refine X11_nextOrder_28 (k := ?_)
          rw [show (n : Int) + -1 = (n : Int) - 1 by omega]
          exact ih (by omega) e
  refine eX11_nextOrder ?_
  refine X11_nextOrder_0 (k := ?_)
  refine X11_nextOrder_1 (k := ?_)
  refine X11_nextOrder_2 (k := ?_)
  refine X11_nextOrder_3 (k := ?_)
  rw [show (k : Int) - 2 = ((k - 1 : Nat) : Int) - 1 by omega]
  exact pivot (k - 1) (by omega) rfl
end QC

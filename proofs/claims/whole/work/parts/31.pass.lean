/-! hours go by: pass, fetch -/
theorem zand_1 (n : Nat) : zand (n : Int) 1 = ((n % 2 : Nat) : Int) := by
  unfold zand
  simp [Nat.and_one_is_mod]
theorem zshr_1 (n : Nat) : zshr (n : Int) 1 = ((n / 2 : Nat) : Int) := by
  unfold zshr
  simp
theorem z_bs_s (c : Nat → Bool) : ∀ n, z_bs c (n + 1) = (if c 0 then 1 else 0) + 2 * z_bs (fun i => c (i + 1)) n
  | 0 => by simp [z_bs]
  | n + 1 => by
    rw [z_bs, z_bs_s c n, z_bs, Nat.pow_succ]
    by_cases h : c (n + 1) = true <;> simp [h] <;> omega
theorem z_cnt_s (c : Nat → Bool) : ∀ n, z_cnt c (n + 1) = (if c 0 then 1 else 0) + z_cnt (fun i => c (i + 1)) n
  | 0 => by simp [z_cnt]
  | n + 1 => by
    rw [z_cnt, z_cnt_s c n, z_cnt]
    omega
theorem z_cnt_0 (c : Nat → Bool) : ∀ n, z_bs c n = 0 → z_cnt c n = 0
  | 0, _ => rfl
  | n + 1, h => by
    have hp : 0 < 2 ^ n := Nat.pos_of_ne_zero (by simp)
    unfold z_bs at h
    unfold z_cnt
    by_cases e : c n = true
    · rw [if_pos e] at h
      omega
    · rw [if_neg e] at h ⊢
      have := z_cnt_0 c n (by omega)
      omega
theorem z_cnt_not (c : Nat → Bool) : ∀ n, z_cnt c n + z_cnt (fun i => !c i) n = n
  | 0 => rfl
  | n + 1 => by
    have := z_cnt_not c n
    unfold z_cnt
    cases e : c n <;> simp <;> omega
theorem z_cnt_c {c d : Nat → Bool} : ∀ n, (∀ i, i < n → c i = d i) → z_cnt c n = z_cnt d n
  | 0, _ => rfl
  | n + 1, h => by rw [z_cnt, z_cnt, z_cnt_c n (fun i hi => h i (by omega)), h n (by omega)]
theorem z_bs_c {c d : Nat → Bool} : ∀ n, (∀ i, i < n → c i = d i) → z_bs c n = z_bs d n
  | 0, _ => rfl
  | n + 1, h => by rw [z_bs, z_bs, z_bs_c n (fun i hi => h i (by omega)), h n (by omega)]
theorem s11_bits {Q : Int → z_M → Prop} {I : z_M} {x : Int} {c : Nat → Bool} {n : Nat} (hx : x = z_bs c n) (hn : n ≤ 30) (h : Q (z_cnt c n) I) : CX11_bits [aI x] I Q := by
  have L : ∀ (n : Nat) (c : Nat → Bool) (s : Nat) (y : Int), n + s ≤ 60 → n ≤ 30 → Q ((s + z_cnt c n : Nat) : Int) I → JX11_bits Q 4 [aI y, aI s, aI (z_bs c n : Nat)] [] I := by
    intro n
    induction n with
    | zero =>
      intro c s y _ _ q
      refine X11_bits_4 (k := ?_)
      refine X11_bits_5 (kt := fun k5 => ?_) (kf := fun k5 => ?_)
      · refine X11_bits_21 (k := ?_)
        refine X11_bits_22 (hq := ?_)
        exact q
      · unfold z_bs at k5
        omega
    | succ n ih =>
      intro c s y hs hn q
      have hb := z_bs_lt c (n + 1)
      have hp : 2 ^ (n + 1) ≤ 2 ^ 30 := Nat.pow_le_pow_right (by decide) hn
      have hp' : (2 : Nat) ^ 30 = 1073741824 := by decide
      have e2 := z_bs_s c n
      have e3 := z_cnt_s c n
      have hi : (if c 0 = true then 1 else 0 : Nat) < 2 := by split <;> omega
      generalize (if c 0 = true then 1 else 0 : Nat) = d at e2 e3 hi
      have e4 : z_bs c (n + 1) % 2 = d := by omega
      have e5 : z_bs c (n + 1) / 2 = z_bs (fun i => c (i + 1)) n := by omega
      refine X11_bits_4 (k := ?_)
      refine X11_bits_5 (kt := fun k5 => ?_) (kf := fun k5 => ?_)
      · have e0 := z_cnt_0 c (n + 1) (by omega)
        refine X11_bits_21 (k := ?_)
        refine X11_bits_22 (hq := ?_)
        rw [e0] at q
        exact q
      · refine X11_bits_8 (k := ?_)
        refine X11_bits_9 (k := ?_)
        refine X11_bits_10 (k := ?_)
        refine X11_bits_11 (k := ?_)
        rw [zand_1, e4]
        refine X11_bits_12 (k := ?_)
        refine X11_bits_13 (k := ?_)
        refine X11_bits_14 (k := ?_)
        refine X11_bits_15 (k := ?_)
        refine X11_bits_16 (k := ?_)
        rw [zshr_1, e5]
        refine X11_bits_17 (k := ?_)
        refine X11_bits_18 (k := ?_)
        rw [show (s : Int) + d = ((s + d : Nat) : Int) by omega]
        refine ih _ _ _ (by omega) (by omega) ?_
        rw [show s + d + z_cnt (fun i => c (i + 1)) n = s + z_cnt c (n + 1) by omega]
        exact q
  subst hx
  refine eX11_bits ?_
  refine X11_bits_0 (k := ?_)
  refine X11_bits_1 (k := ?_)
  refine X11_bits_2 (k := ?_)
  refine X11_bits_3 (k := ?_)
  refine L n c 0 _ (by omega) hn ?_
  rw [Nat.zero_add]
  exact h

/-! Integer.bitCount -/
def bC1 (n : Nat) : Nat := n - (n / 2 &&& 1431655765)
def bC2 (n : Nat) : Nat := (bC1 n &&& 858993459) + (bC1 n / 4 &&& 858993459)
def bC3 (n : Nat) : Nat := (bC2 n + bC2 n / 16) &&& 252645135
def bC4 (n : Nat) : Nat := bC3 n + bC3 n / 256
def bC5 (n : Nat) : Nat := bC4 n + bC4 n / 65536
def bC (n : Nat) : Nat := bC5 n &&& 63
theorem bC_r : ∀ n, n < 256 → (n / 2 &&& 1431655765) ≤ n ∧ bC1 n < 100000 ∧ (bC1 n &&& 858993459) < 100000 ∧ (bC1 n / 4 &&& 858993459) < 100000 ∧ bC2 n < 100000 ∧ bC3 n < 100000 ∧ bC4 n < 100000 ∧ bC5 n < 100000 := by decide +kernel
theorem bC_s : ∀ n, n < 256 → bC n = n % 2 + bC (n / 2) := by decide +kernel
theorem bC_bs : ∀ (n : Nat) (c : Nat → Bool), n ≤ 8 → bC (z_bs c n) = z_cnt c n
  | 0, c, _ => by
    show bC 0 = 0
    decide
  | n + 1, c, h => by
    have hb := z_bs_lt c (n + 1)
    have hp : 2 ^ (n + 1) ≤ 2 ^ 8 := Nat.pow_le_pow_right (by decide) h
    have e2 := z_bs_s c n
    have e3 := z_cnt_s c n
    have ih := bC_bs n (fun i => c (i + 1)) (by omega)
    have hi : (if c 0 = true then 1 else 0 : Nat) < 2 := by split <;> omega
    generalize (if c 0 = true then 1 else 0 : Nat) = d at e2 e3 hi
    rw [bC_s _ (by omega), show z_bs c (n + 1) / 2 = z_bs (fun i => c (i + 1)) n by omega, ih]
    omega
theorem zand_n (a b : Nat) : zand (a : Int) (b : Int) = ((a &&& b : Nat) : Int) := by
  unfold zand
  rw [Int.toNat_natCast, Int.toNat_natCast]
theorem zshr_n (a k : Nat) : zshr (a : Int) (k : Int) = ((a / 2 ^ k : Nat) : Int) := by
  unfold zshr
  rw [Int.toNat_natCast, Int.toNat_natCast]
theorem j6_bitCount {Q : Int → z_M → Prop} {I : z_M} {n : Nat} (hn : n < 256) (h : Q (bC n : Nat) I) : CJ6_bitCount_0f7a4 [aI n] I Q := by
  obtain ⟨r1, r2, r3, r4, r5, r6, r7, r8⟩ := bC_r n hn
  refine eJ6_bitCount_0f7a4 ?_
  refine J6_bitCount_0f7a4_0 (k := ?_)
  refine J6_bitCount_0f7a4_1 (k := ?_)
  refine J6_bitCount_0f7a4_2 (k := ?_)
  refine J6_bitCount_0f7a4_3 (k := ?_)
  refine J6_bitCount_0f7a4_4 (k := ?_)
  refine J6_bitCount_0f7a4_7 (k := ?_)
  rw [show zand (zshr (n : Int) 1) 1431655765 = ((n / 2 &&& 1431655765 : Nat) : Int) from (congrArg (fun x => zand x 1431655765) (zshr_n n 1)).trans (zand_n (n / 2) 1431655765)]
  refine J6_bitCount_0f7a4_8 (k := ?_)
  rw [show (n : Int) - ((n / 2 &&& 1431655765 : Nat) : Int) = (bC1 n : Nat) by unfold bC1; omega]
  refine J6_bitCount_0f7a4_9 (k := ?_)
  refine J6_bitCount_0f7a4_10 (k := ?_)
  refine J6_bitCount_0f7a4_11 (k := ?_)
  refine J6_bitCount_0f7a4_14 (k := ?_)
  refine J6_bitCount_0f7a4_15 (k := ?_)
  refine J6_bitCount_0f7a4_16 (k := ?_)
  refine J6_bitCount_0f7a4_17 (k := ?_)
  refine J6_bitCount_0f7a4_18 (k := ?_)
  refine J6_bitCount_0f7a4_21 (k := ?_)
  rw [show zand (bC1 n : Nat) 858993459 = ((bC1 n &&& 858993459 : Nat) : Int) from zand_n (bC1 n) 858993459, show zand (zshr (bC1 n : Nat) 2) 858993459 = ((bC1 n / 4 &&& 858993459 : Nat) : Int) from (congrArg (fun x => zand x 858993459) (zshr_n (bC1 n) 2)).trans (zand_n (bC1 n / 4) 858993459)]
  refine J6_bitCount_0f7a4_22 (k := ?_)
  rw [show ((bC1 n &&& 858993459 : Nat) : Int) + ((bC1 n / 4 &&& 858993459 : Nat) : Int) = (bC2 n : Nat) by unfold bC2; omega]
  refine J6_bitCount_0f7a4_23 (k := ?_)
  refine J6_bitCount_0f7a4_24 (k := ?_)
  refine J6_bitCount_0f7a4_25 (k := ?_)
  refine J6_bitCount_0f7a4_26 (k := ?_)
  refine J6_bitCount_0f7a4_27 (k := ?_)
  rw [show zshr (bC2 n : Nat) 4 = ((bC2 n / 16 : Nat) : Int) from zshr_n (bC2 n) 4]
  refine J6_bitCount_0f7a4_28 (k := ?_)
  refine J6_bitCount_0f7a4_29 (k := ?_)
  refine J6_bitCount_0f7a4_32 (k := ?_)
  rw [show zand ((bC2 n : Nat) + ((bC2 n / 16 : Nat) : Int)) 252645135 = (bC3 n : Nat) by
    rw [show ((bC2 n : Nat) : Int) + ((bC2 n / 16 : Nat) : Int) = ((bC2 n + bC2 n / 16 : Nat) : Int) by omega]
    exact zand_n _ 252645135]
  refine J6_bitCount_0f7a4_33 (k := ?_)
  refine J6_bitCount_0f7a4_34 (k := ?_)
  refine J6_bitCount_0f7a4_35 (k := ?_)
  refine J6_bitCount_0f7a4_36 (k := ?_)
  refine J6_bitCount_0f7a4_38 (k := ?_)
  rw [show zshr (bC3 n : Nat) 8 = ((bC3 n / 256 : Nat) : Int) from zshr_n (bC3 n) 8]
  refine J6_bitCount_0f7a4_39 (k := ?_)
  rw [show ((bC3 n : Nat) : Int) + ((bC3 n / 256 : Nat) : Int) = (bC4 n : Nat) by unfold bC4; omega]
  refine J6_bitCount_0f7a4_40 (k := ?_)
  refine J6_bitCount_0f7a4_41 (k := ?_)
  refine J6_bitCount_0f7a4_42 (k := ?_)
  refine J6_bitCount_0f7a4_43 (k := ?_)
  refine J6_bitCount_0f7a4_45 (k := ?_)
  rw [show zshr (bC4 n : Nat) 16 = ((bC4 n / 65536 : Nat) : Int) from zshr_n (bC4 n) 16]
  refine J6_bitCount_0f7a4_46 (k := ?_)
  rw [show ((bC4 n : Nat) : Int) + ((bC4 n / 65536 : Nat) : Int) = (bC5 n : Nat) by unfold bC5; omega]
  refine J6_bitCount_0f7a4_47 (k := ?_)
  refine J6_bitCount_0f7a4_48 (k := ?_)
  refine J6_bitCount_0f7a4_49 (k := ?_)
  refine J6_bitCount_0f7a4_51 (k := ?_)
  rw [show zand (bC5 n : Nat) 63 = (bC n : Nat) from zand_n (bC5 n) 63]
  refine J6_bitCount_0f7a4_52 (hq := ?_)
  exact h

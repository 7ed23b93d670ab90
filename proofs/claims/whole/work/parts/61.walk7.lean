/-! walk, the model's side: the first order is laid -/
section QE
variable {I I' : z_M} {b c : Nat} {A A' : Nat → Int} {P L : Nat}
theorem s11_layOrder {Q : z_M → Prop} {s : Nat} (hA : wfA A P L) (hI : I 61 = A) (hs : s < 2 ^ L) (h : ∀ I', ord I' (z_cnt (Nat.testBit s) L) (nb (Nat.testBit s) L) → (∀ k, k ≠ 69 → I' k = I k) → JX11_layWalk Q 37 [aR 60, aI s, aI (z_cnt (Nat.testBit s) L : Nat), aI L, aU] [] I') : JX11_layWalk Q 4 [aR 60, aI s, aI 0, aI 0, aU] [] I := by
  have hL := hA.2.2.2.1
  refine z_for L (fun y => ∀ I2, ord I2 (z_cnt (Nat.testBit s) y) (nb (Nat.testBit s) y) → (∀ k, k ≠ 69 → I2 k = I k) → JX11_layWalk Q 4 [aR 60, aI s, aI (z_cnt (Nat.testBit s) y : Nat), aI y, aU] [] I2) ?_ (fun y hy ih => ?_) 0 (Nat.zero_le _) I (fun t ht => absurd ht (Nat.not_lt_zero t)) (fun _ _ => rfl)
  · intro I2 g1 g2
    refine X11_layWalk_4 (k := ?_)
    refine X11_layWalk_5 (k := ?_)
    refine X11_layWalk_6 (k := ?_)
    refine s11_places ?_
    rw [g2 61 (by decide), hI, hA.2.1]
    refine X11_layWalk_9 (kt := fun k9 => ?_) (kf := fun k9 => ?_)
    · exact h I2 g1 g2
    · omega
  · intro I2 g1 g2
    have hc := z_cnt_le (Nat.testBit s) y
    refine X11_layWalk_4 (k := ?_)
    refine X11_layWalk_5 (k := ?_)
    refine X11_layWalk_6 (k := ?_)
    refine s11_places ?_
    rw [g2 61 (by decide), hI, hA.2.1]
    refine X11_layWalk_9 (kt := fun k9 => ?_) (kf := fun k9 => ?_)
    · omega
    · refine X11_layWalk_12 (k := ?_)
      refine X11_layWalk_13 (k := ?_)
      refine X11_layWalk_14 (k := ?_)
      refine X11_layWalk_15 (k := ?_)
      refine X11_layWalk_16 (k := ?_)
      refine X11_layWalk_17 (k := ?_)
      rw [bit_of hs hy]
      refine X11_layWalk_18 (kt := fun k18 => ?_) (kf := fun k18 => ?_)
      · have e : Nat.testBit s y = false := by
          cases q : Nat.testBit s y
          · rfl
          · rw [q] at k18
            exact absurd rfl k18
        refine X11_layWalk_31 (k := ?_)
        refine X11_layWalk_34 (k := ?_)
        rw [z_cnt_f e] at ih
        refine ih I2 (fun t ht => ?_) g2
        rw [show nb (Nat.testBit s) (y + 1) t = nb (Nat.testBit s) y t from if_neg (fun q => by rw [e] at q; exact absurd q.1 (by decide))]
        exact g1 t ht
      · have e : Nat.testBit s y = true := by
          cases q : Nat.testBit s y
          · rw [q] at k18
            exact absurd k18 (by decide)
          · rfl
        refine X11_layWalk_21 (k := ?_)
        refine X11_layWalk_22 (k := ?_)
        refine X11_layWalk_25 (k := ?_)
        refine X11_layWalk_26 (k := ?_)
        refine X11_layWalk_27 (k := ?_)
        rw [Int.toNat_natCast]
        refine X11_layWalk_28 (k := ?_)
        refine X11_layWalk_31 (k := ?_)
        refine X11_layWalk_34 (k := ?_)
        rw [z_cnt_t e] at ih
        refine ih _ (fun t ht => ?_) (fun k hk => by rw [z_up_n hk]; exact g2 k hk)
        rw [z_up_s]
        by_cases z : t = z_cnt (Nat.testBit s) y
        · rw [z, zu_s, show nb (Nat.testBit s) (y + 1) (z_cnt (Nat.testBit s) y) = y from if_pos ⟨e, rfl⟩]
        · rw [zu_n z, show nb (Nat.testBit s) (y + 1) t = nb (Nat.testBit s) y t from if_neg (fun q => z q.2.symm)]
          exact g1 t (by omega)
end QE

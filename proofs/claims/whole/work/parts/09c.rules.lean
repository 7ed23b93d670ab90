theorem dX8_add_0 : decode cX8_add 0 = .ok (.aload_n 0, 1) := by decide +kernel
theorem X8_add_0 {Q : Int → z_M → Prop} {a1 : z_V} {x : Nat} {st : List z_V} {I : z_M} (k : JX8_add Q 1 [aR x, a1] (aR x :: st) I) : JX8_add Q 0 [aR x, a1] st I := g_aload_n (i := 0) (x := x) dX8_add_0 rfl rfl k
theorem dX8_add_1 : decode cX8_add 1 = .ok (.getfield 19, 3) := by decide +kernel
theorem X8_add_1 {Q : Int → z_M → Prop} {a0 a1 : z_V}  {st : List z_V} {I : z_M}  (k : JX8_add Q 4 [a0, a1] (aI (I 54 0) :: st) I) : JX8_add Q 1 [a0, a1] (aR 54 :: st) I := g_geti (ci := 8) (j := 0) (N := 7) (T := TX8) dX8_add_1 rfl rfl (by decide) (z_nc8 rfl) inlX8 (by decide) m_11_18 rfl k
theorem dX8_add_4 : decode cX8_add 4 = .ok (.sipush 150, 3) := by decide +kernel
theorem X8_add_4 {Q : Int → z_M → Prop} {a0 a1 : z_V} {st : List z_V} {I : z_M} (k : JX8_add Q 7 [a0, a1] (aI 150 :: st) I) : JX8_add Q 4 [a0, a1] st I := g_sipush (n := 150) dX8_add_4 (by decide +kernel) (by decide) k
theorem dX8_add_7 : decode cX8_add 7 = .ok (.if_icmp .lt 5, 3) := by decide +kernel
theorem X8_add_7 {Q : Int → z_M → Prop} {a0 a1 : z_V} {x y : Int} {st : List z_V} {I : z_M} (kt : x < y → JX8_add Q 12 [a0, a1] st I) (kf : y ≤ x → JX8_add Q 10 [a0, a1] st I) : JX8_add Q 7 [a0, a1] (aI y :: aI x :: st) I := g_icmp_lt dX8_add_7 (by decide) kt kf
theorem dX8_add_10 : decode cX8_add 10 = .ok (.iconst 0, 1) := by decide +kernel
theorem X8_add_10 {Q : Int → z_M → Prop} {a0 a1 : z_V} {st : List z_V} {I : z_M} (k : JX8_add Q 11 [a0, a1] (aI 0 :: st) I) : JX8_add Q 10 [a0, a1] st I := g_iconst (n := 0) dX8_add_10 (by decide) k
theorem dX8_add_11 : decode cX8_add 11 = .ok (.ireturn, 1) := by decide +kernel
theorem X8_add_11 {Q : Int → z_M → Prop} {a0 a1 : z_V} {x : Int} {I : z_M} (hx : x = 0 ∨ x = 1 := by omega) (hq : Q x I) : JX8_add Q 11 [a0, a1] [aI x] I := g_zreturn dX8_add_11 hx ⟨x, rfl, hq⟩
theorem dX8_add_12 : decode cX8_add 12 = .ok (.aload_n 0, 1) := by decide +kernel
theorem X8_add_12 {Q : Int → z_M → Prop} {a1 : z_V} {x : Nat} {st : List z_V} {I : z_M} (k : JX8_add Q 13 [aR x, a1] (aR x :: st) I) : JX8_add Q 12 [aR x, a1] st I := g_aload_n (i := 0) (x := x) dX8_add_12 rfl rfl k
theorem dX8_add_13 : decode cX8_add 13 = .ok (.getfield 9, 3) := by decide +kernel
theorem X8_add_13 {Q : Int → z_M → Prop} {a0 a1 : z_V}  {st : List z_V} {I : z_M}  (k : JX8_add Q 16 [a0, a1] (aR (55) :: st) I) : JX8_add Q 13 [a0, a1] (aR 54 :: st) I := g_getr (ci := 8) (j := 1) (N := 7) (T := TX8) dX8_add_13 rfl rfl (by decide) (z_nc8 rfl) inlX8 (by decide) m_4_15 rfl rfl k
theorem dX8_add_16 : decode cX8_add 16 = .ok (.aload_n 0, 1) := by decide +kernel
theorem X8_add_16 {Q : Int → z_M → Prop} {a1 : z_V} {x : Nat} {st : List z_V} {I : z_M} (k : JX8_add Q 17 [aR x, a1] (aR x :: st) I) : JX8_add Q 16 [aR x, a1] st I := g_aload_n (i := 0) (x := x) dX8_add_16 rfl rfl k
theorem dX8_add_17 : decode cX8_add 17 = .ok (.getfield 19, 3) := by decide +kernel
theorem X8_add_17 {Q : Int → z_M → Prop} {a0 a1 : z_V}  {st : List z_V} {I : z_M}  (k : JX8_add Q 20 [a0, a1] (aI (I 54 0) :: st) I) : JX8_add Q 17 [a0, a1] (aR 54 :: st) I := g_geti (ci := 8) (j := 0) (N := 7) (T := TX8) dX8_add_17 rfl rfl (by decide) (z_nc8 rfl) inlX8 (by decide) m_11_18 rfl k
theorem dX8_add_20 : decode cX8_add 20 = .ok (.iload_n 1, 1) := by decide +kernel
theorem X8_add_20 {Q : Int → z_M → Prop} {a0 : z_V} {x : Int} {st : List z_V} {I : z_M} (k : JX8_add Q 21 [a0, aI x] (aI x :: st) I) : JX8_add Q 20 [a0, aI x] st I := g_iload_n (i := 1) (x := x) dX8_add_20 rfl rfl k
theorem dX8_add_21 : decode cX8_add 21 = .ok (.i2b, 1) := by decide +kernel
theorem X8_add_21 {Q : Int → z_M → Prop} {a0 a1 : z_V} {x : Int} {st : List z_V} {I : z_M} (hr : -128 ≤ x ∧ x ≤ 127 := by omega) (k : JX8_add Q 22 [a0, a1] (aI x :: st) I) : JX8_add Q 21 [a0, a1] (aI x :: st) I := g_i2b dX8_add_21 hr k
theorem dX8_add_22 : decode cX8_add 22 = .ok (.bastore, 1) := by decide +kernel
theorem X8_add_22 {Q : Int → z_M → Prop} {a0 a1 : z_V} {q : Nat} {i x : Int} {st : List z_V} {I : z_M} (hk : z_cl q = 21 := by first | assumption | rfl) (h0 : 0 ≤ i := by omega) (h1 : i < z_n q := by first | omega | (simp only [zn_1, zn_9, zn_10, zn_11, zn_12, zn_13, zn_14, zn_15, zn_16, zn_18, zn_20, zn_21, zn_22, zn_23, zn_24, zn_25, zn_26, zn_27, zn_29, zn_30, zn_53, zn_55, zn_56, zn_58, zn_59, zn_61, zn_62, zn_63, zn_64, zn_65, zn_66, zn_67, zn_68, zn_69, zn_70, zn_71, zn_72, zn_73]; omega)) (hx : -128 ≤ x ∧ x ≤ 127 := by omega) (k : JX8_add Q 23 [a0, a1] st (z_up I q i.toNat x)) : JX8_add Q 22 [a0, a1] (aI x :: aI i :: aR q :: st) I := g_bast dX8_add_22 hk h0 h1 hx k
theorem X8_add_22z {Q : Int → z_M → Prop} {a0 a1 : z_V} {q : Nat} {i x : Int} {st : List z_V} {I : z_M} (hk : z_cl q = 22 := by first | assumption | rfl) (h0 : 0 ≤ i := by omega) (h1 : i < z_n q := by first | omega | (simp only [zn_1, zn_9, zn_10, zn_11, zn_12, zn_13, zn_14, zn_15, zn_16, zn_18, zn_20, zn_21, zn_22, zn_23, zn_24, zn_25, zn_26, zn_27, zn_29, zn_30, zn_53, zn_55, zn_56, zn_58, zn_59, zn_61, zn_62, zn_63, zn_64, zn_65, zn_66, zn_67, zn_68, zn_69, zn_70, zn_71, zn_72, zn_73]; omega)) (hx : x = 0 ∨ x = 1 := by omega) (k : JX8_add Q 23 [a0, a1] st (z_up I q i.toNat x)) : JX8_add Q 22 [a0, a1] (aI x :: aI i :: aR q :: st) I := g_zast dX8_add_22 hk h0 h1 hx k
theorem dX8_add_23 : decode cX8_add 23 = .ok (.aload_n 0, 1) := by decide +kernel
theorem X8_add_23 {Q : Int → z_M → Prop} {a1 : z_V} {x : Nat} {st : List z_V} {I : z_M} (k : JX8_add Q 24 [aR x, a1] (aR x :: st) I) : JX8_add Q 23 [aR x, a1] st I := g_aload_n (i := 0) (x := x) dX8_add_23 rfl rfl k
theorem dX8_add_24 : decode cX8_add 24 = .ok (.dup, 1) := by decide +kernel
theorem X8_add_24 {Q : Int → z_M → Prop} {a0 a1 : z_V} {x : z_V} {st : List z_V} {I : z_M} (hx : ∀ z, x ≠ aL z := by intro z q; cases q) (k : JX8_add Q 25 [a0, a1] (x :: x :: st) I) : JX8_add Q 24 [a0, a1] (x :: st) I := g_dup dX8_add_24 hx k
theorem dX8_add_25 : decode cX8_add 25 = .ok (.getfield 19, 3) := by decide +kernel
theorem X8_add_25 {Q : Int → z_M → Prop} {a0 a1 : z_V}  {st : List z_V} {I : z_M}  (k : JX8_add Q 28 [a0, a1] (aI (I 54 0) :: st) I) : JX8_add Q 25 [a0, a1] (aR 54 :: st) I := g_geti (ci := 8) (j := 0) (N := 7) (T := TX8) dX8_add_25 rfl rfl (by decide) (z_nc8 rfl) inlX8 (by decide) m_11_18 rfl k
theorem dX8_add_28 : decode cX8_add 28 = .ok (.iconst 1, 1) := by decide +kernel
theorem X8_add_28 {Q : Int → z_M → Prop} {a0 a1 : z_V} {st : List z_V} {I : z_M} (k : JX8_add Q 29 [a0, a1] (aI 1 :: st) I) : JX8_add Q 28 [a0, a1] st I := g_iconst (n := 1) dX8_add_28 (by decide) k
theorem dX8_add_29 : decode cX8_add 29 = .ok (.iadd, 1) := by decide +kernel
theorem X8_add_29 {Q : Int → z_M → Prop} {a0 a1 : z_V} {x y : Int} {st : List z_V} {I : z_M} (hr : inI (x + y) := by omega) (k : JX8_add Q 30 [a0, a1] (aI (x + y) :: st) I) : JX8_add Q 29 [a0, a1] (aI y :: aI x :: st) I := g_iadd dX8_add_29 hr k
theorem X8_add_29w {Q : Int → z_M → Prop} {a0 a1 : z_V} {x y : Int} {st : List z_V} {I : z_M} (k : JX8_add Q 30 [a0, a1] (aI (i32 (x + y)) :: st) I) : JX8_add Q 29 [a0, a1] (aI y :: aI x :: st) I := g_iaddw dX8_add_29 k
theorem dX8_add_30 : decode cX8_add 30 = .ok (.putfield 19, 3) := by decide +kernel
theorem X8_add_30 {Q : Int → z_M → Prop} {a0 a1 : z_V}  {x : Int} {st : List z_V} {I : z_M}  (k : JX8_add Q 33 [a0, a1] st (z_up I 54 0 x)) : JX8_add Q 30 [a0, a1] (aI x :: aR 54 :: st) I := g_puti (ci := 8) (j := 0) (N := 7) (T := TX8) dX8_add_30 rfl rfl (by decide) (z_nc8 rfl) inlX8 tyX8_ok nmX8 (by decide) m_11_18 rfl (tyX8_ok 0 (by decide)) rfl k
theorem dX8_add_33 : decode cX8_add 33 = .ok (.iconst 1, 1) := by decide +kernel
theorem X8_add_33 {Q : Int → z_M → Prop} {a0 a1 : z_V} {st : List z_V} {I : z_M} (k : JX8_add Q 34 [a0, a1] (aI 1 :: st) I) : JX8_add Q 33 [a0, a1] st I := g_iconst (n := 1) dX8_add_33 (by decide) k
theorem dX8_add_34 : decode cX8_add 34 = .ok (.ireturn, 1) := by decide +kernel
theorem X8_add_34 {Q : Int → z_M → Prop} {a0 a1 : z_V} {x : Int} {I : z_M} (hx : x = 0 ∨ x = 1 := by omega) (hq : Q x I) : JX8_add Q 34 [a0, a1] [aI x] I := g_zreturn dX8_add_34 hx ⟨x, rfl, hq⟩
theorem dX8_readInto_0 : decode cX8_readInto 0 = .ok (.aload_n 1, 1) := by decide +kernel
theorem X8_readInto_0 {Q : Int → z_M → Prop} {a0 a2 : z_V} {x : Nat} {st : List z_V} {I : z_M} (k : JX8_readInto Q 1 [a0, aR x, a2] (aR x :: st) I) : JX8_readInto Q 0 [a0, aR x, a2] st I := g_aload_n (i := 1) (x := x) dX8_readInto_0 rfl rfl k
theorem dX8_readInto_1 : decode cX8_readInto 1 = .ok (.invokevirtual 23, 3) := by decide +kernel
theorem X8_readInto_1 {Q : Int → z_M → Prop} {a0 a1 a2 : z_V} {b : Nat}  {st : List z_V} {I : z_M} (hb : z_cl b = 4 := by first | assumption | rfl) (hst : z_sw st ≤ 8 := by exact Nat.le_of_ble_eq_true rfl) (k : CX4_reset (aR b :: []) I (fun I9 => JX8_readInto Q 4 [a0, a1, a2] st I9)) : JX8_readInto Q 1 [a0, a1, a2] (aR b :: st) I := g_callV (C := RX4) (ci := 4) (As := []) (n := 0) dX8_readInto_1 ⟨m_5_23, pdX4_reset, ⟨by decide, by decide⟩, rfl, rfl, by decide, by decide⟩ m_12_20 m_5_21 m_5_22 m_2_9 rfl hb (by decide) rfl rfl hst k (fun r I9 h => by obtain ⟨rfl, h⟩ := h; exact h)
theorem dX8_readInto_4 : decode cX8_readInto 4 = .ok (.aload_n 0, 1) := by decide +kernel
theorem X8_readInto_4 {Q : Int → z_M → Prop} {a1 a2 : z_V} {x : Nat} {st : List z_V} {I : z_M} (k : JX8_readInto Q 5 [aR x, a1, a2] (aR x :: st) I) : JX8_readInto Q 4 [aR x, a1, a2] st I := g_aload_n (i := 0) (x := x) dX8_readInto_4 rfl rfl k
theorem dX8_readInto_5 : decode cX8_readInto 5 = .ok (.iconst 0, 1) := by decide +kernel
theorem X8_readInto_5 {Q : Int → z_M → Prop} {a0 a1 a2 : z_V} {st : List z_V} {I : z_M} (k : JX8_readInto Q 6 [a0, a1, a2] (aI 0 :: st) I) : JX8_readInto Q 5 [a0, a1, a2] st I := g_iconst (n := 0) dX8_readInto_5 (by decide) k
theorem dX8_readInto_6 : decode cX8_readInto 6 = .ok (.putfield 28, 3) := by decide +kernel
theorem X8_readInto_6 {Q : Int → z_M → Prop} {a0 a1 a2 : z_V}  {x : Int} {st : List z_V} {I : z_M}  (k : JX8_readInto Q 9 [a0, a1, a2] st (z_up I 54 5 x)) : JX8_readInto Q 6 [a0, a1, a2] (aI x :: aR 54 :: st) I := g_puti (ci := 8) (j := 5) (N := 7) (T := TX8) dX8_readInto_6 rfl rfl (by decide) (z_nc8 rfl) inlX8 tyX8_ok nmX8 (by decide) m_12_17 rfl (tyX8_ok 5 (by decide)) rfl k
theorem dX8_readInto_9 : decode cX8_readInto 9 = .ok (.aload_n 0, 1) := by decide +kernel
theorem X8_readInto_9 {Q : Int → z_M → Prop} {a1 a2 : z_V} {x : Nat} {st : List z_V} {I : z_M} (k : JX8_readInto Q 10 [aR x, a1, a2] (aR x :: st) I) : JX8_readInto Q 9 [aR x, a1, a2] st I := g_aload_n (i := 0) (x := x) dX8_readInto_9 rfl rfl k
theorem dX8_readInto_10 : decode cX8_readInto 10 = .ok (.invokevirtual 31, 3) := by decide +kernel
theorem X8_readInto_10 {Q : Int → z_M → Prop} {a0 a1 a2 : z_V}   {st : List z_V} {I : z_M}  (hst : z_sw st ≤ 8 := by exact Nat.le_of_ble_eq_true rfl) (k : CX8_step (aR 54 :: []) I (fun I9 => JX8_readInto Q 13 [a0, a1, a2] st I9)) : JX8_readInto Q 10 [a0, a1, a2] (aR 54 :: st) I := g_callV (C := RX8) (ci := 8) (As := []) (n := 0) dX8_readInto_10 ⟨m_13_0, pdX8_step, ⟨by decide, by decide⟩, rfl, rfl, by decide, by decide⟩ m_12_21 m_12_22 m_12_23 m_2_17 rfl rfl (by decide) rfl rfl hst k (fun r I9 h => by obtain ⟨rfl, h⟩ := h; exact h)
theorem dX8_readInto_13 : decode cX8_readInto 13 = .ok (.aload_n 0, 1) := by decide +kernel
theorem X8_readInto_13 {Q : Int → z_M → Prop} {a1 a2 : z_V} {x : Nat} {st : List z_V} {I : z_M} (k : JX8_readInto Q 14 [aR x, a1, a2] (aR x :: st) I) : JX8_readInto Q 13 [aR x, a1, a2] st I := g_aload_n (i := 0) (x := x) dX8_readInto_13 rfl rfl k
theorem dX8_readInto_14 : decode cX8_readInto 14 = .ok (.ldc 34, 2) := by decide +kernel
-- X8_readInto_14: a string constant
theorem dX8_readInto_16 : decode cX8_readInto 16 = .ok (.invokevirtual 36, 3) := by decide +kernel
theorem X8_readInto_16 {Q : Int → z_M → Prop} {a0 a1 a2 : z_V}  {x0 : Nat} {st : List z_V} {I : z_M}  (hst : z_sw st ≤ 8 := by exact Nat.le_of_ble_eq_true rfl) (k : CX8_isWord (aR 54 :: [aR x0]) I (fun x9 I9 => JX8_readInto Q 19 [a0, a1, a2] (aI x9 :: st) I9)) : JX8_readInto Q 16 [a0, a1, a2] (aR x0 :: aR 54 :: st) I := g_callV (C := RX8) (ci := 8) (As := [aR x0]) (n := 1) dX8_readInto_16 ⟨m_13_11, pdX8_isWord, ⟨by decide, by decide⟩, rfl, rfl, by decide, by decide⟩ m_13_8 m_13_9 m_13_10 m_2_17 rfl rfl (by decide) rfl rfl hst k (fun r I9 h => by obtain ⟨x9, rfl, h⟩ := h; exact h)
theorem dX8_readInto_19 : decode cX8_readInto 19 = .ok (.ifCond .eq 11, 3) := by decide +kernel
theorem X8_readInto_19 {Q : Int → z_M → Prop} {a0 a1 a2 : z_V} {x : Int} {st : List z_V} {I : z_M} (kt : x = 0 → JX8_readInto Q 30 [a0, a1, a2] st I) (kf : x ≠ 0 → JX8_readInto Q 22 [a0, a1, a2] st I) : JX8_readInto Q 19 [a0, a1, a2] (aI x :: st) I := g_if_eq dX8_readInto_19 (by decide) kt kf
theorem dX8_readInto_22 : decode cX8_readInto 22 = .ok (.aload_n 0, 1) := by decide +kernel
theorem X8_readInto_22 {Q : Int → z_M → Prop} {a1 a2 : z_V} {x : Nat} {st : List z_V} {I : z_M} (k : JX8_readInto Q 23 [aR x, a1, a2] (aR x :: st) I) : JX8_readInto Q 22 [aR x, a1, a2] st I := g_aload_n (i := 0) (x := x) dX8_readInto_22 rfl rfl k
theorem dX8_readInto_23 : decode cX8_readInto 23 = .ok (.iconst 3, 1) := by decide +kernel
theorem X8_readInto_23 {Q : Int → z_M → Prop} {a0 a1 a2 : z_V} {st : List z_V} {I : z_M} (k : JX8_readInto Q 24 [a0, a1, a2] (aI 3 :: st) I) : JX8_readInto Q 23 [a0, a1, a2] st I := g_iconst (n := 3) dX8_readInto_23 (by decide) k
theorem dX8_readInto_24 : decode cX8_readInto 24 = .ok (.invokevirtual 40, 3) := by decide +kernel
theorem X8_readInto_24 {Q : Int → z_M → Prop} {a0 a1 a2 : z_V}  {x0 : Int} {st : List z_V} {I : z_M}  (hst : z_sw st ≤ 8 := by exact Nat.le_of_ble_eq_true rfl) (k : CX8_stepTo (aR 54 :: [aI x0]) I (fun x9 I9 => JX8_readInto Q 27 [a0, a1, a2] (aI x9 :: st) I9)) : JX8_readInto Q 24 [a0, a1, a2] (aI x0 :: aR 54 :: st) I := g_callV (C := RX8) (ci := 8) (As := [aI x0]) (n := 1) dX8_readInto_24 ⟨m_15_16, pdX8_stepTo, ⟨by decide, by decide⟩, rfl, rfl, by decide, by decide⟩ m_15_13 m_15_14 m_15_15 m_2_17 rfl rfl (by decide) rfl rfl hst k (fun r I9 h => by obtain ⟨x9, rfl, h⟩ := h; exact h)
theorem dX8_readInto_27 : decode cX8_readInto 27 = .ok (.ifCond .ne 11, 3) := by decide +kernel
theorem X8_readInto_27 {Q : Int → z_M → Prop} {a0 a1 a2 : z_V} {x : Int} {st : List z_V} {I : z_M} (kt : x ≠ 0 → JX8_readInto Q 38 [a0, a1, a2] st I) (kf : x = 0 → JX8_readInto Q 30 [a0, a1, a2] st I) : JX8_readInto Q 27 [a0, a1, a2] (aI x :: st) I := g_if_ne dX8_readInto_27 (by decide) kt kf
theorem dX8_readInto_30 : decode cX8_readInto 30 = .ok (.bipush (-10), 2) := by decide +kernel
theorem X8_readInto_30 {Q : Int → z_M → Prop} {a0 a1 a2 : z_V} {st : List z_V} {I : z_M} (k : JX8_readInto Q 32 [a0, a1, a2] (aI (-10) :: st) I) : JX8_readInto Q 30 [a0, a1, a2] st I := g_bipush (n := (-10)) dX8_readInto_30 (by decide +kernel) (by decide) k
theorem dX8_readInto_32 : decode cX8_readInto 32 = .ok (.aload_n 0, 1) := by decide +kernel
theorem X8_readInto_32 {Q : Int → z_M → Prop} {a1 a2 : z_V} {x : Nat} {st : List z_V} {I : z_M} (k : JX8_readInto Q 33 [aR x, a1, a2] (aR x :: st) I) : JX8_readInto Q 32 [aR x, a1, a2] st I := g_aload_n (i := 0) (x := x) dX8_readInto_32 rfl rfl k
theorem dX8_readInto_33 : decode cX8_readInto 33 = .ok (.getfield 44, 3) := by decide +kernel
theorem X8_readInto_33 {Q : Int → z_M → Prop} {a0 a1 a2 : z_V}  {st : List z_V} {I : z_M}  (k : JX8_readInto Q 36 [a0, a1, a2] (aI (I 54 4) :: st) I) : JX8_readInto Q 33 [a0, a1, a2] (aR 54 :: st) I := g_geti (ci := 8) (j := 4) (N := 7) (T := TX8) dX8_readInto_33 rfl rfl (by decide) (z_nc8 rfl) inlX8 (by decide) m_12_18 rfl k
theorem dX8_readInto_36 : decode cX8_readInto 36 = .ok (.isub, 1) := by decide +kernel
theorem X8_readInto_36 {Q : Int → z_M → Prop} {a0 a1 a2 : z_V} {x y : Int} {st : List z_V} {I : z_M} (hr : inI (x - y) := by omega) (k : JX8_readInto Q 37 [a0, a1, a2] (aI (x - y) :: st) I) : JX8_readInto Q 36 [a0, a1, a2] (aI y :: aI x :: st) I := g_isub dX8_readInto_36 hr k
theorem X8_readInto_36w {Q : Int → z_M → Prop} {a0 a1 a2 : z_V} {x y : Int} {st : List z_V} {I : z_M} (k : JX8_readInto Q 37 [a0, a1, a2] (aI (i32 (x - y)) :: st) I) : JX8_readInto Q 36 [a0, a1, a2] (aI y :: aI x :: st) I := g_isubw dX8_readInto_36 k
theorem dX8_readInto_37 : decode cX8_readInto 37 = .ok (.ireturn, 1) := by decide +kernel
theorem X8_readInto_37 {Q : Int → z_M → Prop} {a0 a1 a2 : z_V} {x : Int} {I : z_M} (hq : Q x I) : JX8_readInto Q 37 [a0, a1, a2] [aI x] I := g_ireturn dX8_readInto_37 ⟨x, rfl, hq⟩
theorem dX8_readInto_38 : decode cX8_readInto 38 = .ok (.iconst 1, 1) := by decide +kernel
theorem X8_readInto_38 {Q : Int → z_M → Prop} {a0 a1 a2 : z_V} {st : List z_V} {I : z_M} (k : JX8_readInto Q 39 [a0, a1, a2] (aI 1 :: st) I) : JX8_readInto Q 38 [a0, a1, a2] st I := g_iconst (n := 1) dX8_readInto_38 (by decide) k
theorem dX8_readInto_39 : decode cX8_readInto 39 = .ok (.istore_n 2, 1) := by decide +kernel
theorem X8_readInto_39 {Q : Int → z_M → Prop} {a0 a1 a2 : z_V} {x : Int} {st : List z_V} {I : z_M} (hb : z_nl [a0, a1, a2] 2 = true := by rfl) (k : JX8_readInto Q 40 [a0, a1, aI x] st I) : JX8_readInto Q 39 [a0, a1, a2] (aI x :: st) I := g_istore_n (i := 2) (x := x) dX8_readInto_39 rfl (show 2 < 3 from by decide) hb k
theorem dX8_readInto_40 : decode cX8_readInto 40 = .ok (.iload_n 2, 1) := by decide +kernel
theorem X8_readInto_40 {Q : Int → z_M → Prop} {a0 a1 : z_V} {x : Int} {st : List z_V} {I : z_M} (k : JX8_readInto Q 41 [a0, a1, aI x] (aI x :: st) I) : JX8_readInto Q 40 [a0, a1, aI x] st I := g_iload_n (i := 2) (x := x) dX8_readInto_40 rfl rfl k
theorem dX8_readInto_41 : decode cX8_readInto 41 = .ok (.sipush 150, 3) := by decide +kernel
theorem X8_readInto_41 {Q : Int → z_M → Prop} {a0 a1 a2 : z_V} {st : List z_V} {I : z_M} (k : JX8_readInto Q 44 [a0, a1, a2] (aI 150 :: st) I) : JX8_readInto Q 41 [a0, a1, a2] st I := g_sipush (n := 150) dX8_readInto_41 (by decide +kernel) (by decide) k
theorem dX8_readInto_44 : decode cX8_readInto 44 = .ok (.if_icmp .gt 38, 3) := by decide +kernel
theorem X8_readInto_44 {Q : Int → z_M → Prop} {a0 a1 a2 : z_V} {x y : Int} {st : List z_V} {I : z_M} (kt : y < x → JX8_readInto Q 82 [a0, a1, a2] st I) (kf : x ≤ y → JX8_readInto Q 47 [a0, a1, a2] st I) : JX8_readInto Q 44 [a0, a1, a2] (aI y :: aI x :: st) I := g_icmp_gt dX8_readInto_44 (by decide) kt kf
theorem dX8_readInto_47 : decode cX8_readInto 47 = .ok (.aload_n 0, 1) := by decide +kernel
theorem X8_readInto_47 {Q : Int → z_M → Prop} {a1 a2 : z_V} {x : Nat} {st : List z_V} {I : z_M} (k : JX8_readInto Q 48 [aR x, a1, a2] (aR x :: st) I) : JX8_readInto Q 47 [aR x, a1, a2] st I := g_aload_n (i := 0) (x := x) dX8_readInto_47 rfl rfl k
theorem dX8_readInto_48 : decode cX8_readInto 48 = .ok (.invokevirtual 31, 3) := by decide +kernel
theorem X8_readInto_48 {Q : Int → z_M → Prop} {a0 a1 a2 : z_V}   {st : List z_V} {I : z_M}  (hst : z_sw st ≤ 8 := by exact Nat.le_of_ble_eq_true rfl) (k : CX8_step (aR 54 :: []) I (fun I9 => JX8_readInto Q 51 [a0, a1, a2] st I9)) : JX8_readInto Q 48 [a0, a1, a2] (aR 54 :: st) I := g_callV (C := RX8) (ci := 8) (As := []) (n := 0) dX8_readInto_48 ⟨m_13_0, pdX8_step, ⟨by decide, by decide⟩, rfl, rfl, by decide, by decide⟩ m_12_21 m_12_22 m_12_23 m_2_17 rfl rfl (by decide) rfl rfl hst k (fun r I9 h => by obtain ⟨rfl, h⟩ := h; exact h)
theorem dX8_readInto_51 : decode cX8_readInto 51 = .ok (.aload_n 0, 1) := by decide +kernel
theorem X8_readInto_51 {Q : Int → z_M → Prop} {a1 a2 : z_V} {x : Nat} {st : List z_V} {I : z_M} (k : JX8_readInto Q 52 [aR x, a1, a2] (aR x :: st) I) : JX8_readInto Q 51 [aR x, a1, a2] st I := g_aload_n (i := 0) (x := x) dX8_readInto_51 rfl rfl k
theorem dX8_readInto_52 : decode cX8_readInto 52 = .ok (.getfield 47, 3) := by decide +kernel
theorem X8_readInto_52 {Q : Int → z_M → Prop} {a0 a1 a2 : z_V}  {st : List z_V} {I : z_M}  (k : JX8_readInto Q 55 [a0, a1, a2] (aI (I 54 3) :: st) I) : JX8_readInto Q 52 [a0, a1, a2] (aR 54 :: st) I := g_geti (ci := 8) (j := 3) (N := 7) (T := TX8) dX8_readInto_52 rfl rfl (by decide) (z_nc8 rfl) inlX8 (by decide) m_12_19 rfl k
theorem dX8_readInto_55 : decode cX8_readInto 55 = .ok (.ifCond .ne 5, 3) := by decide +kernel
theorem X8_readInto_55 {Q : Int → z_M → Prop} {a0 a1 a2 : z_V} {x : Int} {st : List z_V} {I : z_M} (kt : x ≠ 0 → JX8_readInto Q 60 [a0, a1, a2] st I) (kf : x = 0 → JX8_readInto Q 58 [a0, a1, a2] st I) : JX8_readInto Q 55 [a0, a1, a2] (aI x :: st) I := g_if_ne dX8_readInto_55 (by decide) kt kf
theorem dX8_readInto_58 : decode cX8_readInto 58 = .ok (.iload_n 2, 1) := by decide +kernel
theorem X8_readInto_58 {Q : Int → z_M → Prop} {a0 a1 : z_V} {x : Int} {st : List z_V} {I : z_M} (k : JX8_readInto Q 59 [a0, a1, aI x] (aI x :: st) I) : JX8_readInto Q 58 [a0, a1, aI x] st I := g_iload_n (i := 2) (x := x) dX8_readInto_58 rfl rfl k
theorem dX8_readInto_59 : decode cX8_readInto 59 = .ok (.ireturn, 1) := by decide +kernel
theorem X8_readInto_59 {Q : Int → z_M → Prop} {a0 a1 a2 : z_V} {x : Int} {I : z_M} (hq : Q x I) : JX8_readInto Q 59 [a0, a1, a2] [aI x] I := g_ireturn dX8_readInto_59 ⟨x, rfl, hq⟩
theorem dX8_readInto_60 : decode cX8_readInto 60 = .ok (.aload_n 0, 1) := by decide +kernel
theorem X8_readInto_60 {Q : Int → z_M → Prop} {a1 a2 : z_V} {x : Nat} {st : List z_V} {I : z_M} (k : JX8_readInto Q 61 [aR x, a1, a2] (aR x :: st) I) : JX8_readInto Q 60 [aR x, a1, a2] st I := g_aload_n (i := 0) (x := x) dX8_readInto_60 rfl rfl k
theorem dX8_readInto_61 : decode cX8_readInto 61 = .ok (.aload_n 1, 1) := by decide +kernel
theorem X8_readInto_61 {Q : Int → z_M → Prop} {a0 a2 : z_V} {x : Nat} {st : List z_V} {I : z_M} (k : JX8_readInto Q 62 [a0, aR x, a2] (aR x :: st) I) : JX8_readInto Q 61 [a0, aR x, a2] st I := g_aload_n (i := 1) (x := x) dX8_readInto_61 rfl rfl k
theorem dX8_readInto_62 : decode cX8_readInto 62 = .ok (.invokevirtual 50, 3) := by decide +kernel
theorem X8_readInto_62 {Q : Int → z_M → Prop} {a0 a1 a2 : z_V}  {x0 : Nat} {st : List z_V} {I : z_M}  (hst : z_sw st ≤ 8 := by exact Nat.le_of_ble_eq_true rfl) (k : CX8_readItem (aR 54 :: [aR x0]) I (fun x9 I9 => JX8_readInto Q 65 [a0, a1, a2] (aI x9 :: st) I9)) : JX8_readInto Q 62 [a0, a1, a2] (aR x0 :: aR 54 :: st) I := g_callV (C := RX8) (ci := 8) (As := [aR x0]) (n := 1) dX8_readInto_62 ⟨m_15_20, pdX8_readItem, ⟨by decide, by decide⟩, rfl, rfl, by decide, by decide⟩ m_15_17 m_15_18 m_15_19 m_2_17 rfl rfl (by decide) rfl rfl hst k (fun r I9 h => by obtain ⟨x9, rfl, h⟩ := h; exact h)
theorem dX8_readInto_65 : decode cX8_readInto 65 = .ok (.ifCond .ne 11, 3) := by decide +kernel
theorem X8_readInto_65 {Q : Int → z_M → Prop} {a0 a1 a2 : z_V} {x : Int} {st : List z_V} {I : z_M} (kt : x ≠ 0 → JX8_readInto Q 76 [a0, a1, a2] st I) (kf : x = 0 → JX8_readInto Q 68 [a0, a1, a2] st I) : JX8_readInto Q 65 [a0, a1, a2] (aI x :: st) I := g_if_ne dX8_readInto_65 (by decide) kt kf
theorem dX8_readInto_68 : decode cX8_readInto 68 = .ok (.bipush (-10), 2) := by decide +kernel
theorem X8_readInto_68 {Q : Int → z_M → Prop} {a0 a1 a2 : z_V} {st : List z_V} {I : z_M} (k : JX8_readInto Q 70 [a0, a1, a2] (aI (-10) :: st) I) : JX8_readInto Q 68 [a0, a1, a2] st I := g_bipush (n := (-10)) dX8_readInto_68 (by decide +kernel) (by decide) k
theorem dX8_readInto_70 : decode cX8_readInto 70 = .ok (.aload_n 0, 1) := by decide +kernel
theorem X8_readInto_70 {Q : Int → z_M → Prop} {a1 a2 : z_V} {x : Nat} {st : List z_V} {I : z_M} (k : JX8_readInto Q 71 [aR x, a1, a2] (aR x :: st) I) : JX8_readInto Q 70 [aR x, a1, a2] st I := g_aload_n (i := 0) (x := x) dX8_readInto_70 rfl rfl k
theorem dX8_readInto_71 : decode cX8_readInto 71 = .ok (.getfield 44, 3) := by decide +kernel
theorem X8_readInto_71 {Q : Int → z_M → Prop} {a0 a1 a2 : z_V}  {st : List z_V} {I : z_M}  (k : JX8_readInto Q 74 [a0, a1, a2] (aI (I 54 4) :: st) I) : JX8_readInto Q 71 [a0, a1, a2] (aR 54 :: st) I := g_geti (ci := 8) (j := 4) (N := 7) (T := TX8) dX8_readInto_71 rfl rfl (by decide) (z_nc8 rfl) inlX8 (by decide) m_12_18 rfl k
theorem dX8_readInto_74 : decode cX8_readInto 74 = .ok (.isub, 1) := by decide +kernel
theorem X8_readInto_74 {Q : Int → z_M → Prop} {a0 a1 a2 : z_V} {x y : Int} {st : List z_V} {I : z_M} (hr : inI (x - y) := by omega) (k : JX8_readInto Q 75 [a0, a1, a2] (aI (x - y) :: st) I) : JX8_readInto Q 74 [a0, a1, a2] (aI y :: aI x :: st) I := g_isub dX8_readInto_74 hr k
theorem X8_readInto_74w {Q : Int → z_M → Prop} {a0 a1 a2 : z_V} {x y : Int} {st : List z_V} {I : z_M} (k : JX8_readInto Q 75 [a0, a1, a2] (aI (i32 (x - y)) :: st) I) : JX8_readInto Q 74 [a0, a1, a2] (aI y :: aI x :: st) I := g_isubw dX8_readInto_74 k
theorem dX8_readInto_75 : decode cX8_readInto 75 = .ok (.ireturn, 1) := by decide +kernel
theorem X8_readInto_75 {Q : Int → z_M → Prop} {a0 a1 a2 : z_V} {x : Int} {I : z_M} (hq : Q x I) : JX8_readInto Q 75 [a0, a1, a2] [aI x] I := g_ireturn dX8_readInto_75 ⟨x, rfl, hq⟩
theorem dX8_readInto_76 : decode cX8_readInto 76 = .ok (.iinc 2 1, 3) := by decide +kernel
theorem X8_readInto_76 {Q : Int → z_M → Prop} {a0 a1 : z_V} {x : Int} {st : List z_V} {I : z_M} (hb : z_nl [a0, a1, aI x] 2 = true := by rfl) (hr : inI (x + 1) := by omega) (k : JX8_readInto Q 79 [a0, a1, aI (x + 1)] st I) : JX8_readInto Q 76 [a0, a1, aI x] st I := g_iinc (i := 2) (x := x) dX8_readInto_76 rfl (show 2 < 3 from by decide) hb hr k
theorem dX8_readInto_79 : decode cX8_readInto 79 = .ok (.goto (-39), 3) := by decide +kernel
theorem X8_readInto_79 {Q : Int → z_M → Prop} {a0 a1 a2 : z_V} {st : List z_V} {I : z_M} (k : JX8_readInto Q 40 [a0, a1, a2] st I) : JX8_readInto Q 79 [a0, a1, a2] st I := g_goto dX8_readInto_79 (by decide) k
theorem dX8_readInto_82 : decode cX8_readInto 82 = .ok (.bipush (-10), 2) := by decide +kernel
theorem X8_readInto_82 {Q : Int → z_M → Prop} {a0 a1 a2 : z_V} {st : List z_V} {I : z_M} (k : JX8_readInto Q 84 [a0, a1, a2] (aI (-10) :: st) I) : JX8_readInto Q 82 [a0, a1, a2] st I := g_bipush (n := (-10)) dX8_readInto_82 (by decide +kernel) (by decide) k
theorem dX8_readInto_84 : decode cX8_readInto 84 = .ok (.aload_n 0, 1) := by decide +kernel
theorem X8_readInto_84 {Q : Int → z_M → Prop} {a1 a2 : z_V} {x : Nat} {st : List z_V} {I : z_M} (k : JX8_readInto Q 85 [aR x, a1, a2] (aR x :: st) I) : JX8_readInto Q 84 [aR x, a1, a2] st I := g_aload_n (i := 0) (x := x) dX8_readInto_84 rfl rfl k
theorem dX8_readInto_85 : decode cX8_readInto 85 = .ok (.getfield 44, 3) := by decide +kernel
theorem X8_readInto_85 {Q : Int → z_M → Prop} {a0 a1 a2 : z_V}  {st : List z_V} {I : z_M}  (k : JX8_readInto Q 88 [a0, a1, a2] (aI (I 54 4) :: st) I) : JX8_readInto Q 85 [a0, a1, a2] (aR 54 :: st) I := g_geti (ci := 8) (j := 4) (N := 7) (T := TX8) dX8_readInto_85 rfl rfl (by decide) (z_nc8 rfl) inlX8 (by decide) m_12_18 rfl k
theorem dX8_readInto_88 : decode cX8_readInto 88 = .ok (.isub, 1) := by decide +kernel
theorem X8_readInto_88 {Q : Int → z_M → Prop} {a0 a1 a2 : z_V} {x y : Int} {st : List z_V} {I : z_M} (hr : inI (x - y) := by omega) (k : JX8_readInto Q 89 [a0, a1, a2] (aI (x - y) :: st) I) : JX8_readInto Q 88 [a0, a1, a2] (aI y :: aI x :: st) I := g_isub dX8_readInto_88 hr k
theorem X8_readInto_88w {Q : Int → z_M → Prop} {a0 a1 a2 : z_V} {x y : Int} {st : List z_V} {I : z_M} (k : JX8_readInto Q 89 [a0, a1, a2] (aI (i32 (x - y)) :: st) I) : JX8_readInto Q 88 [a0, a1, a2] (aI y :: aI x :: st) I := g_isubw dX8_readInto_88 k
theorem dX8_readInto_89 : decode cX8_readInto 89 = .ok (.ireturn, 1) := by decide +kernel
theorem X8_readInto_89 {Q : Int → z_M → Prop} {a0 a1 a2 : z_V} {x : Int} {I : z_M} (hq : Q x I) : JX8_readInto Q 89 [a0, a1, a2] [aI x] I := g_ireturn dX8_readInto_89 ⟨x, rfl, hq⟩
theorem dX8_readItem_0 : decode cX8_readItem 0 = .ok (.aload_n 0, 1) := by decide +kernel
theorem X8_readItem_0 {Q : Int → z_M → Prop} {a1 : z_V} {x : Nat} {st : List z_V} {I : z_M} (k : JX8_readItem Q 1 [aR x, a1] (aR x :: st) I) : JX8_readItem Q 0 [aR x, a1] st I := g_aload_n (i := 0) (x := x) dX8_readItem_0 rfl rfl k
theorem dX8_readItem_1 : decode cX8_readItem 1 = .ok (.ldc 54, 2) := by decide +kernel
-- X8_readItem_1: a string constant
theorem dX8_readItem_3 : decode cX8_readItem 3 = .ok (.invokevirtual 36, 3) := by decide +kernel
theorem X8_readItem_3 {Q : Int → z_M → Prop} {a0 a1 : z_V}  {x0 : Nat} {st : List z_V} {I : z_M}  (hst : z_sw st ≤ 8 := by exact Nat.le_of_ble_eq_true rfl) (k : CX8_isWord (aR 54 :: [aR x0]) I (fun x9 I9 => JX8_readItem Q 6 [a0, a1] (aI x9 :: st) I9)) : JX8_readItem Q 3 [a0, a1] (aR x0 :: aR 54 :: st) I := g_callV (C := RX8) (ci := 8) (As := [aR x0]) (n := 1) dX8_readItem_3 ⟨m_13_11, pdX8_isWord, ⟨by decide, by decide⟩, rfl, rfl, by decide, by decide⟩ m_13_8 m_13_9 m_13_10 m_2_17 rfl rfl (by decide) rfl rfl hst k (fun r I9 h => by obtain ⟨x9, rfl, h⟩ := h; exact h)
theorem dX8_readItem_6 : decode cX8_readItem 6 = .ok (.ifCond .eq 25, 3) := by decide +kernel
theorem X8_readItem_6 {Q : Int → z_M → Prop} {a0 a1 : z_V} {x : Int} {st : List z_V} {I : z_M} (kt : x = 0 → JX8_readItem Q 31 [a0, a1] st I) (kf : x ≠ 0 → JX8_readItem Q 9 [a0, a1] st I) : JX8_readItem Q 6 [a0, a1] (aI x :: st) I := g_if_eq dX8_readItem_6 (by decide) kt kf
theorem dX8_readItem_9 : decode cX8_readItem 9 = .ok (.aload_n 1, 1) := by decide +kernel
theorem X8_readItem_9 {Q : Int → z_M → Prop} {a0 : z_V} {x : Nat} {st : List z_V} {I : z_M} (k : JX8_readItem Q 10 [a0, aR x] (aR x :: st) I) : JX8_readItem Q 9 [a0, aR x] st I := g_aload_n (i := 1) (x := x) dX8_readItem_9 rfl rfl k
theorem dX8_readItem_10 : decode cX8_readItem 10 = .ok (.getfield 56, 3) := by decide +kernel
theorem X8_readItem_10 {Q : Int → z_M → Prop} {a0 a1 : z_V} {b : Nat} {st : List z_V} {I : z_M} (hb : z_cl b = 4 := by first | assumption | rfl) (k : JX8_readItem Q 13 [a0, a1] (aI (I b 1) :: st) I) : JX8_readItem Q 10 [a0, a1] (aR b :: st) I := g_geti (ci := 4) (j := 1) (N := 13) (T := TX4) dX8_readItem_10 hb rfl (by decide) (z_nc4 hb) inlX4 (by decide) m_15_21 rfl k
theorem dX8_readItem_13 : decode cX8_readItem 13 = .ok (.iconst 5, 1) := by decide +kernel
theorem X8_readItem_13 {Q : Int → z_M → Prop} {a0 a1 : z_V} {st : List z_V} {I : z_M} (k : JX8_readItem Q 14 [a0, a1] (aI 5 :: st) I) : JX8_readItem Q 13 [a0, a1] st I := g_iconst (n := 5) dX8_readItem_13 (by decide) k
theorem dX8_readItem_14 : decode cX8_readItem 14 = .ok (.if_icmp .ge 15, 3) := by decide +kernel
theorem X8_readItem_14 {Q : Int → z_M → Prop} {a0 a1 : z_V} {x y : Int} {st : List z_V} {I : z_M} (kt : y ≤ x → JX8_readItem Q 29 [a0, a1] st I) (kf : x < y → JX8_readItem Q 17 [a0, a1] st I) : JX8_readItem Q 14 [a0, a1] (aI y :: aI x :: st) I := g_icmp_ge dX8_readItem_14 (by decide) kt kf
theorem dX8_readItem_17 : decode cX8_readItem 17 = .ok (.aload_n 0, 1) := by decide +kernel
theorem X8_readItem_17 {Q : Int → z_M → Prop} {a1 : z_V} {x : Nat} {st : List z_V} {I : z_M} (k : JX8_readItem Q 18 [aR x, a1] (aR x :: st) I) : JX8_readItem Q 17 [aR x, a1] st I := g_aload_n (i := 0) (x := x) dX8_readItem_17 rfl rfl k
theorem dX8_readItem_18 : decode cX8_readItem 18 = .ok (.aload_n 1, 1) := by decide +kernel
theorem X8_readItem_18 {Q : Int → z_M → Prop} {a0 : z_V} {x : Nat} {st : List z_V} {I : z_M} (k : JX8_readItem Q 19 [a0, aR x] (aR x :: st) I) : JX8_readItem Q 18 [a0, aR x] st I := g_aload_n (i := 1) (x := x) dX8_readItem_18 rfl rfl k
theorem dX8_readItem_19 : decode cX8_readItem 19 = .ok (.invokevirtual 59, 3) := by decide +kernel
theorem X8_readItem_19 {Q : Int → z_M → Prop} {a0 a1 : z_V}  {x0 : Nat} {st : List z_V} {I : z_M}  (hst : z_sw st ≤ 8 := by exact Nat.le_of_ble_eq_true rfl) (k : CX8_readPlace (aR 54 :: [aR x0]) I (fun x9 I9 => JX8_readItem Q 22 [a0, a1] (aI x9 :: st) I9)) : JX8_readItem Q 19 [a0, a1] (aR x0 :: aR 54 :: st) I := g_callV (C := RX8) (ci := 8) (As := [aR x0]) (n := 1) dX8_readItem_19 ⟨m_16_2, pdX8_readPlace, ⟨by decide, by decide⟩, rfl, rfl, by decide, by decide⟩ m_15_23 m_16_0 m_16_1 m_2_17 rfl rfl (by decide) rfl rfl hst k (fun r I9 h => by obtain ⟨x9, rfl, h⟩ := h; exact h)
theorem dX8_readItem_22 : decode cX8_readItem 22 = .ok (.ifCond .eq 7, 3) := by decide +kernel
theorem X8_readItem_22 {Q : Int → z_M → Prop} {a0 a1 : z_V} {x : Int} {st : List z_V} {I : z_M} (kt : x = 0 → JX8_readItem Q 29 [a0, a1] st I) (kf : x ≠ 0 → JX8_readItem Q 25 [a0, a1] st I) : JX8_readItem Q 22 [a0, a1] (aI x :: st) I := g_if_eq dX8_readItem_22 (by decide) kt kf
theorem dX8_readItem_25 : decode cX8_readItem 25 = .ok (.iconst 1, 1) := by decide +kernel
theorem X8_readItem_25 {Q : Int → z_M → Prop} {a0 a1 : z_V} {st : List z_V} {I : z_M} (k : JX8_readItem Q 26 [a0, a1] (aI 1 :: st) I) : JX8_readItem Q 25 [a0, a1] st I := g_iconst (n := 1) dX8_readItem_25 (by decide) k
theorem dX8_readItem_26 : decode cX8_readItem 26 = .ok (.goto 4, 3) := by decide +kernel
theorem X8_readItem_26 {Q : Int → z_M → Prop} {a0 a1 : z_V} {st : List z_V} {I : z_M} (k : JX8_readItem Q 30 [a0, a1] st I) : JX8_readItem Q 26 [a0, a1] st I := g_goto dX8_readItem_26 (by decide) k
theorem dX8_readItem_29 : decode cX8_readItem 29 = .ok (.iconst 0, 1) := by decide +kernel
theorem X8_readItem_29 {Q : Int → z_M → Prop} {a0 a1 : z_V} {st : List z_V} {I : z_M} (k : JX8_readItem Q 30 [a0, a1] (aI 0 :: st) I) : JX8_readItem Q 29 [a0, a1] st I := g_iconst (n := 0) dX8_readItem_29 (by decide) k
theorem dX8_readItem_30 : decode cX8_readItem 30 = .ok (.ireturn, 1) := by decide +kernel
theorem X8_readItem_30 {Q : Int → z_M → Prop} {a0 a1 : z_V} {x : Int} {I : z_M} (hx : x = 0 ∨ x = 1 := by omega) (hq : Q x I) : JX8_readItem Q 30 [a0, a1] [aI x] I := g_zreturn dX8_readItem_30 hx ⟨x, rfl, hq⟩
theorem dX8_readItem_31 : decode cX8_readItem 31 = .ok (.aload_n 0, 1) := by decide +kernel
theorem X8_readItem_31 {Q : Int → z_M → Prop} {a1 : z_V} {x : Nat} {st : List z_V} {I : z_M} (k : JX8_readItem Q 32 [aR x, a1] (aR x :: st) I) : JX8_readItem Q 31 [aR x, a1] st I := g_aload_n (i := 0) (x := x) dX8_readItem_31 rfl rfl k
theorem dX8_readItem_32 : decode cX8_readItem 32 = .ok (.ldc 62, 2) := by decide +kernel
-- X8_readItem_32: a string constant
theorem dX8_readItem_34 : decode cX8_readItem 34 = .ok (.invokevirtual 36, 3) := by decide +kernel
theorem X8_readItem_34 {Q : Int → z_M → Prop} {a0 a1 : z_V}  {x0 : Nat} {st : List z_V} {I : z_M}  (hst : z_sw st ≤ 8 := by exact Nat.le_of_ble_eq_true rfl) (k : CX8_isWord (aR 54 :: [aR x0]) I (fun x9 I9 => JX8_readItem Q 37 [a0, a1] (aI x9 :: st) I9)) : JX8_readItem Q 34 [a0, a1] (aR x0 :: aR 54 :: st) I := g_callV (C := RX8) (ci := 8) (As := [aR x0]) (n := 1) dX8_readItem_34 ⟨m_13_11, pdX8_isWord, ⟨by decide, by decide⟩, rfl, rfl, by decide, by decide⟩ m_13_8 m_13_9 m_13_10 m_2_17 rfl rfl (by decide) rfl rfl hst k (fun r I9 h => by obtain ⟨x9, rfl, h⟩ := h; exact h)
theorem dX8_readItem_37 : decode cX8_readItem 37 = .ok (.ifCond .eq 26, 3) := by decide +kernel
theorem X8_readItem_37 {Q : Int → z_M → Prop} {a0 a1 : z_V} {x : Int} {st : List z_V} {I : z_M} (kt : x = 0 → JX8_readItem Q 63 [a0, a1] st I) (kf : x ≠ 0 → JX8_readItem Q 40 [a0, a1] st I) : JX8_readItem Q 37 [a0, a1] (aI x :: st) I := g_if_eq dX8_readItem_37 (by decide) kt kf
theorem dX8_readItem_40 : decode cX8_readItem 40 = .ok (.aload_n 1, 1) := by decide +kernel
theorem X8_readItem_40 {Q : Int → z_M → Prop} {a0 : z_V} {x : Nat} {st : List z_V} {I : z_M} (k : JX8_readItem Q 41 [a0, aR x] (aR x :: st) I) : JX8_readItem Q 40 [a0, aR x] st I := g_aload_n (i := 1) (x := x) dX8_readItem_40 rfl rfl k
theorem dX8_readItem_41 : decode cX8_readItem 41 = .ok (.getfield 64, 3) := by decide +kernel
theorem X8_readItem_41 {Q : Int → z_M → Prop} {a0 a1 : z_V} {b : Nat} {st : List z_V} {I : z_M} (hb : z_cl b = 4 := by first | assumption | rfl) (k : JX8_readItem Q 44 [a0, a1] (aI (I b 2) :: st) I) : JX8_readItem Q 41 [a0, a1] (aR b :: st) I := g_geti (ci := 4) (j := 2) (N := 13) (T := TX4) dX8_readItem_41 hb rfl (by decide) (z_nc4 hb) inlX4 (by decide) m_15_22 rfl k
theorem dX8_readItem_44 : decode cX8_readItem 44 = .ok (.bipush 8, 2) := by decide +kernel
theorem X8_readItem_44 {Q : Int → z_M → Prop} {a0 a1 : z_V} {st : List z_V} {I : z_M} (k : JX8_readItem Q 46 [a0, a1] (aI 8 :: st) I) : JX8_readItem Q 44 [a0, a1] st I := g_bipush (n := 8) dX8_readItem_44 (by decide +kernel) (by decide) k
theorem dX8_readItem_46 : decode cX8_readItem 46 = .ok (.if_icmp .ge 15, 3) := by decide +kernel
theorem X8_readItem_46 {Q : Int → z_M → Prop} {a0 a1 : z_V} {x y : Int} {st : List z_V} {I : z_M} (kt : y ≤ x → JX8_readItem Q 61 [a0, a1] st I) (kf : x < y → JX8_readItem Q 49 [a0, a1] st I) : JX8_readItem Q 46 [a0, a1] (aI y :: aI x :: st) I := g_icmp_ge dX8_readItem_46 (by decide) kt kf
theorem dX8_readItem_49 : decode cX8_readItem 49 = .ok (.aload_n 0, 1) := by decide +kernel
theorem X8_readItem_49 {Q : Int → z_M → Prop} {a1 : z_V} {x : Nat} {st : List z_V} {I : z_M} (k : JX8_readItem Q 50 [aR x, a1] (aR x :: st) I) : JX8_readItem Q 49 [aR x, a1] st I := g_aload_n (i := 0) (x := x) dX8_readItem_49 rfl rfl k
theorem dX8_readItem_50 : decode cX8_readItem 50 = .ok (.aload_n 1, 1) := by decide +kernel
theorem X8_readItem_50 {Q : Int → z_M → Prop} {a0 : z_V} {x : Nat} {st : List z_V} {I : z_M} (k : JX8_readItem Q 51 [a0, aR x] (aR x :: st) I) : JX8_readItem Q 50 [a0, aR x] st I := g_aload_n (i := 1) (x := x) dX8_readItem_50 rfl rfl k
theorem dX8_readItem_51 : decode cX8_readItem 51 = .ok (.invokevirtual 67, 3) := by decide +kernel
theorem X8_readItem_51 {Q : Int → z_M → Prop} {a0 a1 : z_V}  {x0 : Nat} {st : List z_V} {I : z_M}  (hst : z_sw st ≤ 8 := by exact Nat.le_of_ble_eq_true rfl) (k : CX8_readPipe (aR 54 :: [aR x0]) I (fun x9 I9 => JX8_readItem Q 54 [a0, a1] (aI x9 :: st) I9)) : JX8_readItem Q 51 [a0, a1] (aR x0 :: aR 54 :: st) I := g_callV (C := RX8) (ci := 8) (As := [aR x0]) (n := 1) dX8_readItem_51 ⟨m_16_11, pdX8_readPipe, ⟨by decide, by decide⟩, rfl, rfl, by decide, by decide⟩ m_16_8 m_16_9 m_16_10 m_2_17 rfl rfl (by decide) rfl rfl hst k (fun r I9 h => by obtain ⟨x9, rfl, h⟩ := h; exact h)
theorem dX8_readItem_54 : decode cX8_readItem 54 = .ok (.ifCond .eq 7, 3) := by decide +kernel
theorem X8_readItem_54 {Q : Int → z_M → Prop} {a0 a1 : z_V} {x : Int} {st : List z_V} {I : z_M} (kt : x = 0 → JX8_readItem Q 61 [a0, a1] st I) (kf : x ≠ 0 → JX8_readItem Q 57 [a0, a1] st I) : JX8_readItem Q 54 [a0, a1] (aI x :: st) I := g_if_eq dX8_readItem_54 (by decide) kt kf
theorem dX8_readItem_57 : decode cX8_readItem 57 = .ok (.iconst 1, 1) := by decide +kernel
theorem X8_readItem_57 {Q : Int → z_M → Prop} {a0 a1 : z_V} {st : List z_V} {I : z_M} (k : JX8_readItem Q 58 [a0, a1] (aI 1 :: st) I) : JX8_readItem Q 57 [a0, a1] st I := g_iconst (n := 1) dX8_readItem_57 (by decide) k
theorem dX8_readItem_58 : decode cX8_readItem 58 = .ok (.goto 4, 3) := by decide +kernel
theorem X8_readItem_58 {Q : Int → z_M → Prop} {a0 a1 : z_V} {st : List z_V} {I : z_M} (k : JX8_readItem Q 62 [a0, a1] st I) : JX8_readItem Q 58 [a0, a1] st I := g_goto dX8_readItem_58 (by decide) k
theorem dX8_readItem_61 : decode cX8_readItem 61 = .ok (.iconst 0, 1) := by decide +kernel
theorem X8_readItem_61 {Q : Int → z_M → Prop} {a0 a1 : z_V} {st : List z_V} {I : z_M} (k : JX8_readItem Q 62 [a0, a1] (aI 0 :: st) I) : JX8_readItem Q 61 [a0, a1] st I := g_iconst (n := 0) dX8_readItem_61 (by decide) k
theorem dX8_readItem_62 : decode cX8_readItem 62 = .ok (.ireturn, 1) := by decide +kernel
theorem X8_readItem_62 {Q : Int → z_M → Prop} {a0 a1 : z_V} {x : Int} {I : z_M} (hx : x = 0 ∨ x = 1 := by omega) (hq : Q x I) : JX8_readItem Q 62 [a0, a1] [aI x] I := g_zreturn dX8_readItem_62 hx ⟨x, rfl, hq⟩
theorem dX8_readItem_63 : decode cX8_readItem 63 = .ok (.aload_n 0, 1) := by decide +kernel
theorem X8_readItem_63 {Q : Int → z_M → Prop} {a1 : z_V} {x : Nat} {st : List z_V} {I : z_M} (k : JX8_readItem Q 64 [aR x, a1] (aR x :: st) I) : JX8_readItem Q 63 [aR x, a1] st I := g_aload_n (i := 0) (x := x) dX8_readItem_63 rfl rfl k
theorem dX8_readItem_64 : decode cX8_readItem 64 = .ok (.ldc 70, 2) := by decide +kernel
-- X8_readItem_64: a string constant
theorem dX8_readItem_66 : decode cX8_readItem 66 = .ok (.invokevirtual 36, 3) := by decide +kernel
theorem X8_readItem_66 {Q : Int → z_M → Prop} {a0 a1 : z_V}  {x0 : Nat} {st : List z_V} {I : z_M}  (hst : z_sw st ≤ 8 := by exact Nat.le_of_ble_eq_true rfl) (k : CX8_isWord (aR 54 :: [aR x0]) I (fun x9 I9 => JX8_readItem Q 69 [a0, a1] (aI x9 :: st) I9)) : JX8_readItem Q 66 [a0, a1] (aR x0 :: aR 54 :: st) I := g_callV (C := RX8) (ci := 8) (As := [aR x0]) (n := 1) dX8_readItem_66 ⟨m_13_11, pdX8_isWord, ⟨by decide, by decide⟩, rfl, rfl, by decide, by decide⟩ m_13_8 m_13_9 m_13_10 m_2_17 rfl rfl (by decide) rfl rfl hst k (fun r I9 h => by obtain ⟨x9, rfl, h⟩ := h; exact h)
theorem dX8_readItem_69 : decode cX8_readItem 69 = .ok (.ifCond .eq 15, 3) := by decide +kernel
theorem X8_readItem_69 {Q : Int → z_M → Prop} {a0 a1 : z_V} {x : Int} {st : List z_V} {I : z_M} (kt : x = 0 → JX8_readItem Q 84 [a0, a1] st I) (kf : x ≠ 0 → JX8_readItem Q 72 [a0, a1] st I) : JX8_readItem Q 69 [a0, a1] (aI x :: st) I := g_if_eq dX8_readItem_69 (by decide) kt kf
theorem dX8_readItem_72 : decode cX8_readItem 72 = .ok (.aload_n 0, 1) := by decide +kernel
theorem X8_readItem_72 {Q : Int → z_M → Prop} {a1 : z_V} {x : Nat} {st : List z_V} {I : z_M} (k : JX8_readItem Q 73 [aR x, a1] (aR x :: st) I) : JX8_readItem Q 72 [aR x, a1] st I := g_aload_n (i := 0) (x := x) dX8_readItem_72 rfl rfl k
theorem dX8_readItem_73 : decode cX8_readItem 73 = .ok (.aload_n 1, 1) := by decide +kernel
theorem X8_readItem_73 {Q : Int → z_M → Prop} {a0 : z_V} {x : Nat} {st : List z_V} {I : z_M} (k : JX8_readItem Q 74 [a0, aR x] (aR x :: st) I) : JX8_readItem Q 73 [a0, aR x] st I := g_aload_n (i := 1) (x := x) dX8_readItem_73 rfl rfl k
theorem dX8_readItem_74 : decode cX8_readItem 74 = .ok (.invokevirtual 72, 3) := by decide +kernel
theorem X8_readItem_74 {Q : Int → z_M → Prop} {a0 a1 : z_V}  {x0 : Nat} {st : List z_V} {I : z_M}  (hst : z_sw st ≤ 8 := by exact Nat.le_of_ble_eq_true rfl) (k : CX8_readHymn (aR 54 :: [aR x0]) I (fun x9 I9 => JX8_readItem Q 77 [a0, a1] (aI x9 :: st) I9)) : JX8_readItem Q 74 [a0, a1] (aR x0 :: aR 54 :: st) I := g_callV (C := RX8) (ci := 8) (As := [aR x0]) (n := 1) dX8_readItem_74 ⟨m_16_16, pdX8_readHymn, ⟨by decide, by decide⟩, rfl, rfl, by decide, by decide⟩ m_16_13 m_16_14 m_16_15 m_2_17 rfl rfl (by decide) rfl rfl hst k (fun r I9 h => by obtain ⟨x9, rfl, h⟩ := h; exact h)
theorem dX8_readItem_77 : decode cX8_readItem 77 = .ok (.ifCond .eq 7, 3) := by decide +kernel
theorem X8_readItem_77 {Q : Int → z_M → Prop} {a0 a1 : z_V} {x : Int} {st : List z_V} {I : z_M} (kt : x = 0 → JX8_readItem Q 84 [a0, a1] st I) (kf : x ≠ 0 → JX8_readItem Q 80 [a0, a1] st I) : JX8_readItem Q 77 [a0, a1] (aI x :: st) I := g_if_eq dX8_readItem_77 (by decide) kt kf
theorem dX8_readItem_80 : decode cX8_readItem 80 = .ok (.iconst 1, 1) := by decide +kernel
theorem X8_readItem_80 {Q : Int → z_M → Prop} {a0 a1 : z_V} {st : List z_V} {I : z_M} (k : JX8_readItem Q 81 [a0, a1] (aI 1 :: st) I) : JX8_readItem Q 80 [a0, a1] st I := g_iconst (n := 1) dX8_readItem_80 (by decide) k
theorem dX8_readItem_81 : decode cX8_readItem 81 = .ok (.goto 4, 3) := by decide +kernel
theorem X8_readItem_81 {Q : Int → z_M → Prop} {a0 a1 : z_V} {st : List z_V} {I : z_M} (k : JX8_readItem Q 85 [a0, a1] st I) : JX8_readItem Q 81 [a0, a1] st I := g_goto dX8_readItem_81 (by decide) k
theorem dX8_readItem_84 : decode cX8_readItem 84 = .ok (.iconst 0, 1) := by decide +kernel
theorem X8_readItem_84 {Q : Int → z_M → Prop} {a0 a1 : z_V} {st : List z_V} {I : z_M} (k : JX8_readItem Q 85 [a0, a1] (aI 0 :: st) I) : JX8_readItem Q 84 [a0, a1] st I := g_iconst (n := 0) dX8_readItem_84 (by decide) k
theorem dX8_readItem_85 : decode cX8_readItem 85 = .ok (.ireturn, 1) := by decide +kernel
theorem X8_readItem_85 {Q : Int → z_M → Prop} {a0 a1 : z_V} {x : Int} {I : z_M} (hx : x = 0 ∨ x = 1 := by omega) (hq : Q x I) : JX8_readItem Q 85 [a0, a1] [aI x] I := g_zreturn dX8_readItem_85 hx ⟨x, rfl, hq⟩
theorem dX8_readPlace_0 : decode cX8_readPlace 0 = .ok (.aload_n 0, 1) := by decide +kernel
theorem X8_readPlace_0 {Q : Int → z_M → Prop} {a1 : z_V} {x : Nat} {st : List z_V} {I : z_M} (k : JX8_readPlace Q 1 [aR x, a1] (aR x :: st) I) : JX8_readPlace Q 0 [aR x, a1] st I := g_aload_n (i := 0) (x := x) dX8_readPlace_0 rfl rfl k
theorem dX8_readPlace_1 : decode cX8_readPlace 1 = .ok (.iconst 0, 1) := by decide +kernel
theorem X8_readPlace_1 {Q : Int → z_M → Prop} {a0 a1 : z_V} {st : List z_V} {I : z_M} (k : JX8_readPlace Q 2 [a0, a1] (aI 0 :: st) I) : JX8_readPlace Q 1 [a0, a1] st I := g_iconst (n := 0) dX8_readPlace_1 (by decide) k
theorem dX8_readPlace_2 : decode cX8_readPlace 2 = .ok (.bipush 11, 2) := by decide +kernel
theorem X8_readPlace_2 {Q : Int → z_M → Prop} {a0 a1 : z_V} {st : List z_V} {I : z_M} (k : JX8_readPlace Q 4 [a0, a1] (aI 11 :: st) I) : JX8_readPlace Q 2 [a0, a1] st I := g_bipush (n := 11) dX8_readPlace_2 (by decide +kernel) (by decide) k
theorem dX8_readPlace_4 : decode cX8_readPlace 4 = .ok (.invokevirtual 75, 3) := by decide +kernel
theorem X8_readPlace_4 {Q : Int → z_M → Prop} {a0 a1 : z_V}  {x0 : Int} {x1 : Int} {st : List z_V} {I : z_M}  (hst : z_sw st ≤ 8 := by exact Nat.le_of_ble_eq_true rfl) (k : CX8_readNumber (aR 54 :: [aI x0, aI x1]) I (fun x9 I9 => JX8_readPlace Q 7 [a0, a1] (aI x9 :: st) I9)) : JX8_readPlace Q 4 [a0, a1] (aI x1 :: aI x0 :: aR 54 :: st) I := g_callV (C := RX8) (ci := 8) (As := [aI x0, aI x1]) (n := 2) dX8_readPlace_4 ⟨m_16_6, pdX8_readNumber, ⟨by decide, by decide⟩, rfl, rfl, by decide, by decide⟩ m_16_3 m_16_4 m_16_5 m_2_17 rfl rfl (by decide) rfl rfl hst k (fun r I9 h => by obtain ⟨x9, rfl, h⟩ := h; exact h)
theorem dX8_readPlace_7 : decode cX8_readPlace 7 = .ok (.ifCond .eq 92, 3) := by decide +kernel
theorem X8_readPlace_7 {Q : Int → z_M → Prop} {a0 a1 : z_V} {x : Int} {st : List z_V} {I : z_M} (kt : x = 0 → JX8_readPlace Q 99 [a0, a1] st I) (kf : x ≠ 0 → JX8_readPlace Q 10 [a0, a1] st I) : JX8_readPlace Q 7 [a0, a1] (aI x :: st) I := g_if_eq dX8_readPlace_7 (by decide) kt kf
theorem dX8_readPlace_10 : decode cX8_readPlace 10 = .ok (.aload_n 0, 1) := by decide +kernel
theorem X8_readPlace_10 {Q : Int → z_M → Prop} {a1 : z_V} {x : Nat} {st : List z_V} {I : z_M} (k : JX8_readPlace Q 11 [aR x, a1] (aR x :: st) I) : JX8_readPlace Q 10 [aR x, a1] st I := g_aload_n (i := 0) (x := x) dX8_readPlace_10 rfl rfl k
theorem dX8_readPlace_11 : decode cX8_readPlace 11 = .ok (.iconst 1, 1) := by decide +kernel
theorem X8_readPlace_11 {Q : Int → z_M → Prop} {a0 a1 : z_V} {st : List z_V} {I : z_M} (k : JX8_readPlace Q 12 [a0, a1] (aI 1 :: st) I) : JX8_readPlace Q 11 [a0, a1] st I := g_iconst (n := 1) dX8_readPlace_11 (by decide) k
theorem dX8_readPlace_12 : decode cX8_readPlace 12 = .ok (.bipush 23, 2) := by decide +kernel
theorem X8_readPlace_12 {Q : Int → z_M → Prop} {a0 a1 : z_V} {st : List z_V} {I : z_M} (k : JX8_readPlace Q 14 [a0, a1] (aI 23 :: st) I) : JX8_readPlace Q 12 [a0, a1] st I := g_bipush (n := 23) dX8_readPlace_12 (by decide +kernel) (by decide) k
theorem dX8_readPlace_14 : decode cX8_readPlace 14 = .ok (.invokevirtual 75, 3) := by decide +kernel
theorem X8_readPlace_14 {Q : Int → z_M → Prop} {a0 a1 : z_V}  {x0 : Int} {x1 : Int} {st : List z_V} {I : z_M}  (hst : z_sw st ≤ 8 := by exact Nat.le_of_ble_eq_true rfl) (k : CX8_readNumber (aR 54 :: [aI x0, aI x1]) I (fun x9 I9 => JX8_readPlace Q 17 [a0, a1] (aI x9 :: st) I9)) : JX8_readPlace Q 14 [a0, a1] (aI x1 :: aI x0 :: aR 54 :: st) I := g_callV (C := RX8) (ci := 8) (As := [aI x0, aI x1]) (n := 2) dX8_readPlace_14 ⟨m_16_6, pdX8_readNumber, ⟨by decide, by decide⟩, rfl, rfl, by decide, by decide⟩ m_16_3 m_16_4 m_16_5 m_2_17 rfl rfl (by decide) rfl rfl hst k (fun r I9 h => by obtain ⟨x9, rfl, h⟩ := h; exact h)
theorem dX8_readPlace_17 : decode cX8_readPlace 17 = .ok (.ifCond .eq 82, 3) := by decide +kernel
theorem X8_readPlace_17 {Q : Int → z_M → Prop} {a0 a1 : z_V} {x : Int} {st : List z_V} {I : z_M} (kt : x = 0 → JX8_readPlace Q 99 [a0, a1] st I) (kf : x ≠ 0 → JX8_readPlace Q 20 [a0, a1] st I) : JX8_readPlace Q 17 [a0, a1] (aI x :: st) I := g_if_eq dX8_readPlace_17 (by decide) kt kf
theorem dX8_readPlace_20 : decode cX8_readPlace 20 = .ok (.aload_n 0, 1) := by decide +kernel
theorem X8_readPlace_20 {Q : Int → z_M → Prop} {a1 : z_V} {x : Nat} {st : List z_V} {I : z_M} (k : JX8_readPlace Q 21 [aR x, a1] (aR x :: st) I) : JX8_readPlace Q 20 [aR x, a1] st I := g_aload_n (i := 0) (x := x) dX8_readPlace_20 rfl rfl k
theorem dX8_readPlace_21 : decode cX8_readPlace 21 = .ok (.iconst 2, 1) := by decide +kernel
theorem X8_readPlace_21 {Q : Int → z_M → Prop} {a0 a1 : z_V} {st : List z_V} {I : z_M} (k : JX8_readPlace Q 22 [a0, a1] (aI 2 :: st) I) : JX8_readPlace Q 21 [a0, a1] st I := g_iconst (n := 2) dX8_readPlace_21 (by decide) k
theorem dX8_readPlace_22 : decode cX8_readPlace 22 = .ok (.bipush 24, 2) := by decide +kernel
theorem X8_readPlace_22 {Q : Int → z_M → Prop} {a0 a1 : z_V} {st : List z_V} {I : z_M} (k : JX8_readPlace Q 24 [a0, a1] (aI 24 :: st) I) : JX8_readPlace Q 22 [a0, a1] st I := g_bipush (n := 24) dX8_readPlace_22 (by decide +kernel) (by decide) k
theorem dX8_readPlace_24 : decode cX8_readPlace 24 = .ok (.invokevirtual 75, 3) := by decide +kernel
theorem X8_readPlace_24 {Q : Int → z_M → Prop} {a0 a1 : z_V}  {x0 : Int} {x1 : Int} {st : List z_V} {I : z_M}  (hst : z_sw st ≤ 8 := by exact Nat.le_of_ble_eq_true rfl) (k : CX8_readNumber (aR 54 :: [aI x0, aI x1]) I (fun x9 I9 => JX8_readPlace Q 27 [a0, a1] (aI x9 :: st) I9)) : JX8_readPlace Q 24 [a0, a1] (aI x1 :: aI x0 :: aR 54 :: st) I := g_callV (C := RX8) (ci := 8) (As := [aI x0, aI x1]) (n := 2) dX8_readPlace_24 ⟨m_16_6, pdX8_readNumber, ⟨by decide, by decide⟩, rfl, rfl, by decide, by decide⟩ m_16_3 m_16_4 m_16_5 m_2_17 rfl rfl (by decide) rfl rfl hst k (fun r I9 h => by obtain ⟨x9, rfl, h⟩ := h; exact h)
theorem dX8_readPlace_27 : decode cX8_readPlace 27 = .ok (.ifCond .eq 72, 3) := by decide +kernel
theorem X8_readPlace_27 {Q : Int → z_M → Prop} {a0 a1 : z_V} {x : Int} {st : List z_V} {I : z_M} (kt : x = 0 → JX8_readPlace Q 99 [a0, a1] st I) (kf : x ≠ 0 → JX8_readPlace Q 30 [a0, a1] st I) : JX8_readPlace Q 27 [a0, a1] (aI x :: st) I := g_if_eq dX8_readPlace_27 (by decide) kt kf
theorem dX8_readPlace_30 : decode cX8_readPlace 30 = .ok (.aload_n 0, 1) := by decide +kernel
theorem X8_readPlace_30 {Q : Int → z_M → Prop} {a1 : z_V} {x : Nat} {st : List z_V} {I : z_M} (k : JX8_readPlace Q 31 [aR x, a1] (aR x :: st) I) : JX8_readPlace Q 30 [aR x, a1] st I := g_aload_n (i := 0) (x := x) dX8_readPlace_30 rfl rfl k
theorem dX8_readPlace_31 : decode cX8_readPlace 31 = .ok (.iconst 3, 1) := by decide +kernel
theorem X8_readPlace_31 {Q : Int → z_M → Prop} {a0 a1 : z_V} {st : List z_V} {I : z_M} (k : JX8_readPlace Q 32 [a0, a1] (aI 3 :: st) I) : JX8_readPlace Q 31 [a0, a1] st I := g_iconst (n := 3) dX8_readPlace_31 (by decide) k
theorem dX8_readPlace_32 : decode cX8_readPlace 32 = .ok (.bipush 30, 2) := by decide +kernel
theorem X8_readPlace_32 {Q : Int → z_M → Prop} {a0 a1 : z_V} {st : List z_V} {I : z_M} (k : JX8_readPlace Q 34 [a0, a1] (aI 30 :: st) I) : JX8_readPlace Q 32 [a0, a1] st I := g_bipush (n := 30) dX8_readPlace_32 (by decide +kernel) (by decide) k
theorem dX8_readPlace_34 : decode cX8_readPlace 34 = .ok (.invokevirtual 75, 3) := by decide +kernel
theorem X8_readPlace_34 {Q : Int → z_M → Prop} {a0 a1 : z_V}  {x0 : Int} {x1 : Int} {st : List z_V} {I : z_M}  (hst : z_sw st ≤ 8 := by exact Nat.le_of_ble_eq_true rfl) (k : CX8_readNumber (aR 54 :: [aI x0, aI x1]) I (fun x9 I9 => JX8_readPlace Q 37 [a0, a1] (aI x9 :: st) I9)) : JX8_readPlace Q 34 [a0, a1] (aI x1 :: aI x0 :: aR 54 :: st) I := g_callV (C := RX8) (ci := 8) (As := [aI x0, aI x1]) (n := 2) dX8_readPlace_34 ⟨m_16_6, pdX8_readNumber, ⟨by decide, by decide⟩, rfl, rfl, by decide, by decide⟩ m_16_3 m_16_4 m_16_5 m_2_17 rfl rfl (by decide) rfl rfl hst k (fun r I9 h => by obtain ⟨x9, rfl, h⟩ := h; exact h)
theorem dX8_readPlace_37 : decode cX8_readPlace 37 = .ok (.ifCond .eq 62, 3) := by decide +kernel
theorem X8_readPlace_37 {Q : Int → z_M → Prop} {a0 a1 : z_V} {x : Int} {st : List z_V} {I : z_M} (kt : x = 0 → JX8_readPlace Q 99 [a0, a1] st I) (kf : x ≠ 0 → JX8_readPlace Q 40 [a0, a1] st I) : JX8_readPlace Q 37 [a0, a1] (aI x :: st) I := g_if_eq dX8_readPlace_37 (by decide) kt kf
theorem dX8_readPlace_40 : decode cX8_readPlace 40 = .ok (.aload_n 0, 1) := by decide +kernel
theorem X8_readPlace_40 {Q : Int → z_M → Prop} {a1 : z_V} {x : Nat} {st : List z_V} {I : z_M} (k : JX8_readPlace Q 41 [aR x, a1] (aR x :: st) I) : JX8_readPlace Q 40 [aR x, a1] st I := g_aload_n (i := 0) (x := x) dX8_readPlace_40 rfl rfl k
theorem dX8_readPlace_41 : decode cX8_readPlace 41 = .ok (.iconst 4, 1) := by decide +kernel
theorem X8_readPlace_41 {Q : Int → z_M → Prop} {a0 a1 : z_V} {st : List z_V} {I : z_M} (k : JX8_readPlace Q 42 [a0, a1] (aI 4 :: st) I) : JX8_readPlace Q 41 [a0, a1] st I := g_iconst (n := 4) dX8_readPlace_41 (by decide) k
theorem dX8_readPlace_42 : decode cX8_readPlace 42 = .ok (.bipush 30, 2) := by decide +kernel
theorem X8_readPlace_42 {Q : Int → z_M → Prop} {a0 a1 : z_V} {st : List z_V} {I : z_M} (k : JX8_readPlace Q 44 [a0, a1] (aI 30 :: st) I) : JX8_readPlace Q 42 [a0, a1] st I := g_bipush (n := 30) dX8_readPlace_42 (by decide +kernel) (by decide) k
theorem dX8_readPlace_44 : decode cX8_readPlace 44 = .ok (.invokevirtual 75, 3) := by decide +kernel
theorem X8_readPlace_44 {Q : Int → z_M → Prop} {a0 a1 : z_V}  {x0 : Int} {x1 : Int} {st : List z_V} {I : z_M}  (hst : z_sw st ≤ 8 := by exact Nat.le_of_ble_eq_true rfl) (k : CX8_readNumber (aR 54 :: [aI x0, aI x1]) I (fun x9 I9 => JX8_readPlace Q 47 [a0, a1] (aI x9 :: st) I9)) : JX8_readPlace Q 44 [a0, a1] (aI x1 :: aI x0 :: aR 54 :: st) I := g_callV (C := RX8) (ci := 8) (As := [aI x0, aI x1]) (n := 2) dX8_readPlace_44 ⟨m_16_6, pdX8_readNumber, ⟨by decide, by decide⟩, rfl, rfl, by decide, by decide⟩ m_16_3 m_16_4 m_16_5 m_2_17 rfl rfl (by decide) rfl rfl hst k (fun r I9 h => by obtain ⟨x9, rfl, h⟩ := h; exact h)
theorem dX8_readPlace_47 : decode cX8_readPlace 47 = .ok (.ifCond .eq 52, 3) := by decide +kernel
theorem X8_readPlace_47 {Q : Int → z_M → Prop} {a0 a1 : z_V} {x : Int} {st : List z_V} {I : z_M} (kt : x = 0 → JX8_readPlace Q 99 [a0, a1] st I) (kf : x ≠ 0 → JX8_readPlace Q 50 [a0, a1] st I) : JX8_readPlace Q 47 [a0, a1] (aI x :: st) I := g_if_eq dX8_readPlace_47 (by decide) kt kf
theorem dX8_readPlace_50 : decode cX8_readPlace 50 = .ok (.aload_n 0, 1) := by decide +kernel
theorem X8_readPlace_50 {Q : Int → z_M → Prop} {a1 : z_V} {x : Nat} {st : List z_V} {I : z_M} (k : JX8_readPlace Q 51 [aR x, a1] (aR x :: st) I) : JX8_readPlace Q 50 [aR x, a1] st I := g_aload_n (i := 0) (x := x) dX8_readPlace_50 rfl rfl k
theorem dX8_readPlace_51 : decode cX8_readPlace 51 = .ok (.iconst 3, 1) := by decide +kernel
theorem X8_readPlace_51 {Q : Int → z_M → Prop} {a0 a1 : z_V} {st : List z_V} {I : z_M} (k : JX8_readPlace Q 52 [a0, a1] (aI 3 :: st) I) : JX8_readPlace Q 51 [a0, a1] st I := g_iconst (n := 3) dX8_readPlace_51 (by decide) k
theorem dX8_readPlace_52 : decode cX8_readPlace 52 = .ok (.invokevirtual 40, 3) := by decide +kernel
theorem X8_readPlace_52 {Q : Int → z_M → Prop} {a0 a1 : z_V}  {x0 : Int} {st : List z_V} {I : z_M}  (hst : z_sw st ≤ 8 := by exact Nat.le_of_ble_eq_true rfl) (k : CX8_stepTo (aR 54 :: [aI x0]) I (fun x9 I9 => JX8_readPlace Q 55 [a0, a1] (aI x9 :: st) I9)) : JX8_readPlace Q 52 [a0, a1] (aI x0 :: aR 54 :: st) I := g_callV (C := RX8) (ci := 8) (As := [aI x0]) (n := 1) dX8_readPlace_52 ⟨m_15_16, pdX8_stepTo, ⟨by decide, by decide⟩, rfl, rfl, by decide, by decide⟩ m_15_13 m_15_14 m_15_15 m_2_17 rfl rfl (by decide) rfl rfl hst k (fun r I9 h => by obtain ⟨x9, rfl, h⟩ := h; exact h)
theorem dX8_readPlace_55 : decode cX8_readPlace 55 = .ok (.ifCond .eq 44, 3) := by decide +kernel
theorem X8_readPlace_55 {Q : Int → z_M → Prop} {a0 a1 : z_V} {x : Int} {st : List z_V} {I : z_M} (kt : x = 0 → JX8_readPlace Q 99 [a0, a1] st I) (kf : x ≠ 0 → JX8_readPlace Q 58 [a0, a1] st I) : JX8_readPlace Q 55 [a0, a1] (aI x :: st) I := g_if_eq dX8_readPlace_55 (by decide) kt kf
theorem dX8_readPlace_58 : decode cX8_readPlace 58 = .ok (.aload_n 1, 1) := by decide +kernel
theorem X8_readPlace_58 {Q : Int → z_M → Prop} {a0 : z_V} {x : Nat} {st : List z_V} {I : z_M} (k : JX8_readPlace Q 59 [a0, aR x] (aR x :: st) I) : JX8_readPlace Q 58 [a0, aR x] st I := g_aload_n (i := 1) (x := x) dX8_readPlace_58 rfl rfl k
theorem dX8_readPlace_59 : decode cX8_readPlace 59 = .ok (.aload_n 0, 1) := by decide +kernel
theorem X8_readPlace_59 {Q : Int → z_M → Prop} {a1 : z_V} {x : Nat} {st : List z_V} {I : z_M} (k : JX8_readPlace Q 60 [aR x, a1] (aR x :: st) I) : JX8_readPlace Q 59 [aR x, a1] st I := g_aload_n (i := 0) (x := x) dX8_readPlace_59 rfl rfl k
theorem dX8_readPlace_60 : decode cX8_readPlace 60 = .ok (.getfield 15, 3) := by decide +kernel
theorem X8_readPlace_60 {Q : Int → z_M → Prop} {a0 a1 : z_V}  {st : List z_V} {I : z_M}  (k : JX8_readPlace Q 63 [a0, a1] (aR (56) :: st) I) : JX8_readPlace Q 60 [a0, a1] (aR 54 :: st) I := g_getr (ci := 8) (j := 2) (N := 7) (T := TX8) dX8_readPlace_60 rfl rfl (by decide) (z_nc8 rfl) inlX8 (by decide) m_4_16 rfl rfl k
theorem dX8_readPlace_63 : decode cX8_readPlace 63 = .ok (.iconst 0, 1) := by decide +kernel
theorem X8_readPlace_63 {Q : Int → z_M → Prop} {a0 a1 : z_V} {st : List z_V} {I : z_M} (k : JX8_readPlace Q 64 [a0, a1] (aI 0 :: st) I) : JX8_readPlace Q 63 [a0, a1] st I := g_iconst (n := 0) dX8_readPlace_63 (by decide) k
theorem dX8_readPlace_64 : decode cX8_readPlace 64 = .ok (.iaload, 1) := by decide +kernel
theorem X8_readPlace_64 {Q : Int → z_M → Prop} {a0 a1 : z_V} {q : Nat} {i : Int} {st : List z_V} {I : z_M} (hk : z_cl q = 20 := by first | assumption | rfl) (h0 : 0 ≤ i := by omega) (h1 : i < z_n q := by first | omega | (simp only [zn_1, zn_9, zn_10, zn_11, zn_12, zn_13, zn_14, zn_15, zn_16, zn_18, zn_20, zn_21, zn_22, zn_23, zn_24, zn_25, zn_26, zn_27, zn_29, zn_30, zn_53, zn_55, zn_56, zn_58, zn_59, zn_61, zn_62, zn_63, zn_64, zn_65, zn_66, zn_67, zn_68, zn_69, zn_70, zn_71, zn_72, zn_73]; omega)) (k : JX8_readPlace Q 65 [a0, a1] (aI (I q i.toNat) :: st) I) : JX8_readPlace Q 64 [a0, a1] (aI i :: aR q :: st) I := g_iald dX8_readPlace_64 hk h0 h1 k
theorem dX8_readPlace_65 : decode cX8_readPlace 65 = .ok (.aload_n 0, 1) := by decide +kernel
theorem X8_readPlace_65 {Q : Int → z_M → Prop} {a1 : z_V} {x : Nat} {st : List z_V} {I : z_M} (k : JX8_readPlace Q 66 [aR x, a1] (aR x :: st) I) : JX8_readPlace Q 65 [aR x, a1] st I := g_aload_n (i := 0) (x := x) dX8_readPlace_65 rfl rfl k
theorem dX8_readPlace_66 : decode cX8_readPlace 66 = .ok (.getfield 15, 3) := by decide +kernel
theorem X8_readPlace_66 {Q : Int → z_M → Prop} {a0 a1 : z_V}  {st : List z_V} {I : z_M}  (k : JX8_readPlace Q 69 [a0, a1] (aR (56) :: st) I) : JX8_readPlace Q 66 [a0, a1] (aR 54 :: st) I := g_getr (ci := 8) (j := 2) (N := 7) (T := TX8) dX8_readPlace_66 rfl rfl (by decide) (z_nc8 rfl) inlX8 (by decide) m_4_16 rfl rfl k
theorem dX8_readPlace_69 : decode cX8_readPlace 69 = .ok (.iconst 1, 1) := by decide +kernel
theorem X8_readPlace_69 {Q : Int → z_M → Prop} {a0 a1 : z_V} {st : List z_V} {I : z_M} (k : JX8_readPlace Q 70 [a0, a1] (aI 1 :: st) I) : JX8_readPlace Q 69 [a0, a1] st I := g_iconst (n := 1) dX8_readPlace_69 (by decide) k
theorem dX8_readPlace_70 : decode cX8_readPlace 70 = .ok (.iaload, 1) := by decide +kernel
theorem X8_readPlace_70 {Q : Int → z_M → Prop} {a0 a1 : z_V} {q : Nat} {i : Int} {st : List z_V} {I : z_M} (hk : z_cl q = 20 := by first | assumption | rfl) (h0 : 0 ≤ i := by omega) (h1 : i < z_n q := by first | omega | (simp only [zn_1, zn_9, zn_10, zn_11, zn_12, zn_13, zn_14, zn_15, zn_16, zn_18, zn_20, zn_21, zn_22, zn_23, zn_24, zn_25, zn_26, zn_27, zn_29, zn_30, zn_53, zn_55, zn_56, zn_58, zn_59, zn_61, zn_62, zn_63, zn_64, zn_65, zn_66, zn_67, zn_68, zn_69, zn_70, zn_71, zn_72, zn_73]; omega)) (k : JX8_readPlace Q 71 [a0, a1] (aI (I q i.toNat) :: st) I) : JX8_readPlace Q 70 [a0, a1] (aI i :: aR q :: st) I := g_iald dX8_readPlace_70 hk h0 h1 k
theorem dX8_readPlace_71 : decode cX8_readPlace 71 = .ok (.aload_n 0, 1) := by decide +kernel
theorem X8_readPlace_71 {Q : Int → z_M → Prop} {a1 : z_V} {x : Nat} {st : List z_V} {I : z_M} (k : JX8_readPlace Q 72 [aR x, a1] (aR x :: st) I) : JX8_readPlace Q 71 [aR x, a1] st I := g_aload_n (i := 0) (x := x) dX8_readPlace_71 rfl rfl k
theorem dX8_readPlace_72 : decode cX8_readPlace 72 = .ok (.getfield 15, 3) := by decide +kernel
theorem X8_readPlace_72 {Q : Int → z_M → Prop} {a0 a1 : z_V}  {st : List z_V} {I : z_M}  (k : JX8_readPlace Q 75 [a0, a1] (aR (56) :: st) I) : JX8_readPlace Q 72 [a0, a1] (aR 54 :: st) I := g_getr (ci := 8) (j := 2) (N := 7) (T := TX8) dX8_readPlace_72 rfl rfl (by decide) (z_nc8 rfl) inlX8 (by decide) m_4_16 rfl rfl k
theorem dX8_readPlace_75 : decode cX8_readPlace 75 = .ok (.iconst 2, 1) := by decide +kernel
theorem X8_readPlace_75 {Q : Int → z_M → Prop} {a0 a1 : z_V} {st : List z_V} {I : z_M} (k : JX8_readPlace Q 76 [a0, a1] (aI 2 :: st) I) : JX8_readPlace Q 75 [a0, a1] st I := g_iconst (n := 2) dX8_readPlace_75 (by decide) k
theorem dX8_readPlace_76 : decode cX8_readPlace 76 = .ok (.iaload, 1) := by decide +kernel
theorem X8_readPlace_76 {Q : Int → z_M → Prop} {a0 a1 : z_V} {q : Nat} {i : Int} {st : List z_V} {I : z_M} (hk : z_cl q = 20 := by first | assumption | rfl) (h0 : 0 ≤ i := by omega) (h1 : i < z_n q := by first | omega | (simp only [zn_1, zn_9, zn_10, zn_11, zn_12, zn_13, zn_14, zn_15, zn_16, zn_18, zn_20, zn_21, zn_22, zn_23, zn_24, zn_25, zn_26, zn_27, zn_29, zn_30, zn_53, zn_55, zn_56, zn_58, zn_59, zn_61, zn_62, zn_63, zn_64, zn_65, zn_66, zn_67, zn_68, zn_69, zn_70, zn_71, zn_72, zn_73]; omega)) (k : JX8_readPlace Q 77 [a0, a1] (aI (I q i.toNat) :: st) I) : JX8_readPlace Q 76 [a0, a1] (aI i :: aR q :: st) I := g_iald dX8_readPlace_76 hk h0 h1 k
theorem dX8_readPlace_77 : decode cX8_readPlace 77 = .ok (.aload_n 0, 1) := by decide +kernel
theorem X8_readPlace_77 {Q : Int → z_M → Prop} {a1 : z_V} {x : Nat} {st : List z_V} {I : z_M} (k : JX8_readPlace Q 78 [aR x, a1] (aR x :: st) I) : JX8_readPlace Q 77 [aR x, a1] st I := g_aload_n (i := 0) (x := x) dX8_readPlace_77 rfl rfl k
theorem dX8_readPlace_78 : decode cX8_readPlace 78 = .ok (.getfield 15, 3) := by decide +kernel
theorem X8_readPlace_78 {Q : Int → z_M → Prop} {a0 a1 : z_V}  {st : List z_V} {I : z_M}  (k : JX8_readPlace Q 81 [a0, a1] (aR (56) :: st) I) : JX8_readPlace Q 78 [a0, a1] (aR 54 :: st) I := g_getr (ci := 8) (j := 2) (N := 7) (T := TX8) dX8_readPlace_78 rfl rfl (by decide) (z_nc8 rfl) inlX8 (by decide) m_4_16 rfl rfl k
theorem dX8_readPlace_81 : decode cX8_readPlace 81 = .ok (.iconst 3, 1) := by decide +kernel
theorem X8_readPlace_81 {Q : Int → z_M → Prop} {a0 a1 : z_V} {st : List z_V} {I : z_M} (k : JX8_readPlace Q 82 [a0, a1] (aI 3 :: st) I) : JX8_readPlace Q 81 [a0, a1] st I := g_iconst (n := 3) dX8_readPlace_81 (by decide) k
theorem dX8_readPlace_82 : decode cX8_readPlace 82 = .ok (.iaload, 1) := by decide +kernel
theorem X8_readPlace_82 {Q : Int → z_M → Prop} {a0 a1 : z_V} {q : Nat} {i : Int} {st : List z_V} {I : z_M} (hk : z_cl q = 20 := by first | assumption | rfl) (h0 : 0 ≤ i := by omega) (h1 : i < z_n q := by first | omega | (simp only [zn_1, zn_9, zn_10, zn_11, zn_12, zn_13, zn_14, zn_15, zn_16, zn_18, zn_20, zn_21, zn_22, zn_23, zn_24, zn_25, zn_26, zn_27, zn_29, zn_30, zn_53, zn_55, zn_56, zn_58, zn_59, zn_61, zn_62, zn_63, zn_64, zn_65, zn_66, zn_67, zn_68, zn_69, zn_70, zn_71, zn_72, zn_73]; omega)) (k : JX8_readPlace Q 83 [a0, a1] (aI (I q i.toNat) :: st) I) : JX8_readPlace Q 82 [a0, a1] (aI i :: aR q :: st) I := g_iald dX8_readPlace_82 hk h0 h1 k
theorem dX8_readPlace_83 : decode cX8_readPlace 83 = .ok (.aload_n 0, 1) := by decide +kernel
theorem X8_readPlace_83 {Q : Int → z_M → Prop} {a1 : z_V} {x : Nat} {st : List z_V} {I : z_M} (k : JX8_readPlace Q 84 [aR x, a1] (aR x :: st) I) : JX8_readPlace Q 83 [aR x, a1] st I := g_aload_n (i := 0) (x := x) dX8_readPlace_83 rfl rfl k
theorem dX8_readPlace_84 : decode cX8_readPlace 84 = .ok (.getfield 15, 3) := by decide +kernel
theorem X8_readPlace_84 {Q : Int → z_M → Prop} {a0 a1 : z_V}  {st : List z_V} {I : z_M}  (k : JX8_readPlace Q 87 [a0, a1] (aR (56) :: st) I) : JX8_readPlace Q 84 [a0, a1] (aR 54 :: st) I := g_getr (ci := 8) (j := 2) (N := 7) (T := TX8) dX8_readPlace_84 rfl rfl (by decide) (z_nc8 rfl) inlX8 (by decide) m_4_16 rfl rfl k
theorem dX8_readPlace_87 : decode cX8_readPlace 87 = .ok (.iconst 4, 1) := by decide +kernel
theorem X8_readPlace_87 {Q : Int → z_M → Prop} {a0 a1 : z_V} {st : List z_V} {I : z_M} (k : JX8_readPlace Q 88 [a0, a1] (aI 4 :: st) I) : JX8_readPlace Q 87 [a0, a1] st I := g_iconst (n := 4) dX8_readPlace_87 (by decide) k
theorem dX8_readPlace_88 : decode cX8_readPlace 88 = .ok (.iaload, 1) := by decide +kernel
theorem X8_readPlace_88 {Q : Int → z_M → Prop} {a0 a1 : z_V} {q : Nat} {i : Int} {st : List z_V} {I : z_M} (hk : z_cl q = 20 := by first | assumption | rfl) (h0 : 0 ≤ i := by omega) (h1 : i < z_n q := by first | omega | (simp only [zn_1, zn_9, zn_10, zn_11, zn_12, zn_13, zn_14, zn_15, zn_16, zn_18, zn_20, zn_21, zn_22, zn_23, zn_24, zn_25, zn_26, zn_27, zn_29, zn_30, zn_53, zn_55, zn_56, zn_58, zn_59, zn_61, zn_62, zn_63, zn_64, zn_65, zn_66, zn_67, zn_68, zn_69, zn_70, zn_71, zn_72, zn_73]; omega)) (k : JX8_readPlace Q 89 [a0, a1] (aI (I q i.toNat) :: st) I) : JX8_readPlace Q 88 [a0, a1] (aI i :: aR q :: st) I := g_iald dX8_readPlace_88 hk h0 h1 k
theorem dX8_readPlace_89 : decode cX8_readPlace 89 = .ok (.invokevirtual 79, 3) := by decide +kernel
theorem X8_readPlace_89 {Q : Int → z_M → Prop} {a0 a1 : z_V} {b : Nat} {x0 : Int} {x1 : Int} {x2 : Int} {x3 : Int} {x4 : Int} {st : List z_V} {I : z_M} (hb : z_cl b = 4 := by first | assumption | rfl) (hst : z_sw st ≤ 8 := by exact Nat.le_of_ble_eq_true rfl) (k : CX4_addPlace (aR b :: [aI x0, aI x1, aI x2, aI x3, aI x4]) I (fun x9 I9 => JX8_readPlace Q 92 [a0, a1] (aI x9 :: st) I9)) : JX8_readPlace Q 89 [a0, a1] (aI x4 :: aI x3 :: aI x2 :: aI x1 :: aI x0 :: aR b :: st) I := g_callV (C := RX4) (ci := 4) (As := [aI x0, aI x1, aI x2, aI x3, aI x4]) (n := 5) dX8_readPlace_89 ⟨m_7_18, pdX4_addPlace, ⟨by decide, by decide⟩, rfl, rfl, by decide, by decide⟩ m_16_7 m_7_16 m_7_17 m_2_9 rfl hb (by decide) rfl rfl hst k (fun r I9 h => by obtain ⟨x9, rfl, h⟩ := h; exact h)
theorem dX8_readPlace_92 : decode cX8_readPlace 92 = .ok (.ifCond .eq 7, 3) := by decide +kernel
theorem X8_readPlace_92 {Q : Int → z_M → Prop} {a0 a1 : z_V} {x : Int} {st : List z_V} {I : z_M} (kt : x = 0 → JX8_readPlace Q 99 [a0, a1] st I) (kf : x ≠ 0 → JX8_readPlace Q 95 [a0, a1] st I) : JX8_readPlace Q 92 [a0, a1] (aI x :: st) I := g_if_eq dX8_readPlace_92 (by decide) kt kf
theorem dX8_readPlace_95 : decode cX8_readPlace 95 = .ok (.iconst 1, 1) := by decide +kernel
theorem X8_readPlace_95 {Q : Int → z_M → Prop} {a0 a1 : z_V} {st : List z_V} {I : z_M} (k : JX8_readPlace Q 96 [a0, a1] (aI 1 :: st) I) : JX8_readPlace Q 95 [a0, a1] st I := g_iconst (n := 1) dX8_readPlace_95 (by decide) k
theorem dX8_readPlace_96 : decode cX8_readPlace 96 = .ok (.goto 4, 3) := by decide +kernel
theorem X8_readPlace_96 {Q : Int → z_M → Prop} {a0 a1 : z_V} {st : List z_V} {I : z_M} (k : JX8_readPlace Q 100 [a0, a1] st I) : JX8_readPlace Q 96 [a0, a1] st I := g_goto dX8_readPlace_96 (by decide) k
theorem dX8_readPlace_99 : decode cX8_readPlace 99 = .ok (.iconst 0, 1) := by decide +kernel
theorem X8_readPlace_99 {Q : Int → z_M → Prop} {a0 a1 : z_V} {st : List z_V} {I : z_M} (k : JX8_readPlace Q 100 [a0, a1] (aI 0 :: st) I) : JX8_readPlace Q 99 [a0, a1] st I := g_iconst (n := 0) dX8_readPlace_99 (by decide) k
theorem dX8_readPlace_100 : decode cX8_readPlace 100 = .ok (.ireturn, 1) := by decide +kernel
theorem X8_readPlace_100 {Q : Int → z_M → Prop} {a0 a1 : z_V} {x : Int} {I : z_M} (hx : x = 0 ∨ x = 1 := by omega) (hq : Q x I) : JX8_readPlace Q 100 [a0, a1] [aI x] I := g_zreturn dX8_readPlace_100 hx ⟨x, rfl, hq⟩
theorem dX8_readPipe_0 : decode cX8_readPipe 0 = .ok (.aload_n 0, 1) := by decide +kernel
theorem X8_readPipe_0 {Q : Int → z_M → Prop} {a1 : z_V} {x : Nat} {st : List z_V} {I : z_M} (k : JX8_readPipe Q 1 [aR x, a1] (aR x :: st) I) : JX8_readPipe Q 0 [aR x, a1] st I := g_aload_n (i := 0) (x := x) dX8_readPipe_0 rfl rfl k
theorem dX8_readPipe_1 : decode cX8_readPipe 1 = .ok (.iconst 0, 1) := by decide +kernel
theorem X8_readPipe_1 {Q : Int → z_M → Prop} {a0 a1 : z_V} {st : List z_V} {I : z_M} (k : JX8_readPipe Q 2 [a0, a1] (aI 0 :: st) I) : JX8_readPipe Q 1 [a0, a1] st I := g_iconst (n := 0) dX8_readPipe_1 (by decide) k
theorem dX8_readPipe_2 : decode cX8_readPipe 2 = .ok (.iconst 5, 1) := by decide +kernel
theorem X8_readPipe_2 {Q : Int → z_M → Prop} {a0 a1 : z_V} {st : List z_V} {I : z_M} (k : JX8_readPipe Q 3 [a0, a1] (aI 5 :: st) I) : JX8_readPipe Q 2 [a0, a1] st I := g_iconst (n := 5) dX8_readPipe_2 (by decide) k
theorem dX8_readPipe_3 : decode cX8_readPipe 3 = .ok (.invokevirtual 75, 3) := by decide +kernel
theorem X8_readPipe_3 {Q : Int → z_M → Prop} {a0 a1 : z_V}  {x0 : Int} {x1 : Int} {st : List z_V} {I : z_M}  (hst : z_sw st ≤ 8 := by exact Nat.le_of_ble_eq_true rfl) (k : CX8_readNumber (aR 54 :: [aI x0, aI x1]) I (fun x9 I9 => JX8_readPipe Q 6 [a0, a1] (aI x9 :: st) I9)) : JX8_readPipe Q 3 [a0, a1] (aI x1 :: aI x0 :: aR 54 :: st) I := g_callV (C := RX8) (ci := 8) (As := [aI x0, aI x1]) (n := 2) dX8_readPipe_3 ⟨m_16_6, pdX8_readNumber, ⟨by decide, by decide⟩, rfl, rfl, by decide, by decide⟩ m_16_3 m_16_4 m_16_5 m_2_17 rfl rfl (by decide) rfl rfl hst k (fun r I9 h => by obtain ⟨x9, rfl, h⟩ := h; exact h)
theorem dX8_readPipe_6 : decode cX8_readPipe 6 = .ok (.ifCond .eq 44, 3) := by decide +kernel
theorem X8_readPipe_6 {Q : Int → z_M → Prop} {a0 a1 : z_V} {x : Int} {st : List z_V} {I : z_M} (kt : x = 0 → JX8_readPipe Q 50 [a0, a1] st I) (kf : x ≠ 0 → JX8_readPipe Q 9 [a0, a1] st I) : JX8_readPipe Q 6 [a0, a1] (aI x :: st) I := g_if_eq dX8_readPipe_6 (by decide) kt kf
theorem dX8_readPipe_9 : decode cX8_readPipe 9 = .ok (.aload_n 0, 1) := by decide +kernel
theorem X8_readPipe_9 {Q : Int → z_M → Prop} {a1 : z_V} {x : Nat} {st : List z_V} {I : z_M} (k : JX8_readPipe Q 10 [aR x, a1] (aR x :: st) I) : JX8_readPipe Q 9 [aR x, a1] st I := g_aload_n (i := 0) (x := x) dX8_readPipe_9 rfl rfl k
theorem dX8_readPipe_10 : decode cX8_readPipe 10 = .ok (.iconst 1, 1) := by decide +kernel
theorem X8_readPipe_10 {Q : Int → z_M → Prop} {a0 a1 : z_V} {st : List z_V} {I : z_M} (k : JX8_readPipe Q 11 [a0, a1] (aI 1 :: st) I) : JX8_readPipe Q 10 [a0, a1] st I := g_iconst (n := 1) dX8_readPipe_10 (by decide) k
theorem dX8_readPipe_11 : decode cX8_readPipe 11 = .ok (.bipush 35, 2) := by decide +kernel
theorem X8_readPipe_11 {Q : Int → z_M → Prop} {a0 a1 : z_V} {st : List z_V} {I : z_M} (k : JX8_readPipe Q 13 [a0, a1] (aI 35 :: st) I) : JX8_readPipe Q 11 [a0, a1] st I := g_bipush (n := 35) dX8_readPipe_11 (by decide +kernel) (by decide) k
theorem dX8_readPipe_13 : decode cX8_readPipe 13 = .ok (.invokevirtual 75, 3) := by decide +kernel
theorem X8_readPipe_13 {Q : Int → z_M → Prop} {a0 a1 : z_V}  {x0 : Int} {x1 : Int} {st : List z_V} {I : z_M}  (hst : z_sw st ≤ 8 := by exact Nat.le_of_ble_eq_true rfl) (k : CX8_readNumber (aR 54 :: [aI x0, aI x1]) I (fun x9 I9 => JX8_readPipe Q 16 [a0, a1] (aI x9 :: st) I9)) : JX8_readPipe Q 13 [a0, a1] (aI x1 :: aI x0 :: aR 54 :: st) I := g_callV (C := RX8) (ci := 8) (As := [aI x0, aI x1]) (n := 2) dX8_readPipe_13 ⟨m_16_6, pdX8_readNumber, ⟨by decide, by decide⟩, rfl, rfl, by decide, by decide⟩ m_16_3 m_16_4 m_16_5 m_2_17 rfl rfl (by decide) rfl rfl hst k (fun r I9 h => by obtain ⟨x9, rfl, h⟩ := h; exact h)
theorem dX8_readPipe_16 : decode cX8_readPipe 16 = .ok (.ifCond .eq 34, 3) := by decide +kernel
theorem X8_readPipe_16 {Q : Int → z_M → Prop} {a0 a1 : z_V} {x : Int} {st : List z_V} {I : z_M} (kt : x = 0 → JX8_readPipe Q 50 [a0, a1] st I) (kf : x ≠ 0 → JX8_readPipe Q 19 [a0, a1] st I) : JX8_readPipe Q 16 [a0, a1] (aI x :: st) I := g_if_eq dX8_readPipe_16 (by decide) kt kf
theorem dX8_readPipe_19 : decode cX8_readPipe 19 = .ok (.aload_n 0, 1) := by decide +kernel
theorem X8_readPipe_19 {Q : Int → z_M → Prop} {a1 : z_V} {x : Nat} {st : List z_V} {I : z_M} (k : JX8_readPipe Q 20 [aR x, a1] (aR x :: st) I) : JX8_readPipe Q 19 [aR x, a1] st I := g_aload_n (i := 0) (x := x) dX8_readPipe_19 rfl rfl k
theorem dX8_readPipe_20 : decode cX8_readPipe 20 = .ok (.iconst 3, 1) := by decide +kernel
theorem X8_readPipe_20 {Q : Int → z_M → Prop} {a0 a1 : z_V} {st : List z_V} {I : z_M} (k : JX8_readPipe Q 21 [a0, a1] (aI 3 :: st) I) : JX8_readPipe Q 20 [a0, a1] st I := g_iconst (n := 3) dX8_readPipe_20 (by decide) k
theorem dX8_readPipe_21 : decode cX8_readPipe 21 = .ok (.invokevirtual 40, 3) := by decide +kernel
theorem X8_readPipe_21 {Q : Int → z_M → Prop} {a0 a1 : z_V}  {x0 : Int} {st : List z_V} {I : z_M}  (hst : z_sw st ≤ 8 := by exact Nat.le_of_ble_eq_true rfl) (k : CX8_stepTo (aR 54 :: [aI x0]) I (fun x9 I9 => JX8_readPipe Q 24 [a0, a1] (aI x9 :: st) I9)) : JX8_readPipe Q 21 [a0, a1] (aI x0 :: aR 54 :: st) I := g_callV (C := RX8) (ci := 8) (As := [aI x0]) (n := 1) dX8_readPipe_21 ⟨m_15_16, pdX8_stepTo, ⟨by decide, by decide⟩, rfl, rfl, by decide, by decide⟩ m_15_13 m_15_14 m_15_15 m_2_17 rfl rfl (by decide) rfl rfl hst k (fun r I9 h => by obtain ⟨x9, rfl, h⟩ := h; exact h)
theorem dX8_readPipe_24 : decode cX8_readPipe 24 = .ok (.ifCond .eq 26, 3) := by decide +kernel
theorem X8_readPipe_24 {Q : Int → z_M → Prop} {a0 a1 : z_V} {x : Int} {st : List z_V} {I : z_M} (kt : x = 0 → JX8_readPipe Q 50 [a0, a1] st I) (kf : x ≠ 0 → JX8_readPipe Q 27 [a0, a1] st I) : JX8_readPipe Q 24 [a0, a1] (aI x :: st) I := g_if_eq dX8_readPipe_24 (by decide) kt kf
theorem dX8_readPipe_27 : decode cX8_readPipe 27 = .ok (.aload_n 1, 1) := by decide +kernel
theorem X8_readPipe_27 {Q : Int → z_M → Prop} {a0 : z_V} {x : Nat} {st : List z_V} {I : z_M} (k : JX8_readPipe Q 28 [a0, aR x] (aR x :: st) I) : JX8_readPipe Q 27 [a0, aR x] st I := g_aload_n (i := 1) (x := x) dX8_readPipe_27 rfl rfl k
theorem dX8_readPipe_28 : decode cX8_readPipe 28 = .ok (.aload_n 0, 1) := by decide +kernel
theorem X8_readPipe_28 {Q : Int → z_M → Prop} {a1 : z_V} {x : Nat} {st : List z_V} {I : z_M} (k : JX8_readPipe Q 29 [aR x, a1] (aR x :: st) I) : JX8_readPipe Q 28 [aR x, a1] st I := g_aload_n (i := 0) (x := x) dX8_readPipe_28 rfl rfl k
theorem dX8_readPipe_29 : decode cX8_readPipe 29 = .ok (.getfield 15, 3) := by decide +kernel
theorem X8_readPipe_29 {Q : Int → z_M → Prop} {a0 a1 : z_V}  {st : List z_V} {I : z_M}  (k : JX8_readPipe Q 32 [a0, a1] (aR (56) :: st) I) : JX8_readPipe Q 29 [a0, a1] (aR 54 :: st) I := g_getr (ci := 8) (j := 2) (N := 7) (T := TX8) dX8_readPipe_29 rfl rfl (by decide) (z_nc8 rfl) inlX8 (by decide) m_4_16 rfl rfl k
theorem dX8_readPipe_32 : decode cX8_readPipe 32 = .ok (.iconst 0, 1) := by decide +kernel
theorem X8_readPipe_32 {Q : Int → z_M → Prop} {a0 a1 : z_V} {st : List z_V} {I : z_M} (k : JX8_readPipe Q 33 [a0, a1] (aI 0 :: st) I) : JX8_readPipe Q 32 [a0, a1] st I := g_iconst (n := 0) dX8_readPipe_32 (by decide) k
theorem dX8_readPipe_33 : decode cX8_readPipe 33 = .ok (.iaload, 1) := by decide +kernel
theorem X8_readPipe_33 {Q : Int → z_M → Prop} {a0 a1 : z_V} {q : Nat} {i : Int} {st : List z_V} {I : z_M} (hk : z_cl q = 20 := by first | assumption | rfl) (h0 : 0 ≤ i := by omega) (h1 : i < z_n q := by first | omega | (simp only [zn_1, zn_9, zn_10, zn_11, zn_12, zn_13, zn_14, zn_15, zn_16, zn_18, zn_20, zn_21, zn_22, zn_23, zn_24, zn_25, zn_26, zn_27, zn_29, zn_30, zn_53, zn_55, zn_56, zn_58, zn_59, zn_61, zn_62, zn_63, zn_64, zn_65, zn_66, zn_67, zn_68, zn_69, zn_70, zn_71, zn_72, zn_73]; omega)) (k : JX8_readPipe Q 34 [a0, a1] (aI (I q i.toNat) :: st) I) : JX8_readPipe Q 33 [a0, a1] (aI i :: aR q :: st) I := g_iald dX8_readPipe_33 hk h0 h1 k
theorem dX8_readPipe_34 : decode cX8_readPipe 34 = .ok (.aload_n 0, 1) := by decide +kernel
theorem X8_readPipe_34 {Q : Int → z_M → Prop} {a1 : z_V} {x : Nat} {st : List z_V} {I : z_M} (k : JX8_readPipe Q 35 [aR x, a1] (aR x :: st) I) : JX8_readPipe Q 34 [aR x, a1] st I := g_aload_n (i := 0) (x := x) dX8_readPipe_34 rfl rfl k
theorem dX8_readPipe_35 : decode cX8_readPipe 35 = .ok (.getfield 15, 3) := by decide +kernel
theorem X8_readPipe_35 {Q : Int → z_M → Prop} {a0 a1 : z_V}  {st : List z_V} {I : z_M}  (k : JX8_readPipe Q 38 [a0, a1] (aR (56) :: st) I) : JX8_readPipe Q 35 [a0, a1] (aR 54 :: st) I := g_getr (ci := 8) (j := 2) (N := 7) (T := TX8) dX8_readPipe_35 rfl rfl (by decide) (z_nc8 rfl) inlX8 (by decide) m_4_16 rfl rfl k
theorem dX8_readPipe_38 : decode cX8_readPipe 38 = .ok (.iconst 1, 1) := by decide +kernel
theorem X8_readPipe_38 {Q : Int → z_M → Prop} {a0 a1 : z_V} {st : List z_V} {I : z_M} (k : JX8_readPipe Q 39 [a0, a1] (aI 1 :: st) I) : JX8_readPipe Q 38 [a0, a1] st I := g_iconst (n := 1) dX8_readPipe_38 (by decide) k
theorem dX8_readPipe_39 : decode cX8_readPipe 39 = .ok (.iaload, 1) := by decide +kernel
theorem X8_readPipe_39 {Q : Int → z_M → Prop} {a0 a1 : z_V} {q : Nat} {i : Int} {st : List z_V} {I : z_M} (hk : z_cl q = 20 := by first | assumption | rfl) (h0 : 0 ≤ i := by omega) (h1 : i < z_n q := by first | omega | (simp only [zn_1, zn_9, zn_10, zn_11, zn_12, zn_13, zn_14, zn_15, zn_16, zn_18, zn_20, zn_21, zn_22, zn_23, zn_24, zn_25, zn_26, zn_27, zn_29, zn_30, zn_53, zn_55, zn_56, zn_58, zn_59, zn_61, zn_62, zn_63, zn_64, zn_65, zn_66, zn_67, zn_68, zn_69, zn_70, zn_71, zn_72, zn_73]; omega)) (k : JX8_readPipe Q 40 [a0, a1] (aI (I q i.toNat) :: st) I) : JX8_readPipe Q 39 [a0, a1] (aI i :: aR q :: st) I := g_iald dX8_readPipe_39 hk h0 h1 k
theorem dX8_readPipe_40 : decode cX8_readPipe 40 = .ok (.invokevirtual 83, 3) := by decide +kernel
theorem X8_readPipe_40 {Q : Int → z_M → Prop} {a0 a1 : z_V} {b : Nat} {x0 : Int} {x1 : Int} {st : List z_V} {I : z_M} (hb : z_cl b = 4 := by first | assumption | rfl) (hst : z_sw st ≤ 8 := by exact Nat.le_of_ble_eq_true rfl) (k : CX4_addPipe (aR b :: [aI x0, aI x1]) I (fun x9 I9 => JX8_readPipe Q 43 [a0, a1] (aI x9 :: st) I9)) : JX8_readPipe Q 40 [a0, a1] (aI x1 :: aI x0 :: aR b :: st) I := g_callV (C := RX4) (ci := 4) (As := [aI x0, aI x1]) (n := 2) dX8_readPipe_40 ⟨m_9_10, pdX4_addPipe, ⟨by decide, by decide⟩, rfl, rfl, by decide, by decide⟩ m_16_12 m_9_8 m_9_9 m_2_9 rfl hb (by decide) rfl rfl hst k (fun r I9 h => by obtain ⟨x9, rfl, h⟩ := h; exact h)
theorem dX8_readPipe_43 : decode cX8_readPipe 43 = .ok (.ifCond .eq 7, 3) := by decide +kernel
theorem X8_readPipe_43 {Q : Int → z_M → Prop} {a0 a1 : z_V} {x : Int} {st : List z_V} {I : z_M} (kt : x = 0 → JX8_readPipe Q 50 [a0, a1] st I) (kf : x ≠ 0 → JX8_readPipe Q 46 [a0, a1] st I) : JX8_readPipe Q 43 [a0, a1] (aI x :: st) I := g_if_eq dX8_readPipe_43 (by decide) kt kf
theorem dX8_readPipe_46 : decode cX8_readPipe 46 = .ok (.iconst 1, 1) := by decide +kernel
theorem X8_readPipe_46 {Q : Int → z_M → Prop} {a0 a1 : z_V} {st : List z_V} {I : z_M} (k : JX8_readPipe Q 47 [a0, a1] (aI 1 :: st) I) : JX8_readPipe Q 46 [a0, a1] st I := g_iconst (n := 1) dX8_readPipe_46 (by decide) k
theorem dX8_readPipe_47 : decode cX8_readPipe 47 = .ok (.goto 4, 3) := by decide +kernel
theorem X8_readPipe_47 {Q : Int → z_M → Prop} {a0 a1 : z_V} {st : List z_V} {I : z_M} (k : JX8_readPipe Q 51 [a0, a1] st I) : JX8_readPipe Q 47 [a0, a1] st I := g_goto dX8_readPipe_47 (by decide) k
theorem dX8_readPipe_50 : decode cX8_readPipe 50 = .ok (.iconst 0, 1) := by decide +kernel
theorem X8_readPipe_50 {Q : Int → z_M → Prop} {a0 a1 : z_V} {st : List z_V} {I : z_M} (k : JX8_readPipe Q 51 [a0, a1] (aI 0 :: st) I) : JX8_readPipe Q 50 [a0, a1] st I := g_iconst (n := 0) dX8_readPipe_50 (by decide) k
theorem dX8_readPipe_51 : decode cX8_readPipe 51 = .ok (.ireturn, 1) := by decide +kernel
theorem X8_readPipe_51 {Q : Int → z_M → Prop} {a0 a1 : z_V} {x : Int} {I : z_M} (hx : x = 0 ∨ x = 1 := by omega) (hq : Q x I) : JX8_readPipe Q 51 [a0, a1] [aI x] I := g_zreturn dX8_readPipe_51 hx ⟨x, rfl, hq⟩
theorem dX8_readHymn_0 : decode cX8_readHymn 0 = .ok (.aload_n 0, 1) := by decide +kernel
theorem X8_readHymn_0 {Q : Int → z_M → Prop} {a1 a2 : z_V} {x : Nat} {st : List z_V} {I : z_M} (k : JX8_readHymn Q 1 [aR x, a1, a2] (aR x :: st) I) : JX8_readHymn Q 0 [aR x, a1, a2] st I := g_aload_n (i := 0) (x := x) dX8_readHymn_0 rfl rfl k
theorem dX8_readHymn_1 : decode cX8_readHymn 1 = .ok (.iconst 0, 1) := by decide +kernel
theorem X8_readHymn_1 {Q : Int → z_M → Prop} {a0 a1 a2 : z_V} {st : List z_V} {I : z_M} (k : JX8_readHymn Q 2 [a0, a1, a2] (aI 0 :: st) I) : JX8_readHymn Q 1 [a0, a1, a2] st I := g_iconst (n := 0) dX8_readHymn_1 (by decide) k
theorem dX8_readHymn_2 : decode cX8_readHymn 2 = .ok (.iconst 2, 1) := by decide +kernel
theorem X8_readHymn_2 {Q : Int → z_M → Prop} {a0 a1 a2 : z_V} {st : List z_V} {I : z_M} (k : JX8_readHymn Q 3 [a0, a1, a2] (aI 2 :: st) I) : JX8_readHymn Q 2 [a0, a1, a2] st I := g_iconst (n := 2) dX8_readHymn_2 (by decide) k
theorem dX8_readHymn_3 : decode cX8_readHymn 3 = .ok (.invokevirtual 75, 3) := by decide +kernel
theorem X8_readHymn_3 {Q : Int → z_M → Prop} {a0 a1 a2 : z_V}  {x0 : Int} {x1 : Int} {st : List z_V} {I : z_M}  (hst : z_sw st ≤ 8 := by exact Nat.le_of_ble_eq_true rfl) (k : CX8_readNumber (aR 54 :: [aI x0, aI x1]) I (fun x9 I9 => JX8_readHymn Q 6 [a0, a1, a2] (aI x9 :: st) I9)) : JX8_readHymn Q 3 [a0, a1, a2] (aI x1 :: aI x0 :: aR 54 :: st) I := g_callV (C := RX8) (ci := 8) (As := [aI x0, aI x1]) (n := 2) dX8_readHymn_3 ⟨m_16_6, pdX8_readNumber, ⟨by decide, by decide⟩, rfl, rfl, by decide, by decide⟩ m_16_3 m_16_4 m_16_5 m_2_17 rfl rfl (by decide) rfl rfl hst k (fun r I9 h => by obtain ⟨x9, rfl, h⟩ := h; exact h)
theorem dX8_readHymn_6 : decode cX8_readHymn 6 = .ok (.ifCond .ne 5, 3) := by decide +kernel
theorem X8_readHymn_6 {Q : Int → z_M → Prop} {a0 a1 a2 : z_V} {x : Int} {st : List z_V} {I : z_M} (kt : x ≠ 0 → JX8_readHymn Q 11 [a0, a1, a2] st I) (kf : x = 0 → JX8_readHymn Q 9 [a0, a1, a2] st I) : JX8_readHymn Q 6 [a0, a1, a2] (aI x :: st) I := g_if_ne dX8_readHymn_6 (by decide) kt kf
theorem dX8_readHymn_9 : decode cX8_readHymn 9 = .ok (.iconst 0, 1) := by decide +kernel
theorem X8_readHymn_9 {Q : Int → z_M → Prop} {a0 a1 a2 : z_V} {st : List z_V} {I : z_M} (k : JX8_readHymn Q 10 [a0, a1, a2] (aI 0 :: st) I) : JX8_readHymn Q 9 [a0, a1, a2] st I := g_iconst (n := 0) dX8_readHymn_9 (by decide) k
theorem dX8_readHymn_10 : decode cX8_readHymn 10 = .ok (.ireturn, 1) := by decide +kernel
theorem X8_readHymn_10 {Q : Int → z_M → Prop} {a0 a1 a2 : z_V} {x : Int} {I : z_M} (hx : x = 0 ∨ x = 1 := by omega) (hq : Q x I) : JX8_readHymn Q 10 [a0, a1, a2] [aI x] I := g_zreturn dX8_readHymn_10 hx ⟨x, rfl, hq⟩
theorem dX8_readHymn_11 : decode cX8_readHymn 11 = .ok (.aload_n 1, 1) := by decide +kernel
theorem X8_readHymn_11 {Q : Int → z_M → Prop} {a0 a2 : z_V} {x : Nat} {st : List z_V} {I : z_M} (k : JX8_readHymn Q 12 [a0, aR x, a2] (aR x :: st) I) : JX8_readHymn Q 11 [a0, aR x, a2] st I := g_aload_n (i := 1) (x := x) dX8_readHymn_11 rfl rfl k
theorem dX8_readHymn_12 : decode cX8_readHymn 12 = .ok (.aload_n 0, 1) := by decide +kernel
theorem X8_readHymn_12 {Q : Int → z_M → Prop} {a1 a2 : z_V} {x : Nat} {st : List z_V} {I : z_M} (k : JX8_readHymn Q 13 [aR x, a1, a2] (aR x :: st) I) : JX8_readHymn Q 12 [aR x, a1, a2] st I := g_aload_n (i := 0) (x := x) dX8_readHymn_12 rfl rfl k
theorem dX8_readHymn_13 : decode cX8_readHymn 13 = .ok (.getfield 15, 3) := by decide +kernel
theorem X8_readHymn_13 {Q : Int → z_M → Prop} {a0 a1 a2 : z_V}  {st : List z_V} {I : z_M}  (k : JX8_readHymn Q 16 [a0, a1, a2] (aR (56) :: st) I) : JX8_readHymn Q 13 [a0, a1, a2] (aR 54 :: st) I := g_getr (ci := 8) (j := 2) (N := 7) (T := TX8) dX8_readHymn_13 rfl rfl (by decide) (z_nc8 rfl) inlX8 (by decide) m_4_16 rfl rfl k
theorem dX8_readHymn_16 : decode cX8_readHymn 16 = .ok (.iconst 0, 1) := by decide +kernel
theorem X8_readHymn_16 {Q : Int → z_M → Prop} {a0 a1 a2 : z_V} {st : List z_V} {I : z_M} (k : JX8_readHymn Q 17 [a0, a1, a2] (aI 0 :: st) I) : JX8_readHymn Q 16 [a0, a1, a2] st I := g_iconst (n := 0) dX8_readHymn_16 (by decide) k
theorem dX8_readHymn_17 : decode cX8_readHymn 17 = .ok (.iaload, 1) := by decide +kernel
theorem X8_readHymn_17 {Q : Int → z_M → Prop} {a0 a1 a2 : z_V} {q : Nat} {i : Int} {st : List z_V} {I : z_M} (hk : z_cl q = 20 := by first | assumption | rfl) (h0 : 0 ≤ i := by omega) (h1 : i < z_n q := by first | omega | (simp only [zn_1, zn_9, zn_10, zn_11, zn_12, zn_13, zn_14, zn_15, zn_16, zn_18, zn_20, zn_21, zn_22, zn_23, zn_24, zn_25, zn_26, zn_27, zn_29, zn_30, zn_53, zn_55, zn_56, zn_58, zn_59, zn_61, zn_62, zn_63, zn_64, zn_65, zn_66, zn_67, zn_68, zn_69, zn_70, zn_71, zn_72, zn_73]; omega)) (k : JX8_readHymn Q 18 [a0, a1, a2] (aI (I q i.toNat) :: st) I) : JX8_readHymn Q 17 [a0, a1, a2] (aI i :: aR q :: st) I := g_iald dX8_readHymn_17 hk h0 h1 k
theorem dX8_readHymn_18 : decode cX8_readHymn 18 = .ok (.invokevirtual 86, 3) := by decide +kernel
theorem X8_readHymn_18 {Q : Int → z_M → Prop} {a0 a1 a2 : z_V} {b : Nat} {x0 : Int} {st : List z_V} {I : z_M} (hb : z_cl b = 4 := by first | assumption | rfl) (hst : z_sw st ≤ 8 := by exact Nat.le_of_ble_eq_true rfl) (k : CX4_emptyHymn (aR b :: [aI x0]) I (fun I9 => JX8_readHymn Q 21 [a0, a1, a2] st I9)) : JX8_readHymn Q 18 [a0, a1, a2] (aI x0 :: aR b :: st) I := g_callV (C := RX4) (ci := 4) (As := [aI x0]) (n := 1) dX8_readHymn_18 ⟨m_6_7, pdX4_emptyHymn, ⟨by decide, by decide⟩, rfl, rfl, by decide, by decide⟩ m_16_17 m_6_5 m_6_6 m_2_9 rfl hb (by decide) rfl rfl hst k (fun r I9 h => by obtain ⟨rfl, h⟩ := h; exact h)
theorem dX8_readHymn_21 : decode cX8_readHymn 21 = .ok (.iconst 0, 1) := by decide +kernel
theorem X8_readHymn_21 {Q : Int → z_M → Prop} {a0 a1 a2 : z_V} {st : List z_V} {I : z_M} (k : JX8_readHymn Q 22 [a0, a1, a2] (aI 0 :: st) I) : JX8_readHymn Q 21 [a0, a1, a2] st I := g_iconst (n := 0) dX8_readHymn_21 (by decide) k
theorem dX8_readHymn_22 : decode cX8_readHymn 22 = .ok (.istore_n 2, 1) := by decide +kernel
theorem X8_readHymn_22 {Q : Int → z_M → Prop} {a0 a1 a2 : z_V} {x : Int} {st : List z_V} {I : z_M} (hb : z_nl [a0, a1, a2] 2 = true := by rfl) (k : JX8_readHymn Q 23 [a0, a1, aI x] st I) : JX8_readHymn Q 22 [a0, a1, a2] (aI x :: st) I := g_istore_n (i := 2) (x := x) dX8_readHymn_22 rfl (show 2 < 3 from by decide) hb k
theorem dX8_readHymn_23 : decode cX8_readHymn 23 = .ok (.iload_n 2, 1) := by decide +kernel
theorem X8_readHymn_23 {Q : Int → z_M → Prop} {a0 a1 : z_V} {x : Int} {st : List z_V} {I : z_M} (k : JX8_readHymn Q 24 [a0, a1, aI x] (aI x :: st) I) : JX8_readHymn Q 23 [a0, a1, aI x] st I := g_iload_n (i := 2) (x := x) dX8_readHymn_23 rfl rfl k
theorem dX8_readHymn_24 : decode cX8_readHymn 24 = .ok (.bipush 8, 2) := by decide +kernel
theorem X8_readHymn_24 {Q : Int → z_M → Prop} {a0 a1 a2 : z_V} {st : List z_V} {I : z_M} (k : JX8_readHymn Q 26 [a0, a1, a2] (aI 8 :: st) I) : JX8_readHymn Q 24 [a0, a1, a2] st I := g_bipush (n := 8) dX8_readHymn_24 (by decide +kernel) (by decide) k
theorem dX8_readHymn_26 : decode cX8_readHymn 26 = .ok (.if_icmp .gt 59, 3) := by decide +kernel
theorem X8_readHymn_26 {Q : Int → z_M → Prop} {a0 a1 a2 : z_V} {x y : Int} {st : List z_V} {I : z_M} (kt : y < x → JX8_readHymn Q 85 [a0, a1, a2] st I) (kf : x ≤ y → JX8_readHymn Q 29 [a0, a1, a2] st I) : JX8_readHymn Q 26 [a0, a1, a2] (aI y :: aI x :: st) I := g_icmp_gt dX8_readHymn_26 (by decide) kt kf
theorem dX8_readHymn_29 : decode cX8_readHymn 29 = .ok (.aload_n 0, 1) := by decide +kernel
theorem X8_readHymn_29 {Q : Int → z_M → Prop} {a1 a2 : z_V} {x : Nat} {st : List z_V} {I : z_M} (k : JX8_readHymn Q 30 [aR x, a1, a2] (aR x :: st) I) : JX8_readHymn Q 29 [aR x, a1, a2] st I := g_aload_n (i := 0) (x := x) dX8_readHymn_29 rfl rfl k
theorem dX8_readHymn_30 : decode cX8_readHymn 30 = .ok (.invokevirtual 31, 3) := by decide +kernel
theorem X8_readHymn_30 {Q : Int → z_M → Prop} {a0 a1 a2 : z_V}   {st : List z_V} {I : z_M}  (hst : z_sw st ≤ 8 := by exact Nat.le_of_ble_eq_true rfl) (k : CX8_step (aR 54 :: []) I (fun I9 => JX8_readHymn Q 33 [a0, a1, a2] st I9)) : JX8_readHymn Q 30 [a0, a1, a2] (aR 54 :: st) I := g_callV (C := RX8) (ci := 8) (As := []) (n := 0) dX8_readHymn_30 ⟨m_13_0, pdX8_step, ⟨by decide, by decide⟩, rfl, rfl, by decide, by decide⟩ m_12_21 m_12_22 m_12_23 m_2_17 rfl rfl (by decide) rfl rfl hst k (fun r I9 h => by obtain ⟨rfl, h⟩ := h; exact h)
theorem dX8_readHymn_33 : decode cX8_readHymn 33 = .ok (.aload_n 0, 1) := by decide +kernel
theorem X8_readHymn_33 {Q : Int → z_M → Prop} {a1 a2 : z_V} {x : Nat} {st : List z_V} {I : z_M} (k : JX8_readHymn Q 34 [aR x, a1, a2] (aR x :: st) I) : JX8_readHymn Q 33 [aR x, a1, a2] st I := g_aload_n (i := 0) (x := x) dX8_readHymn_33 rfl rfl k
theorem dX8_readHymn_34 : decode cX8_readHymn 34 = .ok (.getfield 47, 3) := by decide +kernel
theorem X8_readHymn_34 {Q : Int → z_M → Prop} {a0 a1 a2 : z_V}  {st : List z_V} {I : z_M}  (k : JX8_readHymn Q 37 [a0, a1, a2] (aI (I 54 3) :: st) I) : JX8_readHymn Q 34 [a0, a1, a2] (aR 54 :: st) I := g_geti (ci := 8) (j := 3) (N := 7) (T := TX8) dX8_readHymn_34 rfl rfl (by decide) (z_nc8 rfl) inlX8 (by decide) m_12_19 rfl k
theorem dX8_readHymn_37 : decode cX8_readHymn 37 = .ok (.iconst 3, 1) := by decide +kernel
theorem X8_readHymn_37 {Q : Int → z_M → Prop} {a0 a1 a2 : z_V} {st : List z_V} {I : z_M} (k : JX8_readHymn Q 38 [a0, a1, a2] (aI 3 :: st) I) : JX8_readHymn Q 37 [a0, a1, a2] st I := g_iconst (n := 3) dX8_readHymn_37 (by decide) k
theorem dX8_readHymn_38 : decode cX8_readHymn 38 = .ok (.if_icmp .ne 5, 3) := by decide +kernel
theorem X8_readHymn_38 {Q : Int → z_M → Prop} {a0 a1 a2 : z_V} {x y : Int} {st : List z_V} {I : z_M} (kt : x ≠ y → JX8_readHymn Q 43 [a0, a1, a2] st I) (kf : x = y → JX8_readHymn Q 41 [a0, a1, a2] st I) : JX8_readHymn Q 38 [a0, a1, a2] (aI y :: aI x :: st) I := g_icmp_ne dX8_readHymn_38 (by decide) kt kf
theorem dX8_readHymn_41 : decode cX8_readHymn 41 = .ok (.iconst 1, 1) := by decide +kernel
theorem X8_readHymn_41 {Q : Int → z_M → Prop} {a0 a1 a2 : z_V} {st : List z_V} {I : z_M} (k : JX8_readHymn Q 42 [a0, a1, a2] (aI 1 :: st) I) : JX8_readHymn Q 41 [a0, a1, a2] st I := g_iconst (n := 1) dX8_readHymn_41 (by decide) k
theorem dX8_readHymn_42 : decode cX8_readHymn 42 = .ok (.ireturn, 1) := by decide +kernel
theorem X8_readHymn_42 {Q : Int → z_M → Prop} {a0 a1 a2 : z_V} {x : Int} {I : z_M} (hx : x = 0 ∨ x = 1 := by omega) (hq : Q x I) : JX8_readHymn Q 42 [a0, a1, a2] [aI x] I := g_zreturn dX8_readHymn_42 hx ⟨x, rfl, hq⟩
theorem dX8_readHymn_43 : decode cX8_readHymn 43 = .ok (.aload_n 0, 1) := by decide +kernel
theorem X8_readHymn_43 {Q : Int → z_M → Prop} {a1 a2 : z_V} {x : Nat} {st : List z_V} {I : z_M} (k : JX8_readHymn Q 44 [aR x, a1, a2] (aR x :: st) I) : JX8_readHymn Q 43 [aR x, a1, a2] st I := g_aload_n (i := 0) (x := x) dX8_readHymn_43 rfl rfl k
theorem dX8_readHymn_44 : decode cX8_readHymn 44 = .ok (.getfield 47, 3) := by decide +kernel
theorem X8_readHymn_44 {Q : Int → z_M → Prop} {a0 a1 a2 : z_V}  {st : List z_V} {I : z_M}  (k : JX8_readHymn Q 47 [a0, a1, a2] (aI (I 54 3) :: st) I) : JX8_readHymn Q 44 [a0, a1, a2] (aR 54 :: st) I := g_geti (ci := 8) (j := 3) (N := 7) (T := TX8) dX8_readHymn_44 rfl rfl (by decide) (z_nc8 rfl) inlX8 (by decide) m_12_19 rfl k
theorem dX8_readHymn_47 : decode cX8_readHymn 47 = .ok (.iconst 2, 1) := by decide +kernel
theorem X8_readHymn_47 {Q : Int → z_M → Prop} {a0 a1 a2 : z_V} {st : List z_V} {I : z_M} (k : JX8_readHymn Q 48 [a0, a1, a2] (aI 2 :: st) I) : JX8_readHymn Q 47 [a0, a1, a2] st I := g_iconst (n := 2) dX8_readHymn_47 (by decide) k
theorem dX8_readHymn_48 : decode cX8_readHymn 48 = .ok (.if_icmp .ne 29, 3) := by decide +kernel
theorem X8_readHymn_48 {Q : Int → z_M → Prop} {a0 a1 a2 : z_V} {x y : Int} {st : List z_V} {I : z_M} (kt : x ≠ y → JX8_readHymn Q 77 [a0, a1, a2] st I) (kf : x = y → JX8_readHymn Q 51 [a0, a1, a2] st I) : JX8_readHymn Q 48 [a0, a1, a2] (aI y :: aI x :: st) I := g_icmp_ne dX8_readHymn_48 (by decide) kt kf
theorem dX8_readHymn_51 : decode cX8_readHymn 51 = .ok (.aload_n 0, 1) := by decide +kernel
theorem X8_readHymn_51 {Q : Int → z_M → Prop} {a1 a2 : z_V} {x : Nat} {st : List z_V} {I : z_M} (k : JX8_readHymn Q 52 [aR x, a1, a2] (aR x :: st) I) : JX8_readHymn Q 51 [aR x, a1, a2] st I := g_aload_n (i := 0) (x := x) dX8_readHymn_51 rfl rfl k
theorem dX8_readHymn_52 : decode cX8_readHymn 52 = .ok (.getfield 90, 3) := by decide +kernel
theorem X8_readHymn_52 {Q : Int → z_M → Prop} {a0 a1 a2 : z_V}  {st : List z_V} {I : z_M}  (k : JX8_readHymn Q 55 [a0, a1, a2] (aI (I 54 6) :: st) I) : JX8_readHymn Q 52 [a0, a1, a2] (aR 54 :: st) I := g_geti (ci := 8) (j := 6) (N := 7) (T := TX8) dX8_readHymn_52 rfl rfl (by decide) (z_nc8 rfl) inlX8 (by decide) m_13_1 rfl k
theorem dX8_readHymn_55 : decode cX8_readHymn 55 = .ok (.bipush 36, 2) := by decide +kernel
theorem X8_readHymn_55 {Q : Int → z_M → Prop} {a0 a1 a2 : z_V} {st : List z_V} {I : z_M} (k : JX8_readHymn Q 57 [a0, a1, a2] (aI 36 :: st) I) : JX8_readHymn Q 55 [a0, a1, a2] st I := g_bipush (n := 36) dX8_readHymn_55 (by decide +kernel) (by decide) k
theorem dX8_readHymn_57 : decode cX8_readHymn 57 = .ok (.if_icmp .ge 20, 3) := by decide +kernel
theorem X8_readHymn_57 {Q : Int → z_M → Prop} {a0 a1 a2 : z_V} {x y : Int} {st : List z_V} {I : z_M} (kt : y ≤ x → JX8_readHymn Q 77 [a0, a1, a2] st I) (kf : x < y → JX8_readHymn Q 60 [a0, a1, a2] st I) : JX8_readHymn Q 57 [a0, a1, a2] (aI y :: aI x :: st) I := g_icmp_ge dX8_readHymn_57 (by decide) kt kf
theorem dX8_readHymn_60 : decode cX8_readHymn 60 = .ok (.aload_n 1, 1) := by decide +kernel
theorem X8_readHymn_60 {Q : Int → z_M → Prop} {a0 a2 : z_V} {x : Nat} {st : List z_V} {I : z_M} (k : JX8_readHymn Q 61 [a0, aR x, a2] (aR x :: st) I) : JX8_readHymn Q 60 [a0, aR x, a2] st I := g_aload_n (i := 1) (x := x) dX8_readHymn_60 rfl rfl k
theorem dX8_readHymn_61 : decode cX8_readHymn 61 = .ok (.aload_n 0, 1) := by decide +kernel
theorem X8_readHymn_61 {Q : Int → z_M → Prop} {a1 a2 : z_V} {x : Nat} {st : List z_V} {I : z_M} (k : JX8_readHymn Q 62 [aR x, a1, a2] (aR x :: st) I) : JX8_readHymn Q 61 [aR x, a1, a2] st I := g_aload_n (i := 0) (x := x) dX8_readHymn_61 rfl rfl k
theorem dX8_readHymn_62 : decode cX8_readHymn 62 = .ok (.getfield 15, 3) := by decide +kernel
theorem X8_readHymn_62 {Q : Int → z_M → Prop} {a0 a1 a2 : z_V}  {st : List z_V} {I : z_M}  (k : JX8_readHymn Q 65 [a0, a1, a2] (aR (56) :: st) I) : JX8_readHymn Q 62 [a0, a1, a2] (aR 54 :: st) I := g_getr (ci := 8) (j := 2) (N := 7) (T := TX8) dX8_readHymn_62 rfl rfl (by decide) (z_nc8 rfl) inlX8 (by decide) m_4_16 rfl rfl k
theorem dX8_readHymn_65 : decode cX8_readHymn 65 = .ok (.iconst 0, 1) := by decide +kernel
theorem X8_readHymn_65 {Q : Int → z_M → Prop} {a0 a1 a2 : z_V} {st : List z_V} {I : z_M} (k : JX8_readHymn Q 66 [a0, a1, a2] (aI 0 :: st) I) : JX8_readHymn Q 65 [a0, a1, a2] st I := g_iconst (n := 0) dX8_readHymn_65 (by decide) k
theorem dX8_readHymn_66 : decode cX8_readHymn 66 = .ok (.iaload, 1) := by decide +kernel
theorem X8_readHymn_66 {Q : Int → z_M → Prop} {a0 a1 a2 : z_V} {q : Nat} {i : Int} {st : List z_V} {I : z_M} (hk : z_cl q = 20 := by first | assumption | rfl) (h0 : 0 ≤ i := by omega) (h1 : i < z_n q := by first | omega | (simp only [zn_1, zn_9, zn_10, zn_11, zn_12, zn_13, zn_14, zn_15, zn_16, zn_18, zn_20, zn_21, zn_22, zn_23, zn_24, zn_25, zn_26, zn_27, zn_29, zn_30, zn_53, zn_55, zn_56, zn_58, zn_59, zn_61, zn_62, zn_63, zn_64, zn_65, zn_66, zn_67, zn_68, zn_69, zn_70, zn_71, zn_72, zn_73]; omega)) (k : JX8_readHymn Q 67 [a0, a1, a2] (aI (I q i.toNat) :: st) I) : JX8_readHymn Q 66 [a0, a1, a2] (aI i :: aR q :: st) I := g_iald dX8_readHymn_66 hk h0 h1 k
theorem dX8_readHymn_67 : decode cX8_readHymn 67 = .ok (.aload_n 0, 1) := by decide +kernel
theorem X8_readHymn_67 {Q : Int → z_M → Prop} {a1 a2 : z_V} {x : Nat} {st : List z_V} {I : z_M} (k : JX8_readHymn Q 68 [aR x, a1, a2] (aR x :: st) I) : JX8_readHymn Q 67 [aR x, a1, a2] st I := g_aload_n (i := 0) (x := x) dX8_readHymn_67 rfl rfl k
theorem dX8_readHymn_68 : decode cX8_readHymn 68 = .ok (.getfield 90, 3) := by decide +kernel
theorem X8_readHymn_68 {Q : Int → z_M → Prop} {a0 a1 a2 : z_V}  {st : List z_V} {I : z_M}  (k : JX8_readHymn Q 71 [a0, a1, a2] (aI (I 54 6) :: st) I) : JX8_readHymn Q 68 [a0, a1, a2] (aR 54 :: st) I := g_geti (ci := 8) (j := 6) (N := 7) (T := TX8) dX8_readHymn_68 rfl rfl (by decide) (z_nc8 rfl) inlX8 (by decide) m_13_1 rfl k
theorem dX8_readHymn_71 : decode cX8_readHymn 71 = .ok (.invokevirtual 93, 3) := by decide +kernel
theorem X8_readHymn_71 {Q : Int → z_M → Prop} {a0 a1 a2 : z_V} {b : Nat} {x0 : Int} {x1 : Int} {st : List z_V} {I : z_M} (hb : z_cl b = 4 := by first | assumption | rfl) (hst : z_sw st ≤ 8 := by exact Nat.le_of_ble_eq_true rfl) (k : CX4_addNote (aR b :: [aI x0, aI x1]) I (fun x9 I9 => JX8_readHymn Q 74 [a0, a1, a2] (aI x9 :: st) I9)) : JX8_readHymn Q 71 [a0, a1, a2] (aI x1 :: aI x0 :: aR b :: st) I := g_callV (C := RX4) (ci := 4) (As := [aI x0, aI x1]) (n := 2) dX8_readHymn_71 ⟨m_10_11, pdX4_addNote, ⟨by decide, by decide⟩, rfl, rfl, by decide, by decide⟩ m_16_18 m_10_9 m_10_10 m_2_9 rfl hb (by decide) rfl rfl hst k (fun r I9 h => by obtain ⟨x9, rfl, h⟩ := h; exact h)
theorem dX8_readHymn_74 : decode cX8_readHymn 74 = .ok (.ifCond .ne 5, 3) := by decide +kernel
theorem X8_readHymn_74 {Q : Int → z_M → Prop} {a0 a1 a2 : z_V} {x : Int} {st : List z_V} {I : z_M} (kt : x ≠ 0 → JX8_readHymn Q 79 [a0, a1, a2] st I) (kf : x = 0 → JX8_readHymn Q 77 [a0, a1, a2] st I) : JX8_readHymn Q 74 [a0, a1, a2] (aI x :: st) I := g_if_ne dX8_readHymn_74 (by decide) kt kf
theorem dX8_readHymn_77 : decode cX8_readHymn 77 = .ok (.iconst 0, 1) := by decide +kernel
theorem X8_readHymn_77 {Q : Int → z_M → Prop} {a0 a1 a2 : z_V} {st : List z_V} {I : z_M} (k : JX8_readHymn Q 78 [a0, a1, a2] (aI 0 :: st) I) : JX8_readHymn Q 77 [a0, a1, a2] st I := g_iconst (n := 0) dX8_readHymn_77 (by decide) k
theorem dX8_readHymn_78 : decode cX8_readHymn 78 = .ok (.ireturn, 1) := by decide +kernel
theorem X8_readHymn_78 {Q : Int → z_M → Prop} {a0 a1 a2 : z_V} {x : Int} {I : z_M} (hx : x = 0 ∨ x = 1 := by omega) (hq : Q x I) : JX8_readHymn Q 78 [a0, a1, a2] [aI x] I := g_zreturn dX8_readHymn_78 hx ⟨x, rfl, hq⟩
theorem dX8_readHymn_79 : decode cX8_readHymn 79 = .ok (.iinc 2 1, 3) := by decide +kernel
theorem X8_readHymn_79 {Q : Int → z_M → Prop} {a0 a1 : z_V} {x : Int} {st : List z_V} {I : z_M} (hb : z_nl [a0, a1, aI x] 2 = true := by rfl) (hr : inI (x + 1) := by omega) (k : JX8_readHymn Q 82 [a0, a1, aI (x + 1)] st I) : JX8_readHymn Q 79 [a0, a1, aI x] st I := g_iinc (i := 2) (x := x) dX8_readHymn_79 rfl (show 2 < 3 from by decide) hb hr k
theorem dX8_readHymn_82 : decode cX8_readHymn 82 = .ok (.goto (-59), 3) := by decide +kernel
theorem X8_readHymn_82 {Q : Int → z_M → Prop} {a0 a1 a2 : z_V} {st : List z_V} {I : z_M} (k : JX8_readHymn Q 23 [a0, a1, a2] st I) : JX8_readHymn Q 82 [a0, a1, a2] st I := g_goto dX8_readHymn_82 (by decide) k
theorem dX8_readHymn_85 : decode cX8_readHymn 85 = .ok (.iconst 0, 1) := by decide +kernel
theorem X8_readHymn_85 {Q : Int → z_M → Prop} {a0 a1 a2 : z_V} {st : List z_V} {I : z_M} (k : JX8_readHymn Q 86 [a0, a1, a2] (aI 0 :: st) I) : JX8_readHymn Q 85 [a0, a1, a2] st I := g_iconst (n := 0) dX8_readHymn_85 (by decide) k
theorem dX8_readHymn_86 : decode cX8_readHymn 86 = .ok (.ireturn, 1) := by decide +kernel
theorem X8_readHymn_86 {Q : Int → z_M → Prop} {a0 a1 a2 : z_V} {x : Int} {I : z_M} (hx : x = 0 ∨ x = 1 := by omega) (hq : Q x I) : JX8_readHymn Q 86 [a0, a1, a2] [aI x] I := g_zreturn dX8_readHymn_86 hx ⟨x, rfl, hq⟩
theorem dX8_readNumber_0 : decode cX8_readNumber 0 = .ok (.aload_n 0, 1) := by decide +kernel
theorem X8_readNumber_0 {Q : Int → z_M → Prop} {a1 a2 : z_V} {x : Nat} {st : List z_V} {I : z_M} (k : JX8_readNumber Q 1 [aR x, a1, a2] (aR x :: st) I) : JX8_readNumber Q 0 [aR x, a1, a2] st I := g_aload_n (i := 0) (x := x) dX8_readNumber_0 rfl rfl k
theorem dX8_readNumber_1 : decode cX8_readNumber 1 = .ok (.invokevirtual 31, 3) := by decide +kernel
theorem X8_readNumber_1 {Q : Int → z_M → Prop} {a0 a1 a2 : z_V}   {st : List z_V} {I : z_M}  (hst : z_sw st ≤ 8 := by exact Nat.le_of_ble_eq_true rfl) (k : CX8_step (aR 54 :: []) I (fun I9 => JX8_readNumber Q 4 [a0, a1, a2] st I9)) : JX8_readNumber Q 1 [a0, a1, a2] (aR 54 :: st) I := g_callV (C := RX8) (ci := 8) (As := []) (n := 0) dX8_readNumber_1 ⟨m_13_0, pdX8_step, ⟨by decide, by decide⟩, rfl, rfl, by decide, by decide⟩ m_12_21 m_12_22 m_12_23 m_2_17 rfl rfl (by decide) rfl rfl hst k (fun r I9 h => by obtain ⟨rfl, h⟩ := h; exact h)
theorem dX8_readNumber_4 : decode cX8_readNumber 4 = .ok (.aload_n 0, 1) := by decide +kernel
theorem X8_readNumber_4 {Q : Int → z_M → Prop} {a1 a2 : z_V} {x : Nat} {st : List z_V} {I : z_M} (k : JX8_readNumber Q 5 [aR x, a1, a2] (aR x :: st) I) : JX8_readNumber Q 4 [aR x, a1, a2] st I := g_aload_n (i := 0) (x := x) dX8_readNumber_4 rfl rfl k
theorem dX8_readNumber_5 : decode cX8_readNumber 5 = .ok (.getfield 47, 3) := by decide +kernel
theorem X8_readNumber_5 {Q : Int → z_M → Prop} {a0 a1 a2 : z_V}  {st : List z_V} {I : z_M}  (k : JX8_readNumber Q 8 [a0, a1, a2] (aI (I 54 3) :: st) I) : JX8_readNumber Q 5 [a0, a1, a2] (aR 54 :: st) I := g_geti (ci := 8) (j := 3) (N := 7) (T := TX8) dX8_readNumber_5 rfl rfl (by decide) (z_nc8 rfl) inlX8 (by decide) m_12_19 rfl k
theorem dX8_readNumber_8 : decode cX8_readNumber 8 = .ok (.iconst 2, 1) := by decide +kernel
theorem X8_readNumber_8 {Q : Int → z_M → Prop} {a0 a1 a2 : z_V} {st : List z_V} {I : z_M} (k : JX8_readNumber Q 9 [a0, a1, a2] (aI 2 :: st) I) : JX8_readNumber Q 8 [a0, a1, a2] st I := g_iconst (n := 2) dX8_readNumber_8 (by decide) k
theorem dX8_readNumber_9 : decode cX8_readNumber 9 = .ok (.if_icmp .ne 11, 3) := by decide +kernel
theorem X8_readNumber_9 {Q : Int → z_M → Prop} {a0 a1 a2 : z_V} {x y : Int} {st : List z_V} {I : z_M} (kt : x ≠ y → JX8_readNumber Q 20 [a0, a1, a2] st I) (kf : x = y → JX8_readNumber Q 12 [a0, a1, a2] st I) : JX8_readNumber Q 9 [a0, a1, a2] (aI y :: aI x :: st) I := g_icmp_ne dX8_readNumber_9 (by decide) kt kf
theorem dX8_readNumber_12 : decode cX8_readNumber 12 = .ok (.aload_n 0, 1) := by decide +kernel
theorem X8_readNumber_12 {Q : Int → z_M → Prop} {a1 a2 : z_V} {x : Nat} {st : List z_V} {I : z_M} (k : JX8_readNumber Q 13 [aR x, a1, a2] (aR x :: st) I) : JX8_readNumber Q 12 [aR x, a1, a2] st I := g_aload_n (i := 0) (x := x) dX8_readNumber_12 rfl rfl k
theorem dX8_readNumber_13 : decode cX8_readNumber 13 = .ok (.getfield 90, 3) := by decide +kernel
theorem X8_readNumber_13 {Q : Int → z_M → Prop} {a0 a1 a2 : z_V}  {st : List z_V} {I : z_M}  (k : JX8_readNumber Q 16 [a0, a1, a2] (aI (I 54 6) :: st) I) : JX8_readNumber Q 13 [a0, a1, a2] (aR 54 :: st) I := g_geti (ci := 8) (j := 6) (N := 7) (T := TX8) dX8_readNumber_13 rfl rfl (by decide) (z_nc8 rfl) inlX8 (by decide) m_13_1 rfl k
theorem dX8_readNumber_16 : decode cX8_readNumber 16 = .ok (.iload_n 2, 1) := by decide +kernel
theorem X8_readNumber_16 {Q : Int → z_M → Prop} {a0 a1 : z_V} {x : Int} {st : List z_V} {I : z_M} (k : JX8_readNumber Q 17 [a0, a1, aI x] (aI x :: st) I) : JX8_readNumber Q 16 [a0, a1, aI x] st I := g_iload_n (i := 2) (x := x) dX8_readNumber_16 rfl rfl k
theorem dX8_readNumber_17 : decode cX8_readNumber 17 = .ok (.if_icmp .le 5, 3) := by decide +kernel
theorem X8_readNumber_17 {Q : Int → z_M → Prop} {a0 a1 a2 : z_V} {x y : Int} {st : List z_V} {I : z_M} (kt : x ≤ y → JX8_readNumber Q 22 [a0, a1, a2] st I) (kf : y < x → JX8_readNumber Q 20 [a0, a1, a2] st I) : JX8_readNumber Q 17 [a0, a1, a2] (aI y :: aI x :: st) I := g_icmp_le dX8_readNumber_17 (by decide) kt kf
theorem dX8_readNumber_20 : decode cX8_readNumber 20 = .ok (.iconst 0, 1) := by decide +kernel
theorem X8_readNumber_20 {Q : Int → z_M → Prop} {a0 a1 a2 : z_V} {st : List z_V} {I : z_M} (k : JX8_readNumber Q 21 [a0, a1, a2] (aI 0 :: st) I) : JX8_readNumber Q 20 [a0, a1, a2] st I := g_iconst (n := 0) dX8_readNumber_20 (by decide) k
theorem dX8_readNumber_21 : decode cX8_readNumber 21 = .ok (.ireturn, 1) := by decide +kernel
theorem X8_readNumber_21 {Q : Int → z_M → Prop} {a0 a1 a2 : z_V} {x : Int} {I : z_M} (hx : x = 0 ∨ x = 1 := by omega) (hq : Q x I) : JX8_readNumber Q 21 [a0, a1, a2] [aI x] I := g_zreturn dX8_readNumber_21 hx ⟨x, rfl, hq⟩
theorem dX8_readNumber_22 : decode cX8_readNumber 22 = .ok (.aload_n 0, 1) := by decide +kernel
theorem X8_readNumber_22 {Q : Int → z_M → Prop} {a1 a2 : z_V} {x : Nat} {st : List z_V} {I : z_M} (k : JX8_readNumber Q 23 [aR x, a1, a2] (aR x :: st) I) : JX8_readNumber Q 22 [aR x, a1, a2] st I := g_aload_n (i := 0) (x := x) dX8_readNumber_22 rfl rfl k
theorem dX8_readNumber_23 : decode cX8_readNumber 23 = .ok (.getfield 15, 3) := by decide +kernel
theorem X8_readNumber_23 {Q : Int → z_M → Prop} {a0 a1 a2 : z_V}  {st : List z_V} {I : z_M}  (k : JX8_readNumber Q 26 [a0, a1, a2] (aR (56) :: st) I) : JX8_readNumber Q 23 [a0, a1, a2] (aR 54 :: st) I := g_getr (ci := 8) (j := 2) (N := 7) (T := TX8) dX8_readNumber_23 rfl rfl (by decide) (z_nc8 rfl) inlX8 (by decide) m_4_16 rfl rfl k
theorem dX8_readNumber_26 : decode cX8_readNumber 26 = .ok (.iload_n 1, 1) := by decide +kernel
theorem X8_readNumber_26 {Q : Int → z_M → Prop} {a0 a2 : z_V} {x : Int} {st : List z_V} {I : z_M} (k : JX8_readNumber Q 27 [a0, aI x, a2] (aI x :: st) I) : JX8_readNumber Q 26 [a0, aI x, a2] st I := g_iload_n (i := 1) (x := x) dX8_readNumber_26 rfl rfl k
theorem dX8_readNumber_27 : decode cX8_readNumber 27 = .ok (.aload_n 0, 1) := by decide +kernel
theorem X8_readNumber_27 {Q : Int → z_M → Prop} {a1 a2 : z_V} {x : Nat} {st : List z_V} {I : z_M} (k : JX8_readNumber Q 28 [aR x, a1, a2] (aR x :: st) I) : JX8_readNumber Q 27 [aR x, a1, a2] st I := g_aload_n (i := 0) (x := x) dX8_readNumber_27 rfl rfl k
theorem dX8_readNumber_28 : decode cX8_readNumber 28 = .ok (.getfield 90, 3) := by decide +kernel
theorem X8_readNumber_28 {Q : Int → z_M → Prop} {a0 a1 a2 : z_V}  {st : List z_V} {I : z_M}  (k : JX8_readNumber Q 31 [a0, a1, a2] (aI (I 54 6) :: st) I) : JX8_readNumber Q 28 [a0, a1, a2] (aR 54 :: st) I := g_geti (ci := 8) (j := 6) (N := 7) (T := TX8) dX8_readNumber_28 rfl rfl (by decide) (z_nc8 rfl) inlX8 (by decide) m_13_1 rfl k
theorem dX8_readNumber_31 : decode cX8_readNumber 31 = .ok (.iastore, 1) := by decide +kernel
theorem X8_readNumber_31 {Q : Int → z_M → Prop} {a0 a1 a2 : z_V} {q : Nat} {i x : Int} {st : List z_V} {I : z_M} (hk : z_cl q = 20 := by first | assumption | rfl) (h0 : 0 ≤ i := by omega) (h1 : i < z_n q := by first | omega | (simp only [zn_1, zn_9, zn_10, zn_11, zn_12, zn_13, zn_14, zn_15, zn_16, zn_18, zn_20, zn_21, zn_22, zn_23, zn_24, zn_25, zn_26, zn_27, zn_29, zn_30, zn_53, zn_55, zn_56, zn_58, zn_59, zn_61, zn_62, zn_63, zn_64, zn_65, zn_66, zn_67, zn_68, zn_69, zn_70, zn_71, zn_72, zn_73]; omega))  (k : JX8_readNumber Q 32 [a0, a1, a2] st (z_up I q i.toNat x)) : JX8_readNumber Q 31 [a0, a1, a2] (aI x :: aI i :: aR q :: st) I := g_iast dX8_readNumber_31 hk h0 h1 k
theorem dX8_readNumber_32 : decode cX8_readNumber 32 = .ok (.iconst 1, 1) := by decide +kernel
theorem X8_readNumber_32 {Q : Int → z_M → Prop} {a0 a1 a2 : z_V} {st : List z_V} {I : z_M} (k : JX8_readNumber Q 33 [a0, a1, a2] (aI 1 :: st) I) : JX8_readNumber Q 32 [a0, a1, a2] st I := g_iconst (n := 1) dX8_readNumber_32 (by decide) k
theorem dX8_readNumber_33 : decode cX8_readNumber 33 = .ok (.ireturn, 1) := by decide +kernel
theorem X8_readNumber_33 {Q : Int → z_M → Prop} {a0 a1 a2 : z_V} {x : Int} {I : z_M} (hx : x = 0 ∨ x = 1 := by omega) (hq : Q x I) : JX8_readNumber Q 33 [a0, a1, a2] [aI x] I := g_zreturn dX8_readNumber_33 hx ⟨x, rfl, hq⟩
theorem dX8_stepTo_0 : decode cX8_stepTo 0 = .ok (.aload_n 0, 1) := by decide +kernel
theorem X8_stepTo_0 {Q : Int → z_M → Prop} {a1 : z_V} {x : Nat} {st : List z_V} {I : z_M} (k : JX8_stepTo Q 1 [aR x, a1] (aR x :: st) I) : JX8_stepTo Q 0 [aR x, a1] st I := g_aload_n (i := 0) (x := x) dX8_stepTo_0 rfl rfl k
theorem dX8_stepTo_1 : decode cX8_stepTo 1 = .ok (.invokevirtual 31, 3) := by decide +kernel
theorem X8_stepTo_1 {Q : Int → z_M → Prop} {a0 a1 : z_V}   {st : List z_V} {I : z_M}  (hst : z_sw st ≤ 8 := by exact Nat.le_of_ble_eq_true rfl) (k : CX8_step (aR 54 :: []) I (fun I9 => JX8_stepTo Q 4 [a0, a1] st I9)) : JX8_stepTo Q 1 [a0, a1] (aR 54 :: st) I := g_callV (C := RX8) (ci := 8) (As := []) (n := 0) dX8_stepTo_1 ⟨m_13_0, pdX8_step, ⟨by decide, by decide⟩, rfl, rfl, by decide, by decide⟩ m_12_21 m_12_22 m_12_23 m_2_17 rfl rfl (by decide) rfl rfl hst k (fun r I9 h => by obtain ⟨rfl, h⟩ := h; exact h)
theorem dX8_stepTo_4 : decode cX8_stepTo 4 = .ok (.aload_n 0, 1) := by decide +kernel
theorem X8_stepTo_4 {Q : Int → z_M → Prop} {a1 : z_V} {x : Nat} {st : List z_V} {I : z_M} (k : JX8_stepTo Q 5 [aR x, a1] (aR x :: st) I) : JX8_stepTo Q 4 [aR x, a1] st I := g_aload_n (i := 0) (x := x) dX8_stepTo_4 rfl rfl k
theorem dX8_stepTo_5 : decode cX8_stepTo 5 = .ok (.getfield 47, 3) := by decide +kernel
theorem X8_stepTo_5 {Q : Int → z_M → Prop} {a0 a1 : z_V}  {st : List z_V} {I : z_M}  (k : JX8_stepTo Q 8 [a0, a1] (aI (I 54 3) :: st) I) : JX8_stepTo Q 5 [a0, a1] (aR 54 :: st) I := g_geti (ci := 8) (j := 3) (N := 7) (T := TX8) dX8_stepTo_5 rfl rfl (by decide) (z_nc8 rfl) inlX8 (by decide) m_12_19 rfl k
theorem dX8_stepTo_8 : decode cX8_stepTo 8 = .ok (.iload_n 1, 1) := by decide +kernel
theorem X8_stepTo_8 {Q : Int → z_M → Prop} {a0 : z_V} {x : Int} {st : List z_V} {I : z_M} (k : JX8_stepTo Q 9 [a0, aI x] (aI x :: st) I) : JX8_stepTo Q 8 [a0, aI x] st I := g_iload_n (i := 1) (x := x) dX8_stepTo_8 rfl rfl k
theorem dX8_stepTo_9 : decode cX8_stepTo 9 = .ok (.if_icmp .ne 7, 3) := by decide +kernel
theorem X8_stepTo_9 {Q : Int → z_M → Prop} {a0 a1 : z_V} {x y : Int} {st : List z_V} {I : z_M} (kt : x ≠ y → JX8_stepTo Q 16 [a0, a1] st I) (kf : x = y → JX8_stepTo Q 12 [a0, a1] st I) : JX8_stepTo Q 9 [a0, a1] (aI y :: aI x :: st) I := g_icmp_ne dX8_stepTo_9 (by decide) kt kf
theorem dX8_stepTo_12 : decode cX8_stepTo 12 = .ok (.iconst 1, 1) := by decide +kernel
theorem X8_stepTo_12 {Q : Int → z_M → Prop} {a0 a1 : z_V} {st : List z_V} {I : z_M} (k : JX8_stepTo Q 13 [a0, a1] (aI 1 :: st) I) : JX8_stepTo Q 12 [a0, a1] st I := g_iconst (n := 1) dX8_stepTo_12 (by decide) k
theorem dX8_stepTo_13 : decode cX8_stepTo 13 = .ok (.goto 4, 3) := by decide +kernel
theorem X8_stepTo_13 {Q : Int → z_M → Prop} {a0 a1 : z_V} {st : List z_V} {I : z_M} (k : JX8_stepTo Q 17 [a0, a1] st I) : JX8_stepTo Q 13 [a0, a1] st I := g_goto dX8_stepTo_13 (by decide) k
theorem dX8_stepTo_16 : decode cX8_stepTo 16 = .ok (.iconst 0, 1) := by decide +kernel
theorem X8_stepTo_16 {Q : Int → z_M → Prop} {a0 a1 : z_V} {st : List z_V} {I : z_M} (k : JX8_stepTo Q 17 [a0, a1] (aI 0 :: st) I) : JX8_stepTo Q 16 [a0, a1] st I := g_iconst (n := 0) dX8_stepTo_16 (by decide) k
theorem dX8_stepTo_17 : decode cX8_stepTo 17 = .ok (.ireturn, 1) := by decide +kernel
theorem X8_stepTo_17 {Q : Int → z_M → Prop} {a0 a1 : z_V} {x : Int} {I : z_M} (hx : x = 0 ∨ x = 1 := by omega) (hq : Q x I) : JX8_stepTo Q 17 [a0, a1] [aI x] I := g_zreturn dX8_stepTo_17 hx ⟨x, rfl, hq⟩
theorem dX8_step_0 : decode cX8_step 0 = .ok (.aload_n 0, 1) := by decide +kernel
theorem X8_step_0 {Q : z_M → Prop}  {x : Nat} {st : List z_V} {I : z_M} (k : JX8_step Q 1 [aR x] (aR x :: st) I) : JX8_step Q 0 [aR x] st I := g_aload_n (i := 0) (x := x) dX8_step_0 rfl rfl k
theorem dX8_step_1 : decode cX8_step 1 = .ok (.getfield 28, 3) := by decide +kernel
theorem X8_step_1 {Q : z_M → Prop} {a0 : z_V}  {st : List z_V} {I : z_M}  (k : JX8_step Q 4 [a0] (aI (I 54 5) :: st) I) : JX8_step Q 1 [a0] (aR 54 :: st) I := g_geti (ci := 8) (j := 5) (N := 7) (T := TX8) dX8_step_1 rfl rfl (by decide) (z_nc8 rfl) inlX8 (by decide) m_12_17 rfl k
theorem dX8_step_4 : decode cX8_step 4 = .ok (.aload_n 0, 1) := by decide +kernel
theorem X8_step_4 {Q : z_M → Prop}  {x : Nat} {st : List z_V} {I : z_M} (k : JX8_step Q 5 [aR x] (aR x :: st) I) : JX8_step Q 4 [aR x] st I := g_aload_n (i := 0) (x := x) dX8_step_4 rfl rfl k
theorem dX8_step_5 : decode cX8_step 5 = .ok (.getfield 19, 3) := by decide +kernel
theorem X8_step_5 {Q : z_M → Prop} {a0 : z_V}  {st : List z_V} {I : z_M}  (k : JX8_step Q 8 [a0] (aI (I 54 0) :: st) I) : JX8_step Q 5 [a0] (aR 54 :: st) I := g_geti (ci := 8) (j := 0) (N := 7) (T := TX8) dX8_step_5 rfl rfl (by decide) (z_nc8 rfl) inlX8 (by decide) m_11_18 rfl k
theorem dX8_step_8 : decode cX8_step 8 = .ok (.if_icmp .ge 30, 3) := by decide +kernel
theorem X8_step_8 {Q : z_M → Prop} {a0 : z_V} {x y : Int} {st : List z_V} {I : z_M} (kt : y ≤ x → JX8_step Q 38 [a0] st I) (kf : x < y → JX8_step Q 11 [a0] st I) : JX8_step Q 8 [a0] (aI y :: aI x :: st) I := g_icmp_ge dX8_step_8 (by decide) kt kf
theorem dX8_step_11 : decode cX8_step 11 = .ok (.aload_n 0, 1) := by decide +kernel
theorem X8_step_11 {Q : z_M → Prop}  {x : Nat} {st : List z_V} {I : z_M} (k : JX8_step Q 12 [aR x] (aR x :: st) I) : JX8_step Q 11 [aR x] st I := g_aload_n (i := 0) (x := x) dX8_step_11 rfl rfl k
theorem dX8_step_12 : decode cX8_step 12 = .ok (.getfield 9, 3) := by decide +kernel
theorem X8_step_12 {Q : z_M → Prop} {a0 : z_V}  {st : List z_V} {I : z_M}  (k : JX8_step Q 15 [a0] (aR (55) :: st) I) : JX8_step Q 12 [a0] (aR 54 :: st) I := g_getr (ci := 8) (j := 1) (N := 7) (T := TX8) dX8_step_12 rfl rfl (by decide) (z_nc8 rfl) inlX8 (by decide) m_4_15 rfl rfl k
theorem dX8_step_15 : decode cX8_step 15 = .ok (.aload_n 0, 1) := by decide +kernel
theorem X8_step_15 {Q : z_M → Prop}  {x : Nat} {st : List z_V} {I : z_M} (k : JX8_step Q 16 [aR x] (aR x :: st) I) : JX8_step Q 15 [aR x] st I := g_aload_n (i := 0) (x := x) dX8_step_15 rfl rfl k
theorem dX8_step_16 : decode cX8_step 16 = .ok (.getfield 28, 3) := by decide +kernel
theorem X8_step_16 {Q : z_M → Prop} {a0 : z_V}  {st : List z_V} {I : z_M}  (k : JX8_step Q 19 [a0] (aI (I 54 5) :: st) I) : JX8_step Q 16 [a0] (aR 54 :: st) I := g_geti (ci := 8) (j := 5) (N := 7) (T := TX8) dX8_step_16 rfl rfl (by decide) (z_nc8 rfl) inlX8 (by decide) m_12_17 rfl k
theorem dX8_step_19 : decode cX8_step 19 = .ok (.baload, 1) := by decide +kernel
theorem X8_step_19 {Q : z_M → Prop} {a0 : z_V} {q : Nat} {i : Int} {st : List z_V} {I : z_M} (hk : z_cl q = 21 := by first | assumption | rfl) (h0 : 0 ≤ i := by omega) (h1 : i < z_n q := by first | omega | (simp only [zn_1, zn_9, zn_10, zn_11, zn_12, zn_13, zn_14, zn_15, zn_16, zn_18, zn_20, zn_21, zn_22, zn_23, zn_24, zn_25, zn_26, zn_27, zn_29, zn_30, zn_53, zn_55, zn_56, zn_58, zn_59, zn_61, zn_62, zn_63, zn_64, zn_65, zn_66, zn_67, zn_68, zn_69, zn_70, zn_71, zn_72, zn_73]; omega)) (k : JX8_step Q 20 [a0] (aI (I q i.toNat) :: st) I) : JX8_step Q 19 [a0] (aI i :: aR q :: st) I := g_bald dX8_step_19 hk h0 h1 k
theorem X8_step_19z {Q : z_M → Prop} {a0 : z_V} {q : Nat} {i : Int} {st : List z_V} {I : z_M} (hk : z_cl q = 22 := by first | assumption | rfl) (h0 : 0 ≤ i := by omega) (h1 : i < z_n q := by first | omega | (simp only [zn_1, zn_9, zn_10, zn_11, zn_12, zn_13, zn_14, zn_15, zn_16, zn_18, zn_20, zn_21, zn_22, zn_23, zn_24, zn_25, zn_26, zn_27, zn_29, zn_30, zn_53, zn_55, zn_56, zn_58, zn_59, zn_61, zn_62, zn_63, zn_64, zn_65, zn_66, zn_67, zn_68, zn_69, zn_70, zn_71, zn_72, zn_73]; omega)) (k : JX8_step Q 20 [a0] (aI (I q i.toNat) :: st) I) : JX8_step Q 19 [a0] (aI i :: aR q :: st) I := g_zald dX8_step_19 hk h0 h1 k
theorem dX8_step_20 : decode cX8_step 20 = .ok (.bipush 32, 2) := by decide +kernel
theorem X8_step_20 {Q : z_M → Prop} {a0 : z_V} {st : List z_V} {I : z_M} (k : JX8_step Q 22 [a0] (aI 32 :: st) I) : JX8_step Q 20 [a0] st I := g_bipush (n := 32) dX8_step_20 (by decide +kernel) (by decide) k
theorem dX8_step_22 : decode cX8_step 22 = .ok (.if_icmp .ne 16, 3) := by decide +kernel
theorem X8_step_22 {Q : z_M → Prop} {a0 : z_V} {x y : Int} {st : List z_V} {I : z_M} (kt : x ≠ y → JX8_step Q 38 [a0] st I) (kf : x = y → JX8_step Q 25 [a0] st I) : JX8_step Q 22 [a0] (aI y :: aI x :: st) I := g_icmp_ne dX8_step_22 (by decide) kt kf
theorem dX8_step_25 : decode cX8_step 25 = .ok (.aload_n 0, 1) := by decide +kernel
theorem X8_step_25 {Q : z_M → Prop}  {x : Nat} {st : List z_V} {I : z_M} (k : JX8_step Q 26 [aR x] (aR x :: st) I) : JX8_step Q 25 [aR x] st I := g_aload_n (i := 0) (x := x) dX8_step_25 rfl rfl k
theorem dX8_step_26 : decode cX8_step 26 = .ok (.dup, 1) := by decide +kernel
theorem X8_step_26 {Q : z_M → Prop} {a0 : z_V} {x : z_V} {st : List z_V} {I : z_M} (hx : ∀ z, x ≠ aL z := by intro z q; cases q) (k : JX8_step Q 27 [a0] (x :: x :: st) I) : JX8_step Q 26 [a0] (x :: st) I := g_dup dX8_step_26 hx k
theorem dX8_step_27 : decode cX8_step 27 = .ok (.getfield 28, 3) := by decide +kernel
theorem X8_step_27 {Q : z_M → Prop} {a0 : z_V}  {st : List z_V} {I : z_M}  (k : JX8_step Q 30 [a0] (aI (I 54 5) :: st) I) : JX8_step Q 27 [a0] (aR 54 :: st) I := g_geti (ci := 8) (j := 5) (N := 7) (T := TX8) dX8_step_27 rfl rfl (by decide) (z_nc8 rfl) inlX8 (by decide) m_12_17 rfl k
theorem dX8_step_30 : decode cX8_step 30 = .ok (.iconst 1, 1) := by decide +kernel
theorem X8_step_30 {Q : z_M → Prop} {a0 : z_V} {st : List z_V} {I : z_M} (k : JX8_step Q 31 [a0] (aI 1 :: st) I) : JX8_step Q 30 [a0] st I := g_iconst (n := 1) dX8_step_30 (by decide) k
theorem dX8_step_31 : decode cX8_step 31 = .ok (.iadd, 1) := by decide +kernel
theorem X8_step_31 {Q : z_M → Prop} {a0 : z_V} {x y : Int} {st : List z_V} {I : z_M} (hr : inI (x + y) := by omega) (k : JX8_step Q 32 [a0] (aI (x + y) :: st) I) : JX8_step Q 31 [a0] (aI y :: aI x :: st) I := g_iadd dX8_step_31 hr k
theorem X8_step_31w {Q : z_M → Prop} {a0 : z_V} {x y : Int} {st : List z_V} {I : z_M} (k : JX8_step Q 32 [a0] (aI (i32 (x + y)) :: st) I) : JX8_step Q 31 [a0] (aI y :: aI x :: st) I := g_iaddw dX8_step_31 k
theorem dX8_step_32 : decode cX8_step 32 = .ok (.putfield 28, 3) := by decide +kernel
theorem X8_step_32 {Q : z_M → Prop} {a0 : z_V}  {x : Int} {st : List z_V} {I : z_M}  (k : JX8_step Q 35 [a0] st (z_up I 54 5 x)) : JX8_step Q 32 [a0] (aI x :: aR 54 :: st) I := g_puti (ci := 8) (j := 5) (N := 7) (T := TX8) dX8_step_32 rfl rfl (by decide) (z_nc8 rfl) inlX8 tyX8_ok nmX8 (by decide) m_12_17 rfl (tyX8_ok 5 (by decide)) rfl k
theorem dX8_step_35 : decode cX8_step 35 = .ok (.goto (-35), 3) := by decide +kernel
theorem X8_step_35 {Q : z_M → Prop} {a0 : z_V} {st : List z_V} {I : z_M} (k : JX8_step Q 0 [a0] st I) : JX8_step Q 35 [a0] st I := g_goto dX8_step_35 (by decide) k
theorem dX8_step_38 : decode cX8_step 38 = .ok (.aload_n 0, 1) := by decide +kernel
theorem X8_step_38 {Q : z_M → Prop}  {x : Nat} {st : List z_V} {I : z_M} (k : JX8_step Q 39 [aR x] (aR x :: st) I) : JX8_step Q 38 [aR x] st I := g_aload_n (i := 0) (x := x) dX8_step_38 rfl rfl k
theorem dX8_step_39 : decode cX8_step 39 = .ok (.aload_n 0, 1) := by decide +kernel
theorem X8_step_39 {Q : z_M → Prop}  {x : Nat} {st : List z_V} {I : z_M} (k : JX8_step Q 40 [aR x] (aR x :: st) I) : JX8_step Q 39 [aR x] st I := g_aload_n (i := 0) (x := x) dX8_step_39 rfl rfl k
theorem dX8_step_40 : decode cX8_step 40 = .ok (.getfield 28, 3) := by decide +kernel
theorem X8_step_40 {Q : z_M → Prop} {a0 : z_V}  {st : List z_V} {I : z_M}  (k : JX8_step Q 43 [a0] (aI (I 54 5) :: st) I) : JX8_step Q 40 [a0] (aR 54 :: st) I := g_geti (ci := 8) (j := 5) (N := 7) (T := TX8) dX8_step_40 rfl rfl (by decide) (z_nc8 rfl) inlX8 (by decide) m_12_17 rfl k
theorem dX8_step_43 : decode cX8_step 43 = .ok (.putfield 44, 3) := by decide +kernel
theorem X8_step_43 {Q : z_M → Prop} {a0 : z_V}  {x : Int} {st : List z_V} {I : z_M}  (k : JX8_step Q 46 [a0] st (z_up I 54 4 x)) : JX8_step Q 43 [a0] (aI x :: aR 54 :: st) I := g_puti (ci := 8) (j := 4) (N := 7) (T := TX8) dX8_step_43 rfl rfl (by decide) (z_nc8 rfl) inlX8 tyX8_ok nmX8 (by decide) m_12_18 rfl (tyX8_ok 4 (by decide)) rfl k
theorem dX8_step_46 : decode cX8_step 46 = .ok (.aload_n 0, 1) := by decide +kernel
theorem X8_step_46 {Q : z_M → Prop}  {x : Nat} {st : List z_V} {I : z_M} (k : JX8_step Q 47 [aR x] (aR x :: st) I) : JX8_step Q 46 [aR x] st I := g_aload_n (i := 0) (x := x) dX8_step_46 rfl rfl k
theorem dX8_step_47 : decode cX8_step 47 = .ok (.iconst 0, 1) := by decide +kernel
theorem X8_step_47 {Q : z_M → Prop} {a0 : z_V} {st : List z_V} {I : z_M} (k : JX8_step Q 48 [a0] (aI 0 :: st) I) : JX8_step Q 47 [a0] st I := g_iconst (n := 0) dX8_step_47 (by decide) k
theorem dX8_step_48 : decode cX8_step 48 = .ok (.putfield 90, 3) := by decide +kernel
theorem X8_step_48 {Q : z_M → Prop} {a0 : z_V}  {x : Int} {st : List z_V} {I : z_M}  (k : JX8_step Q 51 [a0] st (z_up I 54 6 x)) : JX8_step Q 48 [a0] (aI x :: aR 54 :: st) I := g_puti (ci := 8) (j := 6) (N := 7) (T := TX8) dX8_step_48 rfl rfl (by decide) (z_nc8 rfl) inlX8 tyX8_ok nmX8 (by decide) m_13_1 rfl (tyX8_ok 6 (by decide)) rfl k
theorem dX8_step_51 : decode cX8_step 51 = .ok (.aload_n 0, 1) := by decide +kernel
theorem X8_step_51 {Q : z_M → Prop}  {x : Nat} {st : List z_V} {I : z_M} (k : JX8_step Q 52 [aR x] (aR x :: st) I) : JX8_step Q 51 [aR x] st I := g_aload_n (i := 0) (x := x) dX8_step_51 rfl rfl k
theorem dX8_step_52 : decode cX8_step 52 = .ok (.iconst 0, 1) := by decide +kernel
theorem X8_step_52 {Q : z_M → Prop} {a0 : z_V} {st : List z_V} {I : z_M} (k : JX8_step Q 53 [a0] (aI 0 :: st) I) : JX8_step Q 52 [a0] st I := g_iconst (n := 0) dX8_step_52 (by decide) k
theorem dX8_step_53 : decode cX8_step 53 = .ok (.putfield 47, 3) := by decide +kernel
theorem X8_step_53 {Q : z_M → Prop} {a0 : z_V}  {x : Int} {st : List z_V} {I : z_M}  (k : JX8_step Q 56 [a0] st (z_up I 54 3 x)) : JX8_step Q 53 [a0] (aI x :: aR 54 :: st) I := g_puti (ci := 8) (j := 3) (N := 7) (T := TX8) dX8_step_53 rfl rfl (by decide) (z_nc8 rfl) inlX8 tyX8_ok nmX8 (by decide) m_12_19 rfl (tyX8_ok 3 (by decide)) rfl k
theorem dX8_step_56 : decode cX8_step 56 = .ok (.aload_n 0, 1) := by decide +kernel
theorem X8_step_56 {Q : z_M → Prop}  {x : Nat} {st : List z_V} {I : z_M} (k : JX8_step Q 57 [aR x] (aR x :: st) I) : JX8_step Q 56 [aR x] st I := g_aload_n (i := 0) (x := x) dX8_step_56 rfl rfl k
theorem dX8_step_57 : decode cX8_step 57 = .ok (.getfield 28, 3) := by decide +kernel
theorem X8_step_57 {Q : z_M → Prop} {a0 : z_V}  {st : List z_V} {I : z_M}  (k : JX8_step Q 60 [a0] (aI (I 54 5) :: st) I) : JX8_step Q 57 [a0] (aR 54 :: st) I := g_geti (ci := 8) (j := 5) (N := 7) (T := TX8) dX8_step_57 rfl rfl (by decide) (z_nc8 rfl) inlX8 (by decide) m_12_17 rfl k
theorem dX8_step_60 : decode cX8_step 60 = .ok (.aload_n 0, 1) := by decide +kernel
theorem X8_step_60 {Q : z_M → Prop}  {x : Nat} {st : List z_V} {I : z_M} (k : JX8_step Q 61 [aR x] (aR x :: st) I) : JX8_step Q 60 [aR x] st I := g_aload_n (i := 0) (x := x) dX8_step_60 rfl rfl k
theorem dX8_step_61 : decode cX8_step 61 = .ok (.getfield 19, 3) := by decide +kernel
theorem X8_step_61 {Q : z_M → Prop} {a0 : z_V}  {st : List z_V} {I : z_M}  (k : JX8_step Q 64 [a0] (aI (I 54 0) :: st) I) : JX8_step Q 61 [a0] (aR 54 :: st) I := g_geti (ci := 8) (j := 0) (N := 7) (T := TX8) dX8_step_61 rfl rfl (by decide) (z_nc8 rfl) inlX8 (by decide) m_11_18 rfl k
theorem dX8_step_64 : decode cX8_step 64 = .ok (.if_icmp .ge 36, 3) := by decide +kernel
theorem X8_step_64 {Q : z_M → Prop} {a0 : z_V} {x y : Int} {st : List z_V} {I : z_M} (kt : y ≤ x → JX8_step Q 100 [a0] st I) (kf : x < y → JX8_step Q 67 [a0] st I) : JX8_step Q 64 [a0] (aI y :: aI x :: st) I := g_icmp_ge dX8_step_64 (by decide) kt kf
theorem dX8_step_67 : decode cX8_step 67 = .ok (.aload_n 0, 1) := by decide +kernel
theorem X8_step_67 {Q : z_M → Prop}  {x : Nat} {st : List z_V} {I : z_M} (k : JX8_step Q 68 [aR x] (aR x :: st) I) : JX8_step Q 67 [aR x] st I := g_aload_n (i := 0) (x := x) dX8_step_67 rfl rfl k
theorem dX8_step_68 : decode cX8_step 68 = .ok (.getfield 9, 3) := by decide +kernel
theorem X8_step_68 {Q : z_M → Prop} {a0 : z_V}  {st : List z_V} {I : z_M}  (k : JX8_step Q 71 [a0] (aR (55) :: st) I) : JX8_step Q 68 [a0] (aR 54 :: st) I := g_getr (ci := 8) (j := 1) (N := 7) (T := TX8) dX8_step_68 rfl rfl (by decide) (z_nc8 rfl) inlX8 (by decide) m_4_15 rfl rfl k
theorem dX8_step_71 : decode cX8_step 71 = .ok (.aload_n 0, 1) := by decide +kernel
theorem X8_step_71 {Q : z_M → Prop}  {x : Nat} {st : List z_V} {I : z_M} (k : JX8_step Q 72 [aR x] (aR x :: st) I) : JX8_step Q 71 [aR x] st I := g_aload_n (i := 0) (x := x) dX8_step_71 rfl rfl k
theorem dX8_step_72 : decode cX8_step 72 = .ok (.getfield 28, 3) := by decide +kernel
theorem X8_step_72 {Q : z_M → Prop} {a0 : z_V}  {st : List z_V} {I : z_M}  (k : JX8_step Q 75 [a0] (aI (I 54 5) :: st) I) : JX8_step Q 72 [a0] (aR 54 :: st) I := g_geti (ci := 8) (j := 5) (N := 7) (T := TX8) dX8_step_72 rfl rfl (by decide) (z_nc8 rfl) inlX8 (by decide) m_12_17 rfl k
theorem dX8_step_75 : decode cX8_step 75 = .ok (.baload, 1) := by decide +kernel
theorem X8_step_75 {Q : z_M → Prop} {a0 : z_V} {q : Nat} {i : Int} {st : List z_V} {I : z_M} (hk : z_cl q = 21 := by first | assumption | rfl) (h0 : 0 ≤ i := by omega) (h1 : i < z_n q := by first | omega | (simp only [zn_1, zn_9, zn_10, zn_11, zn_12, zn_13, zn_14, zn_15, zn_16, zn_18, zn_20, zn_21, zn_22, zn_23, zn_24, zn_25, zn_26, zn_27, zn_29, zn_30, zn_53, zn_55, zn_56, zn_58, zn_59, zn_61, zn_62, zn_63, zn_64, zn_65, zn_66, zn_67, zn_68, zn_69, zn_70, zn_71, zn_72, zn_73]; omega)) (k : JX8_step Q 76 [a0] (aI (I q i.toNat) :: st) I) : JX8_step Q 75 [a0] (aI i :: aR q :: st) I := g_bald dX8_step_75 hk h0 h1 k
theorem X8_step_75z {Q : z_M → Prop} {a0 : z_V} {q : Nat} {i : Int} {st : List z_V} {I : z_M} (hk : z_cl q = 22 := by first | assumption | rfl) (h0 : 0 ≤ i := by omega) (h1 : i < z_n q := by first | omega | (simp only [zn_1, zn_9, zn_10, zn_11, zn_12, zn_13, zn_14, zn_15, zn_16, zn_18, zn_20, zn_21, zn_22, zn_23, zn_24, zn_25, zn_26, zn_27, zn_29, zn_30, zn_53, zn_55, zn_56, zn_58, zn_59, zn_61, zn_62, zn_63, zn_64, zn_65, zn_66, zn_67, zn_68, zn_69, zn_70, zn_71, zn_72, zn_73]; omega)) (k : JX8_step Q 76 [a0] (aI (I q i.toNat) :: st) I) : JX8_step Q 75 [a0] (aI i :: aR q :: st) I := g_zald dX8_step_75 hk h0 h1 k
theorem dX8_step_76 : decode cX8_step 76 = .ok (.invokestatic 96, 3) := by decide +kernel
theorem X8_step_76 {Q : z_M → Prop} {a0 : z_V} {x0 : Int} {st : List z_V} {I : z_M} (hst : z_sw st ≤ 8 := by exact Nat.le_of_ble_eq_true rfl) (k : CX8_isLetter [aI x0] I (fun x9 I9 => JX8_step Q 79 [a0] (aI x9 :: st) I9)) : JX8_step Q 76 [a0] (aI x0 :: st) I := g_callS (As := [aI x0]) (n := 1) dX8_step_76 ⟨m_13_4, pdX8_isLetter, ⟨by decide, by decide⟩, rfl, rfl, by decide, by decide⟩ m_13_2 m_13_3 m_2_17 rfl hst k (fun r I9 h => by obtain ⟨x9, rfl, h⟩ := h; exact h)
theorem dX8_step_79 : decode cX8_step 79 = .ok (.ifCond .eq 21, 3) := by decide +kernel
theorem X8_step_79 {Q : z_M → Prop} {a0 : z_V} {x : Int} {st : List z_V} {I : z_M} (kt : x = 0 → JX8_step Q 100 [a0] st I) (kf : x ≠ 0 → JX8_step Q 82 [a0] st I) : JX8_step Q 79 [a0] (aI x :: st) I := g_if_eq dX8_step_79 (by decide) kt kf
theorem dX8_step_82 : decode cX8_step 82 = .ok (.aload_n 0, 1) := by decide +kernel
theorem X8_step_82 {Q : z_M → Prop}  {x : Nat} {st : List z_V} {I : z_M} (k : JX8_step Q 83 [aR x] (aR x :: st) I) : JX8_step Q 82 [aR x] st I := g_aload_n (i := 0) (x := x) dX8_step_82 rfl rfl k
theorem dX8_step_83 : decode cX8_step 83 = .ok (.iconst 1, 1) := by decide +kernel
theorem X8_step_83 {Q : z_M → Prop} {a0 : z_V} {st : List z_V} {I : z_M} (k : JX8_step Q 84 [a0] (aI 1 :: st) I) : JX8_step Q 83 [a0] st I := g_iconst (n := 1) dX8_step_83 (by decide) k
theorem dX8_step_84 : decode cX8_step 84 = .ok (.putfield 47, 3) := by decide +kernel
theorem X8_step_84 {Q : z_M → Prop} {a0 : z_V}  {x : Int} {st : List z_V} {I : z_M}  (k : JX8_step Q 87 [a0] st (z_up I 54 3 x)) : JX8_step Q 84 [a0] (aI x :: aR 54 :: st) I := g_puti (ci := 8) (j := 3) (N := 7) (T := TX8) dX8_step_84 rfl rfl (by decide) (z_nc8 rfl) inlX8 tyX8_ok nmX8 (by decide) m_12_19 rfl (tyX8_ok 3 (by decide)) rfl k
theorem dX8_step_87 : decode cX8_step 87 = .ok (.aload_n 0, 1) := by decide +kernel
theorem X8_step_87 {Q : z_M → Prop}  {x : Nat} {st : List z_V} {I : z_M} (k : JX8_step Q 88 [aR x] (aR x :: st) I) : JX8_step Q 87 [aR x] st I := g_aload_n (i := 0) (x := x) dX8_step_87 rfl rfl k
theorem dX8_step_88 : decode cX8_step 88 = .ok (.dup, 1) := by decide +kernel
theorem X8_step_88 {Q : z_M → Prop} {a0 : z_V} {x : z_V} {st : List z_V} {I : z_M} (hx : ∀ z, x ≠ aL z := by intro z q; cases q) (k : JX8_step Q 89 [a0] (x :: x :: st) I) : JX8_step Q 88 [a0] (x :: st) I := g_dup dX8_step_88 hx k
theorem dX8_step_89 : decode cX8_step 89 = .ok (.getfield 28, 3) := by decide +kernel
theorem X8_step_89 {Q : z_M → Prop} {a0 : z_V}  {st : List z_V} {I : z_M}  (k : JX8_step Q 92 [a0] (aI (I 54 5) :: st) I) : JX8_step Q 89 [a0] (aR 54 :: st) I := g_geti (ci := 8) (j := 5) (N := 7) (T := TX8) dX8_step_89 rfl rfl (by decide) (z_nc8 rfl) inlX8 (by decide) m_12_17 rfl k
theorem dX8_step_92 : decode cX8_step 92 = .ok (.iconst 1, 1) := by decide +kernel
theorem X8_step_92 {Q : z_M → Prop} {a0 : z_V} {st : List z_V} {I : z_M} (k : JX8_step Q 93 [a0] (aI 1 :: st) I) : JX8_step Q 92 [a0] st I := g_iconst (n := 1) dX8_step_92 (by decide) k
theorem dX8_step_93 : decode cX8_step 93 = .ok (.iadd, 1) := by decide +kernel
theorem X8_step_93 {Q : z_M → Prop} {a0 : z_V} {x y : Int} {st : List z_V} {I : z_M} (hr : inI (x + y) := by omega) (k : JX8_step Q 94 [a0] (aI (x + y) :: st) I) : JX8_step Q 93 [a0] (aI y :: aI x :: st) I := g_iadd dX8_step_93 hr k
theorem X8_step_93w {Q : z_M → Prop} {a0 : z_V} {x y : Int} {st : List z_V} {I : z_M} (k : JX8_step Q 94 [a0] (aI (i32 (x + y)) :: st) I) : JX8_step Q 93 [a0] (aI y :: aI x :: st) I := g_iaddw dX8_step_93 k
theorem dX8_step_94 : decode cX8_step 94 = .ok (.putfield 28, 3) := by decide +kernel
theorem X8_step_94 {Q : z_M → Prop} {a0 : z_V}  {x : Int} {st : List z_V} {I : z_M}  (k : JX8_step Q 97 [a0] st (z_up I 54 5 x)) : JX8_step Q 94 [a0] (aI x :: aR 54 :: st) I := g_puti (ci := 8) (j := 5) (N := 7) (T := TX8) dX8_step_94 rfl rfl (by decide) (z_nc8 rfl) inlX8 tyX8_ok nmX8 (by decide) m_12_17 rfl (tyX8_ok 5 (by decide)) rfl k
theorem dX8_step_97 : decode cX8_step 97 = .ok (.goto (-41), 3) := by decide +kernel
theorem X8_step_97 {Q : z_M → Prop} {a0 : z_V} {st : List z_V} {I : z_M} (k : JX8_step Q 56 [a0] st I) : JX8_step Q 97 [a0] st I := g_goto dX8_step_97 (by decide) k
theorem dX8_step_100 : decode cX8_step 100 = .ok (.aload_n 0, 1) := by decide +kernel
theorem X8_step_100 {Q : z_M → Prop}  {x : Nat} {st : List z_V} {I : z_M} (k : JX8_step Q 101 [aR x] (aR x :: st) I) : JX8_step Q 100 [aR x] st I := g_aload_n (i := 0) (x := x) dX8_step_100 rfl rfl k
theorem dX8_step_101 : decode cX8_step 101 = .ok (.getfield 47, 3) := by decide +kernel
theorem X8_step_101 {Q : z_M → Prop} {a0 : z_V}  {st : List z_V} {I : z_M}  (k : JX8_step Q 104 [a0] (aI (I 54 3) :: st) I) : JX8_step Q 101 [a0] (aR 54 :: st) I := g_geti (ci := 8) (j := 3) (N := 7) (T := TX8) dX8_step_101 rfl rfl (by decide) (z_nc8 rfl) inlX8 (by decide) m_12_19 rfl k
theorem dX8_step_104 : decode cX8_step 104 = .ok (.iconst 1, 1) := by decide +kernel
theorem X8_step_104 {Q : z_M → Prop} {a0 : z_V} {st : List z_V} {I : z_M} (k : JX8_step Q 105 [a0] (aI 1 :: st) I) : JX8_step Q 104 [a0] st I := g_iconst (n := 1) dX8_step_104 (by decide) k
theorem dX8_step_105 : decode cX8_step 105 = .ok (.if_icmp .eq 71, 3) := by decide +kernel
theorem X8_step_105 {Q : z_M → Prop} {a0 : z_V} {x y : Int} {st : List z_V} {I : z_M} (kt : x = y → JX8_step Q 176 [a0] st I) (kf : x ≠ y → JX8_step Q 108 [a0] st I) : JX8_step Q 105 [a0] (aI y :: aI x :: st) I := g_icmp_eq dX8_step_105 (by decide) kt kf
theorem dX8_step_108 : decode cX8_step 108 = .ok (.aload_n 0, 1) := by decide +kernel
theorem X8_step_108 {Q : z_M → Prop}  {x : Nat} {st : List z_V} {I : z_M} (k : JX8_step Q 109 [aR x] (aR x :: st) I) : JX8_step Q 108 [aR x] st I := g_aload_n (i := 0) (x := x) dX8_step_108 rfl rfl k
theorem dX8_step_109 : decode cX8_step 109 = .ok (.getfield 28, 3) := by decide +kernel
theorem X8_step_109 {Q : z_M → Prop} {a0 : z_V}  {st : List z_V} {I : z_M}  (k : JX8_step Q 112 [a0] (aI (I 54 5) :: st) I) : JX8_step Q 109 [a0] (aR 54 :: st) I := g_geti (ci := 8) (j := 5) (N := 7) (T := TX8) dX8_step_109 rfl rfl (by decide) (z_nc8 rfl) inlX8 (by decide) m_12_17 rfl k
theorem dX8_step_112 : decode cX8_step 112 = .ok (.aload_n 0, 1) := by decide +kernel
theorem X8_step_112 {Q : z_M → Prop}  {x : Nat} {st : List z_V} {I : z_M} (k : JX8_step Q 113 [aR x] (aR x :: st) I) : JX8_step Q 112 [aR x] st I := g_aload_n (i := 0) (x := x) dX8_step_112 rfl rfl k
theorem dX8_step_113 : decode cX8_step 113 = .ok (.getfield 19, 3) := by decide +kernel
theorem X8_step_113 {Q : z_M → Prop} {a0 : z_V}  {st : List z_V} {I : z_M}  (k : JX8_step Q 116 [a0] (aI (I 54 0) :: st) I) : JX8_step Q 113 [a0] (aR 54 :: st) I := g_geti (ci := 8) (j := 0) (N := 7) (T := TX8) dX8_step_113 rfl rfl (by decide) (z_nc8 rfl) inlX8 (by decide) m_11_18 rfl k
theorem dX8_step_116 : decode cX8_step 116 = .ok (.if_icmp .ge 60, 3) := by decide +kernel
theorem X8_step_116 {Q : z_M → Prop} {a0 : z_V} {x y : Int} {st : List z_V} {I : z_M} (kt : y ≤ x → JX8_step Q 176 [a0] st I) (kf : x < y → JX8_step Q 119 [a0] st I) : JX8_step Q 116 [a0] (aI y :: aI x :: st) I := g_icmp_ge dX8_step_116 (by decide) kt kf
theorem dX8_step_119 : decode cX8_step 119 = .ok (.aload_n 0, 1) := by decide +kernel
theorem X8_step_119 {Q : z_M → Prop}  {x : Nat} {st : List z_V} {I : z_M} (k : JX8_step Q 120 [aR x] (aR x :: st) I) : JX8_step Q 119 [aR x] st I := g_aload_n (i := 0) (x := x) dX8_step_119 rfl rfl k
theorem dX8_step_120 : decode cX8_step 120 = .ok (.getfield 9, 3) := by decide +kernel
theorem X8_step_120 {Q : z_M → Prop} {a0 : z_V}  {st : List z_V} {I : z_M}  (k : JX8_step Q 123 [a0] (aR (55) :: st) I) : JX8_step Q 120 [a0] (aR 54 :: st) I := g_getr (ci := 8) (j := 1) (N := 7) (T := TX8) dX8_step_120 rfl rfl (by decide) (z_nc8 rfl) inlX8 (by decide) m_4_15 rfl rfl k
theorem dX8_step_123 : decode cX8_step 123 = .ok (.aload_n 0, 1) := by decide +kernel
theorem X8_step_123 {Q : z_M → Prop}  {x : Nat} {st : List z_V} {I : z_M} (k : JX8_step Q 124 [aR x] (aR x :: st) I) : JX8_step Q 123 [aR x] st I := g_aload_n (i := 0) (x := x) dX8_step_123 rfl rfl k
theorem dX8_step_124 : decode cX8_step 124 = .ok (.getfield 28, 3) := by decide +kernel
theorem X8_step_124 {Q : z_M → Prop} {a0 : z_V}  {st : List z_V} {I : z_M}  (k : JX8_step Q 127 [a0] (aI (I 54 5) :: st) I) : JX8_step Q 124 [a0] (aR 54 :: st) I := g_geti (ci := 8) (j := 5) (N := 7) (T := TX8) dX8_step_124 rfl rfl (by decide) (z_nc8 rfl) inlX8 (by decide) m_12_17 rfl k
theorem dX8_step_127 : decode cX8_step 127 = .ok (.baload, 1) := by decide +kernel
theorem X8_step_127 {Q : z_M → Prop} {a0 : z_V} {q : Nat} {i : Int} {st : List z_V} {I : z_M} (hk : z_cl q = 21 := by first | assumption | rfl) (h0 : 0 ≤ i := by omega) (h1 : i < z_n q := by first | omega | (simp only [zn_1, zn_9, zn_10, zn_11, zn_12, zn_13, zn_14, zn_15, zn_16, zn_18, zn_20, zn_21, zn_22, zn_23, zn_24, zn_25, zn_26, zn_27, zn_29, zn_30, zn_53, zn_55, zn_56, zn_58, zn_59, zn_61, zn_62, zn_63, zn_64, zn_65, zn_66, zn_67, zn_68, zn_69, zn_70, zn_71, zn_72, zn_73]; omega)) (k : JX8_step Q 128 [a0] (aI (I q i.toNat) :: st) I) : JX8_step Q 127 [a0] (aI i :: aR q :: st) I := g_bald dX8_step_127 hk h0 h1 k
theorem X8_step_127z {Q : z_M → Prop} {a0 : z_V} {q : Nat} {i : Int} {st : List z_V} {I : z_M} (hk : z_cl q = 22 := by first | assumption | rfl) (h0 : 0 ≤ i := by omega) (h1 : i < z_n q := by first | omega | (simp only [zn_1, zn_9, zn_10, zn_11, zn_12, zn_13, zn_14, zn_15, zn_16, zn_18, zn_20, zn_21, zn_22, zn_23, zn_24, zn_25, zn_26, zn_27, zn_29, zn_30, zn_53, zn_55, zn_56, zn_58, zn_59, zn_61, zn_62, zn_63, zn_64, zn_65, zn_66, zn_67, zn_68, zn_69, zn_70, zn_71, zn_72, zn_73]; omega)) (k : JX8_step Q 128 [a0] (aI (I q i.toNat) :: st) I) : JX8_step Q 127 [a0] (aI i :: aR q :: st) I := g_zald dX8_step_127 hk h0 h1 k
theorem dX8_step_128 : decode cX8_step 128 = .ok (.invokestatic 99, 3) := by decide +kernel
theorem X8_step_128 {Q : z_M → Prop} {a0 : z_V} {x0 : Int} {st : List z_V} {I : z_M} (hst : z_sw st ≤ 8 := by exact Nat.le_of_ble_eq_true rfl) (k : CX8_isFigure [aI x0] I (fun x9 I9 => JX8_step Q 131 [a0] (aI x9 :: st) I9)) : JX8_step Q 128 [a0] (aI x0 :: st) I := g_callS (As := [aI x0]) (n := 1) dX8_step_128 ⟨m_13_7, pdX8_isFigure, ⟨by decide, by decide⟩, rfl, rfl, by decide, by decide⟩ m_13_5 m_13_6 m_2_17 rfl hst k (fun r I9 h => by obtain ⟨x9, rfl, h⟩ := h; exact h)
theorem dX8_step_131 : decode cX8_step 131 = .ok (.ifCond .eq 45, 3) := by decide +kernel
theorem X8_step_131 {Q : z_M → Prop} {a0 : z_V} {x : Int} {st : List z_V} {I : z_M} (kt : x = 0 → JX8_step Q 176 [a0] st I) (kf : x ≠ 0 → JX8_step Q 134 [a0] st I) : JX8_step Q 131 [a0] (aI x :: st) I := g_if_eq dX8_step_131 (by decide) kt kf
theorem dX8_step_134 : decode cX8_step 134 = .ok (.aload_n 0, 1) := by decide +kernel
theorem X8_step_134 {Q : z_M → Prop}  {x : Nat} {st : List z_V} {I : z_M} (k : JX8_step Q 135 [aR x] (aR x :: st) I) : JX8_step Q 134 [aR x] st I := g_aload_n (i := 0) (x := x) dX8_step_134 rfl rfl k
theorem dX8_step_135 : decode cX8_step 135 = .ok (.iconst 2, 1) := by decide +kernel
theorem X8_step_135 {Q : z_M → Prop} {a0 : z_V} {st : List z_V} {I : z_M} (k : JX8_step Q 136 [a0] (aI 2 :: st) I) : JX8_step Q 135 [a0] st I := g_iconst (n := 2) dX8_step_135 (by decide) k
theorem dX8_step_136 : decode cX8_step 136 = .ok (.putfield 47, 3) := by decide +kernel
theorem X8_step_136 {Q : z_M → Prop} {a0 : z_V}  {x : Int} {st : List z_V} {I : z_M}  (k : JX8_step Q 139 [a0] st (z_up I 54 3 x)) : JX8_step Q 136 [a0] (aI x :: aR 54 :: st) I := g_puti (ci := 8) (j := 3) (N := 7) (T := TX8) dX8_step_136 rfl rfl (by decide) (z_nc8 rfl) inlX8 tyX8_ok nmX8 (by decide) m_12_19 rfl (tyX8_ok 3 (by decide)) rfl k
theorem dX8_step_139 : decode cX8_step 139 = .ok (.aload_n 0, 1) := by decide +kernel
theorem X8_step_139 {Q : z_M → Prop}  {x : Nat} {st : List z_V} {I : z_M} (k : JX8_step Q 140 [aR x] (aR x :: st) I) : JX8_step Q 139 [aR x] st I := g_aload_n (i := 0) (x := x) dX8_step_139 rfl rfl k
theorem dX8_step_140 : decode cX8_step 140 = .ok (.bipush 10, 2) := by decide +kernel
theorem X8_step_140 {Q : z_M → Prop} {a0 : z_V} {st : List z_V} {I : z_M} (k : JX8_step Q 142 [a0] (aI 10 :: st) I) : JX8_step Q 140 [a0] st I := g_bipush (n := 10) dX8_step_140 (by decide +kernel) (by decide) k
theorem dX8_step_142 : decode cX8_step 142 = .ok (.aload_n 0, 1) := by decide +kernel
theorem X8_step_142 {Q : z_M → Prop}  {x : Nat} {st : List z_V} {I : z_M} (k : JX8_step Q 143 [aR x] (aR x :: st) I) : JX8_step Q 142 [aR x] st I := g_aload_n (i := 0) (x := x) dX8_step_142 rfl rfl k
theorem dX8_step_143 : decode cX8_step 143 = .ok (.getfield 90, 3) := by decide +kernel
theorem X8_step_143 {Q : z_M → Prop} {a0 : z_V}  {st : List z_V} {I : z_M}  (k : JX8_step Q 146 [a0] (aI (I 54 6) :: st) I) : JX8_step Q 143 [a0] (aR 54 :: st) I := g_geti (ci := 8) (j := 6) (N := 7) (T := TX8) dX8_step_143 rfl rfl (by decide) (z_nc8 rfl) inlX8 (by decide) m_13_1 rfl k
theorem dX8_step_146 : decode cX8_step 146 = .ok (.imul, 1) := by decide +kernel
theorem X8_step_146 {Q : z_M → Prop} {a0 : z_V} {x y : Int} {st : List z_V} {I : z_M} (hr : inI (x * y) := by omega) (k : JX8_step Q 147 [a0] (aI (x * y) :: st) I) : JX8_step Q 146 [a0] (aI y :: aI x :: st) I := g_imul dX8_step_146 hr k
theorem X8_step_146w {Q : z_M → Prop} {a0 : z_V} {x y : Int} {st : List z_V} {I : z_M} (k : JX8_step Q 147 [a0] (aI (i32 (x * y)) :: st) I) : JX8_step Q 146 [a0] (aI y :: aI x :: st) I := g_imulw dX8_step_146 k
theorem dX8_step_147 : decode cX8_step 147 = .ok (.aload_n 0, 1) := by decide +kernel
theorem X8_step_147 {Q : z_M → Prop}  {x : Nat} {st : List z_V} {I : z_M} (k : JX8_step Q 148 [aR x] (aR x :: st) I) : JX8_step Q 147 [aR x] st I := g_aload_n (i := 0) (x := x) dX8_step_147 rfl rfl k
theorem dX8_step_148 : decode cX8_step 148 = .ok (.getfield 9, 3) := by decide +kernel
theorem X8_step_148 {Q : z_M → Prop} {a0 : z_V}  {st : List z_V} {I : z_M}  (k : JX8_step Q 151 [a0] (aR (55) :: st) I) : JX8_step Q 148 [a0] (aR 54 :: st) I := g_getr (ci := 8) (j := 1) (N := 7) (T := TX8) dX8_step_148 rfl rfl (by decide) (z_nc8 rfl) inlX8 (by decide) m_4_15 rfl rfl k
theorem dX8_step_151 : decode cX8_step 151 = .ok (.aload_n 0, 1) := by decide +kernel
theorem X8_step_151 {Q : z_M → Prop}  {x : Nat} {st : List z_V} {I : z_M} (k : JX8_step Q 152 [aR x] (aR x :: st) I) : JX8_step Q 151 [aR x] st I := g_aload_n (i := 0) (x := x) dX8_step_151 rfl rfl k
theorem dX8_step_152 : decode cX8_step 152 = .ok (.getfield 28, 3) := by decide +kernel
theorem X8_step_152 {Q : z_M → Prop} {a0 : z_V}  {st : List z_V} {I : z_M}  (k : JX8_step Q 155 [a0] (aI (I 54 5) :: st) I) : JX8_step Q 152 [a0] (aR 54 :: st) I := g_geti (ci := 8) (j := 5) (N := 7) (T := TX8) dX8_step_152 rfl rfl (by decide) (z_nc8 rfl) inlX8 (by decide) m_12_17 rfl k
theorem dX8_step_155 : decode cX8_step 155 = .ok (.baload, 1) := by decide +kernel
theorem X8_step_155 {Q : z_M → Prop} {a0 : z_V} {q : Nat} {i : Int} {st : List z_V} {I : z_M} (hk : z_cl q = 21 := by first | assumption | rfl) (h0 : 0 ≤ i := by omega) (h1 : i < z_n q := by first | omega | (simp only [zn_1, zn_9, zn_10, zn_11, zn_12, zn_13, zn_14, zn_15, zn_16, zn_18, zn_20, zn_21, zn_22, zn_23, zn_24, zn_25, zn_26, zn_27, zn_29, zn_30, zn_53, zn_55, zn_56, zn_58, zn_59, zn_61, zn_62, zn_63, zn_64, zn_65, zn_66, zn_67, zn_68, zn_69, zn_70, zn_71, zn_72, zn_73]; omega)) (k : JX8_step Q 156 [a0] (aI (I q i.toNat) :: st) I) : JX8_step Q 155 [a0] (aI i :: aR q :: st) I := g_bald dX8_step_155 hk h0 h1 k
theorem X8_step_155z {Q : z_M → Prop} {a0 : z_V} {q : Nat} {i : Int} {st : List z_V} {I : z_M} (hk : z_cl q = 22 := by first | assumption | rfl) (h0 : 0 ≤ i := by omega) (h1 : i < z_n q := by first | omega | (simp only [zn_1, zn_9, zn_10, zn_11, zn_12, zn_13, zn_14, zn_15, zn_16, zn_18, zn_20, zn_21, zn_22, zn_23, zn_24, zn_25, zn_26, zn_27, zn_29, zn_30, zn_53, zn_55, zn_56, zn_58, zn_59, zn_61, zn_62, zn_63, zn_64, zn_65, zn_66, zn_67, zn_68, zn_69, zn_70, zn_71, zn_72, zn_73]; omega)) (k : JX8_step Q 156 [a0] (aI (I q i.toNat) :: st) I) : JX8_step Q 155 [a0] (aI i :: aR q :: st) I := g_zald dX8_step_155 hk h0 h1 k
theorem dX8_step_156 : decode cX8_step 156 = .ok (.iadd, 1) := by decide +kernel
theorem X8_step_156 {Q : z_M → Prop} {a0 : z_V} {x y : Int} {st : List z_V} {I : z_M} (hr : inI (x + y) := by omega) (k : JX8_step Q 157 [a0] (aI (x + y) :: st) I) : JX8_step Q 156 [a0] (aI y :: aI x :: st) I := g_iadd dX8_step_156 hr k
theorem X8_step_156w {Q : z_M → Prop} {a0 : z_V} {x y : Int} {st : List z_V} {I : z_M} (k : JX8_step Q 157 [a0] (aI (i32 (x + y)) :: st) I) : JX8_step Q 156 [a0] (aI y :: aI x :: st) I := g_iaddw dX8_step_156 k
theorem dX8_step_157 : decode cX8_step 157 = .ok (.bipush 48, 2) := by decide +kernel
theorem X8_step_157 {Q : z_M → Prop} {a0 : z_V} {st : List z_V} {I : z_M} (k : JX8_step Q 159 [a0] (aI 48 :: st) I) : JX8_step Q 157 [a0] st I := g_bipush (n := 48) dX8_step_157 (by decide +kernel) (by decide) k
theorem dX8_step_159 : decode cX8_step 159 = .ok (.isub, 1) := by decide +kernel
theorem X8_step_159 {Q : z_M → Prop} {a0 : z_V} {x y : Int} {st : List z_V} {I : z_M} (hr : inI (x - y) := by omega) (k : JX8_step Q 160 [a0] (aI (x - y) :: st) I) : JX8_step Q 159 [a0] (aI y :: aI x :: st) I := g_isub dX8_step_159 hr k
theorem X8_step_159w {Q : z_M → Prop} {a0 : z_V} {x y : Int} {st : List z_V} {I : z_M} (k : JX8_step Q 160 [a0] (aI (i32 (x - y)) :: st) I) : JX8_step Q 159 [a0] (aI y :: aI x :: st) I := g_isubw dX8_step_159 k
theorem dX8_step_160 : decode cX8_step 160 = .ok (.putfield 90, 3) := by decide +kernel
theorem X8_step_160 {Q : z_M → Prop} {a0 : z_V}  {x : Int} {st : List z_V} {I : z_M}  (k : JX8_step Q 163 [a0] st (z_up I 54 6 x)) : JX8_step Q 160 [a0] (aI x :: aR 54 :: st) I := g_puti (ci := 8) (j := 6) (N := 7) (T := TX8) dX8_step_160 rfl rfl (by decide) (z_nc8 rfl) inlX8 tyX8_ok nmX8 (by decide) m_13_1 rfl (tyX8_ok 6 (by decide)) rfl k
theorem dX8_step_163 : decode cX8_step 163 = .ok (.aload_n 0, 1) := by decide +kernel
theorem X8_step_163 {Q : z_M → Prop}  {x : Nat} {st : List z_V} {I : z_M} (k : JX8_step Q 164 [aR x] (aR x :: st) I) : JX8_step Q 163 [aR x] st I := g_aload_n (i := 0) (x := x) dX8_step_163 rfl rfl k
theorem dX8_step_164 : decode cX8_step 164 = .ok (.dup, 1) := by decide +kernel
theorem X8_step_164 {Q : z_M → Prop} {a0 : z_V} {x : z_V} {st : List z_V} {I : z_M} (hx : ∀ z, x ≠ aL z := by intro z q; cases q) (k : JX8_step Q 165 [a0] (x :: x :: st) I) : JX8_step Q 164 [a0] (x :: st) I := g_dup dX8_step_164 hx k
theorem dX8_step_165 : decode cX8_step 165 = .ok (.getfield 28, 3) := by decide +kernel
theorem X8_step_165 {Q : z_M → Prop} {a0 : z_V}  {st : List z_V} {I : z_M}  (k : JX8_step Q 168 [a0] (aI (I 54 5) :: st) I) : JX8_step Q 165 [a0] (aR 54 :: st) I := g_geti (ci := 8) (j := 5) (N := 7) (T := TX8) dX8_step_165 rfl rfl (by decide) (z_nc8 rfl) inlX8 (by decide) m_12_17 rfl k
theorem dX8_step_168 : decode cX8_step 168 = .ok (.iconst 1, 1) := by decide +kernel
theorem X8_step_168 {Q : z_M → Prop} {a0 : z_V} {st : List z_V} {I : z_M} (k : JX8_step Q 169 [a0] (aI 1 :: st) I) : JX8_step Q 168 [a0] st I := g_iconst (n := 1) dX8_step_168 (by decide) k
theorem dX8_step_169 : decode cX8_step 169 = .ok (.iadd, 1) := by decide +kernel
theorem X8_step_169 {Q : z_M → Prop} {a0 : z_V} {x y : Int} {st : List z_V} {I : z_M} (hr : inI (x + y) := by omega) (k : JX8_step Q 170 [a0] (aI (x + y) :: st) I) : JX8_step Q 169 [a0] (aI y :: aI x :: st) I := g_iadd dX8_step_169 hr k
theorem X8_step_169w {Q : z_M → Prop} {a0 : z_V} {x y : Int} {st : List z_V} {I : z_M} (k : JX8_step Q 170 [a0] (aI (i32 (x + y)) :: st) I) : JX8_step Q 169 [a0] (aI y :: aI x :: st) I := g_iaddw dX8_step_169 k
theorem dX8_step_170 : decode cX8_step 170 = .ok (.putfield 28, 3) := by decide +kernel
theorem X8_step_170 {Q : z_M → Prop} {a0 : z_V}  {x : Int} {st : List z_V} {I : z_M}  (k : JX8_step Q 173 [a0] st (z_up I 54 5 x)) : JX8_step Q 170 [a0] (aI x :: aR 54 :: st) I := g_puti (ci := 8) (j := 5) (N := 7) (T := TX8) dX8_step_170 rfl rfl (by decide) (z_nc8 rfl) inlX8 tyX8_ok nmX8 (by decide) m_12_17 rfl (tyX8_ok 5 (by decide)) rfl k
theorem dX8_step_173 : decode cX8_step 173 = .ok (.goto (-73), 3) := by decide +kernel
theorem X8_step_173 {Q : z_M → Prop} {a0 : z_V} {st : List z_V} {I : z_M} (k : JX8_step Q 100 [a0] st I) : JX8_step Q 173 [a0] st I := g_goto dX8_step_173 (by decide) k
theorem dX8_step_176 : decode cX8_step 176 = .ok (.aload_n 0, 1) := by decide +kernel
theorem X8_step_176 {Q : z_M → Prop}  {x : Nat} {st : List z_V} {I : z_M} (k : JX8_step Q 177 [aR x] (aR x :: st) I) : JX8_step Q 176 [aR x] st I := g_aload_n (i := 0) (x := x) dX8_step_176 rfl rfl k
theorem dX8_step_177 : decode cX8_step 177 = .ok (.getfield 47, 3) := by decide +kernel
theorem X8_step_177 {Q : z_M → Prop} {a0 : z_V}  {st : List z_V} {I : z_M}  (k : JX8_step Q 180 [a0] (aI (I 54 3) :: st) I) : JX8_step Q 177 [a0] (aR 54 :: st) I := g_geti (ci := 8) (j := 3) (N := 7) (T := TX8) dX8_step_177 rfl rfl (by decide) (z_nc8 rfl) inlX8 (by decide) m_12_19 rfl k
theorem dX8_step_180 : decode cX8_step 180 = .ok (.iconst 2, 1) := by decide +kernel
theorem X8_step_180 {Q : z_M → Prop} {a0 : z_V} {st : List z_V} {I : z_M} (k : JX8_step Q 181 [a0] (aI 2 :: st) I) : JX8_step Q 180 [a0] st I := g_iconst (n := 2) dX8_step_180 (by decide) k
theorem dX8_step_181 : decode cX8_step 181 = .ok (.if_icmp .ne 21, 3) := by decide +kernel
theorem X8_step_181 {Q : z_M → Prop} {a0 : z_V} {x y : Int} {st : List z_V} {I : z_M} (kt : x ≠ y → JX8_step Q 202 [a0] st I) (kf : x = y → JX8_step Q 184 [a0] st I) : JX8_step Q 181 [a0] (aI y :: aI x :: st) I := g_icmp_ne dX8_step_181 (by decide) kt kf
theorem dX8_step_184 : decode cX8_step 184 = .ok (.aload_n 0, 1) := by decide +kernel
theorem X8_step_184 {Q : z_M → Prop}  {x : Nat} {st : List z_V} {I : z_M} (k : JX8_step Q 185 [aR x] (aR x :: st) I) : JX8_step Q 184 [aR x] st I := g_aload_n (i := 0) (x := x) dX8_step_184 rfl rfl k
theorem dX8_step_185 : decode cX8_step 185 = .ok (.getfield 28, 3) := by decide +kernel
theorem X8_step_185 {Q : z_M → Prop} {a0 : z_V}  {st : List z_V} {I : z_M}  (k : JX8_step Q 188 [a0] (aI (I 54 5) :: st) I) : JX8_step Q 185 [a0] (aR 54 :: st) I := g_geti (ci := 8) (j := 5) (N := 7) (T := TX8) dX8_step_185 rfl rfl (by decide) (z_nc8 rfl) inlX8 (by decide) m_12_17 rfl k
theorem dX8_step_188 : decode cX8_step 188 = .ok (.aload_n 0, 1) := by decide +kernel
theorem X8_step_188 {Q : z_M → Prop}  {x : Nat} {st : List z_V} {I : z_M} (k : JX8_step Q 189 [aR x] (aR x :: st) I) : JX8_step Q 188 [aR x] st I := g_aload_n (i := 0) (x := x) dX8_step_188 rfl rfl k
theorem dX8_step_189 : decode cX8_step 189 = .ok (.getfield 44, 3) := by decide +kernel
theorem X8_step_189 {Q : z_M → Prop} {a0 : z_V}  {st : List z_V} {I : z_M}  (k : JX8_step Q 192 [a0] (aI (I 54 4) :: st) I) : JX8_step Q 189 [a0] (aR 54 :: st) I := g_geti (ci := 8) (j := 4) (N := 7) (T := TX8) dX8_step_189 rfl rfl (by decide) (z_nc8 rfl) inlX8 (by decide) m_12_18 rfl k
theorem dX8_step_192 : decode cX8_step 192 = .ok (.isub, 1) := by decide +kernel
theorem X8_step_192 {Q : z_M → Prop} {a0 : z_V} {x y : Int} {st : List z_V} {I : z_M} (hr : inI (x - y) := by omega) (k : JX8_step Q 193 [a0] (aI (x - y) :: st) I) : JX8_step Q 192 [a0] (aI y :: aI x :: st) I := g_isub dX8_step_192 hr k
theorem X8_step_192w {Q : z_M → Prop} {a0 : z_V} {x y : Int} {st : List z_V} {I : z_M} (k : JX8_step Q 193 [a0] (aI (i32 (x - y)) :: st) I) : JX8_step Q 192 [a0] (aI y :: aI x :: st) I := g_isubw dX8_step_192 k
theorem dX8_step_193 : decode cX8_step 193 = .ok (.iconst 2, 1) := by decide +kernel
theorem X8_step_193 {Q : z_M → Prop} {a0 : z_V} {st : List z_V} {I : z_M} (k : JX8_step Q 194 [a0] (aI 2 :: st) I) : JX8_step Q 193 [a0] st I := g_iconst (n := 2) dX8_step_193 (by decide) k
theorem dX8_step_194 : decode cX8_step 194 = .ok (.if_icmp .le 8, 3) := by decide +kernel
theorem X8_step_194 {Q : z_M → Prop} {a0 : z_V} {x y : Int} {st : List z_V} {I : z_M} (kt : x ≤ y → JX8_step Q 202 [a0] st I) (kf : y < x → JX8_step Q 197 [a0] st I) : JX8_step Q 194 [a0] (aI y :: aI x :: st) I := g_icmp_le dX8_step_194 (by decide) kt kf
theorem dX8_step_197 : decode cX8_step 197 = .ok (.aload_n 0, 1) := by decide +kernel
theorem X8_step_197 {Q : z_M → Prop}  {x : Nat} {st : List z_V} {I : z_M} (k : JX8_step Q 198 [aR x] (aR x :: st) I) : JX8_step Q 197 [aR x] st I := g_aload_n (i := 0) (x := x) dX8_step_197 rfl rfl k
theorem dX8_step_198 : decode cX8_step 198 = .ok (.iconst 4, 1) := by decide +kernel
theorem X8_step_198 {Q : z_M → Prop} {a0 : z_V} {st : List z_V} {I : z_M} (k : JX8_step Q 199 [a0] (aI 4 :: st) I) : JX8_step Q 198 [a0] st I := g_iconst (n := 4) dX8_step_198 (by decide) k
theorem dX8_step_199 : decode cX8_step 199 = .ok (.putfield 47, 3) := by decide +kernel
theorem X8_step_199 {Q : z_M → Prop} {a0 : z_V}  {x : Int} {st : List z_V} {I : z_M}  (k : JX8_step Q 202 [a0] st (z_up I 54 3 x)) : JX8_step Q 199 [a0] (aI x :: aR 54 :: st) I := g_puti (ci := 8) (j := 3) (N := 7) (T := TX8) dX8_step_199 rfl rfl (by decide) (z_nc8 rfl) inlX8 tyX8_ok nmX8 (by decide) m_12_19 rfl (tyX8_ok 3 (by decide)) rfl k
theorem dX8_step_202 : decode cX8_step 202 = .ok (.aload_n 0, 1) := by decide +kernel
theorem X8_step_202 {Q : z_M → Prop}  {x : Nat} {st : List z_V} {I : z_M} (k : JX8_step Q 203 [aR x] (aR x :: st) I) : JX8_step Q 202 [aR x] st I := g_aload_n (i := 0) (x := x) dX8_step_202 rfl rfl k
theorem dX8_step_203 : decode cX8_step 203 = .ok (.getfield 47, 3) := by decide +kernel
theorem X8_step_203 {Q : z_M → Prop} {a0 : z_V}  {st : List z_V} {I : z_M}  (k : JX8_step Q 206 [a0] (aI (I 54 3) :: st) I) : JX8_step Q 203 [a0] (aR 54 :: st) I := g_geti (ci := 8) (j := 3) (N := 7) (T := TX8) dX8_step_203 rfl rfl (by decide) (z_nc8 rfl) inlX8 (by decide) m_12_19 rfl k
theorem dX8_step_206 : decode cX8_step 206 = .ok (.ifCond .ne 47, 3) := by decide +kernel
theorem X8_step_206 {Q : z_M → Prop} {a0 : z_V} {x : Int} {st : List z_V} {I : z_M} (kt : x ≠ 0 → JX8_step Q 253 [a0] st I) (kf : x = 0 → JX8_step Q 209 [a0] st I) : JX8_step Q 206 [a0] (aI x :: st) I := g_if_ne dX8_step_206 (by decide) kt kf
theorem dX8_step_209 : decode cX8_step 209 = .ok (.aload_n 0, 1) := by decide +kernel
theorem X8_step_209 {Q : z_M → Prop}  {x : Nat} {st : List z_V} {I : z_M} (k : JX8_step Q 210 [aR x] (aR x :: st) I) : JX8_step Q 209 [aR x] st I := g_aload_n (i := 0) (x := x) dX8_step_209 rfl rfl k
theorem dX8_step_210 : decode cX8_step 210 = .ok (.getfield 28, 3) := by decide +kernel
theorem X8_step_210 {Q : z_M → Prop} {a0 : z_V}  {st : List z_V} {I : z_M}  (k : JX8_step Q 213 [a0] (aI (I 54 5) :: st) I) : JX8_step Q 210 [a0] (aR 54 :: st) I := g_geti (ci := 8) (j := 5) (N := 7) (T := TX8) dX8_step_210 rfl rfl (by decide) (z_nc8 rfl) inlX8 (by decide) m_12_17 rfl k
theorem dX8_step_213 : decode cX8_step 213 = .ok (.aload_n 0, 1) := by decide +kernel
theorem X8_step_213 {Q : z_M → Prop}  {x : Nat} {st : List z_V} {I : z_M} (k : JX8_step Q 214 [aR x] (aR x :: st) I) : JX8_step Q 213 [aR x] st I := g_aload_n (i := 0) (x := x) dX8_step_213 rfl rfl k
theorem dX8_step_214 : decode cX8_step 214 = .ok (.getfield 19, 3) := by decide +kernel
theorem X8_step_214 {Q : z_M → Prop} {a0 : z_V}  {st : List z_V} {I : z_M}  (k : JX8_step Q 217 [a0] (aI (I 54 0) :: st) I) : JX8_step Q 214 [a0] (aR 54 :: st) I := g_geti (ci := 8) (j := 0) (N := 7) (T := TX8) dX8_step_214 rfl rfl (by decide) (z_nc8 rfl) inlX8 (by decide) m_11_18 rfl k
theorem dX8_step_217 : decode cX8_step 217 = .ok (.if_icmp .ge 36, 3) := by decide +kernel
theorem X8_step_217 {Q : z_M → Prop} {a0 : z_V} {x y : Int} {st : List z_V} {I : z_M} (kt : y ≤ x → JX8_step Q 253 [a0] st I) (kf : x < y → JX8_step Q 220 [a0] st I) : JX8_step Q 217 [a0] (aI y :: aI x :: st) I := g_icmp_ge dX8_step_217 (by decide) kt kf
theorem dX8_step_220 : decode cX8_step 220 = .ok (.aload_n 0, 1) := by decide +kernel
theorem X8_step_220 {Q : z_M → Prop}  {x : Nat} {st : List z_V} {I : z_M} (k : JX8_step Q 221 [aR x] (aR x :: st) I) : JX8_step Q 220 [aR x] st I := g_aload_n (i := 0) (x := x) dX8_step_220 rfl rfl k
theorem dX8_step_221 : decode cX8_step 221 = .ok (.aload_n 0, 1) := by decide +kernel
theorem X8_step_221 {Q : z_M → Prop}  {x : Nat} {st : List z_V} {I : z_M} (k : JX8_step Q 222 [aR x] (aR x :: st) I) : JX8_step Q 221 [aR x] st I := g_aload_n (i := 0) (x := x) dX8_step_221 rfl rfl k
theorem dX8_step_222 : decode cX8_step 222 = .ok (.getfield 9, 3) := by decide +kernel
theorem X8_step_222 {Q : z_M → Prop} {a0 : z_V}  {st : List z_V} {I : z_M}  (k : JX8_step Q 225 [a0] (aR (55) :: st) I) : JX8_step Q 222 [a0] (aR 54 :: st) I := g_getr (ci := 8) (j := 1) (N := 7) (T := TX8) dX8_step_222 rfl rfl (by decide) (z_nc8 rfl) inlX8 (by decide) m_4_15 rfl rfl k
theorem dX8_step_225 : decode cX8_step 225 = .ok (.aload_n 0, 1) := by decide +kernel
theorem X8_step_225 {Q : z_M → Prop}  {x : Nat} {st : List z_V} {I : z_M} (k : JX8_step Q 226 [aR x] (aR x :: st) I) : JX8_step Q 225 [aR x] st I := g_aload_n (i := 0) (x := x) dX8_step_225 rfl rfl k
theorem dX8_step_226 : decode cX8_step 226 = .ok (.getfield 28, 3) := by decide +kernel
theorem X8_step_226 {Q : z_M → Prop} {a0 : z_V}  {st : List z_V} {I : z_M}  (k : JX8_step Q 229 [a0] (aI (I 54 5) :: st) I) : JX8_step Q 226 [a0] (aR 54 :: st) I := g_geti (ci := 8) (j := 5) (N := 7) (T := TX8) dX8_step_226 rfl rfl (by decide) (z_nc8 rfl) inlX8 (by decide) m_12_17 rfl k
theorem dX8_step_229 : decode cX8_step 229 = .ok (.baload, 1) := by decide +kernel
theorem X8_step_229 {Q : z_M → Prop} {a0 : z_V} {q : Nat} {i : Int} {st : List z_V} {I : z_M} (hk : z_cl q = 21 := by first | assumption | rfl) (h0 : 0 ≤ i := by omega) (h1 : i < z_n q := by first | omega | (simp only [zn_1, zn_9, zn_10, zn_11, zn_12, zn_13, zn_14, zn_15, zn_16, zn_18, zn_20, zn_21, zn_22, zn_23, zn_24, zn_25, zn_26, zn_27, zn_29, zn_30, zn_53, zn_55, zn_56, zn_58, zn_59, zn_61, zn_62, zn_63, zn_64, zn_65, zn_66, zn_67, zn_68, zn_69, zn_70, zn_71, zn_72, zn_73]; omega)) (k : JX8_step Q 230 [a0] (aI (I q i.toNat) :: st) I) : JX8_step Q 229 [a0] (aI i :: aR q :: st) I := g_bald dX8_step_229 hk h0 h1 k
theorem X8_step_229z {Q : z_M → Prop} {a0 : z_V} {q : Nat} {i : Int} {st : List z_V} {I : z_M} (hk : z_cl q = 22 := by first | assumption | rfl) (h0 : 0 ≤ i := by omega) (h1 : i < z_n q := by first | omega | (simp only [zn_1, zn_9, zn_10, zn_11, zn_12, zn_13, zn_14, zn_15, zn_16, zn_18, zn_20, zn_21, zn_22, zn_23, zn_24, zn_25, zn_26, zn_27, zn_29, zn_30, zn_53, zn_55, zn_56, zn_58, zn_59, zn_61, zn_62, zn_63, zn_64, zn_65, zn_66, zn_67, zn_68, zn_69, zn_70, zn_71, zn_72, zn_73]; omega)) (k : JX8_step Q 230 [a0] (aI (I q i.toNat) :: st) I) : JX8_step Q 229 [a0] (aI i :: aR q :: st) I := g_zald dX8_step_229 hk h0 h1 k
theorem dX8_step_230 : decode cX8_step 230 = .ok (.bipush 59, 2) := by decide +kernel
theorem X8_step_230 {Q : z_M → Prop} {a0 : z_V} {st : List z_V} {I : z_M} (k : JX8_step Q 232 [a0] (aI 59 :: st) I) : JX8_step Q 230 [a0] st I := g_bipush (n := 59) dX8_step_230 (by decide +kernel) (by decide) k
theorem dX8_step_232 : decode cX8_step 232 = .ok (.if_icmp .ne 7, 3) := by decide +kernel
theorem X8_step_232 {Q : z_M → Prop} {a0 : z_V} {x y : Int} {st : List z_V} {I : z_M} (kt : x ≠ y → JX8_step Q 239 [a0] st I) (kf : x = y → JX8_step Q 235 [a0] st I) : JX8_step Q 232 [a0] (aI y :: aI x :: st) I := g_icmp_ne dX8_step_232 (by decide) kt kf
theorem dX8_step_235 : decode cX8_step 235 = .ok (.iconst 3, 1) := by decide +kernel
theorem X8_step_235 {Q : z_M → Prop} {a0 : z_V} {st : List z_V} {I : z_M} (k : JX8_step Q 236 [a0] (aI 3 :: st) I) : JX8_step Q 235 [a0] st I := g_iconst (n := 3) dX8_step_235 (by decide) k
theorem dX8_step_236 : decode cX8_step 236 = .ok (.goto 4, 3) := by decide +kernel
theorem X8_step_236 {Q : z_M → Prop} {a0 : z_V} {st : List z_V} {I : z_M} (k : JX8_step Q 240 [a0] st I) : JX8_step Q 236 [a0] st I := g_goto dX8_step_236 (by decide) k
theorem dX8_step_239 : decode cX8_step 239 = .ok (.iconst 4, 1) := by decide +kernel
theorem X8_step_239 {Q : z_M → Prop} {a0 : z_V} {st : List z_V} {I : z_M} (k : JX8_step Q 240 [a0] (aI 4 :: st) I) : JX8_step Q 239 [a0] st I := g_iconst (n := 4) dX8_step_239 (by decide) k
theorem dX8_step_240 : decode cX8_step 240 = .ok (.putfield 47, 3) := by decide +kernel
theorem X8_step_240 {Q : z_M → Prop} {a0 : z_V}  {x : Int} {st : List z_V} {I : z_M}  (k : JX8_step Q 243 [a0] st (z_up I 54 3 x)) : JX8_step Q 240 [a0] (aI x :: aR 54 :: st) I := g_puti (ci := 8) (j := 3) (N := 7) (T := TX8) dX8_step_240 rfl rfl (by decide) (z_nc8 rfl) inlX8 tyX8_ok nmX8 (by decide) m_12_19 rfl (tyX8_ok 3 (by decide)) rfl k
theorem dX8_step_243 : decode cX8_step 243 = .ok (.aload_n 0, 1) := by decide +kernel
theorem X8_step_243 {Q : z_M → Prop}  {x : Nat} {st : List z_V} {I : z_M} (k : JX8_step Q 244 [aR x] (aR x :: st) I) : JX8_step Q 243 [aR x] st I := g_aload_n (i := 0) (x := x) dX8_step_243 rfl rfl k
theorem dX8_step_244 : decode cX8_step 244 = .ok (.dup, 1) := by decide +kernel
theorem X8_step_244 {Q : z_M → Prop} {a0 : z_V} {x : z_V} {st : List z_V} {I : z_M} (hx : ∀ z, x ≠ aL z := by intro z q; cases q) (k : JX8_step Q 245 [a0] (x :: x :: st) I) : JX8_step Q 244 [a0] (x :: st) I := g_dup dX8_step_244 hx k
theorem dX8_step_245 : decode cX8_step 245 = .ok (.getfield 28, 3) := by decide +kernel
theorem X8_step_245 {Q : z_M → Prop} {a0 : z_V}  {st : List z_V} {I : z_M}  (k : JX8_step Q 248 [a0] (aI (I 54 5) :: st) I) : JX8_step Q 245 [a0] (aR 54 :: st) I := g_geti (ci := 8) (j := 5) (N := 7) (T := TX8) dX8_step_245 rfl rfl (by decide) (z_nc8 rfl) inlX8 (by decide) m_12_17 rfl k
theorem dX8_step_248 : decode cX8_step 248 = .ok (.iconst 1, 1) := by decide +kernel
theorem X8_step_248 {Q : z_M → Prop} {a0 : z_V} {st : List z_V} {I : z_M} (k : JX8_step Q 249 [a0] (aI 1 :: st) I) : JX8_step Q 248 [a0] st I := g_iconst (n := 1) dX8_step_248 (by decide) k
theorem dX8_step_249 : decode cX8_step 249 = .ok (.iadd, 1) := by decide +kernel
theorem X8_step_249 {Q : z_M → Prop} {a0 : z_V} {x y : Int} {st : List z_V} {I : z_M} (hr : inI (x + y) := by omega) (k : JX8_step Q 250 [a0] (aI (x + y) :: st) I) : JX8_step Q 249 [a0] (aI y :: aI x :: st) I := g_iadd dX8_step_249 hr k
theorem X8_step_249w {Q : z_M → Prop} {a0 : z_V} {x y : Int} {st : List z_V} {I : z_M} (k : JX8_step Q 250 [a0] (aI (i32 (x + y)) :: st) I) : JX8_step Q 249 [a0] (aI y :: aI x :: st) I := g_iaddw dX8_step_249 k
theorem dX8_step_250 : decode cX8_step 250 = .ok (.putfield 28, 3) := by decide +kernel
theorem X8_step_250 {Q : z_M → Prop} {a0 : z_V}  {x : Int} {st : List z_V} {I : z_M}  (k : JX8_step Q 253 [a0] st (z_up I 54 5 x)) : JX8_step Q 250 [a0] (aI x :: aR 54 :: st) I := g_puti (ci := 8) (j := 5) (N := 7) (T := TX8) dX8_step_250 rfl rfl (by decide) (z_nc8 rfl) inlX8 tyX8_ok nmX8 (by decide) m_12_17 rfl (tyX8_ok 5 (by decide)) rfl k
theorem dX8_step_253 : decode cX8_step 253 = .ok (.return_, 1) := by decide +kernel
theorem X8_step_253 {Q : z_M → Prop} {a0 : z_V} {I : z_M} (hq : Q I) : JX8_step Q 253 [a0] [] I := g_return dX8_step_253 ⟨rfl, hq⟩
theorem dX8_isWord_0 : decode cX8_isWord 0 = .ok (.aload_n 0, 1) := by decide +kernel
theorem X8_isWord_0 {Q : Int → z_M → Prop} {a1 a2 : z_V} {x : Nat} {st : List z_V} {I : z_M} (k : JX8_isWord Q 1 [aR x, a1, a2] (aR x :: st) I) : JX8_isWord Q 0 [aR x, a1, a2] st I := g_aload_n (i := 0) (x := x) dX8_isWord_0 rfl rfl k
theorem dX8_isWord_1 : decode cX8_isWord 1 = .ok (.getfield 47, 3) := by decide +kernel
theorem X8_isWord_1 {Q : Int → z_M → Prop} {a0 a1 a2 : z_V}  {st : List z_V} {I : z_M}  (k : JX8_isWord Q 4 [a0, a1, a2] (aI (I 54 3) :: st) I) : JX8_isWord Q 1 [a0, a1, a2] (aR 54 :: st) I := g_geti (ci := 8) (j := 3) (N := 7) (T := TX8) dX8_isWord_1 rfl rfl (by decide) (z_nc8 rfl) inlX8 (by decide) m_12_19 rfl k
theorem dX8_isWord_4 : decode cX8_isWord 4 = .ok (.iconst 1, 1) := by decide +kernel
theorem X8_isWord_4 {Q : Int → z_M → Prop} {a0 a1 a2 : z_V} {st : List z_V} {I : z_M} (k : JX8_isWord Q 5 [a0, a1, a2] (aI 1 :: st) I) : JX8_isWord Q 4 [a0, a1, a2] st I := g_iconst (n := 1) dX8_isWord_4 (by decide) k
theorem dX8_isWord_5 : decode cX8_isWord 5 = .ok (.if_icmp .ne 19, 3) := by decide +kernel
theorem X8_isWord_5 {Q : Int → z_M → Prop} {a0 a1 a2 : z_V} {x y : Int} {st : List z_V} {I : z_M} (kt : x ≠ y → JX8_isWord Q 24 [a0, a1, a2] st I) (kf : x = y → JX8_isWord Q 8 [a0, a1, a2] st I) : JX8_isWord Q 5 [a0, a1, a2] (aI y :: aI x :: st) I := g_icmp_ne dX8_isWord_5 (by decide) kt kf
theorem dX8_isWord_8 : decode cX8_isWord 8 = .ok (.aload_n 0, 1) := by decide +kernel
theorem X8_isWord_8 {Q : Int → z_M → Prop} {a1 a2 : z_V} {x : Nat} {st : List z_V} {I : z_M} (k : JX8_isWord Q 9 [aR x, a1, a2] (aR x :: st) I) : JX8_isWord Q 8 [aR x, a1, a2] st I := g_aload_n (i := 0) (x := x) dX8_isWord_8 rfl rfl k
theorem dX8_isWord_9 : decode cX8_isWord 9 = .ok (.getfield 28, 3) := by decide +kernel
theorem X8_isWord_9 {Q : Int → z_M → Prop} {a0 a1 a2 : z_V}  {st : List z_V} {I : z_M}  (k : JX8_isWord Q 12 [a0, a1, a2] (aI (I 54 5) :: st) I) : JX8_isWord Q 9 [a0, a1, a2] (aR 54 :: st) I := g_geti (ci := 8) (j := 5) (N := 7) (T := TX8) dX8_isWord_9 rfl rfl (by decide) (z_nc8 rfl) inlX8 (by decide) m_12_17 rfl k
theorem dX8_isWord_12 : decode cX8_isWord 12 = .ok (.aload_n 0, 1) := by decide +kernel
theorem X8_isWord_12 {Q : Int → z_M → Prop} {a1 a2 : z_V} {x : Nat} {st : List z_V} {I : z_M} (k : JX8_isWord Q 13 [aR x, a1, a2] (aR x :: st) I) : JX8_isWord Q 12 [aR x, a1, a2] st I := g_aload_n (i := 0) (x := x) dX8_isWord_12 rfl rfl k
theorem dX8_isWord_13 : decode cX8_isWord 13 = .ok (.getfield 44, 3) := by decide +kernel
theorem X8_isWord_13 {Q : Int → z_M → Prop} {a0 a1 a2 : z_V}  {st : List z_V} {I : z_M}  (k : JX8_isWord Q 16 [a0, a1, a2] (aI (I 54 4) :: st) I) : JX8_isWord Q 13 [a0, a1, a2] (aR 54 :: st) I := g_geti (ci := 8) (j := 4) (N := 7) (T := TX8) dX8_isWord_13 rfl rfl (by decide) (z_nc8 rfl) inlX8 (by decide) m_12_18 rfl k
theorem dX8_isWord_16 : decode cX8_isWord 16 = .ok (.isub, 1) := by decide +kernel
theorem X8_isWord_16 {Q : Int → z_M → Prop} {a0 a1 a2 : z_V} {x y : Int} {st : List z_V} {I : z_M} (hr : inI (x - y) := by omega) (k : JX8_isWord Q 17 [a0, a1, a2] (aI (x - y) :: st) I) : JX8_isWord Q 16 [a0, a1, a2] (aI y :: aI x :: st) I := g_isub dX8_isWord_16 hr k
theorem X8_isWord_16w {Q : Int → z_M → Prop} {a0 a1 a2 : z_V} {x y : Int} {st : List z_V} {I : z_M} (k : JX8_isWord Q 17 [a0, a1, a2] (aI (i32 (x - y)) :: st) I) : JX8_isWord Q 16 [a0, a1, a2] (aI y :: aI x :: st) I := g_isubw dX8_isWord_16 k
theorem dX8_isWord_17 : decode cX8_isWord 17 = .ok (.aload_n 1, 1) := by decide +kernel
theorem X8_isWord_17 {Q : Int → z_M → Prop} {a0 a2 : z_V} {x : Nat} {st : List z_V} {I : z_M} (k : JX8_isWord Q 18 [a0, aR x, a2] (aR x :: st) I) : JX8_isWord Q 17 [a0, aR x, a2] st I := g_aload_n (i := 1) (x := x) dX8_isWord_17 rfl rfl k
theorem dX8_isWord_18 : decode cX8_isWord 18 = .ok (.invokevirtual 102, 3) := by decide +kernel
-- X8_isWord_18: a call on a string constant
theorem dX8_isWord_21 : decode cX8_isWord 21 = .ok (.if_icmp .eq 5, 3) := by decide +kernel
theorem X8_isWord_21 {Q : Int → z_M → Prop} {a0 a1 a2 : z_V} {x y : Int} {st : List z_V} {I : z_M} (kt : x = y → JX8_isWord Q 26 [a0, a1, a2] st I) (kf : x ≠ y → JX8_isWord Q 24 [a0, a1, a2] st I) : JX8_isWord Q 21 [a0, a1, a2] (aI y :: aI x :: st) I := g_icmp_eq dX8_isWord_21 (by decide) kt kf
theorem dX8_isWord_24 : decode cX8_isWord 24 = .ok (.iconst 0, 1) := by decide +kernel
theorem X8_isWord_24 {Q : Int → z_M → Prop} {a0 a1 a2 : z_V} {st : List z_V} {I : z_M} (k : JX8_isWord Q 25 [a0, a1, a2] (aI 0 :: st) I) : JX8_isWord Q 24 [a0, a1, a2] st I := g_iconst (n := 0) dX8_isWord_24 (by decide) k
theorem dX8_isWord_25 : decode cX8_isWord 25 = .ok (.ireturn, 1) := by decide +kernel
theorem X8_isWord_25 {Q : Int → z_M → Prop} {a0 a1 a2 : z_V} {x : Int} {I : z_M} (hx : x = 0 ∨ x = 1 := by omega) (hq : Q x I) : JX8_isWord Q 25 [a0, a1, a2] [aI x] I := g_zreturn dX8_isWord_25 hx ⟨x, rfl, hq⟩
theorem dX8_isWord_26 : decode cX8_isWord 26 = .ok (.iconst 0, 1) := by decide +kernel
theorem X8_isWord_26 {Q : Int → z_M → Prop} {a0 a1 a2 : z_V} {st : List z_V} {I : z_M} (k : JX8_isWord Q 27 [a0, a1, a2] (aI 0 :: st) I) : JX8_isWord Q 26 [a0, a1, a2] st I := g_iconst (n := 0) dX8_isWord_26 (by decide) k
theorem dX8_isWord_27 : decode cX8_isWord 27 = .ok (.istore_n 2, 1) := by decide +kernel
theorem X8_isWord_27 {Q : Int → z_M → Prop} {a0 a1 a2 : z_V} {x : Int} {st : List z_V} {I : z_M} (hb : z_nl [a0, a1, a2] 2 = true := by rfl) (k : JX8_isWord Q 28 [a0, a1, aI x] st I) : JX8_isWord Q 27 [a0, a1, a2] (aI x :: st) I := g_istore_n (i := 2) (x := x) dX8_isWord_27 rfl (show 2 < 3 from by decide) hb k
theorem dX8_isWord_28 : decode cX8_isWord 28 = .ok (.iload_n 2, 1) := by decide +kernel
theorem X8_isWord_28 {Q : Int → z_M → Prop} {a0 a1 : z_V} {x : Int} {st : List z_V} {I : z_M} (k : JX8_isWord Q 29 [a0, a1, aI x] (aI x :: st) I) : JX8_isWord Q 28 [a0, a1, aI x] st I := g_iload_n (i := 2) (x := x) dX8_isWord_28 rfl rfl k
theorem dX8_isWord_29 : decode cX8_isWord 29 = .ok (.aload_n 1, 1) := by decide +kernel
theorem X8_isWord_29 {Q : Int → z_M → Prop} {a0 a2 : z_V} {x : Nat} {st : List z_V} {I : z_M} (k : JX8_isWord Q 30 [a0, aR x, a2] (aR x :: st) I) : JX8_isWord Q 29 [a0, aR x, a2] st I := g_aload_n (i := 1) (x := x) dX8_isWord_29 rfl rfl k
theorem dX8_isWord_30 : decode cX8_isWord 30 = .ok (.invokevirtual 102, 3) := by decide +kernel
-- X8_isWord_30: a call on a string constant
theorem dX8_isWord_33 : decode cX8_isWord 33 = .ok (.if_icmp .ge 30, 3) := by decide +kernel
theorem X8_isWord_33 {Q : Int → z_M → Prop} {a0 a1 a2 : z_V} {x y : Int} {st : List z_V} {I : z_M} (kt : y ≤ x → JX8_isWord Q 63 [a0, a1, a2] st I) (kf : x < y → JX8_isWord Q 36 [a0, a1, a2] st I) : JX8_isWord Q 33 [a0, a1, a2] (aI y :: aI x :: st) I := g_icmp_ge dX8_isWord_33 (by decide) kt kf
theorem dX8_isWord_36 : decode cX8_isWord 36 = .ok (.aload_n 0, 1) := by decide +kernel
theorem X8_isWord_36 {Q : Int → z_M → Prop} {a1 a2 : z_V} {x : Nat} {st : List z_V} {I : z_M} (k : JX8_isWord Q 37 [aR x, a1, a2] (aR x :: st) I) : JX8_isWord Q 36 [aR x, a1, a2] st I := g_aload_n (i := 0) (x := x) dX8_isWord_36 rfl rfl k
theorem dX8_isWord_37 : decode cX8_isWord 37 = .ok (.getfield 9, 3) := by decide +kernel
theorem X8_isWord_37 {Q : Int → z_M → Prop} {a0 a1 a2 : z_V}  {st : List z_V} {I : z_M}  (k : JX8_isWord Q 40 [a0, a1, a2] (aR (55) :: st) I) : JX8_isWord Q 37 [a0, a1, a2] (aR 54 :: st) I := g_getr (ci := 8) (j := 1) (N := 7) (T := TX8) dX8_isWord_37 rfl rfl (by decide) (z_nc8 rfl) inlX8 (by decide) m_4_15 rfl rfl k
theorem dX8_isWord_40 : decode cX8_isWord 40 = .ok (.aload_n 0, 1) := by decide +kernel
theorem X8_isWord_40 {Q : Int → z_M → Prop} {a1 a2 : z_V} {x : Nat} {st : List z_V} {I : z_M} (k : JX8_isWord Q 41 [aR x, a1, a2] (aR x :: st) I) : JX8_isWord Q 40 [aR x, a1, a2] st I := g_aload_n (i := 0) (x := x) dX8_isWord_40 rfl rfl k
theorem dX8_isWord_41 : decode cX8_isWord 41 = .ok (.getfield 44, 3) := by decide +kernel
theorem X8_isWord_41 {Q : Int → z_M → Prop} {a0 a1 a2 : z_V}  {st : List z_V} {I : z_M}  (k : JX8_isWord Q 44 [a0, a1, a2] (aI (I 54 4) :: st) I) : JX8_isWord Q 41 [a0, a1, a2] (aR 54 :: st) I := g_geti (ci := 8) (j := 4) (N := 7) (T := TX8) dX8_isWord_41 rfl rfl (by decide) (z_nc8 rfl) inlX8 (by decide) m_12_18 rfl k
theorem dX8_isWord_44 : decode cX8_isWord 44 = .ok (.iload_n 2, 1) := by decide +kernel
theorem X8_isWord_44 {Q : Int → z_M → Prop} {a0 a1 : z_V} {x : Int} {st : List z_V} {I : z_M} (k : JX8_isWord Q 45 [a0, a1, aI x] (aI x :: st) I) : JX8_isWord Q 44 [a0, a1, aI x] st I := g_iload_n (i := 2) (x := x) dX8_isWord_44 rfl rfl k
theorem dX8_isWord_45 : decode cX8_isWord 45 = .ok (.iadd, 1) := by decide +kernel
theorem X8_isWord_45 {Q : Int → z_M → Prop} {a0 a1 a2 : z_V} {x y : Int} {st : List z_V} {I : z_M} (hr : inI (x + y) := by omega) (k : JX8_isWord Q 46 [a0, a1, a2] (aI (x + y) :: st) I) : JX8_isWord Q 45 [a0, a1, a2] (aI y :: aI x :: st) I := g_iadd dX8_isWord_45 hr k
theorem X8_isWord_45w {Q : Int → z_M → Prop} {a0 a1 a2 : z_V} {x y : Int} {st : List z_V} {I : z_M} (k : JX8_isWord Q 46 [a0, a1, a2] (aI (i32 (x + y)) :: st) I) : JX8_isWord Q 45 [a0, a1, a2] (aI y :: aI x :: st) I := g_iaddw dX8_isWord_45 k
theorem dX8_isWord_46 : decode cX8_isWord 46 = .ok (.baload, 1) := by decide +kernel
theorem X8_isWord_46 {Q : Int → z_M → Prop} {a0 a1 a2 : z_V} {q : Nat} {i : Int} {st : List z_V} {I : z_M} (hk : z_cl q = 21 := by first | assumption | rfl) (h0 : 0 ≤ i := by omega) (h1 : i < z_n q := by first | omega | (simp only [zn_1, zn_9, zn_10, zn_11, zn_12, zn_13, zn_14, zn_15, zn_16, zn_18, zn_20, zn_21, zn_22, zn_23, zn_24, zn_25, zn_26, zn_27, zn_29, zn_30, zn_53, zn_55, zn_56, zn_58, zn_59, zn_61, zn_62, zn_63, zn_64, zn_65, zn_66, zn_67, zn_68, zn_69, zn_70, zn_71, zn_72, zn_73]; omega)) (k : JX8_isWord Q 47 [a0, a1, a2] (aI (I q i.toNat) :: st) I) : JX8_isWord Q 46 [a0, a1, a2] (aI i :: aR q :: st) I := g_bald dX8_isWord_46 hk h0 h1 k
theorem X8_isWord_46z {Q : Int → z_M → Prop} {a0 a1 a2 : z_V} {q : Nat} {i : Int} {st : List z_V} {I : z_M} (hk : z_cl q = 22 := by first | assumption | rfl) (h0 : 0 ≤ i := by omega) (h1 : i < z_n q := by first | omega | (simp only [zn_1, zn_9, zn_10, zn_11, zn_12, zn_13, zn_14, zn_15, zn_16, zn_18, zn_20, zn_21, zn_22, zn_23, zn_24, zn_25, zn_26, zn_27, zn_29, zn_30, zn_53, zn_55, zn_56, zn_58, zn_59, zn_61, zn_62, zn_63, zn_64, zn_65, zn_66, zn_67, zn_68, zn_69, zn_70, zn_71, zn_72, zn_73]; omega)) (k : JX8_isWord Q 47 [a0, a1, a2] (aI (I q i.toNat) :: st) I) : JX8_isWord Q 46 [a0, a1, a2] (aI i :: aR q :: st) I := g_zald dX8_isWord_46 hk h0 h1 k
theorem dX8_isWord_47 : decode cX8_isWord 47 = .ok (.aload_n 1, 1) := by decide +kernel
theorem X8_isWord_47 {Q : Int → z_M → Prop} {a0 a2 : z_V} {x : Nat} {st : List z_V} {I : z_M} (k : JX8_isWord Q 48 [a0, aR x, a2] (aR x :: st) I) : JX8_isWord Q 47 [a0, aR x, a2] st I := g_aload_n (i := 1) (x := x) dX8_isWord_47 rfl rfl k
theorem dX8_isWord_48 : decode cX8_isWord 48 = .ok (.iload_n 2, 1) := by decide +kernel
theorem X8_isWord_48 {Q : Int → z_M → Prop} {a0 a1 : z_V} {x : Int} {st : List z_V} {I : z_M} (k : JX8_isWord Q 49 [a0, a1, aI x] (aI x :: st) I) : JX8_isWord Q 48 [a0, a1, aI x] st I := g_iload_n (i := 2) (x := x) dX8_isWord_48 rfl rfl k
theorem dX8_isWord_49 : decode cX8_isWord 49 = .ok (.invokevirtual 108, 3) := by decide +kernel
-- X8_isWord_49: a call on a string constant
theorem dX8_isWord_52 : decode cX8_isWord 52 = .ok (.if_icmp .eq 5, 3) := by decide +kernel
theorem X8_isWord_52 {Q : Int → z_M → Prop} {a0 a1 a2 : z_V} {x y : Int} {st : List z_V} {I : z_M} (kt : x = y → JX8_isWord Q 57 [a0, a1, a2] st I) (kf : x ≠ y → JX8_isWord Q 55 [a0, a1, a2] st I) : JX8_isWord Q 52 [a0, a1, a2] (aI y :: aI x :: st) I := g_icmp_eq dX8_isWord_52 (by decide) kt kf
theorem dX8_isWord_55 : decode cX8_isWord 55 = .ok (.iconst 0, 1) := by decide +kernel
theorem X8_isWord_55 {Q : Int → z_M → Prop} {a0 a1 a2 : z_V} {st : List z_V} {I : z_M} (k : JX8_isWord Q 56 [a0, a1, a2] (aI 0 :: st) I) : JX8_isWord Q 55 [a0, a1, a2] st I := g_iconst (n := 0) dX8_isWord_55 (by decide) k
theorem dX8_isWord_56 : decode cX8_isWord 56 = .ok (.ireturn, 1) := by decide +kernel
theorem X8_isWord_56 {Q : Int → z_M → Prop} {a0 a1 a2 : z_V} {x : Int} {I : z_M} (hx : x = 0 ∨ x = 1 := by omega) (hq : Q x I) : JX8_isWord Q 56 [a0, a1, a2] [aI x] I := g_zreturn dX8_isWord_56 hx ⟨x, rfl, hq⟩
theorem dX8_isWord_57 : decode cX8_isWord 57 = .ok (.iinc 2 1, 3) := by decide +kernel
theorem X8_isWord_57 {Q : Int → z_M → Prop} {a0 a1 : z_V} {x : Int} {st : List z_V} {I : z_M} (hb : z_nl [a0, a1, aI x] 2 = true := by rfl) (hr : inI (x + 1) := by omega) (k : JX8_isWord Q 60 [a0, a1, aI (x + 1)] st I) : JX8_isWord Q 57 [a0, a1, aI x] st I := g_iinc (i := 2) (x := x) dX8_isWord_57 rfl (show 2 < 3 from by decide) hb hr k
theorem dX8_isWord_60 : decode cX8_isWord 60 = .ok (.goto (-32), 3) := by decide +kernel
theorem X8_isWord_60 {Q : Int → z_M → Prop} {a0 a1 a2 : z_V} {st : List z_V} {I : z_M} (k : JX8_isWord Q 28 [a0, a1, a2] st I) : JX8_isWord Q 60 [a0, a1, a2] st I := g_goto dX8_isWord_60 (by decide) k
theorem dX8_isWord_63 : decode cX8_isWord 63 = .ok (.iconst 1, 1) := by decide +kernel
theorem X8_isWord_63 {Q : Int → z_M → Prop} {a0 a1 a2 : z_V} {st : List z_V} {I : z_M} (k : JX8_isWord Q 64 [a0, a1, a2] (aI 1 :: st) I) : JX8_isWord Q 63 [a0, a1, a2] st I := g_iconst (n := 1) dX8_isWord_63 (by decide) k
theorem dX8_isWord_64 : decode cX8_isWord 64 = .ok (.ireturn, 1) := by decide +kernel
theorem X8_isWord_64 {Q : Int → z_M → Prop} {a0 a1 a2 : z_V} {x : Int} {I : z_M} (hx : x = 0 ∨ x = 1 := by omega) (hq : Q x I) : JX8_isWord Q 64 [a0, a1, a2] [aI x] I := g_zreturn dX8_isWord_64 hx ⟨x, rfl, hq⟩
theorem dX8_isLetter_0 : decode cX8_isLetter 0 = .ok (.iload_n 0, 1) := by decide +kernel
theorem X8_isLetter_0 {Q : Int → z_M → Prop}  {x : Int} {st : List z_V} {I : z_M} (k : JX8_isLetter Q 1 [aI x] (aI x :: st) I) : JX8_isLetter Q 0 [aI x] st I := g_iload_n (i := 0) (x := x) dX8_isLetter_0 rfl rfl k
theorem dX8_isLetter_1 : decode cX8_isLetter 1 = .ok (.bipush 97, 2) := by decide +kernel
theorem X8_isLetter_1 {Q : Int → z_M → Prop} {a0 : z_V} {st : List z_V} {I : z_M} (k : JX8_isLetter Q 3 [a0] (aI 97 :: st) I) : JX8_isLetter Q 1 [a0] st I := g_bipush (n := 97) dX8_isLetter_1 (by decide +kernel) (by decide) k
theorem dX8_isLetter_3 : decode cX8_isLetter 3 = .ok (.if_icmp .lt 13, 3) := by decide +kernel
theorem X8_isLetter_3 {Q : Int → z_M → Prop} {a0 : z_V} {x y : Int} {st : List z_V} {I : z_M} (kt : x < y → JX8_isLetter Q 16 [a0] st I) (kf : y ≤ x → JX8_isLetter Q 6 [a0] st I) : JX8_isLetter Q 3 [a0] (aI y :: aI x :: st) I := g_icmp_lt dX8_isLetter_3 (by decide) kt kf
theorem dX8_isLetter_6 : decode cX8_isLetter 6 = .ok (.iload_n 0, 1) := by decide +kernel
theorem X8_isLetter_6 {Q : Int → z_M → Prop}  {x : Int} {st : List z_V} {I : z_M} (k : JX8_isLetter Q 7 [aI x] (aI x :: st) I) : JX8_isLetter Q 6 [aI x] st I := g_iload_n (i := 0) (x := x) dX8_isLetter_6 rfl rfl k
theorem dX8_isLetter_7 : decode cX8_isLetter 7 = .ok (.bipush 122, 2) := by decide +kernel
theorem X8_isLetter_7 {Q : Int → z_M → Prop} {a0 : z_V} {st : List z_V} {I : z_M} (k : JX8_isLetter Q 9 [a0] (aI 122 :: st) I) : JX8_isLetter Q 7 [a0] st I := g_bipush (n := 122) dX8_isLetter_7 (by decide +kernel) (by decide) k
theorem dX8_isLetter_9 : decode cX8_isLetter 9 = .ok (.if_icmp .gt 7, 3) := by decide +kernel
theorem X8_isLetter_9 {Q : Int → z_M → Prop} {a0 : z_V} {x y : Int} {st : List z_V} {I : z_M} (kt : y < x → JX8_isLetter Q 16 [a0] st I) (kf : x ≤ y → JX8_isLetter Q 12 [a0] st I) : JX8_isLetter Q 9 [a0] (aI y :: aI x :: st) I := g_icmp_gt dX8_isLetter_9 (by decide) kt kf
theorem dX8_isLetter_12 : decode cX8_isLetter 12 = .ok (.iconst 1, 1) := by decide +kernel
theorem X8_isLetter_12 {Q : Int → z_M → Prop} {a0 : z_V} {st : List z_V} {I : z_M} (k : JX8_isLetter Q 13 [a0] (aI 1 :: st) I) : JX8_isLetter Q 12 [a0] st I := g_iconst (n := 1) dX8_isLetter_12 (by decide) k
theorem dX8_isLetter_13 : decode cX8_isLetter 13 = .ok (.goto 4, 3) := by decide +kernel
theorem X8_isLetter_13 {Q : Int → z_M → Prop} {a0 : z_V} {st : List z_V} {I : z_M} (k : JX8_isLetter Q 17 [a0] st I) : JX8_isLetter Q 13 [a0] st I := g_goto dX8_isLetter_13 (by decide) k
theorem dX8_isLetter_16 : decode cX8_isLetter 16 = .ok (.iconst 0, 1) := by decide +kernel
theorem X8_isLetter_16 {Q : Int → z_M → Prop} {a0 : z_V} {st : List z_V} {I : z_M} (k : JX8_isLetter Q 17 [a0] (aI 0 :: st) I) : JX8_isLetter Q 16 [a0] st I := g_iconst (n := 0) dX8_isLetter_16 (by decide) k
theorem dX8_isLetter_17 : decode cX8_isLetter 17 = .ok (.ireturn, 1) := by decide +kernel
theorem X8_isLetter_17 {Q : Int → z_M → Prop} {a0 : z_V} {x : Int} {I : z_M} (hx : x = 0 ∨ x = 1 := by omega) (hq : Q x I) : JX8_isLetter Q 17 [a0] [aI x] I := g_zreturn dX8_isLetter_17 hx ⟨x, rfl, hq⟩
theorem dX8_isFigure_0 : decode cX8_isFigure 0 = .ok (.iload_n 0, 1) := by decide +kernel
theorem X8_isFigure_0 {Q : Int → z_M → Prop}  {x : Int} {st : List z_V} {I : z_M} (k : JX8_isFigure Q 1 [aI x] (aI x :: st) I) : JX8_isFigure Q 0 [aI x] st I := g_iload_n (i := 0) (x := x) dX8_isFigure_0 rfl rfl k
theorem dX8_isFigure_1 : decode cX8_isFigure 1 = .ok (.bipush 48, 2) := by decide +kernel
theorem X8_isFigure_1 {Q : Int → z_M → Prop} {a0 : z_V} {st : List z_V} {I : z_M} (k : JX8_isFigure Q 3 [a0] (aI 48 :: st) I) : JX8_isFigure Q 1 [a0] st I := g_bipush (n := 48) dX8_isFigure_1 (by decide +kernel) (by decide) k
theorem dX8_isFigure_3 : decode cX8_isFigure 3 = .ok (.if_icmp .lt 13, 3) := by decide +kernel
theorem X8_isFigure_3 {Q : Int → z_M → Prop} {a0 : z_V} {x y : Int} {st : List z_V} {I : z_M} (kt : x < y → JX8_isFigure Q 16 [a0] st I) (kf : y ≤ x → JX8_isFigure Q 6 [a0] st I) : JX8_isFigure Q 3 [a0] (aI y :: aI x :: st) I := g_icmp_lt dX8_isFigure_3 (by decide) kt kf
theorem dX8_isFigure_6 : decode cX8_isFigure 6 = .ok (.iload_n 0, 1) := by decide +kernel
theorem X8_isFigure_6 {Q : Int → z_M → Prop}  {x : Int} {st : List z_V} {I : z_M} (k : JX8_isFigure Q 7 [aI x] (aI x :: st) I) : JX8_isFigure Q 6 [aI x] st I := g_iload_n (i := 0) (x := x) dX8_isFigure_6 rfl rfl k
theorem dX8_isFigure_7 : decode cX8_isFigure 7 = .ok (.bipush 57, 2) := by decide +kernel
theorem X8_isFigure_7 {Q : Int → z_M → Prop} {a0 : z_V} {st : List z_V} {I : z_M} (k : JX8_isFigure Q 9 [a0] (aI 57 :: st) I) : JX8_isFigure Q 7 [a0] st I := g_bipush (n := 57) dX8_isFigure_7 (by decide +kernel) (by decide) k
theorem dX8_isFigure_9 : decode cX8_isFigure 9 = .ok (.if_icmp .gt 7, 3) := by decide +kernel
theorem X8_isFigure_9 {Q : Int → z_M → Prop} {a0 : z_V} {x y : Int} {st : List z_V} {I : z_M} (kt : y < x → JX8_isFigure Q 16 [a0] st I) (kf : x ≤ y → JX8_isFigure Q 12 [a0] st I) : JX8_isFigure Q 9 [a0] (aI y :: aI x :: st) I := g_icmp_gt dX8_isFigure_9 (by decide) kt kf
theorem dX8_isFigure_12 : decode cX8_isFigure 12 = .ok (.iconst 1, 1) := by decide +kernel
theorem X8_isFigure_12 {Q : Int → z_M → Prop} {a0 : z_V} {st : List z_V} {I : z_M} (k : JX8_isFigure Q 13 [a0] (aI 1 :: st) I) : JX8_isFigure Q 12 [a0] st I := g_iconst (n := 1) dX8_isFigure_12 (by decide) k
theorem dX8_isFigure_13 : decode cX8_isFigure 13 = .ok (.goto 4, 3) := by decide +kernel
theorem X8_isFigure_13 {Q : Int → z_M → Prop} {a0 : z_V} {st : List z_V} {I : z_M} (k : JX8_isFigure Q 17 [a0] st I) : JX8_isFigure Q 13 [a0] st I := g_goto dX8_isFigure_13 (by decide) k
theorem dX8_isFigure_16 : decode cX8_isFigure 16 = .ok (.iconst 0, 1) := by decide +kernel
theorem X8_isFigure_16 {Q : Int → z_M → Prop} {a0 : z_V} {st : List z_V} {I : z_M} (k : JX8_isFigure Q 17 [a0] (aI 0 :: st) I) : JX8_isFigure Q 16 [a0] st I := g_iconst (n := 0) dX8_isFigure_16 (by decide) k
theorem dX8_isFigure_17 : decode cX8_isFigure 17 = .ok (.ireturn, 1) := by decide +kernel
theorem X8_isFigure_17 {Q : Int → z_M → Prop} {a0 : z_V} {x : Int} {I : z_M} (hx : x = 0 ∨ x = 1 := by omega) (hq : Q x I) : JX8_isFigure Q 17 [a0] [aI x] I := g_zreturn dX8_isFigure_17 hx ⟨x, rfl, hq⟩

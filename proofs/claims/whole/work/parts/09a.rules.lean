theorem dX0_mayGo_0 : decode cX0_mayGo 0 = .ok (.aload_n 1, 1) := by decide +kernel
theorem X0_mayGo_0 {Q : Int → z_M → Prop} {a0 a2 : z_V} {x : Nat} {st : List z_V} {I : z_M} (k : JX0_mayGo Q 1 [a0, aR x, a2] (aR x :: st) I) : JX0_mayGo Q 0 [a0, aR x, a2] st I := g_aload_n (i := 1) (x := x) dX0_mayGo_0 rfl rfl k
theorem dX0_mayGo_1 : decode cX0_mayGo 1 = .ok (.invokevirtual 7, 3) := by decide +kernel
theorem X0_mayGo_1 {Q : Int → z_M → Prop} {a0 a1 a2 : z_V} {b : Nat}  {st : List z_V} {I : z_M} (hb : z_cl b = 4 := by first | assumption | rfl) (hst : z_sw st ≤ 8 := by exact Nat.le_of_ble_eq_true rfl) (k : CX4_isNight (aR b :: []) I (fun x9 I9 => JX0_mayGo Q 4 [a0, a1, a2] (aI x9 :: st) I9)) : JX0_mayGo Q 1 [a0, a1, a2] (aR b :: st) I := g_callV (C := RX4) (ci := 4) (As := []) (n := 0) dX0_mayGo_1 ⟨m_20_18, pdX4_isNight, ⟨by decide, by decide⟩, rfl, rfl, by decide, by decide⟩ m_20_15 m_20_16 m_20_17 m_2_9 rfl hb (by decide) rfl rfl hst k (fun r I9 h => by obtain ⟨x9, rfl, h⟩ := h; exact h)
theorem dX0_mayGo_4 : decode cX0_mayGo 4 = .ok (.ifCond .eq 16, 3) := by decide +kernel
theorem X0_mayGo_4 {Q : Int → z_M → Prop} {a0 a1 a2 : z_V} {x : Int} {st : List z_V} {I : z_M} (kt : x = 0 → JX0_mayGo Q 20 [a0, a1, a2] st I) (kf : x ≠ 0 → JX0_mayGo Q 7 [a0, a1, a2] st I) : JX0_mayGo Q 4 [a0, a1, a2] (aI x :: st) I := g_if_eq dX0_mayGo_4 (by decide) kt kf
theorem dX0_mayGo_7 : decode cX0_mayGo 7 = .ok (.aload_n 0, 1) := by decide +kernel
theorem X0_mayGo_7 {Q : Int → z_M → Prop} {a1 a2 : z_V} {x : Nat} {st : List z_V} {I : z_M} (k : JX0_mayGo Q 8 [aR x, a1, a2] (aR x :: st) I) : JX0_mayGo Q 7 [aR x, a1, a2] st I := g_aload_n (i := 0) (x := x) dX0_mayGo_7 rfl rfl k
theorem dX0_mayGo_8 : decode cX0_mayGo 8 = .ok (.aload_n 1, 1) := by decide +kernel
theorem X0_mayGo_8 {Q : Int → z_M → Prop} {a0 a2 : z_V} {x : Nat} {st : List z_V} {I : z_M} (k : JX0_mayGo Q 9 [a0, aR x, a2] (aR x :: st) I) : JX0_mayGo Q 8 [a0, aR x, a2] st I := g_aload_n (i := 1) (x := x) dX0_mayGo_8 rfl rfl k
theorem dX0_mayGo_9 : decode cX0_mayGo 9 = .ok (.iload_n 2, 1) := by decide +kernel
theorem X0_mayGo_9 {Q : Int → z_M → Prop} {a0 a1 : z_V} {x : Int} {st : List z_V} {I : z_M} (k : JX0_mayGo Q 10 [a0, a1, aI x] (aI x :: st) I) : JX0_mayGo Q 9 [a0, a1, aI x] st I := g_iload_n (i := 2) (x := x) dX0_mayGo_9 rfl rfl k
theorem dX0_mayGo_10 : decode cX0_mayGo 10 = .ok (.invokespecial 13, 3) := by decide +kernel
theorem X0_mayGo_10 {Q : Int → z_M → Prop} {a0 a1 a2 : z_V} {b : Nat} {x0 : Nat} {x1 : Int} {st : List z_V} {I : z_M} (hb : z_cl b = 0 := by first | assumption | rfl) (hst : z_sw st ≤ 8 := by exact Nat.le_of_ble_eq_true rfl) (k : CX6_mayGo (aR b :: [aR x0, aI x1]) I (fun x9 I9 => JX0_mayGo Q 13 [a0, a1, a2] (aI x9 :: st) I9)) : JX0_mayGo Q 10 [a0, a1, a2] (aI x1 :: aR x0 :: aR b :: st) I := g_callSI (ci := 0) (As := [aR x0, aI x1]) (n := 2) (x := ⟨RX7, "mayGo", "(LGonePipes$Organ;I)Z"⟩) dX0_mayGo_10 ⟨m_20_19, pdX6_mayGo, ⟨by decide, by decide⟩, rfl, rfl, by decide, by decide⟩ m_x_0 m_x_1 ⟨rfl, rfl⟩ m_x_2 m_x_3 m_21_4 m_1_14 (by decide) hb (by decide) rfl rfl hst k (fun r I9 h => by obtain ⟨x9, rfl, h⟩ := h; exact h)
theorem dX0_mayGo_13 : decode cX0_mayGo 13 = .ok (.ifCond .eq 7, 3) := by decide +kernel
theorem X0_mayGo_13 {Q : Int → z_M → Prop} {a0 a1 a2 : z_V} {x : Int} {st : List z_V} {I : z_M} (kt : x = 0 → JX0_mayGo Q 20 [a0, a1, a2] st I) (kf : x ≠ 0 → JX0_mayGo Q 16 [a0, a1, a2] st I) : JX0_mayGo Q 13 [a0, a1, a2] (aI x :: st) I := g_if_eq dX0_mayGo_13 (by decide) kt kf
theorem dX0_mayGo_16 : decode cX0_mayGo 16 = .ok (.iconst 1, 1) := by decide +kernel
theorem X0_mayGo_16 {Q : Int → z_M → Prop} {a0 a1 a2 : z_V} {st : List z_V} {I : z_M} (k : JX0_mayGo Q 17 [a0, a1, a2] (aI 1 :: st) I) : JX0_mayGo Q 16 [a0, a1, a2] st I := g_iconst (n := 1) dX0_mayGo_16 (by decide) k
theorem dX0_mayGo_17 : decode cX0_mayGo 17 = .ok (.goto 4, 3) := by decide +kernel
theorem X0_mayGo_17 {Q : Int → z_M → Prop} {a0 a1 a2 : z_V} {st : List z_V} {I : z_M} (k : JX0_mayGo Q 21 [a0, a1, a2] st I) : JX0_mayGo Q 17 [a0, a1, a2] st I := g_goto dX0_mayGo_17 (by decide) k
theorem dX0_mayGo_20 : decode cX0_mayGo 20 = .ok (.iconst 0, 1) := by decide +kernel
theorem X0_mayGo_20 {Q : Int → z_M → Prop} {a0 a1 a2 : z_V} {st : List z_V} {I : z_M} (k : JX0_mayGo Q 21 [a0, a1, a2] (aI 0 :: st) I) : JX0_mayGo Q 20 [a0, a1, a2] st I := g_iconst (n := 0) dX0_mayGo_20 (by decide) k
theorem dX0_mayGo_21 : decode cX0_mayGo 21 = .ok (.ireturn, 1) := by decide +kernel
theorem X0_mayGo_21 {Q : Int → z_M → Prop} {a0 a1 a2 : z_V} {x : Int} {I : z_M} (hx : x = 0 ∨ x = 1 := by omega) (hq : Q x I) : JX0_mayGo Q 21 [a0, a1, a2] [aI x] I := g_zreturn dX0_mayGo_21 hx ⟨x, rfl, hq⟩
theorem dX1_mayGo_0 : decode cX1_mayGo 0 = .ok (.aload_n 1, 1) := by decide +kernel
theorem X1_mayGo_0 {Q : Int → z_M → Prop} {a0 a2 : z_V} {x : Nat} {st : List z_V} {I : z_M} (k : JX1_mayGo Q 1 [a0, aR x, a2] (aR x :: st) I) : JX1_mayGo Q 0 [a0, aR x, a2] st I := g_aload_n (i := 1) (x := x) dX1_mayGo_0 rfl rfl k
theorem dX1_mayGo_1 : decode cX1_mayGo 1 = .ok (.iload_n 2, 1) := by decide +kernel
theorem X1_mayGo_1 {Q : Int → z_M → Prop} {a0 a1 : z_V} {x : Int} {st : List z_V} {I : z_M} (k : JX1_mayGo Q 2 [a0, a1, aI x] (aI x :: st) I) : JX1_mayGo Q 1 [a0, a1, aI x] st I := g_iload_n (i := 2) (x := x) dX1_mayGo_1 rfl rfl k
theorem dX1_mayGo_2 : decode cX1_mayGo 2 = .ok (.invokevirtual 7, 3) := by decide +kernel
theorem X1_mayGo_2 {Q : Int → z_M → Prop} {a0 a1 a2 : z_V} {b : Nat} {x0 : Int} {st : List z_V} {I : z_M} (hb : z_cl b = 4 := by first | assumption | rfl) (hst : z_sw st ≤ 8 := by exact Nat.le_of_ble_eq_true rfl) (k : CX4_isAnotherAway (aR b :: [aI x0]) I (fun x9 I9 => JX1_mayGo Q 5 [a0, a1, a2] (aI x9 :: st) I9)) : JX1_mayGo Q 2 [a0, a1, a2] (aI x0 :: aR b :: st) I := g_callV (C := RX4) (ci := 4) (As := [aI x0]) (n := 1) dX1_mayGo_2 ⟨m_21_2, pdX4_isAnotherAway, ⟨by decide, by decide⟩, rfl, rfl, by decide, by decide⟩ m_20_23 m_21_0 m_21_1 m_2_9 rfl hb (by decide) rfl rfl hst k (fun r I9 h => by obtain ⟨x9, rfl, h⟩ := h; exact h)
theorem dX1_mayGo_5 : decode cX1_mayGo 5 = .ok (.ireturn, 1) := by decide +kernel
theorem X1_mayGo_5 {Q : Int → z_M → Prop} {a0 a1 a2 : z_V} {x : Int} {I : z_M} (hx : x = 0 ∨ x = 1 := by omega) (hq : Q x I) : JX1_mayGo Q 5 [a0, a1, a2] [aI x] I := g_zreturn dX1_mayGo_5 hx ⟨x, rfl, hq⟩
theorem dX2_comesBack_0 : decode cX2_comesBack 0 = .ok (.aload_n 1, 1) := by decide +kernel
theorem X2_comesBack_0 {Q : Int → z_M → Prop} {a0 a2 : z_V} {x : Nat} {st : List z_V} {I : z_M} (k : JX2_comesBack Q 1 [a0, aR x, a2] (aR x :: st) I) : JX2_comesBack Q 0 [a0, aR x, a2] st I := g_aload_n (i := 1) (x := x) dX2_comesBack_0 rfl rfl k
theorem dX2_comesBack_1 : decode cX2_comesBack 1 = .ok (.getfield 7, 3) := by decide +kernel
theorem X2_comesBack_1 {Q : Int → z_M → Prop} {a0 a1 a2 : z_V} {b : Nat} {st : List z_V} {I : z_M} (hb : z_cl b = 4 := by first | assumption | rfl) (k : JX2_comesBack Q 4 [a0, a1, a2] (aR (b + 5) :: st) I) : JX2_comesBack Q 1 [a0, a1, a2] (aR b :: st) I := g_getr (ci := 4) (j := 8) (N := 13) (T := TX4) dX2_comesBack_1 hb rfl (by decide) (z_nc4 hb) inlX4 (by decide) m_23_0 rfl (z_rf4 hb rfl) k
theorem dX2_comesBack_4 : decode cX2_comesBack 4 = .ok (.iload_n 2, 1) := by decide +kernel
theorem X2_comesBack_4 {Q : Int → z_M → Prop} {a0 a1 : z_V} {x : Int} {st : List z_V} {I : z_M} (k : JX2_comesBack Q 5 [a0, a1, aI x] (aI x :: st) I) : JX2_comesBack Q 4 [a0, a1, aI x] st I := g_iload_n (i := 2) (x := x) dX2_comesBack_4 rfl rfl k
theorem dX2_comesBack_5 : decode cX2_comesBack 5 = .ok (.iaload, 1) := by decide +kernel
theorem X2_comesBack_5 {Q : Int → z_M → Prop} {a0 a1 a2 : z_V} {q : Nat} {i : Int} {st : List z_V} {I : z_M} (hk : z_cl q = 20 := by first | assumption | rfl) (h0 : 0 ≤ i := by omega) (h1 : i < z_n q := by first | omega | (simp only [zn_1, zn_9, zn_10, zn_11, zn_12, zn_13, zn_14, zn_15, zn_16, zn_18, zn_20, zn_21, zn_22, zn_23, zn_24, zn_25, zn_26, zn_27, zn_29, zn_30, zn_53, zn_55, zn_56, zn_58, zn_59, zn_61, zn_62, zn_63, zn_64, zn_65, zn_66, zn_67, zn_68, zn_69, zn_70, zn_71, zn_72, zn_73]; omega)) (k : JX2_comesBack Q 6 [a0, a1, a2] (aI (I q i.toNat) :: st) I) : JX2_comesBack Q 5 [a0, a1, a2] (aI i :: aR q :: st) I := g_iald dX2_comesBack_5 hk h0 h1 k
theorem dX2_comesBack_6 : decode cX2_comesBack 6 = .ok (.iconst 2, 1) := by decide +kernel
theorem X2_comesBack_6 {Q : Int → z_M → Prop} {a0 a1 a2 : z_V} {st : List z_V} {I : z_M} (k : JX2_comesBack Q 7 [a0, a1, a2] (aI 2 :: st) I) : JX2_comesBack Q 6 [a0, a1, a2] st I := g_iconst (n := 2) dX2_comesBack_6 (by decide) k
theorem dX2_comesBack_7 : decode cX2_comesBack 7 = .ok (.if_icmp .ge 12, 3) := by decide +kernel
theorem X2_comesBack_7 {Q : Int → z_M → Prop} {a0 a1 a2 : z_V} {x y : Int} {st : List z_V} {I : z_M} (kt : y ≤ x → JX2_comesBack Q 19 [a0, a1, a2] st I) (kf : x < y → JX2_comesBack Q 10 [a0, a1, a2] st I) : JX2_comesBack Q 7 [a0, a1, a2] (aI y :: aI x :: st) I := g_icmp_ge dX2_comesBack_7 (by decide) kt kf
theorem dX2_comesBack_10 : decode cX2_comesBack 10 = .ok (.aload_n 0, 1) := by decide +kernel
theorem X2_comesBack_10 {Q : Int → z_M → Prop} {a1 a2 : z_V} {x : Nat} {st : List z_V} {I : z_M} (k : JX2_comesBack Q 11 [aR x, a1, a2] (aR x :: st) I) : JX2_comesBack Q 10 [aR x, a1, a2] st I := g_aload_n (i := 0) (x := x) dX2_comesBack_10 rfl rfl k
theorem dX2_comesBack_11 : decode cX2_comesBack 11 = .ok (.aload_n 1, 1) := by decide +kernel
theorem X2_comesBack_11 {Q : Int → z_M → Prop} {a0 a2 : z_V} {x : Nat} {st : List z_V} {I : z_M} (k : JX2_comesBack Q 12 [a0, aR x, a2] (aR x :: st) I) : JX2_comesBack Q 11 [a0, aR x, a2] st I := g_aload_n (i := 1) (x := x) dX2_comesBack_11 rfl rfl k
theorem dX2_comesBack_12 : decode cX2_comesBack 12 = .ok (.iload_n 2, 1) := by decide +kernel
theorem X2_comesBack_12 {Q : Int → z_M → Prop} {a0 a1 : z_V} {x : Int} {st : List z_V} {I : z_M} (k : JX2_comesBack Q 13 [a0, a1, aI x] (aI x :: st) I) : JX2_comesBack Q 12 [a0, a1, aI x] st I := g_iload_n (i := 2) (x := x) dX2_comesBack_12 rfl rfl k
theorem dX2_comesBack_13 : decode cX2_comesBack 13 = .ok (.invokespecial 13, 3) := by decide +kernel
theorem X2_comesBack_13 {Q : Int → z_M → Prop} {a0 a1 a2 : z_V} {b : Nat} {x0 : Nat} {x1 : Int} {st : List z_V} {I : z_M} (hb : z_cl b = 2 := by first | assumption | rfl) (hst : z_sw st ≤ 8 := by exact Nat.le_of_ble_eq_true rfl) (k : CX6_comesBack (aR b :: [aR x0, aI x1]) I (fun x9 I9 => JX2_comesBack Q 16 [a0, a1, a2] (aI x9 :: st) I9)) : JX2_comesBack Q 13 [a0, a1, a2] (aI x1 :: aR x0 :: aR b :: st) I := g_callSU (ci := 2) (As := [aR x0, aI x1]) (n := 2) dX2_comesBack_13 ⟨m_22_17, pdX6_comesBack, ⟨by decide, by decide⟩, rfl, rfl, by decide, by decide⟩ m_23_1 m_22_8 m_23_2 m_22_16 m_1_14 (by decide) hb (by decide) rfl rfl hst k (fun r I9 h => by obtain ⟨x9, rfl, h⟩ := h; exact h)
theorem dX2_comesBack_16 : decode cX2_comesBack 16 = .ok (.ifCond .eq 7, 3) := by decide +kernel
theorem X2_comesBack_16 {Q : Int → z_M → Prop} {a0 a1 a2 : z_V} {x : Int} {st : List z_V} {I : z_M} (kt : x = 0 → JX2_comesBack Q 23 [a0, a1, a2] st I) (kf : x ≠ 0 → JX2_comesBack Q 19 [a0, a1, a2] st I) : JX2_comesBack Q 16 [a0, a1, a2] (aI x :: st) I := g_if_eq dX2_comesBack_16 (by decide) kt kf
theorem dX2_comesBack_19 : decode cX2_comesBack 19 = .ok (.iconst 1, 1) := by decide +kernel
theorem X2_comesBack_19 {Q : Int → z_M → Prop} {a0 a1 a2 : z_V} {st : List z_V} {I : z_M} (k : JX2_comesBack Q 20 [a0, a1, a2] (aI 1 :: st) I) : JX2_comesBack Q 19 [a0, a1, a2] st I := g_iconst (n := 1) dX2_comesBack_19 (by decide) k
theorem dX2_comesBack_20 : decode cX2_comesBack 20 = .ok (.goto 4, 3) := by decide +kernel
theorem X2_comesBack_20 {Q : Int → z_M → Prop} {a0 a1 a2 : z_V} {st : List z_V} {I : z_M} (k : JX2_comesBack Q 24 [a0, a1, a2] st I) : JX2_comesBack Q 20 [a0, a1, a2] st I := g_goto dX2_comesBack_20 (by decide) k
theorem dX2_comesBack_23 : decode cX2_comesBack 23 = .ok (.iconst 0, 1) := by decide +kernel
theorem X2_comesBack_23 {Q : Int → z_M → Prop} {a0 a1 a2 : z_V} {st : List z_V} {I : z_M} (k : JX2_comesBack Q 24 [a0, a1, a2] (aI 0 :: st) I) : JX2_comesBack Q 23 [a0, a1, a2] st I := g_iconst (n := 0) dX2_comesBack_23 (by decide) k
theorem dX2_comesBack_24 : decode cX2_comesBack 24 = .ok (.ireturn, 1) := by decide +kernel
theorem X2_comesBack_24 {Q : Int → z_M → Prop} {a0 a1 a2 : z_V} {x : Int} {I : z_M} (hx : x = 0 ∨ x = 1 := by omega) (hq : Q x I) : JX2_comesBack Q 24 [a0, a1, a2] [aI x] I := g_zreturn dX2_comesBack_24 hx ⟨x, rfl, hq⟩
theorem dX3_mayGo_0 : decode cX3_mayGo 0 = .ok (.aload_n 1, 1) := by decide +kernel
theorem X3_mayGo_0 {Q : Int → z_M → Prop} {a0 a2 : z_V} {x : Nat} {st : List z_V} {I : z_M} (k : JX3_mayGo Q 1 [a0, aR x, a2] (aR x :: st) I) : JX3_mayGo Q 0 [a0, aR x, a2] st I := g_aload_n (i := 1) (x := x) dX3_mayGo_0 rfl rfl k
theorem dX3_mayGo_1 : decode cX3_mayGo 1 = .ok (.invokevirtual 7, 3) := by decide +kernel
theorem X3_mayGo_1 {Q : Int → z_M → Prop} {a0 a1 a2 : z_V} {b : Nat}  {st : List z_V} {I : z_M} (hb : z_cl b = 4 := by first | assumption | rfl) (hst : z_sw st ≤ 8 := by exact Nat.le_of_ble_eq_true rfl) (k : CX4_isNight (aR b :: []) I (fun x9 I9 => JX3_mayGo Q 4 [a0, a1, a2] (aI x9 :: st) I9)) : JX3_mayGo Q 1 [a0, a1, a2] (aR b :: st) I := g_callV (C := RX4) (ci := 4) (As := []) (n := 0) dX3_mayGo_1 ⟨m_20_18, pdX4_isNight, ⟨by decide, by decide⟩, rfl, rfl, by decide, by decide⟩ m_21_8 m_20_16 m_20_17 m_2_9 rfl hb (by decide) rfl rfl hst k (fun r I9 h => by obtain ⟨x9, rfl, h⟩ := h; exact h)
theorem dX3_mayGo_4 : decode cX3_mayGo 4 = .ok (.ifCond .eq 16, 3) := by decide +kernel
theorem X3_mayGo_4 {Q : Int → z_M → Prop} {a0 a1 a2 : z_V} {x : Int} {st : List z_V} {I : z_M} (kt : x = 0 → JX3_mayGo Q 20 [a0, a1, a2] st I) (kf : x ≠ 0 → JX3_mayGo Q 7 [a0, a1, a2] st I) : JX3_mayGo Q 4 [a0, a1, a2] (aI x :: st) I := g_if_eq dX3_mayGo_4 (by decide) kt kf
theorem dX3_mayGo_7 : decode cX3_mayGo 7 = .ok (.aload_n 0, 1) := by decide +kernel
theorem X3_mayGo_7 {Q : Int → z_M → Prop} {a1 a2 : z_V} {x : Nat} {st : List z_V} {I : z_M} (k : JX3_mayGo Q 8 [aR x, a1, a2] (aR x :: st) I) : JX3_mayGo Q 7 [aR x, a1, a2] st I := g_aload_n (i := 0) (x := x) dX3_mayGo_7 rfl rfl k
theorem dX3_mayGo_8 : decode cX3_mayGo 8 = .ok (.aload_n 1, 1) := by decide +kernel
theorem X3_mayGo_8 {Q : Int → z_M → Prop} {a0 a2 : z_V} {x : Nat} {st : List z_V} {I : z_M} (k : JX3_mayGo Q 9 [a0, aR x, a2] (aR x :: st) I) : JX3_mayGo Q 8 [a0, aR x, a2] st I := g_aload_n (i := 1) (x := x) dX3_mayGo_8 rfl rfl k
theorem dX3_mayGo_9 : decode cX3_mayGo 9 = .ok (.iload_n 2, 1) := by decide +kernel
theorem X3_mayGo_9 {Q : Int → z_M → Prop} {a0 a1 : z_V} {x : Int} {st : List z_V} {I : z_M} (k : JX3_mayGo Q 10 [a0, a1, aI x] (aI x :: st) I) : JX3_mayGo Q 9 [a0, a1, aI x] st I := g_iload_n (i := 2) (x := x) dX3_mayGo_9 rfl rfl k
theorem dX3_mayGo_10 : decode cX3_mayGo 10 = .ok (.invokespecial 13, 3) := by decide +kernel
theorem X3_mayGo_10 {Q : Int → z_M → Prop} {a0 a1 a2 : z_V} {b : Nat} {x0 : Nat} {x1 : Int} {st : List z_V} {I : z_M} (hb : z_cl b = 3 := by first | assumption | rfl) (hst : z_sw st ≤ 8 := by exact Nat.le_of_ble_eq_true rfl) (k : CX1_mayGo (aR b :: [aR x0, aI x1]) I (fun x9 I9 => JX3_mayGo Q 13 [a0, a1, a2] (aI x9 :: st) I9)) : JX3_mayGo Q 10 [a0, a1, a2] (aI x1 :: aR x0 :: aR b :: st) I := g_callSU (ci := 3) (As := [aR x0, aI x1]) (n := 2) dX3_mayGo_10 ⟨m_20_22, pdX1_mayGo, ⟨by decide, by decide⟩, rfl, rfl, by decide, by decide⟩ m_21_9 m_21_10 m_21_11 m_20_21 m_1_20 (by decide) hb (by decide) rfl rfl hst k (fun r I9 h => by obtain ⟨x9, rfl, h⟩ := h; exact h)
theorem dX3_mayGo_13 : decode cX3_mayGo 13 = .ok (.ifCond .eq 7, 3) := by decide +kernel
theorem X3_mayGo_13 {Q : Int → z_M → Prop} {a0 a1 a2 : z_V} {x : Int} {st : List z_V} {I : z_M} (kt : x = 0 → JX3_mayGo Q 20 [a0, a1, a2] st I) (kf : x ≠ 0 → JX3_mayGo Q 16 [a0, a1, a2] st I) : JX3_mayGo Q 13 [a0, a1, a2] (aI x :: st) I := g_if_eq dX3_mayGo_13 (by decide) kt kf
theorem dX3_mayGo_16 : decode cX3_mayGo 16 = .ok (.iconst 1, 1) := by decide +kernel
theorem X3_mayGo_16 {Q : Int → z_M → Prop} {a0 a1 a2 : z_V} {st : List z_V} {I : z_M} (k : JX3_mayGo Q 17 [a0, a1, a2] (aI 1 :: st) I) : JX3_mayGo Q 16 [a0, a1, a2] st I := g_iconst (n := 1) dX3_mayGo_16 (by decide) k
theorem dX3_mayGo_17 : decode cX3_mayGo 17 = .ok (.goto 4, 3) := by decide +kernel
theorem X3_mayGo_17 {Q : Int → z_M → Prop} {a0 a1 a2 : z_V} {st : List z_V} {I : z_M} (k : JX3_mayGo Q 21 [a0, a1, a2] st I) : JX3_mayGo Q 17 [a0, a1, a2] st I := g_goto dX3_mayGo_17 (by decide) k
theorem dX3_mayGo_20 : decode cX3_mayGo 20 = .ok (.iconst 0, 1) := by decide +kernel
theorem X3_mayGo_20 {Q : Int → z_M → Prop} {a0 a1 a2 : z_V} {st : List z_V} {I : z_M} (k : JX3_mayGo Q 21 [a0, a1, a2] (aI 0 :: st) I) : JX3_mayGo Q 20 [a0, a1, a2] st I := g_iconst (n := 0) dX3_mayGo_20 (by decide) k
theorem dX3_mayGo_21 : decode cX3_mayGo 21 = .ok (.ireturn, 1) := by decide +kernel
theorem X3_mayGo_21 {Q : Int → z_M → Prop} {a0 a1 a2 : z_V} {x : Int} {I : z_M} (hx : x = 0 ∨ x = 1 := by omega) (hq : Q x I) : JX3_mayGo Q 21 [a0, a1, a2] [aI x] I := g_zreturn dX3_mayGo_21 hx ⟨x, rfl, hq⟩
theorem dX3_comesBack_0 : decode cX3_comesBack 0 = .ok (.iconst 0, 1) := by decide +kernel
theorem X3_comesBack_0 {Q : Int → z_M → Prop} {a0 a1 a2 : z_V} {st : List z_V} {I : z_M} (k : JX3_comesBack Q 1 [a0, a1, a2] (aI 0 :: st) I) : JX3_comesBack Q 0 [a0, a1, a2] st I := g_iconst (n := 0) dX3_comesBack_0 (by decide) k
theorem dX3_comesBack_1 : decode cX3_comesBack 1 = .ok (.ireturn, 1) := by decide +kernel
theorem X3_comesBack_1 {Q : Int → z_M → Prop} {a0 a1 a2 : z_V} {x : Int} {I : z_M} (hx : x = 0 ∨ x = 1 := by omega) (hq : Q x I) : JX3_comesBack Q 1 [a0, a1, a2] [aI x] I := g_zreturn dX3_comesBack_1 hx ⟨x, rfl, hq⟩
theorem dX5_reset_0 : decode cX5_reset 0 = .ok (.aload_n 0, 1) := by decide +kernel
theorem X5_reset_0 {Q : z_M → Prop}  {x : Nat} {st : List z_V} {I : z_M} (k : JX5_reset Q 1 [aR x] (aR x :: st) I) : JX5_reset Q 0 [aR x] st I := g_aload_n (i := 0) (x := x) dX5_reset_0 rfl rfl k
theorem dX5_reset_1 : decode cX5_reset 1 = .ok (.iconst 0, 1) := by decide +kernel
theorem X5_reset_1 {Q : z_M → Prop} {a0 : z_V} {st : List z_V} {I : z_M} (k : JX5_reset Q 2 [a0] (aI 0 :: st) I) : JX5_reset Q 1 [a0] st I := g_iconst (n := 0) dX5_reset_1 (by decide) k
theorem dX5_reset_2 : decode cX5_reset 2 = .ok (.putfield 15, 3) := by decide +kernel
theorem X5_reset_2 {Q : z_M → Prop} {a0 : z_V} {b : Nat} {x : Int} {st : List z_V} {I : z_M} (hb : z_cl b = 5 := by first | assumption | rfl) (k : JX5_reset Q 5 [a0] st (z_up I b 0 x)) : JX5_reset Q 2 [a0] (aI x :: aR b :: st) I := g_puti (ci := 5) (j := 0) (N := 3) (T := TX5) dX5_reset_2 hb rfl (by decide) (z_nc5 hb) inlX5 tyX5_ok nmX5 (by decide) m_6_12 rfl (tyX5_ok 0 (by decide)) rfl k
theorem dX5_reset_5 : decode cX5_reset 5 = .ok (.aload_n 0, 1) := by decide +kernel
theorem X5_reset_5 {Q : z_M → Prop}  {x : Nat} {st : List z_V} {I : z_M} (k : JX5_reset Q 6 [aR x] (aR x :: st) I) : JX5_reset Q 5 [aR x] st I := g_aload_n (i := 0) (x := x) dX5_reset_5 rfl rfl k
theorem dX5_reset_6 : decode cX5_reset 6 = .ok (.iconst 0, 1) := by decide +kernel
theorem X5_reset_6 {Q : z_M → Prop} {a0 : z_V} {st : List z_V} {I : z_M} (k : JX5_reset Q 7 [a0] (aI 0 :: st) I) : JX5_reset Q 6 [a0] st I := g_iconst (n := 0) dX5_reset_6 (by decide) k
theorem dX5_reset_7 : decode cX5_reset 7 = .ok (.putfield 19, 3) := by decide +kernel
theorem X5_reset_7 {Q : z_M → Prop} {a0 : z_V} {b : Nat} {x : Int} {st : List z_V} {I : z_M} (hb : z_cl b = 5 := by first | assumption | rfl) (k : JX5_reset Q 10 [a0] st (z_up I b 1 x)) : JX5_reset Q 7 [a0] (aI x :: aR b :: st) I := g_puti (ci := 5) (j := 1) (N := 3) (T := TX5) dX5_reset_7 hb rfl (by decide) (z_nc5 hb) inlX5 tyX5_ok nmX5 (by decide) m_6_13 rfl (tyX5_ok 1 (by decide)) rfl k
theorem dX5_reset_10 : decode cX5_reset 10 = .ok (.return_, 1) := by decide +kernel
theorem X5_reset_10 {Q : z_M → Prop} {a0 : z_V} {I : z_M} (hq : Q I) : JX5_reset Q 10 [a0] [] I := g_return dX5_reset_10 ⟨rfl, hq⟩
theorem dX5_takeOver_0 : decode cX5_takeOver 0 = .ok (.aload_n 0, 1) := by decide +kernel
theorem X5_takeOver_0 {Q : z_M → Prop} {a1 : z_V} {x : Nat} {st : List z_V} {I : z_M} (k : JX5_takeOver Q 1 [aR x, a1] (aR x :: st) I) : JX5_takeOver Q 0 [aR x, a1] st I := g_aload_n (i := 0) (x := x) dX5_takeOver_0 rfl rfl k
theorem dX5_takeOver_1 : decode cX5_takeOver 1 = .ok (.aload_n 1, 1) := by decide +kernel
theorem X5_takeOver_1 {Q : z_M → Prop} {a0 : z_V} {x : Nat} {st : List z_V} {I : z_M} (k : JX5_takeOver Q 2 [a0, aR x] (aR x :: st) I) : JX5_takeOver Q 1 [a0, aR x] st I := g_aload_n (i := 1) (x := x) dX5_takeOver_1 rfl rfl k
theorem dX5_takeOver_2 : decode cX5_takeOver 2 = .ok (.getfield 15, 3) := by decide +kernel
theorem X5_takeOver_2 {Q : z_M → Prop} {a0 a1 : z_V} {b : Nat} {st : List z_V} {I : z_M} (hb : z_cl b = 5 := by first | assumption | rfl) (k : JX5_takeOver Q 5 [a0, a1] (aI (I b 0) :: st) I) : JX5_takeOver Q 2 [a0, a1] (aR b :: st) I := g_geti (ci := 5) (j := 0) (N := 3) (T := TX5) dX5_takeOver_2 hb rfl (by decide) (z_nc5 hb) inlX5 (by decide) m_6_12 rfl k
theorem dX5_takeOver_5 : decode cX5_takeOver 5 = .ok (.putfield 15, 3) := by decide +kernel
theorem X5_takeOver_5 {Q : z_M → Prop} {a0 a1 : z_V} {b : Nat} {x : Int} {st : List z_V} {I : z_M} (hb : z_cl b = 5 := by first | assumption | rfl) (k : JX5_takeOver Q 8 [a0, a1] st (z_up I b 0 x)) : JX5_takeOver Q 5 [a0, a1] (aI x :: aR b :: st) I := g_puti (ci := 5) (j := 0) (N := 3) (T := TX5) dX5_takeOver_5 hb rfl (by decide) (z_nc5 hb) inlX5 tyX5_ok nmX5 (by decide) m_6_12 rfl (tyX5_ok 0 (by decide)) rfl k
theorem dX5_takeOver_8 : decode cX5_takeOver 8 = .ok (.aload_n 0, 1) := by decide +kernel
theorem X5_takeOver_8 {Q : z_M → Prop} {a1 : z_V} {x : Nat} {st : List z_V} {I : z_M} (k : JX5_takeOver Q 9 [aR x, a1] (aR x :: st) I) : JX5_takeOver Q 8 [aR x, a1] st I := g_aload_n (i := 0) (x := x) dX5_takeOver_8 rfl rfl k
theorem dX5_takeOver_9 : decode cX5_takeOver 9 = .ok (.aload_n 1, 1) := by decide +kernel
theorem X5_takeOver_9 {Q : z_M → Prop} {a0 : z_V} {x : Nat} {st : List z_V} {I : z_M} (k : JX5_takeOver Q 10 [a0, aR x] (aR x :: st) I) : JX5_takeOver Q 9 [a0, aR x] st I := g_aload_n (i := 1) (x := x) dX5_takeOver_9 rfl rfl k
theorem dX5_takeOver_10 : decode cX5_takeOver 10 = .ok (.getfield 19, 3) := by decide +kernel
theorem X5_takeOver_10 {Q : z_M → Prop} {a0 a1 : z_V} {b : Nat} {st : List z_V} {I : z_M} (hb : z_cl b = 5 := by first | assumption | rfl) (k : JX5_takeOver Q 13 [a0, a1] (aI (I b 1) :: st) I) : JX5_takeOver Q 10 [a0, a1] (aR b :: st) I := g_geti (ci := 5) (j := 1) (N := 3) (T := TX5) dX5_takeOver_10 hb rfl (by decide) (z_nc5 hb) inlX5 (by decide) m_6_13 rfl k
theorem dX5_takeOver_13 : decode cX5_takeOver 13 = .ok (.putfield 19, 3) := by decide +kernel
theorem X5_takeOver_13 {Q : z_M → Prop} {a0 a1 : z_V} {b : Nat} {x : Int} {st : List z_V} {I : z_M} (hb : z_cl b = 5 := by first | assumption | rfl) (k : JX5_takeOver Q 16 [a0, a1] st (z_up I b 1 x)) : JX5_takeOver Q 13 [a0, a1] (aI x :: aR b :: st) I := g_puti (ci := 5) (j := 1) (N := 3) (T := TX5) dX5_takeOver_13 hb rfl (by decide) (z_nc5 hb) inlX5 tyX5_ok nmX5 (by decide) m_6_13 rfl (tyX5_ok 1 (by decide)) rfl k
theorem dX5_takeOver_16 : decode cX5_takeOver 16 = .ok (.aload_n 1, 1) := by decide +kernel
theorem X5_takeOver_16 {Q : z_M → Prop} {a0 : z_V} {x : Nat} {st : List z_V} {I : z_M} (k : JX5_takeOver Q 17 [a0, aR x] (aR x :: st) I) : JX5_takeOver Q 16 [a0, aR x] st I := g_aload_n (i := 1) (x := x) dX5_takeOver_16 rfl rfl k
theorem dX5_takeOver_17 : decode cX5_takeOver 17 = .ok (.getfield 9, 3) := by decide +kernel
theorem X5_takeOver_17 {Q : z_M → Prop} {a0 a1 : z_V} {b : Nat} {st : List z_V} {I : z_M} (hb : z_cl b = 5 := by first | assumption | rfl) (k : JX5_takeOver Q 20 [a0, a1] (aR (b + 1) :: st) I) : JX5_takeOver Q 17 [a0, a1] (aR b :: st) I := g_getr (ci := 5) (j := 2) (N := 3) (T := TX5) dX5_takeOver_17 hb rfl (by decide) (z_nc5 hb) inlX5 (by decide) m_4_10 rfl (z_rf5 hb rfl) k
theorem dX5_takeOver_20 : decode cX5_takeOver 20 = .ok (.iconst 0, 1) := by decide +kernel
theorem X5_takeOver_20 {Q : z_M → Prop} {a0 a1 : z_V} {st : List z_V} {I : z_M} (k : JX5_takeOver Q 21 [a0, a1] (aI 0 :: st) I) : JX5_takeOver Q 20 [a0, a1] st I := g_iconst (n := 0) dX5_takeOver_20 (by decide) k
theorem dX5_takeOver_21 : decode cX5_takeOver 21 = .ok (.aload_n 0, 1) := by decide +kernel
theorem X5_takeOver_21 {Q : z_M → Prop} {a1 : z_V} {x : Nat} {st : List z_V} {I : z_M} (k : JX5_takeOver Q 22 [aR x, a1] (aR x :: st) I) : JX5_takeOver Q 21 [aR x, a1] st I := g_aload_n (i := 0) (x := x) dX5_takeOver_21 rfl rfl k
theorem dX5_takeOver_22 : decode cX5_takeOver 22 = .ok (.getfield 9, 3) := by decide +kernel
theorem X5_takeOver_22 {Q : z_M → Prop} {a0 a1 : z_V} {b : Nat} {st : List z_V} {I : z_M} (hb : z_cl b = 5 := by first | assumption | rfl) (k : JX5_takeOver Q 25 [a0, a1] (aR (b + 1) :: st) I) : JX5_takeOver Q 22 [a0, a1] (aR b :: st) I := g_getr (ci := 5) (j := 2) (N := 3) (T := TX5) dX5_takeOver_22 hb rfl (by decide) (z_nc5 hb) inlX5 (by decide) m_4_10 rfl (z_rf5 hb rfl) k
theorem dX5_takeOver_25 : decode cX5_takeOver 25 = .ok (.iconst 0, 1) := by decide +kernel
theorem X5_takeOver_25 {Q : z_M → Prop} {a0 a1 : z_V} {st : List z_V} {I : z_M} (k : JX5_takeOver Q 26 [a0, a1] (aI 0 :: st) I) : JX5_takeOver Q 25 [a0, a1] st I := g_iconst (n := 0) dX5_takeOver_25 (by decide) k
theorem dX5_takeOver_26 : decode cX5_takeOver 26 = .ok (.sipush 136, 3) := by decide +kernel
theorem X5_takeOver_26 {Q : z_M → Prop} {a0 a1 : z_V} {st : List z_V} {I : z_M} (k : JX5_takeOver Q 29 [a0, a1] (aI 136 :: st) I) : JX5_takeOver Q 26 [a0, a1] st I := g_sipush (n := 136) dX5_takeOver_26 (by decide +kernel) (by decide) k
theorem dX5_takeOver_29 : decode cX5_takeOver 29 = .ok (.invokestatic 22, 3) := by decide +kernel
theorem X5_takeOver_29 {Q : z_M → Prop} {a0 a1 : z_V} {k0 k1 : Nat} {sp dp n9 : Int} {st : List z_V} {I : z_M} (hk0 : z_cl k0 = 20 := by first | assumption | rfl) (hk1 : z_cl k1 = 20 := by first | assumption | rfl) (p0 : 0 ≤ sp := by omega) (p1 : 0 ≤ dp := by omega) (p2 : 0 ≤ n9 := by omega) (h4 : sp + n9 ≤ z_n k0 := by first | omega | (simp only [zn_1, zn_9, zn_10, zn_11, zn_12, zn_13, zn_14, zn_15, zn_16, zn_18, zn_20, zn_21, zn_22, zn_23, zn_24, zn_25, zn_26, zn_27, zn_29, zn_30, zn_53, zn_55, zn_56, zn_58, zn_59, zn_61, zn_62, zn_63, zn_64, zn_65, zn_66, zn_67, zn_68, zn_69, zn_70, zn_71, zn_72, zn_73]; omega)) (h5 : dp + n9 ≤ z_n k1 := by first | omega | (simp only [zn_1, zn_9, zn_10, zn_11, zn_12, zn_13, zn_14, zn_15, zn_16, zn_18, zn_20, zn_21, zn_22, zn_23, zn_24, zn_25, zn_26, zn_27, zn_29, zn_30, zn_53, zn_55, zn_56, zn_58, zn_59, zn_61, zn_62, zn_63, zn_64, zn_65, zn_66, zn_67, zn_68, zn_69, zn_70, zn_71, zn_72, zn_73]; omega)) (hst : z_sw st = 0 := by rfl) (k : JX5_takeOver Q 32 [a0, a1] st (z_cp I k0 k1 sp.toNat dp.toNat n9.toNat)) : JX5_takeOver Q 29 [a0, a1] (aI n9 :: aI dp :: aR k1 :: aI sp :: aR k0 :: st) I := by
  obtain ⟨sp, rfl⟩ := z_nat p0
  obtain ⟨dp, rfl⟩ := z_nat p1
  obtain ⟨n9, rfl⟩ := z_nat p2
  exact g_copy dX5_takeOver_29 m_17_11 m_17_0 m_17_1 m_17_2 hk0 hk1 (by omega) (by omega) (by decide) (by show z_sw st + (5 + 2 + 11) ≤ _; rw [hst]; decide) k
theorem dX5_takeOver_32 : decode cX5_takeOver 32 = .ok (.return_, 1) := by decide +kernel
theorem X5_takeOver_32 {Q : z_M → Prop} {a0 a1 : z_V} {I : z_M} (hq : Q I) : JX5_takeOver Q 32 [a0, a1] [] I := g_return dX5_takeOver_32 ⟨rfl, hq⟩
theorem dX5_keep_0 : decode cX5_keep 0 = .ok (.aload_n 0, 1) := by decide +kernel
theorem X5_keep_0 {Q : z_M → Prop} {a1 a2 : z_V} {x : Nat} {st : List z_V} {I : z_M} (k : JX5_keep Q 1 [aR x, a1, a2] (aR x :: st) I) : JX5_keep Q 0 [aR x, a1, a2] st I := g_aload_n (i := 0) (x := x) dX5_keep_0 rfl rfl k
theorem dX5_keep_1 : decode cX5_keep 1 = .ok (.getfield 15, 3) := by decide +kernel
theorem X5_keep_1 {Q : z_M → Prop} {a0 a1 a2 : z_V} {b : Nat} {st : List z_V} {I : z_M} (hb : z_cl b = 5 := by first | assumption | rfl) (k : JX5_keep Q 4 [a0, a1, a2] (aI (I b 0) :: st) I) : JX5_keep Q 1 [a0, a1, a2] (aR b :: st) I := g_geti (ci := 5) (j := 0) (N := 3) (T := TX5) dX5_keep_1 hb rfl (by decide) (z_nc5 hb) inlX5 (by decide) m_6_12 rfl k
theorem dX5_keep_4 : decode cX5_keep 4 = .ok (.bipush 8, 2) := by decide +kernel
theorem X5_keep_4 {Q : z_M → Prop} {a0 a1 a2 : z_V} {st : List z_V} {I : z_M} (k : JX5_keep Q 6 [a0, a1, a2] (aI 8 :: st) I) : JX5_keep Q 4 [a0, a1, a2] st I := g_bipush (n := 8) dX5_keep_4 (by decide +kernel) (by decide) k
theorem dX5_keep_6 : decode cX5_keep 6 = .ok (.if_icmp .ne 26, 3) := by decide +kernel
theorem X5_keep_6 {Q : z_M → Prop} {a0 a1 a2 : z_V} {x y : Int} {st : List z_V} {I : z_M} (kt : x ≠ y → JX5_keep Q 32 [a0, a1, a2] st I) (kf : x = y → JX5_keep Q 9 [a0, a1, a2] st I) : JX5_keep Q 6 [a0, a1, a2] (aI y :: aI x :: st) I := g_icmp_ne dX5_keep_6 (by decide) kt kf
theorem dX5_keep_9 : decode cX5_keep 9 = .ok (.aload_n 0, 1) := by decide +kernel
theorem X5_keep_9 {Q : z_M → Prop} {a1 a2 : z_V} {x : Nat} {st : List z_V} {I : z_M} (k : JX5_keep Q 10 [aR x, a1, a2] (aR x :: st) I) : JX5_keep Q 9 [aR x, a1, a2] st I := g_aload_n (i := 0) (x := x) dX5_keep_9 rfl rfl k
theorem dX5_keep_10 : decode cX5_keep 10 = .ok (.aload_n 0, 1) := by decide +kernel
theorem X5_keep_10 {Q : z_M → Prop} {a1 a2 : z_V} {x : Nat} {st : List z_V} {I : z_M} (k : JX5_keep Q 11 [aR x, a1, a2] (aR x :: st) I) : JX5_keep Q 10 [aR x, a1, a2] st I := g_aload_n (i := 0) (x := x) dX5_keep_10 rfl rfl k
theorem dX5_keep_11 : decode cX5_keep 11 = .ok (.getfield 19, 3) := by decide +kernel
theorem X5_keep_11 {Q : z_M → Prop} {a0 a1 a2 : z_V} {b : Nat} {st : List z_V} {I : z_M} (hb : z_cl b = 5 := by first | assumption | rfl) (k : JX5_keep Q 14 [a0, a1, a2] (aI (I b 1) :: st) I) : JX5_keep Q 11 [a0, a1, a2] (aR b :: st) I := g_geti (ci := 5) (j := 1) (N := 3) (T := TX5) dX5_keep_11 hb rfl (by decide) (z_nc5 hb) inlX5 (by decide) m_6_13 rfl k
theorem dX5_keep_14 : decode cX5_keep 14 = .ok (.iconst 1, 1) := by decide +kernel
theorem X5_keep_14 {Q : z_M → Prop} {a0 a1 a2 : z_V} {st : List z_V} {I : z_M} (k : JX5_keep Q 15 [a0, a1, a2] (aI 1 :: st) I) : JX5_keep Q 14 [a0, a1, a2] st I := g_iconst (n := 1) dX5_keep_14 (by decide) k
theorem dX5_keep_15 : decode cX5_keep 15 = .ok (.iadd, 1) := by decide +kernel
theorem X5_keep_15 {Q : z_M → Prop} {a0 a1 a2 : z_V} {x y : Int} {st : List z_V} {I : z_M} (hr : inI (x + y) := by omega) (k : JX5_keep Q 16 [a0, a1, a2] (aI (x + y) :: st) I) : JX5_keep Q 15 [a0, a1, a2] (aI y :: aI x :: st) I := g_iadd dX5_keep_15 hr k
theorem X5_keep_15w {Q : z_M → Prop} {a0 a1 a2 : z_V} {x y : Int} {st : List z_V} {I : z_M} (k : JX5_keep Q 16 [a0, a1, a2] (aI (i32 (x + y)) :: st) I) : JX5_keep Q 15 [a0, a1, a2] (aI y :: aI x :: st) I := g_iaddw dX5_keep_15 k
theorem dX5_keep_16 : decode cX5_keep 16 = .ok (.bipush 8, 2) := by decide +kernel
theorem X5_keep_16 {Q : z_M → Prop} {a0 a1 a2 : z_V} {st : List z_V} {I : z_M} (k : JX5_keep Q 18 [a0, a1, a2] (aI 8 :: st) I) : JX5_keep Q 16 [a0, a1, a2] st I := g_bipush (n := 8) dX5_keep_16 (by decide +kernel) (by decide) k
theorem dX5_keep_18 : decode cX5_keep 18 = .ok (.irem, 1) := by decide +kernel
theorem X5_keep_18 {Q : z_M → Prop} {a0 a1 a2 : z_V} {x y : Int} {st : List z_V} {I : z_M} (hy : y ≠ 0 := by omega) (k : JX5_keep Q 19 [a0, a1, a2] (aI (x.tmod y) :: st) I) : JX5_keep Q 18 [a0, a1, a2] (aI y :: aI x :: st) I := g_irem dX5_keep_18 hy k
theorem dX5_keep_19 : decode cX5_keep 19 = .ok (.putfield 19, 3) := by decide +kernel
theorem X5_keep_19 {Q : z_M → Prop} {a0 a1 a2 : z_V} {b : Nat} {x : Int} {st : List z_V} {I : z_M} (hb : z_cl b = 5 := by first | assumption | rfl) (k : JX5_keep Q 22 [a0, a1, a2] st (z_up I b 1 x)) : JX5_keep Q 19 [a0, a1, a2] (aI x :: aR b :: st) I := g_puti (ci := 5) (j := 1) (N := 3) (T := TX5) dX5_keep_19 hb rfl (by decide) (z_nc5 hb) inlX5 tyX5_ok nmX5 (by decide) m_6_13 rfl (tyX5_ok 1 (by decide)) rfl k
theorem dX5_keep_22 : decode cX5_keep 22 = .ok (.aload_n 0, 1) := by decide +kernel
theorem X5_keep_22 {Q : z_M → Prop} {a1 a2 : z_V} {x : Nat} {st : List z_V} {I : z_M} (k : JX5_keep Q 23 [aR x, a1, a2] (aR x :: st) I) : JX5_keep Q 22 [aR x, a1, a2] st I := g_aload_n (i := 0) (x := x) dX5_keep_22 rfl rfl k
theorem dX5_keep_23 : decode cX5_keep 23 = .ok (.dup, 1) := by decide +kernel
theorem X5_keep_23 {Q : z_M → Prop} {a0 a1 a2 : z_V} {x : z_V} {st : List z_V} {I : z_M} (hx : ∀ z, x ≠ aL z := by intro z q; cases q) (k : JX5_keep Q 24 [a0, a1, a2] (x :: x :: st) I) : JX5_keep Q 23 [a0, a1, a2] (x :: st) I := g_dup dX5_keep_23 hx k
theorem dX5_keep_24 : decode cX5_keep 24 = .ok (.getfield 15, 3) := by decide +kernel
theorem X5_keep_24 {Q : z_M → Prop} {a0 a1 a2 : z_V} {b : Nat} {st : List z_V} {I : z_M} (hb : z_cl b = 5 := by first | assumption | rfl) (k : JX5_keep Q 27 [a0, a1, a2] (aI (I b 0) :: st) I) : JX5_keep Q 24 [a0, a1, a2] (aR b :: st) I := g_geti (ci := 5) (j := 0) (N := 3) (T := TX5) dX5_keep_24 hb rfl (by decide) (z_nc5 hb) inlX5 (by decide) m_6_12 rfl k
theorem dX5_keep_27 : decode cX5_keep 27 = .ok (.iconst 1, 1) := by decide +kernel
theorem X5_keep_27 {Q : z_M → Prop} {a0 a1 a2 : z_V} {st : List z_V} {I : z_M} (k : JX5_keep Q 28 [a0, a1, a2] (aI 1 :: st) I) : JX5_keep Q 27 [a0, a1, a2] st I := g_iconst (n := 1) dX5_keep_27 (by decide) k
theorem dX5_keep_28 : decode cX5_keep 28 = .ok (.isub, 1) := by decide +kernel
theorem X5_keep_28 {Q : z_M → Prop} {a0 a1 a2 : z_V} {x y : Int} {st : List z_V} {I : z_M} (hr : inI (x - y) := by omega) (k : JX5_keep Q 29 [a0, a1, a2] (aI (x - y) :: st) I) : JX5_keep Q 28 [a0, a1, a2] (aI y :: aI x :: st) I := g_isub dX5_keep_28 hr k
theorem X5_keep_28w {Q : z_M → Prop} {a0 a1 a2 : z_V} {x y : Int} {st : List z_V} {I : z_M} (k : JX5_keep Q 29 [a0, a1, a2] (aI (i32 (x - y)) :: st) I) : JX5_keep Q 28 [a0, a1, a2] (aI y :: aI x :: st) I := g_isubw dX5_keep_28 k
theorem dX5_keep_29 : decode cX5_keep 29 = .ok (.putfield 15, 3) := by decide +kernel
theorem X5_keep_29 {Q : z_M → Prop} {a0 a1 a2 : z_V} {b : Nat} {x : Int} {st : List z_V} {I : z_M} (hb : z_cl b = 5 := by first | assumption | rfl) (k : JX5_keep Q 32 [a0, a1, a2] st (z_up I b 0 x)) : JX5_keep Q 29 [a0, a1, a2] (aI x :: aR b :: st) I := g_puti (ci := 5) (j := 0) (N := 3) (T := TX5) dX5_keep_29 hb rfl (by decide) (z_nc5 hb) inlX5 tyX5_ok nmX5 (by decide) m_6_12 rfl (tyX5_ok 0 (by decide)) rfl k
theorem dX5_keep_32 : decode cX5_keep 32 = .ok (.aload_n 0, 1) := by decide +kernel
theorem X5_keep_32 {Q : z_M → Prop} {a1 a2 : z_V} {x : Nat} {st : List z_V} {I : z_M} (k : JX5_keep Q 33 [aR x, a1, a2] (aR x :: st) I) : JX5_keep Q 32 [aR x, a1, a2] st I := g_aload_n (i := 0) (x := x) dX5_keep_32 rfl rfl k
theorem dX5_keep_33 : decode cX5_keep 33 = .ok (.getfield 19, 3) := by decide +kernel
theorem X5_keep_33 {Q : z_M → Prop} {a0 a1 a2 : z_V} {b : Nat} {st : List z_V} {I : z_M} (hb : z_cl b = 5 := by first | assumption | rfl) (k : JX5_keep Q 36 [a0, a1, a2] (aI (I b 1) :: st) I) : JX5_keep Q 33 [a0, a1, a2] (aR b :: st) I := g_geti (ci := 5) (j := 1) (N := 3) (T := TX5) dX5_keep_33 hb rfl (by decide) (z_nc5 hb) inlX5 (by decide) m_6_13 rfl k
theorem dX5_keep_36 : decode cX5_keep 36 = .ok (.aload_n 0, 1) := by decide +kernel
theorem X5_keep_36 {Q : z_M → Prop} {a1 a2 : z_V} {x : Nat} {st : List z_V} {I : z_M} (k : JX5_keep Q 37 [aR x, a1, a2] (aR x :: st) I) : JX5_keep Q 36 [aR x, a1, a2] st I := g_aload_n (i := 0) (x := x) dX5_keep_36 rfl rfl k
theorem dX5_keep_37 : decode cX5_keep 37 = .ok (.getfield 15, 3) := by decide +kernel
theorem X5_keep_37 {Q : z_M → Prop} {a0 a1 a2 : z_V} {b : Nat} {st : List z_V} {I : z_M} (hb : z_cl b = 5 := by first | assumption | rfl) (k : JX5_keep Q 40 [a0, a1, a2] (aI (I b 0) :: st) I) : JX5_keep Q 37 [a0, a1, a2] (aR b :: st) I := g_geti (ci := 5) (j := 0) (N := 3) (T := TX5) dX5_keep_37 hb rfl (by decide) (z_nc5 hb) inlX5 (by decide) m_6_12 rfl k
theorem dX5_keep_40 : decode cX5_keep 40 = .ok (.iadd, 1) := by decide +kernel
theorem X5_keep_40 {Q : z_M → Prop} {a0 a1 a2 : z_V} {x y : Int} {st : List z_V} {I : z_M} (hr : inI (x + y) := by omega) (k : JX5_keep Q 41 [a0, a1, a2] (aI (x + y) :: st) I) : JX5_keep Q 40 [a0, a1, a2] (aI y :: aI x :: st) I := g_iadd dX5_keep_40 hr k
theorem X5_keep_40w {Q : z_M → Prop} {a0 a1 a2 : z_V} {x y : Int} {st : List z_V} {I : z_M} (k : JX5_keep Q 41 [a0, a1, a2] (aI (i32 (x + y)) :: st) I) : JX5_keep Q 40 [a0, a1, a2] (aI y :: aI x :: st) I := g_iaddw dX5_keep_40 k
theorem dX5_keep_41 : decode cX5_keep 41 = .ok (.bipush 8, 2) := by decide +kernel
theorem X5_keep_41 {Q : z_M → Prop} {a0 a1 a2 : z_V} {st : List z_V} {I : z_M} (k : JX5_keep Q 43 [a0, a1, a2] (aI 8 :: st) I) : JX5_keep Q 41 [a0, a1, a2] st I := g_bipush (n := 8) dX5_keep_41 (by decide +kernel) (by decide) k
theorem dX5_keep_43 : decode cX5_keep 43 = .ok (.irem, 1) := by decide +kernel
theorem X5_keep_43 {Q : z_M → Prop} {a0 a1 a2 : z_V} {x y : Int} {st : List z_V} {I : z_M} (hy : y ≠ 0 := by omega) (k : JX5_keep Q 44 [a0, a1, a2] (aI (x.tmod y) :: st) I) : JX5_keep Q 43 [a0, a1, a2] (aI y :: aI x :: st) I := g_irem dX5_keep_43 hy k
theorem dX5_keep_44 : decode cX5_keep 44 = .ok (.bipush 17, 2) := by decide +kernel
theorem X5_keep_44 {Q : z_M → Prop} {a0 a1 a2 : z_V} {st : List z_V} {I : z_M} (k : JX5_keep Q 46 [a0, a1, a2] (aI 17 :: st) I) : JX5_keep Q 44 [a0, a1, a2] st I := g_bipush (n := 17) dX5_keep_44 (by decide +kernel) (by decide) k
theorem dX5_keep_46 : decode cX5_keep 46 = .ok (.imul, 1) := by decide +kernel
theorem X5_keep_46 {Q : z_M → Prop} {a0 a1 a2 : z_V} {x y : Int} {st : List z_V} {I : z_M} (hr : inI (x * y) := by omega) (k : JX5_keep Q 47 [a0, a1, a2] (aI (x * y) :: st) I) : JX5_keep Q 46 [a0, a1, a2] (aI y :: aI x :: st) I := g_imul dX5_keep_46 hr k
theorem X5_keep_46w {Q : z_M → Prop} {a0 a1 a2 : z_V} {x y : Int} {st : List z_V} {I : z_M} (k : JX5_keep Q 47 [a0, a1, a2] (aI (i32 (x * y)) :: st) I) : JX5_keep Q 46 [a0, a1, a2] (aI y :: aI x :: st) I := g_imulw dX5_keep_46 k
theorem dX5_keep_47 : decode cX5_keep 47 = .ok (.istore_n 2, 1) := by decide +kernel
theorem X5_keep_47 {Q : z_M → Prop} {a0 a1 a2 : z_V} {x : Int} {st : List z_V} {I : z_M} (hb : z_nl [a0, a1, a2] 2 = true := by rfl) (k : JX5_keep Q 48 [a0, a1, aI x] st I) : JX5_keep Q 47 [a0, a1, a2] (aI x :: st) I := g_istore_n (i := 2) (x := x) dX5_keep_47 rfl (show 2 < 3 from by decide) hb k
theorem dX5_keep_48 : decode cX5_keep 48 = .ok (.aload_n 0, 1) := by decide +kernel
theorem X5_keep_48 {Q : z_M → Prop} {a1 a2 : z_V} {x : Nat} {st : List z_V} {I : z_M} (k : JX5_keep Q 49 [aR x, a1, a2] (aR x :: st) I) : JX5_keep Q 48 [aR x, a1, a2] st I := g_aload_n (i := 0) (x := x) dX5_keep_48 rfl rfl k
theorem dX5_keep_49 : decode cX5_keep 49 = .ok (.getfield 9, 3) := by decide +kernel
theorem X5_keep_49 {Q : z_M → Prop} {a0 a1 a2 : z_V} {b : Nat} {st : List z_V} {I : z_M} (hb : z_cl b = 5 := by first | assumption | rfl) (k : JX5_keep Q 52 [a0, a1, a2] (aR (b + 1) :: st) I) : JX5_keep Q 49 [a0, a1, a2] (aR b :: st) I := g_getr (ci := 5) (j := 2) (N := 3) (T := TX5) dX5_keep_49 hb rfl (by decide) (z_nc5 hb) inlX5 (by decide) m_4_10 rfl (z_rf5 hb rfl) k
theorem dX5_keep_52 : decode cX5_keep 52 = .ok (.iload_n 2, 1) := by decide +kernel
theorem X5_keep_52 {Q : z_M → Prop} {a0 a1 : z_V} {x : Int} {st : List z_V} {I : z_M} (k : JX5_keep Q 53 [a0, a1, aI x] (aI x :: st) I) : JX5_keep Q 52 [a0, a1, aI x] st I := g_iload_n (i := 2) (x := x) dX5_keep_52 rfl rfl k
theorem dX5_keep_53 : decode cX5_keep 53 = .ok (.aload_n 1, 1) := by decide +kernel
theorem X5_keep_53 {Q : z_M → Prop} {a0 a2 : z_V} {x : Nat} {st : List z_V} {I : z_M} (k : JX5_keep Q 54 [a0, aR x, a2] (aR x :: st) I) : JX5_keep Q 53 [a0, aR x, a2] st I := g_aload_n (i := 1) (x := x) dX5_keep_53 rfl rfl k
theorem dX5_keep_54 : decode cX5_keep 54 = .ok (.getfield 28, 3) := by decide +kernel
theorem X5_keep_54 {Q : z_M → Prop} {a0 a1 a2 : z_V} {b : Nat} {st : List z_V} {I : z_M} (hb : z_cl b = 4 := by first | assumption | rfl) (k : JX5_keep Q 57 [a0, a1, a2] (aI (I b 0) :: st) I) : JX5_keep Q 54 [a0, a1, a2] (aR b :: st) I := g_geti (ci := 4) (j := 0) (N := 13) (T := TX4) dX5_keep_54 hb rfl (by decide) (z_nc4 hb) inlX4 (by decide) m_19_22 rfl k
theorem dX5_keep_57 : decode cX5_keep 57 = .ok (.iastore, 1) := by decide +kernel
theorem X5_keep_57 {Q : z_M → Prop} {a0 a1 a2 : z_V} {q : Nat} {i x : Int} {st : List z_V} {I : z_M} (hk : z_cl q = 20 := by first | assumption | rfl) (h0 : 0 ≤ i := by omega) (h1 : i < z_n q := by first | omega | (simp only [zn_1, zn_9, zn_10, zn_11, zn_12, zn_13, zn_14, zn_15, zn_16, zn_18, zn_20, zn_21, zn_22, zn_23, zn_24, zn_25, zn_26, zn_27, zn_29, zn_30, zn_53, zn_55, zn_56, zn_58, zn_59, zn_61, zn_62, zn_63, zn_64, zn_65, zn_66, zn_67, zn_68, zn_69, zn_70, zn_71, zn_72, zn_73]; omega))  (k : JX5_keep Q 58 [a0, a1, a2] st (z_up I q i.toNat x)) : JX5_keep Q 57 [a0, a1, a2] (aI x :: aI i :: aR q :: st) I := g_iast dX5_keep_57 hk h0 h1 k
theorem dX5_keep_58 : decode cX5_keep 58 = .ok (.aload_n 1, 1) := by decide +kernel
theorem X5_keep_58 {Q : z_M → Prop} {a0 a2 : z_V} {x : Nat} {st : List z_V} {I : z_M} (k : JX5_keep Q 59 [a0, aR x, a2] (aR x :: st) I) : JX5_keep Q 58 [a0, aR x, a2] st I := g_aload_n (i := 1) (x := x) dX5_keep_58 rfl rfl k
theorem dX5_keep_59 : decode cX5_keep 59 = .ok (.getfield 33, 3) := by decide +kernel
theorem X5_keep_59 {Q : z_M → Prop} {a0 a1 a2 : z_V} {b : Nat} {st : List z_V} {I : z_M} (hb : z_cl b = 4 := by first | assumption | rfl) (k : JX5_keep Q 62 [a0, a1, a2] (aR (b + 4) :: st) I) : JX5_keep Q 59 [a0, a1, a2] (aR b :: st) I := g_getr (ci := 4) (j := 7) (N := 13) (T := TX4) dX5_keep_59 hb rfl (by decide) (z_nc4 hb) inlX4 (by decide) m_19_23 rfl (z_rf4 hb rfl) k
theorem dX5_keep_62 : decode cX5_keep 62 = .ok (.iconst 0, 1) := by decide +kernel
theorem X5_keep_62 {Q : z_M → Prop} {a0 a1 a2 : z_V} {st : List z_V} {I : z_M} (k : JX5_keep Q 63 [a0, a1, a2] (aI 0 :: st) I) : JX5_keep Q 62 [a0, a1, a2] st I := g_iconst (n := 0) dX5_keep_62 (by decide) k
theorem dX5_keep_63 : decode cX5_keep 63 = .ok (.aload_n 0, 1) := by decide +kernel
theorem X5_keep_63 {Q : z_M → Prop} {a1 a2 : z_V} {x : Nat} {st : List z_V} {I : z_M} (k : JX5_keep Q 64 [aR x, a1, a2] (aR x :: st) I) : JX5_keep Q 63 [aR x, a1, a2] st I := g_aload_n (i := 0) (x := x) dX5_keep_63 rfl rfl k
theorem dX5_keep_64 : decode cX5_keep 64 = .ok (.getfield 9, 3) := by decide +kernel
theorem X5_keep_64 {Q : z_M → Prop} {a0 a1 a2 : z_V} {b : Nat} {st : List z_V} {I : z_M} (hb : z_cl b = 5 := by first | assumption | rfl) (k : JX5_keep Q 67 [a0, a1, a2] (aR (b + 1) :: st) I) : JX5_keep Q 64 [a0, a1, a2] (aR b :: st) I := g_getr (ci := 5) (j := 2) (N := 3) (T := TX5) dX5_keep_64 hb rfl (by decide) (z_nc5 hb) inlX5 (by decide) m_4_10 rfl (z_rf5 hb rfl) k
theorem dX5_keep_67 : decode cX5_keep 67 = .ok (.iload_n 2, 1) := by decide +kernel
theorem X5_keep_67 {Q : z_M → Prop} {a0 a1 : z_V} {x : Int} {st : List z_V} {I : z_M} (k : JX5_keep Q 68 [a0, a1, aI x] (aI x :: st) I) : JX5_keep Q 67 [a0, a1, aI x] st I := g_iload_n (i := 2) (x := x) dX5_keep_67 rfl rfl k
theorem dX5_keep_68 : decode cX5_keep 68 = .ok (.iconst 1, 1) := by decide +kernel
theorem X5_keep_68 {Q : z_M → Prop} {a0 a1 a2 : z_V} {st : List z_V} {I : z_M} (k : JX5_keep Q 69 [a0, a1, a2] (aI 1 :: st) I) : JX5_keep Q 68 [a0, a1, a2] st I := g_iconst (n := 1) dX5_keep_68 (by decide) k
theorem dX5_keep_69 : decode cX5_keep 69 = .ok (.iadd, 1) := by decide +kernel
theorem X5_keep_69 {Q : z_M → Prop} {a0 a1 a2 : z_V} {x y : Int} {st : List z_V} {I : z_M} (hr : inI (x + y) := by omega) (k : JX5_keep Q 70 [a0, a1, a2] (aI (x + y) :: st) I) : JX5_keep Q 69 [a0, a1, a2] (aI y :: aI x :: st) I := g_iadd dX5_keep_69 hr k
theorem X5_keep_69w {Q : z_M → Prop} {a0 a1 a2 : z_V} {x y : Int} {st : List z_V} {I : z_M} (k : JX5_keep Q 70 [a0, a1, a2] (aI (i32 (x + y)) :: st) I) : JX5_keep Q 69 [a0, a1, a2] (aI y :: aI x :: st) I := g_iaddw dX5_keep_69 k
theorem dX5_keep_70 : decode cX5_keep 70 = .ok (.bipush 8, 2) := by decide +kernel
theorem X5_keep_70 {Q : z_M → Prop} {a0 a1 a2 : z_V} {st : List z_V} {I : z_M} (k : JX5_keep Q 72 [a0, a1, a2] (aI 8 :: st) I) : JX5_keep Q 70 [a0, a1, a2] st I := g_bipush (n := 8) dX5_keep_70 (by decide +kernel) (by decide) k
theorem dX5_keep_72 : decode cX5_keep 72 = .ok (.invokestatic 22, 3) := by decide +kernel
theorem X5_keep_72 {Q : z_M → Prop} {a0 a1 a2 : z_V} {k0 k1 : Nat} {sp dp n9 : Int} {st : List z_V} {I : z_M} (hk0 : z_cl k0 = 20 := by first | assumption | rfl) (hk1 : z_cl k1 = 20 := by first | assumption | rfl) (p0 : 0 ≤ sp := by omega) (p1 : 0 ≤ dp := by omega) (p2 : 0 ≤ n9 := by omega) (h4 : sp + n9 ≤ z_n k0 := by first | omega | (simp only [zn_1, zn_9, zn_10, zn_11, zn_12, zn_13, zn_14, zn_15, zn_16, zn_18, zn_20, zn_21, zn_22, zn_23, zn_24, zn_25, zn_26, zn_27, zn_29, zn_30, zn_53, zn_55, zn_56, zn_58, zn_59, zn_61, zn_62, zn_63, zn_64, zn_65, zn_66, zn_67, zn_68, zn_69, zn_70, zn_71, zn_72, zn_73]; omega)) (h5 : dp + n9 ≤ z_n k1 := by first | omega | (simp only [zn_1, zn_9, zn_10, zn_11, zn_12, zn_13, zn_14, zn_15, zn_16, zn_18, zn_20, zn_21, zn_22, zn_23, zn_24, zn_25, zn_26, zn_27, zn_29, zn_30, zn_53, zn_55, zn_56, zn_58, zn_59, zn_61, zn_62, zn_63, zn_64, zn_65, zn_66, zn_67, zn_68, zn_69, zn_70, zn_71, zn_72, zn_73]; omega)) (hst : z_sw st = 0 := by rfl) (k : JX5_keep Q 75 [a0, a1, a2] st (z_cp I k0 k1 sp.toNat dp.toNat n9.toNat)) : JX5_keep Q 72 [a0, a1, a2] (aI n9 :: aI dp :: aR k1 :: aI sp :: aR k0 :: st) I := by
  obtain ⟨sp, rfl⟩ := z_nat p0
  obtain ⟨dp, rfl⟩ := z_nat p1
  obtain ⟨n9, rfl⟩ := z_nat p2
  exact g_copy dX5_keep_72 m_17_11 m_17_0 m_17_1 m_17_2 hk0 hk1 (by omega) (by omega) (by decide) (by show z_sw st + (5 + 2 + 11) ≤ _; rw [hst]; decide) k
theorem dX5_keep_75 : decode cX5_keep 75 = .ok (.aload_n 1, 1) := by decide +kernel
theorem X5_keep_75 {Q : z_M → Prop} {a0 a2 : z_V} {x : Nat} {st : List z_V} {I : z_M} (k : JX5_keep Q 76 [a0, aR x, a2] (aR x :: st) I) : JX5_keep Q 75 [a0, aR x, a2] st I := g_aload_n (i := 1) (x := x) dX5_keep_75 rfl rfl k
theorem dX5_keep_76 : decode cX5_keep 76 = .ok (.getfield 36, 3) := by decide +kernel
theorem X5_keep_76 {Q : z_M → Prop} {a0 a1 a2 : z_V} {b : Nat} {st : List z_V} {I : z_M} (hb : z_cl b = 4 := by first | assumption | rfl) (k : JX5_keep Q 79 [a0, a1, a2] (aR (b + 5) :: st) I) : JX5_keep Q 76 [a0, a1, a2] (aR b :: st) I := g_getr (ci := 4) (j := 8) (N := 13) (T := TX4) dX5_keep_76 hb rfl (by decide) (z_nc4 hb) inlX4 (by decide) m_20_0 rfl (z_rf4 hb rfl) k
theorem dX5_keep_79 : decode cX5_keep 79 = .ok (.iconst 0, 1) := by decide +kernel
theorem X5_keep_79 {Q : z_M → Prop} {a0 a1 a2 : z_V} {st : List z_V} {I : z_M} (k : JX5_keep Q 80 [a0, a1, a2] (aI 0 :: st) I) : JX5_keep Q 79 [a0, a1, a2] st I := g_iconst (n := 0) dX5_keep_79 (by decide) k
theorem dX5_keep_80 : decode cX5_keep 80 = .ok (.aload_n 0, 1) := by decide +kernel
theorem X5_keep_80 {Q : z_M → Prop} {a1 a2 : z_V} {x : Nat} {st : List z_V} {I : z_M} (k : JX5_keep Q 81 [aR x, a1, a2] (aR x :: st) I) : JX5_keep Q 80 [aR x, a1, a2] st I := g_aload_n (i := 0) (x := x) dX5_keep_80 rfl rfl k
theorem dX5_keep_81 : decode cX5_keep 81 = .ok (.getfield 9, 3) := by decide +kernel
theorem X5_keep_81 {Q : z_M → Prop} {a0 a1 a2 : z_V} {b : Nat} {st : List z_V} {I : z_M} (hb : z_cl b = 5 := by first | assumption | rfl) (k : JX5_keep Q 84 [a0, a1, a2] (aR (b + 1) :: st) I) : JX5_keep Q 81 [a0, a1, a2] (aR b :: st) I := g_getr (ci := 5) (j := 2) (N := 3) (T := TX5) dX5_keep_81 hb rfl (by decide) (z_nc5 hb) inlX5 (by decide) m_4_10 rfl (z_rf5 hb rfl) k
theorem dX5_keep_84 : decode cX5_keep 84 = .ok (.iload_n 2, 1) := by decide +kernel
theorem X5_keep_84 {Q : z_M → Prop} {a0 a1 : z_V} {x : Int} {st : List z_V} {I : z_M} (k : JX5_keep Q 85 [a0, a1, aI x] (aI x :: st) I) : JX5_keep Q 84 [a0, a1, aI x] st I := g_iload_n (i := 2) (x := x) dX5_keep_84 rfl rfl k
theorem dX5_keep_85 : decode cX5_keep 85 = .ok (.iconst 1, 1) := by decide +kernel
theorem X5_keep_85 {Q : z_M → Prop} {a0 a1 a2 : z_V} {st : List z_V} {I : z_M} (k : JX5_keep Q 86 [a0, a1, a2] (aI 1 :: st) I) : JX5_keep Q 85 [a0, a1, a2] st I := g_iconst (n := 1) dX5_keep_85 (by decide) k
theorem dX5_keep_86 : decode cX5_keep 86 = .ok (.iadd, 1) := by decide +kernel
theorem X5_keep_86 {Q : z_M → Prop} {a0 a1 a2 : z_V} {x y : Int} {st : List z_V} {I : z_M} (hr : inI (x + y) := by omega) (k : JX5_keep Q 87 [a0, a1, a2] (aI (x + y) :: st) I) : JX5_keep Q 86 [a0, a1, a2] (aI y :: aI x :: st) I := g_iadd dX5_keep_86 hr k
theorem X5_keep_86w {Q : z_M → Prop} {a0 a1 a2 : z_V} {x y : Int} {st : List z_V} {I : z_M} (k : JX5_keep Q 87 [a0, a1, a2] (aI (i32 (x + y)) :: st) I) : JX5_keep Q 86 [a0, a1, a2] (aI y :: aI x :: st) I := g_iaddw dX5_keep_86 k
theorem dX5_keep_87 : decode cX5_keep 87 = .ok (.bipush 8, 2) := by decide +kernel
theorem X5_keep_87 {Q : z_M → Prop} {a0 a1 a2 : z_V} {st : List z_V} {I : z_M} (k : JX5_keep Q 89 [a0, a1, a2] (aI 8 :: st) I) : JX5_keep Q 87 [a0, a1, a2] st I := g_bipush (n := 8) dX5_keep_87 (by decide +kernel) (by decide) k
theorem dX5_keep_89 : decode cX5_keep 89 = .ok (.iadd, 1) := by decide +kernel
theorem X5_keep_89 {Q : z_M → Prop} {a0 a1 a2 : z_V} {x y : Int} {st : List z_V} {I : z_M} (hr : inI (x + y) := by omega) (k : JX5_keep Q 90 [a0, a1, a2] (aI (x + y) :: st) I) : JX5_keep Q 89 [a0, a1, a2] (aI y :: aI x :: st) I := g_iadd dX5_keep_89 hr k
theorem X5_keep_89w {Q : z_M → Prop} {a0 a1 a2 : z_V} {x y : Int} {st : List z_V} {I : z_M} (k : JX5_keep Q 90 [a0, a1, a2] (aI (i32 (x + y)) :: st) I) : JX5_keep Q 89 [a0, a1, a2] (aI y :: aI x :: st) I := g_iaddw dX5_keep_89 k
theorem dX5_keep_90 : decode cX5_keep 90 = .ok (.bipush 8, 2) := by decide +kernel
theorem X5_keep_90 {Q : z_M → Prop} {a0 a1 a2 : z_V} {st : List z_V} {I : z_M} (k : JX5_keep Q 92 [a0, a1, a2] (aI 8 :: st) I) : JX5_keep Q 90 [a0, a1, a2] st I := g_bipush (n := 8) dX5_keep_90 (by decide +kernel) (by decide) k
theorem dX5_keep_92 : decode cX5_keep 92 = .ok (.invokestatic 22, 3) := by decide +kernel
theorem X5_keep_92 {Q : z_M → Prop} {a0 a1 a2 : z_V} {k0 k1 : Nat} {sp dp n9 : Int} {st : List z_V} {I : z_M} (hk0 : z_cl k0 = 20 := by first | assumption | rfl) (hk1 : z_cl k1 = 20 := by first | assumption | rfl) (p0 : 0 ≤ sp := by omega) (p1 : 0 ≤ dp := by omega) (p2 : 0 ≤ n9 := by omega) (h4 : sp + n9 ≤ z_n k0 := by first | omega | (simp only [zn_1, zn_9, zn_10, zn_11, zn_12, zn_13, zn_14, zn_15, zn_16, zn_18, zn_20, zn_21, zn_22, zn_23, zn_24, zn_25, zn_26, zn_27, zn_29, zn_30, zn_53, zn_55, zn_56, zn_58, zn_59, zn_61, zn_62, zn_63, zn_64, zn_65, zn_66, zn_67, zn_68, zn_69, zn_70, zn_71, zn_72, zn_73]; omega)) (h5 : dp + n9 ≤ z_n k1 := by first | omega | (simp only [zn_1, zn_9, zn_10, zn_11, zn_12, zn_13, zn_14, zn_15, zn_16, zn_18, zn_20, zn_21, zn_22, zn_23, zn_24, zn_25, zn_26, zn_27, zn_29, zn_30, zn_53, zn_55, zn_56, zn_58, zn_59, zn_61, zn_62, zn_63, zn_64, zn_65, zn_66, zn_67, zn_68, zn_69, zn_70, zn_71, zn_72, zn_73]; omega)) (hst : z_sw st = 0 := by rfl) (k : JX5_keep Q 95 [a0, a1, a2] st (z_cp I k0 k1 sp.toNat dp.toNat n9.toNat)) : JX5_keep Q 92 [a0, a1, a2] (aI n9 :: aI dp :: aR k1 :: aI sp :: aR k0 :: st) I := by
  obtain ⟨sp, rfl⟩ := z_nat p0
  obtain ⟨dp, rfl⟩ := z_nat p1
  obtain ⟨n9, rfl⟩ := z_nat p2
  exact g_copy dX5_keep_92 m_17_11 m_17_0 m_17_1 m_17_2 hk0 hk1 (by omega) (by omega) (by decide) (by show z_sw st + (5 + 2 + 11) ≤ _; rw [hst]; decide) k
theorem dX5_keep_95 : decode cX5_keep 95 = .ok (.aload_n 0, 1) := by decide +kernel
theorem X5_keep_95 {Q : z_M → Prop} {a1 a2 : z_V} {x : Nat} {st : List z_V} {I : z_M} (k : JX5_keep Q 96 [aR x, a1, a2] (aR x :: st) I) : JX5_keep Q 95 [aR x, a1, a2] st I := g_aload_n (i := 0) (x := x) dX5_keep_95 rfl rfl k
theorem dX5_keep_96 : decode cX5_keep 96 = .ok (.dup, 1) := by decide +kernel
theorem X5_keep_96 {Q : z_M → Prop} {a0 a1 a2 : z_V} {x : z_V} {st : List z_V} {I : z_M} (hx : ∀ z, x ≠ aL z := by intro z q; cases q) (k : JX5_keep Q 97 [a0, a1, a2] (x :: x :: st) I) : JX5_keep Q 96 [a0, a1, a2] (x :: st) I := g_dup dX5_keep_96 hx k
theorem dX5_keep_97 : decode cX5_keep 97 = .ok (.getfield 15, 3) := by decide +kernel
theorem X5_keep_97 {Q : z_M → Prop} {a0 a1 a2 : z_V} {b : Nat} {st : List z_V} {I : z_M} (hb : z_cl b = 5 := by first | assumption | rfl) (k : JX5_keep Q 100 [a0, a1, a2] (aI (I b 0) :: st) I) : JX5_keep Q 97 [a0, a1, a2] (aR b :: st) I := g_geti (ci := 5) (j := 0) (N := 3) (T := TX5) dX5_keep_97 hb rfl (by decide) (z_nc5 hb) inlX5 (by decide) m_6_12 rfl k
theorem dX5_keep_100 : decode cX5_keep 100 = .ok (.iconst 1, 1) := by decide +kernel
theorem X5_keep_100 {Q : z_M → Prop} {a0 a1 a2 : z_V} {st : List z_V} {I : z_M} (k : JX5_keep Q 101 [a0, a1, a2] (aI 1 :: st) I) : JX5_keep Q 100 [a0, a1, a2] st I := g_iconst (n := 1) dX5_keep_100 (by decide) k
theorem dX5_keep_101 : decode cX5_keep 101 = .ok (.iadd, 1) := by decide +kernel
theorem X5_keep_101 {Q : z_M → Prop} {a0 a1 a2 : z_V} {x y : Int} {st : List z_V} {I : z_M} (hr : inI (x + y) := by omega) (k : JX5_keep Q 102 [a0, a1, a2] (aI (x + y) :: st) I) : JX5_keep Q 101 [a0, a1, a2] (aI y :: aI x :: st) I := g_iadd dX5_keep_101 hr k
theorem X5_keep_101w {Q : z_M → Prop} {a0 a1 a2 : z_V} {x y : Int} {st : List z_V} {I : z_M} (k : JX5_keep Q 102 [a0, a1, a2] (aI (i32 (x + y)) :: st) I) : JX5_keep Q 101 [a0, a1, a2] (aI y :: aI x :: st) I := g_iaddw dX5_keep_101 k
theorem dX5_keep_102 : decode cX5_keep 102 = .ok (.putfield 15, 3) := by decide +kernel
theorem X5_keep_102 {Q : z_M → Prop} {a0 a1 a2 : z_V} {b : Nat} {x : Int} {st : List z_V} {I : z_M} (hb : z_cl b = 5 := by first | assumption | rfl) (k : JX5_keep Q 105 [a0, a1, a2] st (z_up I b 0 x)) : JX5_keep Q 102 [a0, a1, a2] (aI x :: aR b :: st) I := g_puti (ci := 5) (j := 0) (N := 3) (T := TX5) dX5_keep_102 hb rfl (by decide) (z_nc5 hb) inlX5 tyX5_ok nmX5 (by decide) m_6_12 rfl (tyX5_ok 0 (by decide)) rfl k
theorem dX5_keep_105 : decode cX5_keep 105 = .ok (.return_, 1) := by decide +kernel
theorem X5_keep_105 {Q : z_M → Prop} {a0 a1 a2 : z_V} {I : z_M} (hq : Q I) : JX5_keep Q 105 [a0, a1, a2] [] I := g_return dX5_keep_105 ⟨rfl, hq⟩
theorem dX5_giveBack_0 : decode cX5_giveBack 0 = .ok (.aload_n 0, 1) := by decide +kernel
theorem X5_giveBack_0 {Q : Int → z_M → Prop} {a1 a2 : z_V} {x : Nat} {st : List z_V} {I : z_M} (k : JX5_giveBack Q 1 [aR x, a1, a2] (aR x :: st) I) : JX5_giveBack Q 0 [aR x, a1, a2] st I := g_aload_n (i := 0) (x := x) dX5_giveBack_0 rfl rfl k
theorem dX5_giveBack_1 : decode cX5_giveBack 1 = .ok (.getfield 15, 3) := by decide +kernel
theorem X5_giveBack_1 {Q : Int → z_M → Prop} {a0 a1 a2 : z_V} {b : Nat} {st : List z_V} {I : z_M} (hb : z_cl b = 5 := by first | assumption | rfl) (k : JX5_giveBack Q 4 [a0, a1, a2] (aI (I b 0) :: st) I) : JX5_giveBack Q 1 [a0, a1, a2] (aR b :: st) I := g_geti (ci := 5) (j := 0) (N := 3) (T := TX5) dX5_giveBack_1 hb rfl (by decide) (z_nc5 hb) inlX5 (by decide) m_6_12 rfl k
theorem dX5_giveBack_4 : decode cX5_giveBack 4 = .ok (.ifCond .ne 5, 3) := by decide +kernel
theorem X5_giveBack_4 {Q : Int → z_M → Prop} {a0 a1 a2 : z_V} {x : Int} {st : List z_V} {I : z_M} (kt : x ≠ 0 → JX5_giveBack Q 9 [a0, a1, a2] st I) (kf : x = 0 → JX5_giveBack Q 7 [a0, a1, a2] st I) : JX5_giveBack Q 4 [a0, a1, a2] (aI x :: st) I := g_if_ne dX5_giveBack_4 (by decide) kt kf
theorem dX5_giveBack_7 : decode cX5_giveBack 7 = .ok (.iconst 0, 1) := by decide +kernel
theorem X5_giveBack_7 {Q : Int → z_M → Prop} {a0 a1 a2 : z_V} {st : List z_V} {I : z_M} (k : JX5_giveBack Q 8 [a0, a1, a2] (aI 0 :: st) I) : JX5_giveBack Q 7 [a0, a1, a2] st I := g_iconst (n := 0) dX5_giveBack_7 (by decide) k
theorem dX5_giveBack_8 : decode cX5_giveBack 8 = .ok (.ireturn, 1) := by decide +kernel
theorem X5_giveBack_8 {Q : Int → z_M → Prop} {a0 a1 a2 : z_V} {x : Int} {I : z_M} (hx : x = 0 ∨ x = 1 := by omega) (hq : Q x I) : JX5_giveBack Q 8 [a0, a1, a2] [aI x] I := g_zreturn dX5_giveBack_8 hx ⟨x, rfl, hq⟩
theorem dX5_giveBack_9 : decode cX5_giveBack 9 = .ok (.aload_n 0, 1) := by decide +kernel
theorem X5_giveBack_9 {Q : Int → z_M → Prop} {a1 a2 : z_V} {x : Nat} {st : List z_V} {I : z_M} (k : JX5_giveBack Q 10 [aR x, a1, a2] (aR x :: st) I) : JX5_giveBack Q 9 [aR x, a1, a2] st I := g_aload_n (i := 0) (x := x) dX5_giveBack_9 rfl rfl k
theorem dX5_giveBack_10 : decode cX5_giveBack 10 = .ok (.dup, 1) := by decide +kernel
theorem X5_giveBack_10 {Q : Int → z_M → Prop} {a0 a1 a2 : z_V} {x : z_V} {st : List z_V} {I : z_M} (hx : ∀ z, x ≠ aL z := by intro z q; cases q) (k : JX5_giveBack Q 11 [a0, a1, a2] (x :: x :: st) I) : JX5_giveBack Q 10 [a0, a1, a2] (x :: st) I := g_dup dX5_giveBack_10 hx k
theorem dX5_giveBack_11 : decode cX5_giveBack 11 = .ok (.getfield 15, 3) := by decide +kernel
theorem X5_giveBack_11 {Q : Int → z_M → Prop} {a0 a1 a2 : z_V} {b : Nat} {st : List z_V} {I : z_M} (hb : z_cl b = 5 := by first | assumption | rfl) (k : JX5_giveBack Q 14 [a0, a1, a2] (aI (I b 0) :: st) I) : JX5_giveBack Q 11 [a0, a1, a2] (aR b :: st) I := g_geti (ci := 5) (j := 0) (N := 3) (T := TX5) dX5_giveBack_11 hb rfl (by decide) (z_nc5 hb) inlX5 (by decide) m_6_12 rfl k
theorem dX5_giveBack_14 : decode cX5_giveBack 14 = .ok (.iconst 1, 1) := by decide +kernel
theorem X5_giveBack_14 {Q : Int → z_M → Prop} {a0 a1 a2 : z_V} {st : List z_V} {I : z_M} (k : JX5_giveBack Q 15 [a0, a1, a2] (aI 1 :: st) I) : JX5_giveBack Q 14 [a0, a1, a2] st I := g_iconst (n := 1) dX5_giveBack_14 (by decide) k
theorem dX5_giveBack_15 : decode cX5_giveBack 15 = .ok (.isub, 1) := by decide +kernel
theorem X5_giveBack_15 {Q : Int → z_M → Prop} {a0 a1 a2 : z_V} {x y : Int} {st : List z_V} {I : z_M} (hr : inI (x - y) := by omega) (k : JX5_giveBack Q 16 [a0, a1, a2] (aI (x - y) :: st) I) : JX5_giveBack Q 15 [a0, a1, a2] (aI y :: aI x :: st) I := g_isub dX5_giveBack_15 hr k
theorem X5_giveBack_15w {Q : Int → z_M → Prop} {a0 a1 a2 : z_V} {x y : Int} {st : List z_V} {I : z_M} (k : JX5_giveBack Q 16 [a0, a1, a2] (aI (i32 (x - y)) :: st) I) : JX5_giveBack Q 15 [a0, a1, a2] (aI y :: aI x :: st) I := g_isubw dX5_giveBack_15 k
theorem dX5_giveBack_16 : decode cX5_giveBack 16 = .ok (.putfield 15, 3) := by decide +kernel
theorem X5_giveBack_16 {Q : Int → z_M → Prop} {a0 a1 a2 : z_V} {b : Nat} {x : Int} {st : List z_V} {I : z_M} (hb : z_cl b = 5 := by first | assumption | rfl) (k : JX5_giveBack Q 19 [a0, a1, a2] st (z_up I b 0 x)) : JX5_giveBack Q 16 [a0, a1, a2] (aI x :: aR b :: st) I := g_puti (ci := 5) (j := 0) (N := 3) (T := TX5) dX5_giveBack_16 hb rfl (by decide) (z_nc5 hb) inlX5 tyX5_ok nmX5 (by decide) m_6_12 rfl (tyX5_ok 0 (by decide)) rfl k
theorem dX5_giveBack_19 : decode cX5_giveBack 19 = .ok (.aload_n 0, 1) := by decide +kernel
theorem X5_giveBack_19 {Q : Int → z_M → Prop} {a1 a2 : z_V} {x : Nat} {st : List z_V} {I : z_M} (k : JX5_giveBack Q 20 [aR x, a1, a2] (aR x :: st) I) : JX5_giveBack Q 19 [aR x, a1, a2] st I := g_aload_n (i := 0) (x := x) dX5_giveBack_19 rfl rfl k
theorem dX5_giveBack_20 : decode cX5_giveBack 20 = .ok (.getfield 19, 3) := by decide +kernel
theorem X5_giveBack_20 {Q : Int → z_M → Prop} {a0 a1 a2 : z_V} {b : Nat} {st : List z_V} {I : z_M} (hb : z_cl b = 5 := by first | assumption | rfl) (k : JX5_giveBack Q 23 [a0, a1, a2] (aI (I b 1) :: st) I) : JX5_giveBack Q 20 [a0, a1, a2] (aR b :: st) I := g_geti (ci := 5) (j := 1) (N := 3) (T := TX5) dX5_giveBack_20 hb rfl (by decide) (z_nc5 hb) inlX5 (by decide) m_6_13 rfl k
theorem dX5_giveBack_23 : decode cX5_giveBack 23 = .ok (.aload_n 0, 1) := by decide +kernel
theorem X5_giveBack_23 {Q : Int → z_M → Prop} {a1 a2 : z_V} {x : Nat} {st : List z_V} {I : z_M} (k : JX5_giveBack Q 24 [aR x, a1, a2] (aR x :: st) I) : JX5_giveBack Q 23 [aR x, a1, a2] st I := g_aload_n (i := 0) (x := x) dX5_giveBack_23 rfl rfl k
theorem dX5_giveBack_24 : decode cX5_giveBack 24 = .ok (.getfield 15, 3) := by decide +kernel
theorem X5_giveBack_24 {Q : Int → z_M → Prop} {a0 a1 a2 : z_V} {b : Nat} {st : List z_V} {I : z_M} (hb : z_cl b = 5 := by first | assumption | rfl) (k : JX5_giveBack Q 27 [a0, a1, a2] (aI (I b 0) :: st) I) : JX5_giveBack Q 24 [a0, a1, a2] (aR b :: st) I := g_geti (ci := 5) (j := 0) (N := 3) (T := TX5) dX5_giveBack_24 hb rfl (by decide) (z_nc5 hb) inlX5 (by decide) m_6_12 rfl k
theorem dX5_giveBack_27 : decode cX5_giveBack 27 = .ok (.iadd, 1) := by decide +kernel
theorem X5_giveBack_27 {Q : Int → z_M → Prop} {a0 a1 a2 : z_V} {x y : Int} {st : List z_V} {I : z_M} (hr : inI (x + y) := by omega) (k : JX5_giveBack Q 28 [a0, a1, a2] (aI (x + y) :: st) I) : JX5_giveBack Q 27 [a0, a1, a2] (aI y :: aI x :: st) I := g_iadd dX5_giveBack_27 hr k
theorem X5_giveBack_27w {Q : Int → z_M → Prop} {a0 a1 a2 : z_V} {x y : Int} {st : List z_V} {I : z_M} (k : JX5_giveBack Q 28 [a0, a1, a2] (aI (i32 (x + y)) :: st) I) : JX5_giveBack Q 27 [a0, a1, a2] (aI y :: aI x :: st) I := g_iaddw dX5_giveBack_27 k
theorem dX5_giveBack_28 : decode cX5_giveBack 28 = .ok (.bipush 8, 2) := by decide +kernel
theorem X5_giveBack_28 {Q : Int → z_M → Prop} {a0 a1 a2 : z_V} {st : List z_V} {I : z_M} (k : JX5_giveBack Q 30 [a0, a1, a2] (aI 8 :: st) I) : JX5_giveBack Q 28 [a0, a1, a2] st I := g_bipush (n := 8) dX5_giveBack_28 (by decide +kernel) (by decide) k
theorem dX5_giveBack_30 : decode cX5_giveBack 30 = .ok (.irem, 1) := by decide +kernel
theorem X5_giveBack_30 {Q : Int → z_M → Prop} {a0 a1 a2 : z_V} {x y : Int} {st : List z_V} {I : z_M} (hy : y ≠ 0 := by omega) (k : JX5_giveBack Q 31 [a0, a1, a2] (aI (x.tmod y) :: st) I) : JX5_giveBack Q 30 [a0, a1, a2] (aI y :: aI x :: st) I := g_irem dX5_giveBack_30 hy k
theorem dX5_giveBack_31 : decode cX5_giveBack 31 = .ok (.bipush 17, 2) := by decide +kernel
theorem X5_giveBack_31 {Q : Int → z_M → Prop} {a0 a1 a2 : z_V} {st : List z_V} {I : z_M} (k : JX5_giveBack Q 33 [a0, a1, a2] (aI 17 :: st) I) : JX5_giveBack Q 31 [a0, a1, a2] st I := g_bipush (n := 17) dX5_giveBack_31 (by decide +kernel) (by decide) k
theorem dX5_giveBack_33 : decode cX5_giveBack 33 = .ok (.imul, 1) := by decide +kernel
theorem X5_giveBack_33 {Q : Int → z_M → Prop} {a0 a1 a2 : z_V} {x y : Int} {st : List z_V} {I : z_M} (hr : inI (x * y) := by omega) (k : JX5_giveBack Q 34 [a0, a1, a2] (aI (x * y) :: st) I) : JX5_giveBack Q 33 [a0, a1, a2] (aI y :: aI x :: st) I := g_imul dX5_giveBack_33 hr k
theorem X5_giveBack_33w {Q : Int → z_M → Prop} {a0 a1 a2 : z_V} {x y : Int} {st : List z_V} {I : z_M} (k : JX5_giveBack Q 34 [a0, a1, a2] (aI (i32 (x * y)) :: st) I) : JX5_giveBack Q 33 [a0, a1, a2] (aI y :: aI x :: st) I := g_imulw dX5_giveBack_33 k
theorem dX5_giveBack_34 : decode cX5_giveBack 34 = .ok (.istore_n 2, 1) := by decide +kernel
theorem X5_giveBack_34 {Q : Int → z_M → Prop} {a0 a1 a2 : z_V} {x : Int} {st : List z_V} {I : z_M} (hb : z_nl [a0, a1, a2] 2 = true := by rfl) (k : JX5_giveBack Q 35 [a0, a1, aI x] st I) : JX5_giveBack Q 34 [a0, a1, a2] (aI x :: st) I := g_istore_n (i := 2) (x := x) dX5_giveBack_34 rfl (show 2 < 3 from by decide) hb k
theorem dX5_giveBack_35 : decode cX5_giveBack 35 = .ok (.aload_n 1, 1) := by decide +kernel
theorem X5_giveBack_35 {Q : Int → z_M → Prop} {a0 a2 : z_V} {x : Nat} {st : List z_V} {I : z_M} (k : JX5_giveBack Q 36 [a0, aR x, a2] (aR x :: st) I) : JX5_giveBack Q 35 [a0, aR x, a2] st I := g_aload_n (i := 1) (x := x) dX5_giveBack_35 rfl rfl k
theorem dX5_giveBack_36 : decode cX5_giveBack 36 = .ok (.aload_n 0, 1) := by decide +kernel
theorem X5_giveBack_36 {Q : Int → z_M → Prop} {a1 a2 : z_V} {x : Nat} {st : List z_V} {I : z_M} (k : JX5_giveBack Q 37 [aR x, a1, a2] (aR x :: st) I) : JX5_giveBack Q 36 [aR x, a1, a2] st I := g_aload_n (i := 0) (x := x) dX5_giveBack_36 rfl rfl k
theorem dX5_giveBack_37 : decode cX5_giveBack 37 = .ok (.getfield 9, 3) := by decide +kernel
theorem X5_giveBack_37 {Q : Int → z_M → Prop} {a0 a1 a2 : z_V} {b : Nat} {st : List z_V} {I : z_M} (hb : z_cl b = 5 := by first | assumption | rfl) (k : JX5_giveBack Q 40 [a0, a1, a2] (aR (b + 1) :: st) I) : JX5_giveBack Q 37 [a0, a1, a2] (aR b :: st) I := g_getr (ci := 5) (j := 2) (N := 3) (T := TX5) dX5_giveBack_37 hb rfl (by decide) (z_nc5 hb) inlX5 (by decide) m_4_10 rfl (z_rf5 hb rfl) k
theorem dX5_giveBack_40 : decode cX5_giveBack 40 = .ok (.iload_n 2, 1) := by decide +kernel
theorem X5_giveBack_40 {Q : Int → z_M → Prop} {a0 a1 : z_V} {x : Int} {st : List z_V} {I : z_M} (k : JX5_giveBack Q 41 [a0, a1, aI x] (aI x :: st) I) : JX5_giveBack Q 40 [a0, a1, aI x] st I := g_iload_n (i := 2) (x := x) dX5_giveBack_40 rfl rfl k
theorem dX5_giveBack_41 : decode cX5_giveBack 41 = .ok (.iaload, 1) := by decide +kernel
theorem X5_giveBack_41 {Q : Int → z_M → Prop} {a0 a1 a2 : z_V} {q : Nat} {i : Int} {st : List z_V} {I : z_M} (hk : z_cl q = 20 := by first | assumption | rfl) (h0 : 0 ≤ i := by omega) (h1 : i < z_n q := by first | omega | (simp only [zn_1, zn_9, zn_10, zn_11, zn_12, zn_13, zn_14, zn_15, zn_16, zn_18, zn_20, zn_21, zn_22, zn_23, zn_24, zn_25, zn_26, zn_27, zn_29, zn_30, zn_53, zn_55, zn_56, zn_58, zn_59, zn_61, zn_62, zn_63, zn_64, zn_65, zn_66, zn_67, zn_68, zn_69, zn_70, zn_71, zn_72, zn_73]; omega)) (k : JX5_giveBack Q 42 [a0, a1, a2] (aI (I q i.toNat) :: st) I) : JX5_giveBack Q 41 [a0, a1, a2] (aI i :: aR q :: st) I := g_iald dX5_giveBack_41 hk h0 h1 k
theorem dX5_giveBack_42 : decode cX5_giveBack 42 = .ok (.putfield 28, 3) := by decide +kernel
theorem X5_giveBack_42 {Q : Int → z_M → Prop} {a0 a1 a2 : z_V} {b : Nat} {x : Int} {st : List z_V} {I : z_M} (hb : z_cl b = 4 := by first | assumption | rfl) (k : JX5_giveBack Q 45 [a0, a1, a2] st (z_up I b 0 x)) : JX5_giveBack Q 42 [a0, a1, a2] (aI x :: aR b :: st) I := g_puti (ci := 4) (j := 0) (N := 13) (T := TX4) dX5_giveBack_42 hb rfl (by decide) (z_nc4 hb) inlX4 tyX4_ok nmX4 (by decide) m_19_22 rfl (tyX4_ok 0 (by decide)) rfl k
theorem dX5_giveBack_45 : decode cX5_giveBack 45 = .ok (.aload_n 0, 1) := by decide +kernel
theorem X5_giveBack_45 {Q : Int → z_M → Prop} {a1 a2 : z_V} {x : Nat} {st : List z_V} {I : z_M} (k : JX5_giveBack Q 46 [aR x, a1, a2] (aR x :: st) I) : JX5_giveBack Q 45 [aR x, a1, a2] st I := g_aload_n (i := 0) (x := x) dX5_giveBack_45 rfl rfl k
theorem dX5_giveBack_46 : decode cX5_giveBack 46 = .ok (.getfield 9, 3) := by decide +kernel
theorem X5_giveBack_46 {Q : Int → z_M → Prop} {a0 a1 a2 : z_V} {b : Nat} {st : List z_V} {I : z_M} (hb : z_cl b = 5 := by first | assumption | rfl) (k : JX5_giveBack Q 49 [a0, a1, a2] (aR (b + 1) :: st) I) : JX5_giveBack Q 46 [a0, a1, a2] (aR b :: st) I := g_getr (ci := 5) (j := 2) (N := 3) (T := TX5) dX5_giveBack_46 hb rfl (by decide) (z_nc5 hb) inlX5 (by decide) m_4_10 rfl (z_rf5 hb rfl) k
theorem dX5_giveBack_49 : decode cX5_giveBack 49 = .ok (.iload_n 2, 1) := by decide +kernel
theorem X5_giveBack_49 {Q : Int → z_M → Prop} {a0 a1 : z_V} {x : Int} {st : List z_V} {I : z_M} (k : JX5_giveBack Q 50 [a0, a1, aI x] (aI x :: st) I) : JX5_giveBack Q 49 [a0, a1, aI x] st I := g_iload_n (i := 2) (x := x) dX5_giveBack_49 rfl rfl k
theorem dX5_giveBack_50 : decode cX5_giveBack 50 = .ok (.iconst 1, 1) := by decide +kernel
theorem X5_giveBack_50 {Q : Int → z_M → Prop} {a0 a1 a2 : z_V} {st : List z_V} {I : z_M} (k : JX5_giveBack Q 51 [a0, a1, a2] (aI 1 :: st) I) : JX5_giveBack Q 50 [a0, a1, a2] st I := g_iconst (n := 1) dX5_giveBack_50 (by decide) k
theorem dX5_giveBack_51 : decode cX5_giveBack 51 = .ok (.iadd, 1) := by decide +kernel
theorem X5_giveBack_51 {Q : Int → z_M → Prop} {a0 a1 a2 : z_V} {x y : Int} {st : List z_V} {I : z_M} (hr : inI (x + y) := by omega) (k : JX5_giveBack Q 52 [a0, a1, a2] (aI (x + y) :: st) I) : JX5_giveBack Q 51 [a0, a1, a2] (aI y :: aI x :: st) I := g_iadd dX5_giveBack_51 hr k
theorem X5_giveBack_51w {Q : Int → z_M → Prop} {a0 a1 a2 : z_V} {x y : Int} {st : List z_V} {I : z_M} (k : JX5_giveBack Q 52 [a0, a1, a2] (aI (i32 (x + y)) :: st) I) : JX5_giveBack Q 51 [a0, a1, a2] (aI y :: aI x :: st) I := g_iaddw dX5_giveBack_51 k
theorem dX5_giveBack_52 : decode cX5_giveBack 52 = .ok (.aload_n 1, 1) := by decide +kernel
theorem X5_giveBack_52 {Q : Int → z_M → Prop} {a0 a2 : z_V} {x : Nat} {st : List z_V} {I : z_M} (k : JX5_giveBack Q 53 [a0, aR x, a2] (aR x :: st) I) : JX5_giveBack Q 52 [a0, aR x, a2] st I := g_aload_n (i := 1) (x := x) dX5_giveBack_52 rfl rfl k
theorem dX5_giveBack_53 : decode cX5_giveBack 53 = .ok (.getfield 33, 3) := by decide +kernel
theorem X5_giveBack_53 {Q : Int → z_M → Prop} {a0 a1 a2 : z_V} {b : Nat} {st : List z_V} {I : z_M} (hb : z_cl b = 4 := by first | assumption | rfl) (k : JX5_giveBack Q 56 [a0, a1, a2] (aR (b + 4) :: st) I) : JX5_giveBack Q 53 [a0, a1, a2] (aR b :: st) I := g_getr (ci := 4) (j := 7) (N := 13) (T := TX4) dX5_giveBack_53 hb rfl (by decide) (z_nc4 hb) inlX4 (by decide) m_19_23 rfl (z_rf4 hb rfl) k
theorem dX5_giveBack_56 : decode cX5_giveBack 56 = .ok (.iconst 0, 1) := by decide +kernel
theorem X5_giveBack_56 {Q : Int → z_M → Prop} {a0 a1 a2 : z_V} {st : List z_V} {I : z_M} (k : JX5_giveBack Q 57 [a0, a1, a2] (aI 0 :: st) I) : JX5_giveBack Q 56 [a0, a1, a2] st I := g_iconst (n := 0) dX5_giveBack_56 (by decide) k
theorem dX5_giveBack_57 : decode cX5_giveBack 57 = .ok (.bipush 8, 2) := by decide +kernel
theorem X5_giveBack_57 {Q : Int → z_M → Prop} {a0 a1 a2 : z_V} {st : List z_V} {I : z_M} (k : JX5_giveBack Q 59 [a0, a1, a2] (aI 8 :: st) I) : JX5_giveBack Q 57 [a0, a1, a2] st I := g_bipush (n := 8) dX5_giveBack_57 (by decide +kernel) (by decide) k
theorem dX5_giveBack_59 : decode cX5_giveBack 59 = .ok (.invokestatic 22, 3) := by decide +kernel
theorem X5_giveBack_59 {Q : Int → z_M → Prop} {a0 a1 a2 : z_V} {k0 k1 : Nat} {sp dp n9 : Int} {st : List z_V} {I : z_M} (hk0 : z_cl k0 = 20 := by first | assumption | rfl) (hk1 : z_cl k1 = 20 := by first | assumption | rfl) (p0 : 0 ≤ sp := by omega) (p1 : 0 ≤ dp := by omega) (p2 : 0 ≤ n9 := by omega) (h4 : sp + n9 ≤ z_n k0 := by first | omega | (simp only [zn_1, zn_9, zn_10, zn_11, zn_12, zn_13, zn_14, zn_15, zn_16, zn_18, zn_20, zn_21, zn_22, zn_23, zn_24, zn_25, zn_26, zn_27, zn_29, zn_30, zn_53, zn_55, zn_56, zn_58, zn_59, zn_61, zn_62, zn_63, zn_64, zn_65, zn_66, zn_67, zn_68, zn_69, zn_70, zn_71, zn_72, zn_73]; omega)) (h5 : dp + n9 ≤ z_n k1 := by first | omega | (simp only [zn_1, zn_9, zn_10, zn_11, zn_12, zn_13, zn_14, zn_15, zn_16, zn_18, zn_20, zn_21, zn_22, zn_23, zn_24, zn_25, zn_26, zn_27, zn_29, zn_30, zn_53, zn_55, zn_56, zn_58, zn_59, zn_61, zn_62, zn_63, zn_64, zn_65, zn_66, zn_67, zn_68, zn_69, zn_70, zn_71, zn_72, zn_73]; omega)) (hst : z_sw st = 0 := by rfl) (k : JX5_giveBack Q 62 [a0, a1, a2] st (z_cp I k0 k1 sp.toNat dp.toNat n9.toNat)) : JX5_giveBack Q 59 [a0, a1, a2] (aI n9 :: aI dp :: aR k1 :: aI sp :: aR k0 :: st) I := by
  obtain ⟨sp, rfl⟩ := z_nat p0
  obtain ⟨dp, rfl⟩ := z_nat p1
  obtain ⟨n9, rfl⟩ := z_nat p2
  exact g_copy dX5_giveBack_59 m_17_11 m_17_0 m_17_1 m_17_2 hk0 hk1 (by omega) (by omega) (by decide) (by show z_sw st + (5 + 2 + 11) ≤ _; rw [hst]; decide) k
theorem dX5_giveBack_62 : decode cX5_giveBack 62 = .ok (.aload_n 0, 1) := by decide +kernel
theorem X5_giveBack_62 {Q : Int → z_M → Prop} {a1 a2 : z_V} {x : Nat} {st : List z_V} {I : z_M} (k : JX5_giveBack Q 63 [aR x, a1, a2] (aR x :: st) I) : JX5_giveBack Q 62 [aR x, a1, a2] st I := g_aload_n (i := 0) (x := x) dX5_giveBack_62 rfl rfl k
theorem dX5_giveBack_63 : decode cX5_giveBack 63 = .ok (.getfield 9, 3) := by decide +kernel
theorem X5_giveBack_63 {Q : Int → z_M → Prop} {a0 a1 a2 : z_V} {b : Nat} {st : List z_V} {I : z_M} (hb : z_cl b = 5 := by first | assumption | rfl) (k : JX5_giveBack Q 66 [a0, a1, a2] (aR (b + 1) :: st) I) : JX5_giveBack Q 63 [a0, a1, a2] (aR b :: st) I := g_getr (ci := 5) (j := 2) (N := 3) (T := TX5) dX5_giveBack_63 hb rfl (by decide) (z_nc5 hb) inlX5 (by decide) m_4_10 rfl (z_rf5 hb rfl) k
theorem dX5_giveBack_66 : decode cX5_giveBack 66 = .ok (.iload_n 2, 1) := by decide +kernel
theorem X5_giveBack_66 {Q : Int → z_M → Prop} {a0 a1 : z_V} {x : Int} {st : List z_V} {I : z_M} (k : JX5_giveBack Q 67 [a0, a1, aI x] (aI x :: st) I) : JX5_giveBack Q 66 [a0, a1, aI x] st I := g_iload_n (i := 2) (x := x) dX5_giveBack_66 rfl rfl k
theorem dX5_giveBack_67 : decode cX5_giveBack 67 = .ok (.iconst 1, 1) := by decide +kernel
theorem X5_giveBack_67 {Q : Int → z_M → Prop} {a0 a1 a2 : z_V} {st : List z_V} {I : z_M} (k : JX5_giveBack Q 68 [a0, a1, a2] (aI 1 :: st) I) : JX5_giveBack Q 67 [a0, a1, a2] st I := g_iconst (n := 1) dX5_giveBack_67 (by decide) k
theorem dX5_giveBack_68 : decode cX5_giveBack 68 = .ok (.iadd, 1) := by decide +kernel
theorem X5_giveBack_68 {Q : Int → z_M → Prop} {a0 a1 a2 : z_V} {x y : Int} {st : List z_V} {I : z_M} (hr : inI (x + y) := by omega) (k : JX5_giveBack Q 69 [a0, a1, a2] (aI (x + y) :: st) I) : JX5_giveBack Q 68 [a0, a1, a2] (aI y :: aI x :: st) I := g_iadd dX5_giveBack_68 hr k
theorem X5_giveBack_68w {Q : Int → z_M → Prop} {a0 a1 a2 : z_V} {x y : Int} {st : List z_V} {I : z_M} (k : JX5_giveBack Q 69 [a0, a1, a2] (aI (i32 (x + y)) :: st) I) : JX5_giveBack Q 68 [a0, a1, a2] (aI y :: aI x :: st) I := g_iaddw dX5_giveBack_68 k
theorem dX5_giveBack_69 : decode cX5_giveBack 69 = .ok (.bipush 8, 2) := by decide +kernel
theorem X5_giveBack_69 {Q : Int → z_M → Prop} {a0 a1 a2 : z_V} {st : List z_V} {I : z_M} (k : JX5_giveBack Q 71 [a0, a1, a2] (aI 8 :: st) I) : JX5_giveBack Q 69 [a0, a1, a2] st I := g_bipush (n := 8) dX5_giveBack_69 (by decide +kernel) (by decide) k
theorem dX5_giveBack_71 : decode cX5_giveBack 71 = .ok (.iadd, 1) := by decide +kernel
theorem X5_giveBack_71 {Q : Int → z_M → Prop} {a0 a1 a2 : z_V} {x y : Int} {st : List z_V} {I : z_M} (hr : inI (x + y) := by omega) (k : JX5_giveBack Q 72 [a0, a1, a2] (aI (x + y) :: st) I) : JX5_giveBack Q 71 [a0, a1, a2] (aI y :: aI x :: st) I := g_iadd dX5_giveBack_71 hr k
theorem X5_giveBack_71w {Q : Int → z_M → Prop} {a0 a1 a2 : z_V} {x y : Int} {st : List z_V} {I : z_M} (k : JX5_giveBack Q 72 [a0, a1, a2] (aI (i32 (x + y)) :: st) I) : JX5_giveBack Q 71 [a0, a1, a2] (aI y :: aI x :: st) I := g_iaddw dX5_giveBack_71 k
theorem dX5_giveBack_72 : decode cX5_giveBack 72 = .ok (.aload_n 1, 1) := by decide +kernel
theorem X5_giveBack_72 {Q : Int → z_M → Prop} {a0 a2 : z_V} {x : Nat} {st : List z_V} {I : z_M} (k : JX5_giveBack Q 73 [a0, aR x, a2] (aR x :: st) I) : JX5_giveBack Q 72 [a0, aR x, a2] st I := g_aload_n (i := 1) (x := x) dX5_giveBack_72 rfl rfl k
theorem dX5_giveBack_73 : decode cX5_giveBack 73 = .ok (.getfield 36, 3) := by decide +kernel
theorem X5_giveBack_73 {Q : Int → z_M → Prop} {a0 a1 a2 : z_V} {b : Nat} {st : List z_V} {I : z_M} (hb : z_cl b = 4 := by first | assumption | rfl) (k : JX5_giveBack Q 76 [a0, a1, a2] (aR (b + 5) :: st) I) : JX5_giveBack Q 73 [a0, a1, a2] (aR b :: st) I := g_getr (ci := 4) (j := 8) (N := 13) (T := TX4) dX5_giveBack_73 hb rfl (by decide) (z_nc4 hb) inlX4 (by decide) m_20_0 rfl (z_rf4 hb rfl) k
theorem dX5_giveBack_76 : decode cX5_giveBack 76 = .ok (.iconst 0, 1) := by decide +kernel
theorem X5_giveBack_76 {Q : Int → z_M → Prop} {a0 a1 a2 : z_V} {st : List z_V} {I : z_M} (k : JX5_giveBack Q 77 [a0, a1, a2] (aI 0 :: st) I) : JX5_giveBack Q 76 [a0, a1, a2] st I := g_iconst (n := 0) dX5_giveBack_76 (by decide) k
theorem dX5_giveBack_77 : decode cX5_giveBack 77 = .ok (.bipush 8, 2) := by decide +kernel
theorem X5_giveBack_77 {Q : Int → z_M → Prop} {a0 a1 a2 : z_V} {st : List z_V} {I : z_M} (k : JX5_giveBack Q 79 [a0, a1, a2] (aI 8 :: st) I) : JX5_giveBack Q 77 [a0, a1, a2] st I := g_bipush (n := 8) dX5_giveBack_77 (by decide +kernel) (by decide) k
theorem dX5_giveBack_79 : decode cX5_giveBack 79 = .ok (.invokestatic 22, 3) := by decide +kernel
theorem X5_giveBack_79 {Q : Int → z_M → Prop} {a0 a1 a2 : z_V} {k0 k1 : Nat} {sp dp n9 : Int} {st : List z_V} {I : z_M} (hk0 : z_cl k0 = 20 := by first | assumption | rfl) (hk1 : z_cl k1 = 20 := by first | assumption | rfl) (p0 : 0 ≤ sp := by omega) (p1 : 0 ≤ dp := by omega) (p2 : 0 ≤ n9 := by omega) (h4 : sp + n9 ≤ z_n k0 := by first | omega | (simp only [zn_1, zn_9, zn_10, zn_11, zn_12, zn_13, zn_14, zn_15, zn_16, zn_18, zn_20, zn_21, zn_22, zn_23, zn_24, zn_25, zn_26, zn_27, zn_29, zn_30, zn_53, zn_55, zn_56, zn_58, zn_59, zn_61, zn_62, zn_63, zn_64, zn_65, zn_66, zn_67, zn_68, zn_69, zn_70, zn_71, zn_72, zn_73]; omega)) (h5 : dp + n9 ≤ z_n k1 := by first | omega | (simp only [zn_1, zn_9, zn_10, zn_11, zn_12, zn_13, zn_14, zn_15, zn_16, zn_18, zn_20, zn_21, zn_22, zn_23, zn_24, zn_25, zn_26, zn_27, zn_29, zn_30, zn_53, zn_55, zn_56, zn_58, zn_59, zn_61, zn_62, zn_63, zn_64, zn_65, zn_66, zn_67, zn_68, zn_69, zn_70, zn_71, zn_72, zn_73]; omega)) (hst : z_sw st = 0 := by rfl) (k : JX5_giveBack Q 82 [a0, a1, a2] st (z_cp I k0 k1 sp.toNat dp.toNat n9.toNat)) : JX5_giveBack Q 79 [a0, a1, a2] (aI n9 :: aI dp :: aR k1 :: aI sp :: aR k0 :: st) I := by
  obtain ⟨sp, rfl⟩ := z_nat p0
  obtain ⟨dp, rfl⟩ := z_nat p1
  obtain ⟨n9, rfl⟩ := z_nat p2
  exact g_copy dX5_giveBack_79 m_17_11 m_17_0 m_17_1 m_17_2 hk0 hk1 (by omega) (by omega) (by decide) (by show z_sw st + (5 + 2 + 11) ≤ _; rw [hst]; decide) k
theorem dX5_giveBack_82 : decode cX5_giveBack 82 = .ok (.iconst 1, 1) := by decide +kernel
theorem X5_giveBack_82 {Q : Int → z_M → Prop} {a0 a1 a2 : z_V} {st : List z_V} {I : z_M} (k : JX5_giveBack Q 83 [a0, a1, a2] (aI 1 :: st) I) : JX5_giveBack Q 82 [a0, a1, a2] st I := g_iconst (n := 1) dX5_giveBack_82 (by decide) k
theorem dX5_giveBack_83 : decode cX5_giveBack 83 = .ok (.ireturn, 1) := by decide +kernel
theorem X5_giveBack_83 {Q : Int → z_M → Prop} {a0 a1 a2 : z_V} {x : Int} {I : z_M} (hx : x = 0 ∨ x = 1 := by omega) (hq : Q x I) : JX5_giveBack Q 83 [a0, a1, a2] [aI x] I := g_zreturn dX5_giveBack_83 hx ⟨x, rfl, hq⟩
theorem dX6_mayGo_0 : decode cX6_mayGo 0 = .ok (.iconst 1, 1) := by decide +kernel
theorem X6_mayGo_0 {Q : Int → z_M → Prop} {a0 a1 a2 : z_V} {st : List z_V} {I : z_M} (k : JX6_mayGo Q 1 [a0, a1, a2] (aI 1 :: st) I) : JX6_mayGo Q 0 [a0, a1, a2] st I := g_iconst (n := 1) dX6_mayGo_0 (by decide) k
theorem dX6_mayGo_1 : decode cX6_mayGo 1 = .ok (.ireturn, 1) := by decide +kernel
theorem X6_mayGo_1 {Q : Int → z_M → Prop} {a0 a1 a2 : z_V} {x : Int} {I : z_M} (hx : x = 0 ∨ x = 1 := by omega) (hq : Q x I) : JX6_mayGo Q 1 [a0, a1, a2] [aI x] I := g_zreturn dX6_mayGo_1 hx ⟨x, rfl, hq⟩
theorem dX6_comesBack_0 : decode cX6_comesBack 0 = .ok (.aload_n 1, 1) := by decide +kernel
theorem X6_comesBack_0 {Q : Int → z_M → Prop} {a0 a2 : z_V} {x : Nat} {st : List z_V} {I : z_M} (k : JX6_comesBack Q 1 [a0, aR x, a2] (aR x :: st) I) : JX6_comesBack Q 0 [a0, aR x, a2] st I := g_aload_n (i := 1) (x := x) dX6_comesBack_0 rfl rfl k
theorem dX6_comesBack_1 : decode cX6_comesBack 1 = .ok (.aload_n 1, 1) := by decide +kernel
theorem X6_comesBack_1 {Q : Int → z_M → Prop} {a0 a2 : z_V} {x : Nat} {st : List z_V} {I : z_M} (k : JX6_comesBack Q 2 [a0, aR x, a2] (aR x :: st) I) : JX6_comesBack Q 1 [a0, aR x, a2] st I := g_aload_n (i := 1) (x := x) dX6_comesBack_1 rfl rfl k
theorem dX6_comesBack_2 : decode cX6_comesBack 2 = .ok (.getfield 7, 3) := by decide +kernel
theorem X6_comesBack_2 {Q : Int → z_M → Prop} {a0 a1 a2 : z_V} {b : Nat} {st : List z_V} {I : z_M} (hb : z_cl b = 4 := by first | assumption | rfl) (k : JX6_comesBack Q 5 [a0, a1, a2] (aR (b + 4) :: st) I) : JX6_comesBack Q 2 [a0, a1, a2] (aR b :: st) I := g_getr (ci := 4) (j := 7) (N := 13) (T := TX4) dX6_comesBack_2 hb rfl (by decide) (z_nc4 hb) inlX4 (by decide) m_22_18 rfl (z_rf4 hb rfl) k
theorem dX6_comesBack_5 : decode cX6_comesBack 5 = .ok (.iload_n 2, 1) := by decide +kernel
theorem X6_comesBack_5 {Q : Int → z_M → Prop} {a0 a1 : z_V} {x : Int} {st : List z_V} {I : z_M} (k : JX6_comesBack Q 6 [a0, a1, aI x] (aI x :: st) I) : JX6_comesBack Q 5 [a0, a1, aI x] st I := g_iload_n (i := 2) (x := x) dX6_comesBack_5 rfl rfl k
theorem dX6_comesBack_6 : decode cX6_comesBack 6 = .ok (.iaload, 1) := by decide +kernel
theorem X6_comesBack_6 {Q : Int → z_M → Prop} {a0 a1 a2 : z_V} {q : Nat} {i : Int} {st : List z_V} {I : z_M} (hk : z_cl q = 20 := by first | assumption | rfl) (h0 : 0 ≤ i := by omega) (h1 : i < z_n q := by first | omega | (simp only [zn_1, zn_9, zn_10, zn_11, zn_12, zn_13, zn_14, zn_15, zn_16, zn_18, zn_20, zn_21, zn_22, zn_23, zn_24, zn_25, zn_26, zn_27, zn_29, zn_30, zn_53, zn_55, zn_56, zn_58, zn_59, zn_61, zn_62, zn_63, zn_64, zn_65, zn_66, zn_67, zn_68, zn_69, zn_70, zn_71, zn_72, zn_73]; omega)) (k : JX6_comesBack Q 7 [a0, a1, a2] (aI (I q i.toNat) :: st) I) : JX6_comesBack Q 6 [a0, a1, a2] (aI i :: aR q :: st) I := g_iald dX6_comesBack_6 hk h0 h1 k
theorem dX6_comesBack_7 : decode cX6_comesBack 7 = .ok (.invokevirtual 13, 3) := by decide +kernel
theorem X6_comesBack_7 {Q : Int → z_M → Prop} {a0 a1 a2 : z_V} {b : Nat} {x0 : Int} {st : List z_V} {I : z_M} (hb : z_cl b = 4 := by first | assumption | rfl) (hst : z_sw st ≤ 8 := by exact Nat.le_of_ble_eq_true rfl) (k : CX4_isWished (aR b :: [aI x0]) I (fun x9 I9 => JX6_comesBack Q 10 [a0, a1, a2] (aI x9 :: st) I9)) : JX6_comesBack Q 7 [a0, a1, a2] (aI x0 :: aR b :: st) I := g_callV (C := RX4) (ci := 4) (As := [aI x0]) (n := 1) dX6_comesBack_7 ⟨m_22_2, pdX4_isWished, ⟨by decide, by decide⟩, rfl, rfl, by decide, by decide⟩ m_22_19 m_22_0 m_22_1 m_2_9 rfl hb (by decide) rfl rfl hst k (fun r I9 h => by obtain ⟨x9, rfl, h⟩ := h; exact h)
theorem dX6_comesBack_10 : decode cX6_comesBack 10 = .ok (.ifCond .ne 7, 3) := by decide +kernel
theorem X6_comesBack_10 {Q : Int → z_M → Prop} {a0 a1 a2 : z_V} {x : Int} {st : List z_V} {I : z_M} (kt : x ≠ 0 → JX6_comesBack Q 17 [a0, a1, a2] st I) (kf : x = 0 → JX6_comesBack Q 13 [a0, a1, a2] st I) : JX6_comesBack Q 10 [a0, a1, a2] (aI x :: st) I := g_if_ne dX6_comesBack_10 (by decide) kt kf
theorem dX6_comesBack_13 : decode cX6_comesBack 13 = .ok (.iconst 1, 1) := by decide +kernel
theorem X6_comesBack_13 {Q : Int → z_M → Prop} {a0 a1 a2 : z_V} {st : List z_V} {I : z_M} (k : JX6_comesBack Q 14 [a0, a1, a2] (aI 1 :: st) I) : JX6_comesBack Q 13 [a0, a1, a2] st I := g_iconst (n := 1) dX6_comesBack_13 (by decide) k
theorem dX6_comesBack_14 : decode cX6_comesBack 14 = .ok (.goto 4, 3) := by decide +kernel
theorem X6_comesBack_14 {Q : Int → z_M → Prop} {a0 a1 a2 : z_V} {st : List z_V} {I : z_M} (k : JX6_comesBack Q 18 [a0, a1, a2] st I) : JX6_comesBack Q 14 [a0, a1, a2] st I := g_goto dX6_comesBack_14 (by decide) k
theorem dX6_comesBack_17 : decode cX6_comesBack 17 = .ok (.iconst 0, 1) := by decide +kernel
theorem X6_comesBack_17 {Q : Int → z_M → Prop} {a0 a1 a2 : z_V} {st : List z_V} {I : z_M} (k : JX6_comesBack Q 18 [a0, a1, a2] (aI 0 :: st) I) : JX6_comesBack Q 17 [a0, a1, a2] st I := g_iconst (n := 0) dX6_comesBack_17 (by decide) k
theorem dX6_comesBack_18 : decode cX6_comesBack 18 = .ok (.ireturn, 1) := by decide +kernel
theorem X6_comesBack_18 {Q : Int → z_M → Prop} {a0 a1 a2 : z_V} {x : Int} {I : z_M} (hx : x = 0 ∨ x = 1 := by omega) (hq : Q x I) : JX6_comesBack Q 18 [a0, a1, a2] [aI x] I := g_zreturn dX6_comesBack_18 hx ⟨x, rfl, hq⟩
theorem dX7_comesBack_0 : decode cX7_comesBack 0 = .ok (.aload_n 1, 1) := by decide +kernel
theorem X7_comesBack_0 {Q : Int → z_M → Prop} {a0 a2 : z_V} {x : Nat} {st : List z_V} {I : z_M} (k : JX7_comesBack Q 1 [a0, aR x, a2] (aR x :: st) I) : JX7_comesBack Q 0 [a0, aR x, a2] st I := g_aload_n (i := 1) (x := x) dX7_comesBack_0 rfl rfl k
theorem dX7_comesBack_1 : decode cX7_comesBack 1 = .ok (.getfield 7, 3) := by decide +kernel
theorem X7_comesBack_1 {Q : Int → z_M → Prop} {a0 a1 a2 : z_V} {b : Nat} {st : List z_V} {I : z_M} (hb : z_cl b = 4 := by first | assumption | rfl) (k : JX7_comesBack Q 4 [a0, a1, a2] (aR (b + 5) :: st) I) : JX7_comesBack Q 1 [a0, a1, a2] (aR b :: st) I := g_getr (ci := 4) (j := 8) (N := 13) (T := TX4) dX7_comesBack_1 hb rfl (by decide) (z_nc4 hb) inlX4 (by decide) m_22_13 rfl (z_rf4 hb rfl) k
theorem dX7_comesBack_4 : decode cX7_comesBack 4 = .ok (.iload_n 2, 1) := by decide +kernel
theorem X7_comesBack_4 {Q : Int → z_M → Prop} {a0 a1 : z_V} {x : Int} {st : List z_V} {I : z_M} (k : JX7_comesBack Q 5 [a0, a1, aI x] (aI x :: st) I) : JX7_comesBack Q 4 [a0, a1, aI x] st I := g_iload_n (i := 2) (x := x) dX7_comesBack_4 rfl rfl k
theorem dX7_comesBack_5 : decode cX7_comesBack 5 = .ok (.iaload, 1) := by decide +kernel
theorem X7_comesBack_5 {Q : Int → z_M → Prop} {a0 a1 a2 : z_V} {q : Nat} {i : Int} {st : List z_V} {I : z_M} (hk : z_cl q = 20 := by first | assumption | rfl) (h0 : 0 ≤ i := by omega) (h1 : i < z_n q := by first | omega | (simp only [zn_1, zn_9, zn_10, zn_11, zn_12, zn_13, zn_14, zn_15, zn_16, zn_18, zn_20, zn_21, zn_22, zn_23, zn_24, zn_25, zn_26, zn_27, zn_29, zn_30, zn_53, zn_55, zn_56, zn_58, zn_59, zn_61, zn_62, zn_63, zn_64, zn_65, zn_66, zn_67, zn_68, zn_69, zn_70, zn_71, zn_72, zn_73]; omega)) (k : JX7_comesBack Q 6 [a0, a1, a2] (aI (I q i.toNat) :: st) I) : JX7_comesBack Q 5 [a0, a1, a2] (aI i :: aR q :: st) I := g_iald dX7_comesBack_5 hk h0 h1 k
theorem dX7_comesBack_6 : decode cX7_comesBack 6 = .ok (.iconst 3, 1) := by decide +kernel
theorem X7_comesBack_6 {Q : Int → z_M → Prop} {a0 a1 a2 : z_V} {st : List z_V} {I : z_M} (k : JX7_comesBack Q 7 [a0, a1, a2] (aI 3 :: st) I) : JX7_comesBack Q 6 [a0, a1, a2] st I := g_iconst (n := 3) dX7_comesBack_6 (by decide) k
theorem dX7_comesBack_7 : decode cX7_comesBack 7 = .ok (.if_icmp .lt 16, 3) := by decide +kernel
theorem X7_comesBack_7 {Q : Int → z_M → Prop} {a0 a1 a2 : z_V} {x y : Int} {st : List z_V} {I : z_M} (kt : x < y → JX7_comesBack Q 23 [a0, a1, a2] st I) (kf : y ≤ x → JX7_comesBack Q 10 [a0, a1, a2] st I) : JX7_comesBack Q 7 [a0, a1, a2] (aI y :: aI x :: st) I := g_icmp_lt dX7_comesBack_7 (by decide) kt kf
theorem dX7_comesBack_10 : decode cX7_comesBack 10 = .ok (.aload_n 0, 1) := by decide +kernel
theorem X7_comesBack_10 {Q : Int → z_M → Prop} {a1 a2 : z_V} {x : Nat} {st : List z_V} {I : z_M} (k : JX7_comesBack Q 11 [aR x, a1, a2] (aR x :: st) I) : JX7_comesBack Q 10 [aR x, a1, a2] st I := g_aload_n (i := 0) (x := x) dX7_comesBack_10 rfl rfl k
theorem dX7_comesBack_11 : decode cX7_comesBack 11 = .ok (.aload_n 1, 1) := by decide +kernel
theorem X7_comesBack_11 {Q : Int → z_M → Prop} {a0 a2 : z_V} {x : Nat} {st : List z_V} {I : z_M} (k : JX7_comesBack Q 12 [a0, aR x, a2] (aR x :: st) I) : JX7_comesBack Q 11 [a0, aR x, a2] st I := g_aload_n (i := 1) (x := x) dX7_comesBack_11 rfl rfl k
theorem dX7_comesBack_12 : decode cX7_comesBack 12 = .ok (.iload_n 2, 1) := by decide +kernel
theorem X7_comesBack_12 {Q : Int → z_M → Prop} {a0 a1 : z_V} {x : Int} {st : List z_V} {I : z_M} (k : JX7_comesBack Q 13 [a0, a1, aI x] (aI x :: st) I) : JX7_comesBack Q 12 [a0, a1, aI x] st I := g_iload_n (i := 2) (x := x) dX7_comesBack_12 rfl rfl k
theorem dX7_comesBack_13 : decode cX7_comesBack 13 = .ok (.invokespecial 13, 3) := by decide +kernel
theorem X7_comesBack_13 {Q : Int → z_M → Prop} {a0 a1 a2 : z_V} {b : Nat} {x0 : Nat} {x1 : Int} {st : List z_V} {I : z_M} (hb : z_cl b = 7 := by first | assumption | rfl) (hst : z_sw st ≤ 8 := by exact Nat.le_of_ble_eq_true rfl) (k : CX6_comesBack (aR b :: [aR x0, aI x1]) I (fun x9 I9 => JX7_comesBack Q 16 [a0, a1, a2] (aI x9 :: st) I9)) : JX7_comesBack Q 13 [a0, a1, a2] (aI x1 :: aR x0 :: aR b :: st) I := g_callSU (ci := 7) (As := [aR x0, aI x1]) (n := 2) dX7_comesBack_13 ⟨m_22_17, pdX6_comesBack, ⟨by decide, by decide⟩, rfl, rfl, by decide, by decide⟩ m_22_14 m_22_8 m_22_15 m_22_16 m_1_14 (by decide) hb (by decide) rfl rfl hst k (fun r I9 h => by obtain ⟨x9, rfl, h⟩ := h; exact h)
theorem dX7_comesBack_16 : decode cX7_comesBack 16 = .ok (.ifCond .eq 7, 3) := by decide +kernel
theorem X7_comesBack_16 {Q : Int → z_M → Prop} {a0 a1 a2 : z_V} {x : Int} {st : List z_V} {I : z_M} (kt : x = 0 → JX7_comesBack Q 23 [a0, a1, a2] st I) (kf : x ≠ 0 → JX7_comesBack Q 19 [a0, a1, a2] st I) : JX7_comesBack Q 16 [a0, a1, a2] (aI x :: st) I := g_if_eq dX7_comesBack_16 (by decide) kt kf
theorem dX7_comesBack_19 : decode cX7_comesBack 19 = .ok (.iconst 1, 1) := by decide +kernel
theorem X7_comesBack_19 {Q : Int → z_M → Prop} {a0 a1 a2 : z_V} {st : List z_V} {I : z_M} (k : JX7_comesBack Q 20 [a0, a1, a2] (aI 1 :: st) I) : JX7_comesBack Q 19 [a0, a1, a2] st I := g_iconst (n := 1) dX7_comesBack_19 (by decide) k
theorem dX7_comesBack_20 : decode cX7_comesBack 20 = .ok (.goto 4, 3) := by decide +kernel
theorem X7_comesBack_20 {Q : Int → z_M → Prop} {a0 a1 a2 : z_V} {st : List z_V} {I : z_M} (k : JX7_comesBack Q 24 [a0, a1, a2] st I) : JX7_comesBack Q 20 [a0, a1, a2] st I := g_goto dX7_comesBack_20 (by decide) k
theorem dX7_comesBack_23 : decode cX7_comesBack 23 = .ok (.iconst 0, 1) := by decide +kernel
theorem X7_comesBack_23 {Q : Int → z_M → Prop} {a0 a1 a2 : z_V} {st : List z_V} {I : z_M} (k : JX7_comesBack Q 24 [a0, a1, a2] (aI 0 :: st) I) : JX7_comesBack Q 23 [a0, a1, a2] st I := g_iconst (n := 0) dX7_comesBack_23 (by decide) k
theorem dX7_comesBack_24 : decode cX7_comesBack 24 = .ok (.ireturn, 1) := by decide +kernel
theorem X7_comesBack_24 {Q : Int → z_M → Prop} {a0 a1 a2 : z_V} {x : Int} {I : z_M} (hx : x = 0 ∨ x = 1 := by omega) (hq : Q x I) : JX7_comesBack Q 24 [a0, a1, a2] [aI x] I := g_zreturn dX7_comesBack_24 hx ⟨x, rfl, hq⟩
theorem dX9_find_0 : decode cX9_find 0 = .ok (.aload_n 0, 1) := by decide +kernel
theorem X9_find_0 {Q : z_M → Prop} {a1 a2 a3 a4 : z_V} {x : Nat} {st : List z_V} {I : z_M} (k : JX9_find Q 1 [aR x, a1, a2, a3, a4] (aR x :: st) I) : JX9_find Q 0 [aR x, a1, a2, a3, a4] st I := g_aload_n (i := 0) (x := x) dX9_find_0 rfl rfl k
theorem dX9_find_1 : decode cX9_find 1 = .ok (.aload_n 1, 1) := by decide +kernel
theorem X9_find_1 {Q : z_M → Prop} {a0 a2 a3 a4 : z_V} {x : Nat} {st : List z_V} {I : z_M} (k : JX9_find Q 2 [a0, aR x, a2, a3, a4] (aR x :: st) I) : JX9_find Q 1 [a0, aR x, a2, a3, a4] st I := g_aload_n (i := 1) (x := x) dX9_find_1 rfl rfl k
theorem dX9_find_2 : decode cX9_find 2 = .ok (.invokevirtual 15, 3) := by decide +kernel
theorem X9_find_2 {Q : z_M → Prop} {a0 a1 a2 a3 a4 : z_V}  {x0 : Nat} {st : List z_V} {I : z_M}  (hst : z_sw st ≤ 8 := by exact Nat.le_of_ble_eq_true rfl) (k : CX9_fill (aR 57 :: [aR x0]) I (fun I9 => JX9_find Q 5 [a0, a1, a2, a3, a4] st I9)) : JX9_find Q 2 [a0, a1, a2, a3, a4] (aR x0 :: aR 57 :: st) I := g_callV (C := RX9) (ci := 9) (As := [aR x0]) (n := 1) dX9_find_2 ⟨m_36_22, pdX9_fill, ⟨by decide, by decide⟩, rfl, rfl, by decide, by decide⟩ m_36_19 m_36_20 m_36_21 m_2_21 rfl rfl (by decide) rfl rfl hst k (fun r I9 h => by obtain ⟨rfl, h⟩ := h; exact h)
theorem dX9_find_5 : decode cX9_find 5 = .ok (.aload_n 0, 1) := by decide +kernel
theorem X9_find_5 {Q : z_M → Prop} {a1 a2 a3 a4 : z_V} {x : Nat} {st : List z_V} {I : z_M} (k : JX9_find Q 6 [aR x, a1, a2, a3, a4] (aR x :: st) I) : JX9_find Q 5 [aR x, a1, a2, a3, a4] st I := g_aload_n (i := 0) (x := x) dX9_find_5 rfl rfl k
theorem dX9_find_6 : decode cX9_find 6 = .ok (.iconst 0, 1) := by decide +kernel
theorem X9_find_6 {Q : z_M → Prop} {a0 a1 a2 a3 a4 : z_V} {st : List z_V} {I : z_M} (k : JX9_find Q 7 [a0, a1, a2, a3, a4] (aI 0 :: st) I) : JX9_find Q 6 [a0, a1, a2, a3, a4] st I := g_iconst (n := 0) dX9_find_6 (by decide) k
theorem dX9_find_7 : decode cX9_find 7 = .ok (.putfield 19, 3) := by decide +kernel
theorem X9_find_7 {Q : z_M → Prop} {a0 a1 a2 a3 a4 : z_V}  {x : Int} {st : List z_V} {I : z_M}  (k : JX9_find Q 10 [a0, a1, a2, a3, a4] st (z_up I 57 0 x)) : JX9_find Q 7 [a0, a1, a2, a3, a4] (aI x :: aR 57 :: st) I := g_puti (ci := 9) (j := 0) (N := 3) (T := TX9) dX9_find_7 rfl rfl (by decide) (z_nc9 rfl) inlX9 tyX9_ok nmX9 (by decide) m_36_15 rfl (tyX9_ok 0 (by decide)) rfl k
theorem dX9_find_10 : decode cX9_find 10 = .ok (.aload_n 0, 1) := by decide +kernel
theorem X9_find_10 {Q : z_M → Prop} {a1 a2 a3 a4 : z_V} {x : Nat} {st : List z_V} {I : z_M} (k : JX9_find Q 11 [aR x, a1, a2, a3, a4] (aR x :: st) I) : JX9_find Q 10 [aR x, a1, a2, a3, a4] st I := g_aload_n (i := 0) (x := x) dX9_find_10 rfl rfl k
theorem dX9_find_11 : decode cX9_find 11 = .ok (.iconst (-1), 1) := by decide +kernel
theorem X9_find_11 {Q : z_M → Prop} {a0 a1 a2 a3 a4 : z_V} {st : List z_V} {I : z_M} (k : JX9_find Q 12 [a0, a1, a2, a3, a4] (aI (-1) :: st) I) : JX9_find Q 11 [a0, a1, a2, a3, a4] st I := g_iconst (n := (-1)) dX9_find_11 (by decide) k
theorem dX9_find_12 : decode cX9_find 12 = .ok (.putfield 23, 3) := by decide +kernel
theorem X9_find_12 {Q : z_M → Prop} {a0 a1 a2 a3 a4 : z_V}  {x : Int} {st : List z_V} {I : z_M}  (k : JX9_find Q 15 [a0, a1, a2, a3, a4] st (z_up I 57 1 x)) : JX9_find Q 12 [a0, a1, a2, a3, a4] (aI x :: aR 57 :: st) I := g_puti (ci := 9) (j := 1) (N := 3) (T := TX9) dX9_find_12 rfl rfl (by decide) (z_nc9 rfl) inlX9 tyX9_ok nmX9 (by decide) m_36_16 rfl (tyX9_ok 1 (by decide)) rfl k
theorem dX9_find_15 : decode cX9_find 15 = .ok (.iload_n 2, 1) := by decide +kernel
theorem X9_find_15 {Q : z_M → Prop} {a0 a1 a3 a4 : z_V} {x : Int} {st : List z_V} {I : z_M} (k : JX9_find Q 16 [a0, a1, aI x, a3, a4] (aI x :: st) I) : JX9_find Q 15 [a0, a1, aI x, a3, a4] st I := g_iload_n (i := 2) (x := x) dX9_find_15 rfl rfl k
theorem dX9_find_16 : decode cX9_find 16 = .ok (.ifCond .ne 4, 3) := by decide +kernel
theorem X9_find_16 {Q : z_M → Prop} {a0 a1 a2 a3 a4 : z_V} {x : Int} {st : List z_V} {I : z_M} (kt : x ≠ 0 → JX9_find Q 20 [a0, a1, a2, a3, a4] st I) (kf : x = 0 → JX9_find Q 19 [a0, a1, a2, a3, a4] st I) : JX9_find Q 16 [a0, a1, a2, a3, a4] (aI x :: st) I := g_if_ne dX9_find_16 (by decide) kt kf
theorem dX9_find_19 : decode cX9_find 19 = .ok (.return_, 1) := by decide +kernel
theorem X9_find_19 {Q : z_M → Prop} {a0 a1 a2 a3 a4 : z_V} {I : z_M} (hq : Q I) : JX9_find Q 19 [a0, a1, a2, a3, a4] [] I := g_return dX9_find_19 ⟨rfl, hq⟩
theorem dX9_find_20 : decode cX9_find 20 = .ok (.aload_n 0, 1) := by decide +kernel
theorem X9_find_20 {Q : z_M → Prop} {a1 a2 a3 a4 : z_V} {x : Nat} {st : List z_V} {I : z_M} (k : JX9_find Q 21 [aR x, a1, a2, a3, a4] (aR x :: st) I) : JX9_find Q 20 [aR x, a1, a2, a3, a4] st I := g_aload_n (i := 0) (x := x) dX9_find_20 rfl rfl k
theorem dX9_find_21 : decode cX9_find 21 = .ok (.ldc 26, 2) := by decide +kernel
theorem X9_find_21 {Q : z_M → Prop} {a0 a1 a2 a3 a4 : z_V} {st : List z_V} {I : z_M} (k : JX9_find Q 23 [a0, a1, a2, a3, a4] (aI (1000000) :: st) I) : JX9_find Q 21 [a0, a1, a2, a3, a4] st I := g_ldc (n := 1000000) dX9_find_21 m_36_17 (by decide +kernel) (by decide) k
theorem dX9_find_23 : decode cX9_find 23 = .ok (.putfield 19, 3) := by decide +kernel
theorem X9_find_23 {Q : z_M → Prop} {a0 a1 a2 a3 a4 : z_V}  {x : Int} {st : List z_V} {I : z_M}  (k : JX9_find Q 26 [a0, a1, a2, a3, a4] st (z_up I 57 0 x)) : JX9_find Q 23 [a0, a1, a2, a3, a4] (aI x :: aR 57 :: st) I := g_puti (ci := 9) (j := 0) (N := 3) (T := TX9) dX9_find_23 rfl rfl (by decide) (z_nc9 rfl) inlX9 tyX9_ok nmX9 (by decide) m_36_15 rfl (tyX9_ok 0 (by decide)) rfl k
theorem dX9_find_26 : decode cX9_find 26 = .ok (.iconst 0, 1) := by decide +kernel
theorem X9_find_26 {Q : z_M → Prop} {a0 a1 a2 a3 a4 : z_V} {st : List z_V} {I : z_M} (k : JX9_find Q 27 [a0, a1, a2, a3, a4] (aI 0 :: st) I) : JX9_find Q 26 [a0, a1, a2, a3, a4] st I := g_iconst (n := 0) dX9_find_26 (by decide) k
theorem dX9_find_27 : decode cX9_find 27 = .ok (.istore_n 3, 1) := by decide +kernel
theorem X9_find_27 {Q : z_M → Prop} {a0 a1 a2 a3 a4 : z_V} {x : Int} {st : List z_V} {I : z_M} (hb : z_nl [a0, a1, a2, a3, a4] 3 = true := by rfl) (k : JX9_find Q 28 [a0, a1, a2, aI x, a4] st I) : JX9_find Q 27 [a0, a1, a2, a3, a4] (aI x :: st) I := g_istore_n (i := 3) (x := x) dX9_find_27 rfl (show 3 < 5 from by decide) hb k
theorem dX9_find_28 : decode cX9_find 28 = .ok (.iload_n 3, 1) := by decide +kernel
theorem X9_find_28 {Q : z_M → Prop} {a0 a1 a2 a4 : z_V} {x : Int} {st : List z_V} {I : z_M} (k : JX9_find Q 29 [a0, a1, a2, aI x, a4] (aI x :: st) I) : JX9_find Q 28 [a0, a1, a2, aI x, a4] st I := g_iload_n (i := 3) (x := x) dX9_find_28 rfl rfl k
theorem dX9_find_29 : decode cX9_find 29 = .ok (.aload_n 1, 1) := by decide +kernel
theorem X9_find_29 {Q : z_M → Prop} {a0 a2 a3 a4 : z_V} {x : Nat} {st : List z_V} {I : z_M} (k : JX9_find Q 30 [a0, aR x, a2, a3, a4] (aR x :: st) I) : JX9_find Q 29 [a0, aR x, a2, a3, a4] st I := g_aload_n (i := 1) (x := x) dX9_find_29 rfl rfl k
theorem dX9_find_30 : decode cX9_find 30 = .ok (.getfield 27, 3) := by decide +kernel
theorem X9_find_30 {Q : z_M → Prop} {a0 a1 a2 a3 a4 : z_V} {b : Nat} {st : List z_V} {I : z_M} (hb : z_cl b = 4 := by first | assumption | rfl) (k : JX9_find Q 33 [a0, a1, a2, a3, a4] (aI (I b 1) :: st) I) : JX9_find Q 30 [a0, a1, a2, a3, a4] (aR b :: st) I := g_geti (ci := 4) (j := 1) (N := 13) (T := TX4) dX9_find_30 hb rfl (by decide) (z_nc4 hb) inlX4 (by decide) m_36_18 rfl k
theorem dX9_find_33 : decode cX9_find 33 = .ok (.if_icmp .ge 61, 3) := by decide +kernel
theorem X9_find_33 {Q : z_M → Prop} {a0 a1 a2 a3 a4 : z_V} {x y : Int} {st : List z_V} {I : z_M} (kt : y ≤ x → JX9_find Q 94 [a0, a1, a2, a3, a4] st I) (kf : x < y → JX9_find Q 36 [a0, a1, a2, a3, a4] st I) : JX9_find Q 33 [a0, a1, a2, a3, a4] (aI y :: aI x :: st) I := g_icmp_ge dX9_find_33 (by decide) kt kf
theorem dX9_find_36 : decode cX9_find 36 = .ok (.iload_n 2, 1) := by decide +kernel
theorem X9_find_36 {Q : z_M → Prop} {a0 a1 a3 a4 : z_V} {x : Int} {st : List z_V} {I : z_M} (k : JX9_find Q 37 [a0, a1, aI x, a3, a4] (aI x :: st) I) : JX9_find Q 36 [a0, a1, aI x, a3, a4] st I := g_iload_n (i := 2) (x := x) dX9_find_36 rfl rfl k
theorem dX9_find_37 : decode cX9_find 37 = .ok (.iload_n 3, 1) := by decide +kernel
theorem X9_find_37 {Q : z_M → Prop} {a0 a1 a2 a4 : z_V} {x : Int} {st : List z_V} {I : z_M} (k : JX9_find Q 38 [a0, a1, a2, aI x, a4] (aI x :: st) I) : JX9_find Q 37 [a0, a1, a2, aI x, a4] st I := g_iload_n (i := 3) (x := x) dX9_find_37 rfl rfl k
theorem dX9_find_38 : decode cX9_find 38 = .ok (.ishr, 1) := by decide +kernel
theorem X9_find_38 {Q : z_M → Prop} {a0 a1 a2 a3 a4 : z_V} {x y : Int} {st : List z_V} {I : z_M} (hx : 0 ≤ x := by first | omega | exact Int.natCast_nonneg _) (hy : 0 ≤ y := by first | omega | exact Int.natCast_nonneg _) (hy2 : y < 32 := by omega) (k : JX9_find Q 39 [a0, a1, a2, a3, a4] (aI (zshr x y) :: st) I) : JX9_find Q 38 [a0, a1, a2, a3, a4] (aI y :: aI x :: st) I := g_ishrz dX9_find_38 hx hy hy2 k
theorem dX9_find_39 : decode cX9_find 39 = .ok (.iconst 1, 1) := by decide +kernel
theorem X9_find_39 {Q : z_M → Prop} {a0 a1 a2 a3 a4 : z_V} {st : List z_V} {I : z_M} (k : JX9_find Q 40 [a0, a1, a2, a3, a4] (aI 1 :: st) I) : JX9_find Q 39 [a0, a1, a2, a3, a4] st I := g_iconst (n := 1) dX9_find_39 (by decide) k
theorem dX9_find_40 : decode cX9_find 40 = .ok (.iand, 1) := by decide +kernel
theorem X9_find_40 {Q : z_M → Prop} {a0 a1 a2 a3 a4 : z_V} {x y : Int} {st : List z_V} {I : z_M} (hx : 0 ≤ x := by first | omega | exact Int.natCast_nonneg _) (hy : 0 ≤ y := by first | omega | exact Int.natCast_nonneg _) (k : JX9_find Q 41 [a0, a1, a2, a3, a4] (aI (zand x y) :: st) I) : JX9_find Q 40 [a0, a1, a2, a3, a4] (aI y :: aI x :: st) I := g_iandz dX9_find_40 hx hy k
theorem dX9_find_41 : decode cX9_find 41 = .ok (.iconst 1, 1) := by decide +kernel
theorem X9_find_41 {Q : z_M → Prop} {a0 a1 a2 a3 a4 : z_V} {st : List z_V} {I : z_M} (k : JX9_find Q 42 [a0, a1, a2, a3, a4] (aI 1 :: st) I) : JX9_find Q 41 [a0, a1, a2, a3, a4] st I := g_iconst (n := 1) dX9_find_41 (by decide) k
theorem dX9_find_42 : decode cX9_find 42 = .ok (.if_icmp .ne 46, 3) := by decide +kernel
theorem X9_find_42 {Q : z_M → Prop} {a0 a1 a2 a3 a4 : z_V} {x y : Int} {st : List z_V} {I : z_M} (kt : x ≠ y → JX9_find Q 88 [a0, a1, a2, a3, a4] st I) (kf : x = y → JX9_find Q 45 [a0, a1, a2, a3, a4] st I) : JX9_find Q 42 [a0, a1, a2, a3, a4] (aI y :: aI x :: st) I := g_icmp_ne dX9_find_42 (by decide) kt kf
theorem dX9_find_45 : decode cX9_find 45 = .ok (.aload_n 1, 1) := by decide +kernel
theorem X9_find_45 {Q : z_M → Prop} {a0 a2 a3 a4 : z_V} {x : Nat} {st : List z_V} {I : z_M} (k : JX9_find Q 46 [a0, aR x, a2, a3, a4] (aR x :: st) I) : JX9_find Q 45 [a0, aR x, a2, a3, a4] st I := g_aload_n (i := 1) (x := x) dX9_find_45 rfl rfl k
theorem dX9_find_46 : decode cX9_find 46 = .ok (.iconst (-1), 1) := by decide +kernel
theorem X9_find_46 {Q : z_M → Prop} {a0 a1 a2 a3 a4 : z_V} {st : List z_V} {I : z_M} (k : JX9_find Q 47 [a0, a1, a2, a3, a4] (aI (-1) :: st) I) : JX9_find Q 46 [a0, a1, a2, a3, a4] st I := g_iconst (n := (-1)) dX9_find_46 (by decide) k
theorem dX9_find_47 : decode cX9_find 47 = .ok (.iload_n 3, 1) := by decide +kernel
theorem X9_find_47 {Q : z_M → Prop} {a0 a1 a2 a4 : z_V} {x : Int} {st : List z_V} {I : z_M} (k : JX9_find Q 48 [a0, a1, a2, aI x, a4] (aI x :: st) I) : JX9_find Q 47 [a0, a1, a2, aI x, a4] st I := g_iload_n (i := 3) (x := x) dX9_find_47 rfl rfl k
theorem dX9_find_48 : decode cX9_find 48 = .ok (.invokevirtual 32, 3) := by decide +kernel
theorem X9_find_48 {Q : z_M → Prop} {a0 a1 a2 a3 a4 : z_V} {b : Nat} {x0 : Int} {x1 : Int} {st : List z_V} {I : z_M} (hb : z_cl b = 4 := by first | assumption | rfl) (hst : z_sw st ≤ 8 := by exact Nat.le_of_ble_eq_true rfl) (k : CX4_howFar (aR b :: [aI x0, aI x1]) I (fun x9 I9 => JX9_find Q 51 [a0, a1, a2, a3, a4] (aI x9 :: st) I9)) : JX9_find Q 48 [a0, a1, a2, a3, a4] (aI x1 :: aI x0 :: aR b :: st) I := g_callV (C := RX4) (ci := 4) (As := [aI x0, aI x1]) (n := 2) dX9_find_48 ⟨m_29_7, pdX4_howFar, ⟨by decide, by decide⟩, rfl, rfl, by decide, by decide⟩ m_37_6 m_29_5 m_29_6 m_2_9 rfl hb (by decide) rfl rfl hst k (fun r I9 h => by obtain ⟨x9, rfl, h⟩ := h; exact h)
theorem dX9_find_51 : decode cX9_find 51 = .ok (.aload_n 0, 1) := by decide +kernel
theorem X9_find_51 {Q : z_M → Prop} {a1 a2 a3 a4 : z_V} {x : Nat} {st : List z_V} {I : z_M} (k : JX9_find Q 52 [aR x, a1, a2, a3, a4] (aR x :: st) I) : JX9_find Q 51 [aR x, a1, a2, a3, a4] st I := g_aload_n (i := 0) (x := x) dX9_find_51 rfl rfl k
theorem dX9_find_52 : decode cX9_find 52 = .ok (.getfield 11, 3) := by decide +kernel
theorem X9_find_52 {Q : z_M → Prop} {a0 a1 a2 a3 a4 : z_V}  {st : List z_V} {I : z_M}  (k : JX9_find Q 55 [a0, a1, a2, a3, a4] (aR (58) :: st) I) : JX9_find Q 52 [a0, a1, a2, a3, a4] (aR 57 :: st) I := g_getr (ci := 9) (j := 2) (N := 3) (T := TX9) dX9_find_52 rfl rfl (by decide) (z_nc9 rfl) inlX9 (by decide) m_4_20 rfl rfl k
theorem dX9_find_55 : decode cX9_find 55 = .ok (.iload_n 2, 1) := by decide +kernel
theorem X9_find_55 {Q : z_M → Prop} {a0 a1 a3 a4 : z_V} {x : Int} {st : List z_V} {I : z_M} (k : JX9_find Q 56 [a0, a1, aI x, a3, a4] (aI x :: st) I) : JX9_find Q 55 [a0, a1, aI x, a3, a4] st I := g_iload_n (i := 2) (x := x) dX9_find_55 rfl rfl k
theorem dX9_find_56 : decode cX9_find 56 = .ok (.iconst 1, 1) := by decide +kernel
theorem X9_find_56 {Q : z_M → Prop} {a0 a1 a2 a3 a4 : z_V} {st : List z_V} {I : z_M} (k : JX9_find Q 57 [a0, a1, a2, a3, a4] (aI 1 :: st) I) : JX9_find Q 56 [a0, a1, a2, a3, a4] st I := g_iconst (n := 1) dX9_find_56 (by decide) k
theorem dX9_find_57 : decode cX9_find 57 = .ok (.iload_n 3, 1) := by decide +kernel
theorem X9_find_57 {Q : z_M → Prop} {a0 a1 a2 a4 : z_V} {x : Int} {st : List z_V} {I : z_M} (k : JX9_find Q 58 [a0, a1, a2, aI x, a4] (aI x :: st) I) : JX9_find Q 57 [a0, a1, a2, aI x, a4] st I := g_iload_n (i := 3) (x := x) dX9_find_57 rfl rfl k
theorem dX9_find_58 : decode cX9_find 58 = .ok (.ishl, 1) := by decide +kernel
theorem X9_find_58 {Q : z_M → Prop} {a0 a1 a2 a3 a4 : z_V} {x y : Int} {st : List z_V} {I : z_M} (hx : 0 ≤ x := by first | omega | exact Int.natCast_nonneg _) (hy : 0 ≤ y := by first | omega | exact Int.natCast_nonneg _) (hy2 : y < 31 := by omega) (hr : zshl x y < 2147483648 := by exact zshl_lt (by omega) (by omega)) (k : JX9_find Q 59 [a0, a1, a2, a3, a4] (aI (zshl x y) :: st) I) : JX9_find Q 58 [a0, a1, a2, a3, a4] (aI y :: aI x :: st) I := g_ishlz dX9_find_58 hx hy hy2 hr k
theorem dX9_find_59 : decode cX9_find 59 = .ok (.ixor, 1) := by decide +kernel
theorem X9_find_59 {Q : z_M → Prop} {a0 a1 a2 a3 a4 : z_V} {x y : Int} {st : List z_V} {I : z_M} (hx : 0 ≤ x := by first | omega | exact Int.natCast_nonneg _) (hy : 0 ≤ y := by first | omega | exact Int.natCast_nonneg _) (k : JX9_find Q 60 [a0, a1, a2, a3, a4] (aI (zxor x y) :: st) I) : JX9_find Q 59 [a0, a1, a2, a3, a4] (aI y :: aI x :: st) I := g_ixorz dX9_find_59 hx hy k
theorem dX9_find_60 : decode cX9_find 60 = .ok (.iconst 5, 1) := by decide +kernel
theorem X9_find_60 {Q : z_M → Prop} {a0 a1 a2 a3 a4 : z_V} {st : List z_V} {I : z_M} (k : JX9_find Q 61 [a0, a1, a2, a3, a4] (aI 5 :: st) I) : JX9_find Q 60 [a0, a1, a2, a3, a4] st I := g_iconst (n := 5) dX9_find_60 (by decide) k
theorem dX9_find_61 : decode cX9_find 61 = .ok (.imul, 1) := by decide +kernel
theorem X9_find_61 {Q : z_M → Prop} {a0 a1 a2 a3 a4 : z_V} {x y : Int} {st : List z_V} {I : z_M} (hr : inI (x * y) := by omega) (k : JX9_find Q 62 [a0, a1, a2, a3, a4] (aI (x * y) :: st) I) : JX9_find Q 61 [a0, a1, a2, a3, a4] (aI y :: aI x :: st) I := g_imul dX9_find_61 hr k
theorem X9_find_61w {Q : z_M → Prop} {a0 a1 a2 a3 a4 : z_V} {x y : Int} {st : List z_V} {I : z_M} (k : JX9_find Q 62 [a0, a1, a2, a3, a4] (aI (i32 (x * y)) :: st) I) : JX9_find Q 61 [a0, a1, a2, a3, a4] (aI y :: aI x :: st) I := g_imulw dX9_find_61 k
theorem dX9_find_62 : decode cX9_find 62 = .ok (.iload_n 3, 1) := by decide +kernel
theorem X9_find_62 {Q : z_M → Prop} {a0 a1 a2 a4 : z_V} {x : Int} {st : List z_V} {I : z_M} (k : JX9_find Q 63 [a0, a1, a2, aI x, a4] (aI x :: st) I) : JX9_find Q 62 [a0, a1, a2, aI x, a4] st I := g_iload_n (i := 3) (x := x) dX9_find_62 rfl rfl k
theorem dX9_find_63 : decode cX9_find 63 = .ok (.iadd, 1) := by decide +kernel
theorem X9_find_63 {Q : z_M → Prop} {a0 a1 a2 a3 a4 : z_V} {x y : Int} {st : List z_V} {I : z_M} (hr : inI (x + y) := by omega) (k : JX9_find Q 64 [a0, a1, a2, a3, a4] (aI (x + y) :: st) I) : JX9_find Q 63 [a0, a1, a2, a3, a4] (aI y :: aI x :: st) I := g_iadd dX9_find_63 hr k
theorem X9_find_63w {Q : z_M → Prop} {a0 a1 a2 a3 a4 : z_V} {x y : Int} {st : List z_V} {I : z_M} (k : JX9_find Q 64 [a0, a1, a2, a3, a4] (aI (i32 (x + y)) :: st) I) : JX9_find Q 63 [a0, a1, a2, a3, a4] (aI y :: aI x :: st) I := g_iaddw dX9_find_63 k
theorem dX9_find_64 : decode cX9_find 64 = .ok (.iaload, 1) := by decide +kernel
theorem X9_find_64 {Q : z_M → Prop} {a0 a1 a2 a3 a4 : z_V} {q : Nat} {i : Int} {st : List z_V} {I : z_M} (hk : z_cl q = 20 := by first | assumption | rfl) (h0 : 0 ≤ i := by omega) (h1 : i < z_n q := by first | omega | (simp only [zn_1, zn_9, zn_10, zn_11, zn_12, zn_13, zn_14, zn_15, zn_16, zn_18, zn_20, zn_21, zn_22, zn_23, zn_24, zn_25, zn_26, zn_27, zn_29, zn_30, zn_53, zn_55, zn_56, zn_58, zn_59, zn_61, zn_62, zn_63, zn_64, zn_65, zn_66, zn_67, zn_68, zn_69, zn_70, zn_71, zn_72, zn_73]; omega)) (k : JX9_find Q 65 [a0, a1, a2, a3, a4] (aI (I q i.toNat) :: st) I) : JX9_find Q 64 [a0, a1, a2, a3, a4] (aI i :: aR q :: st) I := g_iald dX9_find_64 hk h0 h1 k
theorem dX9_find_65 : decode cX9_find 65 = .ok (.iadd, 1) := by decide +kernel
theorem X9_find_65 {Q : z_M → Prop} {a0 a1 a2 a3 a4 : z_V} {x y : Int} {st : List z_V} {I : z_M} (hr : inI (x + y) := by omega) (k : JX9_find Q 66 [a0, a1, a2, a3, a4] (aI (x + y) :: st) I) : JX9_find Q 65 [a0, a1, a2, a3, a4] (aI y :: aI x :: st) I := g_iadd dX9_find_65 hr k
theorem X9_find_65w {Q : z_M → Prop} {a0 a1 a2 a3 a4 : z_V} {x y : Int} {st : List z_V} {I : z_M} (k : JX9_find Q 66 [a0, a1, a2, a3, a4] (aI (i32 (x + y)) :: st) I) : JX9_find Q 65 [a0, a1, a2, a3, a4] (aI y :: aI x :: st) I := g_iaddw dX9_find_65 k
theorem dX9_find_66 : decode cX9_find 66 = .ok (.istore 4, 2) := by decide +kernel
theorem X9_find_66 {Q : z_M → Prop} {a0 a1 a2 a3 a4 : z_V} {x : Int} {st : List z_V} {I : z_M} (hb : z_nl [a0, a1, a2, a3, a4] 4 = true := by rfl) (k : JX9_find Q 68 [a0, a1, a2, a3, aI x] st I) : JX9_find Q 66 [a0, a1, a2, a3, a4] (aI x :: st) I := g_istore (i := 4) (x := x) dX9_find_66 (show 4 < 5 from by decide) hb k
theorem dX9_find_68 : decode cX9_find 68 = .ok (.iload 4, 2) := by decide +kernel
theorem X9_find_68 {Q : z_M → Prop} {a0 a1 a2 a3 : z_V} {x : Int} {st : List z_V} {I : z_M} (k : JX9_find Q 70 [a0, a1, a2, a3, aI x] (aI x :: st) I) : JX9_find Q 68 [a0, a1, a2, a3, aI x] st I := g_iload (i := 4) (x := x) dX9_find_68 rfl k
theorem dX9_find_70 : decode cX9_find 70 = .ok (.aload_n 0, 1) := by decide +kernel
theorem X9_find_70 {Q : z_M → Prop} {a1 a2 a3 a4 : z_V} {x : Nat} {st : List z_V} {I : z_M} (k : JX9_find Q 71 [aR x, a1, a2, a3, a4] (aR x :: st) I) : JX9_find Q 70 [aR x, a1, a2, a3, a4] st I := g_aload_n (i := 0) (x := x) dX9_find_70 rfl rfl k
theorem dX9_find_71 : decode cX9_find 71 = .ok (.getfield 19, 3) := by decide +kernel
theorem X9_find_71 {Q : z_M → Prop} {a0 a1 a2 a3 a4 : z_V}  {st : List z_V} {I : z_M}  (k : JX9_find Q 74 [a0, a1, a2, a3, a4] (aI (I 57 0) :: st) I) : JX9_find Q 71 [a0, a1, a2, a3, a4] (aR 57 :: st) I := g_geti (ci := 9) (j := 0) (N := 3) (T := TX9) dX9_find_71 rfl rfl (by decide) (z_nc9 rfl) inlX9 (by decide) m_36_15 rfl k
theorem dX9_find_74 : decode cX9_find 74 = .ok (.if_icmp .ge 14, 3) := by decide +kernel
theorem X9_find_74 {Q : z_M → Prop} {a0 a1 a2 a3 a4 : z_V} {x y : Int} {st : List z_V} {I : z_M} (kt : y ≤ x → JX9_find Q 88 [a0, a1, a2, a3, a4] st I) (kf : x < y → JX9_find Q 77 [a0, a1, a2, a3, a4] st I) : JX9_find Q 74 [a0, a1, a2, a3, a4] (aI y :: aI x :: st) I := g_icmp_ge dX9_find_74 (by decide) kt kf
theorem dX9_find_77 : decode cX9_find 77 = .ok (.aload_n 0, 1) := by decide +kernel
theorem X9_find_77 {Q : z_M → Prop} {a1 a2 a3 a4 : z_V} {x : Nat} {st : List z_V} {I : z_M} (k : JX9_find Q 78 [aR x, a1, a2, a3, a4] (aR x :: st) I) : JX9_find Q 77 [aR x, a1, a2, a3, a4] st I := g_aload_n (i := 0) (x := x) dX9_find_77 rfl rfl k
theorem dX9_find_78 : decode cX9_find 78 = .ok (.iload 4, 2) := by decide +kernel
theorem X9_find_78 {Q : z_M → Prop} {a0 a1 a2 a3 : z_V} {x : Int} {st : List z_V} {I : z_M} (k : JX9_find Q 80 [a0, a1, a2, a3, aI x] (aI x :: st) I) : JX9_find Q 78 [a0, a1, a2, a3, aI x] st I := g_iload (i := 4) (x := x) dX9_find_78 rfl k
theorem dX9_find_80 : decode cX9_find 80 = .ok (.putfield 19, 3) := by decide +kernel
theorem X9_find_80 {Q : z_M → Prop} {a0 a1 a2 a3 a4 : z_V}  {x : Int} {st : List z_V} {I : z_M}  (k : JX9_find Q 83 [a0, a1, a2, a3, a4] st (z_up I 57 0 x)) : JX9_find Q 80 [a0, a1, a2, a3, a4] (aI x :: aR 57 :: st) I := g_puti (ci := 9) (j := 0) (N := 3) (T := TX9) dX9_find_80 rfl rfl (by decide) (z_nc9 rfl) inlX9 tyX9_ok nmX9 (by decide) m_36_15 rfl (tyX9_ok 0 (by decide)) rfl k
theorem dX9_find_83 : decode cX9_find 83 = .ok (.aload_n 0, 1) := by decide +kernel
theorem X9_find_83 {Q : z_M → Prop} {a1 a2 a3 a4 : z_V} {x : Nat} {st : List z_V} {I : z_M} (k : JX9_find Q 84 [aR x, a1, a2, a3, a4] (aR x :: st) I) : JX9_find Q 83 [aR x, a1, a2, a3, a4] st I := g_aload_n (i := 0) (x := x) dX9_find_83 rfl rfl k
theorem dX9_find_84 : decode cX9_find 84 = .ok (.iload_n 3, 1) := by decide +kernel
theorem X9_find_84 {Q : z_M → Prop} {a0 a1 a2 a4 : z_V} {x : Int} {st : List z_V} {I : z_M} (k : JX9_find Q 85 [a0, a1, a2, aI x, a4] (aI x :: st) I) : JX9_find Q 84 [a0, a1, a2, aI x, a4] st I := g_iload_n (i := 3) (x := x) dX9_find_84 rfl rfl k
theorem dX9_find_85 : decode cX9_find 85 = .ok (.putfield 23, 3) := by decide +kernel
theorem X9_find_85 {Q : z_M → Prop} {a0 a1 a2 a3 a4 : z_V}  {x : Int} {st : List z_V} {I : z_M}  (k : JX9_find Q 88 [a0, a1, a2, a3, a4] st (z_up I 57 1 x)) : JX9_find Q 85 [a0, a1, a2, a3, a4] (aI x :: aR 57 :: st) I := g_puti (ci := 9) (j := 1) (N := 3) (T := TX9) dX9_find_85 rfl rfl (by decide) (z_nc9 rfl) inlX9 tyX9_ok nmX9 (by decide) m_36_16 rfl (tyX9_ok 1 (by decide)) rfl k
theorem dX9_find_88 : decode cX9_find 88 = .ok (.iinc 3 1, 3) := by decide +kernel
theorem X9_find_88 {Q : z_M → Prop} {a0 a1 a2 a4 : z_V} {x : Int} {st : List z_V} {I : z_M} (hb : z_nl [a0, a1, a2, aI x, a4] 3 = true := by rfl) (hr : inI (x + 1) := by omega) (k : JX9_find Q 91 [a0, a1, a2, aI (x + 1), a4] st I) : JX9_find Q 88 [a0, a1, a2, aI x, a4] st I := g_iinc (i := 3) (x := x) dX9_find_88 rfl (show 3 < 5 from by decide) hb hr k
theorem dX9_find_91 : decode cX9_find 91 = .ok (.goto (-63), 3) := by decide +kernel
theorem X9_find_91 {Q : z_M → Prop} {a0 a1 a2 a3 a4 : z_V} {st : List z_V} {I : z_M} (k : JX9_find Q 28 [a0, a1, a2, a3, a4] st I) : JX9_find Q 91 [a0, a1, a2, a3, a4] st I := g_goto dX9_find_91 (by decide) k
theorem dX9_find_94 : decode cX9_find 94 = .ok (.return_, 1) := by decide +kernel
theorem X9_find_94 {Q : z_M → Prop} {a0 a1 a2 a3 a4 : z_V} {I : z_M} (hq : Q I) : JX9_find Q 94 [a0, a1, a2, a3, a4] [] I := g_return dX9_find_94 ⟨rfl, hq⟩
theorem dX9_fill_0 : decode cX9_fill 0 = .ok (.iconst 1, 1) := by decide +kernel
theorem X9_fill_0 {Q : z_M → Prop} {a0 a1 a2 a3 a4 : z_V} {st : List z_V} {I : z_M} (k : JX9_fill Q 1 [a0, a1, a2, a3, a4] (aI 1 :: st) I) : JX9_fill Q 0 [a0, a1, a2, a3, a4] st I := g_iconst (n := 1) dX9_fill_0 (by decide) k
theorem dX9_fill_1 : decode cX9_fill 1 = .ok (.aload_n 1, 1) := by decide +kernel
theorem X9_fill_1 {Q : z_M → Prop} {a0 a2 a3 a4 : z_V} {x : Nat} {st : List z_V} {I : z_M} (k : JX9_fill Q 2 [a0, aR x, a2, a3, a4] (aR x :: st) I) : JX9_fill Q 1 [a0, aR x, a2, a3, a4] st I := g_aload_n (i := 1) (x := x) dX9_fill_1 rfl rfl k
theorem dX9_fill_2 : decode cX9_fill 2 = .ok (.getfield 27, 3) := by decide +kernel
theorem X9_fill_2 {Q : z_M → Prop} {a0 a1 a2 a3 a4 : z_V} {b : Nat} {st : List z_V} {I : z_M} (hb : z_cl b = 4 := by first | assumption | rfl) (k : JX9_fill Q 5 [a0, a1, a2, a3, a4] (aI (I b 1) :: st) I) : JX9_fill Q 2 [a0, a1, a2, a3, a4] (aR b :: st) I := g_geti (ci := 4) (j := 1) (N := 13) (T := TX4) dX9_fill_2 hb rfl (by decide) (z_nc4 hb) inlX4 (by decide) m_36_18 rfl k
theorem dX9_fill_5 : decode cX9_fill 5 = .ok (.ishl, 1) := by decide +kernel
theorem X9_fill_5 {Q : z_M → Prop} {a0 a1 a2 a3 a4 : z_V} {x y : Int} {st : List z_V} {I : z_M} (hx : 0 ≤ x := by first | omega | exact Int.natCast_nonneg _) (hy : 0 ≤ y := by first | omega | exact Int.natCast_nonneg _) (hy2 : y < 31 := by omega) (hr : zshl x y < 2147483648 := by exact zshl_lt (by omega) (by omega)) (k : JX9_fill Q 6 [a0, a1, a2, a3, a4] (aI (zshl x y) :: st) I) : JX9_fill Q 5 [a0, a1, a2, a3, a4] (aI y :: aI x :: st) I := g_ishlz dX9_fill_5 hx hy hy2 hr k
theorem dX9_fill_6 : decode cX9_fill 6 = .ok (.istore_n 2, 1) := by decide +kernel
theorem X9_fill_6 {Q : z_M → Prop} {a0 a1 a2 a3 a4 : z_V} {x : Int} {st : List z_V} {I : z_M} (hb : z_nl [a0, a1, a2, a3, a4] 2 = true := by rfl) (k : JX9_fill Q 7 [a0, a1, aI x, a3, a4] st I) : JX9_fill Q 6 [a0, a1, a2, a3, a4] (aI x :: st) I := g_istore_n (i := 2) (x := x) dX9_fill_6 rfl (show 2 < 5 from by decide) hb k
theorem dX9_fill_7 : decode cX9_fill 7 = .ok (.iconst 0, 1) := by decide +kernel
theorem X9_fill_7 {Q : z_M → Prop} {a0 a1 a2 a3 a4 : z_V} {st : List z_V} {I : z_M} (k : JX9_fill Q 8 [a0, a1, a2, a3, a4] (aI 0 :: st) I) : JX9_fill Q 7 [a0, a1, a2, a3, a4] st I := g_iconst (n := 0) dX9_fill_7 (by decide) k
theorem dX9_fill_8 : decode cX9_fill 8 = .ok (.istore_n 3, 1) := by decide +kernel
theorem X9_fill_8 {Q : z_M → Prop} {a0 a1 a2 a3 a4 : z_V} {x : Int} {st : List z_V} {I : z_M} (hb : z_nl [a0, a1, a2, a3, a4] 3 = true := by rfl) (k : JX9_fill Q 9 [a0, a1, a2, aI x, a4] st I) : JX9_fill Q 8 [a0, a1, a2, a3, a4] (aI x :: st) I := g_istore_n (i := 3) (x := x) dX9_fill_8 rfl (show 3 < 5 from by decide) hb k
theorem dX9_fill_9 : decode cX9_fill 9 = .ok (.iload_n 3, 1) := by decide +kernel
theorem X9_fill_9 {Q : z_M → Prop} {a0 a1 a2 a4 : z_V} {x : Int} {st : List z_V} {I : z_M} (k : JX9_fill Q 10 [a0, a1, a2, aI x, a4] (aI x :: st) I) : JX9_fill Q 9 [a0, a1, a2, aI x, a4] st I := g_iload_n (i := 3) (x := x) dX9_fill_9 rfl rfl k
theorem dX9_fill_10 : decode cX9_fill 10 = .ok (.iload_n 2, 1) := by decide +kernel
theorem X9_fill_10 {Q : z_M → Prop} {a0 a1 a3 a4 : z_V} {x : Int} {st : List z_V} {I : z_M} (k : JX9_fill Q 11 [a0, a1, aI x, a3, a4] (aI x :: st) I) : JX9_fill Q 10 [a0, a1, aI x, a3, a4] st I := g_iload_n (i := 2) (x := x) dX9_fill_10 rfl rfl k
theorem dX9_fill_11 : decode cX9_fill 11 = .ok (.if_icmp .ge 46, 3) := by decide +kernel
theorem X9_fill_11 {Q : z_M → Prop} {a0 a1 a2 a3 a4 : z_V} {x y : Int} {st : List z_V} {I : z_M} (kt : y ≤ x → JX9_fill Q 57 [a0, a1, a2, a3, a4] st I) (kf : x < y → JX9_fill Q 14 [a0, a1, a2, a3, a4] st I) : JX9_fill Q 11 [a0, a1, a2, a3, a4] (aI y :: aI x :: st) I := g_icmp_ge dX9_fill_11 (by decide) kt kf
theorem dX9_fill_14 : decode cX9_fill 14 = .ok (.iconst 0, 1) := by decide +kernel
theorem X9_fill_14 {Q : z_M → Prop} {a0 a1 a2 a3 a4 : z_V} {st : List z_V} {I : z_M} (k : JX9_fill Q 15 [a0, a1, a2, a3, a4] (aI 0 :: st) I) : JX9_fill Q 14 [a0, a1, a2, a3, a4] st I := g_iconst (n := 0) dX9_fill_14 (by decide) k
theorem dX9_fill_15 : decode cX9_fill 15 = .ok (.istore 4, 2) := by decide +kernel
theorem X9_fill_15 {Q : z_M → Prop} {a0 a1 a2 a3 a4 : z_V} {x : Int} {st : List z_V} {I : z_M} (hb : z_nl [a0, a1, a2, a3, a4] 4 = true := by rfl) (k : JX9_fill Q 17 [a0, a1, a2, a3, aI x] st I) : JX9_fill Q 15 [a0, a1, a2, a3, a4] (aI x :: st) I := g_istore (i := 4) (x := x) dX9_fill_15 (show 4 < 5 from by decide) hb k
theorem dX9_fill_17 : decode cX9_fill 17 = .ok (.iload 4, 2) := by decide +kernel
theorem X9_fill_17 {Q : z_M → Prop} {a0 a1 a2 a3 : z_V} {x : Int} {st : List z_V} {I : z_M} (k : JX9_fill Q 19 [a0, a1, a2, a3, aI x] (aI x :: st) I) : JX9_fill Q 17 [a0, a1, a2, a3, aI x] st I := g_iload (i := 4) (x := x) dX9_fill_17 rfl k
theorem dX9_fill_19 : decode cX9_fill 19 = .ok (.aload_n 1, 1) := by decide +kernel
theorem X9_fill_19 {Q : z_M → Prop} {a0 a2 a3 a4 : z_V} {x : Nat} {st : List z_V} {I : z_M} (k : JX9_fill Q 20 [a0, aR x, a2, a3, a4] (aR x :: st) I) : JX9_fill Q 19 [a0, aR x, a2, a3, a4] st I := g_aload_n (i := 1) (x := x) dX9_fill_19 rfl rfl k
theorem dX9_fill_20 : decode cX9_fill 20 = .ok (.getfield 27, 3) := by decide +kernel
theorem X9_fill_20 {Q : z_M → Prop} {a0 a1 a2 a3 a4 : z_V} {b : Nat} {st : List z_V} {I : z_M} (hb : z_cl b = 4 := by first | assumption | rfl) (k : JX9_fill Q 23 [a0, a1, a2, a3, a4] (aI (I b 1) :: st) I) : JX9_fill Q 20 [a0, a1, a2, a3, a4] (aR b :: st) I := g_geti (ci := 4) (j := 1) (N := 13) (T := TX4) dX9_fill_20 hb rfl (by decide) (z_nc4 hb) inlX4 (by decide) m_36_18 rfl k
theorem dX9_fill_23 : decode cX9_fill 23 = .ok (.if_icmp .ge 28, 3) := by decide +kernel
theorem X9_fill_23 {Q : z_M → Prop} {a0 a1 a2 a3 a4 : z_V} {x y : Int} {st : List z_V} {I : z_M} (kt : y ≤ x → JX9_fill Q 51 [a0, a1, a2, a3, a4] st I) (kf : x < y → JX9_fill Q 26 [a0, a1, a2, a3, a4] st I) : JX9_fill Q 23 [a0, a1, a2, a3, a4] (aI y :: aI x :: st) I := g_icmp_ge dX9_fill_23 (by decide) kt kf
theorem dX9_fill_26 : decode cX9_fill 26 = .ok (.aload_n 0, 1) := by decide +kernel
theorem X9_fill_26 {Q : z_M → Prop} {a1 a2 a3 a4 : z_V} {x : Nat} {st : List z_V} {I : z_M} (k : JX9_fill Q 27 [aR x, a1, a2, a3, a4] (aR x :: st) I) : JX9_fill Q 26 [aR x, a1, a2, a3, a4] st I := g_aload_n (i := 0) (x := x) dX9_fill_26 rfl rfl k
theorem dX9_fill_27 : decode cX9_fill 27 = .ok (.getfield 11, 3) := by decide +kernel
theorem X9_fill_27 {Q : z_M → Prop} {a0 a1 a2 a3 a4 : z_V}  {st : List z_V} {I : z_M}  (k : JX9_fill Q 30 [a0, a1, a2, a3, a4] (aR (58) :: st) I) : JX9_fill Q 27 [a0, a1, a2, a3, a4] (aR 57 :: st) I := g_getr (ci := 9) (j := 2) (N := 3) (T := TX9) dX9_fill_27 rfl rfl (by decide) (z_nc9 rfl) inlX9 (by decide) m_4_20 rfl rfl k
theorem dX9_fill_30 : decode cX9_fill 30 = .ok (.iload_n 3, 1) := by decide +kernel
theorem X9_fill_30 {Q : z_M → Prop} {a0 a1 a2 a4 : z_V} {x : Int} {st : List z_V} {I : z_M} (k : JX9_fill Q 31 [a0, a1, a2, aI x, a4] (aI x :: st) I) : JX9_fill Q 30 [a0, a1, a2, aI x, a4] st I := g_iload_n (i := 3) (x := x) dX9_fill_30 rfl rfl k
theorem dX9_fill_31 : decode cX9_fill 31 = .ok (.iconst 5, 1) := by decide +kernel
theorem X9_fill_31 {Q : z_M → Prop} {a0 a1 a2 a3 a4 : z_V} {st : List z_V} {I : z_M} (k : JX9_fill Q 32 [a0, a1, a2, a3, a4] (aI 5 :: st) I) : JX9_fill Q 31 [a0, a1, a2, a3, a4] st I := g_iconst (n := 5) dX9_fill_31 (by decide) k
theorem dX9_fill_32 : decode cX9_fill 32 = .ok (.imul, 1) := by decide +kernel
theorem X9_fill_32 {Q : z_M → Prop} {a0 a1 a2 a3 a4 : z_V} {x y : Int} {st : List z_V} {I : z_M} (hr : inI (x * y) := by omega) (k : JX9_fill Q 33 [a0, a1, a2, a3, a4] (aI (x * y) :: st) I) : JX9_fill Q 32 [a0, a1, a2, a3, a4] (aI y :: aI x :: st) I := g_imul dX9_fill_32 hr k
theorem X9_fill_32w {Q : z_M → Prop} {a0 a1 a2 a3 a4 : z_V} {x y : Int} {st : List z_V} {I : z_M} (k : JX9_fill Q 33 [a0, a1, a2, a3, a4] (aI (i32 (x * y)) :: st) I) : JX9_fill Q 32 [a0, a1, a2, a3, a4] (aI y :: aI x :: st) I := g_imulw dX9_fill_32 k
theorem dX9_fill_33 : decode cX9_fill 33 = .ok (.iload 4, 2) := by decide +kernel
theorem X9_fill_33 {Q : z_M → Prop} {a0 a1 a2 a3 : z_V} {x : Int} {st : List z_V} {I : z_M} (k : JX9_fill Q 35 [a0, a1, a2, a3, aI x] (aI x :: st) I) : JX9_fill Q 33 [a0, a1, a2, a3, aI x] st I := g_iload (i := 4) (x := x) dX9_fill_33 rfl k
theorem dX9_fill_35 : decode cX9_fill 35 = .ok (.iadd, 1) := by decide +kernel
theorem X9_fill_35 {Q : z_M → Prop} {a0 a1 a2 a3 a4 : z_V} {x y : Int} {st : List z_V} {I : z_M} (hr : inI (x + y) := by omega) (k : JX9_fill Q 36 [a0, a1, a2, a3, a4] (aI (x + y) :: st) I) : JX9_fill Q 35 [a0, a1, a2, a3, a4] (aI y :: aI x :: st) I := g_iadd dX9_fill_35 hr k
theorem X9_fill_35w {Q : z_M → Prop} {a0 a1 a2 a3 a4 : z_V} {x y : Int} {st : List z_V} {I : z_M} (k : JX9_fill Q 36 [a0, a1, a2, a3, a4] (aI (i32 (x + y)) :: st) I) : JX9_fill Q 35 [a0, a1, a2, a3, a4] (aI y :: aI x :: st) I := g_iaddw dX9_fill_35 k
theorem dX9_fill_36 : decode cX9_fill 36 = .ok (.aload_n 0, 1) := by decide +kernel
theorem X9_fill_36 {Q : z_M → Prop} {a1 a2 a3 a4 : z_V} {x : Nat} {st : List z_V} {I : z_M} (k : JX9_fill Q 37 [aR x, a1, a2, a3, a4] (aR x :: st) I) : JX9_fill Q 36 [aR x, a1, a2, a3, a4] st I := g_aload_n (i := 0) (x := x) dX9_fill_36 rfl rfl k
theorem dX9_fill_37 : decode cX9_fill 37 = .ok (.aload_n 1, 1) := by decide +kernel
theorem X9_fill_37 {Q : z_M → Prop} {a0 a2 a3 a4 : z_V} {x : Nat} {st : List z_V} {I : z_M} (k : JX9_fill Q 38 [a0, aR x, a2, a3, a4] (aR x :: st) I) : JX9_fill Q 37 [a0, aR x, a2, a3, a4] st I := g_aload_n (i := 1) (x := x) dX9_fill_37 rfl rfl k
theorem dX9_fill_38 : decode cX9_fill 38 = .ok (.iload_n 3, 1) := by decide +kernel
theorem X9_fill_38 {Q : z_M → Prop} {a0 a1 a2 a4 : z_V} {x : Int} {st : List z_V} {I : z_M} (k : JX9_fill Q 39 [a0, a1, a2, aI x, a4] (aI x :: st) I) : JX9_fill Q 38 [a0, a1, a2, aI x, a4] st I := g_iload_n (i := 3) (x := x) dX9_fill_38 rfl rfl k
theorem dX9_fill_39 : decode cX9_fill 39 = .ok (.iload 4, 2) := by decide +kernel
theorem X9_fill_39 {Q : z_M → Prop} {a0 a1 a2 a3 : z_V} {x : Int} {st : List z_V} {I : z_M} (k : JX9_fill Q 41 [a0, a1, a2, a3, aI x] (aI x :: st) I) : JX9_fill Q 39 [a0, a1, a2, a3, aI x] st I := g_iload (i := 4) (x := x) dX9_fill_39 rfl k
theorem dX9_fill_41 : decode cX9_fill 41 = .ok (.invokevirtual 36, 3) := by decide +kernel
theorem X9_fill_41 {Q : z_M → Prop} {a0 a1 a2 a3 a4 : z_V}  {x0 : Nat} {x1 : Int} {x2 : Int} {st : List z_V} {I : z_M}  (hst : z_sw st ≤ 8 := by exact Nat.le_of_ble_eq_true rfl) (k : CX9_leastFrom (aR 57 :: [aR x0, aI x1, aI x2]) I (fun x9 I9 => JX9_fill Q 44 [a0, a1, a2, a3, a4] (aI x9 :: st) I9)) : JX9_fill Q 41 [a0, a1, a2, a3, a4] (aI x2 :: aI x1 :: aR x0 :: aR 57 :: st) I := g_callV (C := RX9) (ci := 9) (As := [aR x0, aI x1, aI x2]) (n := 3) dX9_fill_41 ⟨m_37_2, pdX9_leastFrom, ⟨by decide, by decide⟩, rfl, rfl, by decide, by decide⟩ m_36_23 m_37_0 m_37_1 m_2_21 rfl rfl (by decide) rfl rfl hst k (fun r I9 h => by obtain ⟨x9, rfl, h⟩ := h; exact h)
theorem dX9_fill_44 : decode cX9_fill 44 = .ok (.iastore, 1) := by decide +kernel
theorem X9_fill_44 {Q : z_M → Prop} {a0 a1 a2 a3 a4 : z_V} {q : Nat} {i x : Int} {st : List z_V} {I : z_M} (hk : z_cl q = 20 := by first | assumption | rfl) (h0 : 0 ≤ i := by omega) (h1 : i < z_n q := by first | omega | (simp only [zn_1, zn_9, zn_10, zn_11, zn_12, zn_13, zn_14, zn_15, zn_16, zn_18, zn_20, zn_21, zn_22, zn_23, zn_24, zn_25, zn_26, zn_27, zn_29, zn_30, zn_53, zn_55, zn_56, zn_58, zn_59, zn_61, zn_62, zn_63, zn_64, zn_65, zn_66, zn_67, zn_68, zn_69, zn_70, zn_71, zn_72, zn_73]; omega))  (k : JX9_fill Q 45 [a0, a1, a2, a3, a4] st (z_up I q i.toNat x)) : JX9_fill Q 44 [a0, a1, a2, a3, a4] (aI x :: aI i :: aR q :: st) I := g_iast dX9_fill_44 hk h0 h1 k
theorem dX9_fill_45 : decode cX9_fill 45 = .ok (.iinc 4 1, 3) := by decide +kernel
theorem X9_fill_45 {Q : z_M → Prop} {a0 a1 a2 a3 : z_V} {x : Int} {st : List z_V} {I : z_M} (hb : z_nl [a0, a1, a2, a3, aI x] 4 = true := by rfl) (hr : inI (x + 1) := by omega) (k : JX9_fill Q 48 [a0, a1, a2, a3, aI (x + 1)] st I) : JX9_fill Q 45 [a0, a1, a2, a3, aI x] st I := g_iinc (i := 4) (x := x) dX9_fill_45 rfl (show 4 < 5 from by decide) hb hr k
theorem dX9_fill_48 : decode cX9_fill 48 = .ok (.goto (-31), 3) := by decide +kernel
theorem X9_fill_48 {Q : z_M → Prop} {a0 a1 a2 a3 a4 : z_V} {st : List z_V} {I : z_M} (k : JX9_fill Q 17 [a0, a1, a2, a3, a4] st I) : JX9_fill Q 48 [a0, a1, a2, a3, a4] st I := g_goto dX9_fill_48 (by decide) k
theorem dX9_fill_51 : decode cX9_fill 51 = .ok (.iinc 3 1, 3) := by decide +kernel
theorem X9_fill_51 {Q : z_M → Prop} {a0 a1 a2 a4 : z_V} {x : Int} {st : List z_V} {I : z_M} (hb : z_nl [a0, a1, a2, aI x, a4] 3 = true := by rfl) (hr : inI (x + 1) := by omega) (k : JX9_fill Q 54 [a0, a1, a2, aI (x + 1), a4] st I) : JX9_fill Q 51 [a0, a1, a2, aI x, a4] st I := g_iinc (i := 3) (x := x) dX9_fill_51 rfl (show 3 < 5 from by decide) hb hr k
theorem dX9_fill_54 : decode cX9_fill 54 = .ok (.goto (-45), 3) := by decide +kernel
theorem X9_fill_54 {Q : z_M → Prop} {a0 a1 a2 a3 a4 : z_V} {st : List z_V} {I : z_M} (k : JX9_fill Q 9 [a0, a1, a2, a3, a4] st I) : JX9_fill Q 54 [a0, a1, a2, a3, a4] st I := g_goto dX9_fill_54 (by decide) k
theorem dX9_fill_57 : decode cX9_fill 57 = .ok (.return_, 1) := by decide +kernel
theorem X9_fill_57 {Q : z_M → Prop} {a0 a1 a2 a3 a4 : z_V} {I : z_M} (hq : Q I) : JX9_fill Q 57 [a0, a1, a2, a3, a4] [] I := g_return dX9_fill_57 ⟨rfl, hq⟩
theorem dX9_leastFrom_0 : decode cX9_leastFrom 0 = .ok (.iload_n 2, 1) := by decide +kernel
theorem X9_leastFrom_0 {Q : Int → z_M → Prop} {a0 a1 a3 a4 a5 a6 : z_V} {x : Int} {st : List z_V} {I : z_M} (k : JX9_leastFrom Q 1 [a0, a1, aI x, a3, a4, a5, a6] (aI x :: st) I) : JX9_leastFrom Q 0 [a0, a1, aI x, a3, a4, a5, a6] st I := g_iload_n (i := 2) (x := x) dX9_leastFrom_0 rfl rfl k
theorem dX9_leastFrom_1 : decode cX9_leastFrom 1 = .ok (.ifCond .ne 10, 3) := by decide +kernel
theorem X9_leastFrom_1 {Q : Int → z_M → Prop} {a0 a1 a2 a3 a4 a5 a6 : z_V} {x : Int} {st : List z_V} {I : z_M} (kt : x ≠ 0 → JX9_leastFrom Q 11 [a0, a1, a2, a3, a4, a5, a6] st I) (kf : x = 0 → JX9_leastFrom Q 4 [a0, a1, a2, a3, a4, a5, a6] st I) : JX9_leastFrom Q 1 [a0, a1, a2, a3, a4, a5, a6] (aI x :: st) I := g_if_ne dX9_leastFrom_1 (by decide) kt kf
theorem dX9_leastFrom_4 : decode cX9_leastFrom 4 = .ok (.aload_n 1, 1) := by decide +kernel
theorem X9_leastFrom_4 {Q : Int → z_M → Prop} {a0 a2 a3 a4 a5 a6 : z_V} {x : Nat} {st : List z_V} {I : z_M} (k : JX9_leastFrom Q 5 [a0, aR x, a2, a3, a4, a5, a6] (aR x :: st) I) : JX9_leastFrom Q 4 [a0, aR x, a2, a3, a4, a5, a6] st I := g_aload_n (i := 1) (x := x) dX9_leastFrom_4 rfl rfl k
theorem dX9_leastFrom_5 : decode cX9_leastFrom 5 = .ok (.iload_n 3, 1) := by decide +kernel
theorem X9_leastFrom_5 {Q : Int → z_M → Prop} {a0 a1 a2 a4 a5 a6 : z_V} {x : Int} {st : List z_V} {I : z_M} (k : JX9_leastFrom Q 6 [a0, a1, a2, aI x, a4, a5, a6] (aI x :: st) I) : JX9_leastFrom Q 5 [a0, a1, a2, aI x, a4, a5, a6] st I := g_iload_n (i := 3) (x := x) dX9_leastFrom_5 rfl rfl k
theorem dX9_leastFrom_6 : decode cX9_leastFrom 6 = .ok (.iconst (-1), 1) := by decide +kernel
theorem X9_leastFrom_6 {Q : Int → z_M → Prop} {a0 a1 a2 a3 a4 a5 a6 : z_V} {st : List z_V} {I : z_M} (k : JX9_leastFrom Q 7 [a0, a1, a2, a3, a4, a5, a6] (aI (-1) :: st) I) : JX9_leastFrom Q 6 [a0, a1, a2, a3, a4, a5, a6] st I := g_iconst (n := (-1)) dX9_leastFrom_6 (by decide) k
theorem dX9_leastFrom_7 : decode cX9_leastFrom 7 = .ok (.invokevirtual 32, 3) := by decide +kernel
theorem X9_leastFrom_7 {Q : Int → z_M → Prop} {a0 a1 a2 a3 a4 a5 a6 : z_V} {b : Nat} {x0 : Int} {x1 : Int} {st : List z_V} {I : z_M} (hb : z_cl b = 4 := by first | assumption | rfl) (hst : z_sw st ≤ 8 := by exact Nat.le_of_ble_eq_true rfl) (k : CX4_howFar (aR b :: [aI x0, aI x1]) I (fun x9 I9 => JX9_leastFrom Q 10 [a0, a1, a2, a3, a4, a5, a6] (aI x9 :: st) I9)) : JX9_leastFrom Q 7 [a0, a1, a2, a3, a4, a5, a6] (aI x1 :: aI x0 :: aR b :: st) I := g_callV (C := RX4) (ci := 4) (As := [aI x0, aI x1]) (n := 2) dX9_leastFrom_7 ⟨m_29_7, pdX4_howFar, ⟨by decide, by decide⟩, rfl, rfl, by decide, by decide⟩ m_37_6 m_29_5 m_29_6 m_2_9 rfl hb (by decide) rfl rfl hst k (fun r I9 h => by obtain ⟨x9, rfl, h⟩ := h; exact h)
theorem dX9_leastFrom_10 : decode cX9_leastFrom 10 = .ok (.ireturn, 1) := by decide +kernel
theorem X9_leastFrom_10 {Q : Int → z_M → Prop} {a0 a1 a2 a3 a4 a5 a6 : z_V} {x : Int} {I : z_M} (hq : Q x I) : JX9_leastFrom Q 10 [a0, a1, a2, a3, a4, a5, a6] [aI x] I := g_ireturn dX9_leastFrom_10 ⟨x, rfl, hq⟩
theorem dX9_leastFrom_11 : decode cX9_leastFrom 11 = .ok (.ldc 26, 2) := by decide +kernel
theorem X9_leastFrom_11 {Q : Int → z_M → Prop} {a0 a1 a2 a3 a4 a5 a6 : z_V} {st : List z_V} {I : z_M} (k : JX9_leastFrom Q 13 [a0, a1, a2, a3, a4, a5, a6] (aI (1000000) :: st) I) : JX9_leastFrom Q 11 [a0, a1, a2, a3, a4, a5, a6] st I := g_ldc (n := 1000000) dX9_leastFrom_11 m_36_17 (by decide +kernel) (by decide) k
theorem dX9_leastFrom_13 : decode cX9_leastFrom 13 = .ok (.istore 4, 2) := by decide +kernel
theorem X9_leastFrom_13 {Q : Int → z_M → Prop} {a0 a1 a2 a3 a4 a5 a6 : z_V} {x : Int} {st : List z_V} {I : z_M} (hb : z_nl [a0, a1, a2, a3, a4, a5, a6] 4 = true := by rfl) (k : JX9_leastFrom Q 15 [a0, a1, a2, a3, aI x, a5, a6] st I) : JX9_leastFrom Q 13 [a0, a1, a2, a3, a4, a5, a6] (aI x :: st) I := g_istore (i := 4) (x := x) dX9_leastFrom_13 (show 4 < 7 from by decide) hb k
theorem dX9_leastFrom_15 : decode cX9_leastFrom 15 = .ok (.iconst 0, 1) := by decide +kernel
theorem X9_leastFrom_15 {Q : Int → z_M → Prop} {a0 a1 a2 a3 a4 a5 a6 : z_V} {st : List z_V} {I : z_M} (k : JX9_leastFrom Q 16 [a0, a1, a2, a3, a4, a5, a6] (aI 0 :: st) I) : JX9_leastFrom Q 15 [a0, a1, a2, a3, a4, a5, a6] st I := g_iconst (n := 0) dX9_leastFrom_15 (by decide) k
theorem dX9_leastFrom_16 : decode cX9_leastFrom 16 = .ok (.istore 5, 2) := by decide +kernel
theorem X9_leastFrom_16 {Q : Int → z_M → Prop} {a0 a1 a2 a3 a4 a5 a6 : z_V} {x : Int} {st : List z_V} {I : z_M} (hb : z_nl [a0, a1, a2, a3, a4, a5, a6] 5 = true := by rfl) (k : JX9_leastFrom Q 18 [a0, a1, a2, a3, a4, aI x, a6] st I) : JX9_leastFrom Q 16 [a0, a1, a2, a3, a4, a5, a6] (aI x :: st) I := g_istore (i := 5) (x := x) dX9_leastFrom_16 (show 5 < 7 from by decide) hb k
theorem dX9_leastFrom_18 : decode cX9_leastFrom 18 = .ok (.iload 5, 2) := by decide +kernel
theorem X9_leastFrom_18 {Q : Int → z_M → Prop} {a0 a1 a2 a3 a4 a6 : z_V} {x : Int} {st : List z_V} {I : z_M} (k : JX9_leastFrom Q 20 [a0, a1, a2, a3, a4, aI x, a6] (aI x :: st) I) : JX9_leastFrom Q 18 [a0, a1, a2, a3, a4, aI x, a6] st I := g_iload (i := 5) (x := x) dX9_leastFrom_18 rfl k
theorem dX9_leastFrom_20 : decode cX9_leastFrom 20 = .ok (.aload_n 1, 1) := by decide +kernel
theorem X9_leastFrom_20 {Q : Int → z_M → Prop} {a0 a2 a3 a4 a5 a6 : z_V} {x : Nat} {st : List z_V} {I : z_M} (k : JX9_leastFrom Q 21 [a0, aR x, a2, a3, a4, a5, a6] (aR x :: st) I) : JX9_leastFrom Q 20 [a0, aR x, a2, a3, a4, a5, a6] st I := g_aload_n (i := 1) (x := x) dX9_leastFrom_20 rfl rfl k
theorem dX9_leastFrom_21 : decode cX9_leastFrom 21 = .ok (.getfield 27, 3) := by decide +kernel
theorem X9_leastFrom_21 {Q : Int → z_M → Prop} {a0 a1 a2 a3 a4 a5 a6 : z_V} {b : Nat} {st : List z_V} {I : z_M} (hb : z_cl b = 4 := by first | assumption | rfl) (k : JX9_leastFrom Q 24 [a0, a1, a2, a3, a4, a5, a6] (aI (I b 1) :: st) I) : JX9_leastFrom Q 21 [a0, a1, a2, a3, a4, a5, a6] (aR b :: st) I := g_geti (ci := 4) (j := 1) (N := 13) (T := TX4) dX9_leastFrom_21 hb rfl (by decide) (z_nc4 hb) inlX4 (by decide) m_36_18 rfl k
theorem dX9_leastFrom_24 : decode cX9_leastFrom 24 = .ok (.if_icmp .ge 54, 3) := by decide +kernel
theorem X9_leastFrom_24 {Q : Int → z_M → Prop} {a0 a1 a2 a3 a4 a5 a6 : z_V} {x y : Int} {st : List z_V} {I : z_M} (kt : y ≤ x → JX9_leastFrom Q 78 [a0, a1, a2, a3, a4, a5, a6] st I) (kf : x < y → JX9_leastFrom Q 27 [a0, a1, a2, a3, a4, a5, a6] st I) : JX9_leastFrom Q 24 [a0, a1, a2, a3, a4, a5, a6] (aI y :: aI x :: st) I := g_icmp_ge dX9_leastFrom_24 (by decide) kt kf
theorem dX9_leastFrom_27 : decode cX9_leastFrom 27 = .ok (.iload_n 2, 1) := by decide +kernel
theorem X9_leastFrom_27 {Q : Int → z_M → Prop} {a0 a1 a3 a4 a5 a6 : z_V} {x : Int} {st : List z_V} {I : z_M} (k : JX9_leastFrom Q 28 [a0, a1, aI x, a3, a4, a5, a6] (aI x :: st) I) : JX9_leastFrom Q 27 [a0, a1, aI x, a3, a4, a5, a6] st I := g_iload_n (i := 2) (x := x) dX9_leastFrom_27 rfl rfl k
theorem dX9_leastFrom_28 : decode cX9_leastFrom 28 = .ok (.iload 5, 2) := by decide +kernel
theorem X9_leastFrom_28 {Q : Int → z_M → Prop} {a0 a1 a2 a3 a4 a6 : z_V} {x : Int} {st : List z_V} {I : z_M} (k : JX9_leastFrom Q 30 [a0, a1, a2, a3, a4, aI x, a6] (aI x :: st) I) : JX9_leastFrom Q 28 [a0, a1, a2, a3, a4, aI x, a6] st I := g_iload (i := 5) (x := x) dX9_leastFrom_28 rfl k
theorem dX9_leastFrom_30 : decode cX9_leastFrom 30 = .ok (.ishr, 1) := by decide +kernel
theorem X9_leastFrom_30 {Q : Int → z_M → Prop} {a0 a1 a2 a3 a4 a5 a6 : z_V} {x y : Int} {st : List z_V} {I : z_M} (hx : 0 ≤ x := by first | omega | exact Int.natCast_nonneg _) (hy : 0 ≤ y := by first | omega | exact Int.natCast_nonneg _) (hy2 : y < 32 := by omega) (k : JX9_leastFrom Q 31 [a0, a1, a2, a3, a4, a5, a6] (aI (zshr x y) :: st) I) : JX9_leastFrom Q 30 [a0, a1, a2, a3, a4, a5, a6] (aI y :: aI x :: st) I := g_ishrz dX9_leastFrom_30 hx hy hy2 k
theorem dX9_leastFrom_31 : decode cX9_leastFrom 31 = .ok (.iconst 1, 1) := by decide +kernel
theorem X9_leastFrom_31 {Q : Int → z_M → Prop} {a0 a1 a2 a3 a4 a5 a6 : z_V} {st : List z_V} {I : z_M} (k : JX9_leastFrom Q 32 [a0, a1, a2, a3, a4, a5, a6] (aI 1 :: st) I) : JX9_leastFrom Q 31 [a0, a1, a2, a3, a4, a5, a6] st I := g_iconst (n := 1) dX9_leastFrom_31 (by decide) k
theorem dX9_leastFrom_32 : decode cX9_leastFrom 32 = .ok (.iand, 1) := by decide +kernel
theorem X9_leastFrom_32 {Q : Int → z_M → Prop} {a0 a1 a2 a3 a4 a5 a6 : z_V} {x y : Int} {st : List z_V} {I : z_M} (hx : 0 ≤ x := by first | omega | exact Int.natCast_nonneg _) (hy : 0 ≤ y := by first | omega | exact Int.natCast_nonneg _) (k : JX9_leastFrom Q 33 [a0, a1, a2, a3, a4, a5, a6] (aI (zand x y) :: st) I) : JX9_leastFrom Q 32 [a0, a1, a2, a3, a4, a5, a6] (aI y :: aI x :: st) I := g_iandz dX9_leastFrom_32 hx hy k
theorem dX9_leastFrom_33 : decode cX9_leastFrom 33 = .ok (.iconst 1, 1) := by decide +kernel
theorem X9_leastFrom_33 {Q : Int → z_M → Prop} {a0 a1 a2 a3 a4 a5 a6 : z_V} {st : List z_V} {I : z_M} (k : JX9_leastFrom Q 34 [a0, a1, a2, a3, a4, a5, a6] (aI 1 :: st) I) : JX9_leastFrom Q 33 [a0, a1, a2, a3, a4, a5, a6] st I := g_iconst (n := 1) dX9_leastFrom_33 (by decide) k
theorem dX9_leastFrom_34 : decode cX9_leastFrom 34 = .ok (.if_icmp .ne 38, 3) := by decide +kernel
theorem X9_leastFrom_34 {Q : Int → z_M → Prop} {a0 a1 a2 a3 a4 a5 a6 : z_V} {x y : Int} {st : List z_V} {I : z_M} (kt : x ≠ y → JX9_leastFrom Q 72 [a0, a1, a2, a3, a4, a5, a6] st I) (kf : x = y → JX9_leastFrom Q 37 [a0, a1, a2, a3, a4, a5, a6] st I) : JX9_leastFrom Q 34 [a0, a1, a2, a3, a4, a5, a6] (aI y :: aI x :: st) I := g_icmp_ne dX9_leastFrom_34 (by decide) kt kf
theorem dX9_leastFrom_37 : decode cX9_leastFrom 37 = .ok (.aload_n 1, 1) := by decide +kernel
theorem X9_leastFrom_37 {Q : Int → z_M → Prop} {a0 a2 a3 a4 a5 a6 : z_V} {x : Nat} {st : List z_V} {I : z_M} (k : JX9_leastFrom Q 38 [a0, aR x, a2, a3, a4, a5, a6] (aR x :: st) I) : JX9_leastFrom Q 37 [a0, aR x, a2, a3, a4, a5, a6] st I := g_aload_n (i := 1) (x := x) dX9_leastFrom_37 rfl rfl k
theorem dX9_leastFrom_38 : decode cX9_leastFrom 38 = .ok (.iload_n 3, 1) := by decide +kernel
theorem X9_leastFrom_38 {Q : Int → z_M → Prop} {a0 a1 a2 a4 a5 a6 : z_V} {x : Int} {st : List z_V} {I : z_M} (k : JX9_leastFrom Q 39 [a0, a1, a2, aI x, a4, a5, a6] (aI x :: st) I) : JX9_leastFrom Q 38 [a0, a1, a2, aI x, a4, a5, a6] st I := g_iload_n (i := 3) (x := x) dX9_leastFrom_38 rfl rfl k
theorem dX9_leastFrom_39 : decode cX9_leastFrom 39 = .ok (.iload 5, 2) := by decide +kernel
theorem X9_leastFrom_39 {Q : Int → z_M → Prop} {a0 a1 a2 a3 a4 a6 : z_V} {x : Int} {st : List z_V} {I : z_M} (k : JX9_leastFrom Q 41 [a0, a1, a2, a3, a4, aI x, a6] (aI x :: st) I) : JX9_leastFrom Q 39 [a0, a1, a2, a3, a4, aI x, a6] st I := g_iload (i := 5) (x := x) dX9_leastFrom_39 rfl k
theorem dX9_leastFrom_41 : decode cX9_leastFrom 41 = .ok (.invokevirtual 32, 3) := by decide +kernel
theorem X9_leastFrom_41 {Q : Int → z_M → Prop} {a0 a1 a2 a3 a4 a5 a6 : z_V} {b : Nat} {x0 : Int} {x1 : Int} {st : List z_V} {I : z_M} (hb : z_cl b = 4 := by first | assumption | rfl) (hst : z_sw st ≤ 8 := by exact Nat.le_of_ble_eq_true rfl) (k : CX4_howFar (aR b :: [aI x0, aI x1]) I (fun x9 I9 => JX9_leastFrom Q 44 [a0, a1, a2, a3, a4, a5, a6] (aI x9 :: st) I9)) : JX9_leastFrom Q 41 [a0, a1, a2, a3, a4, a5, a6] (aI x1 :: aI x0 :: aR b :: st) I := g_callV (C := RX4) (ci := 4) (As := [aI x0, aI x1]) (n := 2) dX9_leastFrom_41 ⟨m_29_7, pdX4_howFar, ⟨by decide, by decide⟩, rfl, rfl, by decide, by decide⟩ m_37_6 m_29_5 m_29_6 m_2_9 rfl hb (by decide) rfl rfl hst k (fun r I9 h => by obtain ⟨x9, rfl, h⟩ := h; exact h)
theorem dX9_leastFrom_44 : decode cX9_leastFrom 44 = .ok (.aload_n 0, 1) := by decide +kernel
theorem X9_leastFrom_44 {Q : Int → z_M → Prop} {a1 a2 a3 a4 a5 a6 : z_V} {x : Nat} {st : List z_V} {I : z_M} (k : JX9_leastFrom Q 45 [aR x, a1, a2, a3, a4, a5, a6] (aR x :: st) I) : JX9_leastFrom Q 44 [aR x, a1, a2, a3, a4, a5, a6] st I := g_aload_n (i := 0) (x := x) dX9_leastFrom_44 rfl rfl k
theorem dX9_leastFrom_45 : decode cX9_leastFrom 45 = .ok (.getfield 11, 3) := by decide +kernel
theorem X9_leastFrom_45 {Q : Int → z_M → Prop} {a0 a1 a2 a3 a4 a5 a6 : z_V}  {st : List z_V} {I : z_M}  (k : JX9_leastFrom Q 48 [a0, a1, a2, a3, a4, a5, a6] (aR (58) :: st) I) : JX9_leastFrom Q 45 [a0, a1, a2, a3, a4, a5, a6] (aR 57 :: st) I := g_getr (ci := 9) (j := 2) (N := 3) (T := TX9) dX9_leastFrom_45 rfl rfl (by decide) (z_nc9 rfl) inlX9 (by decide) m_4_20 rfl rfl k
theorem dX9_leastFrom_48 : decode cX9_leastFrom 48 = .ok (.iload_n 2, 1) := by decide +kernel
theorem X9_leastFrom_48 {Q : Int → z_M → Prop} {a0 a1 a3 a4 a5 a6 : z_V} {x : Int} {st : List z_V} {I : z_M} (k : JX9_leastFrom Q 49 [a0, a1, aI x, a3, a4, a5, a6] (aI x :: st) I) : JX9_leastFrom Q 48 [a0, a1, aI x, a3, a4, a5, a6] st I := g_iload_n (i := 2) (x := x) dX9_leastFrom_48 rfl rfl k
theorem dX9_leastFrom_49 : decode cX9_leastFrom 49 = .ok (.iconst 1, 1) := by decide +kernel
theorem X9_leastFrom_49 {Q : Int → z_M → Prop} {a0 a1 a2 a3 a4 a5 a6 : z_V} {st : List z_V} {I : z_M} (k : JX9_leastFrom Q 50 [a0, a1, a2, a3, a4, a5, a6] (aI 1 :: st) I) : JX9_leastFrom Q 49 [a0, a1, a2, a3, a4, a5, a6] st I := g_iconst (n := 1) dX9_leastFrom_49 (by decide) k
theorem dX9_leastFrom_50 : decode cX9_leastFrom 50 = .ok (.iload 5, 2) := by decide +kernel
theorem X9_leastFrom_50 {Q : Int → z_M → Prop} {a0 a1 a2 a3 a4 a6 : z_V} {x : Int} {st : List z_V} {I : z_M} (k : JX9_leastFrom Q 52 [a0, a1, a2, a3, a4, aI x, a6] (aI x :: st) I) : JX9_leastFrom Q 50 [a0, a1, a2, a3, a4, aI x, a6] st I := g_iload (i := 5) (x := x) dX9_leastFrom_50 rfl k
theorem dX9_leastFrom_52 : decode cX9_leastFrom 52 = .ok (.ishl, 1) := by decide +kernel
theorem X9_leastFrom_52 {Q : Int → z_M → Prop} {a0 a1 a2 a3 a4 a5 a6 : z_V} {x y : Int} {st : List z_V} {I : z_M} (hx : 0 ≤ x := by first | omega | exact Int.natCast_nonneg _) (hy : 0 ≤ y := by first | omega | exact Int.natCast_nonneg _) (hy2 : y < 31 := by omega) (hr : zshl x y < 2147483648 := by exact zshl_lt (by omega) (by omega)) (k : JX9_leastFrom Q 53 [a0, a1, a2, a3, a4, a5, a6] (aI (zshl x y) :: st) I) : JX9_leastFrom Q 52 [a0, a1, a2, a3, a4, a5, a6] (aI y :: aI x :: st) I := g_ishlz dX9_leastFrom_52 hx hy hy2 hr k
theorem dX9_leastFrom_53 : decode cX9_leastFrom 53 = .ok (.ixor, 1) := by decide +kernel
theorem X9_leastFrom_53 {Q : Int → z_M → Prop} {a0 a1 a2 a3 a4 a5 a6 : z_V} {x y : Int} {st : List z_V} {I : z_M} (hx : 0 ≤ x := by first | omega | exact Int.natCast_nonneg _) (hy : 0 ≤ y := by first | omega | exact Int.natCast_nonneg _) (k : JX9_leastFrom Q 54 [a0, a1, a2, a3, a4, a5, a6] (aI (zxor x y) :: st) I) : JX9_leastFrom Q 53 [a0, a1, a2, a3, a4, a5, a6] (aI y :: aI x :: st) I := g_ixorz dX9_leastFrom_53 hx hy k
theorem dX9_leastFrom_54 : decode cX9_leastFrom 54 = .ok (.iconst 5, 1) := by decide +kernel
theorem X9_leastFrom_54 {Q : Int → z_M → Prop} {a0 a1 a2 a3 a4 a5 a6 : z_V} {st : List z_V} {I : z_M} (k : JX9_leastFrom Q 55 [a0, a1, a2, a3, a4, a5, a6] (aI 5 :: st) I) : JX9_leastFrom Q 54 [a0, a1, a2, a3, a4, a5, a6] st I := g_iconst (n := 5) dX9_leastFrom_54 (by decide) k
theorem dX9_leastFrom_55 : decode cX9_leastFrom 55 = .ok (.imul, 1) := by decide +kernel
theorem X9_leastFrom_55 {Q : Int → z_M → Prop} {a0 a1 a2 a3 a4 a5 a6 : z_V} {x y : Int} {st : List z_V} {I : z_M} (hr : inI (x * y) := by omega) (k : JX9_leastFrom Q 56 [a0, a1, a2, a3, a4, a5, a6] (aI (x * y) :: st) I) : JX9_leastFrom Q 55 [a0, a1, a2, a3, a4, a5, a6] (aI y :: aI x :: st) I := g_imul dX9_leastFrom_55 hr k
theorem X9_leastFrom_55w {Q : Int → z_M → Prop} {a0 a1 a2 a3 a4 a5 a6 : z_V} {x y : Int} {st : List z_V} {I : z_M} (k : JX9_leastFrom Q 56 [a0, a1, a2, a3, a4, a5, a6] (aI (i32 (x * y)) :: st) I) : JX9_leastFrom Q 55 [a0, a1, a2, a3, a4, a5, a6] (aI y :: aI x :: st) I := g_imulw dX9_leastFrom_55 k
theorem dX9_leastFrom_56 : decode cX9_leastFrom 56 = .ok (.iload 5, 2) := by decide +kernel
theorem X9_leastFrom_56 {Q : Int → z_M → Prop} {a0 a1 a2 a3 a4 a6 : z_V} {x : Int} {st : List z_V} {I : z_M} (k : JX9_leastFrom Q 58 [a0, a1, a2, a3, a4, aI x, a6] (aI x :: st) I) : JX9_leastFrom Q 56 [a0, a1, a2, a3, a4, aI x, a6] st I := g_iload (i := 5) (x := x) dX9_leastFrom_56 rfl k
theorem dX9_leastFrom_58 : decode cX9_leastFrom 58 = .ok (.iadd, 1) := by decide +kernel
theorem X9_leastFrom_58 {Q : Int → z_M → Prop} {a0 a1 a2 a3 a4 a5 a6 : z_V} {x y : Int} {st : List z_V} {I : z_M} (hr : inI (x + y) := by omega) (k : JX9_leastFrom Q 59 [a0, a1, a2, a3, a4, a5, a6] (aI (x + y) :: st) I) : JX9_leastFrom Q 58 [a0, a1, a2, a3, a4, a5, a6] (aI y :: aI x :: st) I := g_iadd dX9_leastFrom_58 hr k
theorem X9_leastFrom_58w {Q : Int → z_M → Prop} {a0 a1 a2 a3 a4 a5 a6 : z_V} {x y : Int} {st : List z_V} {I : z_M} (k : JX9_leastFrom Q 59 [a0, a1, a2, a3, a4, a5, a6] (aI (i32 (x + y)) :: st) I) : JX9_leastFrom Q 58 [a0, a1, a2, a3, a4, a5, a6] (aI y :: aI x :: st) I := g_iaddw dX9_leastFrom_58 k
theorem dX9_leastFrom_59 : decode cX9_leastFrom 59 = .ok (.iaload, 1) := by decide +kernel
theorem X9_leastFrom_59 {Q : Int → z_M → Prop} {a0 a1 a2 a3 a4 a5 a6 : z_V} {q : Nat} {i : Int} {st : List z_V} {I : z_M} (hk : z_cl q = 20 := by first | assumption | rfl) (h0 : 0 ≤ i := by omega) (h1 : i < z_n q := by first | omega | (simp only [zn_1, zn_9, zn_10, zn_11, zn_12, zn_13, zn_14, zn_15, zn_16, zn_18, zn_20, zn_21, zn_22, zn_23, zn_24, zn_25, zn_26, zn_27, zn_29, zn_30, zn_53, zn_55, zn_56, zn_58, zn_59, zn_61, zn_62, zn_63, zn_64, zn_65, zn_66, zn_67, zn_68, zn_69, zn_70, zn_71, zn_72, zn_73]; omega)) (k : JX9_leastFrom Q 60 [a0, a1, a2, a3, a4, a5, a6] (aI (I q i.toNat) :: st) I) : JX9_leastFrom Q 59 [a0, a1, a2, a3, a4, a5, a6] (aI i :: aR q :: st) I := g_iald dX9_leastFrom_59 hk h0 h1 k
theorem dX9_leastFrom_60 : decode cX9_leastFrom 60 = .ok (.iadd, 1) := by decide +kernel
theorem X9_leastFrom_60 {Q : Int → z_M → Prop} {a0 a1 a2 a3 a4 a5 a6 : z_V} {x y : Int} {st : List z_V} {I : z_M} (hr : inI (x + y) := by omega) (k : JX9_leastFrom Q 61 [a0, a1, a2, a3, a4, a5, a6] (aI (x + y) :: st) I) : JX9_leastFrom Q 60 [a0, a1, a2, a3, a4, a5, a6] (aI y :: aI x :: st) I := g_iadd dX9_leastFrom_60 hr k
theorem X9_leastFrom_60w {Q : Int → z_M → Prop} {a0 a1 a2 a3 a4 a5 a6 : z_V} {x y : Int} {st : List z_V} {I : z_M} (k : JX9_leastFrom Q 61 [a0, a1, a2, a3, a4, a5, a6] (aI (i32 (x + y)) :: st) I) : JX9_leastFrom Q 60 [a0, a1, a2, a3, a4, a5, a6] (aI y :: aI x :: st) I := g_iaddw dX9_leastFrom_60 k
theorem dX9_leastFrom_61 : decode cX9_leastFrom 61 = .ok (.istore 6, 2) := by decide +kernel
theorem X9_leastFrom_61 {Q : Int → z_M → Prop} {a0 a1 a2 a3 a4 a5 a6 : z_V} {x : Int} {st : List z_V} {I : z_M} (hb : z_nl [a0, a1, a2, a3, a4, a5, a6] 6 = true := by rfl) (k : JX9_leastFrom Q 63 [a0, a1, a2, a3, a4, a5, aI x] st I) : JX9_leastFrom Q 61 [a0, a1, a2, a3, a4, a5, a6] (aI x :: st) I := g_istore (i := 6) (x := x) dX9_leastFrom_61 (show 6 < 7 from by decide) hb k
theorem dX9_leastFrom_63 : decode cX9_leastFrom 63 = .ok (.iload 4, 2) := by decide +kernel
theorem X9_leastFrom_63 {Q : Int → z_M → Prop} {a0 a1 a2 a3 a5 a6 : z_V} {x : Int} {st : List z_V} {I : z_M} (k : JX9_leastFrom Q 65 [a0, a1, a2, a3, aI x, a5, a6] (aI x :: st) I) : JX9_leastFrom Q 63 [a0, a1, a2, a3, aI x, a5, a6] st I := g_iload (i := 4) (x := x) dX9_leastFrom_63 rfl k
theorem dX9_leastFrom_65 : decode cX9_leastFrom 65 = .ok (.iload 6, 2) := by decide +kernel
theorem X9_leastFrom_65 {Q : Int → z_M → Prop} {a0 a1 a2 a3 a4 a5 : z_V} {x : Int} {st : List z_V} {I : z_M} (k : JX9_leastFrom Q 67 [a0, a1, a2, a3, a4, a5, aI x] (aI x :: st) I) : JX9_leastFrom Q 65 [a0, a1, a2, a3, a4, a5, aI x] st I := g_iload (i := 6) (x := x) dX9_leastFrom_65 rfl k
theorem dX9_leastFrom_67 : decode cX9_leastFrom 67 = .ok (.invokestatic 40, 3) := by decide +kernel
theorem X9_leastFrom_67 {Q : Int → z_M → Prop} {a0 a1 a2 a3 a4 a5 a6 : z_V} {x y : Int} {st : List z_V} {I : z_M} (hst : z_sw st ≤ 2 := by exact Nat.le_of_ble_eq_true rfl) (k : JX9_leastFrom Q 70 [a0, a1, a2, a3, a4, a5, a6] (aI (if y < x then y else x) :: st) I) : JX9_leastFrom Q 67 [a0, a1, a2, a3, a4, a5, a6] (aI y :: aI x :: st) I := g_mmin dX9_leastFrom_67 m_37_3 m_37_4 m_29_10 m_37_5 (by decide) (Nat.le_trans (Nat.add_le_add_right hst 13) (by decide)) ⟨by decide, by decide⟩ k
theorem dX9_leastFrom_70 : decode cX9_leastFrom 70 = .ok (.istore 4, 2) := by decide +kernel
theorem X9_leastFrom_70 {Q : Int → z_M → Prop} {a0 a1 a2 a3 a4 a5 a6 : z_V} {x : Int} {st : List z_V} {I : z_M} (hb : z_nl [a0, a1, a2, a3, a4, a5, a6] 4 = true := by rfl) (k : JX9_leastFrom Q 72 [a0, a1, a2, a3, aI x, a5, a6] st I) : JX9_leastFrom Q 70 [a0, a1, a2, a3, a4, a5, a6] (aI x :: st) I := g_istore (i := 4) (x := x) dX9_leastFrom_70 (show 4 < 7 from by decide) hb k
theorem dX9_leastFrom_72 : decode cX9_leastFrom 72 = .ok (.iinc 5 1, 3) := by decide +kernel
theorem X9_leastFrom_72 {Q : Int → z_M → Prop} {a0 a1 a2 a3 a4 a6 : z_V} {x : Int} {st : List z_V} {I : z_M} (hb : z_nl [a0, a1, a2, a3, a4, aI x, a6] 5 = true := by rfl) (hr : inI (x + 1) := by omega) (k : JX9_leastFrom Q 75 [a0, a1, a2, a3, a4, aI (x + 1), a6] st I) : JX9_leastFrom Q 72 [a0, a1, a2, a3, a4, aI x, a6] st I := g_iinc (i := 5) (x := x) dX9_leastFrom_72 rfl (show 5 < 7 from by decide) hb hr k
theorem dX9_leastFrom_75 : decode cX9_leastFrom 75 = .ok (.goto (-57), 3) := by decide +kernel
theorem X9_leastFrom_75 {Q : Int → z_M → Prop} {a0 a1 a2 a3 a4 a5 a6 : z_V} {st : List z_V} {I : z_M} (k : JX9_leastFrom Q 18 [a0, a1, a2, a3, a4, a5, a6] st I) : JX9_leastFrom Q 75 [a0, a1, a2, a3, a4, a5, a6] st I := g_goto dX9_leastFrom_75 (by decide) k
theorem dX9_leastFrom_78 : decode cX9_leastFrom 78 = .ok (.iload 4, 2) := by decide +kernel
theorem X9_leastFrom_78 {Q : Int → z_M → Prop} {a0 a1 a2 a3 a5 a6 : z_V} {x : Int} {st : List z_V} {I : z_M} (k : JX9_leastFrom Q 80 [a0, a1, a2, a3, aI x, a5, a6] (aI x :: st) I) : JX9_leastFrom Q 78 [a0, a1, a2, a3, aI x, a5, a6] st I := g_iload (i := 4) (x := x) dX9_leastFrom_78 rfl k
theorem dX9_leastFrom_80 : decode cX9_leastFrom 80 = .ok (.ireturn, 1) := by decide +kernel
theorem X9_leastFrom_80 {Q : Int → z_M → Prop} {a0 a1 a2 a3 a4 a5 a6 : z_V} {x : Int} {I : z_M} (hq : Q x I) : JX9_leastFrom Q 80 [a0, a1, a2, a3, a4, a5, a6] [aI x] I := g_ireturn dX9_leastFrom_80 ⟨x, rfl, hq⟩
theorem dJ6_bitCount_0f7a4_0 : decode cJ6_bitCount_0f7a4 0 = .ok (.iload_n 0, 1) := by decide +kernel
theorem J6_bitCount_0f7a4_0 {Q : Int → z_M → Prop}  {x : Int} {st : List z_V} {I : z_M} (k : JJ6_bitCount_0f7a4 Q 1 [aI x] (aI x :: st) I) : JJ6_bitCount_0f7a4 Q 0 [aI x] st I := g_iload_n (i := 0) (x := x) dJ6_bitCount_0f7a4_0 rfl rfl k
theorem dJ6_bitCount_0f7a4_1 : decode cJ6_bitCount_0f7a4 1 = .ok (.iload_n 0, 1) := by decide +kernel
theorem J6_bitCount_0f7a4_1 {Q : Int → z_M → Prop}  {x : Int} {st : List z_V} {I : z_M} (k : JJ6_bitCount_0f7a4 Q 2 [aI x] (aI x :: st) I) : JJ6_bitCount_0f7a4 Q 1 [aI x] st I := g_iload_n (i := 0) (x := x) dJ6_bitCount_0f7a4_1 rfl rfl k
theorem dJ6_bitCount_0f7a4_2 : decode cJ6_bitCount_0f7a4 2 = .ok (.iconst 1, 1) := by decide +kernel
theorem J6_bitCount_0f7a4_2 {Q : Int → z_M → Prop} {a0 : z_V} {st : List z_V} {I : z_M} (k : JJ6_bitCount_0f7a4 Q 3 [a0] (aI 1 :: st) I) : JJ6_bitCount_0f7a4 Q 2 [a0] st I := g_iconst (n := 1) dJ6_bitCount_0f7a4_2 (by decide) k
theorem dJ6_bitCount_0f7a4_3 : decode cJ6_bitCount_0f7a4 3 = .ok (.iushr, 1) := by decide +kernel
theorem J6_bitCount_0f7a4_3 {Q : Int → z_M → Prop} {a0 : z_V} {x y : Int} {st : List z_V} {I : z_M} (hx : 0 ≤ x := by first | omega | exact Int.natCast_nonneg _) (hy : 0 ≤ y := by first | omega | exact Int.natCast_nonneg _) (hy2 : y < 32 := by omega) (k : JJ6_bitCount_0f7a4 Q 4 [a0] (aI (zshr x y) :: st) I) : JJ6_bitCount_0f7a4 Q 3 [a0] (aI y :: aI x :: st) I := g_iushrz dJ6_bitCount_0f7a4_3 hx hy hy2 k
theorem dJ6_bitCount_0f7a4_4 : decode cJ6_bitCount_0f7a4 4 = .ok (.ldc_w 265, 3) := by decide +kernel
theorem J6_bitCount_0f7a4_4 {Q : Int → z_M → Prop} {a0 : z_V} {st : List z_V} {I : z_M} (k : JJ6_bitCount_0f7a4 Q 7 [a0] (aI (1431655765) :: st) I) : JJ6_bitCount_0f7a4 Q 4 [a0] st I := g_ldc_w (n := 1431655765) dJ6_bitCount_0f7a4_4 m_35_1 (by decide +kernel) (by decide) k
theorem dJ6_bitCount_0f7a4_7 : decode cJ6_bitCount_0f7a4 7 = .ok (.iand, 1) := by decide +kernel
theorem J6_bitCount_0f7a4_7 {Q : Int → z_M → Prop} {a0 : z_V} {x y : Int} {st : List z_V} {I : z_M} (hx : 0 ≤ x := by first | omega | exact Int.natCast_nonneg _) (hy : 0 ≤ y := by first | omega | exact Int.natCast_nonneg _) (k : JJ6_bitCount_0f7a4 Q 8 [a0] (aI (zand x y) :: st) I) : JJ6_bitCount_0f7a4 Q 7 [a0] (aI y :: aI x :: st) I := g_iandz dJ6_bitCount_0f7a4_7 hx hy k
theorem dJ6_bitCount_0f7a4_8 : decode cJ6_bitCount_0f7a4 8 = .ok (.isub, 1) := by decide +kernel
theorem J6_bitCount_0f7a4_8 {Q : Int → z_M → Prop} {a0 : z_V} {x y : Int} {st : List z_V} {I : z_M} (hr : inI (x - y) := by omega) (k : JJ6_bitCount_0f7a4 Q 9 [a0] (aI (x - y) :: st) I) : JJ6_bitCount_0f7a4 Q 8 [a0] (aI y :: aI x :: st) I := g_isub dJ6_bitCount_0f7a4_8 hr k
theorem J6_bitCount_0f7a4_8w {Q : Int → z_M → Prop} {a0 : z_V} {x y : Int} {st : List z_V} {I : z_M} (k : JJ6_bitCount_0f7a4 Q 9 [a0] (aI (i32 (x - y)) :: st) I) : JJ6_bitCount_0f7a4 Q 8 [a0] (aI y :: aI x :: st) I := g_isubw dJ6_bitCount_0f7a4_8 k
theorem dJ6_bitCount_0f7a4_9 : decode cJ6_bitCount_0f7a4 9 = .ok (.istore_n 0, 1) := by decide +kernel
theorem J6_bitCount_0f7a4_9 {Q : Int → z_M → Prop} {a0 : z_V} {x : Int} {st : List z_V} {I : z_M} (hb : z_nl [a0] 0 = true := by rfl) (k : JJ6_bitCount_0f7a4 Q 10 [aI x] st I) : JJ6_bitCount_0f7a4 Q 9 [a0] (aI x :: st) I := g_istore_n (i := 0) (x := x) dJ6_bitCount_0f7a4_9 rfl (show 0 < 1 from by decide) hb k
theorem dJ6_bitCount_0f7a4_10 : decode cJ6_bitCount_0f7a4 10 = .ok (.iload_n 0, 1) := by decide +kernel
theorem J6_bitCount_0f7a4_10 {Q : Int → z_M → Prop}  {x : Int} {st : List z_V} {I : z_M} (k : JJ6_bitCount_0f7a4 Q 11 [aI x] (aI x :: st) I) : JJ6_bitCount_0f7a4 Q 10 [aI x] st I := g_iload_n (i := 0) (x := x) dJ6_bitCount_0f7a4_10 rfl rfl k
theorem dJ6_bitCount_0f7a4_11 : decode cJ6_bitCount_0f7a4 11 = .ok (.ldc_w 266, 3) := by decide +kernel
theorem J6_bitCount_0f7a4_11 {Q : Int → z_M → Prop} {a0 : z_V} {st : List z_V} {I : z_M} (k : JJ6_bitCount_0f7a4 Q 14 [a0] (aI (858993459) :: st) I) : JJ6_bitCount_0f7a4 Q 11 [a0] st I := g_ldc_w (n := 858993459) dJ6_bitCount_0f7a4_11 m_35_2 (by decide +kernel) (by decide) k
theorem dJ6_bitCount_0f7a4_14 : decode cJ6_bitCount_0f7a4 14 = .ok (.iand, 1) := by decide +kernel
theorem J6_bitCount_0f7a4_14 {Q : Int → z_M → Prop} {a0 : z_V} {x y : Int} {st : List z_V} {I : z_M} (hx : 0 ≤ x := by first | omega | exact Int.natCast_nonneg _) (hy : 0 ≤ y := by first | omega | exact Int.natCast_nonneg _) (k : JJ6_bitCount_0f7a4 Q 15 [a0] (aI (zand x y) :: st) I) : JJ6_bitCount_0f7a4 Q 14 [a0] (aI y :: aI x :: st) I := g_iandz dJ6_bitCount_0f7a4_14 hx hy k
theorem dJ6_bitCount_0f7a4_15 : decode cJ6_bitCount_0f7a4 15 = .ok (.iload_n 0, 1) := by decide +kernel
theorem J6_bitCount_0f7a4_15 {Q : Int → z_M → Prop}  {x : Int} {st : List z_V} {I : z_M} (k : JJ6_bitCount_0f7a4 Q 16 [aI x] (aI x :: st) I) : JJ6_bitCount_0f7a4 Q 15 [aI x] st I := g_iload_n (i := 0) (x := x) dJ6_bitCount_0f7a4_15 rfl rfl k
theorem dJ6_bitCount_0f7a4_16 : decode cJ6_bitCount_0f7a4 16 = .ok (.iconst 2, 1) := by decide +kernel
theorem J6_bitCount_0f7a4_16 {Q : Int → z_M → Prop} {a0 : z_V} {st : List z_V} {I : z_M} (k : JJ6_bitCount_0f7a4 Q 17 [a0] (aI 2 :: st) I) : JJ6_bitCount_0f7a4 Q 16 [a0] st I := g_iconst (n := 2) dJ6_bitCount_0f7a4_16 (by decide) k
theorem dJ6_bitCount_0f7a4_17 : decode cJ6_bitCount_0f7a4 17 = .ok (.iushr, 1) := by decide +kernel
theorem J6_bitCount_0f7a4_17 {Q : Int → z_M → Prop} {a0 : z_V} {x y : Int} {st : List z_V} {I : z_M} (hx : 0 ≤ x := by first | omega | exact Int.natCast_nonneg _) (hy : 0 ≤ y := by first | omega | exact Int.natCast_nonneg _) (hy2 : y < 32 := by omega) (k : JJ6_bitCount_0f7a4 Q 18 [a0] (aI (zshr x y) :: st) I) : JJ6_bitCount_0f7a4 Q 17 [a0] (aI y :: aI x :: st) I := g_iushrz dJ6_bitCount_0f7a4_17 hx hy hy2 k
theorem dJ6_bitCount_0f7a4_18 : decode cJ6_bitCount_0f7a4 18 = .ok (.ldc_w 266, 3) := by decide +kernel
theorem J6_bitCount_0f7a4_18 {Q : Int → z_M → Prop} {a0 : z_V} {st : List z_V} {I : z_M} (k : JJ6_bitCount_0f7a4 Q 21 [a0] (aI (858993459) :: st) I) : JJ6_bitCount_0f7a4 Q 18 [a0] st I := g_ldc_w (n := 858993459) dJ6_bitCount_0f7a4_18 m_35_2 (by decide +kernel) (by decide) k
theorem dJ6_bitCount_0f7a4_21 : decode cJ6_bitCount_0f7a4 21 = .ok (.iand, 1) := by decide +kernel
theorem J6_bitCount_0f7a4_21 {Q : Int → z_M → Prop} {a0 : z_V} {x y : Int} {st : List z_V} {I : z_M} (hx : 0 ≤ x := by first | omega | exact Int.natCast_nonneg _) (hy : 0 ≤ y := by first | omega | exact Int.natCast_nonneg _) (k : JJ6_bitCount_0f7a4 Q 22 [a0] (aI (zand x y) :: st) I) : JJ6_bitCount_0f7a4 Q 21 [a0] (aI y :: aI x :: st) I := g_iandz dJ6_bitCount_0f7a4_21 hx hy k
theorem dJ6_bitCount_0f7a4_22 : decode cJ6_bitCount_0f7a4 22 = .ok (.iadd, 1) := by decide +kernel
theorem J6_bitCount_0f7a4_22 {Q : Int → z_M → Prop} {a0 : z_V} {x y : Int} {st : List z_V} {I : z_M} (hr : inI (x + y) := by omega) (k : JJ6_bitCount_0f7a4 Q 23 [a0] (aI (x + y) :: st) I) : JJ6_bitCount_0f7a4 Q 22 [a0] (aI y :: aI x :: st) I := g_iadd dJ6_bitCount_0f7a4_22 hr k
theorem J6_bitCount_0f7a4_22w {Q : Int → z_M → Prop} {a0 : z_V} {x y : Int} {st : List z_V} {I : z_M} (k : JJ6_bitCount_0f7a4 Q 23 [a0] (aI (i32 (x + y)) :: st) I) : JJ6_bitCount_0f7a4 Q 22 [a0] (aI y :: aI x :: st) I := g_iaddw dJ6_bitCount_0f7a4_22 k
theorem dJ6_bitCount_0f7a4_23 : decode cJ6_bitCount_0f7a4 23 = .ok (.istore_n 0, 1) := by decide +kernel
theorem J6_bitCount_0f7a4_23 {Q : Int → z_M → Prop} {a0 : z_V} {x : Int} {st : List z_V} {I : z_M} (hb : z_nl [a0] 0 = true := by rfl) (k : JJ6_bitCount_0f7a4 Q 24 [aI x] st I) : JJ6_bitCount_0f7a4 Q 23 [a0] (aI x :: st) I := g_istore_n (i := 0) (x := x) dJ6_bitCount_0f7a4_23 rfl (show 0 < 1 from by decide) hb k
theorem dJ6_bitCount_0f7a4_24 : decode cJ6_bitCount_0f7a4 24 = .ok (.iload_n 0, 1) := by decide +kernel
theorem J6_bitCount_0f7a4_24 {Q : Int → z_M → Prop}  {x : Int} {st : List z_V} {I : z_M} (k : JJ6_bitCount_0f7a4 Q 25 [aI x] (aI x :: st) I) : JJ6_bitCount_0f7a4 Q 24 [aI x] st I := g_iload_n (i := 0) (x := x) dJ6_bitCount_0f7a4_24 rfl rfl k
theorem dJ6_bitCount_0f7a4_25 : decode cJ6_bitCount_0f7a4 25 = .ok (.iload_n 0, 1) := by decide +kernel
theorem J6_bitCount_0f7a4_25 {Q : Int → z_M → Prop}  {x : Int} {st : List z_V} {I : z_M} (k : JJ6_bitCount_0f7a4 Q 26 [aI x] (aI x :: st) I) : JJ6_bitCount_0f7a4 Q 25 [aI x] st I := g_iload_n (i := 0) (x := x) dJ6_bitCount_0f7a4_25 rfl rfl k
theorem dJ6_bitCount_0f7a4_26 : decode cJ6_bitCount_0f7a4 26 = .ok (.iconst 4, 1) := by decide +kernel
theorem J6_bitCount_0f7a4_26 {Q : Int → z_M → Prop} {a0 : z_V} {st : List z_V} {I : z_M} (k : JJ6_bitCount_0f7a4 Q 27 [a0] (aI 4 :: st) I) : JJ6_bitCount_0f7a4 Q 26 [a0] st I := g_iconst (n := 4) dJ6_bitCount_0f7a4_26 (by decide) k
theorem dJ6_bitCount_0f7a4_27 : decode cJ6_bitCount_0f7a4 27 = .ok (.iushr, 1) := by decide +kernel
theorem J6_bitCount_0f7a4_27 {Q : Int → z_M → Prop} {a0 : z_V} {x y : Int} {st : List z_V} {I : z_M} (hx : 0 ≤ x := by first | omega | exact Int.natCast_nonneg _) (hy : 0 ≤ y := by first | omega | exact Int.natCast_nonneg _) (hy2 : y < 32 := by omega) (k : JJ6_bitCount_0f7a4 Q 28 [a0] (aI (zshr x y) :: st) I) : JJ6_bitCount_0f7a4 Q 27 [a0] (aI y :: aI x :: st) I := g_iushrz dJ6_bitCount_0f7a4_27 hx hy hy2 k
theorem dJ6_bitCount_0f7a4_28 : decode cJ6_bitCount_0f7a4 28 = .ok (.iadd, 1) := by decide +kernel
theorem J6_bitCount_0f7a4_28 {Q : Int → z_M → Prop} {a0 : z_V} {x y : Int} {st : List z_V} {I : z_M} (hr : inI (x + y) := by omega) (k : JJ6_bitCount_0f7a4 Q 29 [a0] (aI (x + y) :: st) I) : JJ6_bitCount_0f7a4 Q 28 [a0] (aI y :: aI x :: st) I := g_iadd dJ6_bitCount_0f7a4_28 hr k
theorem J6_bitCount_0f7a4_28w {Q : Int → z_M → Prop} {a0 : z_V} {x y : Int} {st : List z_V} {I : z_M} (k : JJ6_bitCount_0f7a4 Q 29 [a0] (aI (i32 (x + y)) :: st) I) : JJ6_bitCount_0f7a4 Q 28 [a0] (aI y :: aI x :: st) I := g_iaddw dJ6_bitCount_0f7a4_28 k
theorem dJ6_bitCount_0f7a4_29 : decode cJ6_bitCount_0f7a4 29 = .ok (.ldc_w 267, 3) := by decide +kernel
theorem J6_bitCount_0f7a4_29 {Q : Int → z_M → Prop} {a0 : z_V} {st : List z_V} {I : z_M} (k : JJ6_bitCount_0f7a4 Q 32 [a0] (aI (252645135) :: st) I) : JJ6_bitCount_0f7a4 Q 29 [a0] st I := g_ldc_w (n := 252645135) dJ6_bitCount_0f7a4_29 m_35_3 (by decide +kernel) (by decide) k
theorem dJ6_bitCount_0f7a4_32 : decode cJ6_bitCount_0f7a4 32 = .ok (.iand, 1) := by decide +kernel
theorem J6_bitCount_0f7a4_32 {Q : Int → z_M → Prop} {a0 : z_V} {x y : Int} {st : List z_V} {I : z_M} (hx : 0 ≤ x := by first | omega | exact Int.natCast_nonneg _) (hy : 0 ≤ y := by first | omega | exact Int.natCast_nonneg _) (k : JJ6_bitCount_0f7a4 Q 33 [a0] (aI (zand x y) :: st) I) : JJ6_bitCount_0f7a4 Q 32 [a0] (aI y :: aI x :: st) I := g_iandz dJ6_bitCount_0f7a4_32 hx hy k
theorem dJ6_bitCount_0f7a4_33 : decode cJ6_bitCount_0f7a4 33 = .ok (.istore_n 0, 1) := by decide +kernel
theorem J6_bitCount_0f7a4_33 {Q : Int → z_M → Prop} {a0 : z_V} {x : Int} {st : List z_V} {I : z_M} (hb : z_nl [a0] 0 = true := by rfl) (k : JJ6_bitCount_0f7a4 Q 34 [aI x] st I) : JJ6_bitCount_0f7a4 Q 33 [a0] (aI x :: st) I := g_istore_n (i := 0) (x := x) dJ6_bitCount_0f7a4_33 rfl (show 0 < 1 from by decide) hb k
theorem dJ6_bitCount_0f7a4_34 : decode cJ6_bitCount_0f7a4 34 = .ok (.iload_n 0, 1) := by decide +kernel
theorem J6_bitCount_0f7a4_34 {Q : Int → z_M → Prop}  {x : Int} {st : List z_V} {I : z_M} (k : JJ6_bitCount_0f7a4 Q 35 [aI x] (aI x :: st) I) : JJ6_bitCount_0f7a4 Q 34 [aI x] st I := g_iload_n (i := 0) (x := x) dJ6_bitCount_0f7a4_34 rfl rfl k
theorem dJ6_bitCount_0f7a4_35 : decode cJ6_bitCount_0f7a4 35 = .ok (.iload_n 0, 1) := by decide +kernel
theorem J6_bitCount_0f7a4_35 {Q : Int → z_M → Prop}  {x : Int} {st : List z_V} {I : z_M} (k : JJ6_bitCount_0f7a4 Q 36 [aI x] (aI x :: st) I) : JJ6_bitCount_0f7a4 Q 35 [aI x] st I := g_iload_n (i := 0) (x := x) dJ6_bitCount_0f7a4_35 rfl rfl k
theorem dJ6_bitCount_0f7a4_36 : decode cJ6_bitCount_0f7a4 36 = .ok (.bipush 8, 2) := by decide +kernel
theorem J6_bitCount_0f7a4_36 {Q : Int → z_M → Prop} {a0 : z_V} {st : List z_V} {I : z_M} (k : JJ6_bitCount_0f7a4 Q 38 [a0] (aI 8 :: st) I) : JJ6_bitCount_0f7a4 Q 36 [a0] st I := g_bipush (n := 8) dJ6_bitCount_0f7a4_36 (by decide +kernel) (by decide) k
theorem dJ6_bitCount_0f7a4_38 : decode cJ6_bitCount_0f7a4 38 = .ok (.iushr, 1) := by decide +kernel
theorem J6_bitCount_0f7a4_38 {Q : Int → z_M → Prop} {a0 : z_V} {x y : Int} {st : List z_V} {I : z_M} (hx : 0 ≤ x := by first | omega | exact Int.natCast_nonneg _) (hy : 0 ≤ y := by first | omega | exact Int.natCast_nonneg _) (hy2 : y < 32 := by omega) (k : JJ6_bitCount_0f7a4 Q 39 [a0] (aI (zshr x y) :: st) I) : JJ6_bitCount_0f7a4 Q 38 [a0] (aI y :: aI x :: st) I := g_iushrz dJ6_bitCount_0f7a4_38 hx hy hy2 k
theorem dJ6_bitCount_0f7a4_39 : decode cJ6_bitCount_0f7a4 39 = .ok (.iadd, 1) := by decide +kernel
theorem J6_bitCount_0f7a4_39 {Q : Int → z_M → Prop} {a0 : z_V} {x y : Int} {st : List z_V} {I : z_M} (hr : inI (x + y) := by omega) (k : JJ6_bitCount_0f7a4 Q 40 [a0] (aI (x + y) :: st) I) : JJ6_bitCount_0f7a4 Q 39 [a0] (aI y :: aI x :: st) I := g_iadd dJ6_bitCount_0f7a4_39 hr k
theorem J6_bitCount_0f7a4_39w {Q : Int → z_M → Prop} {a0 : z_V} {x y : Int} {st : List z_V} {I : z_M} (k : JJ6_bitCount_0f7a4 Q 40 [a0] (aI (i32 (x + y)) :: st) I) : JJ6_bitCount_0f7a4 Q 39 [a0] (aI y :: aI x :: st) I := g_iaddw dJ6_bitCount_0f7a4_39 k
theorem dJ6_bitCount_0f7a4_40 : decode cJ6_bitCount_0f7a4 40 = .ok (.istore_n 0, 1) := by decide +kernel
theorem J6_bitCount_0f7a4_40 {Q : Int → z_M → Prop} {a0 : z_V} {x : Int} {st : List z_V} {I : z_M} (hb : z_nl [a0] 0 = true := by rfl) (k : JJ6_bitCount_0f7a4 Q 41 [aI x] st I) : JJ6_bitCount_0f7a4 Q 40 [a0] (aI x :: st) I := g_istore_n (i := 0) (x := x) dJ6_bitCount_0f7a4_40 rfl (show 0 < 1 from by decide) hb k
theorem dJ6_bitCount_0f7a4_41 : decode cJ6_bitCount_0f7a4 41 = .ok (.iload_n 0, 1) := by decide +kernel
theorem J6_bitCount_0f7a4_41 {Q : Int → z_M → Prop}  {x : Int} {st : List z_V} {I : z_M} (k : JJ6_bitCount_0f7a4 Q 42 [aI x] (aI x :: st) I) : JJ6_bitCount_0f7a4 Q 41 [aI x] st I := g_iload_n (i := 0) (x := x) dJ6_bitCount_0f7a4_41 rfl rfl k
theorem dJ6_bitCount_0f7a4_42 : decode cJ6_bitCount_0f7a4 42 = .ok (.iload_n 0, 1) := by decide +kernel
theorem J6_bitCount_0f7a4_42 {Q : Int → z_M → Prop}  {x : Int} {st : List z_V} {I : z_M} (k : JJ6_bitCount_0f7a4 Q 43 [aI x] (aI x :: st) I) : JJ6_bitCount_0f7a4 Q 42 [aI x] st I := g_iload_n (i := 0) (x := x) dJ6_bitCount_0f7a4_42 rfl rfl k
theorem dJ6_bitCount_0f7a4_43 : decode cJ6_bitCount_0f7a4 43 = .ok (.bipush 16, 2) := by decide +kernel
theorem J6_bitCount_0f7a4_43 {Q : Int → z_M → Prop} {a0 : z_V} {st : List z_V} {I : z_M} (k : JJ6_bitCount_0f7a4 Q 45 [a0] (aI 16 :: st) I) : JJ6_bitCount_0f7a4 Q 43 [a0] st I := g_bipush (n := 16) dJ6_bitCount_0f7a4_43 (by decide +kernel) (by decide) k
theorem dJ6_bitCount_0f7a4_45 : decode cJ6_bitCount_0f7a4 45 = .ok (.iushr, 1) := by decide +kernel
theorem J6_bitCount_0f7a4_45 {Q : Int → z_M → Prop} {a0 : z_V} {x y : Int} {st : List z_V} {I : z_M} (hx : 0 ≤ x := by first | omega | exact Int.natCast_nonneg _) (hy : 0 ≤ y := by first | omega | exact Int.natCast_nonneg _) (hy2 : y < 32 := by omega) (k : JJ6_bitCount_0f7a4 Q 46 [a0] (aI (zshr x y) :: st) I) : JJ6_bitCount_0f7a4 Q 45 [a0] (aI y :: aI x :: st) I := g_iushrz dJ6_bitCount_0f7a4_45 hx hy hy2 k
theorem dJ6_bitCount_0f7a4_46 : decode cJ6_bitCount_0f7a4 46 = .ok (.iadd, 1) := by decide +kernel
theorem J6_bitCount_0f7a4_46 {Q : Int → z_M → Prop} {a0 : z_V} {x y : Int} {st : List z_V} {I : z_M} (hr : inI (x + y) := by omega) (k : JJ6_bitCount_0f7a4 Q 47 [a0] (aI (x + y) :: st) I) : JJ6_bitCount_0f7a4 Q 46 [a0] (aI y :: aI x :: st) I := g_iadd dJ6_bitCount_0f7a4_46 hr k
theorem J6_bitCount_0f7a4_46w {Q : Int → z_M → Prop} {a0 : z_V} {x y : Int} {st : List z_V} {I : z_M} (k : JJ6_bitCount_0f7a4 Q 47 [a0] (aI (i32 (x + y)) :: st) I) : JJ6_bitCount_0f7a4 Q 46 [a0] (aI y :: aI x :: st) I := g_iaddw dJ6_bitCount_0f7a4_46 k
theorem dJ6_bitCount_0f7a4_47 : decode cJ6_bitCount_0f7a4 47 = .ok (.istore_n 0, 1) := by decide +kernel
theorem J6_bitCount_0f7a4_47 {Q : Int → z_M → Prop} {a0 : z_V} {x : Int} {st : List z_V} {I : z_M} (hb : z_nl [a0] 0 = true := by rfl) (k : JJ6_bitCount_0f7a4 Q 48 [aI x] st I) : JJ6_bitCount_0f7a4 Q 47 [a0] (aI x :: st) I := g_istore_n (i := 0) (x := x) dJ6_bitCount_0f7a4_47 rfl (show 0 < 1 from by decide) hb k
theorem dJ6_bitCount_0f7a4_48 : decode cJ6_bitCount_0f7a4 48 = .ok (.iload_n 0, 1) := by decide +kernel
theorem J6_bitCount_0f7a4_48 {Q : Int → z_M → Prop}  {x : Int} {st : List z_V} {I : z_M} (k : JJ6_bitCount_0f7a4 Q 49 [aI x] (aI x :: st) I) : JJ6_bitCount_0f7a4 Q 48 [aI x] st I := g_iload_n (i := 0) (x := x) dJ6_bitCount_0f7a4_48 rfl rfl k
theorem dJ6_bitCount_0f7a4_49 : decode cJ6_bitCount_0f7a4 49 = .ok (.bipush 63, 2) := by decide +kernel
theorem J6_bitCount_0f7a4_49 {Q : Int → z_M → Prop} {a0 : z_V} {st : List z_V} {I : z_M} (k : JJ6_bitCount_0f7a4 Q 51 [a0] (aI 63 :: st) I) : JJ6_bitCount_0f7a4 Q 49 [a0] st I := g_bipush (n := 63) dJ6_bitCount_0f7a4_49 (by decide +kernel) (by decide) k
theorem dJ6_bitCount_0f7a4_51 : decode cJ6_bitCount_0f7a4 51 = .ok (.iand, 1) := by decide +kernel
theorem J6_bitCount_0f7a4_51 {Q : Int → z_M → Prop} {a0 : z_V} {x y : Int} {st : List z_V} {I : z_M} (hx : 0 ≤ x := by first | omega | exact Int.natCast_nonneg _) (hy : 0 ≤ y := by first | omega | exact Int.natCast_nonneg _) (k : JJ6_bitCount_0f7a4 Q 52 [a0] (aI (zand x y) :: st) I) : JJ6_bitCount_0f7a4 Q 51 [a0] (aI y :: aI x :: st) I := g_iandz dJ6_bitCount_0f7a4_51 hx hy k
theorem dJ6_bitCount_0f7a4_52 : decode cJ6_bitCount_0f7a4 52 = .ok (.ireturn, 1) := by decide +kernel
theorem J6_bitCount_0f7a4_52 {Q : Int → z_M → Prop} {a0 : z_V} {x : Int} {I : z_M} (hq : Q x I) : JJ6_bitCount_0f7a4 Q 52 [a0] [aI x] I := g_ireturn dJ6_bitCount_0f7a4_52 ⟨x, rfl, hq⟩

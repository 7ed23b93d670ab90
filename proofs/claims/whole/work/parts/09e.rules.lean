theorem dX11_in_0 : decode cX11_in 0 = .ok (.lload_n 0, 1) := by decide +kernel
theorem X11_in_0 {Q : Int → z_M → Prop} {a1 a2 a3 a4 a5 : z_V} {x : Int} {st : List z_V} {I : z_M} (k : JX11_in Q 1 [aL x, a1, a2, a3, a4, a5] (aL x :: st) I) : JX11_in Q 0 [aL x, a1, a2, a3, a4, a5] st I := g_lload_n (i := 0) (x := x) dX11_in_0 rfl rfl k
theorem dX11_in_1 : decode cX11_in 1 = .ok (.lload_n 2, 1) := by decide +kernel
theorem X11_in_1 {Q : Int → z_M → Prop} {a0 a1 a3 a4 a5 : z_V} {x : Int} {st : List z_V} {I : z_M} (k : JX11_in Q 2 [a0, a1, aL x, a3, a4, a5] (aL x :: st) I) : JX11_in Q 1 [a0, a1, aL x, a3, a4, a5] st I := g_lload_n (i := 2) (x := x) dX11_in_1 rfl rfl k
theorem dX11_in_2 : decode cX11_in 2 = .ok (.lcmp, 1) := by decide +kernel
theorem dX11_in_3 : decode cX11_in 3 = .ok (.ifCond .lt 14, 3) := by decide +kernel
theorem X11_in_2 {Q : Int → z_M → Prop} {a0 a1 a2 a3 a4 a5 : z_V} {x y : Int} {st : List z_V} {I : z_M} (kt : x < y → JX11_in Q 17 [a0, a1, a2, a3, a4, a5] st I) (kf : y ≤ x → JX11_in Q 6 [a0, a1, a2, a3, a4, a5] st I) : JX11_in Q 2 [a0, a1, a2, a3, a4, a5] (aL y :: aL x :: st) I := g_lcmp dX11_in_2 (g_if_lt dX11_in_3 (by decide) (fun h => kt (by revert h; split <;> (try split) <;> omega)) (fun h => kf (by revert h; split <;> (try split) <;> omega)))
theorem X11_in_3 {Q : Int → z_M → Prop} {a0 a1 a2 a3 a4 a5 : z_V} {x : Int} {st : List z_V} {I : z_M} (kt : x < 0 → JX11_in Q 17 [a0, a1, a2, a3, a4, a5] st I) (kf : 0 ≤ x → JX11_in Q 6 [a0, a1, a2, a3, a4, a5] st I) : JX11_in Q 3 [a0, a1, a2, a3, a4, a5] (aI x :: st) I := g_if_lt dX11_in_3 (by decide) kt kf
theorem dX11_in_6 : decode cX11_in 6 = .ok (.lload_n 0, 1) := by decide +kernel
theorem X11_in_6 {Q : Int → z_M → Prop} {a1 a2 a3 a4 a5 : z_V} {x : Int} {st : List z_V} {I : z_M} (k : JX11_in Q 7 [aL x, a1, a2, a3, a4, a5] (aL x :: st) I) : JX11_in Q 6 [aL x, a1, a2, a3, a4, a5] st I := g_lload_n (i := 0) (x := x) dX11_in_6 rfl rfl k
theorem dX11_in_7 : decode cX11_in 7 = .ok (.lload 4, 2) := by decide +kernel
theorem X11_in_7 {Q : Int → z_M → Prop} {a0 a1 a2 a3 a5 : z_V} {x : Int} {st : List z_V} {I : z_M} (k : JX11_in Q 9 [a0, a1, a2, a3, aL x, a5] (aL x :: st) I) : JX11_in Q 7 [a0, a1, a2, a3, aL x, a5] st I := g_lload (i := 4) (x := x) dX11_in_7 rfl k
theorem dX11_in_9 : decode cX11_in 9 = .ok (.lcmp, 1) := by decide +kernel
theorem dX11_in_10 : decode cX11_in 10 = .ok (.ifCond .gt 7, 3) := by decide +kernel
theorem X11_in_9 {Q : Int → z_M → Prop} {a0 a1 a2 a3 a4 a5 : z_V} {x y : Int} {st : List z_V} {I : z_M} (kt : y < x → JX11_in Q 17 [a0, a1, a2, a3, a4, a5] st I) (kf : x ≤ y → JX11_in Q 13 [a0, a1, a2, a3, a4, a5] st I) : JX11_in Q 9 [a0, a1, a2, a3, a4, a5] (aL y :: aL x :: st) I := g_lcmp dX11_in_9 (g_if_gt dX11_in_10 (by decide) (fun h => kt (by revert h; split <;> (try split) <;> omega)) (fun h => kf (by revert h; split <;> (try split) <;> omega)))
theorem X11_in_10 {Q : Int → z_M → Prop} {a0 a1 a2 a3 a4 a5 : z_V} {x : Int} {st : List z_V} {I : z_M} (kt : 0 < x → JX11_in Q 17 [a0, a1, a2, a3, a4, a5] st I) (kf : x ≤ 0 → JX11_in Q 13 [a0, a1, a2, a3, a4, a5] st I) : JX11_in Q 10 [a0, a1, a2, a3, a4, a5] (aI x :: st) I := g_if_gt dX11_in_10 (by decide) kt kf
theorem dX11_in_13 : decode cX11_in 13 = .ok (.iconst 1, 1) := by decide +kernel
theorem X11_in_13 {Q : Int → z_M → Prop} {a0 a1 a2 a3 a4 a5 : z_V} {st : List z_V} {I : z_M} (k : JX11_in Q 14 [a0, a1, a2, a3, a4, a5] (aI 1 :: st) I) : JX11_in Q 13 [a0, a1, a2, a3, a4, a5] st I := g_iconst (n := 1) dX11_in_13 (by decide) k
theorem dX11_in_14 : decode cX11_in 14 = .ok (.goto 4, 3) := by decide +kernel
theorem X11_in_14 {Q : Int → z_M → Prop} {a0 a1 a2 a3 a4 a5 : z_V} {st : List z_V} {I : z_M} (k : JX11_in Q 18 [a0, a1, a2, a3, a4, a5] st I) : JX11_in Q 14 [a0, a1, a2, a3, a4, a5] st I := g_goto dX11_in_14 (by decide) k
theorem dX11_in_17 : decode cX11_in 17 = .ok (.iconst 0, 1) := by decide +kernel
theorem X11_in_17 {Q : Int → z_M → Prop} {a0 a1 a2 a3 a4 a5 : z_V} {st : List z_V} {I : z_M} (k : JX11_in Q 18 [a0, a1, a2, a3, a4, a5] (aI 0 :: st) I) : JX11_in Q 17 [a0, a1, a2, a3, a4, a5] st I := g_iconst (n := 0) dX11_in_17 (by decide) k
theorem dX11_in_18 : decode cX11_in 18 = .ok (.ireturn, 1) := by decide +kernel
theorem X11_in_18 {Q : Int → z_M → Prop} {a0 a1 a2 a3 a4 a5 : z_V} {x : Int} {I : z_M} (hx : x = 0 ∨ x = 1 := by omega) (hq : Q x I) : JX11_in Q 18 [a0, a1, a2, a3, a4, a5] [aI x] I := g_zreturn dX11_in_18 hx ⟨x, rfl, hq⟩
theorem dX11_bad_0 : decode cX11_bad 0 = .ok (.aload_n 0, 1) := by decide +kernel
theorem X11_bad_0 {Q : Int → z_M → Prop} {a1 : z_V} {x : Nat} {st : List z_V} {I : z_M} (k : JX11_bad Q 1 [aR x, a1] (aR x :: st) I) : JX11_bad Q 0 [aR x, a1] st I := g_aload_n (i := 0) (x := x) dX11_bad_0 rfl rfl k
theorem dX11_bad_1 : decode cX11_bad 1 = .ok (.getfield 20, 3) := by decide +kernel
theorem X11_bad_1 {Q : Int → z_M → Prop} {a0 a1 : z_V}  {st : List z_V} {I : z_M}  (k : JX11_bad Q 4 [a0, a1] (aR (64) :: st) I) : JX11_bad Q 1 [a0, a1] (aR 60 :: st) I := g_getr (ci := 11) (j := 3) (N := 23) (T := TX11) dX11_bad_1 rfl rfl (by decide) (z_nc11 rfl) inlX11 (by decide) m_5_4 rfl rfl k
theorem dX11_bad_4 : decode cX11_bad 4 = .ok (.iconst 0, 1) := by decide +kernel
theorem X11_bad_4 {Q : Int → z_M → Prop} {a0 a1 : z_V} {st : List z_V} {I : z_M} (k : JX11_bad Q 5 [a0, a1] (aI 0 :: st) I) : JX11_bad Q 4 [a0, a1] st I := g_iconst (n := 0) dX11_bad_4 (by decide) k
theorem dX11_bad_5 : decode cX11_bad 5 = .ok (.dup2, 1) := by decide +kernel
theorem X11_bad_5 {Q : Int → z_M → Prop} {a0 a1 : z_V} {x y : z_V} {st : List z_V} {I : z_M} (hx : ∀ z, x ≠ aL z := by intro z q; cases q) (hy : ∀ z, y ≠ aL z := by intro z q; cases q) (k : JX11_bad Q 6 [a0, a1] (x :: y :: x :: y :: st) I) : JX11_bad Q 5 [a0, a1] (x :: y :: st) I := g_dup2 dX11_bad_5 hx hy k
theorem dX11_bad_6 : decode cX11_bad 6 = .ok (.iaload, 1) := by decide +kernel
theorem X11_bad_6 {Q : Int → z_M → Prop} {a0 a1 : z_V} {q : Nat} {i : Int} {st : List z_V} {I : z_M} (hk : z_cl q = 20 := by first | assumption | rfl) (h0 : 0 ≤ i := by omega) (h1 : i < z_n q := by first | omega | (simp only [zn_1, zn_9, zn_10, zn_11, zn_12, zn_13, zn_14, zn_15, zn_16, zn_18, zn_20, zn_21, zn_22, zn_23, zn_24, zn_25, zn_26, zn_27, zn_29, zn_30, zn_53, zn_55, zn_56, zn_58, zn_59, zn_61, zn_62, zn_63, zn_64, zn_65, zn_66, zn_67, zn_68, zn_69, zn_70, zn_71, zn_72, zn_73]; omega)) (k : JX11_bad Q 7 [a0, a1] (aI (I q i.toNat) :: st) I) : JX11_bad Q 6 [a0, a1] (aI i :: aR q :: st) I := g_iald dX11_bad_6 hk h0 h1 k
theorem dX11_bad_7 : decode cX11_bad 7 = .ok (.iconst 1, 1) := by decide +kernel
theorem X11_bad_7 {Q : Int → z_M → Prop} {a0 a1 : z_V} {st : List z_V} {I : z_M} (k : JX11_bad Q 8 [a0, a1] (aI 1 :: st) I) : JX11_bad Q 7 [a0, a1] st I := g_iconst (n := 1) dX11_bad_7 (by decide) k
theorem dX11_bad_8 : decode cX11_bad 8 = .ok (.iadd, 1) := by decide +kernel
theorem X11_bad_8 {Q : Int → z_M → Prop} {a0 a1 : z_V} {x y : Int} {st : List z_V} {I : z_M} (hr : inI (x + y) := by omega) (k : JX11_bad Q 9 [a0, a1] (aI (x + y) :: st) I) : JX11_bad Q 8 [a0, a1] (aI y :: aI x :: st) I := g_iadd dX11_bad_8 hr k
theorem X11_bad_8w {Q : Int → z_M → Prop} {a0 a1 : z_V} {x y : Int} {st : List z_V} {I : z_M} (k : JX11_bad Q 9 [a0, a1] (aI (i32 (x + y)) :: st) I) : JX11_bad Q 8 [a0, a1] (aI y :: aI x :: st) I := g_iaddw dX11_bad_8 k
theorem dX11_bad_9 : decode cX11_bad 9 = .ok (.iastore, 1) := by decide +kernel
theorem X11_bad_9 {Q : Int → z_M → Prop} {a0 a1 : z_V} {q : Nat} {i x : Int} {st : List z_V} {I : z_M} (hk : z_cl q = 20 := by first | assumption | rfl) (h0 : 0 ≤ i := by omega) (h1 : i < z_n q := by first | omega | (simp only [zn_1, zn_9, zn_10, zn_11, zn_12, zn_13, zn_14, zn_15, zn_16, zn_18, zn_20, zn_21, zn_22, zn_23, zn_24, zn_25, zn_26, zn_27, zn_29, zn_30, zn_53, zn_55, zn_56, zn_58, zn_59, zn_61, zn_62, zn_63, zn_64, zn_65, zn_66, zn_67, zn_68, zn_69, zn_70, zn_71, zn_72, zn_73]; omega))  (k : JX11_bad Q 10 [a0, a1] st (z_up I q i.toNat x)) : JX11_bad Q 9 [a0, a1] (aI x :: aI i :: aR q :: st) I := g_iast dX11_bad_9 hk h0 h1 k
theorem dX11_bad_10 : decode cX11_bad 10 = .ok (.iload_n 1, 1) := by decide +kernel
theorem X11_bad_10 {Q : Int → z_M → Prop} {a0 : z_V} {x : Int} {st : List z_V} {I : z_M} (k : JX11_bad Q 11 [a0, aI x] (aI x :: st) I) : JX11_bad Q 10 [a0, aI x] st I := g_iload_n (i := 1) (x := x) dX11_bad_10 rfl rfl k
theorem dX11_bad_11 : decode cX11_bad 11 = .ok (.ireturn, 1) := by decide +kernel
theorem X11_bad_11 {Q : Int → z_M → Prop} {a0 a1 : z_V} {x : Int} {I : z_M} (hq : Q x I) : JX11_bad Q 11 [a0, a1] [aI x] I := g_ireturn dX11_bad_11 ⟨x, rfl, hq⟩
theorem dX11_no_0 : decode cX11_no 0 = .ok (.aload_n 0, 1) := by decide +kernel
theorem X11_no_0 {Q : Int → z_M → Prop}  {x : Nat} {st : List z_V} {I : z_M} (k : JX11_no Q 1 [aR x] (aR x :: st) I) : JX11_no Q 0 [aR x] st I := g_aload_n (i := 0) (x := x) dX11_no_0 rfl rfl k
theorem dX11_no_1 : decode cX11_no 1 = .ok (.getfield 20, 3) := by decide +kernel
theorem X11_no_1 {Q : Int → z_M → Prop} {a0 : z_V}  {st : List z_V} {I : z_M}  (k : JX11_no Q 4 [a0] (aR (64) :: st) I) : JX11_no Q 1 [a0] (aR 60 :: st) I := g_getr (ci := 11) (j := 3) (N := 23) (T := TX11) dX11_no_1 rfl rfl (by decide) (z_nc11 rfl) inlX11 (by decide) m_5_4 rfl rfl k
theorem dX11_no_4 : decode cX11_no 4 = .ok (.iconst 1, 1) := by decide +kernel
theorem X11_no_4 {Q : Int → z_M → Prop} {a0 : z_V} {st : List z_V} {I : z_M} (k : JX11_no Q 5 [a0] (aI 1 :: st) I) : JX11_no Q 4 [a0] st I := g_iconst (n := 1) dX11_no_4 (by decide) k
theorem dX11_no_5 : decode cX11_no 5 = .ok (.dup2, 1) := by decide +kernel
theorem X11_no_5 {Q : Int → z_M → Prop} {a0 : z_V} {x y : z_V} {st : List z_V} {I : z_M} (hx : ∀ z, x ≠ aL z := by intro z q; cases q) (hy : ∀ z, y ≠ aL z := by intro z q; cases q) (k : JX11_no Q 6 [a0] (x :: y :: x :: y :: st) I) : JX11_no Q 5 [a0] (x :: y :: st) I := g_dup2 dX11_no_5 hx hy k
theorem dX11_no_6 : decode cX11_no 6 = .ok (.iaload, 1) := by decide +kernel
theorem X11_no_6 {Q : Int → z_M → Prop} {a0 : z_V} {q : Nat} {i : Int} {st : List z_V} {I : z_M} (hk : z_cl q = 20 := by first | assumption | rfl) (h0 : 0 ≤ i := by omega) (h1 : i < z_n q := by first | omega | (simp only [zn_1, zn_9, zn_10, zn_11, zn_12, zn_13, zn_14, zn_15, zn_16, zn_18, zn_20, zn_21, zn_22, zn_23, zn_24, zn_25, zn_26, zn_27, zn_29, zn_30, zn_53, zn_55, zn_56, zn_58, zn_59, zn_61, zn_62, zn_63, zn_64, zn_65, zn_66, zn_67, zn_68, zn_69, zn_70, zn_71, zn_72, zn_73]; omega)) (k : JX11_no Q 7 [a0] (aI (I q i.toNat) :: st) I) : JX11_no Q 6 [a0] (aI i :: aR q :: st) I := g_iald dX11_no_6 hk h0 h1 k
theorem dX11_no_7 : decode cX11_no 7 = .ok (.iconst 1, 1) := by decide +kernel
theorem X11_no_7 {Q : Int → z_M → Prop} {a0 : z_V} {st : List z_V} {I : z_M} (k : JX11_no Q 8 [a0] (aI 1 :: st) I) : JX11_no Q 7 [a0] st I := g_iconst (n := 1) dX11_no_7 (by decide) k
theorem dX11_no_8 : decode cX11_no 8 = .ok (.iadd, 1) := by decide +kernel
theorem X11_no_8 {Q : Int → z_M → Prop} {a0 : z_V} {x y : Int} {st : List z_V} {I : z_M} (hr : inI (x + y) := by omega) (k : JX11_no Q 9 [a0] (aI (x + y) :: st) I) : JX11_no Q 8 [a0] (aI y :: aI x :: st) I := g_iadd dX11_no_8 hr k
theorem X11_no_8w {Q : Int → z_M → Prop} {a0 : z_V} {x y : Int} {st : List z_V} {I : z_M} (k : JX11_no Q 9 [a0] (aI (i32 (x + y)) :: st) I) : JX11_no Q 8 [a0] (aI y :: aI x :: st) I := g_iaddw dX11_no_8 k
theorem dX11_no_9 : decode cX11_no 9 = .ok (.iastore, 1) := by decide +kernel
theorem X11_no_9 {Q : Int → z_M → Prop} {a0 : z_V} {q : Nat} {i x : Int} {st : List z_V} {I : z_M} (hk : z_cl q = 20 := by first | assumption | rfl) (h0 : 0 ≤ i := by omega) (h1 : i < z_n q := by first | omega | (simp only [zn_1, zn_9, zn_10, zn_11, zn_12, zn_13, zn_14, zn_15, zn_16, zn_18, zn_20, zn_21, zn_22, zn_23, zn_24, zn_25, zn_26, zn_27, zn_29, zn_30, zn_53, zn_55, zn_56, zn_58, zn_59, zn_61, zn_62, zn_63, zn_64, zn_65, zn_66, zn_67, zn_68, zn_69, zn_70, zn_71, zn_72, zn_73]; omega))  (k : JX11_no Q 10 [a0] st (z_up I q i.toNat x)) : JX11_no Q 9 [a0] (aI x :: aI i :: aR q :: st) I := g_iast dX11_no_9 hk h0 h1 k
theorem dX11_no_10 : decode cX11_no 10 = .ok (.bipush (-3), 2) := by decide +kernel
theorem X11_no_10 {Q : Int → z_M → Prop} {a0 : z_V} {st : List z_V} {I : z_M} (k : JX11_no Q 12 [a0] (aI (-3) :: st) I) : JX11_no Q 10 [a0] st I := g_bipush (n := (-3)) dX11_no_10 (by decide +kernel) (by decide) k
theorem dX11_no_12 : decode cX11_no 12 = .ok (.ireturn, 1) := by decide +kernel
theorem X11_no_12 {Q : Int → z_M → Prop} {a0 : z_V} {x : Int} {I : z_M} (hq : Q x I) : JX11_no Q 12 [a0] [aI x] I := g_ireturn dX11_no_12 ⟨x, rfl, hq⟩
theorem dX11_full_0 : decode cX11_full 0 = .ok (.aload_n 0, 1) := by decide +kernel
theorem X11_full_0 {Q : Int → z_M → Prop}  {x : Nat} {st : List z_V} {I : z_M} (k : JX11_full Q 1 [aR x] (aR x :: st) I) : JX11_full Q 0 [aR x] st I := g_aload_n (i := 0) (x := x) dX11_full_0 rfl rfl k
theorem dX11_full_1 : decode cX11_full 1 = .ok (.getfield 20, 3) := by decide +kernel
theorem X11_full_1 {Q : Int → z_M → Prop} {a0 : z_V}  {st : List z_V} {I : z_M}  (k : JX11_full Q 4 [a0] (aR (64) :: st) I) : JX11_full Q 1 [a0] (aR 60 :: st) I := g_getr (ci := 11) (j := 3) (N := 23) (T := TX11) dX11_full_1 rfl rfl (by decide) (z_nc11 rfl) inlX11 (by decide) m_5_4 rfl rfl k
theorem dX11_full_4 : decode cX11_full 4 = .ok (.iconst 2, 1) := by decide +kernel
theorem X11_full_4 {Q : Int → z_M → Prop} {a0 : z_V} {st : List z_V} {I : z_M} (k : JX11_full Q 5 [a0] (aI 2 :: st) I) : JX11_full Q 4 [a0] st I := g_iconst (n := 2) dX11_full_4 (by decide) k
theorem dX11_full_5 : decode cX11_full 5 = .ok (.dup2, 1) := by decide +kernel
theorem X11_full_5 {Q : Int → z_M → Prop} {a0 : z_V} {x y : z_V} {st : List z_V} {I : z_M} (hx : ∀ z, x ≠ aL z := by intro z q; cases q) (hy : ∀ z, y ≠ aL z := by intro z q; cases q) (k : JX11_full Q 6 [a0] (x :: y :: x :: y :: st) I) : JX11_full Q 5 [a0] (x :: y :: st) I := g_dup2 dX11_full_5 hx hy k
theorem dX11_full_6 : decode cX11_full 6 = .ok (.iaload, 1) := by decide +kernel
theorem X11_full_6 {Q : Int → z_M → Prop} {a0 : z_V} {q : Nat} {i : Int} {st : List z_V} {I : z_M} (hk : z_cl q = 20 := by first | assumption | rfl) (h0 : 0 ≤ i := by omega) (h1 : i < z_n q := by first | omega | (simp only [zn_1, zn_9, zn_10, zn_11, zn_12, zn_13, zn_14, zn_15, zn_16, zn_18, zn_20, zn_21, zn_22, zn_23, zn_24, zn_25, zn_26, zn_27, zn_29, zn_30, zn_53, zn_55, zn_56, zn_58, zn_59, zn_61, zn_62, zn_63, zn_64, zn_65, zn_66, zn_67, zn_68, zn_69, zn_70, zn_71, zn_72, zn_73]; omega)) (k : JX11_full Q 7 [a0] (aI (I q i.toNat) :: st) I) : JX11_full Q 6 [a0] (aI i :: aR q :: st) I := g_iald dX11_full_6 hk h0 h1 k
theorem dX11_full_7 : decode cX11_full 7 = .ok (.iconst 1, 1) := by decide +kernel
theorem X11_full_7 {Q : Int → z_M → Prop} {a0 : z_V} {st : List z_V} {I : z_M} (k : JX11_full Q 8 [a0] (aI 1 :: st) I) : JX11_full Q 7 [a0] st I := g_iconst (n := 1) dX11_full_7 (by decide) k
theorem dX11_full_8 : decode cX11_full 8 = .ok (.iadd, 1) := by decide +kernel
theorem X11_full_8 {Q : Int → z_M → Prop} {a0 : z_V} {x y : Int} {st : List z_V} {I : z_M} (hr : inI (x + y) := by omega) (k : JX11_full Q 9 [a0] (aI (x + y) :: st) I) : JX11_full Q 8 [a0] (aI y :: aI x :: st) I := g_iadd dX11_full_8 hr k
theorem X11_full_8w {Q : Int → z_M → Prop} {a0 : z_V} {x y : Int} {st : List z_V} {I : z_M} (k : JX11_full Q 9 [a0] (aI (i32 (x + y)) :: st) I) : JX11_full Q 8 [a0] (aI y :: aI x :: st) I := g_iaddw dX11_full_8 k
theorem dX11_full_9 : decode cX11_full 9 = .ok (.iastore, 1) := by decide +kernel
theorem X11_full_9 {Q : Int → z_M → Prop} {a0 : z_V} {q : Nat} {i x : Int} {st : List z_V} {I : z_M} (hk : z_cl q = 20 := by first | assumption | rfl) (h0 : 0 ≤ i := by omega) (h1 : i < z_n q := by first | omega | (simp only [zn_1, zn_9, zn_10, zn_11, zn_12, zn_13, zn_14, zn_15, zn_16, zn_18, zn_20, zn_21, zn_22, zn_23, zn_24, zn_25, zn_26, zn_27, zn_29, zn_30, zn_53, zn_55, zn_56, zn_58, zn_59, zn_61, zn_62, zn_63, zn_64, zn_65, zn_66, zn_67, zn_68, zn_69, zn_70, zn_71, zn_72, zn_73]; omega))  (k : JX11_full Q 10 [a0] st (z_up I q i.toNat x)) : JX11_full Q 9 [a0] (aI x :: aI i :: aR q :: st) I := g_iast dX11_full_9 hk h0 h1 k
theorem dX11_full_10 : decode cX11_full 10 = .ok (.bipush (-4), 2) := by decide +kernel
theorem X11_full_10 {Q : Int → z_M → Prop} {a0 : z_V} {st : List z_V} {I : z_M} (k : JX11_full Q 12 [a0] (aI (-4) :: st) I) : JX11_full Q 10 [a0] st I := g_bipush (n := (-4)) dX11_full_10 (by decide +kernel) (by decide) k
theorem dX11_full_12 : decode cX11_full 12 = .ok (.ireturn, 1) := by decide +kernel
theorem X11_full_12 {Q : Int → z_M → Prop} {a0 : z_V} {x : Int} {I : z_M} (hq : Q x I) : JX11_full Q 12 [a0] [aI x] I := g_ireturn dX11_full_12 ⟨x, rfl, hq⟩
theorem dX11_bits_0 : decode cX11_bits 0 = .ok (.iconst 0, 1) := by decide +kernel
theorem X11_bits_0 {Q : Int → z_M → Prop} {a0 a1 a2 : z_V} {st : List z_V} {I : z_M} (k : JX11_bits Q 1 [a0, a1, a2] (aI 0 :: st) I) : JX11_bits Q 0 [a0, a1, a2] st I := g_iconst (n := 0) dX11_bits_0 (by decide) k
theorem dX11_bits_1 : decode cX11_bits 1 = .ok (.istore_n 1, 1) := by decide +kernel
theorem X11_bits_1 {Q : Int → z_M → Prop} {a0 a1 a2 : z_V} {x : Int} {st : List z_V} {I : z_M} (hb : z_nl [a0, a1, a2] 1 = true := by rfl) (k : JX11_bits Q 2 [a0, aI x, a2] st I) : JX11_bits Q 1 [a0, a1, a2] (aI x :: st) I := g_istore_n (i := 1) (x := x) dX11_bits_1 rfl (show 1 < 3 from by decide) hb k
theorem dX11_bits_2 : decode cX11_bits 2 = .ok (.iload_n 0, 1) := by decide +kernel
theorem X11_bits_2 {Q : Int → z_M → Prop} {a1 a2 : z_V} {x : Int} {st : List z_V} {I : z_M} (k : JX11_bits Q 3 [aI x, a1, a2] (aI x :: st) I) : JX11_bits Q 2 [aI x, a1, a2] st I := g_iload_n (i := 0) (x := x) dX11_bits_2 rfl rfl k
theorem dX11_bits_3 : decode cX11_bits 3 = .ok (.istore_n 2, 1) := by decide +kernel
theorem X11_bits_3 {Q : Int → z_M → Prop} {a0 a1 a2 : z_V} {x : Int} {st : List z_V} {I : z_M} (hb : z_nl [a0, a1, a2] 2 = true := by rfl) (k : JX11_bits Q 4 [a0, a1, aI x] st I) : JX11_bits Q 3 [a0, a1, a2] (aI x :: st) I := g_istore_n (i := 2) (x := x) dX11_bits_3 rfl (show 2 < 3 from by decide) hb k
theorem dX11_bits_4 : decode cX11_bits 4 = .ok (.iload_n 2, 1) := by decide +kernel
theorem X11_bits_4 {Q : Int → z_M → Prop} {a0 a1 : z_V} {x : Int} {st : List z_V} {I : z_M} (k : JX11_bits Q 5 [a0, a1, aI x] (aI x :: st) I) : JX11_bits Q 4 [a0, a1, aI x] st I := g_iload_n (i := 2) (x := x) dX11_bits_4 rfl rfl k
theorem dX11_bits_5 : decode cX11_bits 5 = .ok (.ifCond .le 16, 3) := by decide +kernel
theorem X11_bits_5 {Q : Int → z_M → Prop} {a0 a1 a2 : z_V} {x : Int} {st : List z_V} {I : z_M} (kt : x ≤ 0 → JX11_bits Q 21 [a0, a1, a2] st I) (kf : 0 < x → JX11_bits Q 8 [a0, a1, a2] st I) : JX11_bits Q 5 [a0, a1, a2] (aI x :: st) I := g_if_le dX11_bits_5 (by decide) kt kf
theorem dX11_bits_8 : decode cX11_bits 8 = .ok (.iload_n 1, 1) := by decide +kernel
theorem X11_bits_8 {Q : Int → z_M → Prop} {a0 a2 : z_V} {x : Int} {st : List z_V} {I : z_M} (k : JX11_bits Q 9 [a0, aI x, a2] (aI x :: st) I) : JX11_bits Q 8 [a0, aI x, a2] st I := g_iload_n (i := 1) (x := x) dX11_bits_8 rfl rfl k
theorem dX11_bits_9 : decode cX11_bits 9 = .ok (.iload_n 2, 1) := by decide +kernel
theorem X11_bits_9 {Q : Int → z_M → Prop} {a0 a1 : z_V} {x : Int} {st : List z_V} {I : z_M} (k : JX11_bits Q 10 [a0, a1, aI x] (aI x :: st) I) : JX11_bits Q 9 [a0, a1, aI x] st I := g_iload_n (i := 2) (x := x) dX11_bits_9 rfl rfl k
theorem dX11_bits_10 : decode cX11_bits 10 = .ok (.iconst 1, 1) := by decide +kernel
theorem X11_bits_10 {Q : Int → z_M → Prop} {a0 a1 a2 : z_V} {st : List z_V} {I : z_M} (k : JX11_bits Q 11 [a0, a1, a2] (aI 1 :: st) I) : JX11_bits Q 10 [a0, a1, a2] st I := g_iconst (n := 1) dX11_bits_10 (by decide) k
theorem dX11_bits_11 : decode cX11_bits 11 = .ok (.iand, 1) := by decide +kernel
theorem X11_bits_11 {Q : Int → z_M → Prop} {a0 a1 a2 : z_V} {x y : Int} {st : List z_V} {I : z_M} (hx : 0 ≤ x := by first | omega | exact Int.natCast_nonneg _) (hy : 0 ≤ y := by first | omega | exact Int.natCast_nonneg _) (k : JX11_bits Q 12 [a0, a1, a2] (aI (zand x y) :: st) I) : JX11_bits Q 11 [a0, a1, a2] (aI y :: aI x :: st) I := g_iandz dX11_bits_11 hx hy k
theorem dX11_bits_12 : decode cX11_bits 12 = .ok (.iadd, 1) := by decide +kernel
theorem X11_bits_12 {Q : Int → z_M → Prop} {a0 a1 a2 : z_V} {x y : Int} {st : List z_V} {I : z_M} (hr : inI (x + y) := by omega) (k : JX11_bits Q 13 [a0, a1, a2] (aI (x + y) :: st) I) : JX11_bits Q 12 [a0, a1, a2] (aI y :: aI x :: st) I := g_iadd dX11_bits_12 hr k
theorem X11_bits_12w {Q : Int → z_M → Prop} {a0 a1 a2 : z_V} {x y : Int} {st : List z_V} {I : z_M} (k : JX11_bits Q 13 [a0, a1, a2] (aI (i32 (x + y)) :: st) I) : JX11_bits Q 12 [a0, a1, a2] (aI y :: aI x :: st) I := g_iaddw dX11_bits_12 k
theorem dX11_bits_13 : decode cX11_bits 13 = .ok (.istore_n 1, 1) := by decide +kernel
theorem X11_bits_13 {Q : Int → z_M → Prop} {a0 a1 a2 : z_V} {x : Int} {st : List z_V} {I : z_M} (hb : z_nl [a0, a1, a2] 1 = true := by rfl) (k : JX11_bits Q 14 [a0, aI x, a2] st I) : JX11_bits Q 13 [a0, a1, a2] (aI x :: st) I := g_istore_n (i := 1) (x := x) dX11_bits_13 rfl (show 1 < 3 from by decide) hb k
theorem dX11_bits_14 : decode cX11_bits 14 = .ok (.iload_n 2, 1) := by decide +kernel
theorem X11_bits_14 {Q : Int → z_M → Prop} {a0 a1 : z_V} {x : Int} {st : List z_V} {I : z_M} (k : JX11_bits Q 15 [a0, a1, aI x] (aI x :: st) I) : JX11_bits Q 14 [a0, a1, aI x] st I := g_iload_n (i := 2) (x := x) dX11_bits_14 rfl rfl k
theorem dX11_bits_15 : decode cX11_bits 15 = .ok (.iconst 1, 1) := by decide +kernel
theorem X11_bits_15 {Q : Int → z_M → Prop} {a0 a1 a2 : z_V} {st : List z_V} {I : z_M} (k : JX11_bits Q 16 [a0, a1, a2] (aI 1 :: st) I) : JX11_bits Q 15 [a0, a1, a2] st I := g_iconst (n := 1) dX11_bits_15 (by decide) k
theorem dX11_bits_16 : decode cX11_bits 16 = .ok (.ishr, 1) := by decide +kernel
theorem X11_bits_16 {Q : Int → z_M → Prop} {a0 a1 a2 : z_V} {x y : Int} {st : List z_V} {I : z_M} (hx : 0 ≤ x := by first | omega | exact Int.natCast_nonneg _) (hy : 0 ≤ y := by first | omega | exact Int.natCast_nonneg _) (hy2 : y < 32 := by omega) (k : JX11_bits Q 17 [a0, a1, a2] (aI (zshr x y) :: st) I) : JX11_bits Q 16 [a0, a1, a2] (aI y :: aI x :: st) I := g_ishrz dX11_bits_16 hx hy hy2 k
theorem dX11_bits_17 : decode cX11_bits 17 = .ok (.istore_n 2, 1) := by decide +kernel
theorem X11_bits_17 {Q : Int → z_M → Prop} {a0 a1 a2 : z_V} {x : Int} {st : List z_V} {I : z_M} (hb : z_nl [a0, a1, a2] 2 = true := by rfl) (k : JX11_bits Q 18 [a0, a1, aI x] st I) : JX11_bits Q 17 [a0, a1, a2] (aI x :: st) I := g_istore_n (i := 2) (x := x) dX11_bits_17 rfl (show 2 < 3 from by decide) hb k
theorem dX11_bits_18 : decode cX11_bits 18 = .ok (.goto (-14), 3) := by decide +kernel
theorem X11_bits_18 {Q : Int → z_M → Prop} {a0 a1 a2 : z_V} {st : List z_V} {I : z_M} (k : JX11_bits Q 4 [a0, a1, a2] st I) : JX11_bits Q 18 [a0, a1, a2] st I := g_goto dX11_bits_18 (by decide) k
theorem dX11_bits_21 : decode cX11_bits 21 = .ok (.iload_n 1, 1) := by decide +kernel
theorem X11_bits_21 {Q : Int → z_M → Prop} {a0 a2 : z_V} {x : Int} {st : List z_V} {I : z_M} (k : JX11_bits Q 22 [a0, aI x, a2] (aI x :: st) I) : JX11_bits Q 21 [a0, aI x, a2] st I := g_iload_n (i := 1) (x := x) dX11_bits_21 rfl rfl k
theorem dX11_bits_22 : decode cX11_bits 22 = .ok (.ireturn, 1) := by decide +kernel
theorem X11_bits_22 {Q : Int → z_M → Prop} {a0 a1 a2 : z_V} {x : Int} {I : z_M} (hq : Q x I) : JX11_bits Q 22 [a0, a1, a2] [aI x] I := g_ireturn dX11_bits_22 ⟨x, rfl, hq⟩
theorem dX11_begin_0 : decode cX11_begin 0 = .ok (.iconst 0, 1) := by decide +kernel
theorem X11_begin_0 {Q : z_M → Prop} {a0 a1 : z_V} {st : List z_V} {I : z_M} (k : JX11_begin Q 1 [a0, a1] (aI 0 :: st) I) : JX11_begin Q 0 [a0, a1] st I := g_iconst (n := 0) dX11_begin_0 (by decide) k
theorem dX11_begin_1 : decode cX11_begin 1 = .ok (.istore_n 1, 1) := by decide +kernel
theorem X11_begin_1 {Q : z_M → Prop} {a0 a1 : z_V} {x : Int} {st : List z_V} {I : z_M} (hb : z_nl [a0, a1] 1 = true := by rfl) (k : JX11_begin Q 2 [a0, aI x] st I) : JX11_begin Q 1 [a0, a1] (aI x :: st) I := g_istore_n (i := 1) (x := x) dX11_begin_1 rfl (show 1 < 2 from by decide) hb k
theorem dX11_begin_2 : decode cX11_begin 2 = .ok (.iload_n 1, 1) := by decide +kernel
theorem X11_begin_2 {Q : z_M → Prop} {a0 : z_V} {x : Int} {st : List z_V} {I : z_M} (k : JX11_begin Q 3 [a0, aI x] (aI x :: st) I) : JX11_begin Q 2 [a0, aI x] st I := g_iload_n (i := 1) (x := x) dX11_begin_2 rfl rfl k
theorem dX11_begin_3 : decode cX11_begin 3 = .ok (.bipush 113, 2) := by decide +kernel
theorem X11_begin_3 {Q : z_M → Prop} {a0 a1 : z_V} {st : List z_V} {I : z_M} (k : JX11_begin Q 5 [a0, a1] (aI 113 :: st) I) : JX11_begin Q 3 [a0, a1] st I := g_bipush (n := 113) dX11_begin_3 (by decide +kernel) (by decide) k
theorem dX11_begin_5 : decode cX11_begin 5 = .ok (.if_icmp .ge 13, 3) := by decide +kernel
theorem X11_begin_5 {Q : z_M → Prop} {a0 a1 : z_V} {x y : Int} {st : List z_V} {I : z_M} (kt : y ≤ x → JX11_begin Q 18 [a0, a1] st I) (kf : x < y → JX11_begin Q 8 [a0, a1] st I) : JX11_begin Q 5 [a0, a1] (aI y :: aI x :: st) I := g_icmp_ge dX11_begin_5 (by decide) kt kf
theorem dX11_begin_8 : decode cX11_begin 8 = .ok (.aload_n 0, 1) := by decide +kernel
theorem X11_begin_8 {Q : z_M → Prop} {a1 : z_V} {x : Nat} {st : List z_V} {I : z_M} (k : JX11_begin Q 9 [aR x, a1] (aR x :: st) I) : JX11_begin Q 8 [aR x, a1] st I := g_aload_n (i := 0) (x := x) dX11_begin_8 rfl rfl k
theorem dX11_begin_9 : decode cX11_begin 9 = .ok (.iload_n 1, 1) := by decide +kernel
theorem X11_begin_9 {Q : z_M → Prop} {a0 : z_V} {x : Int} {st : List z_V} {I : z_M} (k : JX11_begin Q 10 [a0, aI x] (aI x :: st) I) : JX11_begin Q 9 [a0, aI x] st I := g_iload_n (i := 1) (x := x) dX11_begin_9 rfl rfl k
theorem dX11_begin_10 : decode cX11_begin 10 = .ok (.iconst 0, 1) := by decide +kernel
theorem X11_begin_10 {Q : z_M → Prop} {a0 a1 : z_V} {st : List z_V} {I : z_M} (k : JX11_begin Q 11 [a0, a1] (aI 0 :: st) I) : JX11_begin Q 10 [a0, a1] st I := g_iconst (n := 0) dX11_begin_10 (by decide) k
theorem dX11_begin_11 : decode cX11_begin 11 = .ok (.iastore, 1) := by decide +kernel
theorem X11_begin_11 {Q : z_M → Prop} {a0 a1 : z_V} {q : Nat} {i x : Int} {st : List z_V} {I : z_M} (hk : z_cl q = 20 := by first | assumption | rfl) (h0 : 0 ≤ i := by omega) (h1 : i < z_n q := by first | omega | (simp only [zn_1, zn_9, zn_10, zn_11, zn_12, zn_13, zn_14, zn_15, zn_16, zn_18, zn_20, zn_21, zn_22, zn_23, zn_24, zn_25, zn_26, zn_27, zn_29, zn_30, zn_53, zn_55, zn_56, zn_58, zn_59, zn_61, zn_62, zn_63, zn_64, zn_65, zn_66, zn_67, zn_68, zn_69, zn_70, zn_71, zn_72, zn_73]; omega))  (k : JX11_begin Q 12 [a0, a1] st (z_up I q i.toNat x)) : JX11_begin Q 11 [a0, a1] (aI x :: aI i :: aR q :: st) I := g_iast dX11_begin_11 hk h0 h1 k
theorem dX11_begin_12 : decode cX11_begin 12 = .ok (.iinc 1 1, 3) := by decide +kernel
theorem X11_begin_12 {Q : z_M → Prop} {a0 : z_V} {x : Int} {st : List z_V} {I : z_M} (hb : z_nl [a0, aI x] 1 = true := by rfl) (hr : inI (x + 1) := by omega) (k : JX11_begin Q 15 [a0, aI (x + 1)] st I) : JX11_begin Q 12 [a0, aI x] st I := g_iinc (i := 1) (x := x) dX11_begin_12 rfl (show 1 < 2 from by decide) hb hr k
theorem dX11_begin_15 : decode cX11_begin 15 = .ok (.goto (-13), 3) := by decide +kernel
theorem X11_begin_15 {Q : z_M → Prop} {a0 a1 : z_V} {st : List z_V} {I : z_M} (k : JX11_begin Q 2 [a0, a1] st I) : JX11_begin Q 15 [a0, a1] st I := g_goto dX11_begin_15 (by decide) k
theorem dX11_begin_18 : decode cX11_begin 18 = .ok (.return_, 1) := by decide +kernel
theorem X11_begin_18 {Q : z_M → Prop} {a0 a1 : z_V} {I : z_M} (hq : Q I) : JX11_begin Q 18 [a0, a1] [] I := g_return dX11_begin_18 ⟨rfl, hq⟩
theorem dX11_pipes_0 : decode cX11_pipes 0 = .ok (.aload_n 0, 1) := by decide +kernel
theorem X11_pipes_0 {Q : Int → z_M → Prop}  {x : Nat} {st : List z_V} {I : z_M} (k : JX11_pipes Q 1 [aR x] (aR x :: st) I) : JX11_pipes Q 0 [aR x] st I := g_aload_n (i := 0) (x := x) dX11_pipes_0 rfl rfl k
theorem dX11_pipes_1 : decode cX11_pipes 1 = .ok (.getfield 7, 3) := by decide +kernel
theorem X11_pipes_1 {Q : Int → z_M → Prop} {a0 : z_V}  {st : List z_V} {I : z_M}  (k : JX11_pipes Q 4 [a0] (aR (61) :: st) I) : JX11_pipes Q 1 [a0] (aR 60 :: st) I := g_getr (ci := 11) (j := 0) (N := 23) (T := TX11) dX11_pipes_1 rfl rfl (by decide) (z_nc11 rfl) inlX11 (by decide) m_5_1 rfl rfl k
theorem dX11_pipes_4 : decode cX11_pipes 4 = .ok (.iconst 0, 1) := by decide +kernel
theorem X11_pipes_4 {Q : Int → z_M → Prop} {a0 : z_V} {st : List z_V} {I : z_M} (k : JX11_pipes Q 5 [a0] (aI 0 :: st) I) : JX11_pipes Q 4 [a0] st I := g_iconst (n := 0) dX11_pipes_4 (by decide) k
theorem dX11_pipes_5 : decode cX11_pipes 5 = .ok (.iaload, 1) := by decide +kernel
theorem X11_pipes_5 {Q : Int → z_M → Prop} {a0 : z_V} {q : Nat} {i : Int} {st : List z_V} {I : z_M} (hk : z_cl q = 20 := by first | assumption | rfl) (h0 : 0 ≤ i := by omega) (h1 : i < z_n q := by first | omega | (simp only [zn_1, zn_9, zn_10, zn_11, zn_12, zn_13, zn_14, zn_15, zn_16, zn_18, zn_20, zn_21, zn_22, zn_23, zn_24, zn_25, zn_26, zn_27, zn_29, zn_30, zn_53, zn_55, zn_56, zn_58, zn_59, zn_61, zn_62, zn_63, zn_64, zn_65, zn_66, zn_67, zn_68, zn_69, zn_70, zn_71, zn_72, zn_73]; omega)) (k : JX11_pipes Q 6 [a0] (aI (I q i.toNat) :: st) I) : JX11_pipes Q 5 [a0] (aI i :: aR q :: st) I := g_iald dX11_pipes_5 hk h0 h1 k
theorem dX11_pipes_6 : decode cX11_pipes 6 = .ok (.ireturn, 1) := by decide +kernel
theorem X11_pipes_6 {Q : Int → z_M → Prop} {a0 : z_V} {x : Int} {I : z_M} (hq : Q x I) : JX11_pipes Q 6 [a0] [aI x] I := g_ireturn dX11_pipes_6 ⟨x, rfl, hq⟩
theorem dX11_places_0 : decode cX11_places 0 = .ok (.aload_n 0, 1) := by decide +kernel
theorem X11_places_0 {Q : Int → z_M → Prop}  {x : Nat} {st : List z_V} {I : z_M} (k : JX11_places Q 1 [aR x] (aR x :: st) I) : JX11_places Q 0 [aR x] st I := g_aload_n (i := 0) (x := x) dX11_places_0 rfl rfl k
theorem dX11_places_1 : decode cX11_places 1 = .ok (.getfield 7, 3) := by decide +kernel
theorem X11_places_1 {Q : Int → z_M → Prop} {a0 : z_V}  {st : List z_V} {I : z_M}  (k : JX11_places Q 4 [a0] (aR (61) :: st) I) : JX11_places Q 1 [a0] (aR 60 :: st) I := g_getr (ci := 11) (j := 0) (N := 23) (T := TX11) dX11_places_1 rfl rfl (by decide) (z_nc11 rfl) inlX11 (by decide) m_5_1 rfl rfl k
theorem dX11_places_4 : decode cX11_places 4 = .ok (.iconst 1, 1) := by decide +kernel
theorem X11_places_4 {Q : Int → z_M → Prop} {a0 : z_V} {st : List z_V} {I : z_M} (k : JX11_places Q 5 [a0] (aI 1 :: st) I) : JX11_places Q 4 [a0] st I := g_iconst (n := 1) dX11_places_4 (by decide) k
theorem dX11_places_5 : decode cX11_places 5 = .ok (.iaload, 1) := by decide +kernel
theorem X11_places_5 {Q : Int → z_M → Prop} {a0 : z_V} {q : Nat} {i : Int} {st : List z_V} {I : z_M} (hk : z_cl q = 20 := by first | assumption | rfl) (h0 : 0 ≤ i := by omega) (h1 : i < z_n q := by first | omega | (simp only [zn_1, zn_9, zn_10, zn_11, zn_12, zn_13, zn_14, zn_15, zn_16, zn_18, zn_20, zn_21, zn_22, zn_23, zn_24, zn_25, zn_26, zn_27, zn_29, zn_30, zn_53, zn_55, zn_56, zn_58, zn_59, zn_61, zn_62, zn_63, zn_64, zn_65, zn_66, zn_67, zn_68, zn_69, zn_70, zn_71, zn_72, zn_73]; omega)) (k : JX11_places Q 6 [a0] (aI (I q i.toNat) :: st) I) : JX11_places Q 5 [a0] (aI i :: aR q :: st) I := g_iald dX11_places_5 hk h0 h1 k
theorem dX11_places_6 : decode cX11_places 6 = .ok (.ireturn, 1) := by decide +kernel
theorem X11_places_6 {Q : Int → z_M → Prop} {a0 : z_V} {x : Int} {I : z_M} (hq : Q x I) : JX11_places Q 6 [a0] [aI x] I := g_ireturn dX11_places_6 ⟨x, rfl, hq⟩
theorem dX11_isPipe_0 : decode cX11_isPipe 0 = .ok (.iload_n 1, 1) := by decide +kernel
theorem X11_isPipe_0 {Q : Int → z_M → Prop} {a0 : z_V} {x : Int} {st : List z_V} {I : z_M} (k : JX11_isPipe Q 1 [a0, aI x] (aI x :: st) I) : JX11_isPipe Q 0 [a0, aI x] st I := g_iload_n (i := 1) (x := x) dX11_isPipe_0 rfl rfl k
theorem dX11_isPipe_1 : decode cX11_isPipe 1 = .ok (.i2l, 1) := by decide +kernel
theorem X11_isPipe_1 {Q : Int → z_M → Prop} {a0 a1 : z_V} {x : Int} {st : List z_V} {I : z_M} (k : JX11_isPipe Q 2 [a0, a1] (aL x :: st) I) : JX11_isPipe Q 1 [a0, a1] (aI x :: st) I := g_i2l dX11_isPipe_1 k
theorem dX11_isPipe_2 : decode cX11_isPipe 2 = .ok (.lconst 0, 1) := by decide +kernel
theorem X11_isPipe_2 {Q : Int → z_M → Prop} {a0 a1 : z_V} {st : List z_V} {I : z_M} (k : JX11_isPipe Q 3 [a0, a1] (aL 0 :: st) I) : JX11_isPipe Q 2 [a0, a1] st I := g_lconst (v := 0) dX11_isPipe_2 (by decide +kernel) (by decide) k
theorem dX11_isPipe_3 : decode cX11_isPipe 3 = .ok (.aload_n 0, 1) := by decide +kernel
theorem X11_isPipe_3 {Q : Int → z_M → Prop} {a1 : z_V} {x : Nat} {st : List z_V} {I : z_M} (k : JX11_isPipe Q 4 [aR x, a1] (aR x :: st) I) : JX11_isPipe Q 3 [aR x, a1] st I := g_aload_n (i := 0) (x := x) dX11_isPipe_3 rfl rfl k
theorem dX11_isPipe_4 : decode cX11_isPipe 4 = .ok (.invokevirtual 54, 3) := by decide +kernel
theorem X11_isPipe_4 {Q : Int → z_M → Prop} {a0 a1 : z_V}   {st : List z_V} {I : z_M}  (hst : z_sw st ≤ 8 := by exact Nat.le_of_ble_eq_true rfl) (k : CX11_pipes (aR 60 :: []) I (fun x9 I9 => JX11_isPipe Q 7 [a0, a1] (aI x9 :: st) I9)) : JX11_isPipe Q 4 [a0, a1] (aR 60 :: st) I := g_callV (C := RX11) (ci := 11) (As := []) (n := 0) dX11_isPipe_4 ⟨m_6_21, pdX11_pipes, ⟨by decide, by decide⟩, rfl, rfl, by decide, by decide⟩ m_6_18 m_6_19 m_6_20 m_1_5 rfl rfl (by decide) rfl rfl hst k (fun r I9 h => by obtain ⟨x9, rfl, h⟩ := h; exact h)
theorem dX11_isPipe_7 : decode cX11_isPipe 7 = .ok (.iconst 1, 1) := by decide +kernel
theorem X11_isPipe_7 {Q : Int → z_M → Prop} {a0 a1 : z_V} {st : List z_V} {I : z_M} (k : JX11_isPipe Q 8 [a0, a1] (aI 1 :: st) I) : JX11_isPipe Q 7 [a0, a1] st I := g_iconst (n := 1) dX11_isPipe_7 (by decide) k
theorem dX11_isPipe_8 : decode cX11_isPipe 8 = .ok (.isub, 1) := by decide +kernel
theorem X11_isPipe_8 {Q : Int → z_M → Prop} {a0 a1 : z_V} {x y : Int} {st : List z_V} {I : z_M} (hr : inI (x - y) := by omega) (k : JX11_isPipe Q 9 [a0, a1] (aI (x - y) :: st) I) : JX11_isPipe Q 8 [a0, a1] (aI y :: aI x :: st) I := g_isub dX11_isPipe_8 hr k
theorem X11_isPipe_8w {Q : Int → z_M → Prop} {a0 a1 : z_V} {x y : Int} {st : List z_V} {I : z_M} (k : JX11_isPipe Q 9 [a0, a1] (aI (i32 (x - y)) :: st) I) : JX11_isPipe Q 8 [a0, a1] (aI y :: aI x :: st) I := g_isubw dX11_isPipe_8 k
theorem dX11_isPipe_9 : decode cX11_isPipe 9 = .ok (.i2l, 1) := by decide +kernel
theorem X11_isPipe_9 {Q : Int → z_M → Prop} {a0 a1 : z_V} {x : Int} {st : List z_V} {I : z_M} (k : JX11_isPipe Q 10 [a0, a1] (aL x :: st) I) : JX11_isPipe Q 9 [a0, a1] (aI x :: st) I := g_i2l dX11_isPipe_9 k
theorem dX11_isPipe_10 : decode cX11_isPipe 10 = .ok (.invokestatic 58, 3) := by decide +kernel
theorem X11_isPipe_10 {Q : Int → z_M → Prop} {a0 a1 : z_V} {x0 : Int} {x1 : Int} {x2 : Int} {st : List z_V} {I : z_M} (hst : z_sw st ≤ 8 := by exact Nat.le_of_ble_eq_true rfl) (k : CX11_in [aL x0, aL x1, aL x2] I (fun x9 I9 => JX11_isPipe Q 13 [a0, a1] (aI x9 :: st) I9)) : JX11_isPipe Q 10 [a0, a1] (aL x2 :: aL x1 :: aL x0 :: st) I := g_callS (As := [aL x0, aL x1, aL x2]) (n := 3) dX11_isPipe_10 ⟨m_8_11, pdX11_in, ⟨by decide, by decide⟩, rfl, rfl, by decide, by decide⟩ m_8_9 m_8_10 m_1_5 rfl hst k (fun r I9 h => by obtain ⟨x9, rfl, h⟩ := h; exact h)
theorem dX11_isPipe_13 : decode cX11_isPipe 13 = .ok (.ireturn, 1) := by decide +kernel
theorem X11_isPipe_13 {Q : Int → z_M → Prop} {a0 a1 : z_V} {x : Int} {I : z_M} (hx : x = 0 ∨ x = 1 := by omega) (hq : Q x I) : JX11_isPipe Q 13 [a0, a1] [aI x] I := g_zreturn dX11_isPipe_13 hx ⟨x, rfl, hq⟩
theorem dX11_isPlace_0 : decode cX11_isPlace 0 = .ok (.iload_n 1, 1) := by decide +kernel
theorem X11_isPlace_0 {Q : Int → z_M → Prop} {a0 : z_V} {x : Int} {st : List z_V} {I : z_M} (k : JX11_isPlace Q 1 [a0, aI x] (aI x :: st) I) : JX11_isPlace Q 0 [a0, aI x] st I := g_iload_n (i := 1) (x := x) dX11_isPlace_0 rfl rfl k
theorem dX11_isPlace_1 : decode cX11_isPlace 1 = .ok (.i2l, 1) := by decide +kernel
theorem X11_isPlace_1 {Q : Int → z_M → Prop} {a0 a1 : z_V} {x : Int} {st : List z_V} {I : z_M} (k : JX11_isPlace Q 2 [a0, a1] (aL x :: st) I) : JX11_isPlace Q 1 [a0, a1] (aI x :: st) I := g_i2l dX11_isPlace_1 k
theorem dX11_isPlace_2 : decode cX11_isPlace 2 = .ok (.lconst 0, 1) := by decide +kernel
theorem X11_isPlace_2 {Q : Int → z_M → Prop} {a0 a1 : z_V} {st : List z_V} {I : z_M} (k : JX11_isPlace Q 3 [a0, a1] (aL 0 :: st) I) : JX11_isPlace Q 2 [a0, a1] st I := g_lconst (v := 0) dX11_isPlace_2 (by decide +kernel) (by decide) k
theorem dX11_isPlace_3 : decode cX11_isPlace 3 = .ok (.aload_n 0, 1) := by decide +kernel
theorem X11_isPlace_3 {Q : Int → z_M → Prop} {a1 : z_V} {x : Nat} {st : List z_V} {I : z_M} (k : JX11_isPlace Q 4 [aR x, a1] (aR x :: st) I) : JX11_isPlace Q 3 [aR x, a1] st I := g_aload_n (i := 0) (x := x) dX11_isPlace_3 rfl rfl k
theorem dX11_isPlace_4 : decode cX11_isPlace 4 = .ok (.invokevirtual 62, 3) := by decide +kernel
theorem X11_isPlace_4 {Q : Int → z_M → Prop} {a0 a1 : z_V}   {st : List z_V} {I : z_M}  (hst : z_sw st ≤ 8 := by exact Nat.le_of_ble_eq_true rfl) (k : CX11_places (aR 60 :: []) I (fun x9 I9 => JX11_isPlace Q 7 [a0, a1] (aI x9 :: st) I9)) : JX11_isPlace Q 4 [a0, a1] (aR 60 :: st) I := g_callV (C := RX11) (ci := 11) (As := []) (n := 0) dX11_isPlace_4 ⟨m_8_19, pdX11_places, ⟨by decide, by decide⟩, rfl, rfl, by decide, by decide⟩ m_8_16 m_8_17 m_8_18 m_1_5 rfl rfl (by decide) rfl rfl hst k (fun r I9 h => by obtain ⟨x9, rfl, h⟩ := h; exact h)
theorem dX11_isPlace_7 : decode cX11_isPlace 7 = .ok (.iconst 1, 1) := by decide +kernel
theorem X11_isPlace_7 {Q : Int → z_M → Prop} {a0 a1 : z_V} {st : List z_V} {I : z_M} (k : JX11_isPlace Q 8 [a0, a1] (aI 1 :: st) I) : JX11_isPlace Q 7 [a0, a1] st I := g_iconst (n := 1) dX11_isPlace_7 (by decide) k
theorem dX11_isPlace_8 : decode cX11_isPlace 8 = .ok (.isub, 1) := by decide +kernel
theorem X11_isPlace_8 {Q : Int → z_M → Prop} {a0 a1 : z_V} {x y : Int} {st : List z_V} {I : z_M} (hr : inI (x - y) := by omega) (k : JX11_isPlace Q 9 [a0, a1] (aI (x - y) :: st) I) : JX11_isPlace Q 8 [a0, a1] (aI y :: aI x :: st) I := g_isub dX11_isPlace_8 hr k
theorem X11_isPlace_8w {Q : Int → z_M → Prop} {a0 a1 : z_V} {x y : Int} {st : List z_V} {I : z_M} (k : JX11_isPlace Q 9 [a0, a1] (aI (i32 (x - y)) :: st) I) : JX11_isPlace Q 8 [a0, a1] (aI y :: aI x :: st) I := g_isubw dX11_isPlace_8 k
theorem dX11_isPlace_9 : decode cX11_isPlace 9 = .ok (.i2l, 1) := by decide +kernel
theorem X11_isPlace_9 {Q : Int → z_M → Prop} {a0 a1 : z_V} {x : Int} {st : List z_V} {I : z_M} (k : JX11_isPlace Q 10 [a0, a1] (aL x :: st) I) : JX11_isPlace Q 9 [a0, a1] (aI x :: st) I := g_i2l dX11_isPlace_9 k
theorem dX11_isPlace_10 : decode cX11_isPlace 10 = .ok (.invokestatic 58, 3) := by decide +kernel
theorem X11_isPlace_10 {Q : Int → z_M → Prop} {a0 a1 : z_V} {x0 : Int} {x1 : Int} {x2 : Int} {st : List z_V} {I : z_M} (hst : z_sw st ≤ 8 := by exact Nat.le_of_ble_eq_true rfl) (k : CX11_in [aL x0, aL x1, aL x2] I (fun x9 I9 => JX11_isPlace Q 13 [a0, a1] (aI x9 :: st) I9)) : JX11_isPlace Q 10 [a0, a1] (aL x2 :: aL x1 :: aL x0 :: st) I := g_callS (As := [aL x0, aL x1, aL x2]) (n := 3) dX11_isPlace_10 ⟨m_8_11, pdX11_in, ⟨by decide, by decide⟩, rfl, rfl, by decide, by decide⟩ m_8_9 m_8_10 m_1_5 rfl hst k (fun r I9 h => by obtain ⟨x9, rfl, h⟩ := h; exact h)
theorem dX11_isPlace_13 : decode cX11_isPlace 13 = .ok (.ireturn, 1) := by decide +kernel
theorem X11_isPlace_13 {Q : Int → z_M → Prop} {a0 a1 : z_V} {x : Int} {I : z_M} (hx : x = 0 ∨ x = 1 := by omega) (hq : Q x I) : JX11_isPlace Q 13 [a0, a1] [aI x] I := g_zreturn dX11_isPlace_13 hx ⟨x, rfl, hq⟩
theorem dX11_isHymn_0 : decode cX11_isHymn 0 = .ok (.iload_n 0, 1) := by decide +kernel
theorem X11_isHymn_0 {Q : Int → z_M → Prop}  {x : Int} {st : List z_V} {I : z_M} (k : JX11_isHymn Q 1 [aI x] (aI x :: st) I) : JX11_isHymn Q 0 [aI x] st I := g_iload_n (i := 0) (x := x) dX11_isHymn_0 rfl rfl k
theorem dX11_isHymn_1 : decode cX11_isHymn 1 = .ok (.i2l, 1) := by decide +kernel
theorem X11_isHymn_1 {Q : Int → z_M → Prop} {a0 : z_V} {x : Int} {st : List z_V} {I : z_M} (k : JX11_isHymn Q 2 [a0] (aL x :: st) I) : JX11_isHymn Q 1 [a0] (aI x :: st) I := g_i2l dX11_isHymn_1 k
theorem dX11_isHymn_2 : decode cX11_isHymn 2 = .ok (.lconst 0, 1) := by decide +kernel
theorem X11_isHymn_2 {Q : Int → z_M → Prop} {a0 : z_V} {st : List z_V} {I : z_M} (k : JX11_isHymn Q 3 [a0] (aL 0 :: st) I) : JX11_isHymn Q 2 [a0] st I := g_lconst (v := 0) dX11_isHymn_2 (by decide +kernel) (by decide) k
theorem dX11_isHymn_3 : decode cX11_isHymn 3 = .ok (.ldc2_w 65, 3) := by decide +kernel
theorem X11_isHymn_3 {Q : Int → z_M → Prop} {a0 : z_V} {st : List z_V} {I : z_M} (k : JX11_isHymn Q 6 [a0] (aL (2) :: st) I) : JX11_isHymn Q 3 [a0] st I := g_ldc2 (n := 2) dX11_isHymn_3 m_10_19 (by decide +kernel) (by decide) k
theorem dX11_isHymn_6 : decode cX11_isHymn 6 = .ok (.invokestatic 58, 3) := by decide +kernel
theorem X11_isHymn_6 {Q : Int → z_M → Prop} {a0 : z_V} {x0 : Int} {x1 : Int} {x2 : Int} {st : List z_V} {I : z_M} (hst : z_sw st ≤ 8 := by exact Nat.le_of_ble_eq_true rfl) (k : CX11_in [aL x0, aL x1, aL x2] I (fun x9 I9 => JX11_isHymn Q 9 [a0] (aI x9 :: st) I9)) : JX11_isHymn Q 6 [a0] (aL x2 :: aL x1 :: aL x0 :: st) I := g_callS (As := [aL x0, aL x1, aL x2]) (n := 3) dX11_isHymn_6 ⟨m_8_11, pdX11_in, ⟨by decide, by decide⟩, rfl, rfl, by decide, by decide⟩ m_8_9 m_8_10 m_1_5 rfl hst k (fun r I9 h => by obtain ⟨x9, rfl, h⟩ := h; exact h)
theorem dX11_isHymn_9 : decode cX11_isHymn 9 = .ok (.ireturn, 1) := by decide +kernel
theorem X11_isHymn_9 {Q : Int → z_M → Prop} {a0 : z_V} {x : Int} {I : z_M} (hx : x = 0 ∨ x = 1 := by omega) (hq : Q x I) : JX11_isHymn Q 9 [a0] [aI x] I := g_zreturn dX11_isHymn_9 hx ⟨x, rfl, hq⟩
theorem dX11_isShift_0 : decode cX11_isShift 0 = .ok (.iload_n 0, 1) := by decide +kernel
theorem X11_isShift_0 {Q : Int → z_M → Prop}  {x : Int} {st : List z_V} {I : z_M} (k : JX11_isShift Q 1 [aI x] (aI x :: st) I) : JX11_isShift Q 0 [aI x] st I := g_iload_n (i := 0) (x := x) dX11_isShift_0 rfl rfl k
theorem dX11_isShift_1 : decode cX11_isShift 1 = .ok (.i2l, 1) := by decide +kernel
theorem X11_isShift_1 {Q : Int → z_M → Prop} {a0 : z_V} {x : Int} {st : List z_V} {I : z_M} (k : JX11_isShift Q 2 [a0] (aL x :: st) I) : JX11_isShift Q 1 [a0] (aI x :: st) I := g_i2l dX11_isShift_1 k
theorem dX11_isShift_2 : decode cX11_isShift 2 = .ok (.ldc2_w 67, 3) := by decide +kernel
theorem X11_isShift_2 {Q : Int → z_M → Prop} {a0 : z_V} {st : List z_V} {I : z_M} (k : JX11_isShift Q 5 [a0] (aL (-6) :: st) I) : JX11_isShift Q 2 [a0] st I := g_ldc2 (n := -6) dX11_isShift_2 m_32_18 (by decide +kernel) (by decide) k
theorem dX11_isShift_5 : decode cX11_isShift 5 = .ok (.ldc2_w 69, 3) := by decide +kernel
theorem X11_isShift_5 {Q : Int → z_M → Prop} {a0 : z_V} {st : List z_V} {I : z_M} (k : JX11_isShift Q 8 [a0] (aL (6) :: st) I) : JX11_isShift Q 5 [a0] st I := g_ldc2 (n := 6) dX11_isShift_5 m_32_19 (by decide +kernel) (by decide) k
theorem dX11_isShift_8 : decode cX11_isShift 8 = .ok (.invokestatic 58, 3) := by decide +kernel
theorem X11_isShift_8 {Q : Int → z_M → Prop} {a0 : z_V} {x0 : Int} {x1 : Int} {x2 : Int} {st : List z_V} {I : z_M} (hst : z_sw st ≤ 8 := by exact Nat.le_of_ble_eq_true rfl) (k : CX11_in [aL x0, aL x1, aL x2] I (fun x9 I9 => JX11_isShift Q 11 [a0] (aI x9 :: st) I9)) : JX11_isShift Q 8 [a0] (aL x2 :: aL x1 :: aL x0 :: st) I := g_callS (As := [aL x0, aL x1, aL x2]) (n := 3) dX11_isShift_8 ⟨m_8_11, pdX11_in, ⟨by decide, by decide⟩, rfl, rfl, by decide, by decide⟩ m_8_9 m_8_10 m_1_5 rfl hst k (fun r I9 h => by obtain ⟨x9, rfl, h⟩ := h; exact h)
theorem dX11_isShift_11 : decode cX11_isShift 11 = .ok (.ireturn, 1) := by decide +kernel
theorem X11_isShift_11 {Q : Int → z_M → Prop} {a0 : z_V} {x : Int} {I : z_M} (hx : x = 0 ∨ x = 1 := by omega) (hq : Q x I) : JX11_isShift Q 11 [a0] [aI x] I := g_zreturn dX11_isShift_11 hx ⟨x, rfl, hq⟩
theorem dX11_isThen_0 : decode cX11_isThen 0 = .ok (.iload_n 0, 1) := by decide +kernel
theorem X11_isThen_0 {Q : Int → z_M → Prop}  {x : Int} {st : List z_V} {I : z_M} (k : JX11_isThen Q 1 [aI x] (aI x :: st) I) : JX11_isThen Q 0 [aI x] st I := g_iload_n (i := 0) (x := x) dX11_isThen_0 rfl rfl k
theorem dX11_isThen_1 : decode cX11_isThen 1 = .ok (.i2l, 1) := by decide +kernel
theorem X11_isThen_1 {Q : Int → z_M → Prop} {a0 : z_V} {x : Int} {st : List z_V} {I : z_M} (k : JX11_isThen Q 2 [a0] (aL x :: st) I) : JX11_isThen Q 1 [a0] (aI x :: st) I := g_i2l dX11_isThen_1 k
theorem dX11_isThen_2 : decode cX11_isThen 2 = .ok (.lconst 0, 1) := by decide +kernel
theorem X11_isThen_2 {Q : Int → z_M → Prop} {a0 : z_V} {st : List z_V} {I : z_M} (k : JX11_isThen Q 3 [a0] (aL 0 :: st) I) : JX11_isThen Q 2 [a0] st I := g_lconst (v := 0) dX11_isThen_2 (by decide +kernel) (by decide) k
theorem dX11_isThen_3 : decode cX11_isThen 3 = .ok (.ldc2_w 71, 3) := by decide +kernel
theorem X11_isThen_3 {Q : Int → z_M → Prop} {a0 : z_V} {st : List z_V} {I : z_M} (k : JX11_isThen Q 6 [a0] (aL (72) :: st) I) : JX11_isThen Q 3 [a0] st I := g_ldc2 (n := 72) dX11_isThen_3 m_31_1 (by decide +kernel) (by decide) k
theorem dX11_isThen_6 : decode cX11_isThen 6 = .ok (.invokestatic 58, 3) := by decide +kernel
theorem X11_isThen_6 {Q : Int → z_M → Prop} {a0 : z_V} {x0 : Int} {x1 : Int} {x2 : Int} {st : List z_V} {I : z_M} (hst : z_sw st ≤ 8 := by exact Nat.le_of_ble_eq_true rfl) (k : CX11_in [aL x0, aL x1, aL x2] I (fun x9 I9 => JX11_isThen Q 9 [a0] (aI x9 :: st) I9)) : JX11_isThen Q 6 [a0] (aL x2 :: aL x1 :: aL x0 :: st) I := g_callS (As := [aL x0, aL x1, aL x2]) (n := 3) dX11_isThen_6 ⟨m_8_11, pdX11_in, ⟨by decide, by decide⟩, rfl, rfl, by decide, by decide⟩ m_8_9 m_8_10 m_1_5 rfl hst k (fun r I9 h => by obtain ⟨x9, rfl, h⟩ := h; exact h)
theorem dX11_isThen_9 : decode cX11_isThen 9 = .ok (.ireturn, 1) := by decide +kernel
theorem X11_isThen_9 {Q : Int → z_M → Prop} {a0 : z_V} {x : Int} {I : z_M} (hx : x = 0 ∨ x = 1 := by omega) (hq : Q x I) : JX11_isThen Q 9 [a0] [aI x] I := g_zreturn dX11_isThen_9 hx ⟨x, rfl, hq⟩
theorem dX11_placeHas_0 : decode cX11_placeHas 0 = .ok (.aload_n 0, 1) := by decide +kernel
theorem X11_placeHas_0 {Q : Int → z_M → Prop} {a1 a2 : z_V} {x : Nat} {st : List z_V} {I : z_M} (k : JX11_placeHas Q 1 [aR x, a1, a2] (aR x :: st) I) : JX11_placeHas Q 0 [aR x, a1, a2] st I := g_aload_n (i := 0) (x := x) dX11_placeHas_0 rfl rfl k
theorem dX11_placeHas_1 : decode cX11_placeHas 1 = .ok (.getfield 7, 3) := by decide +kernel
theorem X11_placeHas_1 {Q : Int → z_M → Prop} {a0 a1 a2 : z_V}  {st : List z_V} {I : z_M}  (k : JX11_placeHas Q 4 [a0, a1, a2] (aR (61) :: st) I) : JX11_placeHas Q 1 [a0, a1, a2] (aR 60 :: st) I := g_getr (ci := 11) (j := 0) (N := 23) (T := TX11) dX11_placeHas_1 rfl rfl (by decide) (z_nc11 rfl) inlX11 (by decide) m_5_1 rfl rfl k
theorem dX11_placeHas_4 : decode cX11_placeHas 4 = .ok (.iconst 5, 1) := by decide +kernel
theorem X11_placeHas_4 {Q : Int → z_M → Prop} {a0 a1 a2 : z_V} {st : List z_V} {I : z_M} (k : JX11_placeHas Q 5 [a0, a1, a2] (aI 5 :: st) I) : JX11_placeHas Q 4 [a0, a1, a2] st I := g_iconst (n := 5) dX11_placeHas_4 (by decide) k
theorem dX11_placeHas_5 : decode cX11_placeHas 5 = .ok (.iconst 5, 1) := by decide +kernel
theorem X11_placeHas_5 {Q : Int → z_M → Prop} {a0 a1 a2 : z_V} {st : List z_V} {I : z_M} (k : JX11_placeHas Q 6 [a0, a1, a2] (aI 5 :: st) I) : JX11_placeHas Q 5 [a0, a1, a2] st I := g_iconst (n := 5) dX11_placeHas_5 (by decide) k
theorem dX11_placeHas_6 : decode cX11_placeHas 6 = .ok (.iload_n 1, 1) := by decide +kernel
theorem X11_placeHas_6 {Q : Int → z_M → Prop} {a0 a2 : z_V} {x : Int} {st : List z_V} {I : z_M} (k : JX11_placeHas Q 7 [a0, aI x, a2] (aI x :: st) I) : JX11_placeHas Q 6 [a0, aI x, a2] st I := g_iload_n (i := 1) (x := x) dX11_placeHas_6 rfl rfl k
theorem dX11_placeHas_7 : decode cX11_placeHas 7 = .ok (.imul, 1) := by decide +kernel
theorem X11_placeHas_7 {Q : Int → z_M → Prop} {a0 a1 a2 : z_V} {x y : Int} {st : List z_V} {I : z_M} (hr : inI (x * y) := by omega) (k : JX11_placeHas Q 8 [a0, a1, a2] (aI (x * y) :: st) I) : JX11_placeHas Q 7 [a0, a1, a2] (aI y :: aI x :: st) I := g_imul dX11_placeHas_7 hr k
theorem X11_placeHas_7w {Q : Int → z_M → Prop} {a0 a1 a2 : z_V} {x y : Int} {st : List z_V} {I : z_M} (k : JX11_placeHas Q 8 [a0, a1, a2] (aI (i32 (x * y)) :: st) I) : JX11_placeHas Q 7 [a0, a1, a2] (aI y :: aI x :: st) I := g_imulw dX11_placeHas_7 k
theorem dX11_placeHas_8 : decode cX11_placeHas 8 = .ok (.iadd, 1) := by decide +kernel
theorem X11_placeHas_8 {Q : Int → z_M → Prop} {a0 a1 a2 : z_V} {x y : Int} {st : List z_V} {I : z_M} (hr : inI (x + y) := by omega) (k : JX11_placeHas Q 9 [a0, a1, a2] (aI (x + y) :: st) I) : JX11_placeHas Q 8 [a0, a1, a2] (aI y :: aI x :: st) I := g_iadd dX11_placeHas_8 hr k
theorem X11_placeHas_8w {Q : Int → z_M → Prop} {a0 a1 a2 : z_V} {x y : Int} {st : List z_V} {I : z_M} (k : JX11_placeHas Q 9 [a0, a1, a2] (aI (i32 (x + y)) :: st) I) : JX11_placeHas Q 8 [a0, a1, a2] (aI y :: aI x :: st) I := g_iaddw dX11_placeHas_8 k
theorem dX11_placeHas_9 : decode cX11_placeHas 9 = .ok (.iload_n 2, 1) := by decide +kernel
theorem X11_placeHas_9 {Q : Int → z_M → Prop} {a0 a1 : z_V} {x : Int} {st : List z_V} {I : z_M} (k : JX11_placeHas Q 10 [a0, a1, aI x] (aI x :: st) I) : JX11_placeHas Q 9 [a0, a1, aI x] st I := g_iload_n (i := 2) (x := x) dX11_placeHas_9 rfl rfl k
theorem dX11_placeHas_10 : decode cX11_placeHas 10 = .ok (.iadd, 1) := by decide +kernel
theorem X11_placeHas_10 {Q : Int → z_M → Prop} {a0 a1 a2 : z_V} {x y : Int} {st : List z_V} {I : z_M} (hr : inI (x + y) := by omega) (k : JX11_placeHas Q 11 [a0, a1, a2] (aI (x + y) :: st) I) : JX11_placeHas Q 10 [a0, a1, a2] (aI y :: aI x :: st) I := g_iadd dX11_placeHas_10 hr k
theorem X11_placeHas_10w {Q : Int → z_M → Prop} {a0 a1 a2 : z_V} {x y : Int} {st : List z_V} {I : z_M} (k : JX11_placeHas Q 11 [a0, a1, a2] (aI (i32 (x + y)) :: st) I) : JX11_placeHas Q 10 [a0, a1, a2] (aI y :: aI x :: st) I := g_iaddw dX11_placeHas_10 k
theorem dX11_placeHas_11 : decode cX11_placeHas 11 = .ok (.iaload, 1) := by decide +kernel
theorem X11_placeHas_11 {Q : Int → z_M → Prop} {a0 a1 a2 : z_V} {q : Nat} {i : Int} {st : List z_V} {I : z_M} (hk : z_cl q = 20 := by first | assumption | rfl) (h0 : 0 ≤ i := by omega) (h1 : i < z_n q := by first | omega | (simp only [zn_1, zn_9, zn_10, zn_11, zn_12, zn_13, zn_14, zn_15, zn_16, zn_18, zn_20, zn_21, zn_22, zn_23, zn_24, zn_25, zn_26, zn_27, zn_29, zn_30, zn_53, zn_55, zn_56, zn_58, zn_59, zn_61, zn_62, zn_63, zn_64, zn_65, zn_66, zn_67, zn_68, zn_69, zn_70, zn_71, zn_72, zn_73]; omega)) (k : JX11_placeHas Q 12 [a0, a1, a2] (aI (I q i.toNat) :: st) I) : JX11_placeHas Q 11 [a0, a1, a2] (aI i :: aR q :: st) I := g_iald dX11_placeHas_11 hk h0 h1 k
theorem dX11_placeHas_12 : decode cX11_placeHas 12 = .ok (.ireturn, 1) := by decide +kernel
theorem X11_placeHas_12 {Q : Int → z_M → Prop} {a0 a1 a2 : z_V} {x : Int} {I : z_M} (hq : Q x I) : JX11_placeHas Q 12 [a0, a1, a2] [aI x] I := g_ireturn dX11_placeHas_12 ⟨x, rfl, hq⟩
theorem dX11_pipeHas_0 : decode cX11_pipeHas 0 = .ok (.aload_n 0, 1) := by decide +kernel
theorem X11_pipeHas_0 {Q : Int → z_M → Prop} {a1 a2 : z_V} {x : Nat} {st : List z_V} {I : z_M} (k : JX11_pipeHas Q 1 [aR x, a1, a2] (aR x :: st) I) : JX11_pipeHas Q 0 [aR x, a1, a2] st I := g_aload_n (i := 0) (x := x) dX11_pipeHas_0 rfl rfl k
theorem dX11_pipeHas_1 : decode cX11_pipeHas 1 = .ok (.getfield 7, 3) := by decide +kernel
theorem X11_pipeHas_1 {Q : Int → z_M → Prop} {a0 a1 a2 : z_V}  {st : List z_V} {I : z_M}  (k : JX11_pipeHas Q 4 [a0, a1, a2] (aR (61) :: st) I) : JX11_pipeHas Q 1 [a0, a1, a2] (aR 60 :: st) I := g_getr (ci := 11) (j := 0) (N := 23) (T := TX11) dX11_pipeHas_1 rfl rfl (by decide) (z_nc11 rfl) inlX11 (by decide) m_5_1 rfl rfl k
theorem dX11_pipeHas_4 : decode cX11_pipeHas 4 = .ok (.bipush 30, 2) := by decide +kernel
theorem X11_pipeHas_4 {Q : Int → z_M → Prop} {a0 a1 a2 : z_V} {st : List z_V} {I : z_M} (k : JX11_pipeHas Q 6 [a0, a1, a2] (aI 30 :: st) I) : JX11_pipeHas Q 4 [a0, a1, a2] st I := g_bipush (n := 30) dX11_pipeHas_4 (by decide +kernel) (by decide) k
theorem dX11_pipeHas_6 : decode cX11_pipeHas 6 = .ok (.iconst 4, 1) := by decide +kernel
theorem X11_pipeHas_6 {Q : Int → z_M → Prop} {a0 a1 a2 : z_V} {st : List z_V} {I : z_M} (k : JX11_pipeHas Q 7 [a0, a1, a2] (aI 4 :: st) I) : JX11_pipeHas Q 6 [a0, a1, a2] st I := g_iconst (n := 4) dX11_pipeHas_6 (by decide) k
theorem dX11_pipeHas_7 : decode cX11_pipeHas 7 = .ok (.iload_n 1, 1) := by decide +kernel
theorem X11_pipeHas_7 {Q : Int → z_M → Prop} {a0 a2 : z_V} {x : Int} {st : List z_V} {I : z_M} (k : JX11_pipeHas Q 8 [a0, aI x, a2] (aI x :: st) I) : JX11_pipeHas Q 7 [a0, aI x, a2] st I := g_iload_n (i := 1) (x := x) dX11_pipeHas_7 rfl rfl k
theorem dX11_pipeHas_8 : decode cX11_pipeHas 8 = .ok (.imul, 1) := by decide +kernel
theorem X11_pipeHas_8 {Q : Int → z_M → Prop} {a0 a1 a2 : z_V} {x y : Int} {st : List z_V} {I : z_M} (hr : inI (x * y) := by omega) (k : JX11_pipeHas Q 9 [a0, a1, a2] (aI (x * y) :: st) I) : JX11_pipeHas Q 8 [a0, a1, a2] (aI y :: aI x :: st) I := g_imul dX11_pipeHas_8 hr k
theorem X11_pipeHas_8w {Q : Int → z_M → Prop} {a0 a1 a2 : z_V} {x y : Int} {st : List z_V} {I : z_M} (k : JX11_pipeHas Q 9 [a0, a1, a2] (aI (i32 (x * y)) :: st) I) : JX11_pipeHas Q 8 [a0, a1, a2] (aI y :: aI x :: st) I := g_imulw dX11_pipeHas_8 k
theorem dX11_pipeHas_9 : decode cX11_pipeHas 9 = .ok (.iadd, 1) := by decide +kernel
theorem X11_pipeHas_9 {Q : Int → z_M → Prop} {a0 a1 a2 : z_V} {x y : Int} {st : List z_V} {I : z_M} (hr : inI (x + y) := by omega) (k : JX11_pipeHas Q 10 [a0, a1, a2] (aI (x + y) :: st) I) : JX11_pipeHas Q 9 [a0, a1, a2] (aI y :: aI x :: st) I := g_iadd dX11_pipeHas_9 hr k
theorem X11_pipeHas_9w {Q : Int → z_M → Prop} {a0 a1 a2 : z_V} {x y : Int} {st : List z_V} {I : z_M} (k : JX11_pipeHas Q 10 [a0, a1, a2] (aI (i32 (x + y)) :: st) I) : JX11_pipeHas Q 9 [a0, a1, a2] (aI y :: aI x :: st) I := g_iaddw dX11_pipeHas_9 k
theorem dX11_pipeHas_10 : decode cX11_pipeHas 10 = .ok (.iload_n 2, 1) := by decide +kernel
theorem X11_pipeHas_10 {Q : Int → z_M → Prop} {a0 a1 : z_V} {x : Int} {st : List z_V} {I : z_M} (k : JX11_pipeHas Q 11 [a0, a1, aI x] (aI x :: st) I) : JX11_pipeHas Q 10 [a0, a1, aI x] st I := g_iload_n (i := 2) (x := x) dX11_pipeHas_10 rfl rfl k
theorem dX11_pipeHas_11 : decode cX11_pipeHas 11 = .ok (.iadd, 1) := by decide +kernel
theorem X11_pipeHas_11 {Q : Int → z_M → Prop} {a0 a1 a2 : z_V} {x y : Int} {st : List z_V} {I : z_M} (hr : inI (x + y) := by omega) (k : JX11_pipeHas Q 12 [a0, a1, a2] (aI (x + y) :: st) I) : JX11_pipeHas Q 11 [a0, a1, a2] (aI y :: aI x :: st) I := g_iadd dX11_pipeHas_11 hr k
theorem X11_pipeHas_11w {Q : Int → z_M → Prop} {a0 a1 a2 : z_V} {x y : Int} {st : List z_V} {I : z_M} (k : JX11_pipeHas Q 12 [a0, a1, a2] (aI (i32 (x + y)) :: st) I) : JX11_pipeHas Q 11 [a0, a1, a2] (aI y :: aI x :: st) I := g_iaddw dX11_pipeHas_11 k
theorem dX11_pipeHas_12 : decode cX11_pipeHas 12 = .ok (.iaload, 1) := by decide +kernel
theorem X11_pipeHas_12 {Q : Int → z_M → Prop} {a0 a1 a2 : z_V} {q : Nat} {i : Int} {st : List z_V} {I : z_M} (hk : z_cl q = 20 := by first | assumption | rfl) (h0 : 0 ≤ i := by omega) (h1 : i < z_n q := by first | omega | (simp only [zn_1, zn_9, zn_10, zn_11, zn_12, zn_13, zn_14, zn_15, zn_16, zn_18, zn_20, zn_21, zn_22, zn_23, zn_24, zn_25, zn_26, zn_27, zn_29, zn_30, zn_53, zn_55, zn_56, zn_58, zn_59, zn_61, zn_62, zn_63, zn_64, zn_65, zn_66, zn_67, zn_68, zn_69, zn_70, zn_71, zn_72, zn_73]; omega)) (k : JX11_pipeHas Q 13 [a0, a1, a2] (aI (I q i.toNat) :: st) I) : JX11_pipeHas Q 12 [a0, a1, a2] (aI i :: aR q :: st) I := g_iald dX11_pipeHas_12 hk h0 h1 k
theorem dX11_pipeHas_13 : decode cX11_pipeHas 13 = .ok (.ireturn, 1) := by decide +kernel
theorem X11_pipeHas_13 {Q : Int → z_M → Prop} {a0 a1 a2 : z_V} {x : Int} {I : z_M} (hq : Q x I) : JX11_pipeHas Q 13 [a0, a1, a2] [aI x] I := g_ireturn dX11_pipeHas_13 ⟨x, rfl, hq⟩
theorem dX11_notes_0 : decode cX11_notes 0 = .ok (.aload_n 0, 1) := by decide +kernel
theorem X11_notes_0 {Q : Int → z_M → Prop} {a1 : z_V} {x : Nat} {st : List z_V} {I : z_M} (k : JX11_notes Q 1 [aR x, a1] (aR x :: st) I) : JX11_notes Q 0 [aR x, a1] st I := g_aload_n (i := 0) (x := x) dX11_notes_0 rfl rfl k
theorem dX11_notes_1 : decode cX11_notes 1 = .ok (.getfield 7, 3) := by decide +kernel
theorem X11_notes_1 {Q : Int → z_M → Prop} {a0 a1 : z_V}  {st : List z_V} {I : z_M}  (k : JX11_notes Q 4 [a0, a1] (aR (61) :: st) I) : JX11_notes Q 1 [a0, a1] (aR 60 :: st) I := g_getr (ci := 11) (j := 0) (N := 23) (T := TX11) dX11_notes_1 rfl rfl (by decide) (z_nc11 rfl) inlX11 (by decide) m_5_1 rfl rfl k
theorem dX11_notes_4 : decode cX11_notes 4 = .ok (.bipush 62, 2) := by decide +kernel
theorem X11_notes_4 {Q : Int → z_M → Prop} {a0 a1 : z_V} {st : List z_V} {I : z_M} (k : JX11_notes Q 6 [a0, a1] (aI 62 :: st) I) : JX11_notes Q 4 [a0, a1] st I := g_bipush (n := 62) dX11_notes_4 (by decide +kernel) (by decide) k
theorem dX11_notes_6 : decode cX11_notes 6 = .ok (.bipush 9, 2) := by decide +kernel
theorem X11_notes_6 {Q : Int → z_M → Prop} {a0 a1 : z_V} {st : List z_V} {I : z_M} (k : JX11_notes Q 8 [a0, a1] (aI 9 :: st) I) : JX11_notes Q 6 [a0, a1] st I := g_bipush (n := 9) dX11_notes_6 (by decide +kernel) (by decide) k
theorem dX11_notes_8 : decode cX11_notes 8 = .ok (.iload_n 1, 1) := by decide +kernel
theorem X11_notes_8 {Q : Int → z_M → Prop} {a0 : z_V} {x : Int} {st : List z_V} {I : z_M} (k : JX11_notes Q 9 [a0, aI x] (aI x :: st) I) : JX11_notes Q 8 [a0, aI x] st I := g_iload_n (i := 1) (x := x) dX11_notes_8 rfl rfl k
theorem dX11_notes_9 : decode cX11_notes 9 = .ok (.imul, 1) := by decide +kernel
theorem X11_notes_9 {Q : Int → z_M → Prop} {a0 a1 : z_V} {x y : Int} {st : List z_V} {I : z_M} (hr : inI (x * y) := by omega) (k : JX11_notes Q 10 [a0, a1] (aI (x * y) :: st) I) : JX11_notes Q 9 [a0, a1] (aI y :: aI x :: st) I := g_imul dX11_notes_9 hr k
theorem X11_notes_9w {Q : Int → z_M → Prop} {a0 a1 : z_V} {x y : Int} {st : List z_V} {I : z_M} (k : JX11_notes Q 10 [a0, a1] (aI (i32 (x * y)) :: st) I) : JX11_notes Q 9 [a0, a1] (aI y :: aI x :: st) I := g_imulw dX11_notes_9 k
theorem dX11_notes_10 : decode cX11_notes 10 = .ok (.iadd, 1) := by decide +kernel
theorem X11_notes_10 {Q : Int → z_M → Prop} {a0 a1 : z_V} {x y : Int} {st : List z_V} {I : z_M} (hr : inI (x + y) := by omega) (k : JX11_notes Q 11 [a0, a1] (aI (x + y) :: st) I) : JX11_notes Q 10 [a0, a1] (aI y :: aI x :: st) I := g_iadd dX11_notes_10 hr k
theorem X11_notes_10w {Q : Int → z_M → Prop} {a0 a1 : z_V} {x y : Int} {st : List z_V} {I : z_M} (k : JX11_notes Q 11 [a0, a1] (aI (i32 (x + y)) :: st) I) : JX11_notes Q 10 [a0, a1] (aI y :: aI x :: st) I := g_iaddw dX11_notes_10 k
theorem dX11_notes_11 : decode cX11_notes 11 = .ok (.iaload, 1) := by decide +kernel
theorem X11_notes_11 {Q : Int → z_M → Prop} {a0 a1 : z_V} {q : Nat} {i : Int} {st : List z_V} {I : z_M} (hk : z_cl q = 20 := by first | assumption | rfl) (h0 : 0 ≤ i := by omega) (h1 : i < z_n q := by first | omega | (simp only [zn_1, zn_9, zn_10, zn_11, zn_12, zn_13, zn_14, zn_15, zn_16, zn_18, zn_20, zn_21, zn_22, zn_23, zn_24, zn_25, zn_26, zn_27, zn_29, zn_30, zn_53, zn_55, zn_56, zn_58, zn_59, zn_61, zn_62, zn_63, zn_64, zn_65, zn_66, zn_67, zn_68, zn_69, zn_70, zn_71, zn_72, zn_73]; omega)) (k : JX11_notes Q 12 [a0, a1] (aI (I q i.toNat) :: st) I) : JX11_notes Q 11 [a0, a1] (aI i :: aR q :: st) I := g_iald dX11_notes_11 hk h0 h1 k
theorem dX11_notes_12 : decode cX11_notes 12 = .ok (.ireturn, 1) := by decide +kernel
theorem X11_notes_12 {Q : Int → z_M → Prop} {a0 a1 : z_V} {x : Int} {I : z_M} (hq : Q x I) : JX11_notes Q 12 [a0, a1] [aI x] I := g_ireturn dX11_notes_12 ⟨x, rfl, hq⟩
theorem dX11_noteOf_0 : decode cX11_noteOf 0 = .ok (.aload_n 0, 1) := by decide +kernel
theorem X11_noteOf_0 {Q : Int → z_M → Prop} {a1 a2 : z_V} {x : Nat} {st : List z_V} {I : z_M} (k : JX11_noteOf Q 1 [aR x, a1, a2] (aR x :: st) I) : JX11_noteOf Q 0 [aR x, a1, a2] st I := g_aload_n (i := 0) (x := x) dX11_noteOf_0 rfl rfl k
theorem dX11_noteOf_1 : decode cX11_noteOf 1 = .ok (.getfield 7, 3) := by decide +kernel
theorem X11_noteOf_1 {Q : Int → z_M → Prop} {a0 a1 a2 : z_V}  {st : List z_V} {I : z_M}  (k : JX11_noteOf Q 4 [a0, a1, a2] (aR (61) :: st) I) : JX11_noteOf Q 1 [a0, a1, a2] (aR 60 :: st) I := g_getr (ci := 11) (j := 0) (N := 23) (T := TX11) dX11_noteOf_1 rfl rfl (by decide) (z_nc11 rfl) inlX11 (by decide) m_5_1 rfl rfl k
theorem dX11_noteOf_4 : decode cX11_noteOf 4 = .ok (.bipush 62, 2) := by decide +kernel
theorem X11_noteOf_4 {Q : Int → z_M → Prop} {a0 a1 a2 : z_V} {st : List z_V} {I : z_M} (k : JX11_noteOf Q 6 [a0, a1, a2] (aI 62 :: st) I) : JX11_noteOf Q 4 [a0, a1, a2] st I := g_bipush (n := 62) dX11_noteOf_4 (by decide +kernel) (by decide) k
theorem dX11_noteOf_6 : decode cX11_noteOf 6 = .ok (.bipush 9, 2) := by decide +kernel
theorem X11_noteOf_6 {Q : Int → z_M → Prop} {a0 a1 a2 : z_V} {st : List z_V} {I : z_M} (k : JX11_noteOf Q 8 [a0, a1, a2] (aI 9 :: st) I) : JX11_noteOf Q 6 [a0, a1, a2] st I := g_bipush (n := 9) dX11_noteOf_6 (by decide +kernel) (by decide) k
theorem dX11_noteOf_8 : decode cX11_noteOf 8 = .ok (.iload_n 1, 1) := by decide +kernel
theorem X11_noteOf_8 {Q : Int → z_M → Prop} {a0 a2 : z_V} {x : Int} {st : List z_V} {I : z_M} (k : JX11_noteOf Q 9 [a0, aI x, a2] (aI x :: st) I) : JX11_noteOf Q 8 [a0, aI x, a2] st I := g_iload_n (i := 1) (x := x) dX11_noteOf_8 rfl rfl k
theorem dX11_noteOf_9 : decode cX11_noteOf 9 = .ok (.imul, 1) := by decide +kernel
theorem X11_noteOf_9 {Q : Int → z_M → Prop} {a0 a1 a2 : z_V} {x y : Int} {st : List z_V} {I : z_M} (hr : inI (x * y) := by omega) (k : JX11_noteOf Q 10 [a0, a1, a2] (aI (x * y) :: st) I) : JX11_noteOf Q 9 [a0, a1, a2] (aI y :: aI x :: st) I := g_imul dX11_noteOf_9 hr k
theorem X11_noteOf_9w {Q : Int → z_M → Prop} {a0 a1 a2 : z_V} {x y : Int} {st : List z_V} {I : z_M} (k : JX11_noteOf Q 10 [a0, a1, a2] (aI (i32 (x * y)) :: st) I) : JX11_noteOf Q 9 [a0, a1, a2] (aI y :: aI x :: st) I := g_imulw dX11_noteOf_9 k
theorem dX11_noteOf_10 : decode cX11_noteOf 10 = .ok (.iadd, 1) := by decide +kernel
theorem X11_noteOf_10 {Q : Int → z_M → Prop} {a0 a1 a2 : z_V} {x y : Int} {st : List z_V} {I : z_M} (hr : inI (x + y) := by omega) (k : JX11_noteOf Q 11 [a0, a1, a2] (aI (x + y) :: st) I) : JX11_noteOf Q 10 [a0, a1, a2] (aI y :: aI x :: st) I := g_iadd dX11_noteOf_10 hr k
theorem X11_noteOf_10w {Q : Int → z_M → Prop} {a0 a1 a2 : z_V} {x y : Int} {st : List z_V} {I : z_M} (k : JX11_noteOf Q 11 [a0, a1, a2] (aI (i32 (x + y)) :: st) I) : JX11_noteOf Q 10 [a0, a1, a2] (aI y :: aI x :: st) I := g_iaddw dX11_noteOf_10 k
theorem dX11_noteOf_11 : decode cX11_noteOf 11 = .ok (.iconst 1, 1) := by decide +kernel
theorem X11_noteOf_11 {Q : Int → z_M → Prop} {a0 a1 a2 : z_V} {st : List z_V} {I : z_M} (k : JX11_noteOf Q 12 [a0, a1, a2] (aI 1 :: st) I) : JX11_noteOf Q 11 [a0, a1, a2] st I := g_iconst (n := 1) dX11_noteOf_11 (by decide) k
theorem dX11_noteOf_12 : decode cX11_noteOf 12 = .ok (.iadd, 1) := by decide +kernel
theorem X11_noteOf_12 {Q : Int → z_M → Prop} {a0 a1 a2 : z_V} {x y : Int} {st : List z_V} {I : z_M} (hr : inI (x + y) := by omega) (k : JX11_noteOf Q 13 [a0, a1, a2] (aI (x + y) :: st) I) : JX11_noteOf Q 12 [a0, a1, a2] (aI y :: aI x :: st) I := g_iadd dX11_noteOf_12 hr k
theorem X11_noteOf_12w {Q : Int → z_M → Prop} {a0 a1 a2 : z_V} {x y : Int} {st : List z_V} {I : z_M} (k : JX11_noteOf Q 13 [a0, a1, a2] (aI (i32 (x + y)) :: st) I) : JX11_noteOf Q 12 [a0, a1, a2] (aI y :: aI x :: st) I := g_iaddw dX11_noteOf_12 k
theorem dX11_noteOf_13 : decode cX11_noteOf 13 = .ok (.iload_n 2, 1) := by decide +kernel
theorem X11_noteOf_13 {Q : Int → z_M → Prop} {a0 a1 : z_V} {x : Int} {st : List z_V} {I : z_M} (k : JX11_noteOf Q 14 [a0, a1, aI x] (aI x :: st) I) : JX11_noteOf Q 13 [a0, a1, aI x] st I := g_iload_n (i := 2) (x := x) dX11_noteOf_13 rfl rfl k
theorem dX11_noteOf_14 : decode cX11_noteOf 14 = .ok (.iadd, 1) := by decide +kernel
theorem X11_noteOf_14 {Q : Int → z_M → Prop} {a0 a1 a2 : z_V} {x y : Int} {st : List z_V} {I : z_M} (hr : inI (x + y) := by omega) (k : JX11_noteOf Q 15 [a0, a1, a2] (aI (x + y) :: st) I) : JX11_noteOf Q 14 [a0, a1, a2] (aI y :: aI x :: st) I := g_iadd dX11_noteOf_14 hr k
theorem X11_noteOf_14w {Q : Int → z_M → Prop} {a0 a1 a2 : z_V} {x y : Int} {st : List z_V} {I : z_M} (k : JX11_noteOf Q 15 [a0, a1, a2] (aI (i32 (x + y)) :: st) I) : JX11_noteOf Q 14 [a0, a1, a2] (aI y :: aI x :: st) I := g_iaddw dX11_noteOf_14 k
theorem dX11_noteOf_15 : decode cX11_noteOf 15 = .ok (.iaload, 1) := by decide +kernel
theorem X11_noteOf_15 {Q : Int → z_M → Prop} {a0 a1 a2 : z_V} {q : Nat} {i : Int} {st : List z_V} {I : z_M} (hk : z_cl q = 20 := by first | assumption | rfl) (h0 : 0 ≤ i := by omega) (h1 : i < z_n q := by first | omega | (simp only [zn_1, zn_9, zn_10, zn_11, zn_12, zn_13, zn_14, zn_15, zn_16, zn_18, zn_20, zn_21, zn_22, zn_23, zn_24, zn_25, zn_26, zn_27, zn_29, zn_30, zn_53, zn_55, zn_56, zn_58, zn_59, zn_61, zn_62, zn_63, zn_64, zn_65, zn_66, zn_67, zn_68, zn_69, zn_70, zn_71, zn_72, zn_73]; omega)) (k : JX11_noteOf Q 16 [a0, a1, a2] (aI (I q i.toNat) :: st) I) : JX11_noteOf Q 15 [a0, a1, a2] (aI i :: aR q :: st) I := g_iald dX11_noteOf_15 hk h0 h1 k
theorem dX11_noteOf_16 : decode cX11_noteOf 16 = .ok (.ireturn, 1) := by decide +kernel
theorem X11_noteOf_16 {Q : Int → z_M → Prop} {a0 a1 a2 : z_V} {x : Int} {I : z_M} (hq : Q x I) : JX11_noteOf Q 16 [a0, a1, a2] [aI x] I := g_ireturn dX11_noteOf_16 ⟨x, rfl, hq⟩
theorem dX11_organ_0 : decode cX11_organ 0 = .ok (.aload_n 0, 1) := by decide +kernel
theorem X11_organ_0 {Q : Int → z_M → Prop} {a1 : z_V} {x : Nat} {st : List z_V} {I : z_M} (k : JX11_organ Q 1 [aR x, a1] (aR x :: st) I) : JX11_organ Q 0 [aR x, a1] st I := g_aload_n (i := 0) (x := x) dX11_organ_0 rfl rfl k
theorem dX11_organ_1 : decode cX11_organ 1 = .ok (.invokevirtual 54, 3) := by decide +kernel
theorem X11_organ_1 {Q : Int → z_M → Prop} {a0 a1 : z_V}   {st : List z_V} {I : z_M}  (hst : z_sw st ≤ 8 := by exact Nat.le_of_ble_eq_true rfl) (k : CX11_pipes (aR 60 :: []) I (fun x9 I9 => JX11_organ Q 4 [a0, a1] (aI x9 :: st) I9)) : JX11_organ Q 1 [a0, a1] (aR 60 :: st) I := g_callV (C := RX11) (ci := 11) (As := []) (n := 0) dX11_organ_1 ⟨m_6_21, pdX11_pipes, ⟨by decide, by decide⟩, rfl, rfl, by decide, by decide⟩ m_6_18 m_6_19 m_6_20 m_1_5 rfl rfl (by decide) rfl rfl hst k (fun r I9 h => by obtain ⟨x9, rfl, h⟩ := h; exact h)
theorem dX11_organ_4 : decode cX11_organ 4 = .ok (.istore_n 1, 1) := by decide +kernel
theorem X11_organ_4 {Q : Int → z_M → Prop} {a0 a1 : z_V} {x : Int} {st : List z_V} {I : z_M} (hb : z_nl [a0, a1] 1 = true := by rfl) (k : JX11_organ Q 5 [a0, aI x] st I) : JX11_organ Q 4 [a0, a1] (aI x :: st) I := g_istore_n (i := 1) (x := x) dX11_organ_4 rfl (show 1 < 2 from by decide) hb k
theorem dX11_organ_5 : decode cX11_organ 5 = .ok (.aload_n 0, 1) := by decide +kernel
theorem X11_organ_5 {Q : Int → z_M → Prop} {a1 : z_V} {x : Nat} {st : List z_V} {I : z_M} (k : JX11_organ Q 6 [aR x, a1] (aR x :: st) I) : JX11_organ Q 5 [aR x, a1] st I := g_aload_n (i := 0) (x := x) dX11_organ_5 rfl rfl k
theorem dX11_organ_6 : decode cX11_organ 6 = .ok (.getfield 7, 3) := by decide +kernel
theorem X11_organ_6 {Q : Int → z_M → Prop} {a0 a1 : z_V}  {st : List z_V} {I : z_M}  (k : JX11_organ Q 9 [a0, a1] (aR (61) :: st) I) : JX11_organ Q 6 [a0, a1] (aR 60 :: st) I := g_getr (ci := 11) (j := 0) (N := 23) (T := TX11) dX11_organ_6 rfl rfl (by decide) (z_nc11 rfl) inlX11 (by decide) m_5_1 rfl rfl k
theorem dX11_organ_9 : decode cX11_organ 9 = .ok (.invokestatic 73, 3) := by decide +kernel
theorem X11_organ_9 {Q : Int → z_M → Prop} {a0 a1 : z_V} {x0 : Nat} {st : List z_V} {I : z_M} (hst : z_sw st ≤ 8 := by exact Nat.le_of_ble_eq_true rfl) (k : CX11_begin [aR x0] I (fun I9 => JX11_organ Q 12 [a0, a1] st I9)) : JX11_organ Q 9 [a0, a1] (aR x0 :: st) I := g_callS (As := [aR x0]) (n := 1) dX11_organ_9 ⟨m_7_0, pdX11_begin, ⟨by decide, by decide⟩, rfl, rfl, by decide, by decide⟩ m_6_22 m_6_23 m_1_5 rfl hst k (fun r I9 h => by obtain ⟨rfl, h⟩ := h; exact h)
theorem dX11_organ_12 : decode cX11_organ 12 = .ok (.iload_n 1, 1) := by decide +kernel
theorem X11_organ_12 {Q : Int → z_M → Prop} {a0 : z_V} {x : Int} {st : List z_V} {I : z_M} (k : JX11_organ Q 13 [a0, aI x] (aI x :: st) I) : JX11_organ Q 12 [a0, aI x] st I := g_iload_n (i := 1) (x := x) dX11_organ_12 rfl rfl k
theorem dX11_organ_13 : decode cX11_organ 13 = .ok (.ireturn, 1) := by decide +kernel
theorem X11_organ_13 {Q : Int → z_M → Prop} {a0 a1 : z_V} {x : Int} {I : z_M} (hq : Q x I) : JX11_organ Q 13 [a0, a1] [aI x] I := g_ireturn dX11_organ_13 ⟨x, rfl, hq⟩
theorem dX11_layPlace_0 : decode cX11_layPlace 0 = .ok (.iconst 5, 1) := by decide +kernel
theorem X11_layPlace_0 {Q : z_M → Prop} {a0 a1 a2 a3 a4 a5 a6 : z_V} {st : List z_V} {I : z_M} (k : JX11_layPlace Q 1 [a0, a1, a2, a3, a4, a5, a6] (aI 5 :: st) I) : JX11_layPlace Q 0 [a0, a1, a2, a3, a4, a5, a6] st I := g_iconst (n := 5) dX11_layPlace_0 (by decide) k
theorem dX11_layPlace_1 : decode cX11_layPlace 1 = .ok (.iconst 5, 1) := by decide +kernel
theorem X11_layPlace_1 {Q : z_M → Prop} {a0 a1 a2 a3 a4 a5 a6 : z_V} {st : List z_V} {I : z_M} (k : JX11_layPlace Q 2 [a0, a1, a2, a3, a4, a5, a6] (aI 5 :: st) I) : JX11_layPlace Q 1 [a0, a1, a2, a3, a4, a5, a6] st I := g_iconst (n := 5) dX11_layPlace_1 (by decide) k
theorem dX11_layPlace_2 : decode cX11_layPlace 2 = .ok (.aload_n 0, 1) := by decide +kernel
theorem X11_layPlace_2 {Q : z_M → Prop} {a1 a2 a3 a4 a5 a6 : z_V} {x : Nat} {st : List z_V} {I : z_M} (k : JX11_layPlace Q 3 [aR x, a1, a2, a3, a4, a5, a6] (aR x :: st) I) : JX11_layPlace Q 2 [aR x, a1, a2, a3, a4, a5, a6] st I := g_aload_n (i := 0) (x := x) dX11_layPlace_2 rfl rfl k
theorem dX11_layPlace_3 : decode cX11_layPlace 3 = .ok (.iconst 1, 1) := by decide +kernel
theorem X11_layPlace_3 {Q : z_M → Prop} {a0 a1 a2 a3 a4 a5 a6 : z_V} {st : List z_V} {I : z_M} (k : JX11_layPlace Q 4 [a0, a1, a2, a3, a4, a5, a6] (aI 1 :: st) I) : JX11_layPlace Q 3 [a0, a1, a2, a3, a4, a5, a6] st I := g_iconst (n := 1) dX11_layPlace_3 (by decide) k
theorem dX11_layPlace_4 : decode cX11_layPlace 4 = .ok (.iaload, 1) := by decide +kernel
theorem X11_layPlace_4 {Q : z_M → Prop} {a0 a1 a2 a3 a4 a5 a6 : z_V} {q : Nat} {i : Int} {st : List z_V} {I : z_M} (hk : z_cl q = 20 := by first | assumption | rfl) (h0 : 0 ≤ i := by omega) (h1 : i < z_n q := by first | omega | (simp only [zn_1, zn_9, zn_10, zn_11, zn_12, zn_13, zn_14, zn_15, zn_16, zn_18, zn_20, zn_21, zn_22, zn_23, zn_24, zn_25, zn_26, zn_27, zn_29, zn_30, zn_53, zn_55, zn_56, zn_58, zn_59, zn_61, zn_62, zn_63, zn_64, zn_65, zn_66, zn_67, zn_68, zn_69, zn_70, zn_71, zn_72, zn_73]; omega)) (k : JX11_layPlace Q 5 [a0, a1, a2, a3, a4, a5, a6] (aI (I q i.toNat) :: st) I) : JX11_layPlace Q 4 [a0, a1, a2, a3, a4, a5, a6] (aI i :: aR q :: st) I := g_iald dX11_layPlace_4 hk h0 h1 k
theorem dX11_layPlace_5 : decode cX11_layPlace 5 = .ok (.imul, 1) := by decide +kernel
theorem X11_layPlace_5 {Q : z_M → Prop} {a0 a1 a2 a3 a4 a5 a6 : z_V} {x y : Int} {st : List z_V} {I : z_M} (hr : inI (x * y) := by omega) (k : JX11_layPlace Q 6 [a0, a1, a2, a3, a4, a5, a6] (aI (x * y) :: st) I) : JX11_layPlace Q 5 [a0, a1, a2, a3, a4, a5, a6] (aI y :: aI x :: st) I := g_imul dX11_layPlace_5 hr k
theorem X11_layPlace_5w {Q : z_M → Prop} {a0 a1 a2 a3 a4 a5 a6 : z_V} {x y : Int} {st : List z_V} {I : z_M} (k : JX11_layPlace Q 6 [a0, a1, a2, a3, a4, a5, a6] (aI (i32 (x * y)) :: st) I) : JX11_layPlace Q 5 [a0, a1, a2, a3, a4, a5, a6] (aI y :: aI x :: st) I := g_imulw dX11_layPlace_5 k
theorem dX11_layPlace_6 : decode cX11_layPlace 6 = .ok (.iadd, 1) := by decide +kernel
theorem X11_layPlace_6 {Q : z_M → Prop} {a0 a1 a2 a3 a4 a5 a6 : z_V} {x y : Int} {st : List z_V} {I : z_M} (hr : inI (x + y) := by omega) (k : JX11_layPlace Q 7 [a0, a1, a2, a3, a4, a5, a6] (aI (x + y) :: st) I) : JX11_layPlace Q 6 [a0, a1, a2, a3, a4, a5, a6] (aI y :: aI x :: st) I := g_iadd dX11_layPlace_6 hr k
theorem X11_layPlace_6w {Q : z_M → Prop} {a0 a1 a2 a3 a4 a5 a6 : z_V} {x y : Int} {st : List z_V} {I : z_M} (k : JX11_layPlace Q 7 [a0, a1, a2, a3, a4, a5, a6] (aI (i32 (x + y)) :: st) I) : JX11_layPlace Q 6 [a0, a1, a2, a3, a4, a5, a6] (aI y :: aI x :: st) I := g_iaddw dX11_layPlace_6 k
theorem dX11_layPlace_7 : decode cX11_layPlace 7 = .ok (.istore 6, 2) := by decide +kernel
theorem X11_layPlace_7 {Q : z_M → Prop} {a0 a1 a2 a3 a4 a5 a6 : z_V} {x : Int} {st : List z_V} {I : z_M} (hb : z_nl [a0, a1, a2, a3, a4, a5, a6] 6 = true := by rfl) (k : JX11_layPlace Q 9 [a0, a1, a2, a3, a4, a5, aI x] st I) : JX11_layPlace Q 7 [a0, a1, a2, a3, a4, a5, a6] (aI x :: st) I := g_istore (i := 6) (x := x) dX11_layPlace_7 (show 6 < 7 from by decide) hb k
theorem dX11_layPlace_9 : decode cX11_layPlace 9 = .ok (.aload_n 0, 1) := by decide +kernel
theorem X11_layPlace_9 {Q : z_M → Prop} {a1 a2 a3 a4 a5 a6 : z_V} {x : Nat} {st : List z_V} {I : z_M} (k : JX11_layPlace Q 10 [aR x, a1, a2, a3, a4, a5, a6] (aR x :: st) I) : JX11_layPlace Q 9 [aR x, a1, a2, a3, a4, a5, a6] st I := g_aload_n (i := 0) (x := x) dX11_layPlace_9 rfl rfl k
theorem dX11_layPlace_10 : decode cX11_layPlace 10 = .ok (.iload 6, 2) := by decide +kernel
theorem X11_layPlace_10 {Q : z_M → Prop} {a0 a1 a2 a3 a4 a5 : z_V} {x : Int} {st : List z_V} {I : z_M} (k : JX11_layPlace Q 12 [a0, a1, a2, a3, a4, a5, aI x] (aI x :: st) I) : JX11_layPlace Q 10 [a0, a1, a2, a3, a4, a5, aI x] st I := g_iload (i := 6) (x := x) dX11_layPlace_10 rfl k
theorem dX11_layPlace_12 : decode cX11_layPlace 12 = .ok (.iconst 0, 1) := by decide +kernel
theorem X11_layPlace_12 {Q : z_M → Prop} {a0 a1 a2 a3 a4 a5 a6 : z_V} {st : List z_V} {I : z_M} (k : JX11_layPlace Q 13 [a0, a1, a2, a3, a4, a5, a6] (aI 0 :: st) I) : JX11_layPlace Q 12 [a0, a1, a2, a3, a4, a5, a6] st I := g_iconst (n := 0) dX11_layPlace_12 (by decide) k
theorem dX11_layPlace_13 : decode cX11_layPlace 13 = .ok (.iadd, 1) := by decide +kernel
theorem X11_layPlace_13 {Q : z_M → Prop} {a0 a1 a2 a3 a4 a5 a6 : z_V} {x y : Int} {st : List z_V} {I : z_M} (hr : inI (x + y) := by omega) (k : JX11_layPlace Q 14 [a0, a1, a2, a3, a4, a5, a6] (aI (x + y) :: st) I) : JX11_layPlace Q 13 [a0, a1, a2, a3, a4, a5, a6] (aI y :: aI x :: st) I := g_iadd dX11_layPlace_13 hr k
theorem X11_layPlace_13w {Q : z_M → Prop} {a0 a1 a2 a3 a4 a5 a6 : z_V} {x y : Int} {st : List z_V} {I : z_M} (k : JX11_layPlace Q 14 [a0, a1, a2, a3, a4, a5, a6] (aI (i32 (x + y)) :: st) I) : JX11_layPlace Q 13 [a0, a1, a2, a3, a4, a5, a6] (aI y :: aI x :: st) I := g_iaddw dX11_layPlace_13 k
theorem dX11_layPlace_14 : decode cX11_layPlace 14 = .ok (.iload_n 1, 1) := by decide +kernel
theorem X11_layPlace_14 {Q : z_M → Prop} {a0 a2 a3 a4 a5 a6 : z_V} {x : Int} {st : List z_V} {I : z_M} (k : JX11_layPlace Q 15 [a0, aI x, a2, a3, a4, a5, a6] (aI x :: st) I) : JX11_layPlace Q 14 [a0, aI x, a2, a3, a4, a5, a6] st I := g_iload_n (i := 1) (x := x) dX11_layPlace_14 rfl rfl k
theorem dX11_layPlace_15 : decode cX11_layPlace 15 = .ok (.iastore, 1) := by decide +kernel
theorem X11_layPlace_15 {Q : z_M → Prop} {a0 a1 a2 a3 a4 a5 a6 : z_V} {q : Nat} {i x : Int} {st : List z_V} {I : z_M} (hk : z_cl q = 20 := by first | assumption | rfl) (h0 : 0 ≤ i := by omega) (h1 : i < z_n q := by first | omega | (simp only [zn_1, zn_9, zn_10, zn_11, zn_12, zn_13, zn_14, zn_15, zn_16, zn_18, zn_20, zn_21, zn_22, zn_23, zn_24, zn_25, zn_26, zn_27, zn_29, zn_30, zn_53, zn_55, zn_56, zn_58, zn_59, zn_61, zn_62, zn_63, zn_64, zn_65, zn_66, zn_67, zn_68, zn_69, zn_70, zn_71, zn_72, zn_73]; omega))  (k : JX11_layPlace Q 16 [a0, a1, a2, a3, a4, a5, a6] st (z_up I q i.toNat x)) : JX11_layPlace Q 15 [a0, a1, a2, a3, a4, a5, a6] (aI x :: aI i :: aR q :: st) I := g_iast dX11_layPlace_15 hk h0 h1 k
theorem dX11_layPlace_16 : decode cX11_layPlace 16 = .ok (.aload_n 0, 1) := by decide +kernel
theorem X11_layPlace_16 {Q : z_M → Prop} {a1 a2 a3 a4 a5 a6 : z_V} {x : Nat} {st : List z_V} {I : z_M} (k : JX11_layPlace Q 17 [aR x, a1, a2, a3, a4, a5, a6] (aR x :: st) I) : JX11_layPlace Q 16 [aR x, a1, a2, a3, a4, a5, a6] st I := g_aload_n (i := 0) (x := x) dX11_layPlace_16 rfl rfl k
theorem dX11_layPlace_17 : decode cX11_layPlace 17 = .ok (.iload 6, 2) := by decide +kernel
theorem X11_layPlace_17 {Q : z_M → Prop} {a0 a1 a2 a3 a4 a5 : z_V} {x : Int} {st : List z_V} {I : z_M} (k : JX11_layPlace Q 19 [a0, a1, a2, a3, a4, a5, aI x] (aI x :: st) I) : JX11_layPlace Q 17 [a0, a1, a2, a3, a4, a5, aI x] st I := g_iload (i := 6) (x := x) dX11_layPlace_17 rfl k
theorem dX11_layPlace_19 : decode cX11_layPlace 19 = .ok (.iconst 1, 1) := by decide +kernel
theorem X11_layPlace_19 {Q : z_M → Prop} {a0 a1 a2 a3 a4 a5 a6 : z_V} {st : List z_V} {I : z_M} (k : JX11_layPlace Q 20 [a0, a1, a2, a3, a4, a5, a6] (aI 1 :: st) I) : JX11_layPlace Q 19 [a0, a1, a2, a3, a4, a5, a6] st I := g_iconst (n := 1) dX11_layPlace_19 (by decide) k
theorem dX11_layPlace_20 : decode cX11_layPlace 20 = .ok (.iadd, 1) := by decide +kernel
theorem X11_layPlace_20 {Q : z_M → Prop} {a0 a1 a2 a3 a4 a5 a6 : z_V} {x y : Int} {st : List z_V} {I : z_M} (hr : inI (x + y) := by omega) (k : JX11_layPlace Q 21 [a0, a1, a2, a3, a4, a5, a6] (aI (x + y) :: st) I) : JX11_layPlace Q 20 [a0, a1, a2, a3, a4, a5, a6] (aI y :: aI x :: st) I := g_iadd dX11_layPlace_20 hr k
theorem X11_layPlace_20w {Q : z_M → Prop} {a0 a1 a2 a3 a4 a5 a6 : z_V} {x y : Int} {st : List z_V} {I : z_M} (k : JX11_layPlace Q 21 [a0, a1, a2, a3, a4, a5, a6] (aI (i32 (x + y)) :: st) I) : JX11_layPlace Q 20 [a0, a1, a2, a3, a4, a5, a6] (aI y :: aI x :: st) I := g_iaddw dX11_layPlace_20 k
theorem dX11_layPlace_21 : decode cX11_layPlace 21 = .ok (.iload_n 2, 1) := by decide +kernel
theorem X11_layPlace_21 {Q : z_M → Prop} {a0 a1 a3 a4 a5 a6 : z_V} {x : Int} {st : List z_V} {I : z_M} (k : JX11_layPlace Q 22 [a0, a1, aI x, a3, a4, a5, a6] (aI x :: st) I) : JX11_layPlace Q 21 [a0, a1, aI x, a3, a4, a5, a6] st I := g_iload_n (i := 2) (x := x) dX11_layPlace_21 rfl rfl k
theorem dX11_layPlace_22 : decode cX11_layPlace 22 = .ok (.iastore, 1) := by decide +kernel
theorem X11_layPlace_22 {Q : z_M → Prop} {a0 a1 a2 a3 a4 a5 a6 : z_V} {q : Nat} {i x : Int} {st : List z_V} {I : z_M} (hk : z_cl q = 20 := by first | assumption | rfl) (h0 : 0 ≤ i := by omega) (h1 : i < z_n q := by first | omega | (simp only [zn_1, zn_9, zn_10, zn_11, zn_12, zn_13, zn_14, zn_15, zn_16, zn_18, zn_20, zn_21, zn_22, zn_23, zn_24, zn_25, zn_26, zn_27, zn_29, zn_30, zn_53, zn_55, zn_56, zn_58, zn_59, zn_61, zn_62, zn_63, zn_64, zn_65, zn_66, zn_67, zn_68, zn_69, zn_70, zn_71, zn_72, zn_73]; omega))  (k : JX11_layPlace Q 23 [a0, a1, a2, a3, a4, a5, a6] st (z_up I q i.toNat x)) : JX11_layPlace Q 22 [a0, a1, a2, a3, a4, a5, a6] (aI x :: aI i :: aR q :: st) I := g_iast dX11_layPlace_22 hk h0 h1 k
theorem dX11_layPlace_23 : decode cX11_layPlace 23 = .ok (.aload_n 0, 1) := by decide +kernel
theorem X11_layPlace_23 {Q : z_M → Prop} {a1 a2 a3 a4 a5 a6 : z_V} {x : Nat} {st : List z_V} {I : z_M} (k : JX11_layPlace Q 24 [aR x, a1, a2, a3, a4, a5, a6] (aR x :: st) I) : JX11_layPlace Q 23 [aR x, a1, a2, a3, a4, a5, a6] st I := g_aload_n (i := 0) (x := x) dX11_layPlace_23 rfl rfl k
theorem dX11_layPlace_24 : decode cX11_layPlace 24 = .ok (.iload 6, 2) := by decide +kernel
theorem X11_layPlace_24 {Q : z_M → Prop} {a0 a1 a2 a3 a4 a5 : z_V} {x : Int} {st : List z_V} {I : z_M} (k : JX11_layPlace Q 26 [a0, a1, a2, a3, a4, a5, aI x] (aI x :: st) I) : JX11_layPlace Q 24 [a0, a1, a2, a3, a4, a5, aI x] st I := g_iload (i := 6) (x := x) dX11_layPlace_24 rfl k
theorem dX11_layPlace_26 : decode cX11_layPlace 26 = .ok (.iconst 2, 1) := by decide +kernel
theorem X11_layPlace_26 {Q : z_M → Prop} {a0 a1 a2 a3 a4 a5 a6 : z_V} {st : List z_V} {I : z_M} (k : JX11_layPlace Q 27 [a0, a1, a2, a3, a4, a5, a6] (aI 2 :: st) I) : JX11_layPlace Q 26 [a0, a1, a2, a3, a4, a5, a6] st I := g_iconst (n := 2) dX11_layPlace_26 (by decide) k
theorem dX11_layPlace_27 : decode cX11_layPlace 27 = .ok (.iadd, 1) := by decide +kernel
theorem X11_layPlace_27 {Q : z_M → Prop} {a0 a1 a2 a3 a4 a5 a6 : z_V} {x y : Int} {st : List z_V} {I : z_M} (hr : inI (x + y) := by omega) (k : JX11_layPlace Q 28 [a0, a1, a2, a3, a4, a5, a6] (aI (x + y) :: st) I) : JX11_layPlace Q 27 [a0, a1, a2, a3, a4, a5, a6] (aI y :: aI x :: st) I := g_iadd dX11_layPlace_27 hr k
theorem X11_layPlace_27w {Q : z_M → Prop} {a0 a1 a2 a3 a4 a5 a6 : z_V} {x y : Int} {st : List z_V} {I : z_M} (k : JX11_layPlace Q 28 [a0, a1, a2, a3, a4, a5, a6] (aI (i32 (x + y)) :: st) I) : JX11_layPlace Q 27 [a0, a1, a2, a3, a4, a5, a6] (aI y :: aI x :: st) I := g_iaddw dX11_layPlace_27 k
theorem dX11_layPlace_28 : decode cX11_layPlace 28 = .ok (.iload_n 3, 1) := by decide +kernel
theorem X11_layPlace_28 {Q : z_M → Prop} {a0 a1 a2 a4 a5 a6 : z_V} {x : Int} {st : List z_V} {I : z_M} (k : JX11_layPlace Q 29 [a0, a1, a2, aI x, a4, a5, a6] (aI x :: st) I) : JX11_layPlace Q 28 [a0, a1, a2, aI x, a4, a5, a6] st I := g_iload_n (i := 3) (x := x) dX11_layPlace_28 rfl rfl k
theorem dX11_layPlace_29 : decode cX11_layPlace 29 = .ok (.iastore, 1) := by decide +kernel
theorem X11_layPlace_29 {Q : z_M → Prop} {a0 a1 a2 a3 a4 a5 a6 : z_V} {q : Nat} {i x : Int} {st : List z_V} {I : z_M} (hk : z_cl q = 20 := by first | assumption | rfl) (h0 : 0 ≤ i := by omega) (h1 : i < z_n q := by first | omega | (simp only [zn_1, zn_9, zn_10, zn_11, zn_12, zn_13, zn_14, zn_15, zn_16, zn_18, zn_20, zn_21, zn_22, zn_23, zn_24, zn_25, zn_26, zn_27, zn_29, zn_30, zn_53, zn_55, zn_56, zn_58, zn_59, zn_61, zn_62, zn_63, zn_64, zn_65, zn_66, zn_67, zn_68, zn_69, zn_70, zn_71, zn_72, zn_73]; omega))  (k : JX11_layPlace Q 30 [a0, a1, a2, a3, a4, a5, a6] st (z_up I q i.toNat x)) : JX11_layPlace Q 29 [a0, a1, a2, a3, a4, a5, a6] (aI x :: aI i :: aR q :: st) I := g_iast dX11_layPlace_29 hk h0 h1 k
theorem dX11_layPlace_30 : decode cX11_layPlace 30 = .ok (.aload_n 0, 1) := by decide +kernel
theorem X11_layPlace_30 {Q : z_M → Prop} {a1 a2 a3 a4 a5 a6 : z_V} {x : Nat} {st : List z_V} {I : z_M} (k : JX11_layPlace Q 31 [aR x, a1, a2, a3, a4, a5, a6] (aR x :: st) I) : JX11_layPlace Q 30 [aR x, a1, a2, a3, a4, a5, a6] st I := g_aload_n (i := 0) (x := x) dX11_layPlace_30 rfl rfl k
theorem dX11_layPlace_31 : decode cX11_layPlace 31 = .ok (.iload 6, 2) := by decide +kernel
theorem X11_layPlace_31 {Q : z_M → Prop} {a0 a1 a2 a3 a4 a5 : z_V} {x : Int} {st : List z_V} {I : z_M} (k : JX11_layPlace Q 33 [a0, a1, a2, a3, a4, a5, aI x] (aI x :: st) I) : JX11_layPlace Q 31 [a0, a1, a2, a3, a4, a5, aI x] st I := g_iload (i := 6) (x := x) dX11_layPlace_31 rfl k
theorem dX11_layPlace_33 : decode cX11_layPlace 33 = .ok (.iconst 3, 1) := by decide +kernel
theorem X11_layPlace_33 {Q : z_M → Prop} {a0 a1 a2 a3 a4 a5 a6 : z_V} {st : List z_V} {I : z_M} (k : JX11_layPlace Q 34 [a0, a1, a2, a3, a4, a5, a6] (aI 3 :: st) I) : JX11_layPlace Q 33 [a0, a1, a2, a3, a4, a5, a6] st I := g_iconst (n := 3) dX11_layPlace_33 (by decide) k
theorem dX11_layPlace_34 : decode cX11_layPlace 34 = .ok (.iadd, 1) := by decide +kernel
theorem X11_layPlace_34 {Q : z_M → Prop} {a0 a1 a2 a3 a4 a5 a6 : z_V} {x y : Int} {st : List z_V} {I : z_M} (hr : inI (x + y) := by omega) (k : JX11_layPlace Q 35 [a0, a1, a2, a3, a4, a5, a6] (aI (x + y) :: st) I) : JX11_layPlace Q 34 [a0, a1, a2, a3, a4, a5, a6] (aI y :: aI x :: st) I := g_iadd dX11_layPlace_34 hr k
theorem X11_layPlace_34w {Q : z_M → Prop} {a0 a1 a2 a3 a4 a5 a6 : z_V} {x y : Int} {st : List z_V} {I : z_M} (k : JX11_layPlace Q 35 [a0, a1, a2, a3, a4, a5, a6] (aI (i32 (x + y)) :: st) I) : JX11_layPlace Q 34 [a0, a1, a2, a3, a4, a5, a6] (aI y :: aI x :: st) I := g_iaddw dX11_layPlace_34 k
theorem dX11_layPlace_35 : decode cX11_layPlace 35 = .ok (.iload 4, 2) := by decide +kernel
theorem X11_layPlace_35 {Q : z_M → Prop} {a0 a1 a2 a3 a5 a6 : z_V} {x : Int} {st : List z_V} {I : z_M} (k : JX11_layPlace Q 37 [a0, a1, a2, a3, aI x, a5, a6] (aI x :: st) I) : JX11_layPlace Q 35 [a0, a1, a2, a3, aI x, a5, a6] st I := g_iload (i := 4) (x := x) dX11_layPlace_35 rfl k
theorem dX11_layPlace_37 : decode cX11_layPlace 37 = .ok (.iastore, 1) := by decide +kernel
theorem X11_layPlace_37 {Q : z_M → Prop} {a0 a1 a2 a3 a4 a5 a6 : z_V} {q : Nat} {i x : Int} {st : List z_V} {I : z_M} (hk : z_cl q = 20 := by first | assumption | rfl) (h0 : 0 ≤ i := by omega) (h1 : i < z_n q := by first | omega | (simp only [zn_1, zn_9, zn_10, zn_11, zn_12, zn_13, zn_14, zn_15, zn_16, zn_18, zn_20, zn_21, zn_22, zn_23, zn_24, zn_25, zn_26, zn_27, zn_29, zn_30, zn_53, zn_55, zn_56, zn_58, zn_59, zn_61, zn_62, zn_63, zn_64, zn_65, zn_66, zn_67, zn_68, zn_69, zn_70, zn_71, zn_72, zn_73]; omega))  (k : JX11_layPlace Q 38 [a0, a1, a2, a3, a4, a5, a6] st (z_up I q i.toNat x)) : JX11_layPlace Q 37 [a0, a1, a2, a3, a4, a5, a6] (aI x :: aI i :: aR q :: st) I := g_iast dX11_layPlace_37 hk h0 h1 k
theorem dX11_layPlace_38 : decode cX11_layPlace 38 = .ok (.aload_n 0, 1) := by decide +kernel
theorem X11_layPlace_38 {Q : z_M → Prop} {a1 a2 a3 a4 a5 a6 : z_V} {x : Nat} {st : List z_V} {I : z_M} (k : JX11_layPlace Q 39 [aR x, a1, a2, a3, a4, a5, a6] (aR x :: st) I) : JX11_layPlace Q 38 [aR x, a1, a2, a3, a4, a5, a6] st I := g_aload_n (i := 0) (x := x) dX11_layPlace_38 rfl rfl k
theorem dX11_layPlace_39 : decode cX11_layPlace 39 = .ok (.iload 6, 2) := by decide +kernel
theorem X11_layPlace_39 {Q : z_M → Prop} {a0 a1 a2 a3 a4 a5 : z_V} {x : Int} {st : List z_V} {I : z_M} (k : JX11_layPlace Q 41 [a0, a1, a2, a3, a4, a5, aI x] (aI x :: st) I) : JX11_layPlace Q 39 [a0, a1, a2, a3, a4, a5, aI x] st I := g_iload (i := 6) (x := x) dX11_layPlace_39 rfl k
theorem dX11_layPlace_41 : decode cX11_layPlace 41 = .ok (.iconst 4, 1) := by decide +kernel
theorem X11_layPlace_41 {Q : z_M → Prop} {a0 a1 a2 a3 a4 a5 a6 : z_V} {st : List z_V} {I : z_M} (k : JX11_layPlace Q 42 [a0, a1, a2, a3, a4, a5, a6] (aI 4 :: st) I) : JX11_layPlace Q 41 [a0, a1, a2, a3, a4, a5, a6] st I := g_iconst (n := 4) dX11_layPlace_41 (by decide) k
theorem dX11_layPlace_42 : decode cX11_layPlace 42 = .ok (.iadd, 1) := by decide +kernel
theorem X11_layPlace_42 {Q : z_M → Prop} {a0 a1 a2 a3 a4 a5 a6 : z_V} {x y : Int} {st : List z_V} {I : z_M} (hr : inI (x + y) := by omega) (k : JX11_layPlace Q 43 [a0, a1, a2, a3, a4, a5, a6] (aI (x + y) :: st) I) : JX11_layPlace Q 42 [a0, a1, a2, a3, a4, a5, a6] (aI y :: aI x :: st) I := g_iadd dX11_layPlace_42 hr k
theorem X11_layPlace_42w {Q : z_M → Prop} {a0 a1 a2 a3 a4 a5 a6 : z_V} {x y : Int} {st : List z_V} {I : z_M} (k : JX11_layPlace Q 43 [a0, a1, a2, a3, a4, a5, a6] (aI (i32 (x + y)) :: st) I) : JX11_layPlace Q 42 [a0, a1, a2, a3, a4, a5, a6] (aI y :: aI x :: st) I := g_iaddw dX11_layPlace_42 k
theorem dX11_layPlace_43 : decode cX11_layPlace 43 = .ok (.iload 5, 2) := by decide +kernel
theorem X11_layPlace_43 {Q : z_M → Prop} {a0 a1 a2 a3 a4 a6 : z_V} {x : Int} {st : List z_V} {I : z_M} (k : JX11_layPlace Q 45 [a0, a1, a2, a3, a4, aI x, a6] (aI x :: st) I) : JX11_layPlace Q 43 [a0, a1, a2, a3, a4, aI x, a6] st I := g_iload (i := 5) (x := x) dX11_layPlace_43 rfl k
theorem dX11_layPlace_45 : decode cX11_layPlace 45 = .ok (.iastore, 1) := by decide +kernel
theorem X11_layPlace_45 {Q : z_M → Prop} {a0 a1 a2 a3 a4 a5 a6 : z_V} {q : Nat} {i x : Int} {st : List z_V} {I : z_M} (hk : z_cl q = 20 := by first | assumption | rfl) (h0 : 0 ≤ i := by omega) (h1 : i < z_n q := by first | omega | (simp only [zn_1, zn_9, zn_10, zn_11, zn_12, zn_13, zn_14, zn_15, zn_16, zn_18, zn_20, zn_21, zn_22, zn_23, zn_24, zn_25, zn_26, zn_27, zn_29, zn_30, zn_53, zn_55, zn_56, zn_58, zn_59, zn_61, zn_62, zn_63, zn_64, zn_65, zn_66, zn_67, zn_68, zn_69, zn_70, zn_71, zn_72, zn_73]; omega))  (k : JX11_layPlace Q 46 [a0, a1, a2, a3, a4, a5, a6] st (z_up I q i.toNat x)) : JX11_layPlace Q 45 [a0, a1, a2, a3, a4, a5, a6] (aI x :: aI i :: aR q :: st) I := g_iast dX11_layPlace_45 hk h0 h1 k
theorem dX11_layPlace_46 : decode cX11_layPlace 46 = .ok (.aload_n 0, 1) := by decide +kernel
theorem X11_layPlace_46 {Q : z_M → Prop} {a1 a2 a3 a4 a5 a6 : z_V} {x : Nat} {st : List z_V} {I : z_M} (k : JX11_layPlace Q 47 [aR x, a1, a2, a3, a4, a5, a6] (aR x :: st) I) : JX11_layPlace Q 46 [aR x, a1, a2, a3, a4, a5, a6] st I := g_aload_n (i := 0) (x := x) dX11_layPlace_46 rfl rfl k
theorem dX11_layPlace_47 : decode cX11_layPlace 47 = .ok (.iconst 1, 1) := by decide +kernel
theorem X11_layPlace_47 {Q : z_M → Prop} {a0 a1 a2 a3 a4 a5 a6 : z_V} {st : List z_V} {I : z_M} (k : JX11_layPlace Q 48 [a0, a1, a2, a3, a4, a5, a6] (aI 1 :: st) I) : JX11_layPlace Q 47 [a0, a1, a2, a3, a4, a5, a6] st I := g_iconst (n := 1) dX11_layPlace_47 (by decide) k
theorem dX11_layPlace_48 : decode cX11_layPlace 48 = .ok (.dup2, 1) := by decide +kernel
theorem X11_layPlace_48 {Q : z_M → Prop} {a0 a1 a2 a3 a4 a5 a6 : z_V} {x y : z_V} {st : List z_V} {I : z_M} (hx : ∀ z, x ≠ aL z := by intro z q; cases q) (hy : ∀ z, y ≠ aL z := by intro z q; cases q) (k : JX11_layPlace Q 49 [a0, a1, a2, a3, a4, a5, a6] (x :: y :: x :: y :: st) I) : JX11_layPlace Q 48 [a0, a1, a2, a3, a4, a5, a6] (x :: y :: st) I := g_dup2 dX11_layPlace_48 hx hy k
theorem dX11_layPlace_49 : decode cX11_layPlace 49 = .ok (.iaload, 1) := by decide +kernel
theorem X11_layPlace_49 {Q : z_M → Prop} {a0 a1 a2 a3 a4 a5 a6 : z_V} {q : Nat} {i : Int} {st : List z_V} {I : z_M} (hk : z_cl q = 20 := by first | assumption | rfl) (h0 : 0 ≤ i := by omega) (h1 : i < z_n q := by first | omega | (simp only [zn_1, zn_9, zn_10, zn_11, zn_12, zn_13, zn_14, zn_15, zn_16, zn_18, zn_20, zn_21, zn_22, zn_23, zn_24, zn_25, zn_26, zn_27, zn_29, zn_30, zn_53, zn_55, zn_56, zn_58, zn_59, zn_61, zn_62, zn_63, zn_64, zn_65, zn_66, zn_67, zn_68, zn_69, zn_70, zn_71, zn_72, zn_73]; omega)) (k : JX11_layPlace Q 50 [a0, a1, a2, a3, a4, a5, a6] (aI (I q i.toNat) :: st) I) : JX11_layPlace Q 49 [a0, a1, a2, a3, a4, a5, a6] (aI i :: aR q :: st) I := g_iald dX11_layPlace_49 hk h0 h1 k
theorem dX11_layPlace_50 : decode cX11_layPlace 50 = .ok (.iconst 1, 1) := by decide +kernel
theorem X11_layPlace_50 {Q : z_M → Prop} {a0 a1 a2 a3 a4 a5 a6 : z_V} {st : List z_V} {I : z_M} (k : JX11_layPlace Q 51 [a0, a1, a2, a3, a4, a5, a6] (aI 1 :: st) I) : JX11_layPlace Q 50 [a0, a1, a2, a3, a4, a5, a6] st I := g_iconst (n := 1) dX11_layPlace_50 (by decide) k
theorem dX11_layPlace_51 : decode cX11_layPlace 51 = .ok (.iadd, 1) := by decide +kernel
theorem X11_layPlace_51 {Q : z_M → Prop} {a0 a1 a2 a3 a4 a5 a6 : z_V} {x y : Int} {st : List z_V} {I : z_M} (hr : inI (x + y) := by omega) (k : JX11_layPlace Q 52 [a0, a1, a2, a3, a4, a5, a6] (aI (x + y) :: st) I) : JX11_layPlace Q 51 [a0, a1, a2, a3, a4, a5, a6] (aI y :: aI x :: st) I := g_iadd dX11_layPlace_51 hr k
theorem X11_layPlace_51w {Q : z_M → Prop} {a0 a1 a2 a3 a4 a5 a6 : z_V} {x y : Int} {st : List z_V} {I : z_M} (k : JX11_layPlace Q 52 [a0, a1, a2, a3, a4, a5, a6] (aI (i32 (x + y)) :: st) I) : JX11_layPlace Q 51 [a0, a1, a2, a3, a4, a5, a6] (aI y :: aI x :: st) I := g_iaddw dX11_layPlace_51 k
theorem dX11_layPlace_52 : decode cX11_layPlace 52 = .ok (.iastore, 1) := by decide +kernel
theorem X11_layPlace_52 {Q : z_M → Prop} {a0 a1 a2 a3 a4 a5 a6 : z_V} {q : Nat} {i x : Int} {st : List z_V} {I : z_M} (hk : z_cl q = 20 := by first | assumption | rfl) (h0 : 0 ≤ i := by omega) (h1 : i < z_n q := by first | omega | (simp only [zn_1, zn_9, zn_10, zn_11, zn_12, zn_13, zn_14, zn_15, zn_16, zn_18, zn_20, zn_21, zn_22, zn_23, zn_24, zn_25, zn_26, zn_27, zn_29, zn_30, zn_53, zn_55, zn_56, zn_58, zn_59, zn_61, zn_62, zn_63, zn_64, zn_65, zn_66, zn_67, zn_68, zn_69, zn_70, zn_71, zn_72, zn_73]; omega))  (k : JX11_layPlace Q 53 [a0, a1, a2, a3, a4, a5, a6] st (z_up I q i.toNat x)) : JX11_layPlace Q 52 [a0, a1, a2, a3, a4, a5, a6] (aI x :: aI i :: aR q :: st) I := g_iast dX11_layPlace_52 hk h0 h1 k
theorem dX11_layPlace_53 : decode cX11_layPlace 53 = .ok (.return_, 1) := by decide +kernel
theorem X11_layPlace_53 {Q : z_M → Prop} {a0 a1 a2 a3 a4 a5 a6 : z_V} {I : z_M} (hq : Q I) : JX11_layPlace Q 53 [a0, a1, a2, a3, a4, a5, a6] [] I := g_return dX11_layPlace_53 ⟨rfl, hq⟩
theorem dX11_place_0 : decode cX11_place 0 = .ok (.iload_n 1, 1) := by decide +kernel
theorem X11_place_0 {Q : Int → z_M → Prop} {a0 a2 a3 a4 a5 : z_V} {x : Int} {st : List z_V} {I : z_M} (k : JX11_place Q 1 [a0, aI x, a2, a3, a4, a5] (aI x :: st) I) : JX11_place Q 0 [a0, aI x, a2, a3, a4, a5] st I := g_iload_n (i := 1) (x := x) dX11_place_0 rfl rfl k
theorem dX11_place_1 : decode cX11_place 1 = .ok (.i2l, 1) := by decide +kernel
theorem X11_place_1 {Q : Int → z_M → Prop} {a0 a1 a2 a3 a4 a5 : z_V} {x : Int} {st : List z_V} {I : z_M} (k : JX11_place Q 2 [a0, a1, a2, a3, a4, a5] (aL x :: st) I) : JX11_place Q 1 [a0, a1, a2, a3, a4, a5] (aI x :: st) I := g_i2l dX11_place_1 k
theorem dX11_place_2 : decode cX11_place 2 = .ok (.lconst 0, 1) := by decide +kernel
theorem X11_place_2 {Q : Int → z_M → Prop} {a0 a1 a2 a3 a4 a5 : z_V} {st : List z_V} {I : z_M} (k : JX11_place Q 3 [a0, a1, a2, a3, a4, a5] (aL 0 :: st) I) : JX11_place Q 2 [a0, a1, a2, a3, a4, a5] st I := g_lconst (v := 0) dX11_place_2 (by decide +kernel) (by decide) k
theorem dX11_place_3 : decode cX11_place 3 = .ok (.ldc2_w 77, 3) := by decide +kernel
theorem X11_place_3 {Q : Int → z_M → Prop} {a0 a1 a2 a3 a4 a5 : z_V} {st : List z_V} {I : z_M} (k : JX11_place Q 6 [a0, a1, a2, a3, a4, a5] (aL (11) :: st) I) : JX11_place Q 3 [a0, a1, a2, a3, a4, a5] st I := g_ldc2 (n := 11) dX11_place_3 m_8_5 (by decide +kernel) (by decide) k
theorem dX11_place_6 : decode cX11_place 6 = .ok (.invokestatic 58, 3) := by decide +kernel
theorem X11_place_6 {Q : Int → z_M → Prop} {a0 a1 a2 a3 a4 a5 : z_V} {x0 : Int} {x1 : Int} {x2 : Int} {st : List z_V} {I : z_M} (hst : z_sw st ≤ 8 := by exact Nat.le_of_ble_eq_true rfl) (k : CX11_in [aL x0, aL x1, aL x2] I (fun x9 I9 => JX11_place Q 9 [a0, a1, a2, a3, a4, a5] (aI x9 :: st) I9)) : JX11_place Q 6 [a0, a1, a2, a3, a4, a5] (aL x2 :: aL x1 :: aL x0 :: st) I := g_callS (As := [aL x0, aL x1, aL x2]) (n := 3) dX11_place_6 ⟨m_8_11, pdX11_in, ⟨by decide, by decide⟩, rfl, rfl, by decide, by decide⟩ m_8_9 m_8_10 m_1_5 rfl hst k (fun r I9 h => by obtain ⟨x9, rfl, h⟩ := h; exact h)
theorem dX11_place_9 : decode cX11_place 9 = .ok (.ifCond .eq 53, 3) := by decide +kernel
theorem X11_place_9 {Q : Int → z_M → Prop} {a0 a1 a2 a3 a4 a5 : z_V} {x : Int} {st : List z_V} {I : z_M} (kt : x = 0 → JX11_place Q 62 [a0, a1, a2, a3, a4, a5] st I) (kf : x ≠ 0 → JX11_place Q 12 [a0, a1, a2, a3, a4, a5] st I) : JX11_place Q 9 [a0, a1, a2, a3, a4, a5] (aI x :: st) I := g_if_eq dX11_place_9 (by decide) kt kf
theorem dX11_place_12 : decode cX11_place 12 = .ok (.iload_n 2, 1) := by decide +kernel
theorem X11_place_12 {Q : Int → z_M → Prop} {a0 a1 a3 a4 a5 : z_V} {x : Int} {st : List z_V} {I : z_M} (k : JX11_place Q 13 [a0, a1, aI x, a3, a4, a5] (aI x :: st) I) : JX11_place Q 12 [a0, a1, aI x, a3, a4, a5] st I := g_iload_n (i := 2) (x := x) dX11_place_12 rfl rfl k
theorem dX11_place_13 : decode cX11_place 13 = .ok (.i2l, 1) := by decide +kernel
theorem X11_place_13 {Q : Int → z_M → Prop} {a0 a1 a2 a3 a4 a5 : z_V} {x : Int} {st : List z_V} {I : z_M} (k : JX11_place Q 14 [a0, a1, a2, a3, a4, a5] (aL x :: st) I) : JX11_place Q 13 [a0, a1, a2, a3, a4, a5] (aI x :: st) I := g_i2l dX11_place_13 k
theorem dX11_place_14 : decode cX11_place 14 = .ok (.lconst 0, 1) := by decide +kernel
theorem X11_place_14 {Q : Int → z_M → Prop} {a0 a1 a2 a3 a4 a5 : z_V} {st : List z_V} {I : z_M} (k : JX11_place Q 15 [a0, a1, a2, a3, a4, a5] (aL 0 :: st) I) : JX11_place Q 14 [a0, a1, a2, a3, a4, a5] st I := g_lconst (v := 0) dX11_place_14 (by decide +kernel) (by decide) k
theorem dX11_place_15 : decode cX11_place 15 = .ok (.ldc2_w 79, 3) := by decide +kernel
theorem X11_place_15 {Q : Int → z_M → Prop} {a0 a1 a2 a3 a4 a5 : z_V} {st : List z_V} {I : z_M} (k : JX11_place Q 18 [a0, a1, a2, a3, a4, a5] (aL (23) :: st) I) : JX11_place Q 15 [a0, a1, a2, a3, a4, a5] st I := g_ldc2 (n := 23) dX11_place_15 m_8_6 (by decide +kernel) (by decide) k
theorem dX11_place_18 : decode cX11_place 18 = .ok (.invokestatic 58, 3) := by decide +kernel
theorem X11_place_18 {Q : Int → z_M → Prop} {a0 a1 a2 a3 a4 a5 : z_V} {x0 : Int} {x1 : Int} {x2 : Int} {st : List z_V} {I : z_M} (hst : z_sw st ≤ 8 := by exact Nat.le_of_ble_eq_true rfl) (k : CX11_in [aL x0, aL x1, aL x2] I (fun x9 I9 => JX11_place Q 21 [a0, a1, a2, a3, a4, a5] (aI x9 :: st) I9)) : JX11_place Q 18 [a0, a1, a2, a3, a4, a5] (aL x2 :: aL x1 :: aL x0 :: st) I := g_callS (As := [aL x0, aL x1, aL x2]) (n := 3) dX11_place_18 ⟨m_8_11, pdX11_in, ⟨by decide, by decide⟩, rfl, rfl, by decide, by decide⟩ m_8_9 m_8_10 m_1_5 rfl hst k (fun r I9 h => by obtain ⟨x9, rfl, h⟩ := h; exact h)
theorem dX11_place_21 : decode cX11_place 21 = .ok (.ifCond .eq 41, 3) := by decide +kernel
theorem X11_place_21 {Q : Int → z_M → Prop} {a0 a1 a2 a3 a4 a5 : z_V} {x : Int} {st : List z_V} {I : z_M} (kt : x = 0 → JX11_place Q 62 [a0, a1, a2, a3, a4, a5] st I) (kf : x ≠ 0 → JX11_place Q 24 [a0, a1, a2, a3, a4, a5] st I) : JX11_place Q 21 [a0, a1, a2, a3, a4, a5] (aI x :: st) I := g_if_eq dX11_place_21 (by decide) kt kf
theorem dX11_place_24 : decode cX11_place 24 = .ok (.iload_n 3, 1) := by decide +kernel
theorem X11_place_24 {Q : Int → z_M → Prop} {a0 a1 a2 a4 a5 : z_V} {x : Int} {st : List z_V} {I : z_M} (k : JX11_place Q 25 [a0, a1, a2, aI x, a4, a5] (aI x :: st) I) : JX11_place Q 24 [a0, a1, a2, aI x, a4, a5] st I := g_iload_n (i := 3) (x := x) dX11_place_24 rfl rfl k
theorem dX11_place_25 : decode cX11_place 25 = .ok (.i2l, 1) := by decide +kernel
theorem X11_place_25 {Q : Int → z_M → Prop} {a0 a1 a2 a3 a4 a5 : z_V} {x : Int} {st : List z_V} {I : z_M} (k : JX11_place Q 26 [a0, a1, a2, a3, a4, a5] (aL x :: st) I) : JX11_place Q 25 [a0, a1, a2, a3, a4, a5] (aI x :: st) I := g_i2l dX11_place_25 k
theorem dX11_place_26 : decode cX11_place 26 = .ok (.lconst 0, 1) := by decide +kernel
theorem X11_place_26 {Q : Int → z_M → Prop} {a0 a1 a2 a3 a4 a5 : z_V} {st : List z_V} {I : z_M} (k : JX11_place Q 27 [a0, a1, a2, a3, a4, a5] (aL 0 :: st) I) : JX11_place Q 26 [a0, a1, a2, a3, a4, a5] st I := g_lconst (v := 0) dX11_place_26 (by decide +kernel) (by decide) k
theorem dX11_place_27 : decode cX11_place 27 = .ok (.ldc2_w 81, 3) := by decide +kernel
theorem X11_place_27 {Q : Int → z_M → Prop} {a0 a1 a2 a3 a4 a5 : z_V} {st : List z_V} {I : z_M} (k : JX11_place Q 30 [a0, a1, a2, a3, a4, a5] (aL (24) :: st) I) : JX11_place Q 27 [a0, a1, a2, a3, a4, a5] st I := g_ldc2 (n := 24) dX11_place_27 m_8_7 (by decide +kernel) (by decide) k
theorem dX11_place_30 : decode cX11_place 30 = .ok (.invokestatic 58, 3) := by decide +kernel
theorem X11_place_30 {Q : Int → z_M → Prop} {a0 a1 a2 a3 a4 a5 : z_V} {x0 : Int} {x1 : Int} {x2 : Int} {st : List z_V} {I : z_M} (hst : z_sw st ≤ 8 := by exact Nat.le_of_ble_eq_true rfl) (k : CX11_in [aL x0, aL x1, aL x2] I (fun x9 I9 => JX11_place Q 33 [a0, a1, a2, a3, a4, a5] (aI x9 :: st) I9)) : JX11_place Q 30 [a0, a1, a2, a3, a4, a5] (aL x2 :: aL x1 :: aL x0 :: st) I := g_callS (As := [aL x0, aL x1, aL x2]) (n := 3) dX11_place_30 ⟨m_8_11, pdX11_in, ⟨by decide, by decide⟩, rfl, rfl, by decide, by decide⟩ m_8_9 m_8_10 m_1_5 rfl hst k (fun r I9 h => by obtain ⟨x9, rfl, h⟩ := h; exact h)
theorem dX11_place_33 : decode cX11_place 33 = .ok (.ifCond .eq 29, 3) := by decide +kernel
theorem X11_place_33 {Q : Int → z_M → Prop} {a0 a1 a2 a3 a4 a5 : z_V} {x : Int} {st : List z_V} {I : z_M} (kt : x = 0 → JX11_place Q 62 [a0, a1, a2, a3, a4, a5] st I) (kf : x ≠ 0 → JX11_place Q 36 [a0, a1, a2, a3, a4, a5] st I) : JX11_place Q 33 [a0, a1, a2, a3, a4, a5] (aI x :: st) I := g_if_eq dX11_place_33 (by decide) kt kf
theorem dX11_place_36 : decode cX11_place 36 = .ok (.iload 4, 2) := by decide +kernel
theorem X11_place_36 {Q : Int → z_M → Prop} {a0 a1 a2 a3 a5 : z_V} {x : Int} {st : List z_V} {I : z_M} (k : JX11_place Q 38 [a0, a1, a2, a3, aI x, a5] (aI x :: st) I) : JX11_place Q 36 [a0, a1, a2, a3, aI x, a5] st I := g_iload (i := 4) (x := x) dX11_place_36 rfl k
theorem dX11_place_38 : decode cX11_place 38 = .ok (.i2l, 1) := by decide +kernel
theorem X11_place_38 {Q : Int → z_M → Prop} {a0 a1 a2 a3 a4 a5 : z_V} {x : Int} {st : List z_V} {I : z_M} (k : JX11_place Q 39 [a0, a1, a2, a3, a4, a5] (aL x :: st) I) : JX11_place Q 38 [a0, a1, a2, a3, a4, a5] (aI x :: st) I := g_i2l dX11_place_38 k
theorem dX11_place_39 : decode cX11_place 39 = .ok (.lconst 0, 1) := by decide +kernel
theorem X11_place_39 {Q : Int → z_M → Prop} {a0 a1 a2 a3 a4 a5 : z_V} {st : List z_V} {I : z_M} (k : JX11_place Q 40 [a0, a1, a2, a3, a4, a5] (aL 0 :: st) I) : JX11_place Q 39 [a0, a1, a2, a3, a4, a5] st I := g_lconst (v := 0) dX11_place_39 (by decide +kernel) (by decide) k
theorem dX11_place_40 : decode cX11_place 40 = .ok (.ldc2_w 83, 3) := by decide +kernel
theorem X11_place_40 {Q : Int → z_M → Prop} {a0 a1 a2 a3 a4 a5 : z_V} {st : List z_V} {I : z_M} (k : JX11_place Q 43 [a0, a1, a2, a3, a4, a5] (aL (30) :: st) I) : JX11_place Q 40 [a0, a1, a2, a3, a4, a5] st I := g_ldc2 (n := 30) dX11_place_40 m_8_8 (by decide +kernel) (by decide) k
theorem dX11_place_43 : decode cX11_place 43 = .ok (.invokestatic 58, 3) := by decide +kernel
theorem X11_place_43 {Q : Int → z_M → Prop} {a0 a1 a2 a3 a4 a5 : z_V} {x0 : Int} {x1 : Int} {x2 : Int} {st : List z_V} {I : z_M} (hst : z_sw st ≤ 8 := by exact Nat.le_of_ble_eq_true rfl) (k : CX11_in [aL x0, aL x1, aL x2] I (fun x9 I9 => JX11_place Q 46 [a0, a1, a2, a3, a4, a5] (aI x9 :: st) I9)) : JX11_place Q 43 [a0, a1, a2, a3, a4, a5] (aL x2 :: aL x1 :: aL x0 :: st) I := g_callS (As := [aL x0, aL x1, aL x2]) (n := 3) dX11_place_43 ⟨m_8_11, pdX11_in, ⟨by decide, by decide⟩, rfl, rfl, by decide, by decide⟩ m_8_9 m_8_10 m_1_5 rfl hst k (fun r I9 h => by obtain ⟨x9, rfl, h⟩ := h; exact h)
theorem dX11_place_46 : decode cX11_place 46 = .ok (.ifCond .eq 16, 3) := by decide +kernel
theorem X11_place_46 {Q : Int → z_M → Prop} {a0 a1 a2 a3 a4 a5 : z_V} {x : Int} {st : List z_V} {I : z_M} (kt : x = 0 → JX11_place Q 62 [a0, a1, a2, a3, a4, a5] st I) (kf : x ≠ 0 → JX11_place Q 49 [a0, a1, a2, a3, a4, a5] st I) : JX11_place Q 46 [a0, a1, a2, a3, a4, a5] (aI x :: st) I := g_if_eq dX11_place_46 (by decide) kt kf
theorem dX11_place_49 : decode cX11_place 49 = .ok (.iload 5, 2) := by decide +kernel
theorem X11_place_49 {Q : Int → z_M → Prop} {a0 a1 a2 a3 a4 : z_V} {x : Int} {st : List z_V} {I : z_M} (k : JX11_place Q 51 [a0, a1, a2, a3, a4, aI x] (aI x :: st) I) : JX11_place Q 49 [a0, a1, a2, a3, a4, aI x] st I := g_iload (i := 5) (x := x) dX11_place_49 rfl k
theorem dX11_place_51 : decode cX11_place 51 = .ok (.i2l, 1) := by decide +kernel
theorem X11_place_51 {Q : Int → z_M → Prop} {a0 a1 a2 a3 a4 a5 : z_V} {x : Int} {st : List z_V} {I : z_M} (k : JX11_place Q 52 [a0, a1, a2, a3, a4, a5] (aL x :: st) I) : JX11_place Q 51 [a0, a1, a2, a3, a4, a5] (aI x :: st) I := g_i2l dX11_place_51 k
theorem dX11_place_52 : decode cX11_place 52 = .ok (.lconst 0, 1) := by decide +kernel
theorem X11_place_52 {Q : Int → z_M → Prop} {a0 a1 a2 a3 a4 a5 : z_V} {st : List z_V} {I : z_M} (k : JX11_place Q 53 [a0, a1, a2, a3, a4, a5] (aL 0 :: st) I) : JX11_place Q 52 [a0, a1, a2, a3, a4, a5] st I := g_lconst (v := 0) dX11_place_52 (by decide +kernel) (by decide) k
theorem dX11_place_53 : decode cX11_place 53 = .ok (.ldc2_w 83, 3) := by decide +kernel
theorem X11_place_53 {Q : Int → z_M → Prop} {a0 a1 a2 a3 a4 a5 : z_V} {st : List z_V} {I : z_M} (k : JX11_place Q 56 [a0, a1, a2, a3, a4, a5] (aL (30) :: st) I) : JX11_place Q 53 [a0, a1, a2, a3, a4, a5] st I := g_ldc2 (n := 30) dX11_place_53 m_8_8 (by decide +kernel) (by decide) k
theorem dX11_place_56 : decode cX11_place 56 = .ok (.invokestatic 58, 3) := by decide +kernel
theorem X11_place_56 {Q : Int → z_M → Prop} {a0 a1 a2 a3 a4 a5 : z_V} {x0 : Int} {x1 : Int} {x2 : Int} {st : List z_V} {I : z_M} (hst : z_sw st ≤ 8 := by exact Nat.le_of_ble_eq_true rfl) (k : CX11_in [aL x0, aL x1, aL x2] I (fun x9 I9 => JX11_place Q 59 [a0, a1, a2, a3, a4, a5] (aI x9 :: st) I9)) : JX11_place Q 56 [a0, a1, a2, a3, a4, a5] (aL x2 :: aL x1 :: aL x0 :: st) I := g_callS (As := [aL x0, aL x1, aL x2]) (n := 3) dX11_place_56 ⟨m_8_11, pdX11_in, ⟨by decide, by decide⟩, rfl, rfl, by decide, by decide⟩ m_8_9 m_8_10 m_1_5 rfl hst k (fun r I9 h => by obtain ⟨x9, rfl, h⟩ := h; exact h)
theorem dX11_place_59 : decode cX11_place 59 = .ok (.ifCond .ne 10, 3) := by decide +kernel
theorem X11_place_59 {Q : Int → z_M → Prop} {a0 a1 a2 a3 a4 a5 : z_V} {x : Int} {st : List z_V} {I : z_M} (kt : x ≠ 0 → JX11_place Q 69 [a0, a1, a2, a3, a4, a5] st I) (kf : x = 0 → JX11_place Q 62 [a0, a1, a2, a3, a4, a5] st I) : JX11_place Q 59 [a0, a1, a2, a3, a4, a5] (aI x :: st) I := g_if_ne dX11_place_59 (by decide) kt kf
theorem dX11_place_62 : decode cX11_place 62 = .ok (.aload_n 0, 1) := by decide +kernel
theorem X11_place_62 {Q : Int → z_M → Prop} {a1 a2 a3 a4 a5 : z_V} {x : Nat} {st : List z_V} {I : z_M} (k : JX11_place Q 63 [aR x, a1, a2, a3, a4, a5] (aR x :: st) I) : JX11_place Q 62 [aR x, a1, a2, a3, a4, a5] st I := g_aload_n (i := 0) (x := x) dX11_place_62 rfl rfl k
theorem dX11_place_63 : decode cX11_place 63 = .ok (.bipush (-2), 2) := by decide +kernel
theorem X11_place_63 {Q : Int → z_M → Prop} {a0 a1 a2 a3 a4 a5 : z_V} {st : List z_V} {I : z_M} (k : JX11_place Q 65 [a0, a1, a2, a3, a4, a5] (aI (-2) :: st) I) : JX11_place Q 63 [a0, a1, a2, a3, a4, a5] st I := g_bipush (n := (-2)) dX11_place_63 (by decide +kernel) (by decide) k
theorem dX11_place_65 : decode cX11_place 65 = .ok (.invokevirtual 85, 3) := by decide +kernel
theorem X11_place_65 {Q : Int → z_M → Prop} {a0 a1 a2 a3 a4 a5 : z_V}  {x0 : Int} {st : List z_V} {I : z_M}  (hst : z_sw st ≤ 8 := by exact Nat.le_of_ble_eq_true rfl) (k : CX11_bad (aR 60 :: [aI x0]) I (fun x9 I9 => JX11_place Q 68 [a0, a1, a2, a3, a4, a5] (aI x9 :: st) I9)) : JX11_place Q 65 [a0, a1, a2, a3, a4, a5] (aI x0 :: aR 60 :: st) I := g_callV (C := RX11) (ci := 11) (As := [aI x0]) (n := 1) dX11_place_65 ⟨m_8_15, pdX11_bad, ⟨by decide, by decide⟩, rfl, rfl, by decide, by decide⟩ m_8_12 m_8_13 m_8_14 m_1_5 rfl rfl (by decide) rfl rfl hst k (fun r I9 h => by obtain ⟨x9, rfl, h⟩ := h; exact h)
theorem dX11_place_68 : decode cX11_place 68 = .ok (.ireturn, 1) := by decide +kernel
theorem X11_place_68 {Q : Int → z_M → Prop} {a0 a1 a2 a3 a4 a5 : z_V} {x : Int} {I : z_M} (hq : Q x I) : JX11_place Q 68 [a0, a1, a2, a3, a4, a5] [aI x] I := g_ireturn dX11_place_68 ⟨x, rfl, hq⟩
theorem dX11_place_69 : decode cX11_place 69 = .ok (.aload_n 0, 1) := by decide +kernel
theorem X11_place_69 {Q : Int → z_M → Prop} {a1 a2 a3 a4 a5 : z_V} {x : Nat} {st : List z_V} {I : z_M} (k : JX11_place Q 70 [aR x, a1, a2, a3, a4, a5] (aR x :: st) I) : JX11_place Q 69 [aR x, a1, a2, a3, a4, a5] st I := g_aload_n (i := 0) (x := x) dX11_place_69 rfl rfl k
theorem dX11_place_70 : decode cX11_place 70 = .ok (.invokevirtual 62, 3) := by decide +kernel
theorem X11_place_70 {Q : Int → z_M → Prop} {a0 a1 a2 a3 a4 a5 : z_V}   {st : List z_V} {I : z_M}  (hst : z_sw st ≤ 8 := by exact Nat.le_of_ble_eq_true rfl) (k : CX11_places (aR 60 :: []) I (fun x9 I9 => JX11_place Q 73 [a0, a1, a2, a3, a4, a5] (aI x9 :: st) I9)) : JX11_place Q 70 [a0, a1, a2, a3, a4, a5] (aR 60 :: st) I := g_callV (C := RX11) (ci := 11) (As := []) (n := 0) dX11_place_70 ⟨m_8_19, pdX11_places, ⟨by decide, by decide⟩, rfl, rfl, by decide, by decide⟩ m_8_16 m_8_17 m_8_18 m_1_5 rfl rfl (by decide) rfl rfl hst k (fun r I9 h => by obtain ⟨x9, rfl, h⟩ := h; exact h)
theorem dX11_place_73 : decode cX11_place 73 = .ok (.iconst 5, 1) := by decide +kernel
theorem X11_place_73 {Q : Int → z_M → Prop} {a0 a1 a2 a3 a4 a5 : z_V} {st : List z_V} {I : z_M} (k : JX11_place Q 74 [a0, a1, a2, a3, a4, a5] (aI 5 :: st) I) : JX11_place Q 73 [a0, a1, a2, a3, a4, a5] st I := g_iconst (n := 5) dX11_place_73 (by decide) k
theorem dX11_place_74 : decode cX11_place 74 = .ok (.if_icmp .ne 8, 3) := by decide +kernel
theorem X11_place_74 {Q : Int → z_M → Prop} {a0 a1 a2 a3 a4 a5 : z_V} {x y : Int} {st : List z_V} {I : z_M} (kt : x ≠ y → JX11_place Q 82 [a0, a1, a2, a3, a4, a5] st I) (kf : x = y → JX11_place Q 77 [a0, a1, a2, a3, a4, a5] st I) : JX11_place Q 74 [a0, a1, a2, a3, a4, a5] (aI y :: aI x :: st) I := g_icmp_ne dX11_place_74 (by decide) kt kf
theorem dX11_place_77 : decode cX11_place 77 = .ok (.aload_n 0, 1) := by decide +kernel
theorem X11_place_77 {Q : Int → z_M → Prop} {a1 a2 a3 a4 a5 : z_V} {x : Nat} {st : List z_V} {I : z_M} (k : JX11_place Q 78 [aR x, a1, a2, a3, a4, a5] (aR x :: st) I) : JX11_place Q 77 [aR x, a1, a2, a3, a4, a5] st I := g_aload_n (i := 0) (x := x) dX11_place_77 rfl rfl k
theorem dX11_place_78 : decode cX11_place 78 = .ok (.invokevirtual 89, 3) := by decide +kernel
theorem X11_place_78 {Q : Int → z_M → Prop} {a0 a1 a2 a3 a4 a5 : z_V}   {st : List z_V} {I : z_M}  (hst : z_sw st ≤ 8 := by exact Nat.le_of_ble_eq_true rfl) (k : CX11_full (aR 60 :: []) I (fun x9 I9 => JX11_place Q 81 [a0, a1, a2, a3, a4, a5] (aI x9 :: st) I9)) : JX11_place Q 78 [a0, a1, a2, a3, a4, a5] (aR 60 :: st) I := g_callV (C := RX11) (ci := 11) (As := []) (n := 0) dX11_place_78 ⟨m_8_23, pdX11_full, ⟨by decide, by decide⟩, rfl, rfl, by decide, by decide⟩ m_8_20 m_8_21 m_8_22 m_1_5 rfl rfl (by decide) rfl rfl hst k (fun r I9 h => by obtain ⟨x9, rfl, h⟩ := h; exact h)
theorem dX11_place_81 : decode cX11_place 81 = .ok (.ireturn, 1) := by decide +kernel
theorem X11_place_81 {Q : Int → z_M → Prop} {a0 a1 a2 a3 a4 a5 : z_V} {x : Int} {I : z_M} (hq : Q x I) : JX11_place Q 81 [a0, a1, a2, a3, a4, a5] [aI x] I := g_ireturn dX11_place_81 ⟨x, rfl, hq⟩
theorem dX11_place_82 : decode cX11_place 82 = .ok (.aload_n 0, 1) := by decide +kernel
theorem X11_place_82 {Q : Int → z_M → Prop} {a1 a2 a3 a4 a5 : z_V} {x : Nat} {st : List z_V} {I : z_M} (k : JX11_place Q 83 [aR x, a1, a2, a3, a4, a5] (aR x :: st) I) : JX11_place Q 82 [aR x, a1, a2, a3, a4, a5] st I := g_aload_n (i := 0) (x := x) dX11_place_82 rfl rfl k
theorem dX11_place_83 : decode cX11_place 83 = .ok (.getfield 7, 3) := by decide +kernel
theorem X11_place_83 {Q : Int → z_M → Prop} {a0 a1 a2 a3 a4 a5 : z_V}  {st : List z_V} {I : z_M}  (k : JX11_place Q 86 [a0, a1, a2, a3, a4, a5] (aR (61) :: st) I) : JX11_place Q 83 [a0, a1, a2, a3, a4, a5] (aR 60 :: st) I := g_getr (ci := 11) (j := 0) (N := 23) (T := TX11) dX11_place_83 rfl rfl (by decide) (z_nc11 rfl) inlX11 (by decide) m_5_1 rfl rfl k
theorem dX11_place_86 : decode cX11_place 86 = .ok (.iload_n 1, 1) := by decide +kernel
theorem X11_place_86 {Q : Int → z_M → Prop} {a0 a2 a3 a4 a5 : z_V} {x : Int} {st : List z_V} {I : z_M} (k : JX11_place Q 87 [a0, aI x, a2, a3, a4, a5] (aI x :: st) I) : JX11_place Q 86 [a0, aI x, a2, a3, a4, a5] st I := g_iload_n (i := 1) (x := x) dX11_place_86 rfl rfl k
theorem dX11_place_87 : decode cX11_place 87 = .ok (.iload_n 2, 1) := by decide +kernel
theorem X11_place_87 {Q : Int → z_M → Prop} {a0 a1 a3 a4 a5 : z_V} {x : Int} {st : List z_V} {I : z_M} (k : JX11_place Q 88 [a0, a1, aI x, a3, a4, a5] (aI x :: st) I) : JX11_place Q 87 [a0, a1, aI x, a3, a4, a5] st I := g_iload_n (i := 2) (x := x) dX11_place_87 rfl rfl k
theorem dX11_place_88 : decode cX11_place 88 = .ok (.iload_n 3, 1) := by decide +kernel
theorem X11_place_88 {Q : Int → z_M → Prop} {a0 a1 a2 a4 a5 : z_V} {x : Int} {st : List z_V} {I : z_M} (k : JX11_place Q 89 [a0, a1, a2, aI x, a4, a5] (aI x :: st) I) : JX11_place Q 88 [a0, a1, a2, aI x, a4, a5] st I := g_iload_n (i := 3) (x := x) dX11_place_88 rfl rfl k
theorem dX11_place_89 : decode cX11_place 89 = .ok (.iload 4, 2) := by decide +kernel
theorem X11_place_89 {Q : Int → z_M → Prop} {a0 a1 a2 a3 a5 : z_V} {x : Int} {st : List z_V} {I : z_M} (k : JX11_place Q 91 [a0, a1, a2, a3, aI x, a5] (aI x :: st) I) : JX11_place Q 89 [a0, a1, a2, a3, aI x, a5] st I := g_iload (i := 4) (x := x) dX11_place_89 rfl k
theorem dX11_place_91 : decode cX11_place 91 = .ok (.iload 5, 2) := by decide +kernel
theorem X11_place_91 {Q : Int → z_M → Prop} {a0 a1 a2 a3 a4 : z_V} {x : Int} {st : List z_V} {I : z_M} (k : JX11_place Q 93 [a0, a1, a2, a3, a4, aI x] (aI x :: st) I) : JX11_place Q 91 [a0, a1, a2, a3, a4, aI x] st I := g_iload (i := 5) (x := x) dX11_place_91 rfl k
theorem dX11_place_93 : decode cX11_place 93 = .ok (.invokestatic 92, 3) := by decide +kernel
theorem X11_place_93 {Q : Int → z_M → Prop} {a0 a1 a2 a3 a4 a5 : z_V} {x0 : Nat} {x1 : Int} {x2 : Int} {x3 : Int} {x4 : Int} {x5 : Int} {st : List z_V} {I : z_M} (hst : z_sw st ≤ 8 := by exact Nat.le_of_ble_eq_true rfl) (k : CX11_layPlace [aR x0, aI x1, aI x2, aI x3, aI x4, aI x5] I (fun I9 => JX11_place Q 96 [a0, a1, a2, a3, a4, a5] st I9)) : JX11_place Q 93 [a0, a1, a2, a3, a4, a5] (aI x5 :: aI x4 :: aI x3 :: aI x2 :: aI x1 :: aR x0 :: st) I := g_callS (As := [aR x0, aI x1, aI x2, aI x3, aI x4, aI x5]) (n := 6) dX11_place_93 ⟨m_9_2, pdX11_layPlace, ⟨by decide, by decide⟩, rfl, rfl, by decide, by decide⟩ m_9_0 m_9_1 m_1_5 rfl hst k (fun r I9 h => by obtain ⟨rfl, h⟩ := h; exact h)
theorem dX11_place_96 : decode cX11_place 96 = .ok (.aload_n 0, 1) := by decide +kernel
theorem X11_place_96 {Q : Int → z_M → Prop} {a1 a2 a3 a4 a5 : z_V} {x : Nat} {st : List z_V} {I : z_M} (k : JX11_place Q 97 [aR x, a1, a2, a3, a4, a5] (aR x :: st) I) : JX11_place Q 96 [aR x, a1, a2, a3, a4, a5] st I := g_aload_n (i := 0) (x := x) dX11_place_96 rfl rfl k
theorem dX11_place_97 : decode cX11_place 97 = .ok (.getfield 7, 3) := by decide +kernel
theorem X11_place_97 {Q : Int → z_M → Prop} {a0 a1 a2 a3 a4 a5 : z_V}  {st : List z_V} {I : z_M}  (k : JX11_place Q 100 [a0, a1, a2, a3, a4, a5] (aR (61) :: st) I) : JX11_place Q 97 [a0, a1, a2, a3, a4, a5] (aR 60 :: st) I := g_getr (ci := 11) (j := 0) (N := 23) (T := TX11) dX11_place_97 rfl rfl (by decide) (z_nc11 rfl) inlX11 (by decide) m_5_1 rfl rfl k
theorem dX11_place_100 : decode cX11_place 100 = .ok (.iconst 4, 1) := by decide +kernel
theorem X11_place_100 {Q : Int → z_M → Prop} {a0 a1 a2 a3 a4 a5 : z_V} {st : List z_V} {I : z_M} (k : JX11_place Q 101 [a0, a1, a2, a3, a4, a5] (aI 4 :: st) I) : JX11_place Q 100 [a0, a1, a2, a3, a4, a5] st I := g_iconst (n := 4) dX11_place_100 (by decide) k
theorem dX11_place_101 : decode cX11_place 101 = .ok (.iconst 0, 1) := by decide +kernel
theorem X11_place_101 {Q : Int → z_M → Prop} {a0 a1 a2 a3 a4 a5 : z_V} {st : List z_V} {I : z_M} (k : JX11_place Q 102 [a0, a1, a2, a3, a4, a5] (aI 0 :: st) I) : JX11_place Q 101 [a0, a1, a2, a3, a4, a5] st I := g_iconst (n := 0) dX11_place_101 (by decide) k
theorem dX11_place_102 : decode cX11_place 102 = .ok (.iastore, 1) := by decide +kernel
theorem X11_place_102 {Q : Int → z_M → Prop} {a0 a1 a2 a3 a4 a5 : z_V} {q : Nat} {i x : Int} {st : List z_V} {I : z_M} (hk : z_cl q = 20 := by first | assumption | rfl) (h0 : 0 ≤ i := by omega) (h1 : i < z_n q := by first | omega | (simp only [zn_1, zn_9, zn_10, zn_11, zn_12, zn_13, zn_14, zn_15, zn_16, zn_18, zn_20, zn_21, zn_22, zn_23, zn_24, zn_25, zn_26, zn_27, zn_29, zn_30, zn_53, zn_55, zn_56, zn_58, zn_59, zn_61, zn_62, zn_63, zn_64, zn_65, zn_66, zn_67, zn_68, zn_69, zn_70, zn_71, zn_72, zn_73]; omega))  (k : JX11_place Q 103 [a0, a1, a2, a3, a4, a5] st (z_up I q i.toNat x)) : JX11_place Q 102 [a0, a1, a2, a3, a4, a5] (aI x :: aI i :: aR q :: st) I := g_iast dX11_place_102 hk h0 h1 k
theorem dX11_place_103 : decode cX11_place 103 = .ok (.aload_n 0, 1) := by decide +kernel
theorem X11_place_103 {Q : Int → z_M → Prop} {a1 a2 a3 a4 a5 : z_V} {x : Nat} {st : List z_V} {I : z_M} (k : JX11_place Q 104 [aR x, a1, a2, a3, a4, a5] (aR x :: st) I) : JX11_place Q 103 [aR x, a1, a2, a3, a4, a5] st I := g_aload_n (i := 0) (x := x) dX11_place_103 rfl rfl k
theorem dX11_place_104 : decode cX11_place 104 = .ok (.invokevirtual 62, 3) := by decide +kernel
theorem X11_place_104 {Q : Int → z_M → Prop} {a0 a1 a2 a3 a4 a5 : z_V}   {st : List z_V} {I : z_M}  (hst : z_sw st ≤ 8 := by exact Nat.le_of_ble_eq_true rfl) (k : CX11_places (aR 60 :: []) I (fun x9 I9 => JX11_place Q 107 [a0, a1, a2, a3, a4, a5] (aI x9 :: st) I9)) : JX11_place Q 104 [a0, a1, a2, a3, a4, a5] (aR 60 :: st) I := g_callV (C := RX11) (ci := 11) (As := []) (n := 0) dX11_place_104 ⟨m_8_19, pdX11_places, ⟨by decide, by decide⟩, rfl, rfl, by decide, by decide⟩ m_8_16 m_8_17 m_8_18 m_1_5 rfl rfl (by decide) rfl rfl hst k (fun r I9 h => by obtain ⟨x9, rfl, h⟩ := h; exact h)
theorem dX11_place_107 : decode cX11_place 107 = .ok (.iconst 1, 1) := by decide +kernel
theorem X11_place_107 {Q : Int → z_M → Prop} {a0 a1 a2 a3 a4 a5 : z_V} {st : List z_V} {I : z_M} (k : JX11_place Q 108 [a0, a1, a2, a3, a4, a5] (aI 1 :: st) I) : JX11_place Q 107 [a0, a1, a2, a3, a4, a5] st I := g_iconst (n := 1) dX11_place_107 (by decide) k
theorem dX11_place_108 : decode cX11_place 108 = .ok (.isub, 1) := by decide +kernel
theorem X11_place_108 {Q : Int → z_M → Prop} {a0 a1 a2 a3 a4 a5 : z_V} {x y : Int} {st : List z_V} {I : z_M} (hr : inI (x - y) := by omega) (k : JX11_place Q 109 [a0, a1, a2, a3, a4, a5] (aI (x - y) :: st) I) : JX11_place Q 108 [a0, a1, a2, a3, a4, a5] (aI y :: aI x :: st) I := g_isub dX11_place_108 hr k
theorem X11_place_108w {Q : Int → z_M → Prop} {a0 a1 a2 a3 a4 a5 : z_V} {x y : Int} {st : List z_V} {I : z_M} (k : JX11_place Q 109 [a0, a1, a2, a3, a4, a5] (aI (i32 (x - y)) :: st) I) : JX11_place Q 108 [a0, a1, a2, a3, a4, a5] (aI y :: aI x :: st) I := g_isubw dX11_place_108 k
theorem dX11_place_109 : decode cX11_place 109 = .ok (.ireturn, 1) := by decide +kernel
theorem X11_place_109 {Q : Int → z_M → Prop} {a0 a1 a2 a3 a4 a5 : z_V} {x : Int} {I : z_M} (hq : Q x I) : JX11_place Q 109 [a0, a1, a2, a3, a4, a5] [aI x] I := g_ireturn dX11_place_109 ⟨x, rfl, hq⟩
theorem dX11_layPipe_0 : decode cX11_layPipe 0 = .ok (.bipush 30, 2) := by decide +kernel
theorem X11_layPipe_0 {Q : z_M → Prop} {a0 a1 a2 a3 : z_V} {st : List z_V} {I : z_M} (k : JX11_layPipe Q 2 [a0, a1, a2, a3] (aI 30 :: st) I) : JX11_layPipe Q 0 [a0, a1, a2, a3] st I := g_bipush (n := 30) dX11_layPipe_0 (by decide +kernel) (by decide) k
theorem dX11_layPipe_2 : decode cX11_layPipe 2 = .ok (.iconst 4, 1) := by decide +kernel
theorem X11_layPipe_2 {Q : z_M → Prop} {a0 a1 a2 a3 : z_V} {st : List z_V} {I : z_M} (k : JX11_layPipe Q 3 [a0, a1, a2, a3] (aI 4 :: st) I) : JX11_layPipe Q 2 [a0, a1, a2, a3] st I := g_iconst (n := 4) dX11_layPipe_2 (by decide) k
theorem dX11_layPipe_3 : decode cX11_layPipe 3 = .ok (.aload_n 0, 1) := by decide +kernel
theorem X11_layPipe_3 {Q : z_M → Prop} {a1 a2 a3 : z_V} {x : Nat} {st : List z_V} {I : z_M} (k : JX11_layPipe Q 4 [aR x, a1, a2, a3] (aR x :: st) I) : JX11_layPipe Q 3 [aR x, a1, a2, a3] st I := g_aload_n (i := 0) (x := x) dX11_layPipe_3 rfl rfl k
theorem dX11_layPipe_4 : decode cX11_layPipe 4 = .ok (.iconst 0, 1) := by decide +kernel
theorem X11_layPipe_4 {Q : z_M → Prop} {a0 a1 a2 a3 : z_V} {st : List z_V} {I : z_M} (k : JX11_layPipe Q 5 [a0, a1, a2, a3] (aI 0 :: st) I) : JX11_layPipe Q 4 [a0, a1, a2, a3] st I := g_iconst (n := 0) dX11_layPipe_4 (by decide) k
theorem dX11_layPipe_5 : decode cX11_layPipe 5 = .ok (.iaload, 1) := by decide +kernel
theorem X11_layPipe_5 {Q : z_M → Prop} {a0 a1 a2 a3 : z_V} {q : Nat} {i : Int} {st : List z_V} {I : z_M} (hk : z_cl q = 20 := by first | assumption | rfl) (h0 : 0 ≤ i := by omega) (h1 : i < z_n q := by first | omega | (simp only [zn_1, zn_9, zn_10, zn_11, zn_12, zn_13, zn_14, zn_15, zn_16, zn_18, zn_20, zn_21, zn_22, zn_23, zn_24, zn_25, zn_26, zn_27, zn_29, zn_30, zn_53, zn_55, zn_56, zn_58, zn_59, zn_61, zn_62, zn_63, zn_64, zn_65, zn_66, zn_67, zn_68, zn_69, zn_70, zn_71, zn_72, zn_73]; omega)) (k : JX11_layPipe Q 6 [a0, a1, a2, a3] (aI (I q i.toNat) :: st) I) : JX11_layPipe Q 5 [a0, a1, a2, a3] (aI i :: aR q :: st) I := g_iald dX11_layPipe_5 hk h0 h1 k
theorem dX11_layPipe_6 : decode cX11_layPipe 6 = .ok (.imul, 1) := by decide +kernel
theorem X11_layPipe_6 {Q : z_M → Prop} {a0 a1 a2 a3 : z_V} {x y : Int} {st : List z_V} {I : z_M} (hr : inI (x * y) := by omega) (k : JX11_layPipe Q 7 [a0, a1, a2, a3] (aI (x * y) :: st) I) : JX11_layPipe Q 6 [a0, a1, a2, a3] (aI y :: aI x :: st) I := g_imul dX11_layPipe_6 hr k
theorem X11_layPipe_6w {Q : z_M → Prop} {a0 a1 a2 a3 : z_V} {x y : Int} {st : List z_V} {I : z_M} (k : JX11_layPipe Q 7 [a0, a1, a2, a3] (aI (i32 (x * y)) :: st) I) : JX11_layPipe Q 6 [a0, a1, a2, a3] (aI y :: aI x :: st) I := g_imulw dX11_layPipe_6 k
theorem dX11_layPipe_7 : decode cX11_layPipe 7 = .ok (.iadd, 1) := by decide +kernel
theorem X11_layPipe_7 {Q : z_M → Prop} {a0 a1 a2 a3 : z_V} {x y : Int} {st : List z_V} {I : z_M} (hr : inI (x + y) := by omega) (k : JX11_layPipe Q 8 [a0, a1, a2, a3] (aI (x + y) :: st) I) : JX11_layPipe Q 7 [a0, a1, a2, a3] (aI y :: aI x :: st) I := g_iadd dX11_layPipe_7 hr k
theorem X11_layPipe_7w {Q : z_M → Prop} {a0 a1 a2 a3 : z_V} {x y : Int} {st : List z_V} {I : z_M} (k : JX11_layPipe Q 8 [a0, a1, a2, a3] (aI (i32 (x + y)) :: st) I) : JX11_layPipe Q 7 [a0, a1, a2, a3] (aI y :: aI x :: st) I := g_iaddw dX11_layPipe_7 k
theorem dX11_layPipe_8 : decode cX11_layPipe 8 = .ok (.istore_n 3, 1) := by decide +kernel
theorem X11_layPipe_8 {Q : z_M → Prop} {a0 a1 a2 a3 : z_V} {x : Int} {st : List z_V} {I : z_M} (hb : z_nl [a0, a1, a2, a3] 3 = true := by rfl) (k : JX11_layPipe Q 9 [a0, a1, a2, aI x] st I) : JX11_layPipe Q 8 [a0, a1, a2, a3] (aI x :: st) I := g_istore_n (i := 3) (x := x) dX11_layPipe_8 rfl (show 3 < 4 from by decide) hb k
theorem dX11_layPipe_9 : decode cX11_layPipe 9 = .ok (.aload_n 0, 1) := by decide +kernel
theorem X11_layPipe_9 {Q : z_M → Prop} {a1 a2 a3 : z_V} {x : Nat} {st : List z_V} {I : z_M} (k : JX11_layPipe Q 10 [aR x, a1, a2, a3] (aR x :: st) I) : JX11_layPipe Q 9 [aR x, a1, a2, a3] st I := g_aload_n (i := 0) (x := x) dX11_layPipe_9 rfl rfl k
theorem dX11_layPipe_10 : decode cX11_layPipe 10 = .ok (.iload_n 3, 1) := by decide +kernel
theorem X11_layPipe_10 {Q : z_M → Prop} {a0 a1 a2 : z_V} {x : Int} {st : List z_V} {I : z_M} (k : JX11_layPipe Q 11 [a0, a1, a2, aI x] (aI x :: st) I) : JX11_layPipe Q 10 [a0, a1, a2, aI x] st I := g_iload_n (i := 3) (x := x) dX11_layPipe_10 rfl rfl k
theorem dX11_layPipe_11 : decode cX11_layPipe 11 = .ok (.iconst 0, 1) := by decide +kernel
theorem X11_layPipe_11 {Q : z_M → Prop} {a0 a1 a2 a3 : z_V} {st : List z_V} {I : z_M} (k : JX11_layPipe Q 12 [a0, a1, a2, a3] (aI 0 :: st) I) : JX11_layPipe Q 11 [a0, a1, a2, a3] st I := g_iconst (n := 0) dX11_layPipe_11 (by decide) k
theorem dX11_layPipe_12 : decode cX11_layPipe 12 = .ok (.iadd, 1) := by decide +kernel
theorem X11_layPipe_12 {Q : z_M → Prop} {a0 a1 a2 a3 : z_V} {x y : Int} {st : List z_V} {I : z_M} (hr : inI (x + y) := by omega) (k : JX11_layPipe Q 13 [a0, a1, a2, a3] (aI (x + y) :: st) I) : JX11_layPipe Q 12 [a0, a1, a2, a3] (aI y :: aI x :: st) I := g_iadd dX11_layPipe_12 hr k
theorem X11_layPipe_12w {Q : z_M → Prop} {a0 a1 a2 a3 : z_V} {x y : Int} {st : List z_V} {I : z_M} (k : JX11_layPipe Q 13 [a0, a1, a2, a3] (aI (i32 (x + y)) :: st) I) : JX11_layPipe Q 12 [a0, a1, a2, a3] (aI y :: aI x :: st) I := g_iaddw dX11_layPipe_12 k
theorem dX11_layPipe_13 : decode cX11_layPipe 13 = .ok (.iload_n 1, 1) := by decide +kernel
theorem X11_layPipe_13 {Q : z_M → Prop} {a0 a2 a3 : z_V} {x : Int} {st : List z_V} {I : z_M} (k : JX11_layPipe Q 14 [a0, aI x, a2, a3] (aI x :: st) I) : JX11_layPipe Q 13 [a0, aI x, a2, a3] st I := g_iload_n (i := 1) (x := x) dX11_layPipe_13 rfl rfl k
theorem dX11_layPipe_14 : decode cX11_layPipe 14 = .ok (.iastore, 1) := by decide +kernel
theorem X11_layPipe_14 {Q : z_M → Prop} {a0 a1 a2 a3 : z_V} {q : Nat} {i x : Int} {st : List z_V} {I : z_M} (hk : z_cl q = 20 := by first | assumption | rfl) (h0 : 0 ≤ i := by omega) (h1 : i < z_n q := by first | omega | (simp only [zn_1, zn_9, zn_10, zn_11, zn_12, zn_13, zn_14, zn_15, zn_16, zn_18, zn_20, zn_21, zn_22, zn_23, zn_24, zn_25, zn_26, zn_27, zn_29, zn_30, zn_53, zn_55, zn_56, zn_58, zn_59, zn_61, zn_62, zn_63, zn_64, zn_65, zn_66, zn_67, zn_68, zn_69, zn_70, zn_71, zn_72, zn_73]; omega))  (k : JX11_layPipe Q 15 [a0, a1, a2, a3] st (z_up I q i.toNat x)) : JX11_layPipe Q 14 [a0, a1, a2, a3] (aI x :: aI i :: aR q :: st) I := g_iast dX11_layPipe_14 hk h0 h1 k
theorem dX11_layPipe_15 : decode cX11_layPipe 15 = .ok (.aload_n 0, 1) := by decide +kernel
theorem X11_layPipe_15 {Q : z_M → Prop} {a1 a2 a3 : z_V} {x : Nat} {st : List z_V} {I : z_M} (k : JX11_layPipe Q 16 [aR x, a1, a2, a3] (aR x :: st) I) : JX11_layPipe Q 15 [aR x, a1, a2, a3] st I := g_aload_n (i := 0) (x := x) dX11_layPipe_15 rfl rfl k
theorem dX11_layPipe_16 : decode cX11_layPipe 16 = .ok (.iload_n 3, 1) := by decide +kernel
theorem X11_layPipe_16 {Q : z_M → Prop} {a0 a1 a2 : z_V} {x : Int} {st : List z_V} {I : z_M} (k : JX11_layPipe Q 17 [a0, a1, a2, aI x] (aI x :: st) I) : JX11_layPipe Q 16 [a0, a1, a2, aI x] st I := g_iload_n (i := 3) (x := x) dX11_layPipe_16 rfl rfl k
theorem dX11_layPipe_17 : decode cX11_layPipe 17 = .ok (.iconst 1, 1) := by decide +kernel
theorem X11_layPipe_17 {Q : z_M → Prop} {a0 a1 a2 a3 : z_V} {st : List z_V} {I : z_M} (k : JX11_layPipe Q 18 [a0, a1, a2, a3] (aI 1 :: st) I) : JX11_layPipe Q 17 [a0, a1, a2, a3] st I := g_iconst (n := 1) dX11_layPipe_17 (by decide) k
theorem dX11_layPipe_18 : decode cX11_layPipe 18 = .ok (.iadd, 1) := by decide +kernel
theorem X11_layPipe_18 {Q : z_M → Prop} {a0 a1 a2 a3 : z_V} {x y : Int} {st : List z_V} {I : z_M} (hr : inI (x + y) := by omega) (k : JX11_layPipe Q 19 [a0, a1, a2, a3] (aI (x + y) :: st) I) : JX11_layPipe Q 18 [a0, a1, a2, a3] (aI y :: aI x :: st) I := g_iadd dX11_layPipe_18 hr k
theorem X11_layPipe_18w {Q : z_M → Prop} {a0 a1 a2 a3 : z_V} {x y : Int} {st : List z_V} {I : z_M} (k : JX11_layPipe Q 19 [a0, a1, a2, a3] (aI (i32 (x + y)) :: st) I) : JX11_layPipe Q 18 [a0, a1, a2, a3] (aI y :: aI x :: st) I := g_iaddw dX11_layPipe_18 k
theorem dX11_layPipe_19 : decode cX11_layPipe 19 = .ok (.iload_n 2, 1) := by decide +kernel
theorem X11_layPipe_19 {Q : z_M → Prop} {a0 a1 a3 : z_V} {x : Int} {st : List z_V} {I : z_M} (k : JX11_layPipe Q 20 [a0, a1, aI x, a3] (aI x :: st) I) : JX11_layPipe Q 19 [a0, a1, aI x, a3] st I := g_iload_n (i := 2) (x := x) dX11_layPipe_19 rfl rfl k
theorem dX11_layPipe_20 : decode cX11_layPipe 20 = .ok (.iastore, 1) := by decide +kernel
theorem X11_layPipe_20 {Q : z_M → Prop} {a0 a1 a2 a3 : z_V} {q : Nat} {i x : Int} {st : List z_V} {I : z_M} (hk : z_cl q = 20 := by first | assumption | rfl) (h0 : 0 ≤ i := by omega) (h1 : i < z_n q := by first | omega | (simp only [zn_1, zn_9, zn_10, zn_11, zn_12, zn_13, zn_14, zn_15, zn_16, zn_18, zn_20, zn_21, zn_22, zn_23, zn_24, zn_25, zn_26, zn_27, zn_29, zn_30, zn_53, zn_55, zn_56, zn_58, zn_59, zn_61, zn_62, zn_63, zn_64, zn_65, zn_66, zn_67, zn_68, zn_69, zn_70, zn_71, zn_72, zn_73]; omega))  (k : JX11_layPipe Q 21 [a0, a1, a2, a3] st (z_up I q i.toNat x)) : JX11_layPipe Q 20 [a0, a1, a2, a3] (aI x :: aI i :: aR q :: st) I := g_iast dX11_layPipe_20 hk h0 h1 k
theorem dX11_layPipe_21 : decode cX11_layPipe 21 = .ok (.aload_n 0, 1) := by decide +kernel
theorem X11_layPipe_21 {Q : z_M → Prop} {a1 a2 a3 : z_V} {x : Nat} {st : List z_V} {I : z_M} (k : JX11_layPipe Q 22 [aR x, a1, a2, a3] (aR x :: st) I) : JX11_layPipe Q 21 [aR x, a1, a2, a3] st I := g_aload_n (i := 0) (x := x) dX11_layPipe_21 rfl rfl k
theorem dX11_layPipe_22 : decode cX11_layPipe 22 = .ok (.iload_n 3, 1) := by decide +kernel
theorem X11_layPipe_22 {Q : z_M → Prop} {a0 a1 a2 : z_V} {x : Int} {st : List z_V} {I : z_M} (k : JX11_layPipe Q 23 [a0, a1, a2, aI x] (aI x :: st) I) : JX11_layPipe Q 22 [a0, a1, a2, aI x] st I := g_iload_n (i := 3) (x := x) dX11_layPipe_22 rfl rfl k
theorem dX11_layPipe_23 : decode cX11_layPipe 23 = .ok (.iconst 2, 1) := by decide +kernel
theorem X11_layPipe_23 {Q : z_M → Prop} {a0 a1 a2 a3 : z_V} {st : List z_V} {I : z_M} (k : JX11_layPipe Q 24 [a0, a1, a2, a3] (aI 2 :: st) I) : JX11_layPipe Q 23 [a0, a1, a2, a3] st I := g_iconst (n := 2) dX11_layPipe_23 (by decide) k
theorem dX11_layPipe_24 : decode cX11_layPipe 24 = .ok (.iadd, 1) := by decide +kernel
theorem X11_layPipe_24 {Q : z_M → Prop} {a0 a1 a2 a3 : z_V} {x y : Int} {st : List z_V} {I : z_M} (hr : inI (x + y) := by omega) (k : JX11_layPipe Q 25 [a0, a1, a2, a3] (aI (x + y) :: st) I) : JX11_layPipe Q 24 [a0, a1, a2, a3] (aI y :: aI x :: st) I := g_iadd dX11_layPipe_24 hr k
theorem X11_layPipe_24w {Q : z_M → Prop} {a0 a1 a2 a3 : z_V} {x y : Int} {st : List z_V} {I : z_M} (k : JX11_layPipe Q 25 [a0, a1, a2, a3] (aI (i32 (x + y)) :: st) I) : JX11_layPipe Q 24 [a0, a1, a2, a3] (aI y :: aI x :: st) I := g_iaddw dX11_layPipe_24 k
theorem dX11_layPipe_25 : decode cX11_layPipe 25 = .ok (.iconst (-1), 1) := by decide +kernel
theorem X11_layPipe_25 {Q : z_M → Prop} {a0 a1 a2 a3 : z_V} {st : List z_V} {I : z_M} (k : JX11_layPipe Q 26 [a0, a1, a2, a3] (aI (-1) :: st) I) : JX11_layPipe Q 25 [a0, a1, a2, a3] st I := g_iconst (n := (-1)) dX11_layPipe_25 (by decide) k
theorem dX11_layPipe_26 : decode cX11_layPipe 26 = .ok (.iastore, 1) := by decide +kernel
theorem X11_layPipe_26 {Q : z_M → Prop} {a0 a1 a2 a3 : z_V} {q : Nat} {i x : Int} {st : List z_V} {I : z_M} (hk : z_cl q = 20 := by first | assumption | rfl) (h0 : 0 ≤ i := by omega) (h1 : i < z_n q := by first | omega | (simp only [zn_1, zn_9, zn_10, zn_11, zn_12, zn_13, zn_14, zn_15, zn_16, zn_18, zn_20, zn_21, zn_22, zn_23, zn_24, zn_25, zn_26, zn_27, zn_29, zn_30, zn_53, zn_55, zn_56, zn_58, zn_59, zn_61, zn_62, zn_63, zn_64, zn_65, zn_66, zn_67, zn_68, zn_69, zn_70, zn_71, zn_72, zn_73]; omega))  (k : JX11_layPipe Q 27 [a0, a1, a2, a3] st (z_up I q i.toNat x)) : JX11_layPipe Q 26 [a0, a1, a2, a3] (aI x :: aI i :: aR q :: st) I := g_iast dX11_layPipe_26 hk h0 h1 k
theorem dX11_layPipe_27 : decode cX11_layPipe 27 = .ok (.aload_n 0, 1) := by decide +kernel
theorem X11_layPipe_27 {Q : z_M → Prop} {a1 a2 a3 : z_V} {x : Nat} {st : List z_V} {I : z_M} (k : JX11_layPipe Q 28 [aR x, a1, a2, a3] (aR x :: st) I) : JX11_layPipe Q 27 [aR x, a1, a2, a3] st I := g_aload_n (i := 0) (x := x) dX11_layPipe_27 rfl rfl k
theorem dX11_layPipe_28 : decode cX11_layPipe 28 = .ok (.iload_n 3, 1) := by decide +kernel
theorem X11_layPipe_28 {Q : z_M → Prop} {a0 a1 a2 : z_V} {x : Int} {st : List z_V} {I : z_M} (k : JX11_layPipe Q 29 [a0, a1, a2, aI x] (aI x :: st) I) : JX11_layPipe Q 28 [a0, a1, a2, aI x] st I := g_iload_n (i := 3) (x := x) dX11_layPipe_28 rfl rfl k
theorem dX11_layPipe_29 : decode cX11_layPipe 29 = .ok (.iconst 3, 1) := by decide +kernel
theorem X11_layPipe_29 {Q : z_M → Prop} {a0 a1 a2 a3 : z_V} {st : List z_V} {I : z_M} (k : JX11_layPipe Q 30 [a0, a1, a2, a3] (aI 3 :: st) I) : JX11_layPipe Q 29 [a0, a1, a2, a3] st I := g_iconst (n := 3) dX11_layPipe_29 (by decide) k
theorem dX11_layPipe_30 : decode cX11_layPipe 30 = .ok (.iadd, 1) := by decide +kernel
theorem X11_layPipe_30 {Q : z_M → Prop} {a0 a1 a2 a3 : z_V} {x y : Int} {st : List z_V} {I : z_M} (hr : inI (x + y) := by omega) (k : JX11_layPipe Q 31 [a0, a1, a2, a3] (aI (x + y) :: st) I) : JX11_layPipe Q 30 [a0, a1, a2, a3] (aI y :: aI x :: st) I := g_iadd dX11_layPipe_30 hr k
theorem X11_layPipe_30w {Q : z_M → Prop} {a0 a1 a2 a3 : z_V} {x y : Int} {st : List z_V} {I : z_M} (k : JX11_layPipe Q 31 [a0, a1, a2, a3] (aI (i32 (x + y)) :: st) I) : JX11_layPipe Q 30 [a0, a1, a2, a3] (aI y :: aI x :: st) I := g_iaddw dX11_layPipe_30 k
theorem dX11_layPipe_31 : decode cX11_layPipe 31 = .ok (.iconst 0, 1) := by decide +kernel
theorem X11_layPipe_31 {Q : z_M → Prop} {a0 a1 a2 a3 : z_V} {st : List z_V} {I : z_M} (k : JX11_layPipe Q 32 [a0, a1, a2, a3] (aI 0 :: st) I) : JX11_layPipe Q 31 [a0, a1, a2, a3] st I := g_iconst (n := 0) dX11_layPipe_31 (by decide) k
theorem dX11_layPipe_32 : decode cX11_layPipe 32 = .ok (.iastore, 1) := by decide +kernel
theorem X11_layPipe_32 {Q : z_M → Prop} {a0 a1 a2 a3 : z_V} {q : Nat} {i x : Int} {st : List z_V} {I : z_M} (hk : z_cl q = 20 := by first | assumption | rfl) (h0 : 0 ≤ i := by omega) (h1 : i < z_n q := by first | omega | (simp only [zn_1, zn_9, zn_10, zn_11, zn_12, zn_13, zn_14, zn_15, zn_16, zn_18, zn_20, zn_21, zn_22, zn_23, zn_24, zn_25, zn_26, zn_27, zn_29, zn_30, zn_53, zn_55, zn_56, zn_58, zn_59, zn_61, zn_62, zn_63, zn_64, zn_65, zn_66, zn_67, zn_68, zn_69, zn_70, zn_71, zn_72, zn_73]; omega))  (k : JX11_layPipe Q 33 [a0, a1, a2, a3] st (z_up I q i.toNat x)) : JX11_layPipe Q 32 [a0, a1, a2, a3] (aI x :: aI i :: aR q :: st) I := g_iast dX11_layPipe_32 hk h0 h1 k
theorem dX11_layPipe_33 : decode cX11_layPipe 33 = .ok (.aload_n 0, 1) := by decide +kernel
theorem X11_layPipe_33 {Q : z_M → Prop} {a1 a2 a3 : z_V} {x : Nat} {st : List z_V} {I : z_M} (k : JX11_layPipe Q 34 [aR x, a1, a2, a3] (aR x :: st) I) : JX11_layPipe Q 33 [aR x, a1, a2, a3] st I := g_aload_n (i := 0) (x := x) dX11_layPipe_33 rfl rfl k
theorem dX11_layPipe_34 : decode cX11_layPipe 34 = .ok (.iconst 0, 1) := by decide +kernel
theorem X11_layPipe_34 {Q : z_M → Prop} {a0 a1 a2 a3 : z_V} {st : List z_V} {I : z_M} (k : JX11_layPipe Q 35 [a0, a1, a2, a3] (aI 0 :: st) I) : JX11_layPipe Q 34 [a0, a1, a2, a3] st I := g_iconst (n := 0) dX11_layPipe_34 (by decide) k
theorem dX11_layPipe_35 : decode cX11_layPipe 35 = .ok (.dup2, 1) := by decide +kernel
theorem X11_layPipe_35 {Q : z_M → Prop} {a0 a1 a2 a3 : z_V} {x y : z_V} {st : List z_V} {I : z_M} (hx : ∀ z, x ≠ aL z := by intro z q; cases q) (hy : ∀ z, y ≠ aL z := by intro z q; cases q) (k : JX11_layPipe Q 36 [a0, a1, a2, a3] (x :: y :: x :: y :: st) I) : JX11_layPipe Q 35 [a0, a1, a2, a3] (x :: y :: st) I := g_dup2 dX11_layPipe_35 hx hy k
theorem dX11_layPipe_36 : decode cX11_layPipe 36 = .ok (.iaload, 1) := by decide +kernel
theorem X11_layPipe_36 {Q : z_M → Prop} {a0 a1 a2 a3 : z_V} {q : Nat} {i : Int} {st : List z_V} {I : z_M} (hk : z_cl q = 20 := by first | assumption | rfl) (h0 : 0 ≤ i := by omega) (h1 : i < z_n q := by first | omega | (simp only [zn_1, zn_9, zn_10, zn_11, zn_12, zn_13, zn_14, zn_15, zn_16, zn_18, zn_20, zn_21, zn_22, zn_23, zn_24, zn_25, zn_26, zn_27, zn_29, zn_30, zn_53, zn_55, zn_56, zn_58, zn_59, zn_61, zn_62, zn_63, zn_64, zn_65, zn_66, zn_67, zn_68, zn_69, zn_70, zn_71, zn_72, zn_73]; omega)) (k : JX11_layPipe Q 37 [a0, a1, a2, a3] (aI (I q i.toNat) :: st) I) : JX11_layPipe Q 36 [a0, a1, a2, a3] (aI i :: aR q :: st) I := g_iald dX11_layPipe_36 hk h0 h1 k
theorem dX11_layPipe_37 : decode cX11_layPipe 37 = .ok (.iconst 1, 1) := by decide +kernel
theorem X11_layPipe_37 {Q : z_M → Prop} {a0 a1 a2 a3 : z_V} {st : List z_V} {I : z_M} (k : JX11_layPipe Q 38 [a0, a1, a2, a3] (aI 1 :: st) I) : JX11_layPipe Q 37 [a0, a1, a2, a3] st I := g_iconst (n := 1) dX11_layPipe_37 (by decide) k
theorem dX11_layPipe_38 : decode cX11_layPipe 38 = .ok (.iadd, 1) := by decide +kernel
theorem X11_layPipe_38 {Q : z_M → Prop} {a0 a1 a2 a3 : z_V} {x y : Int} {st : List z_V} {I : z_M} (hr : inI (x + y) := by omega) (k : JX11_layPipe Q 39 [a0, a1, a2, a3] (aI (x + y) :: st) I) : JX11_layPipe Q 38 [a0, a1, a2, a3] (aI y :: aI x :: st) I := g_iadd dX11_layPipe_38 hr k
theorem X11_layPipe_38w {Q : z_M → Prop} {a0 a1 a2 a3 : z_V} {x y : Int} {st : List z_V} {I : z_M} (k : JX11_layPipe Q 39 [a0, a1, a2, a3] (aI (i32 (x + y)) :: st) I) : JX11_layPipe Q 38 [a0, a1, a2, a3] (aI y :: aI x :: st) I := g_iaddw dX11_layPipe_38 k
theorem dX11_layPipe_39 : decode cX11_layPipe 39 = .ok (.iastore, 1) := by decide +kernel
theorem X11_layPipe_39 {Q : z_M → Prop} {a0 a1 a2 a3 : z_V} {q : Nat} {i x : Int} {st : List z_V} {I : z_M} (hk : z_cl q = 20 := by first | assumption | rfl) (h0 : 0 ≤ i := by omega) (h1 : i < z_n q := by first | omega | (simp only [zn_1, zn_9, zn_10, zn_11, zn_12, zn_13, zn_14, zn_15, zn_16, zn_18, zn_20, zn_21, zn_22, zn_23, zn_24, zn_25, zn_26, zn_27, zn_29, zn_30, zn_53, zn_55, zn_56, zn_58, zn_59, zn_61, zn_62, zn_63, zn_64, zn_65, zn_66, zn_67, zn_68, zn_69, zn_70, zn_71, zn_72, zn_73]; omega))  (k : JX11_layPipe Q 40 [a0, a1, a2, a3] st (z_up I q i.toNat x)) : JX11_layPipe Q 39 [a0, a1, a2, a3] (aI x :: aI i :: aR q :: st) I := g_iast dX11_layPipe_39 hk h0 h1 k
theorem dX11_layPipe_40 : decode cX11_layPipe 40 = .ok (.return_, 1) := by decide +kernel
theorem X11_layPipe_40 {Q : z_M → Prop} {a0 a1 a2 a3 : z_V} {I : z_M} (hq : Q I) : JX11_layPipe Q 40 [a0, a1, a2, a3] [] I := g_return dX11_layPipe_40 ⟨rfl, hq⟩
theorem dX11_pipe_0 : decode cX11_pipe 0 = .ok (.iload_n 1, 1) := by decide +kernel
theorem X11_pipe_0 {Q : Int → z_M → Prop} {a0 a2 : z_V} {x : Int} {st : List z_V} {I : z_M} (k : JX11_pipe Q 1 [a0, aI x, a2] (aI x :: st) I) : JX11_pipe Q 0 [a0, aI x, a2] st I := g_iload_n (i := 1) (x := x) dX11_pipe_0 rfl rfl k
theorem dX11_pipe_1 : decode cX11_pipe 1 = .ok (.i2l, 1) := by decide +kernel
theorem X11_pipe_1 {Q : Int → z_M → Prop} {a0 a1 a2 : z_V} {x : Int} {st : List z_V} {I : z_M} (k : JX11_pipe Q 2 [a0, a1, a2] (aL x :: st) I) : JX11_pipe Q 1 [a0, a1, a2] (aI x :: st) I := g_i2l dX11_pipe_1 k
theorem dX11_pipe_2 : decode cX11_pipe 2 = .ok (.lconst 0, 1) := by decide +kernel
theorem X11_pipe_2 {Q : Int → z_M → Prop} {a0 a1 a2 : z_V} {st : List z_V} {I : z_M} (k : JX11_pipe Q 3 [a0, a1, a2] (aL 0 :: st) I) : JX11_pipe Q 2 [a0, a1, a2] st I := g_lconst (v := 0) dX11_pipe_2 (by decide +kernel) (by decide) k
theorem dX11_pipe_3 : decode cX11_pipe 3 = .ok (.ldc2_w 96, 3) := by decide +kernel
theorem X11_pipe_3 {Q : Int → z_M → Prop} {a0 a1 a2 : z_V} {st : List z_V} {I : z_M} (k : JX11_pipe Q 6 [a0, a1, a2] (aL (5) :: st) I) : JX11_pipe Q 3 [a0, a1, a2] st I := g_ldc2 (n := 5) dX11_pipe_3 m_9_19 (by decide +kernel) (by decide) k
theorem dX11_pipe_6 : decode cX11_pipe 6 = .ok (.invokestatic 58, 3) := by decide +kernel
theorem X11_pipe_6 {Q : Int → z_M → Prop} {a0 a1 a2 : z_V} {x0 : Int} {x1 : Int} {x2 : Int} {st : List z_V} {I : z_M} (hst : z_sw st ≤ 8 := by exact Nat.le_of_ble_eq_true rfl) (k : CX11_in [aL x0, aL x1, aL x2] I (fun x9 I9 => JX11_pipe Q 9 [a0, a1, a2] (aI x9 :: st) I9)) : JX11_pipe Q 6 [a0, a1, a2] (aL x2 :: aL x1 :: aL x0 :: st) I := g_callS (As := [aL x0, aL x1, aL x2]) (n := 3) dX11_pipe_6 ⟨m_8_11, pdX11_in, ⟨by decide, by decide⟩, rfl, rfl, by decide, by decide⟩ m_8_9 m_8_10 m_1_5 rfl hst k (fun r I9 h => by obtain ⟨x9, rfl, h⟩ := h; exact h)
theorem dX11_pipe_9 : decode cX11_pipe 9 = .ok (.ifCond .eq 15, 3) := by decide +kernel
theorem X11_pipe_9 {Q : Int → z_M → Prop} {a0 a1 a2 : z_V} {x : Int} {st : List z_V} {I : z_M} (kt : x = 0 → JX11_pipe Q 24 [a0, a1, a2] st I) (kf : x ≠ 0 → JX11_pipe Q 12 [a0, a1, a2] st I) : JX11_pipe Q 9 [a0, a1, a2] (aI x :: st) I := g_if_eq dX11_pipe_9 (by decide) kt kf
theorem dX11_pipe_12 : decode cX11_pipe 12 = .ok (.iload_n 2, 1) := by decide +kernel
theorem X11_pipe_12 {Q : Int → z_M → Prop} {a0 a1 : z_V} {x : Int} {st : List z_V} {I : z_M} (k : JX11_pipe Q 13 [a0, a1, aI x] (aI x :: st) I) : JX11_pipe Q 12 [a0, a1, aI x] st I := g_iload_n (i := 2) (x := x) dX11_pipe_12 rfl rfl k
theorem dX11_pipe_13 : decode cX11_pipe 13 = .ok (.i2l, 1) := by decide +kernel
theorem X11_pipe_13 {Q : Int → z_M → Prop} {a0 a1 a2 : z_V} {x : Int} {st : List z_V} {I : z_M} (k : JX11_pipe Q 14 [a0, a1, a2] (aL x :: st) I) : JX11_pipe Q 13 [a0, a1, a2] (aI x :: st) I := g_i2l dX11_pipe_13 k
theorem dX11_pipe_14 : decode cX11_pipe 14 = .ok (.lconst 0, 1) := by decide +kernel
theorem X11_pipe_14 {Q : Int → z_M → Prop} {a0 a1 a2 : z_V} {st : List z_V} {I : z_M} (k : JX11_pipe Q 15 [a0, a1, a2] (aL 0 :: st) I) : JX11_pipe Q 14 [a0, a1, a2] st I := g_lconst (v := 0) dX11_pipe_14 (by decide +kernel) (by decide) k
theorem dX11_pipe_15 : decode cX11_pipe 15 = .ok (.ldc2_w 98, 3) := by decide +kernel
theorem X11_pipe_15 {Q : Int → z_M → Prop} {a0 a1 a2 : z_V} {st : List z_V} {I : z_M} (k : JX11_pipe Q 18 [a0, a1, a2] (aL (35) :: st) I) : JX11_pipe Q 15 [a0, a1, a2] st I := g_ldc2 (n := 35) dX11_pipe_15 m_9_20 (by decide +kernel) (by decide) k
theorem dX11_pipe_18 : decode cX11_pipe 18 = .ok (.invokestatic 58, 3) := by decide +kernel
theorem X11_pipe_18 {Q : Int → z_M → Prop} {a0 a1 a2 : z_V} {x0 : Int} {x1 : Int} {x2 : Int} {st : List z_V} {I : z_M} (hst : z_sw st ≤ 8 := by exact Nat.le_of_ble_eq_true rfl) (k : CX11_in [aL x0, aL x1, aL x2] I (fun x9 I9 => JX11_pipe Q 21 [a0, a1, a2] (aI x9 :: st) I9)) : JX11_pipe Q 18 [a0, a1, a2] (aL x2 :: aL x1 :: aL x0 :: st) I := g_callS (As := [aL x0, aL x1, aL x2]) (n := 3) dX11_pipe_18 ⟨m_8_11, pdX11_in, ⟨by decide, by decide⟩, rfl, rfl, by decide, by decide⟩ m_8_9 m_8_10 m_1_5 rfl hst k (fun r I9 h => by obtain ⟨x9, rfl, h⟩ := h; exact h)
theorem dX11_pipe_21 : decode cX11_pipe 21 = .ok (.ifCond .ne 10, 3) := by decide +kernel
theorem X11_pipe_21 {Q : Int → z_M → Prop} {a0 a1 a2 : z_V} {x : Int} {st : List z_V} {I : z_M} (kt : x ≠ 0 → JX11_pipe Q 31 [a0, a1, a2] st I) (kf : x = 0 → JX11_pipe Q 24 [a0, a1, a2] st I) : JX11_pipe Q 21 [a0, a1, a2] (aI x :: st) I := g_if_ne dX11_pipe_21 (by decide) kt kf
theorem dX11_pipe_24 : decode cX11_pipe 24 = .ok (.aload_n 0, 1) := by decide +kernel
theorem X11_pipe_24 {Q : Int → z_M → Prop} {a1 a2 : z_V} {x : Nat} {st : List z_V} {I : z_M} (k : JX11_pipe Q 25 [aR x, a1, a2] (aR x :: st) I) : JX11_pipe Q 24 [aR x, a1, a2] st I := g_aload_n (i := 0) (x := x) dX11_pipe_24 rfl rfl k
theorem dX11_pipe_25 : decode cX11_pipe 25 = .ok (.bipush (-2), 2) := by decide +kernel
theorem X11_pipe_25 {Q : Int → z_M → Prop} {a0 a1 a2 : z_V} {st : List z_V} {I : z_M} (k : JX11_pipe Q 27 [a0, a1, a2] (aI (-2) :: st) I) : JX11_pipe Q 25 [a0, a1, a2] st I := g_bipush (n := (-2)) dX11_pipe_25 (by decide +kernel) (by decide) k
theorem dX11_pipe_27 : decode cX11_pipe 27 = .ok (.invokevirtual 85, 3) := by decide +kernel
theorem X11_pipe_27 {Q : Int → z_M → Prop} {a0 a1 a2 : z_V}  {x0 : Int} {st : List z_V} {I : z_M}  (hst : z_sw st ≤ 8 := by exact Nat.le_of_ble_eq_true rfl) (k : CX11_bad (aR 60 :: [aI x0]) I (fun x9 I9 => JX11_pipe Q 30 [a0, a1, a2] (aI x9 :: st) I9)) : JX11_pipe Q 27 [a0, a1, a2] (aI x0 :: aR 60 :: st) I := g_callV (C := RX11) (ci := 11) (As := [aI x0]) (n := 1) dX11_pipe_27 ⟨m_8_15, pdX11_bad, ⟨by decide, by decide⟩, rfl, rfl, by decide, by decide⟩ m_8_12 m_8_13 m_8_14 m_1_5 rfl rfl (by decide) rfl rfl hst k (fun r I9 h => by obtain ⟨x9, rfl, h⟩ := h; exact h)
theorem dX11_pipe_30 : decode cX11_pipe 30 = .ok (.ireturn, 1) := by decide +kernel
theorem X11_pipe_30 {Q : Int → z_M → Prop} {a0 a1 a2 : z_V} {x : Int} {I : z_M} (hq : Q x I) : JX11_pipe Q 30 [a0, a1, a2] [aI x] I := g_ireturn dX11_pipe_30 ⟨x, rfl, hq⟩
theorem dX11_pipe_31 : decode cX11_pipe 31 = .ok (.aload_n 0, 1) := by decide +kernel
theorem X11_pipe_31 {Q : Int → z_M → Prop} {a1 a2 : z_V} {x : Nat} {st : List z_V} {I : z_M} (k : JX11_pipe Q 32 [aR x, a1, a2] (aR x :: st) I) : JX11_pipe Q 31 [aR x, a1, a2] st I := g_aload_n (i := 0) (x := x) dX11_pipe_31 rfl rfl k
theorem dX11_pipe_32 : decode cX11_pipe 32 = .ok (.invokevirtual 54, 3) := by decide +kernel
theorem X11_pipe_32 {Q : Int → z_M → Prop} {a0 a1 a2 : z_V}   {st : List z_V} {I : z_M}  (hst : z_sw st ≤ 8 := by exact Nat.le_of_ble_eq_true rfl) (k : CX11_pipes (aR 60 :: []) I (fun x9 I9 => JX11_pipe Q 35 [a0, a1, a2] (aI x9 :: st) I9)) : JX11_pipe Q 32 [a0, a1, a2] (aR 60 :: st) I := g_callV (C := RX11) (ci := 11) (As := []) (n := 0) dX11_pipe_32 ⟨m_6_21, pdX11_pipes, ⟨by decide, by decide⟩, rfl, rfl, by decide, by decide⟩ m_6_18 m_6_19 m_6_20 m_1_5 rfl rfl (by decide) rfl rfl hst k (fun r I9 h => by obtain ⟨x9, rfl, h⟩ := h; exact h)
theorem dX11_pipe_35 : decode cX11_pipe 35 = .ok (.bipush 8, 2) := by decide +kernel
theorem X11_pipe_35 {Q : Int → z_M → Prop} {a0 a1 a2 : z_V} {st : List z_V} {I : z_M} (k : JX11_pipe Q 37 [a0, a1, a2] (aI 8 :: st) I) : JX11_pipe Q 35 [a0, a1, a2] st I := g_bipush (n := 8) dX11_pipe_35 (by decide +kernel) (by decide) k
theorem dX11_pipe_37 : decode cX11_pipe 37 = .ok (.if_icmp .ne 8, 3) := by decide +kernel
theorem X11_pipe_37 {Q : Int → z_M → Prop} {a0 a1 a2 : z_V} {x y : Int} {st : List z_V} {I : z_M} (kt : x ≠ y → JX11_pipe Q 45 [a0, a1, a2] st I) (kf : x = y → JX11_pipe Q 40 [a0, a1, a2] st I) : JX11_pipe Q 37 [a0, a1, a2] (aI y :: aI x :: st) I := g_icmp_ne dX11_pipe_37 (by decide) kt kf
theorem dX11_pipe_40 : decode cX11_pipe 40 = .ok (.aload_n 0, 1) := by decide +kernel
theorem X11_pipe_40 {Q : Int → z_M → Prop} {a1 a2 : z_V} {x : Nat} {st : List z_V} {I : z_M} (k : JX11_pipe Q 41 [aR x, a1, a2] (aR x :: st) I) : JX11_pipe Q 40 [aR x, a1, a2] st I := g_aload_n (i := 0) (x := x) dX11_pipe_40 rfl rfl k
theorem dX11_pipe_41 : decode cX11_pipe 41 = .ok (.invokevirtual 89, 3) := by decide +kernel
theorem X11_pipe_41 {Q : Int → z_M → Prop} {a0 a1 a2 : z_V}   {st : List z_V} {I : z_M}  (hst : z_sw st ≤ 8 := by exact Nat.le_of_ble_eq_true rfl) (k : CX11_full (aR 60 :: []) I (fun x9 I9 => JX11_pipe Q 44 [a0, a1, a2] (aI x9 :: st) I9)) : JX11_pipe Q 41 [a0, a1, a2] (aR 60 :: st) I := g_callV (C := RX11) (ci := 11) (As := []) (n := 0) dX11_pipe_41 ⟨m_8_23, pdX11_full, ⟨by decide, by decide⟩, rfl, rfl, by decide, by decide⟩ m_8_20 m_8_21 m_8_22 m_1_5 rfl rfl (by decide) rfl rfl hst k (fun r I9 h => by obtain ⟨x9, rfl, h⟩ := h; exact h)
theorem dX11_pipe_44 : decode cX11_pipe 44 = .ok (.ireturn, 1) := by decide +kernel
theorem X11_pipe_44 {Q : Int → z_M → Prop} {a0 a1 a2 : z_V} {x : Int} {I : z_M} (hq : Q x I) : JX11_pipe Q 44 [a0, a1, a2] [aI x] I := g_ireturn dX11_pipe_44 ⟨x, rfl, hq⟩
theorem dX11_pipe_45 : decode cX11_pipe 45 = .ok (.aload_n 0, 1) := by decide +kernel
theorem X11_pipe_45 {Q : Int → z_M → Prop} {a1 a2 : z_V} {x : Nat} {st : List z_V} {I : z_M} (k : JX11_pipe Q 46 [aR x, a1, a2] (aR x :: st) I) : JX11_pipe Q 45 [aR x, a1, a2] st I := g_aload_n (i := 0) (x := x) dX11_pipe_45 rfl rfl k
theorem dX11_pipe_46 : decode cX11_pipe 46 = .ok (.getfield 7, 3) := by decide +kernel
theorem X11_pipe_46 {Q : Int → z_M → Prop} {a0 a1 a2 : z_V}  {st : List z_V} {I : z_M}  (k : JX11_pipe Q 49 [a0, a1, a2] (aR (61) :: st) I) : JX11_pipe Q 46 [a0, a1, a2] (aR 60 :: st) I := g_getr (ci := 11) (j := 0) (N := 23) (T := TX11) dX11_pipe_46 rfl rfl (by decide) (z_nc11 rfl) inlX11 (by decide) m_5_1 rfl rfl k
theorem dX11_pipe_49 : decode cX11_pipe 49 = .ok (.iload_n 1, 1) := by decide +kernel
theorem X11_pipe_49 {Q : Int → z_M → Prop} {a0 a2 : z_V} {x : Int} {st : List z_V} {I : z_M} (k : JX11_pipe Q 50 [a0, aI x, a2] (aI x :: st) I) : JX11_pipe Q 49 [a0, aI x, a2] st I := g_iload_n (i := 1) (x := x) dX11_pipe_49 rfl rfl k
theorem dX11_pipe_50 : decode cX11_pipe 50 = .ok (.iload_n 2, 1) := by decide +kernel
theorem X11_pipe_50 {Q : Int → z_M → Prop} {a0 a1 : z_V} {x : Int} {st : List z_V} {I : z_M} (k : JX11_pipe Q 51 [a0, a1, aI x] (aI x :: st) I) : JX11_pipe Q 50 [a0, a1, aI x] st I := g_iload_n (i := 2) (x := x) dX11_pipe_50 rfl rfl k
theorem dX11_pipe_51 : decode cX11_pipe 51 = .ok (.invokestatic 100, 3) := by decide +kernel
theorem X11_pipe_51 {Q : Int → z_M → Prop} {a0 a1 a2 : z_V} {x0 : Nat} {x1 : Int} {x2 : Int} {st : List z_V} {I : z_M} (hst : z_sw st ≤ 8 := by exact Nat.le_of_ble_eq_true rfl) (k : CX11_layPipe [aR x0, aI x1, aI x2] I (fun I9 => JX11_pipe Q 54 [a0, a1, a2] st I9)) : JX11_pipe Q 51 [a0, a1, a2] (aI x2 :: aI x1 :: aR x0 :: st) I := g_callS (As := [aR x0, aI x1, aI x2]) (n := 3) dX11_pipe_51 ⟨m_9_23, pdX11_layPipe, ⟨by decide, by decide⟩, rfl, rfl, by decide, by decide⟩ m_9_21 m_9_22 m_1_5 rfl hst k (fun r I9 h => by obtain ⟨rfl, h⟩ := h; exact h)
theorem dX11_pipe_54 : decode cX11_pipe 54 = .ok (.aload_n 0, 1) := by decide +kernel
theorem X11_pipe_54 {Q : Int → z_M → Prop} {a1 a2 : z_V} {x : Nat} {st : List z_V} {I : z_M} (k : JX11_pipe Q 55 [aR x, a1, a2] (aR x :: st) I) : JX11_pipe Q 54 [aR x, a1, a2] st I := g_aload_n (i := 0) (x := x) dX11_pipe_54 rfl rfl k
theorem dX11_pipe_55 : decode cX11_pipe 55 = .ok (.getfield 7, 3) := by decide +kernel
theorem X11_pipe_55 {Q : Int → z_M → Prop} {a0 a1 a2 : z_V}  {st : List z_V} {I : z_M}  (k : JX11_pipe Q 58 [a0, a1, a2] (aR (61) :: st) I) : JX11_pipe Q 55 [a0, a1, a2] (aR 60 :: st) I := g_getr (ci := 11) (j := 0) (N := 23) (T := TX11) dX11_pipe_55 rfl rfl (by decide) (z_nc11 rfl) inlX11 (by decide) m_5_1 rfl rfl k
theorem dX11_pipe_58 : decode cX11_pipe 58 = .ok (.iconst 4, 1) := by decide +kernel
theorem X11_pipe_58 {Q : Int → z_M → Prop} {a0 a1 a2 : z_V} {st : List z_V} {I : z_M} (k : JX11_pipe Q 59 [a0, a1, a2] (aI 4 :: st) I) : JX11_pipe Q 58 [a0, a1, a2] st I := g_iconst (n := 4) dX11_pipe_58 (by decide) k
theorem dX11_pipe_59 : decode cX11_pipe 59 = .ok (.iconst 0, 1) := by decide +kernel
theorem X11_pipe_59 {Q : Int → z_M → Prop} {a0 a1 a2 : z_V} {st : List z_V} {I : z_M} (k : JX11_pipe Q 60 [a0, a1, a2] (aI 0 :: st) I) : JX11_pipe Q 59 [a0, a1, a2] st I := g_iconst (n := 0) dX11_pipe_59 (by decide) k
theorem dX11_pipe_60 : decode cX11_pipe 60 = .ok (.iastore, 1) := by decide +kernel
theorem X11_pipe_60 {Q : Int → z_M → Prop} {a0 a1 a2 : z_V} {q : Nat} {i x : Int} {st : List z_V} {I : z_M} (hk : z_cl q = 20 := by first | assumption | rfl) (h0 : 0 ≤ i := by omega) (h1 : i < z_n q := by first | omega | (simp only [zn_1, zn_9, zn_10, zn_11, zn_12, zn_13, zn_14, zn_15, zn_16, zn_18, zn_20, zn_21, zn_22, zn_23, zn_24, zn_25, zn_26, zn_27, zn_29, zn_30, zn_53, zn_55, zn_56, zn_58, zn_59, zn_61, zn_62, zn_63, zn_64, zn_65, zn_66, zn_67, zn_68, zn_69, zn_70, zn_71, zn_72, zn_73]; omega))  (k : JX11_pipe Q 61 [a0, a1, a2] st (z_up I q i.toNat x)) : JX11_pipe Q 60 [a0, a1, a2] (aI x :: aI i :: aR q :: st) I := g_iast dX11_pipe_60 hk h0 h1 k
theorem dX11_pipe_61 : decode cX11_pipe 61 = .ok (.aload_n 0, 1) := by decide +kernel
theorem X11_pipe_61 {Q : Int → z_M → Prop} {a1 a2 : z_V} {x : Nat} {st : List z_V} {I : z_M} (k : JX11_pipe Q 62 [aR x, a1, a2] (aR x :: st) I) : JX11_pipe Q 61 [aR x, a1, a2] st I := g_aload_n (i := 0) (x := x) dX11_pipe_61 rfl rfl k
theorem dX11_pipe_62 : decode cX11_pipe 62 = .ok (.invokevirtual 54, 3) := by decide +kernel
theorem X11_pipe_62 {Q : Int → z_M → Prop} {a0 a1 a2 : z_V}   {st : List z_V} {I : z_M}  (hst : z_sw st ≤ 8 := by exact Nat.le_of_ble_eq_true rfl) (k : CX11_pipes (aR 60 :: []) I (fun x9 I9 => JX11_pipe Q 65 [a0, a1, a2] (aI x9 :: st) I9)) : JX11_pipe Q 62 [a0, a1, a2] (aR 60 :: st) I := g_callV (C := RX11) (ci := 11) (As := []) (n := 0) dX11_pipe_62 ⟨m_6_21, pdX11_pipes, ⟨by decide, by decide⟩, rfl, rfl, by decide, by decide⟩ m_6_18 m_6_19 m_6_20 m_1_5 rfl rfl (by decide) rfl rfl hst k (fun r I9 h => by obtain ⟨x9, rfl, h⟩ := h; exact h)
theorem dX11_pipe_65 : decode cX11_pipe 65 = .ok (.iconst 1, 1) := by decide +kernel
theorem X11_pipe_65 {Q : Int → z_M → Prop} {a0 a1 a2 : z_V} {st : List z_V} {I : z_M} (k : JX11_pipe Q 66 [a0, a1, a2] (aI 1 :: st) I) : JX11_pipe Q 65 [a0, a1, a2] st I := g_iconst (n := 1) dX11_pipe_65 (by decide) k
theorem dX11_pipe_66 : decode cX11_pipe 66 = .ok (.isub, 1) := by decide +kernel
theorem X11_pipe_66 {Q : Int → z_M → Prop} {a0 a1 a2 : z_V} {x y : Int} {st : List z_V} {I : z_M} (hr : inI (x - y) := by omega) (k : JX11_pipe Q 67 [a0, a1, a2] (aI (x - y) :: st) I) : JX11_pipe Q 66 [a0, a1, a2] (aI y :: aI x :: st) I := g_isub dX11_pipe_66 hr k
theorem X11_pipe_66w {Q : Int → z_M → Prop} {a0 a1 a2 : z_V} {x y : Int} {st : List z_V} {I : z_M} (k : JX11_pipe Q 67 [a0, a1, a2] (aI (i32 (x - y)) :: st) I) : JX11_pipe Q 66 [a0, a1, a2] (aI y :: aI x :: st) I := g_isubw dX11_pipe_66 k
theorem dX11_pipe_67 : decode cX11_pipe 67 = .ok (.ireturn, 1) := by decide +kernel
theorem X11_pipe_67 {Q : Int → z_M → Prop} {a0 a1 a2 : z_V} {x : Int} {I : z_M} (hq : Q x I) : JX11_pipe Q 67 [a0, a1, a2] [aI x] I := g_ireturn dX11_pipe_67 ⟨x, rfl, hq⟩
theorem dX11_note_0 : decode cX11_note 0 = .ok (.iload_n 1, 1) := by decide +kernel
theorem X11_note_0 {Q : Int → z_M → Prop} {a0 a2 : z_V} {x : Int} {st : List z_V} {I : z_M} (k : JX11_note Q 1 [a0, aI x, a2] (aI x :: st) I) : JX11_note Q 0 [a0, aI x, a2] st I := g_iload_n (i := 1) (x := x) dX11_note_0 rfl rfl k
theorem dX11_note_1 : decode cX11_note 1 = .ok (.invokestatic 104, 3) := by decide +kernel
theorem X11_note_1 {Q : Int → z_M → Prop} {a0 a1 a2 : z_V} {x0 : Int} {st : List z_V} {I : z_M} (hst : z_sw st ≤ 8 := by exact Nat.le_of_ble_eq_true rfl) (k : CX11_isHymn [aI x0] I (fun x9 I9 => JX11_note Q 4 [a0, a1, a2] (aI x9 :: st) I9)) : JX11_note Q 1 [a0, a1, a2] (aI x0 :: st) I := g_callS (As := [aI x0]) (n := 1) dX11_note_1 ⟨m_10_18, pdX11_isHymn, ⟨by decide, by decide⟩, rfl, rfl, by decide, by decide⟩ m_10_16 m_10_17 m_1_5 rfl hst k (fun r I9 h => by obtain ⟨x9, rfl, h⟩ := h; exact h)
theorem dX11_note_4 : decode cX11_note 4 = .ok (.ifCond .eq 15, 3) := by decide +kernel
theorem X11_note_4 {Q : Int → z_M → Prop} {a0 a1 a2 : z_V} {x : Int} {st : List z_V} {I : z_M} (kt : x = 0 → JX11_note Q 19 [a0, a1, a2] st I) (kf : x ≠ 0 → JX11_note Q 7 [a0, a1, a2] st I) : JX11_note Q 4 [a0, a1, a2] (aI x :: st) I := g_if_eq dX11_note_4 (by decide) kt kf
theorem dX11_note_7 : decode cX11_note 7 = .ok (.iload_n 2, 1) := by decide +kernel
theorem X11_note_7 {Q : Int → z_M → Prop} {a0 a1 : z_V} {x : Int} {st : List z_V} {I : z_M} (k : JX11_note Q 8 [a0, a1, aI x] (aI x :: st) I) : JX11_note Q 7 [a0, a1, aI x] st I := g_iload_n (i := 2) (x := x) dX11_note_7 rfl rfl k
theorem dX11_note_8 : decode cX11_note 8 = .ok (.i2l, 1) := by decide +kernel
theorem X11_note_8 {Q : Int → z_M → Prop} {a0 a1 a2 : z_V} {x : Int} {st : List z_V} {I : z_M} (k : JX11_note Q 9 [a0, a1, a2] (aL x :: st) I) : JX11_note Q 8 [a0, a1, a2] (aI x :: st) I := g_i2l dX11_note_8 k
theorem dX11_note_9 : decode cX11_note 9 = .ok (.lconst 0, 1) := by decide +kernel
theorem X11_note_9 {Q : Int → z_M → Prop} {a0 a1 a2 : z_V} {st : List z_V} {I : z_M} (k : JX11_note Q 10 [a0, a1, a2] (aL 0 :: st) I) : JX11_note Q 9 [a0, a1, a2] st I := g_lconst (v := 0) dX11_note_9 (by decide +kernel) (by decide) k
theorem dX11_note_10 : decode cX11_note 10 = .ok (.ldc2_w 98, 3) := by decide +kernel
theorem X11_note_10 {Q : Int → z_M → Prop} {a0 a1 a2 : z_V} {st : List z_V} {I : z_M} (k : JX11_note Q 13 [a0, a1, a2] (aL (35) :: st) I) : JX11_note Q 10 [a0, a1, a2] st I := g_ldc2 (n := 35) dX11_note_10 m_9_20 (by decide +kernel) (by decide) k
theorem dX11_note_13 : decode cX11_note 13 = .ok (.invokestatic 58, 3) := by decide +kernel
theorem X11_note_13 {Q : Int → z_M → Prop} {a0 a1 a2 : z_V} {x0 : Int} {x1 : Int} {x2 : Int} {st : List z_V} {I : z_M} (hst : z_sw st ≤ 8 := by exact Nat.le_of_ble_eq_true rfl) (k : CX11_in [aL x0, aL x1, aL x2] I (fun x9 I9 => JX11_note Q 16 [a0, a1, a2] (aI x9 :: st) I9)) : JX11_note Q 13 [a0, a1, a2] (aL x2 :: aL x1 :: aL x0 :: st) I := g_callS (As := [aL x0, aL x1, aL x2]) (n := 3) dX11_note_13 ⟨m_8_11, pdX11_in, ⟨by decide, by decide⟩, rfl, rfl, by decide, by decide⟩ m_8_9 m_8_10 m_1_5 rfl hst k (fun r I9 h => by obtain ⟨x9, rfl, h⟩ := h; exact h)
theorem dX11_note_16 : decode cX11_note 16 = .ok (.ifCond .ne 10, 3) := by decide +kernel
theorem X11_note_16 {Q : Int → z_M → Prop} {a0 a1 a2 : z_V} {x : Int} {st : List z_V} {I : z_M} (kt : x ≠ 0 → JX11_note Q 26 [a0, a1, a2] st I) (kf : x = 0 → JX11_note Q 19 [a0, a1, a2] st I) : JX11_note Q 16 [a0, a1, a2] (aI x :: st) I := g_if_ne dX11_note_16 (by decide) kt kf
theorem dX11_note_19 : decode cX11_note 19 = .ok (.aload_n 0, 1) := by decide +kernel
theorem X11_note_19 {Q : Int → z_M → Prop} {a1 a2 : z_V} {x : Nat} {st : List z_V} {I : z_M} (k : JX11_note Q 20 [aR x, a1, a2] (aR x :: st) I) : JX11_note Q 19 [aR x, a1, a2] st I := g_aload_n (i := 0) (x := x) dX11_note_19 rfl rfl k
theorem dX11_note_20 : decode cX11_note 20 = .ok (.bipush (-2), 2) := by decide +kernel
theorem X11_note_20 {Q : Int → z_M → Prop} {a0 a1 a2 : z_V} {st : List z_V} {I : z_M} (k : JX11_note Q 22 [a0, a1, a2] (aI (-2) :: st) I) : JX11_note Q 20 [a0, a1, a2] st I := g_bipush (n := (-2)) dX11_note_20 (by decide +kernel) (by decide) k
theorem dX11_note_22 : decode cX11_note 22 = .ok (.invokevirtual 85, 3) := by decide +kernel
theorem X11_note_22 {Q : Int → z_M → Prop} {a0 a1 a2 : z_V}  {x0 : Int} {st : List z_V} {I : z_M}  (hst : z_sw st ≤ 8 := by exact Nat.le_of_ble_eq_true rfl) (k : CX11_bad (aR 60 :: [aI x0]) I (fun x9 I9 => JX11_note Q 25 [a0, a1, a2] (aI x9 :: st) I9)) : JX11_note Q 22 [a0, a1, a2] (aI x0 :: aR 60 :: st) I := g_callV (C := RX11) (ci := 11) (As := [aI x0]) (n := 1) dX11_note_22 ⟨m_8_15, pdX11_bad, ⟨by decide, by decide⟩, rfl, rfl, by decide, by decide⟩ m_8_12 m_8_13 m_8_14 m_1_5 rfl rfl (by decide) rfl rfl hst k (fun r I9 h => by obtain ⟨x9, rfl, h⟩ := h; exact h)
theorem dX11_note_25 : decode cX11_note 25 = .ok (.ireturn, 1) := by decide +kernel
theorem X11_note_25 {Q : Int → z_M → Prop} {a0 a1 a2 : z_V} {x : Int} {I : z_M} (hq : Q x I) : JX11_note Q 25 [a0, a1, a2] [aI x] I := g_ireturn dX11_note_25 ⟨x, rfl, hq⟩
theorem dX11_note_26 : decode cX11_note 26 = .ok (.aload_n 0, 1) := by decide +kernel
theorem X11_note_26 {Q : Int → z_M → Prop} {a1 a2 : z_V} {x : Nat} {st : List z_V} {I : z_M} (k : JX11_note Q 27 [aR x, a1, a2] (aR x :: st) I) : JX11_note Q 26 [aR x, a1, a2] st I := g_aload_n (i := 0) (x := x) dX11_note_26 rfl rfl k
theorem dX11_note_27 : decode cX11_note 27 = .ok (.iload_n 1, 1) := by decide +kernel
theorem X11_note_27 {Q : Int → z_M → Prop} {a0 a2 : z_V} {x : Int} {st : List z_V} {I : z_M} (k : JX11_note Q 28 [a0, aI x, a2] (aI x :: st) I) : JX11_note Q 27 [a0, aI x, a2] st I := g_iload_n (i := 1) (x := x) dX11_note_27 rfl rfl k
theorem dX11_note_28 : decode cX11_note 28 = .ok (.invokevirtual 108, 3) := by decide +kernel
theorem X11_note_28 {Q : Int → z_M → Prop} {a0 a1 a2 : z_V}  {x0 : Int} {st : List z_V} {I : z_M}  (hst : z_sw st ≤ 8 := by exact Nat.le_of_ble_eq_true rfl) (k : CX11_notes (aR 60 :: [aI x0]) I (fun x9 I9 => JX11_note Q 31 [a0, a1, a2] (aI x9 :: st) I9)) : JX11_note Q 28 [a0, a1, a2] (aI x0 :: aR 60 :: st) I := g_callV (C := RX11) (ci := 11) (As := [aI x0]) (n := 1) dX11_note_28 ⟨m_10_23, pdX11_notes, ⟨by decide, by decide⟩, rfl, rfl, by decide, by decide⟩ m_10_20 m_10_21 m_10_22 m_1_5 rfl rfl (by decide) rfl rfl hst k (fun r I9 h => by obtain ⟨x9, rfl, h⟩ := h; exact h)
theorem dX11_note_31 : decode cX11_note 31 = .ok (.bipush 8, 2) := by decide +kernel
theorem X11_note_31 {Q : Int → z_M → Prop} {a0 a1 a2 : z_V} {st : List z_V} {I : z_M} (k : JX11_note Q 33 [a0, a1, a2] (aI 8 :: st) I) : JX11_note Q 31 [a0, a1, a2] st I := g_bipush (n := 8) dX11_note_31 (by decide +kernel) (by decide) k
theorem dX11_note_33 : decode cX11_note 33 = .ok (.if_icmp .ne 8, 3) := by decide +kernel
theorem X11_note_33 {Q : Int → z_M → Prop} {a0 a1 a2 : z_V} {x y : Int} {st : List z_V} {I : z_M} (kt : x ≠ y → JX11_note Q 41 [a0, a1, a2] st I) (kf : x = y → JX11_note Q 36 [a0, a1, a2] st I) : JX11_note Q 33 [a0, a1, a2] (aI y :: aI x :: st) I := g_icmp_ne dX11_note_33 (by decide) kt kf
theorem dX11_note_36 : decode cX11_note 36 = .ok (.aload_n 0, 1) := by decide +kernel
theorem X11_note_36 {Q : Int → z_M → Prop} {a1 a2 : z_V} {x : Nat} {st : List z_V} {I : z_M} (k : JX11_note Q 37 [aR x, a1, a2] (aR x :: st) I) : JX11_note Q 36 [aR x, a1, a2] st I := g_aload_n (i := 0) (x := x) dX11_note_36 rfl rfl k
theorem dX11_note_37 : decode cX11_note 37 = .ok (.invokevirtual 89, 3) := by decide +kernel
theorem X11_note_37 {Q : Int → z_M → Prop} {a0 a1 a2 : z_V}   {st : List z_V} {I : z_M}  (hst : z_sw st ≤ 8 := by exact Nat.le_of_ble_eq_true rfl) (k : CX11_full (aR 60 :: []) I (fun x9 I9 => JX11_note Q 40 [a0, a1, a2] (aI x9 :: st) I9)) : JX11_note Q 37 [a0, a1, a2] (aR 60 :: st) I := g_callV (C := RX11) (ci := 11) (As := []) (n := 0) dX11_note_37 ⟨m_8_23, pdX11_full, ⟨by decide, by decide⟩, rfl, rfl, by decide, by decide⟩ m_8_20 m_8_21 m_8_22 m_1_5 rfl rfl (by decide) rfl rfl hst k (fun r I9 h => by obtain ⟨x9, rfl, h⟩ := h; exact h)
theorem dX11_note_40 : decode cX11_note 40 = .ok (.ireturn, 1) := by decide +kernel
theorem X11_note_40 {Q : Int → z_M → Prop} {a0 a1 a2 : z_V} {x : Int} {I : z_M} (hq : Q x I) : JX11_note Q 40 [a0, a1, a2] [aI x] I := g_ireturn dX11_note_40 ⟨x, rfl, hq⟩
theorem dX11_note_41 : decode cX11_note 41 = .ok (.aload_n 0, 1) := by decide +kernel
theorem X11_note_41 {Q : Int → z_M → Prop} {a1 a2 : z_V} {x : Nat} {st : List z_V} {I : z_M} (k : JX11_note Q 42 [aR x, a1, a2] (aR x :: st) I) : JX11_note Q 41 [aR x, a1, a2] st I := g_aload_n (i := 0) (x := x) dX11_note_41 rfl rfl k
theorem dX11_note_42 : decode cX11_note 42 = .ok (.getfield 7, 3) := by decide +kernel
theorem X11_note_42 {Q : Int → z_M → Prop} {a0 a1 a2 : z_V}  {st : List z_V} {I : z_M}  (k : JX11_note Q 45 [a0, a1, a2] (aR (61) :: st) I) : JX11_note Q 42 [a0, a1, a2] (aR 60 :: st) I := g_getr (ci := 11) (j := 0) (N := 23) (T := TX11) dX11_note_42 rfl rfl (by decide) (z_nc11 rfl) inlX11 (by decide) m_5_1 rfl rfl k
theorem dX11_note_45 : decode cX11_note 45 = .ok (.bipush 62, 2) := by decide +kernel
theorem X11_note_45 {Q : Int → z_M → Prop} {a0 a1 a2 : z_V} {st : List z_V} {I : z_M} (k : JX11_note Q 47 [a0, a1, a2] (aI 62 :: st) I) : JX11_note Q 45 [a0, a1, a2] st I := g_bipush (n := 62) dX11_note_45 (by decide +kernel) (by decide) k
theorem dX11_note_47 : decode cX11_note 47 = .ok (.bipush 9, 2) := by decide +kernel
theorem X11_note_47 {Q : Int → z_M → Prop} {a0 a1 a2 : z_V} {st : List z_V} {I : z_M} (k : JX11_note Q 49 [a0, a1, a2] (aI 9 :: st) I) : JX11_note Q 47 [a0, a1, a2] st I := g_bipush (n := 9) dX11_note_47 (by decide +kernel) (by decide) k
theorem dX11_note_49 : decode cX11_note 49 = .ok (.iload_n 1, 1) := by decide +kernel
theorem X11_note_49 {Q : Int → z_M → Prop} {a0 a2 : z_V} {x : Int} {st : List z_V} {I : z_M} (k : JX11_note Q 50 [a0, aI x, a2] (aI x :: st) I) : JX11_note Q 49 [a0, aI x, a2] st I := g_iload_n (i := 1) (x := x) dX11_note_49 rfl rfl k
theorem dX11_note_50 : decode cX11_note 50 = .ok (.imul, 1) := by decide +kernel
theorem X11_note_50 {Q : Int → z_M → Prop} {a0 a1 a2 : z_V} {x y : Int} {st : List z_V} {I : z_M} (hr : inI (x * y) := by omega) (k : JX11_note Q 51 [a0, a1, a2] (aI (x * y) :: st) I) : JX11_note Q 50 [a0, a1, a2] (aI y :: aI x :: st) I := g_imul dX11_note_50 hr k
theorem X11_note_50w {Q : Int → z_M → Prop} {a0 a1 a2 : z_V} {x y : Int} {st : List z_V} {I : z_M} (k : JX11_note Q 51 [a0, a1, a2] (aI (i32 (x * y)) :: st) I) : JX11_note Q 50 [a0, a1, a2] (aI y :: aI x :: st) I := g_imulw dX11_note_50 k
theorem dX11_note_51 : decode cX11_note 51 = .ok (.iadd, 1) := by decide +kernel
theorem X11_note_51 {Q : Int → z_M → Prop} {a0 a1 a2 : z_V} {x y : Int} {st : List z_V} {I : z_M} (hr : inI (x + y) := by omega) (k : JX11_note Q 52 [a0, a1, a2] (aI (x + y) :: st) I) : JX11_note Q 51 [a0, a1, a2] (aI y :: aI x :: st) I := g_iadd dX11_note_51 hr k
theorem X11_note_51w {Q : Int → z_M → Prop} {a0 a1 a2 : z_V} {x y : Int} {st : List z_V} {I : z_M} (k : JX11_note Q 52 [a0, a1, a2] (aI (i32 (x + y)) :: st) I) : JX11_note Q 51 [a0, a1, a2] (aI y :: aI x :: st) I := g_iaddw dX11_note_51 k
theorem dX11_note_52 : decode cX11_note 52 = .ok (.iconst 1, 1) := by decide +kernel
theorem X11_note_52 {Q : Int → z_M → Prop} {a0 a1 a2 : z_V} {st : List z_V} {I : z_M} (k : JX11_note Q 53 [a0, a1, a2] (aI 1 :: st) I) : JX11_note Q 52 [a0, a1, a2] st I := g_iconst (n := 1) dX11_note_52 (by decide) k
theorem dX11_note_53 : decode cX11_note 53 = .ok (.iadd, 1) := by decide +kernel
theorem X11_note_53 {Q : Int → z_M → Prop} {a0 a1 a2 : z_V} {x y : Int} {st : List z_V} {I : z_M} (hr : inI (x + y) := by omega) (k : JX11_note Q 54 [a0, a1, a2] (aI (x + y) :: st) I) : JX11_note Q 53 [a0, a1, a2] (aI y :: aI x :: st) I := g_iadd dX11_note_53 hr k
theorem X11_note_53w {Q : Int → z_M → Prop} {a0 a1 a2 : z_V} {x y : Int} {st : List z_V} {I : z_M} (k : JX11_note Q 54 [a0, a1, a2] (aI (i32 (x + y)) :: st) I) : JX11_note Q 53 [a0, a1, a2] (aI y :: aI x :: st) I := g_iaddw dX11_note_53 k
theorem dX11_note_54 : decode cX11_note 54 = .ok (.aload_n 0, 1) := by decide +kernel
theorem X11_note_54 {Q : Int → z_M → Prop} {a1 a2 : z_V} {x : Nat} {st : List z_V} {I : z_M} (k : JX11_note Q 55 [aR x, a1, a2] (aR x :: st) I) : JX11_note Q 54 [aR x, a1, a2] st I := g_aload_n (i := 0) (x := x) dX11_note_54 rfl rfl k
theorem dX11_note_55 : decode cX11_note 55 = .ok (.iload_n 1, 1) := by decide +kernel
theorem X11_note_55 {Q : Int → z_M → Prop} {a0 a2 : z_V} {x : Int} {st : List z_V} {I : z_M} (k : JX11_note Q 56 [a0, aI x, a2] (aI x :: st) I) : JX11_note Q 55 [a0, aI x, a2] st I := g_iload_n (i := 1) (x := x) dX11_note_55 rfl rfl k
theorem dX11_note_56 : decode cX11_note 56 = .ok (.invokevirtual 108, 3) := by decide +kernel
theorem X11_note_56 {Q : Int → z_M → Prop} {a0 a1 a2 : z_V}  {x0 : Int} {st : List z_V} {I : z_M}  (hst : z_sw st ≤ 8 := by exact Nat.le_of_ble_eq_true rfl) (k : CX11_notes (aR 60 :: [aI x0]) I (fun x9 I9 => JX11_note Q 59 [a0, a1, a2] (aI x9 :: st) I9)) : JX11_note Q 56 [a0, a1, a2] (aI x0 :: aR 60 :: st) I := g_callV (C := RX11) (ci := 11) (As := [aI x0]) (n := 1) dX11_note_56 ⟨m_10_23, pdX11_notes, ⟨by decide, by decide⟩, rfl, rfl, by decide, by decide⟩ m_10_20 m_10_21 m_10_22 m_1_5 rfl rfl (by decide) rfl rfl hst k (fun r I9 h => by obtain ⟨x9, rfl, h⟩ := h; exact h)
theorem dX11_note_59 : decode cX11_note 59 = .ok (.iadd, 1) := by decide +kernel
theorem X11_note_59 {Q : Int → z_M → Prop} {a0 a1 a2 : z_V} {x y : Int} {st : List z_V} {I : z_M} (hr : inI (x + y) := by omega) (k : JX11_note Q 60 [a0, a1, a2] (aI (x + y) :: st) I) : JX11_note Q 59 [a0, a1, a2] (aI y :: aI x :: st) I := g_iadd dX11_note_59 hr k
theorem X11_note_59w {Q : Int → z_M → Prop} {a0 a1 a2 : z_V} {x y : Int} {st : List z_V} {I : z_M} (k : JX11_note Q 60 [a0, a1, a2] (aI (i32 (x + y)) :: st) I) : JX11_note Q 59 [a0, a1, a2] (aI y :: aI x :: st) I := g_iaddw dX11_note_59 k
theorem dX11_note_60 : decode cX11_note 60 = .ok (.iload_n 2, 1) := by decide +kernel
theorem X11_note_60 {Q : Int → z_M → Prop} {a0 a1 : z_V} {x : Int} {st : List z_V} {I : z_M} (k : JX11_note Q 61 [a0, a1, aI x] (aI x :: st) I) : JX11_note Q 60 [a0, a1, aI x] st I := g_iload_n (i := 2) (x := x) dX11_note_60 rfl rfl k
theorem dX11_note_61 : decode cX11_note 61 = .ok (.iastore, 1) := by decide +kernel
theorem X11_note_61 {Q : Int → z_M → Prop} {a0 a1 a2 : z_V} {q : Nat} {i x : Int} {st : List z_V} {I : z_M} (hk : z_cl q = 20 := by first | assumption | rfl) (h0 : 0 ≤ i := by omega) (h1 : i < z_n q := by first | omega | (simp only [zn_1, zn_9, zn_10, zn_11, zn_12, zn_13, zn_14, zn_15, zn_16, zn_18, zn_20, zn_21, zn_22, zn_23, zn_24, zn_25, zn_26, zn_27, zn_29, zn_30, zn_53, zn_55, zn_56, zn_58, zn_59, zn_61, zn_62, zn_63, zn_64, zn_65, zn_66, zn_67, zn_68, zn_69, zn_70, zn_71, zn_72, zn_73]; omega))  (k : JX11_note Q 62 [a0, a1, a2] st (z_up I q i.toNat x)) : JX11_note Q 61 [a0, a1, a2] (aI x :: aI i :: aR q :: st) I := g_iast dX11_note_61 hk h0 h1 k
theorem dX11_note_62 : decode cX11_note 62 = .ok (.aload_n 0, 1) := by decide +kernel
theorem X11_note_62 {Q : Int → z_M → Prop} {a1 a2 : z_V} {x : Nat} {st : List z_V} {I : z_M} (k : JX11_note Q 63 [aR x, a1, a2] (aR x :: st) I) : JX11_note Q 62 [aR x, a1, a2] st I := g_aload_n (i := 0) (x := x) dX11_note_62 rfl rfl k
theorem dX11_note_63 : decode cX11_note 63 = .ok (.getfield 7, 3) := by decide +kernel
theorem X11_note_63 {Q : Int → z_M → Prop} {a0 a1 a2 : z_V}  {st : List z_V} {I : z_M}  (k : JX11_note Q 66 [a0, a1, a2] (aR (61) :: st) I) : JX11_note Q 63 [a0, a1, a2] (aR 60 :: st) I := g_getr (ci := 11) (j := 0) (N := 23) (T := TX11) dX11_note_63 rfl rfl (by decide) (z_nc11 rfl) inlX11 (by decide) m_5_1 rfl rfl k
theorem dX11_note_66 : decode cX11_note 66 = .ok (.bipush 62, 2) := by decide +kernel
theorem X11_note_66 {Q : Int → z_M → Prop} {a0 a1 a2 : z_V} {st : List z_V} {I : z_M} (k : JX11_note Q 68 [a0, a1, a2] (aI 62 :: st) I) : JX11_note Q 66 [a0, a1, a2] st I := g_bipush (n := 62) dX11_note_66 (by decide +kernel) (by decide) k
theorem dX11_note_68 : decode cX11_note 68 = .ok (.bipush 9, 2) := by decide +kernel
theorem X11_note_68 {Q : Int → z_M → Prop} {a0 a1 a2 : z_V} {st : List z_V} {I : z_M} (k : JX11_note Q 70 [a0, a1, a2] (aI 9 :: st) I) : JX11_note Q 68 [a0, a1, a2] st I := g_bipush (n := 9) dX11_note_68 (by decide +kernel) (by decide) k
theorem dX11_note_70 : decode cX11_note 70 = .ok (.iload_n 1, 1) := by decide +kernel
theorem X11_note_70 {Q : Int → z_M → Prop} {a0 a2 : z_V} {x : Int} {st : List z_V} {I : z_M} (k : JX11_note Q 71 [a0, aI x, a2] (aI x :: st) I) : JX11_note Q 70 [a0, aI x, a2] st I := g_iload_n (i := 1) (x := x) dX11_note_70 rfl rfl k
theorem dX11_note_71 : decode cX11_note 71 = .ok (.imul, 1) := by decide +kernel
theorem X11_note_71 {Q : Int → z_M → Prop} {a0 a1 a2 : z_V} {x y : Int} {st : List z_V} {I : z_M} (hr : inI (x * y) := by omega) (k : JX11_note Q 72 [a0, a1, a2] (aI (x * y) :: st) I) : JX11_note Q 71 [a0, a1, a2] (aI y :: aI x :: st) I := g_imul dX11_note_71 hr k
theorem X11_note_71w {Q : Int → z_M → Prop} {a0 a1 a2 : z_V} {x y : Int} {st : List z_V} {I : z_M} (k : JX11_note Q 72 [a0, a1, a2] (aI (i32 (x * y)) :: st) I) : JX11_note Q 71 [a0, a1, a2] (aI y :: aI x :: st) I := g_imulw dX11_note_71 k
theorem dX11_note_72 : decode cX11_note 72 = .ok (.iadd, 1) := by decide +kernel
theorem X11_note_72 {Q : Int → z_M → Prop} {a0 a1 a2 : z_V} {x y : Int} {st : List z_V} {I : z_M} (hr : inI (x + y) := by omega) (k : JX11_note Q 73 [a0, a1, a2] (aI (x + y) :: st) I) : JX11_note Q 72 [a0, a1, a2] (aI y :: aI x :: st) I := g_iadd dX11_note_72 hr k
theorem X11_note_72w {Q : Int → z_M → Prop} {a0 a1 a2 : z_V} {x y : Int} {st : List z_V} {I : z_M} (k : JX11_note Q 73 [a0, a1, a2] (aI (i32 (x + y)) :: st) I) : JX11_note Q 72 [a0, a1, a2] (aI y :: aI x :: st) I := g_iaddw dX11_note_72 k
theorem dX11_note_73 : decode cX11_note 73 = .ok (.dup2, 1) := by decide +kernel
theorem X11_note_73 {Q : Int → z_M → Prop} {a0 a1 a2 : z_V} {x y : z_V} {st : List z_V} {I : z_M} (hx : ∀ z, x ≠ aL z := by intro z q; cases q) (hy : ∀ z, y ≠ aL z := by intro z q; cases q) (k : JX11_note Q 74 [a0, a1, a2] (x :: y :: x :: y :: st) I) : JX11_note Q 73 [a0, a1, a2] (x :: y :: st) I := g_dup2 dX11_note_73 hx hy k
theorem dX11_note_74 : decode cX11_note 74 = .ok (.iaload, 1) := by decide +kernel
theorem X11_note_74 {Q : Int → z_M → Prop} {a0 a1 a2 : z_V} {q : Nat} {i : Int} {st : List z_V} {I : z_M} (hk : z_cl q = 20 := by first | assumption | rfl) (h0 : 0 ≤ i := by omega) (h1 : i < z_n q := by first | omega | (simp only [zn_1, zn_9, zn_10, zn_11, zn_12, zn_13, zn_14, zn_15, zn_16, zn_18, zn_20, zn_21, zn_22, zn_23, zn_24, zn_25, zn_26, zn_27, zn_29, zn_30, zn_53, zn_55, zn_56, zn_58, zn_59, zn_61, zn_62, zn_63, zn_64, zn_65, zn_66, zn_67, zn_68, zn_69, zn_70, zn_71, zn_72, zn_73]; omega)) (k : JX11_note Q 75 [a0, a1, a2] (aI (I q i.toNat) :: st) I) : JX11_note Q 74 [a0, a1, a2] (aI i :: aR q :: st) I := g_iald dX11_note_74 hk h0 h1 k
theorem dX11_note_75 : decode cX11_note 75 = .ok (.iconst 1, 1) := by decide +kernel
theorem X11_note_75 {Q : Int → z_M → Prop} {a0 a1 a2 : z_V} {st : List z_V} {I : z_M} (k : JX11_note Q 76 [a0, a1, a2] (aI 1 :: st) I) : JX11_note Q 75 [a0, a1, a2] st I := g_iconst (n := 1) dX11_note_75 (by decide) k
theorem dX11_note_76 : decode cX11_note 76 = .ok (.iadd, 1) := by decide +kernel
theorem X11_note_76 {Q : Int → z_M → Prop} {a0 a1 a2 : z_V} {x y : Int} {st : List z_V} {I : z_M} (hr : inI (x + y) := by omega) (k : JX11_note Q 77 [a0, a1, a2] (aI (x + y) :: st) I) : JX11_note Q 76 [a0, a1, a2] (aI y :: aI x :: st) I := g_iadd dX11_note_76 hr k
theorem X11_note_76w {Q : Int → z_M → Prop} {a0 a1 a2 : z_V} {x y : Int} {st : List z_V} {I : z_M} (k : JX11_note Q 77 [a0, a1, a2] (aI (i32 (x + y)) :: st) I) : JX11_note Q 76 [a0, a1, a2] (aI y :: aI x :: st) I := g_iaddw dX11_note_76 k
theorem dX11_note_77 : decode cX11_note 77 = .ok (.iastore, 1) := by decide +kernel
theorem X11_note_77 {Q : Int → z_M → Prop} {a0 a1 a2 : z_V} {q : Nat} {i x : Int} {st : List z_V} {I : z_M} (hk : z_cl q = 20 := by first | assumption | rfl) (h0 : 0 ≤ i := by omega) (h1 : i < z_n q := by first | omega | (simp only [zn_1, zn_9, zn_10, zn_11, zn_12, zn_13, zn_14, zn_15, zn_16, zn_18, zn_20, zn_21, zn_22, zn_23, zn_24, zn_25, zn_26, zn_27, zn_29, zn_30, zn_53, zn_55, zn_56, zn_58, zn_59, zn_61, zn_62, zn_63, zn_64, zn_65, zn_66, zn_67, zn_68, zn_69, zn_70, zn_71, zn_72, zn_73]; omega))  (k : JX11_note Q 78 [a0, a1, a2] st (z_up I q i.toNat x)) : JX11_note Q 77 [a0, a1, a2] (aI x :: aI i :: aR q :: st) I := g_iast dX11_note_77 hk h0 h1 k
theorem dX11_note_78 : decode cX11_note 78 = .ok (.aload_n 0, 1) := by decide +kernel
theorem X11_note_78 {Q : Int → z_M → Prop} {a1 a2 : z_V} {x : Nat} {st : List z_V} {I : z_M} (k : JX11_note Q 79 [aR x, a1, a2] (aR x :: st) I) : JX11_note Q 78 [aR x, a1, a2] st I := g_aload_n (i := 0) (x := x) dX11_note_78 rfl rfl k
theorem dX11_note_79 : decode cX11_note 79 = .ok (.iload_n 1, 1) := by decide +kernel
theorem X11_note_79 {Q : Int → z_M → Prop} {a0 a2 : z_V} {x : Int} {st : List z_V} {I : z_M} (k : JX11_note Q 80 [a0, aI x, a2] (aI x :: st) I) : JX11_note Q 79 [a0, aI x, a2] st I := g_iload_n (i := 1) (x := x) dX11_note_79 rfl rfl k
theorem dX11_note_80 : decode cX11_note 80 = .ok (.invokevirtual 108, 3) := by decide +kernel
theorem X11_note_80 {Q : Int → z_M → Prop} {a0 a1 a2 : z_V}  {x0 : Int} {st : List z_V} {I : z_M}  (hst : z_sw st ≤ 8 := by exact Nat.le_of_ble_eq_true rfl) (k : CX11_notes (aR 60 :: [aI x0]) I (fun x9 I9 => JX11_note Q 83 [a0, a1, a2] (aI x9 :: st) I9)) : JX11_note Q 80 [a0, a1, a2] (aI x0 :: aR 60 :: st) I := g_callV (C := RX11) (ci := 11) (As := [aI x0]) (n := 1) dX11_note_80 ⟨m_10_23, pdX11_notes, ⟨by decide, by decide⟩, rfl, rfl, by decide, by decide⟩ m_10_20 m_10_21 m_10_22 m_1_5 rfl rfl (by decide) rfl rfl hst k (fun r I9 h => by obtain ⟨x9, rfl, h⟩ := h; exact h)
theorem dX11_note_83 : decode cX11_note 83 = .ok (.ireturn, 1) := by decide +kernel
theorem X11_note_83 {Q : Int → z_M → Prop} {a0 a1 a2 : z_V} {x : Int} {I : z_M} (hq : Q x I) : JX11_note Q 83 [a0, a1, a2] [aI x] I := g_ireturn dX11_note_83 ⟨x, rfl, hq⟩
theorem dX11_hush_0 : decode cX11_hush 0 = .ok (.iload_n 1, 1) := by decide +kernel
theorem X11_hush_0 {Q : Int → z_M → Prop} {a0 a2 : z_V} {x : Int} {st : List z_V} {I : z_M} (k : JX11_hush Q 1 [a0, aI x, a2] (aI x :: st) I) : JX11_hush Q 0 [a0, aI x, a2] st I := g_iload_n (i := 1) (x := x) dX11_hush_0 rfl rfl k
theorem dX11_hush_1 : decode cX11_hush 1 = .ok (.invokestatic 104, 3) := by decide +kernel
theorem X11_hush_1 {Q : Int → z_M → Prop} {a0 a1 a2 : z_V} {x0 : Int} {st : List z_V} {I : z_M} (hst : z_sw st ≤ 8 := by exact Nat.le_of_ble_eq_true rfl) (k : CX11_isHymn [aI x0] I (fun x9 I9 => JX11_hush Q 4 [a0, a1, a2] (aI x9 :: st) I9)) : JX11_hush Q 1 [a0, a1, a2] (aI x0 :: st) I := g_callS (As := [aI x0]) (n := 1) dX11_hush_1 ⟨m_10_18, pdX11_isHymn, ⟨by decide, by decide⟩, rfl, rfl, by decide, by decide⟩ m_10_16 m_10_17 m_1_5 rfl hst k (fun r I9 h => by obtain ⟨x9, rfl, h⟩ := h; exact h)
theorem dX11_hush_4 : decode cX11_hush 4 = .ok (.ifCond .ne 10, 3) := by decide +kernel
theorem X11_hush_4 {Q : Int → z_M → Prop} {a0 a1 a2 : z_V} {x : Int} {st : List z_V} {I : z_M} (kt : x ≠ 0 → JX11_hush Q 14 [a0, a1, a2] st I) (kf : x = 0 → JX11_hush Q 7 [a0, a1, a2] st I) : JX11_hush Q 4 [a0, a1, a2] (aI x :: st) I := g_if_ne dX11_hush_4 (by decide) kt kf
theorem dX11_hush_7 : decode cX11_hush 7 = .ok (.aload_n 0, 1) := by decide +kernel
theorem X11_hush_7 {Q : Int → z_M → Prop} {a1 a2 : z_V} {x : Nat} {st : List z_V} {I : z_M} (k : JX11_hush Q 8 [aR x, a1, a2] (aR x :: st) I) : JX11_hush Q 7 [aR x, a1, a2] st I := g_aload_n (i := 0) (x := x) dX11_hush_7 rfl rfl k
theorem dX11_hush_8 : decode cX11_hush 8 = .ok (.bipush (-2), 2) := by decide +kernel
theorem X11_hush_8 {Q : Int → z_M → Prop} {a0 a1 a2 : z_V} {st : List z_V} {I : z_M} (k : JX11_hush Q 10 [a0, a1, a2] (aI (-2) :: st) I) : JX11_hush Q 8 [a0, a1, a2] st I := g_bipush (n := (-2)) dX11_hush_8 (by decide +kernel) (by decide) k
theorem dX11_hush_10 : decode cX11_hush 10 = .ok (.invokevirtual 85, 3) := by decide +kernel
theorem X11_hush_10 {Q : Int → z_M → Prop} {a0 a1 a2 : z_V}  {x0 : Int} {st : List z_V} {I : z_M}  (hst : z_sw st ≤ 8 := by exact Nat.le_of_ble_eq_true rfl) (k : CX11_bad (aR 60 :: [aI x0]) I (fun x9 I9 => JX11_hush Q 13 [a0, a1, a2] (aI x9 :: st) I9)) : JX11_hush Q 10 [a0, a1, a2] (aI x0 :: aR 60 :: st) I := g_callV (C := RX11) (ci := 11) (As := [aI x0]) (n := 1) dX11_hush_10 ⟨m_8_15, pdX11_bad, ⟨by decide, by decide⟩, rfl, rfl, by decide, by decide⟩ m_8_12 m_8_13 m_8_14 m_1_5 rfl rfl (by decide) rfl rfl hst k (fun r I9 h => by obtain ⟨x9, rfl, h⟩ := h; exact h)
theorem dX11_hush_13 : decode cX11_hush 13 = .ok (.ireturn, 1) := by decide +kernel
theorem X11_hush_13 {Q : Int → z_M → Prop} {a0 a1 a2 : z_V} {x : Int} {I : z_M} (hq : Q x I) : JX11_hush Q 13 [a0, a1, a2] [aI x] I := g_ireturn dX11_hush_13 ⟨x, rfl, hq⟩
theorem dX11_hush_14 : decode cX11_hush 14 = .ok (.aload_n 0, 1) := by decide +kernel
theorem X11_hush_14 {Q : Int → z_M → Prop} {a1 a2 : z_V} {x : Nat} {st : List z_V} {I : z_M} (k : JX11_hush Q 15 [aR x, a1, a2] (aR x :: st) I) : JX11_hush Q 14 [aR x, a1, a2] st I := g_aload_n (i := 0) (x := x) dX11_hush_14 rfl rfl k
theorem dX11_hush_15 : decode cX11_hush 15 = .ok (.iload_n 1, 1) := by decide +kernel
theorem X11_hush_15 {Q : Int → z_M → Prop} {a0 a2 : z_V} {x : Int} {st : List z_V} {I : z_M} (k : JX11_hush Q 16 [a0, aI x, a2] (aI x :: st) I) : JX11_hush Q 15 [a0, aI x, a2] st I := g_iload_n (i := 1) (x := x) dX11_hush_15 rfl rfl k
theorem dX11_hush_16 : decode cX11_hush 16 = .ok (.invokevirtual 108, 3) := by decide +kernel
theorem X11_hush_16 {Q : Int → z_M → Prop} {a0 a1 a2 : z_V}  {x0 : Int} {st : List z_V} {I : z_M}  (hst : z_sw st ≤ 8 := by exact Nat.le_of_ble_eq_true rfl) (k : CX11_notes (aR 60 :: [aI x0]) I (fun x9 I9 => JX11_hush Q 19 [a0, a1, a2] (aI x9 :: st) I9)) : JX11_hush Q 16 [a0, a1, a2] (aI x0 :: aR 60 :: st) I := g_callV (C := RX11) (ci := 11) (As := [aI x0]) (n := 1) dX11_hush_16 ⟨m_10_23, pdX11_notes, ⟨by decide, by decide⟩, rfl, rfl, by decide, by decide⟩ m_10_20 m_10_21 m_10_22 m_1_5 rfl rfl (by decide) rfl rfl hst k (fun r I9 h => by obtain ⟨x9, rfl, h⟩ := h; exact h)
theorem dX11_hush_19 : decode cX11_hush 19 = .ok (.istore_n 2, 1) := by decide +kernel
theorem X11_hush_19 {Q : Int → z_M → Prop} {a0 a1 a2 : z_V} {x : Int} {st : List z_V} {I : z_M} (hb : z_nl [a0, a1, a2] 2 = true := by rfl) (k : JX11_hush Q 20 [a0, a1, aI x] st I) : JX11_hush Q 19 [a0, a1, a2] (aI x :: st) I := g_istore_n (i := 2) (x := x) dX11_hush_19 rfl (show 2 < 3 from by decide) hb k
theorem dX11_hush_20 : decode cX11_hush 20 = .ok (.aload_n 0, 1) := by decide +kernel
theorem X11_hush_20 {Q : Int → z_M → Prop} {a1 a2 : z_V} {x : Nat} {st : List z_V} {I : z_M} (k : JX11_hush Q 21 [aR x, a1, a2] (aR x :: st) I) : JX11_hush Q 20 [aR x, a1, a2] st I := g_aload_n (i := 0) (x := x) dX11_hush_20 rfl rfl k
theorem dX11_hush_21 : decode cX11_hush 21 = .ok (.getfield 7, 3) := by decide +kernel
theorem X11_hush_21 {Q : Int → z_M → Prop} {a0 a1 a2 : z_V}  {st : List z_V} {I : z_M}  (k : JX11_hush Q 24 [a0, a1, a2] (aR (61) :: st) I) : JX11_hush Q 21 [a0, a1, a2] (aR 60 :: st) I := g_getr (ci := 11) (j := 0) (N := 23) (T := TX11) dX11_hush_21 rfl rfl (by decide) (z_nc11 rfl) inlX11 (by decide) m_5_1 rfl rfl k
theorem dX11_hush_24 : decode cX11_hush 24 = .ok (.bipush 62, 2) := by decide +kernel
theorem X11_hush_24 {Q : Int → z_M → Prop} {a0 a1 a2 : z_V} {st : List z_V} {I : z_M} (k : JX11_hush Q 26 [a0, a1, a2] (aI 62 :: st) I) : JX11_hush Q 24 [a0, a1, a2] st I := g_bipush (n := 62) dX11_hush_24 (by decide +kernel) (by decide) k
theorem dX11_hush_26 : decode cX11_hush 26 = .ok (.bipush 9, 2) := by decide +kernel
theorem X11_hush_26 {Q : Int → z_M → Prop} {a0 a1 a2 : z_V} {st : List z_V} {I : z_M} (k : JX11_hush Q 28 [a0, a1, a2] (aI 9 :: st) I) : JX11_hush Q 26 [a0, a1, a2] st I := g_bipush (n := 9) dX11_hush_26 (by decide +kernel) (by decide) k
theorem dX11_hush_28 : decode cX11_hush 28 = .ok (.iload_n 1, 1) := by decide +kernel
theorem X11_hush_28 {Q : Int → z_M → Prop} {a0 a2 : z_V} {x : Int} {st : List z_V} {I : z_M} (k : JX11_hush Q 29 [a0, aI x, a2] (aI x :: st) I) : JX11_hush Q 28 [a0, aI x, a2] st I := g_iload_n (i := 1) (x := x) dX11_hush_28 rfl rfl k
theorem dX11_hush_29 : decode cX11_hush 29 = .ok (.imul, 1) := by decide +kernel
theorem X11_hush_29 {Q : Int → z_M → Prop} {a0 a1 a2 : z_V} {x y : Int} {st : List z_V} {I : z_M} (hr : inI (x * y) := by omega) (k : JX11_hush Q 30 [a0, a1, a2] (aI (x * y) :: st) I) : JX11_hush Q 29 [a0, a1, a2] (aI y :: aI x :: st) I := g_imul dX11_hush_29 hr k
theorem X11_hush_29w {Q : Int → z_M → Prop} {a0 a1 a2 : z_V} {x y : Int} {st : List z_V} {I : z_M} (k : JX11_hush Q 30 [a0, a1, a2] (aI (i32 (x * y)) :: st) I) : JX11_hush Q 29 [a0, a1, a2] (aI y :: aI x :: st) I := g_imulw dX11_hush_29 k
theorem dX11_hush_30 : decode cX11_hush 30 = .ok (.iadd, 1) := by decide +kernel
theorem X11_hush_30 {Q : Int → z_M → Prop} {a0 a1 a2 : z_V} {x y : Int} {st : List z_V} {I : z_M} (hr : inI (x + y) := by omega) (k : JX11_hush Q 31 [a0, a1, a2] (aI (x + y) :: st) I) : JX11_hush Q 30 [a0, a1, a2] (aI y :: aI x :: st) I := g_iadd dX11_hush_30 hr k
theorem X11_hush_30w {Q : Int → z_M → Prop} {a0 a1 a2 : z_V} {x y : Int} {st : List z_V} {I : z_M} (k : JX11_hush Q 31 [a0, a1, a2] (aI (i32 (x + y)) :: st) I) : JX11_hush Q 30 [a0, a1, a2] (aI y :: aI x :: st) I := g_iaddw dX11_hush_30 k
theorem dX11_hush_31 : decode cX11_hush 31 = .ok (.iconst 0, 1) := by decide +kernel
theorem X11_hush_31 {Q : Int → z_M → Prop} {a0 a1 a2 : z_V} {st : List z_V} {I : z_M} (k : JX11_hush Q 32 [a0, a1, a2] (aI 0 :: st) I) : JX11_hush Q 31 [a0, a1, a2] st I := g_iconst (n := 0) dX11_hush_31 (by decide) k
theorem dX11_hush_32 : decode cX11_hush 32 = .ok (.iastore, 1) := by decide +kernel
theorem X11_hush_32 {Q : Int → z_M → Prop} {a0 a1 a2 : z_V} {q : Nat} {i x : Int} {st : List z_V} {I : z_M} (hk : z_cl q = 20 := by first | assumption | rfl) (h0 : 0 ≤ i := by omega) (h1 : i < z_n q := by first | omega | (simp only [zn_1, zn_9, zn_10, zn_11, zn_12, zn_13, zn_14, zn_15, zn_16, zn_18, zn_20, zn_21, zn_22, zn_23, zn_24, zn_25, zn_26, zn_27, zn_29, zn_30, zn_53, zn_55, zn_56, zn_58, zn_59, zn_61, zn_62, zn_63, zn_64, zn_65, zn_66, zn_67, zn_68, zn_69, zn_70, zn_71, zn_72, zn_73]; omega))  (k : JX11_hush Q 33 [a0, a1, a2] st (z_up I q i.toNat x)) : JX11_hush Q 32 [a0, a1, a2] (aI x :: aI i :: aR q :: st) I := g_iast dX11_hush_32 hk h0 h1 k
theorem dX11_hush_33 : decode cX11_hush 33 = .ok (.iload_n 2, 1) := by decide +kernel
theorem X11_hush_33 {Q : Int → z_M → Prop} {a0 a1 : z_V} {x : Int} {st : List z_V} {I : z_M} (k : JX11_hush Q 34 [a0, a1, aI x] (aI x :: st) I) : JX11_hush Q 33 [a0, a1, aI x] st I := g_iload_n (i := 2) (x := x) dX11_hush_33 rfl rfl k
theorem dX11_hush_34 : decode cX11_hush 34 = .ok (.ireturn, 1) := by decide +kernel
theorem X11_hush_34 {Q : Int → z_M → Prop} {a0 a1 a2 : z_V} {x : Int} {I : z_M} (hq : Q x I) : JX11_hush Q 34 [a0, a1, a2] [aI x] I := g_ireturn dX11_hush_34 ⟨x, rfl, hq⟩
theorem dX11_layHand_0 : decode cX11_layHand 0 = .ok (.aload_n 0, 1) := by decide +kernel
theorem X11_layHand_0 {Q : z_M → Prop} {a1 : z_V} {x : Nat} {st : List z_V} {I : z_M} (k : JX11_layHand Q 1 [aR x, a1] (aR x :: st) I) : JX11_layHand Q 0 [aR x, a1] st I := g_aload_n (i := 0) (x := x) dX11_layHand_0 rfl rfl k
theorem dX11_layHand_1 : decode cX11_layHand 1 = .ok (.aload_n 0, 1) := by decide +kernel
theorem X11_layHand_1 {Q : z_M → Prop} {a1 : z_V} {x : Nat} {st : List z_V} {I : z_M} (k : JX11_layHand Q 2 [aR x, a1] (aR x :: st) I) : JX11_layHand Q 1 [aR x, a1] st I := g_aload_n (i := 0) (x := x) dX11_layHand_1 rfl rfl k
theorem dX11_layHand_2 : decode cX11_layHand 2 = .ok (.getfield 7, 3) := by decide +kernel
theorem X11_layHand_2 {Q : z_M → Prop} {a0 a1 : z_V}  {st : List z_V} {I : z_M}  (k : JX11_layHand Q 5 [a0, a1] (aR (61) :: st) I) : JX11_layHand Q 2 [a0, a1] (aR 60 :: st) I := g_getr (ci := 11) (j := 0) (N := 23) (T := TX11) dX11_layHand_2 rfl rfl (by decide) (z_nc11 rfl) inlX11 (by decide) m_5_1 rfl rfl k
theorem dX11_layHand_5 : decode cX11_layHand 5 = .ok (.iconst 2, 1) := by decide +kernel
theorem X11_layHand_5 {Q : z_M → Prop} {a0 a1 : z_V} {st : List z_V} {I : z_M} (k : JX11_layHand Q 6 [a0, a1] (aI 2 :: st) I) : JX11_layHand Q 5 [a0, a1] st I := g_iconst (n := 2) dX11_layHand_5 (by decide) k
theorem dX11_layHand_6 : decode cX11_layHand 6 = .ok (.iaload, 1) := by decide +kernel
theorem X11_layHand_6 {Q : z_M → Prop} {a0 a1 : z_V} {q : Nat} {i : Int} {st : List z_V} {I : z_M} (hk : z_cl q = 20 := by first | assumption | rfl) (h0 : 0 ≤ i := by omega) (h1 : i < z_n q := by first | omega | (simp only [zn_1, zn_9, zn_10, zn_11, zn_12, zn_13, zn_14, zn_15, zn_16, zn_18, zn_20, zn_21, zn_22, zn_23, zn_24, zn_25, zn_26, zn_27, zn_29, zn_30, zn_53, zn_55, zn_56, zn_58, zn_59, zn_61, zn_62, zn_63, zn_64, zn_65, zn_66, zn_67, zn_68, zn_69, zn_70, zn_71, zn_72, zn_73]; omega)) (k : JX11_layHand Q 7 [a0, a1] (aI (I q i.toNat) :: st) I) : JX11_layHand Q 6 [a0, a1] (aI i :: aR q :: st) I := g_iald dX11_layHand_6 hk h0 h1 k
theorem dX11_layHand_7 : decode cX11_layHand 7 = .ok (.putfield 111, 3) := by decide +kernel
theorem X11_layHand_7 {Q : z_M → Prop} {a0 a1 : z_V}  {x : Int} {st : List z_V} {I : z_M}  (k : JX11_layHand Q 10 [a0, a1] st (z_up I 60 6 x)) : JX11_layHand Q 7 [a0, a1] (aI x :: aR 60 :: st) I := g_puti (ci := 11) (j := 6) (N := 23) (T := TX11) dX11_layHand_7 rfl rfl (by decide) (z_nc11 rfl) inlX11 tyX11_ok nmX11 (by decide) m_24_5 rfl (tyX11_ok 6 (by decide)) rfl k
theorem dX11_layHand_10 : decode cX11_layHand 10 = .ok (.iconst 0, 1) := by decide +kernel
theorem X11_layHand_10 {Q : z_M → Prop} {a0 a1 : z_V} {st : List z_V} {I : z_M} (k : JX11_layHand Q 11 [a0, a1] (aI 0 :: st) I) : JX11_layHand Q 10 [a0, a1] st I := g_iconst (n := 0) dX11_layHand_10 (by decide) k
theorem dX11_layHand_11 : decode cX11_layHand 11 = .ok (.istore_n 1, 1) := by decide +kernel
theorem X11_layHand_11 {Q : z_M → Prop} {a0 a1 : z_V} {x : Int} {st : List z_V} {I : z_M} (hb : z_nl [a0, a1] 1 = true := by rfl) (k : JX11_layHand Q 12 [a0, aI x] st I) : JX11_layHand Q 11 [a0, a1] (aI x :: st) I := g_istore_n (i := 1) (x := x) dX11_layHand_11 rfl (show 1 < 2 from by decide) hb k
theorem dX11_layHand_12 : decode cX11_layHand 12 = .ok (.iload_n 1, 1) := by decide +kernel
theorem X11_layHand_12 {Q : z_M → Prop} {a0 : z_V} {x : Int} {st : List z_V} {I : z_M} (k : JX11_layHand Q 13 [a0, aI x] (aI x :: st) I) : JX11_layHand Q 12 [a0, aI x] st I := g_iload_n (i := 1) (x := x) dX11_layHand_12 rfl rfl k
theorem dX11_layHand_13 : decode cX11_layHand 13 = .ok (.aload_n 0, 1) := by decide +kernel
theorem X11_layHand_13 {Q : z_M → Prop} {a1 : z_V} {x : Nat} {st : List z_V} {I : z_M} (k : JX11_layHand Q 14 [aR x, a1] (aR x :: st) I) : JX11_layHand Q 13 [aR x, a1] st I := g_aload_n (i := 0) (x := x) dX11_layHand_13 rfl rfl k
theorem dX11_layHand_14 : decode cX11_layHand 14 = .ok (.invokevirtual 54, 3) := by decide +kernel
theorem X11_layHand_14 {Q : z_M → Prop} {a0 a1 : z_V}   {st : List z_V} {I : z_M}  (hst : z_sw st ≤ 8 := by exact Nat.le_of_ble_eq_true rfl) (k : CX11_pipes (aR 60 :: []) I (fun x9 I9 => JX11_layHand Q 17 [a0, a1] (aI x9 :: st) I9)) : JX11_layHand Q 14 [a0, a1] (aR 60 :: st) I := g_callV (C := RX11) (ci := 11) (As := []) (n := 0) dX11_layHand_14 ⟨m_6_21, pdX11_pipes, ⟨by decide, by decide⟩, rfl, rfl, by decide, by decide⟩ m_6_18 m_6_19 m_6_20 m_1_5 rfl rfl (by decide) rfl rfl hst k (fun r I9 h => by obtain ⟨x9, rfl, h⟩ := h; exact h)
theorem dX11_layHand_17 : decode cX11_layHand 17 = .ok (.if_icmp .ge 45, 3) := by decide +kernel
theorem X11_layHand_17 {Q : z_M → Prop} {a0 a1 : z_V} {x y : Int} {st : List z_V} {I : z_M} (kt : y ≤ x → JX11_layHand Q 62 [a0, a1] st I) (kf : x < y → JX11_layHand Q 20 [a0, a1] st I) : JX11_layHand Q 17 [a0, a1] (aI y :: aI x :: st) I := g_icmp_ge dX11_layHand_17 (by decide) kt kf
theorem dX11_layHand_20 : decode cX11_layHand 20 = .ok (.aload_n 0, 1) := by decide +kernel
theorem X11_layHand_20 {Q : z_M → Prop} {a1 : z_V} {x : Nat} {st : List z_V} {I : z_M} (k : JX11_layHand Q 21 [aR x, a1] (aR x :: st) I) : JX11_layHand Q 20 [aR x, a1] st I := g_aload_n (i := 0) (x := x) dX11_layHand_20 rfl rfl k
theorem dX11_layHand_21 : decode cX11_layHand 21 = .ok (.getfield 27, 3) := by decide +kernel
theorem X11_layHand_21 {Q : z_M → Prop} {a0 a1 : z_V}  {st : List z_V} {I : z_M}  (k : JX11_layHand Q 24 [a0, a1] (aR (65) :: st) I) : JX11_layHand Q 21 [a0, a1] (aR 60 :: st) I := g_getr (ci := 11) (j := 7) (N := 23) (T := TX11) dX11_layHand_21 rfl rfl (by decide) (z_nc11 rfl) inlX11 (by decide) m_5_6 rfl rfl k
theorem dX11_layHand_24 : decode cX11_layHand 24 = .ok (.iload_n 1, 1) := by decide +kernel
theorem X11_layHand_24 {Q : z_M → Prop} {a0 : z_V} {x : Int} {st : List z_V} {I : z_M} (k : JX11_layHand Q 25 [a0, aI x] (aI x :: st) I) : JX11_layHand Q 24 [a0, aI x] st I := g_iload_n (i := 1) (x := x) dX11_layHand_24 rfl rfl k
theorem dX11_layHand_25 : decode cX11_layHand 25 = .ok (.aload_n 0, 1) := by decide +kernel
theorem X11_layHand_25 {Q : z_M → Prop} {a1 : z_V} {x : Nat} {st : List z_V} {I : z_M} (k : JX11_layHand Q 26 [aR x, a1] (aR x :: st) I) : JX11_layHand Q 25 [aR x, a1] st I := g_aload_n (i := 0) (x := x) dX11_layHand_25 rfl rfl k
theorem dX11_layHand_26 : decode cX11_layHand 26 = .ok (.iload_n 1, 1) := by decide +kernel
theorem X11_layHand_26 {Q : z_M → Prop} {a0 : z_V} {x : Int} {st : List z_V} {I : z_M} (k : JX11_layHand Q 27 [a0, aI x] (aI x :: st) I) : JX11_layHand Q 26 [a0, aI x] st I := g_iload_n (i := 1) (x := x) dX11_layHand_26 rfl rfl k
theorem dX11_layHand_27 : decode cX11_layHand 27 = .ok (.iconst 0, 1) := by decide +kernel
theorem X11_layHand_27 {Q : z_M → Prop} {a0 a1 : z_V} {st : List z_V} {I : z_M} (k : JX11_layHand Q 28 [a0, a1] (aI 0 :: st) I) : JX11_layHand Q 27 [a0, a1] st I := g_iconst (n := 0) dX11_layHand_27 (by decide) k
theorem dX11_layHand_28 : decode cX11_layHand 28 = .ok (.invokevirtual 115, 3) := by decide +kernel
theorem X11_layHand_28 {Q : z_M → Prop} {a0 a1 : z_V}  {x0 : Int} {x1 : Int} {st : List z_V} {I : z_M}  (hst : z_sw st ≤ 8 := by exact Nat.le_of_ble_eq_true rfl) (k : CX11_pipeHas (aR 60 :: [aI x0, aI x1]) I (fun x9 I9 => JX11_layHand Q 31 [a0, a1] (aI x9 :: st) I9)) : JX11_layHand Q 28 [a0, a1] (aI x1 :: aI x0 :: aR 60 :: st) I := g_callV (C := RX11) (ci := 11) (As := [aI x0, aI x1]) (n := 2) dX11_layHand_28 ⟨m_24_0, pdX11_pipeHas, ⟨by decide, by decide⟩, rfl, rfl, by decide, by decide⟩ m_23_21 m_23_22 m_23_23 m_1_5 rfl rfl (by decide) rfl rfl hst k (fun r I9 h => by obtain ⟨x9, rfl, h⟩ := h; exact h)
theorem dX11_layHand_31 : decode cX11_layHand 31 = .ok (.iastore, 1) := by decide +kernel
theorem X11_layHand_31 {Q : z_M → Prop} {a0 a1 : z_V} {q : Nat} {i x : Int} {st : List z_V} {I : z_M} (hk : z_cl q = 20 := by first | assumption | rfl) (h0 : 0 ≤ i := by omega) (h1 : i < z_n q := by first | omega | (simp only [zn_1, zn_9, zn_10, zn_11, zn_12, zn_13, zn_14, zn_15, zn_16, zn_18, zn_20, zn_21, zn_22, zn_23, zn_24, zn_25, zn_26, zn_27, zn_29, zn_30, zn_53, zn_55, zn_56, zn_58, zn_59, zn_61, zn_62, zn_63, zn_64, zn_65, zn_66, zn_67, zn_68, zn_69, zn_70, zn_71, zn_72, zn_73]; omega))  (k : JX11_layHand Q 32 [a0, a1] st (z_up I q i.toNat x)) : JX11_layHand Q 31 [a0, a1] (aI x :: aI i :: aR q :: st) I := g_iast dX11_layHand_31 hk h0 h1 k
theorem dX11_layHand_32 : decode cX11_layHand 32 = .ok (.aload_n 0, 1) := by decide +kernel
theorem X11_layHand_32 {Q : z_M → Prop} {a1 : z_V} {x : Nat} {st : List z_V} {I : z_M} (k : JX11_layHand Q 33 [aR x, a1] (aR x :: st) I) : JX11_layHand Q 32 [aR x, a1] st I := g_aload_n (i := 0) (x := x) dX11_layHand_32 rfl rfl k
theorem dX11_layHand_33 : decode cX11_layHand 33 = .ok (.getfield 30, 3) := by decide +kernel
theorem X11_layHand_33 {Q : z_M → Prop} {a0 a1 : z_V}  {st : List z_V} {I : z_M}  (k : JX11_layHand Q 36 [a0, a1] (aR (66) :: st) I) : JX11_layHand Q 33 [a0, a1] (aR 60 :: st) I := g_getr (ci := 11) (j := 8) (N := 23) (T := TX11) dX11_layHand_33 rfl rfl (by decide) (z_nc11 rfl) inlX11 (by decide) m_5_7 rfl rfl k
theorem dX11_layHand_36 : decode cX11_layHand 36 = .ok (.iload_n 1, 1) := by decide +kernel
theorem X11_layHand_36 {Q : z_M → Prop} {a0 : z_V} {x : Int} {st : List z_V} {I : z_M} (k : JX11_layHand Q 37 [a0, aI x] (aI x :: st) I) : JX11_layHand Q 36 [a0, aI x] st I := g_iload_n (i := 1) (x := x) dX11_layHand_36 rfl rfl k
theorem dX11_layHand_37 : decode cX11_layHand 37 = .ok (.aload_n 0, 1) := by decide +kernel
theorem X11_layHand_37 {Q : z_M → Prop} {a1 : z_V} {x : Nat} {st : List z_V} {I : z_M} (k : JX11_layHand Q 38 [aR x, a1] (aR x :: st) I) : JX11_layHand Q 37 [aR x, a1] st I := g_aload_n (i := 0) (x := x) dX11_layHand_37 rfl rfl k
theorem dX11_layHand_38 : decode cX11_layHand 38 = .ok (.iload_n 1, 1) := by decide +kernel
theorem X11_layHand_38 {Q : z_M → Prop} {a0 : z_V} {x : Int} {st : List z_V} {I : z_M} (k : JX11_layHand Q 39 [a0, aI x] (aI x :: st) I) : JX11_layHand Q 38 [a0, aI x] st I := g_iload_n (i := 1) (x := x) dX11_layHand_38 rfl rfl k
theorem dX11_layHand_39 : decode cX11_layHand 39 = .ok (.iconst 2, 1) := by decide +kernel
theorem X11_layHand_39 {Q : z_M → Prop} {a0 a1 : z_V} {st : List z_V} {I : z_M} (k : JX11_layHand Q 40 [a0, a1] (aI 2 :: st) I) : JX11_layHand Q 39 [a0, a1] st I := g_iconst (n := 2) dX11_layHand_39 (by decide) k
theorem dX11_layHand_40 : decode cX11_layHand 40 = .ok (.invokevirtual 115, 3) := by decide +kernel
theorem X11_layHand_40 {Q : z_M → Prop} {a0 a1 : z_V}  {x0 : Int} {x1 : Int} {st : List z_V} {I : z_M}  (hst : z_sw st ≤ 8 := by exact Nat.le_of_ble_eq_true rfl) (k : CX11_pipeHas (aR 60 :: [aI x0, aI x1]) I (fun x9 I9 => JX11_layHand Q 43 [a0, a1] (aI x9 :: st) I9)) : JX11_layHand Q 40 [a0, a1] (aI x1 :: aI x0 :: aR 60 :: st) I := g_callV (C := RX11) (ci := 11) (As := [aI x0, aI x1]) (n := 2) dX11_layHand_40 ⟨m_24_0, pdX11_pipeHas, ⟨by decide, by decide⟩, rfl, rfl, by decide, by decide⟩ m_23_21 m_23_22 m_23_23 m_1_5 rfl rfl (by decide) rfl rfl hst k (fun r I9 h => by obtain ⟨x9, rfl, h⟩ := h; exact h)
theorem dX11_layHand_43 : decode cX11_layHand 43 = .ok (.iastore, 1) := by decide +kernel
theorem X11_layHand_43 {Q : z_M → Prop} {a0 a1 : z_V} {q : Nat} {i x : Int} {st : List z_V} {I : z_M} (hk : z_cl q = 20 := by first | assumption | rfl) (h0 : 0 ≤ i := by omega) (h1 : i < z_n q := by first | omega | (simp only [zn_1, zn_9, zn_10, zn_11, zn_12, zn_13, zn_14, zn_15, zn_16, zn_18, zn_20, zn_21, zn_22, zn_23, zn_24, zn_25, zn_26, zn_27, zn_29, zn_30, zn_53, zn_55, zn_56, zn_58, zn_59, zn_61, zn_62, zn_63, zn_64, zn_65, zn_66, zn_67, zn_68, zn_69, zn_70, zn_71, zn_72, zn_73]; omega))  (k : JX11_layHand Q 44 [a0, a1] st (z_up I q i.toNat x)) : JX11_layHand Q 43 [a0, a1] (aI x :: aI i :: aR q :: st) I := g_iast dX11_layHand_43 hk h0 h1 k
theorem dX11_layHand_44 : decode cX11_layHand 44 = .ok (.aload_n 0, 1) := by decide +kernel
theorem X11_layHand_44 {Q : z_M → Prop} {a1 : z_V} {x : Nat} {st : List z_V} {I : z_M} (k : JX11_layHand Q 45 [aR x, a1] (aR x :: st) I) : JX11_layHand Q 44 [aR x, a1] st I := g_aload_n (i := 0) (x := x) dX11_layHand_44 rfl rfl k
theorem dX11_layHand_45 : decode cX11_layHand 45 = .ok (.getfield 33, 3) := by decide +kernel
theorem X11_layHand_45 {Q : z_M → Prop} {a0 a1 : z_V}  {st : List z_V} {I : z_M}  (k : JX11_layHand Q 48 [a0, a1] (aR (67) :: st) I) : JX11_layHand Q 45 [a0, a1] (aR 60 :: st) I := g_getr (ci := 11) (j := 9) (N := 23) (T := TX11) dX11_layHand_45 rfl rfl (by decide) (z_nc11 rfl) inlX11 (by decide) m_5_8 rfl rfl k
theorem dX11_layHand_48 : decode cX11_layHand 48 = .ok (.iload_n 1, 1) := by decide +kernel
theorem X11_layHand_48 {Q : z_M → Prop} {a0 : z_V} {x : Int} {st : List z_V} {I : z_M} (k : JX11_layHand Q 49 [a0, aI x] (aI x :: st) I) : JX11_layHand Q 48 [a0, aI x] st I := g_iload_n (i := 1) (x := x) dX11_layHand_48 rfl rfl k
theorem dX11_layHand_49 : decode cX11_layHand 49 = .ok (.aload_n 0, 1) := by decide +kernel
theorem X11_layHand_49 {Q : z_M → Prop} {a1 : z_V} {x : Nat} {st : List z_V} {I : z_M} (k : JX11_layHand Q 50 [aR x, a1] (aR x :: st) I) : JX11_layHand Q 49 [aR x, a1] st I := g_aload_n (i := 0) (x := x) dX11_layHand_49 rfl rfl k
theorem dX11_layHand_50 : decode cX11_layHand 50 = .ok (.iload_n 1, 1) := by decide +kernel
theorem X11_layHand_50 {Q : z_M → Prop} {a0 : z_V} {x : Int} {st : List z_V} {I : z_M} (k : JX11_layHand Q 51 [a0, aI x] (aI x :: st) I) : JX11_layHand Q 50 [a0, aI x] st I := g_iload_n (i := 1) (x := x) dX11_layHand_50 rfl rfl k
theorem dX11_layHand_51 : decode cX11_layHand 51 = .ok (.iconst 3, 1) := by decide +kernel
theorem X11_layHand_51 {Q : z_M → Prop} {a0 a1 : z_V} {st : List z_V} {I : z_M} (k : JX11_layHand Q 52 [a0, a1] (aI 3 :: st) I) : JX11_layHand Q 51 [a0, a1] st I := g_iconst (n := 3) dX11_layHand_51 (by decide) k
theorem dX11_layHand_52 : decode cX11_layHand 52 = .ok (.invokevirtual 115, 3) := by decide +kernel
theorem X11_layHand_52 {Q : z_M → Prop} {a0 a1 : z_V}  {x0 : Int} {x1 : Int} {st : List z_V} {I : z_M}  (hst : z_sw st ≤ 8 := by exact Nat.le_of_ble_eq_true rfl) (k : CX11_pipeHas (aR 60 :: [aI x0, aI x1]) I (fun x9 I9 => JX11_layHand Q 55 [a0, a1] (aI x9 :: st) I9)) : JX11_layHand Q 52 [a0, a1] (aI x1 :: aI x0 :: aR 60 :: st) I := g_callV (C := RX11) (ci := 11) (As := [aI x0, aI x1]) (n := 2) dX11_layHand_52 ⟨m_24_0, pdX11_pipeHas, ⟨by decide, by decide⟩, rfl, rfl, by decide, by decide⟩ m_23_21 m_23_22 m_23_23 m_1_5 rfl rfl (by decide) rfl rfl hst k (fun r I9 h => by obtain ⟨x9, rfl, h⟩ := h; exact h)
theorem dX11_layHand_55 : decode cX11_layHand 55 = .ok (.iastore, 1) := by decide +kernel
theorem X11_layHand_55 {Q : z_M → Prop} {a0 a1 : z_V} {q : Nat} {i x : Int} {st : List z_V} {I : z_M} (hk : z_cl q = 20 := by first | assumption | rfl) (h0 : 0 ≤ i := by omega) (h1 : i < z_n q := by first | omega | (simp only [zn_1, zn_9, zn_10, zn_11, zn_12, zn_13, zn_14, zn_15, zn_16, zn_18, zn_20, zn_21, zn_22, zn_23, zn_24, zn_25, zn_26, zn_27, zn_29, zn_30, zn_53, zn_55, zn_56, zn_58, zn_59, zn_61, zn_62, zn_63, zn_64, zn_65, zn_66, zn_67, zn_68, zn_69, zn_70, zn_71, zn_72, zn_73]; omega))  (k : JX11_layHand Q 56 [a0, a1] st (z_up I q i.toNat x)) : JX11_layHand Q 55 [a0, a1] (aI x :: aI i :: aR q :: st) I := g_iast dX11_layHand_55 hk h0 h1 k
theorem dX11_layHand_56 : decode cX11_layHand 56 = .ok (.iinc 1 1, 3) := by decide +kernel
theorem X11_layHand_56 {Q : z_M → Prop} {a0 : z_V} {x : Int} {st : List z_V} {I : z_M} (hb : z_nl [a0, aI x] 1 = true := by rfl) (hr : inI (x + 1) := by omega) (k : JX11_layHand Q 59 [a0, aI (x + 1)] st I) : JX11_layHand Q 56 [a0, aI x] st I := g_iinc (i := 1) (x := x) dX11_layHand_56 rfl (show 1 < 2 from by decide) hb hr k
theorem dX11_layHand_59 : decode cX11_layHand 59 = .ok (.goto (-47), 3) := by decide +kernel
theorem X11_layHand_59 {Q : z_M → Prop} {a0 a1 : z_V} {st : List z_V} {I : z_M} (k : JX11_layHand Q 12 [a0, a1] st I) : JX11_layHand Q 59 [a0, a1] st I := g_goto dX11_layHand_59 (by decide) k
theorem dX11_layHand_62 : decode cX11_layHand 62 = .ok (.iconst 0, 1) := by decide +kernel
theorem X11_layHand_62 {Q : z_M → Prop} {a0 a1 : z_V} {st : List z_V} {I : z_M} (k : JX11_layHand Q 63 [a0, a1] (aI 0 :: st) I) : JX11_layHand Q 62 [a0, a1] st I := g_iconst (n := 0) dX11_layHand_62 (by decide) k
theorem dX11_layHand_63 : decode cX11_layHand 63 = .ok (.istore_n 1, 1) := by decide +kernel
theorem X11_layHand_63 {Q : z_M → Prop} {a0 a1 : z_V} {x : Int} {st : List z_V} {I : z_M} (hb : z_nl [a0, a1] 1 = true := by rfl) (k : JX11_layHand Q 64 [a0, aI x] st I) : JX11_layHand Q 63 [a0, a1] (aI x :: st) I := g_istore_n (i := 1) (x := x) dX11_layHand_63 rfl (show 1 < 2 from by decide) hb k
theorem dX11_layHand_64 : decode cX11_layHand 64 = .ok (.iload_n 1, 1) := by decide +kernel
theorem X11_layHand_64 {Q : z_M → Prop} {a0 : z_V} {x : Int} {st : List z_V} {I : z_M} (k : JX11_layHand Q 65 [a0, aI x] (aI x :: st) I) : JX11_layHand Q 64 [a0, aI x] st I := g_iload_n (i := 1) (x := x) dX11_layHand_64 rfl rfl k
theorem dX11_layHand_65 : decode cX11_layHand 65 = .ok (.aload_n 0, 1) := by decide +kernel
theorem X11_layHand_65 {Q : z_M → Prop} {a1 : z_V} {x : Nat} {st : List z_V} {I : z_M} (k : JX11_layHand Q 66 [aR x, a1] (aR x :: st) I) : JX11_layHand Q 65 [aR x, a1] st I := g_aload_n (i := 0) (x := x) dX11_layHand_65 rfl rfl k
theorem dX11_layHand_66 : decode cX11_layHand 66 = .ok (.invokevirtual 62, 3) := by decide +kernel
theorem X11_layHand_66 {Q : z_M → Prop} {a0 a1 : z_V}   {st : List z_V} {I : z_M}  (hst : z_sw st ≤ 8 := by exact Nat.le_of_ble_eq_true rfl) (k : CX11_places (aR 60 :: []) I (fun x9 I9 => JX11_layHand Q 69 [a0, a1] (aI x9 :: st) I9)) : JX11_layHand Q 66 [a0, a1] (aR 60 :: st) I := g_callV (C := RX11) (ci := 11) (As := []) (n := 0) dX11_layHand_66 ⟨m_8_19, pdX11_places, ⟨by decide, by decide⟩, rfl, rfl, by decide, by decide⟩ m_8_16 m_8_17 m_8_18 m_1_5 rfl rfl (by decide) rfl rfl hst k (fun r I9 h => by obtain ⟨x9, rfl, h⟩ := h; exact h)
theorem dX11_layHand_69 : decode cX11_layHand 69 = .ok (.if_icmp .ge 21, 3) := by decide +kernel
theorem X11_layHand_69 {Q : z_M → Prop} {a0 a1 : z_V} {x y : Int} {st : List z_V} {I : z_M} (kt : y ≤ x → JX11_layHand Q 90 [a0, a1] st I) (kf : x < y → JX11_layHand Q 72 [a0, a1] st I) : JX11_layHand Q 69 [a0, a1] (aI y :: aI x :: st) I := g_icmp_ge dX11_layHand_69 (by decide) kt kf
theorem dX11_layHand_72 : decode cX11_layHand 72 = .ok (.aload_n 0, 1) := by decide +kernel
theorem X11_layHand_72 {Q : z_M → Prop} {a1 : z_V} {x : Nat} {st : List z_V} {I : z_M} (k : JX11_layHand Q 73 [aR x, a1] (aR x :: st) I) : JX11_layHand Q 72 [aR x, a1] st I := g_aload_n (i := 0) (x := x) dX11_layHand_72 rfl rfl k
theorem dX11_layHand_73 : decode cX11_layHand 73 = .ok (.getfield 36, 3) := by decide +kernel
theorem X11_layHand_73 {Q : z_M → Prop} {a0 a1 : z_V}  {st : List z_V} {I : z_M}  (k : JX11_layHand Q 76 [a0, a1] (aR (68) :: st) I) : JX11_layHand Q 73 [a0, a1] (aR 60 :: st) I := g_getr (ci := 11) (j := 10) (N := 23) (T := TX11) dX11_layHand_73 rfl rfl (by decide) (z_nc11 rfl) inlX11 (by decide) m_5_9 rfl rfl k
theorem dX11_layHand_76 : decode cX11_layHand 76 = .ok (.iload_n 1, 1) := by decide +kernel
theorem X11_layHand_76 {Q : z_M → Prop} {a0 : z_V} {x : Int} {st : List z_V} {I : z_M} (k : JX11_layHand Q 77 [a0, aI x] (aI x :: st) I) : JX11_layHand Q 76 [a0, aI x] st I := g_iload_n (i := 1) (x := x) dX11_layHand_76 rfl rfl k
theorem dX11_layHand_77 : decode cX11_layHand 77 = .ok (.aload_n 0, 1) := by decide +kernel
theorem X11_layHand_77 {Q : z_M → Prop} {a1 : z_V} {x : Nat} {st : List z_V} {I : z_M} (k : JX11_layHand Q 78 [aR x, a1] (aR x :: st) I) : JX11_layHand Q 77 [aR x, a1] st I := g_aload_n (i := 0) (x := x) dX11_layHand_77 rfl rfl k
theorem dX11_layHand_78 : decode cX11_layHand 78 = .ok (.iload_n 1, 1) := by decide +kernel
theorem X11_layHand_78 {Q : z_M → Prop} {a0 : z_V} {x : Int} {st : List z_V} {I : z_M} (k : JX11_layHand Q 79 [a0, aI x] (aI x :: st) I) : JX11_layHand Q 78 [a0, aI x] st I := g_iload_n (i := 1) (x := x) dX11_layHand_78 rfl rfl k
theorem dX11_layHand_79 : decode cX11_layHand 79 = .ok (.iconst 0, 1) := by decide +kernel
theorem X11_layHand_79 {Q : z_M → Prop} {a0 a1 : z_V} {st : List z_V} {I : z_M} (k : JX11_layHand Q 80 [a0, a1] (aI 0 :: st) I) : JX11_layHand Q 79 [a0, a1] st I := g_iconst (n := 0) dX11_layHand_79 (by decide) k
theorem dX11_layHand_80 : decode cX11_layHand 80 = .ok (.invokevirtual 119, 3) := by decide +kernel
theorem X11_layHand_80 {Q : z_M → Prop} {a0 a1 : z_V}  {x0 : Int} {x1 : Int} {st : List z_V} {I : z_M}  (hst : z_sw st ≤ 8 := by exact Nat.le_of_ble_eq_true rfl) (k : CX11_placeHas (aR 60 :: [aI x0, aI x1]) I (fun x9 I9 => JX11_layHand Q 83 [a0, a1] (aI x9 :: st) I9)) : JX11_layHand Q 80 [a0, a1] (aI x1 :: aI x0 :: aR 60 :: st) I := g_callV (C := RX11) (ci := 11) (As := [aI x0, aI x1]) (n := 2) dX11_layHand_80 ⟨m_24_9, pdX11_placeHas, ⟨by decide, by decide⟩, rfl, rfl, by decide, by decide⟩ m_24_6 m_24_7 m_24_8 m_1_5 rfl rfl (by decide) rfl rfl hst k (fun r I9 h => by obtain ⟨x9, rfl, h⟩ := h; exact h)
theorem dX11_layHand_83 : decode cX11_layHand 83 = .ok (.iastore, 1) := by decide +kernel
theorem X11_layHand_83 {Q : z_M → Prop} {a0 a1 : z_V} {q : Nat} {i x : Int} {st : List z_V} {I : z_M} (hk : z_cl q = 20 := by first | assumption | rfl) (h0 : 0 ≤ i := by omega) (h1 : i < z_n q := by first | omega | (simp only [zn_1, zn_9, zn_10, zn_11, zn_12, zn_13, zn_14, zn_15, zn_16, zn_18, zn_20, zn_21, zn_22, zn_23, zn_24, zn_25, zn_26, zn_27, zn_29, zn_30, zn_53, zn_55, zn_56, zn_58, zn_59, zn_61, zn_62, zn_63, zn_64, zn_65, zn_66, zn_67, zn_68, zn_69, zn_70, zn_71, zn_72, zn_73]; omega))  (k : JX11_layHand Q 84 [a0, a1] st (z_up I q i.toNat x)) : JX11_layHand Q 83 [a0, a1] (aI x :: aI i :: aR q :: st) I := g_iast dX11_layHand_83 hk h0 h1 k
theorem dX11_layHand_84 : decode cX11_layHand 84 = .ok (.iinc 1 1, 3) := by decide +kernel
theorem X11_layHand_84 {Q : z_M → Prop} {a0 : z_V} {x : Int} {st : List z_V} {I : z_M} (hb : z_nl [a0, aI x] 1 = true := by rfl) (hr : inI (x + 1) := by omega) (k : JX11_layHand Q 87 [a0, aI (x + 1)] st I) : JX11_layHand Q 84 [a0, aI x] st I := g_iinc (i := 1) (x := x) dX11_layHand_84 rfl (show 1 < 2 from by decide) hb hr k
theorem dX11_layHand_87 : decode cX11_layHand 87 = .ok (.goto (-23), 3) := by decide +kernel
theorem X11_layHand_87 {Q : z_M → Prop} {a0 a1 : z_V} {st : List z_V} {I : z_M} (k : JX11_layHand Q 64 [a0, a1] st I) : JX11_layHand Q 87 [a0, a1] st I := g_goto dX11_layHand_87 (by decide) k
theorem dX11_layHand_90 : decode cX11_layHand 90 = .ok (.return_, 1) := by decide +kernel
theorem X11_layHand_90 {Q : z_M → Prop} {a0 a1 : z_V} {I : z_M} (hq : Q I) : JX11_layHand Q 90 [a0, a1] [] I := g_return dX11_layHand_90 ⟨rfl, hq⟩
theorem dX11_isWished_0 : decode cX11_isWished 0 = .ok (.aload_n 0, 1) := by decide +kernel
theorem X11_isWished_0 {Q : Int → z_M → Prop} {a1 : z_V} {x : Nat} {st : List z_V} {I : z_M} (k : JX11_isWished Q 1 [aR x, a1] (aR x :: st) I) : JX11_isWished Q 0 [aR x, a1] st I := g_aload_n (i := 0) (x := x) dX11_isWished_0 rfl rfl k
theorem dX11_isWished_1 : decode cX11_isWished 1 = .ok (.getfield 111, 3) := by decide +kernel
theorem X11_isWished_1 {Q : Int → z_M → Prop} {a0 a1 : z_V}  {st : List z_V} {I : z_M}  (k : JX11_isWished Q 4 [a0, a1] (aI (I 60 6) :: st) I) : JX11_isWished Q 1 [a0, a1] (aR 60 :: st) I := g_geti (ci := 11) (j := 6) (N := 23) (T := TX11) dX11_isWished_1 rfl rfl (by decide) (z_nc11 rfl) inlX11 (by decide) m_24_5 rfl k
theorem dX11_isWished_4 : decode cX11_isWished 4 = .ok (.bipush 24, 2) := by decide +kernel
theorem X11_isWished_4 {Q : Int → z_M → Prop} {a0 a1 : z_V} {st : List z_V} {I : z_M} (k : JX11_isWished Q 6 [a0, a1] (aI 24 :: st) I) : JX11_isWished Q 4 [a0, a1] st I := g_bipush (n := 24) dX11_isWished_4 (by decide +kernel) (by decide) k
theorem dX11_isWished_6 : decode cX11_isWished 6 = .ok (.irem, 1) := by decide +kernel
theorem X11_isWished_6 {Q : Int → z_M → Prop} {a0 a1 : z_V} {x y : Int} {st : List z_V} {I : z_M} (hy : y ≠ 0 := by omega) (k : JX11_isWished Q 7 [a0, a1] (aI (x.tmod y) :: st) I) : JX11_isWished Q 6 [a0, a1] (aI y :: aI x :: st) I := g_irem dX11_isWished_6 hy k
theorem dX11_isWished_7 : decode cX11_isWished 7 = .ok (.bipush 24, 2) := by decide +kernel
theorem X11_isWished_7 {Q : Int → z_M → Prop} {a0 a1 : z_V} {st : List z_V} {I : z_M} (k : JX11_isWished Q 9 [a0, a1] (aI 24 :: st) I) : JX11_isWished Q 7 [a0, a1] st I := g_bipush (n := 24) dX11_isWished_7 (by decide +kernel) (by decide) k
theorem dX11_isWished_9 : decode cX11_isWished 9 = .ok (.iadd, 1) := by decide +kernel
theorem X11_isWished_9 {Q : Int → z_M → Prop} {a0 a1 : z_V} {x y : Int} {st : List z_V} {I : z_M} (hr : inI (x + y) := by omega) (k : JX11_isWished Q 10 [a0, a1] (aI (x + y) :: st) I) : JX11_isWished Q 9 [a0, a1] (aI y :: aI x :: st) I := g_iadd dX11_isWished_9 hr k
theorem X11_isWished_9w {Q : Int → z_M → Prop} {a0 a1 : z_V} {x y : Int} {st : List z_V} {I : z_M} (k : JX11_isWished Q 10 [a0, a1] (aI (i32 (x + y)) :: st) I) : JX11_isWished Q 9 [a0, a1] (aI y :: aI x :: st) I := g_iaddw dX11_isWished_9 k
theorem dX11_isWished_10 : decode cX11_isWished 10 = .ok (.aload_n 0, 1) := by decide +kernel
theorem X11_isWished_10 {Q : Int → z_M → Prop} {a1 : z_V} {x : Nat} {st : List z_V} {I : z_M} (k : JX11_isWished Q 11 [aR x, a1] (aR x :: st) I) : JX11_isWished Q 10 [aR x, a1] st I := g_aload_n (i := 0) (x := x) dX11_isWished_10 rfl rfl k
theorem dX11_isWished_11 : decode cX11_isWished 11 = .ok (.iload_n 1, 1) := by decide +kernel
theorem X11_isWished_11 {Q : Int → z_M → Prop} {a0 : z_V} {x : Int} {st : List z_V} {I : z_M} (k : JX11_isWished Q 12 [a0, aI x] (aI x :: st) I) : JX11_isWished Q 11 [a0, aI x] st I := g_iload_n (i := 1) (x := x) dX11_isWished_11 rfl rfl k
theorem dX11_isWished_12 : decode cX11_isWished 12 = .ok (.iconst 1, 1) := by decide +kernel
theorem X11_isWished_12 {Q : Int → z_M → Prop} {a0 a1 : z_V} {st : List z_V} {I : z_M} (k : JX11_isWished Q 13 [a0, a1] (aI 1 :: st) I) : JX11_isWished Q 12 [a0, a1] st I := g_iconst (n := 1) dX11_isWished_12 (by decide) k
theorem dX11_isWished_13 : decode cX11_isWished 13 = .ok (.invokevirtual 119, 3) := by decide +kernel
theorem X11_isWished_13 {Q : Int → z_M → Prop} {a0 a1 : z_V}  {x0 : Int} {x1 : Int} {st : List z_V} {I : z_M}  (hst : z_sw st ≤ 8 := by exact Nat.le_of_ble_eq_true rfl) (k : CX11_placeHas (aR 60 :: [aI x0, aI x1]) I (fun x9 I9 => JX11_isWished Q 16 [a0, a1] (aI x9 :: st) I9)) : JX11_isWished Q 13 [a0, a1] (aI x1 :: aI x0 :: aR 60 :: st) I := g_callV (C := RX11) (ci := 11) (As := [aI x0, aI x1]) (n := 2) dX11_isWished_13 ⟨m_24_9, pdX11_placeHas, ⟨by decide, by decide⟩, rfl, rfl, by decide, by decide⟩ m_24_6 m_24_7 m_24_8 m_1_5 rfl rfl (by decide) rfl rfl hst k (fun r I9 h => by obtain ⟨x9, rfl, h⟩ := h; exact h)
theorem dX11_isWished_16 : decode cX11_isWished 16 = .ok (.isub, 1) := by decide +kernel
theorem X11_isWished_16 {Q : Int → z_M → Prop} {a0 a1 : z_V} {x y : Int} {st : List z_V} {I : z_M} (hr : inI (x - y) := by omega) (k : JX11_isWished Q 17 [a0, a1] (aI (x - y) :: st) I) : JX11_isWished Q 16 [a0, a1] (aI y :: aI x :: st) I := g_isub dX11_isWished_16 hr k
theorem X11_isWished_16w {Q : Int → z_M → Prop} {a0 a1 : z_V} {x y : Int} {st : List z_V} {I : z_M} (k : JX11_isWished Q 17 [a0, a1] (aI (i32 (x - y)) :: st) I) : JX11_isWished Q 16 [a0, a1] (aI y :: aI x :: st) I := g_isubw dX11_isWished_16 k
theorem dX11_isWished_17 : decode cX11_isWished 17 = .ok (.bipush 24, 2) := by decide +kernel
theorem X11_isWished_17 {Q : Int → z_M → Prop} {a0 a1 : z_V} {st : List z_V} {I : z_M} (k : JX11_isWished Q 19 [a0, a1] (aI 24 :: st) I) : JX11_isWished Q 17 [a0, a1] st I := g_bipush (n := 24) dX11_isWished_17 (by decide +kernel) (by decide) k
theorem dX11_isWished_19 : decode cX11_isWished 19 = .ok (.irem, 1) := by decide +kernel
theorem X11_isWished_19 {Q : Int → z_M → Prop} {a0 a1 : z_V} {x y : Int} {st : List z_V} {I : z_M} (hy : y ≠ 0 := by omega) (k : JX11_isWished Q 20 [a0, a1] (aI (x.tmod y) :: st) I) : JX11_isWished Q 19 [a0, a1] (aI y :: aI x :: st) I := g_irem dX11_isWished_19 hy k
theorem dX11_isWished_20 : decode cX11_isWished 20 = .ok (.aload_n 0, 1) := by decide +kernel
theorem X11_isWished_20 {Q : Int → z_M → Prop} {a1 : z_V} {x : Nat} {st : List z_V} {I : z_M} (k : JX11_isWished Q 21 [aR x, a1] (aR x :: st) I) : JX11_isWished Q 20 [aR x, a1] st I := g_aload_n (i := 0) (x := x) dX11_isWished_20 rfl rfl k
theorem dX11_isWished_21 : decode cX11_isWished 21 = .ok (.iload_n 1, 1) := by decide +kernel
theorem X11_isWished_21 {Q : Int → z_M → Prop} {a0 : z_V} {x : Int} {st : List z_V} {I : z_M} (k : JX11_isWished Q 22 [a0, aI x] (aI x :: st) I) : JX11_isWished Q 21 [a0, aI x] st I := g_iload_n (i := 1) (x := x) dX11_isWished_21 rfl rfl k
theorem dX11_isWished_22 : decode cX11_isWished 22 = .ok (.iconst 2, 1) := by decide +kernel
theorem X11_isWished_22 {Q : Int → z_M → Prop} {a0 a1 : z_V} {st : List z_V} {I : z_M} (k : JX11_isWished Q 23 [a0, a1] (aI 2 :: st) I) : JX11_isWished Q 22 [a0, a1] st I := g_iconst (n := 2) dX11_isWished_22 (by decide) k
theorem dX11_isWished_23 : decode cX11_isWished 23 = .ok (.invokevirtual 119, 3) := by decide +kernel
theorem X11_isWished_23 {Q : Int → z_M → Prop} {a0 a1 : z_V}  {x0 : Int} {x1 : Int} {st : List z_V} {I : z_M}  (hst : z_sw st ≤ 8 := by exact Nat.le_of_ble_eq_true rfl) (k : CX11_placeHas (aR 60 :: [aI x0, aI x1]) I (fun x9 I9 => JX11_isWished Q 26 [a0, a1] (aI x9 :: st) I9)) : JX11_isWished Q 23 [a0, a1] (aI x1 :: aI x0 :: aR 60 :: st) I := g_callV (C := RX11) (ci := 11) (As := [aI x0, aI x1]) (n := 2) dX11_isWished_23 ⟨m_24_9, pdX11_placeHas, ⟨by decide, by decide⟩, rfl, rfl, by decide, by decide⟩ m_24_6 m_24_7 m_24_8 m_1_5 rfl rfl (by decide) rfl rfl hst k (fun r I9 h => by obtain ⟨x9, rfl, h⟩ := h; exact h)
theorem dX11_isWished_26 : decode cX11_isWished 26 = .ok (.if_icmp .ge 7, 3) := by decide +kernel
theorem X11_isWished_26 {Q : Int → z_M → Prop} {a0 a1 : z_V} {x y : Int} {st : List z_V} {I : z_M} (kt : y ≤ x → JX11_isWished Q 33 [a0, a1] st I) (kf : x < y → JX11_isWished Q 29 [a0, a1] st I) : JX11_isWished Q 26 [a0, a1] (aI y :: aI x :: st) I := g_icmp_ge dX11_isWished_26 (by decide) kt kf
theorem dX11_isWished_29 : decode cX11_isWished 29 = .ok (.iconst 1, 1) := by decide +kernel
theorem X11_isWished_29 {Q : Int → z_M → Prop} {a0 a1 : z_V} {st : List z_V} {I : z_M} (k : JX11_isWished Q 30 [a0, a1] (aI 1 :: st) I) : JX11_isWished Q 29 [a0, a1] st I := g_iconst (n := 1) dX11_isWished_29 (by decide) k
theorem dX11_isWished_30 : decode cX11_isWished 30 = .ok (.goto 4, 3) := by decide +kernel
theorem X11_isWished_30 {Q : Int → z_M → Prop} {a0 a1 : z_V} {st : List z_V} {I : z_M} (k : JX11_isWished Q 34 [a0, a1] st I) : JX11_isWished Q 30 [a0, a1] st I := g_goto dX11_isWished_30 (by decide) k
theorem dX11_isWished_33 : decode cX11_isWished 33 = .ok (.iconst 0, 1) := by decide +kernel
theorem X11_isWished_33 {Q : Int → z_M → Prop} {a0 a1 : z_V} {st : List z_V} {I : z_M} (k : JX11_isWished Q 34 [a0, a1] (aI 0 :: st) I) : JX11_isWished Q 33 [a0, a1] st I := g_iconst (n := 0) dX11_isWished_33 (by decide) k
theorem dX11_isWished_34 : decode cX11_isWished 34 = .ok (.ireturn, 1) := by decide +kernel
theorem X11_isWished_34 {Q : Int → z_M → Prop} {a0 a1 : z_V} {x : Int} {I : z_M} (hx : x = 0 ∨ x = 1 := by omega) (hq : Q x I) : JX11_isWished Q 34 [a0, a1] [aI x] I := g_zreturn dX11_isWished_34 hx ⟨x, rfl, hq⟩
theorem dX11_isNight_0 : decode cX11_isNight 0 = .ok (.aload_n 0, 1) := by decide +kernel
theorem X11_isNight_0 {Q : Int → z_M → Prop}  {x : Nat} {st : List z_V} {I : z_M} (k : JX11_isNight Q 1 [aR x] (aR x :: st) I) : JX11_isNight Q 0 [aR x] st I := g_aload_n (i := 0) (x := x) dX11_isNight_0 rfl rfl k
theorem dX11_isNight_1 : decode cX11_isNight 1 = .ok (.getfield 111, 3) := by decide +kernel
theorem X11_isNight_1 {Q : Int → z_M → Prop} {a0 : z_V}  {st : List z_V} {I : z_M}  (k : JX11_isNight Q 4 [a0] (aI (I 60 6) :: st) I) : JX11_isNight Q 1 [a0] (aR 60 :: st) I := g_geti (ci := 11) (j := 6) (N := 23) (T := TX11) dX11_isNight_1 rfl rfl (by decide) (z_nc11 rfl) inlX11 (by decide) m_24_5 rfl k
theorem dX11_isNight_4 : decode cX11_isNight 4 = .ok (.bipush 24, 2) := by decide +kernel
theorem X11_isNight_4 {Q : Int → z_M → Prop} {a0 : z_V} {st : List z_V} {I : z_M} (k : JX11_isNight Q 6 [a0] (aI 24 :: st) I) : JX11_isNight Q 4 [a0] st I := g_bipush (n := 24) dX11_isNight_4 (by decide +kernel) (by decide) k
theorem dX11_isNight_6 : decode cX11_isNight 6 = .ok (.irem, 1) := by decide +kernel
theorem X11_isNight_6 {Q : Int → z_M → Prop} {a0 : z_V} {x y : Int} {st : List z_V} {I : z_M} (hy : y ≠ 0 := by omega) (k : JX11_isNight Q 7 [a0] (aI (x.tmod y) :: st) I) : JX11_isNight Q 6 [a0] (aI y :: aI x :: st) I := g_irem dX11_isNight_6 hy k
theorem dX11_isNight_7 : decode cX11_isNight 7 = .ok (.bipush 6, 2) := by decide +kernel
theorem X11_isNight_7 {Q : Int → z_M → Prop} {a0 : z_V} {st : List z_V} {I : z_M} (k : JX11_isNight Q 9 [a0] (aI 6 :: st) I) : JX11_isNight Q 7 [a0] st I := g_bipush (n := 6) dX11_isNight_7 (by decide +kernel) (by decide) k
theorem dX11_isNight_9 : decode cX11_isNight 9 = .ok (.if_icmp .lt 15, 3) := by decide +kernel
theorem X11_isNight_9 {Q : Int → z_M → Prop} {a0 : z_V} {x y : Int} {st : List z_V} {I : z_M} (kt : x < y → JX11_isNight Q 24 [a0] st I) (kf : y ≤ x → JX11_isNight Q 12 [a0] st I) : JX11_isNight Q 9 [a0] (aI y :: aI x :: st) I := g_icmp_lt dX11_isNight_9 (by decide) kt kf
theorem dX11_isNight_12 : decode cX11_isNight 12 = .ok (.aload_n 0, 1) := by decide +kernel
theorem X11_isNight_12 {Q : Int → z_M → Prop}  {x : Nat} {st : List z_V} {I : z_M} (k : JX11_isNight Q 13 [aR x] (aR x :: st) I) : JX11_isNight Q 12 [aR x] st I := g_aload_n (i := 0) (x := x) dX11_isNight_12 rfl rfl k
theorem dX11_isNight_13 : decode cX11_isNight 13 = .ok (.getfield 111, 3) := by decide +kernel
theorem X11_isNight_13 {Q : Int → z_M → Prop} {a0 : z_V}  {st : List z_V} {I : z_M}  (k : JX11_isNight Q 16 [a0] (aI (I 60 6) :: st) I) : JX11_isNight Q 13 [a0] (aR 60 :: st) I := g_geti (ci := 11) (j := 6) (N := 23) (T := TX11) dX11_isNight_13 rfl rfl (by decide) (z_nc11 rfl) inlX11 (by decide) m_24_5 rfl k
theorem dX11_isNight_16 : decode cX11_isNight 16 = .ok (.bipush 24, 2) := by decide +kernel
theorem X11_isNight_16 {Q : Int → z_M → Prop} {a0 : z_V} {st : List z_V} {I : z_M} (k : JX11_isNight Q 18 [a0] (aI 24 :: st) I) : JX11_isNight Q 16 [a0] st I := g_bipush (n := 24) dX11_isNight_16 (by decide +kernel) (by decide) k
theorem dX11_isNight_18 : decode cX11_isNight 18 = .ok (.irem, 1) := by decide +kernel
theorem X11_isNight_18 {Q : Int → z_M → Prop} {a0 : z_V} {x y : Int} {st : List z_V} {I : z_M} (hy : y ≠ 0 := by omega) (k : JX11_isNight Q 19 [a0] (aI (x.tmod y) :: st) I) : JX11_isNight Q 18 [a0] (aI y :: aI x :: st) I := g_irem dX11_isNight_18 hy k
theorem dX11_isNight_19 : decode cX11_isNight 19 = .ok (.bipush 17, 2) := by decide +kernel
theorem X11_isNight_19 {Q : Int → z_M → Prop} {a0 : z_V} {st : List z_V} {I : z_M} (k : JX11_isNight Q 21 [a0] (aI 17 :: st) I) : JX11_isNight Q 19 [a0] st I := g_bipush (n := 17) dX11_isNight_19 (by decide +kernel) (by decide) k
theorem dX11_isNight_21 : decode cX11_isNight 21 = .ok (.if_icmp .le 7, 3) := by decide +kernel
theorem X11_isNight_21 {Q : Int → z_M → Prop} {a0 : z_V} {x y : Int} {st : List z_V} {I : z_M} (kt : x ≤ y → JX11_isNight Q 28 [a0] st I) (kf : y < x → JX11_isNight Q 24 [a0] st I) : JX11_isNight Q 21 [a0] (aI y :: aI x :: st) I := g_icmp_le dX11_isNight_21 (by decide) kt kf
theorem dX11_isNight_24 : decode cX11_isNight 24 = .ok (.iconst 1, 1) := by decide +kernel
theorem X11_isNight_24 {Q : Int → z_M → Prop} {a0 : z_V} {st : List z_V} {I : z_M} (k : JX11_isNight Q 25 [a0] (aI 1 :: st) I) : JX11_isNight Q 24 [a0] st I := g_iconst (n := 1) dX11_isNight_24 (by decide) k
theorem dX11_isNight_25 : decode cX11_isNight 25 = .ok (.goto 4, 3) := by decide +kernel
theorem X11_isNight_25 {Q : Int → z_M → Prop} {a0 : z_V} {st : List z_V} {I : z_M} (k : JX11_isNight Q 29 [a0] st I) : JX11_isNight Q 25 [a0] st I := g_goto dX11_isNight_25 (by decide) k
theorem dX11_isNight_28 : decode cX11_isNight 28 = .ok (.iconst 0, 1) := by decide +kernel
theorem X11_isNight_28 {Q : Int → z_M → Prop} {a0 : z_V} {st : List z_V} {I : z_M} (k : JX11_isNight Q 29 [a0] (aI 0 :: st) I) : JX11_isNight Q 28 [a0] st I := g_iconst (n := 0) dX11_isNight_28 (by decide) k
theorem dX11_isNight_29 : decode cX11_isNight 29 = .ok (.ireturn, 1) := by decide +kernel
theorem X11_isNight_29 {Q : Int → z_M → Prop} {a0 : z_V} {x : Int} {I : z_M} (hx : x = 0 ∨ x = 1 := by omega) (hq : Q x I) : JX11_isNight Q 29 [a0] [aI x] I := g_zreturn dX11_isNight_29 hx ⟨x, rfl, hq⟩
theorem dX11_isOtherAway_0 : decode cX11_isOtherAway 0 = .ok (.iconst 0, 1) := by decide +kernel
theorem X11_isOtherAway_0 {Q : Int → z_M → Prop} {a0 a1 a2 a3 : z_V} {st : List z_V} {I : z_M} (k : JX11_isOtherAway Q 1 [a0, a1, a2, a3] (aI 0 :: st) I) : JX11_isOtherAway Q 0 [a0, a1, a2, a3] st I := g_iconst (n := 0) dX11_isOtherAway_0 (by decide) k
theorem dX11_isOtherAway_1 : decode cX11_isOtherAway 1 = .ok (.istore_n 2, 1) := by decide +kernel
theorem X11_isOtherAway_1 {Q : Int → z_M → Prop} {a0 a1 a2 a3 : z_V} {x : Int} {st : List z_V} {I : z_M} (hb : z_nl [a0, a1, a2, a3] 2 = true := by rfl) (k : JX11_isOtherAway Q 2 [a0, a1, aI x, a3] st I) : JX11_isOtherAway Q 1 [a0, a1, a2, a3] (aI x :: st) I := g_istore_n (i := 2) (x := x) dX11_isOtherAway_1 rfl (show 2 < 4 from by decide) hb k
theorem dX11_isOtherAway_2 : decode cX11_isOtherAway 2 = .ok (.iconst 0, 1) := by decide +kernel
theorem X11_isOtherAway_2 {Q : Int → z_M → Prop} {a0 a1 a2 a3 : z_V} {st : List z_V} {I : z_M} (k : JX11_isOtherAway Q 3 [a0, a1, a2, a3] (aI 0 :: st) I) : JX11_isOtherAway Q 2 [a0, a1, a2, a3] st I := g_iconst (n := 0) dX11_isOtherAway_2 (by decide) k
theorem dX11_isOtherAway_3 : decode cX11_isOtherAway 3 = .ok (.istore_n 3, 1) := by decide +kernel
theorem X11_isOtherAway_3 {Q : Int → z_M → Prop} {a0 a1 a2 a3 : z_V} {x : Int} {st : List z_V} {I : z_M} (hb : z_nl [a0, a1, a2, a3] 3 = true := by rfl) (k : JX11_isOtherAway Q 4 [a0, a1, a2, aI x] st I) : JX11_isOtherAway Q 3 [a0, a1, a2, a3] (aI x :: st) I := g_istore_n (i := 3) (x := x) dX11_isOtherAway_3 rfl (show 3 < 4 from by decide) hb k
theorem dX11_isOtherAway_4 : decode cX11_isOtherAway 4 = .ok (.iload_n 3, 1) := by decide +kernel
theorem X11_isOtherAway_4 {Q : Int → z_M → Prop} {a0 a1 a2 : z_V} {x : Int} {st : List z_V} {I : z_M} (k : JX11_isOtherAway Q 5 [a0, a1, a2, aI x] (aI x :: st) I) : JX11_isOtherAway Q 4 [a0, a1, a2, aI x] st I := g_iload_n (i := 3) (x := x) dX11_isOtherAway_4 rfl rfl k
theorem dX11_isOtherAway_5 : decode cX11_isOtherAway 5 = .ok (.aload_n 0, 1) := by decide +kernel
theorem X11_isOtherAway_5 {Q : Int → z_M → Prop} {a1 a2 a3 : z_V} {x : Nat} {st : List z_V} {I : z_M} (k : JX11_isOtherAway Q 6 [aR x, a1, a2, a3] (aR x :: st) I) : JX11_isOtherAway Q 5 [aR x, a1, a2, a3] st I := g_aload_n (i := 0) (x := x) dX11_isOtherAway_5 rfl rfl k
theorem dX11_isOtherAway_6 : decode cX11_isOtherAway 6 = .ok (.invokevirtual 54, 3) := by decide +kernel
theorem X11_isOtherAway_6 {Q : Int → z_M → Prop} {a0 a1 a2 a3 : z_V}   {st : List z_V} {I : z_M}  (hst : z_sw st ≤ 8 := by exact Nat.le_of_ble_eq_true rfl) (k : CX11_pipes (aR 60 :: []) I (fun x9 I9 => JX11_isOtherAway Q 9 [a0, a1, a2, a3] (aI x9 :: st) I9)) : JX11_isOtherAway Q 6 [a0, a1, a2, a3] (aR 60 :: st) I := g_callV (C := RX11) (ci := 11) (As := []) (n := 0) dX11_isOtherAway_6 ⟨m_6_21, pdX11_pipes, ⟨by decide, by decide⟩, rfl, rfl, by decide, by decide⟩ m_6_18 m_6_19 m_6_20 m_1_5 rfl rfl (by decide) rfl rfl hst k (fun r I9 h => by obtain ⟨x9, rfl, h⟩ := h; exact h)
theorem dX11_isOtherAway_9 : decode cX11_isOtherAway 9 = .ok (.if_icmp .ge 34, 3) := by decide +kernel
theorem X11_isOtherAway_9 {Q : Int → z_M → Prop} {a0 a1 a2 a3 : z_V} {x y : Int} {st : List z_V} {I : z_M} (kt : y ≤ x → JX11_isOtherAway Q 43 [a0, a1, a2, a3] st I) (kf : x < y → JX11_isOtherAway Q 12 [a0, a1, a2, a3] st I) : JX11_isOtherAway Q 9 [a0, a1, a2, a3] (aI y :: aI x :: st) I := g_icmp_ge dX11_isOtherAway_9 (by decide) kt kf
theorem dX11_isOtherAway_12 : decode cX11_isOtherAway 12 = .ok (.iload_n 2, 1) := by decide +kernel
theorem X11_isOtherAway_12 {Q : Int → z_M → Prop} {a0 a1 a3 : z_V} {x : Int} {st : List z_V} {I : z_M} (k : JX11_isOtherAway Q 13 [a0, a1, aI x, a3] (aI x :: st) I) : JX11_isOtherAway Q 12 [a0, a1, aI x, a3] st I := g_iload_n (i := 2) (x := x) dX11_isOtherAway_12 rfl rfl k
theorem dX11_isOtherAway_13 : decode cX11_isOtherAway 13 = .ok (.ifCond .ne 18, 3) := by decide +kernel
theorem X11_isOtherAway_13 {Q : Int → z_M → Prop} {a0 a1 a2 a3 : z_V} {x : Int} {st : List z_V} {I : z_M} (kt : x ≠ 0 → JX11_isOtherAway Q 31 [a0, a1, a2, a3] st I) (kf : x = 0 → JX11_isOtherAway Q 16 [a0, a1, a2, a3] st I) : JX11_isOtherAway Q 13 [a0, a1, a2, a3] (aI x :: st) I := g_if_ne dX11_isOtherAway_13 (by decide) kt kf
theorem dX11_isOtherAway_16 : decode cX11_isOtherAway 16 = .ok (.iload_n 3, 1) := by decide +kernel
theorem X11_isOtherAway_16 {Q : Int → z_M → Prop} {a0 a1 a2 : z_V} {x : Int} {st : List z_V} {I : z_M} (k : JX11_isOtherAway Q 17 [a0, a1, a2, aI x] (aI x :: st) I) : JX11_isOtherAway Q 16 [a0, a1, a2, aI x] st I := g_iload_n (i := 3) (x := x) dX11_isOtherAway_16 rfl rfl k
theorem dX11_isOtherAway_17 : decode cX11_isOtherAway 17 = .ok (.iload_n 1, 1) := by decide +kernel
theorem X11_isOtherAway_17 {Q : Int → z_M → Prop} {a0 a2 a3 : z_V} {x : Int} {st : List z_V} {I : z_M} (k : JX11_isOtherAway Q 18 [a0, aI x, a2, a3] (aI x :: st) I) : JX11_isOtherAway Q 17 [a0, aI x, a2, a3] st I := g_iload_n (i := 1) (x := x) dX11_isOtherAway_17 rfl rfl k
theorem dX11_isOtherAway_18 : decode cX11_isOtherAway 18 = .ok (.if_icmp .eq 17, 3) := by decide +kernel
theorem X11_isOtherAway_18 {Q : Int → z_M → Prop} {a0 a1 a2 a3 : z_V} {x y : Int} {st : List z_V} {I : z_M} (kt : x = y → JX11_isOtherAway Q 35 [a0, a1, a2, a3] st I) (kf : x ≠ y → JX11_isOtherAway Q 21 [a0, a1, a2, a3] st I) : JX11_isOtherAway Q 18 [a0, a1, a2, a3] (aI y :: aI x :: st) I := g_icmp_eq dX11_isOtherAway_18 (by decide) kt kf
theorem dX11_isOtherAway_21 : decode cX11_isOtherAway 21 = .ok (.aload_n 0, 1) := by decide +kernel
theorem X11_isOtherAway_21 {Q : Int → z_M → Prop} {a1 a2 a3 : z_V} {x : Nat} {st : List z_V} {I : z_M} (k : JX11_isOtherAway Q 22 [aR x, a1, a2, a3] (aR x :: st) I) : JX11_isOtherAway Q 21 [aR x, a1, a2, a3] st I := g_aload_n (i := 0) (x := x) dX11_isOtherAway_21 rfl rfl k
theorem dX11_isOtherAway_22 : decode cX11_isOtherAway 22 = .ok (.getfield 30, 3) := by decide +kernel
theorem X11_isOtherAway_22 {Q : Int → z_M → Prop} {a0 a1 a2 a3 : z_V}  {st : List z_V} {I : z_M}  (k : JX11_isOtherAway Q 25 [a0, a1, a2, a3] (aR (66) :: st) I) : JX11_isOtherAway Q 22 [a0, a1, a2, a3] (aR 60 :: st) I := g_getr (ci := 11) (j := 8) (N := 23) (T := TX11) dX11_isOtherAway_22 rfl rfl (by decide) (z_nc11 rfl) inlX11 (by decide) m_5_7 rfl rfl k
theorem dX11_isOtherAway_25 : decode cX11_isOtherAway 25 = .ok (.iload_n 3, 1) := by decide +kernel
theorem X11_isOtherAway_25 {Q : Int → z_M → Prop} {a0 a1 a2 : z_V} {x : Int} {st : List z_V} {I : z_M} (k : JX11_isOtherAway Q 26 [a0, a1, a2, aI x] (aI x :: st) I) : JX11_isOtherAway Q 25 [a0, a1, a2, aI x] st I := g_iload_n (i := 3) (x := x) dX11_isOtherAway_25 rfl rfl k
theorem dX11_isOtherAway_26 : decode cX11_isOtherAway 26 = .ok (.iaload, 1) := by decide +kernel
theorem X11_isOtherAway_26 {Q : Int → z_M → Prop} {a0 a1 a2 a3 : z_V} {q : Nat} {i : Int} {st : List z_V} {I : z_M} (hk : z_cl q = 20 := by first | assumption | rfl) (h0 : 0 ≤ i := by omega) (h1 : i < z_n q := by first | omega | (simp only [zn_1, zn_9, zn_10, zn_11, zn_12, zn_13, zn_14, zn_15, zn_16, zn_18, zn_20, zn_21, zn_22, zn_23, zn_24, zn_25, zn_26, zn_27, zn_29, zn_30, zn_53, zn_55, zn_56, zn_58, zn_59, zn_61, zn_62, zn_63, zn_64, zn_65, zn_66, zn_67, zn_68, zn_69, zn_70, zn_71, zn_72, zn_73]; omega)) (k : JX11_isOtherAway Q 27 [a0, a1, a2, a3] (aI (I q i.toNat) :: st) I) : JX11_isOtherAway Q 26 [a0, a1, a2, a3] (aI i :: aR q :: st) I := g_iald dX11_isOtherAway_26 hk h0 h1 k
theorem dX11_isOtherAway_27 : decode cX11_isOtherAway 27 = .ok (.iconst (-1), 1) := by decide +kernel
theorem X11_isOtherAway_27 {Q : Int → z_M → Prop} {a0 a1 a2 a3 : z_V} {st : List z_V} {I : z_M} (k : JX11_isOtherAway Q 28 [a0, a1, a2, a3] (aI (-1) :: st) I) : JX11_isOtherAway Q 27 [a0, a1, a2, a3] st I := g_iconst (n := (-1)) dX11_isOtherAway_27 (by decide) k
theorem dX11_isOtherAway_28 : decode cX11_isOtherAway 28 = .ok (.if_icmp .eq 7, 3) := by decide +kernel
theorem X11_isOtherAway_28 {Q : Int → z_M → Prop} {a0 a1 a2 a3 : z_V} {x y : Int} {st : List z_V} {I : z_M} (kt : x = y → JX11_isOtherAway Q 35 [a0, a1, a2, a3] st I) (kf : x ≠ y → JX11_isOtherAway Q 31 [a0, a1, a2, a3] st I) : JX11_isOtherAway Q 28 [a0, a1, a2, a3] (aI y :: aI x :: st) I := g_icmp_eq dX11_isOtherAway_28 (by decide) kt kf
theorem dX11_isOtherAway_31 : decode cX11_isOtherAway 31 = .ok (.iconst 1, 1) := by decide +kernel
theorem X11_isOtherAway_31 {Q : Int → z_M → Prop} {a0 a1 a2 a3 : z_V} {st : List z_V} {I : z_M} (k : JX11_isOtherAway Q 32 [a0, a1, a2, a3] (aI 1 :: st) I) : JX11_isOtherAway Q 31 [a0, a1, a2, a3] st I := g_iconst (n := 1) dX11_isOtherAway_31 (by decide) k
theorem dX11_isOtherAway_32 : decode cX11_isOtherAway 32 = .ok (.goto 4, 3) := by decide +kernel
theorem X11_isOtherAway_32 {Q : Int → z_M → Prop} {a0 a1 a2 a3 : z_V} {st : List z_V} {I : z_M} (k : JX11_isOtherAway Q 36 [a0, a1, a2, a3] st I) : JX11_isOtherAway Q 32 [a0, a1, a2, a3] st I := g_goto dX11_isOtherAway_32 (by decide) k
theorem dX11_isOtherAway_35 : decode cX11_isOtherAway 35 = .ok (.iconst 0, 1) := by decide +kernel
theorem X11_isOtherAway_35 {Q : Int → z_M → Prop} {a0 a1 a2 a3 : z_V} {st : List z_V} {I : z_M} (k : JX11_isOtherAway Q 36 [a0, a1, a2, a3] (aI 0 :: st) I) : JX11_isOtherAway Q 35 [a0, a1, a2, a3] st I := g_iconst (n := 0) dX11_isOtherAway_35 (by decide) k
theorem dX11_isOtherAway_36 : decode cX11_isOtherAway 36 = .ok (.istore_n 2, 1) := by decide +kernel
theorem X11_isOtherAway_36 {Q : Int → z_M → Prop} {a0 a1 a2 a3 : z_V} {x : Int} {st : List z_V} {I : z_M} (hb : z_nl [a0, a1, a2, a3] 2 = true := by rfl) (k : JX11_isOtherAway Q 37 [a0, a1, aI x, a3] st I) : JX11_isOtherAway Q 36 [a0, a1, a2, a3] (aI x :: st) I := g_istore_n (i := 2) (x := x) dX11_isOtherAway_36 rfl (show 2 < 4 from by decide) hb k
theorem dX11_isOtherAway_37 : decode cX11_isOtherAway 37 = .ok (.iinc 3 1, 3) := by decide +kernel
theorem X11_isOtherAway_37 {Q : Int → z_M → Prop} {a0 a1 a2 : z_V} {x : Int} {st : List z_V} {I : z_M} (hb : z_nl [a0, a1, a2, aI x] 3 = true := by rfl) (hr : inI (x + 1) := by omega) (k : JX11_isOtherAway Q 40 [a0, a1, a2, aI (x + 1)] st I) : JX11_isOtherAway Q 37 [a0, a1, a2, aI x] st I := g_iinc (i := 3) (x := x) dX11_isOtherAway_37 rfl (show 3 < 4 from by decide) hb hr k
theorem dX11_isOtherAway_40 : decode cX11_isOtherAway 40 = .ok (.goto (-36), 3) := by decide +kernel
theorem X11_isOtherAway_40 {Q : Int → z_M → Prop} {a0 a1 a2 a3 : z_V} {st : List z_V} {I : z_M} (k : JX11_isOtherAway Q 4 [a0, a1, a2, a3] st I) : JX11_isOtherAway Q 40 [a0, a1, a2, a3] st I := g_goto dX11_isOtherAway_40 (by decide) k
theorem dX11_isOtherAway_43 : decode cX11_isOtherAway 43 = .ok (.iload_n 2, 1) := by decide +kernel
theorem X11_isOtherAway_43 {Q : Int → z_M → Prop} {a0 a1 a3 : z_V} {x : Int} {st : List z_V} {I : z_M} (k : JX11_isOtherAway Q 44 [a0, a1, aI x, a3] (aI x :: st) I) : JX11_isOtherAway Q 43 [a0, a1, aI x, a3] st I := g_iload_n (i := 2) (x := x) dX11_isOtherAway_43 rfl rfl k
theorem dX11_isOtherAway_44 : decode cX11_isOtherAway 44 = .ok (.ireturn, 1) := by decide +kernel
theorem X11_isOtherAway_44 {Q : Int → z_M → Prop} {a0 a1 a2 a3 : z_V} {x : Int} {I : z_M} (hx : x = 0 ∨ x = 1 := by omega) (hq : Q x I) : JX11_isOtherAway Q 44 [a0, a1, a2, a3] [aI x] I := g_zreturn dX11_isOtherAway_44 hx ⟨x, rfl, hq⟩
theorem dX11_goes_0 : decode cX11_goes 0 = .ok (.aload_n 0, 1) := by decide +kernel
theorem X11_goes_0 {Q : Int → z_M → Prop} {a1 : z_V} {x : Nat} {st : List z_V} {I : z_M} (k : JX11_goes Q 1 [aR x, a1] (aR x :: st) I) : JX11_goes Q 0 [aR x, a1] st I := g_aload_n (i := 0) (x := x) dX11_goes_0 rfl rfl k
theorem dX11_goes_1 : decode cX11_goes 1 = .ok (.getfield 27, 3) := by decide +kernel
theorem X11_goes_1 {Q : Int → z_M → Prop} {a0 a1 : z_V}  {st : List z_V} {I : z_M}  (k : JX11_goes Q 4 [a0, a1] (aR (65) :: st) I) : JX11_goes Q 1 [a0, a1] (aR 60 :: st) I := g_getr (ci := 11) (j := 7) (N := 23) (T := TX11) dX11_goes_1 rfl rfl (by decide) (z_nc11 rfl) inlX11 (by decide) m_5_6 rfl rfl k
theorem dX11_goes_4 : decode cX11_goes 4 = .ok (.iload_n 1, 1) := by decide +kernel
theorem X11_goes_4 {Q : Int → z_M → Prop} {a0 : z_V} {x : Int} {st : List z_V} {I : z_M} (k : JX11_goes Q 5 [a0, aI x] (aI x :: st) I) : JX11_goes Q 4 [a0, aI x] st I := g_iload_n (i := 1) (x := x) dX11_goes_4 rfl rfl k
theorem dX11_goes_5 : decode cX11_goes 5 = .ok (.iaload, 1) := by decide +kernel
theorem X11_goes_5 {Q : Int → z_M → Prop} {a0 a1 : z_V} {q : Nat} {i : Int} {st : List z_V} {I : z_M} (hk : z_cl q = 20 := by first | assumption | rfl) (h0 : 0 ≤ i := by omega) (h1 : i < z_n q := by first | omega | (simp only [zn_1, zn_9, zn_10, zn_11, zn_12, zn_13, zn_14, zn_15, zn_16, zn_18, zn_20, zn_21, zn_22, zn_23, zn_24, zn_25, zn_26, zn_27, zn_29, zn_30, zn_53, zn_55, zn_56, zn_58, zn_59, zn_61, zn_62, zn_63, zn_64, zn_65, zn_66, zn_67, zn_68, zn_69, zn_70, zn_71, zn_72, zn_73]; omega)) (k : JX11_goes Q 6 [a0, a1] (aI (I q i.toNat) :: st) I) : JX11_goes Q 5 [a0, a1] (aI i :: aR q :: st) I := g_iald dX11_goes_5 hk h0 h1 k
theorem dX11_goes_6 : decode cX11_goes 6 = .ok (.tableswitch 62 2 5 #[30, 36, 62, 41], 30) := by decide +kernel
theorem X11_goes_6 {Q : Int → z_M → Prop} {a0 a1 : z_V} {x : Int} {st : List z_V} {I : z_M} (k2 : x = 2 → JX11_goes Q 36 [a0, a1] st I) (k3 : x = 3 → JX11_goes Q 42 [a0, a1] st I) (k4 : x = 4 → JX11_goes Q 68 [a0, a1] st I) (k5 : x = 5 → JX11_goes Q 47 [a0, a1] st I) (kd : (x < 2 ∨ 5 < x) → JX11_goes Q 68 [a0, a1] st I) : JX11_goes Q 6 [a0, a1] (aI x :: st) I := by
  by_cases h9 : x < 2 ∨ 5 < x
  · exact g_tabOut dX11_goes_6 h9 (by decide) (kd h9)
  by_cases h0 : x = 2
  · exact g_tabIn dX11_goes_6 (by omega) (by omega) (off := 30) (by subst h0; rfl) (by decide) (k2 h0)
  by_cases h1 : x = 3
  · exact g_tabIn dX11_goes_6 (by omega) (by omega) (off := 36) (by subst h1; rfl) (by decide) (k3 h1)
  by_cases h2 : x = 4
  · exact g_tabIn dX11_goes_6 (by omega) (by omega) (off := 62) (by subst h2; rfl) (by decide) (k4 h2)
  by_cases h3 : x = 5
  · exact g_tabIn dX11_goes_6 (by omega) (by omega) (off := 41) (by subst h3; rfl) (by decide) (k5 h3)
  omega
theorem dX11_goes_36 : decode cX11_goes 36 = .ok (.aload_n 0, 1) := by decide +kernel
theorem X11_goes_36 {Q : Int → z_M → Prop} {a1 : z_V} {x : Nat} {st : List z_V} {I : z_M} (k : JX11_goes Q 37 [aR x, a1] (aR x :: st) I) : JX11_goes Q 36 [aR x, a1] st I := g_aload_n (i := 0) (x := x) dX11_goes_36 rfl rfl k
theorem dX11_goes_37 : decode cX11_goes 37 = .ok (.iload_n 1, 1) := by decide +kernel
theorem X11_goes_37 {Q : Int → z_M → Prop} {a0 : z_V} {x : Int} {st : List z_V} {I : z_M} (k : JX11_goes Q 38 [a0, aI x] (aI x :: st) I) : JX11_goes Q 37 [a0, aI x] st I := g_iload_n (i := 1) (x := x) dX11_goes_37 rfl rfl k
theorem dX11_goes_38 : decode cX11_goes 38 = .ok (.invokevirtual 122, 3) := by decide +kernel
theorem X11_goes_38 {Q : Int → z_M → Prop} {a0 a1 : z_V}  {x0 : Int} {st : List z_V} {I : z_M}  (hst : z_sw st ≤ 8 := by exact Nat.le_of_ble_eq_true rfl) (k : CX11_isOtherAway (aR 60 :: [aI x0]) I (fun x9 I9 => JX11_goes Q 41 [a0, a1] (aI x9 :: st) I9)) : JX11_goes Q 38 [a0, a1] (aI x0 :: aR 60 :: st) I := g_callV (C := RX11) (ci := 11) (As := [aI x0]) (n := 1) dX11_goes_38 ⟨m_25_5, pdX11_isOtherAway, ⟨by decide, by decide⟩, rfl, rfl, by decide, by decide⟩ m_25_2 m_25_3 m_25_4 m_1_5 rfl rfl (by decide) rfl rfl hst k (fun r I9 h => by obtain ⟨x9, rfl, h⟩ := h; exact h)
theorem dX11_goes_41 : decode cX11_goes 41 = .ok (.ireturn, 1) := by decide +kernel
theorem X11_goes_41 {Q : Int → z_M → Prop} {a0 a1 : z_V} {x : Int} {I : z_M} (hx : x = 0 ∨ x = 1 := by omega) (hq : Q x I) : JX11_goes Q 41 [a0, a1] [aI x] I := g_zreturn dX11_goes_41 hx ⟨x, rfl, hq⟩
theorem dX11_goes_42 : decode cX11_goes 42 = .ok (.aload_n 0, 1) := by decide +kernel
theorem X11_goes_42 {Q : Int → z_M → Prop} {a1 : z_V} {x : Nat} {st : List z_V} {I : z_M} (k : JX11_goes Q 43 [aR x, a1] (aR x :: st) I) : JX11_goes Q 42 [aR x, a1] st I := g_aload_n (i := 0) (x := x) dX11_goes_42 rfl rfl k
theorem dX11_goes_43 : decode cX11_goes 43 = .ok (.invokevirtual 125, 3) := by decide +kernel
theorem X11_goes_43 {Q : Int → z_M → Prop} {a0 a1 : z_V}   {st : List z_V} {I : z_M}  (hst : z_sw st ≤ 8 := by exact Nat.le_of_ble_eq_true rfl) (k : CX11_isNight (aR 60 :: []) I (fun x9 I9 => JX11_goes Q 46 [a0, a1] (aI x9 :: st) I9)) : JX11_goes Q 43 [a0, a1] (aR 60 :: st) I := g_callV (C := RX11) (ci := 11) (As := []) (n := 0) dX11_goes_43 ⟨m_25_9, pdX11_isNight, ⟨by decide, by decide⟩, rfl, rfl, by decide, by decide⟩ m_25_6 m_25_7 m_25_8 m_1_5 rfl rfl (by decide) rfl rfl hst k (fun r I9 h => by obtain ⟨x9, rfl, h⟩ := h; exact h)
theorem dX11_goes_46 : decode cX11_goes 46 = .ok (.ireturn, 1) := by decide +kernel
theorem X11_goes_46 {Q : Int → z_M → Prop} {a0 a1 : z_V} {x : Int} {I : z_M} (hx : x = 0 ∨ x = 1 := by omega) (hq : Q x I) : JX11_goes Q 46 [a0, a1] [aI x] I := g_zreturn dX11_goes_46 hx ⟨x, rfl, hq⟩
theorem dX11_goes_47 : decode cX11_goes 47 = .ok (.aload_n 0, 1) := by decide +kernel
theorem X11_goes_47 {Q : Int → z_M → Prop} {a1 : z_V} {x : Nat} {st : List z_V} {I : z_M} (k : JX11_goes Q 48 [aR x, a1] (aR x :: st) I) : JX11_goes Q 47 [aR x, a1] st I := g_aload_n (i := 0) (x := x) dX11_goes_47 rfl rfl k
theorem dX11_goes_48 : decode cX11_goes 48 = .ok (.iload_n 1, 1) := by decide +kernel
theorem X11_goes_48 {Q : Int → z_M → Prop} {a0 : z_V} {x : Int} {st : List z_V} {I : z_M} (k : JX11_goes Q 49 [a0, aI x] (aI x :: st) I) : JX11_goes Q 48 [a0, aI x] st I := g_iload_n (i := 1) (x := x) dX11_goes_48 rfl rfl k
theorem dX11_goes_49 : decode cX11_goes 49 = .ok (.invokevirtual 122, 3) := by decide +kernel
theorem X11_goes_49 {Q : Int → z_M → Prop} {a0 a1 : z_V}  {x0 : Int} {st : List z_V} {I : z_M}  (hst : z_sw st ≤ 8 := by exact Nat.le_of_ble_eq_true rfl) (k : CX11_isOtherAway (aR 60 :: [aI x0]) I (fun x9 I9 => JX11_goes Q 52 [a0, a1] (aI x9 :: st) I9)) : JX11_goes Q 49 [a0, a1] (aI x0 :: aR 60 :: st) I := g_callV (C := RX11) (ci := 11) (As := [aI x0]) (n := 1) dX11_goes_49 ⟨m_25_5, pdX11_isOtherAway, ⟨by decide, by decide⟩, rfl, rfl, by decide, by decide⟩ m_25_2 m_25_3 m_25_4 m_1_5 rfl rfl (by decide) rfl rfl hst k (fun r I9 h => by obtain ⟨x9, rfl, h⟩ := h; exact h)
theorem dX11_goes_52 : decode cX11_goes 52 = .ok (.ifCond .eq 14, 3) := by decide +kernel
theorem X11_goes_52 {Q : Int → z_M → Prop} {a0 a1 : z_V} {x : Int} {st : List z_V} {I : z_M} (kt : x = 0 → JX11_goes Q 66 [a0, a1] st I) (kf : x ≠ 0 → JX11_goes Q 55 [a0, a1] st I) : JX11_goes Q 52 [a0, a1] (aI x :: st) I := g_if_eq dX11_goes_52 (by decide) kt kf
theorem dX11_goes_55 : decode cX11_goes 55 = .ok (.aload_n 0, 1) := by decide +kernel
theorem X11_goes_55 {Q : Int → z_M → Prop} {a1 : z_V} {x : Nat} {st : List z_V} {I : z_M} (k : JX11_goes Q 56 [aR x, a1] (aR x :: st) I) : JX11_goes Q 55 [aR x, a1] st I := g_aload_n (i := 0) (x := x) dX11_goes_55 rfl rfl k
theorem dX11_goes_56 : decode cX11_goes 56 = .ok (.invokevirtual 125, 3) := by decide +kernel
theorem X11_goes_56 {Q : Int → z_M → Prop} {a0 a1 : z_V}   {st : List z_V} {I : z_M}  (hst : z_sw st ≤ 8 := by exact Nat.le_of_ble_eq_true rfl) (k : CX11_isNight (aR 60 :: []) I (fun x9 I9 => JX11_goes Q 59 [a0, a1] (aI x9 :: st) I9)) : JX11_goes Q 56 [a0, a1] (aR 60 :: st) I := g_callV (C := RX11) (ci := 11) (As := []) (n := 0) dX11_goes_56 ⟨m_25_9, pdX11_isNight, ⟨by decide, by decide⟩, rfl, rfl, by decide, by decide⟩ m_25_6 m_25_7 m_25_8 m_1_5 rfl rfl (by decide) rfl rfl hst k (fun r I9 h => by obtain ⟨x9, rfl, h⟩ := h; exact h)
theorem dX11_goes_59 : decode cX11_goes 59 = .ok (.ifCond .eq 7, 3) := by decide +kernel
theorem X11_goes_59 {Q : Int → z_M → Prop} {a0 a1 : z_V} {x : Int} {st : List z_V} {I : z_M} (kt : x = 0 → JX11_goes Q 66 [a0, a1] st I) (kf : x ≠ 0 → JX11_goes Q 62 [a0, a1] st I) : JX11_goes Q 59 [a0, a1] (aI x :: st) I := g_if_eq dX11_goes_59 (by decide) kt kf
theorem dX11_goes_62 : decode cX11_goes 62 = .ok (.iconst 1, 1) := by decide +kernel
theorem X11_goes_62 {Q : Int → z_M → Prop} {a0 a1 : z_V} {st : List z_V} {I : z_M} (k : JX11_goes Q 63 [a0, a1] (aI 1 :: st) I) : JX11_goes Q 62 [a0, a1] st I := g_iconst (n := 1) dX11_goes_62 (by decide) k
theorem dX11_goes_63 : decode cX11_goes 63 = .ok (.goto 4, 3) := by decide +kernel
theorem X11_goes_63 {Q : Int → z_M → Prop} {a0 a1 : z_V} {st : List z_V} {I : z_M} (k : JX11_goes Q 67 [a0, a1] st I) : JX11_goes Q 63 [a0, a1] st I := g_goto dX11_goes_63 (by decide) k
theorem dX11_goes_66 : decode cX11_goes 66 = .ok (.iconst 0, 1) := by decide +kernel
theorem X11_goes_66 {Q : Int → z_M → Prop} {a0 a1 : z_V} {st : List z_V} {I : z_M} (k : JX11_goes Q 67 [a0, a1] (aI 0 :: st) I) : JX11_goes Q 66 [a0, a1] st I := g_iconst (n := 0) dX11_goes_66 (by decide) k
theorem dX11_goes_67 : decode cX11_goes 67 = .ok (.ireturn, 1) := by decide +kernel
theorem X11_goes_67 {Q : Int → z_M → Prop} {a0 a1 : z_V} {x : Int} {I : z_M} (hx : x = 0 ∨ x = 1 := by omega) (hq : Q x I) : JX11_goes Q 67 [a0, a1] [aI x] I := g_zreturn dX11_goes_67 hx ⟨x, rfl, hq⟩
theorem dX11_goes_68 : decode cX11_goes 68 = .ok (.iconst 1, 1) := by decide +kernel
theorem X11_goes_68 {Q : Int → z_M → Prop} {a0 a1 : z_V} {st : List z_V} {I : z_M} (k : JX11_goes Q 69 [a0, a1] (aI 1 :: st) I) : JX11_goes Q 68 [a0, a1] st I := g_iconst (n := 1) dX11_goes_68 (by decide) k
theorem dX11_goes_69 : decode cX11_goes 69 = .ok (.ireturn, 1) := by decide +kernel
theorem X11_goes_69 {Q : Int → z_M → Prop} {a0 a1 : z_V} {x : Int} {I : z_M} (hx : x = 0 ∨ x = 1 := by omega) (hq : Q x I) : JX11_goes Q 69 [a0, a1] [aI x] I := g_zreturn dX11_goes_69 hx ⟨x, rfl, hq⟩
theorem dX11_comesBack_0 : decode cX11_comesBack 0 = .ok (.aload_n 0, 1) := by decide +kernel
theorem X11_comesBack_0 {Q : Int → z_M → Prop} {a1 a2 : z_V} {x : Nat} {st : List z_V} {I : z_M} (k : JX11_comesBack Q 1 [aR x, a1, a2] (aR x :: st) I) : JX11_comesBack Q 0 [aR x, a1, a2] st I := g_aload_n (i := 0) (x := x) dX11_comesBack_0 rfl rfl k
theorem dX11_comesBack_1 : decode cX11_comesBack 1 = .ok (.aload_n 0, 1) := by decide +kernel
theorem X11_comesBack_1 {Q : Int → z_M → Prop} {a1 a2 : z_V} {x : Nat} {st : List z_V} {I : z_M} (k : JX11_comesBack Q 2 [aR x, a1, a2] (aR x :: st) I) : JX11_comesBack Q 1 [aR x, a1, a2] st I := g_aload_n (i := 0) (x := x) dX11_comesBack_1 rfl rfl k
theorem dX11_comesBack_2 : decode cX11_comesBack 2 = .ok (.getfield 30, 3) := by decide +kernel
theorem X11_comesBack_2 {Q : Int → z_M → Prop} {a0 a1 a2 : z_V}  {st : List z_V} {I : z_M}  (k : JX11_comesBack Q 5 [a0, a1, a2] (aR (66) :: st) I) : JX11_comesBack Q 2 [a0, a1, a2] (aR 60 :: st) I := g_getr (ci := 11) (j := 8) (N := 23) (T := TX11) dX11_comesBack_2 rfl rfl (by decide) (z_nc11 rfl) inlX11 (by decide) m_5_7 rfl rfl k
theorem dX11_comesBack_5 : decode cX11_comesBack 5 = .ok (.iload_n 1, 1) := by decide +kernel
theorem X11_comesBack_5 {Q : Int → z_M → Prop} {a0 a2 : z_V} {x : Int} {st : List z_V} {I : z_M} (k : JX11_comesBack Q 6 [a0, aI x, a2] (aI x :: st) I) : JX11_comesBack Q 5 [a0, aI x, a2] st I := g_iload_n (i := 1) (x := x) dX11_comesBack_5 rfl rfl k
theorem dX11_comesBack_6 : decode cX11_comesBack 6 = .ok (.iaload, 1) := by decide +kernel
theorem X11_comesBack_6 {Q : Int → z_M → Prop} {a0 a1 a2 : z_V} {q : Nat} {i : Int} {st : List z_V} {I : z_M} (hk : z_cl q = 20 := by first | assumption | rfl) (h0 : 0 ≤ i := by omega) (h1 : i < z_n q := by first | omega | (simp only [zn_1, zn_9, zn_10, zn_11, zn_12, zn_13, zn_14, zn_15, zn_16, zn_18, zn_20, zn_21, zn_22, zn_23, zn_24, zn_25, zn_26, zn_27, zn_29, zn_30, zn_53, zn_55, zn_56, zn_58, zn_59, zn_61, zn_62, zn_63, zn_64, zn_65, zn_66, zn_67, zn_68, zn_69, zn_70, zn_71, zn_72, zn_73]; omega)) (k : JX11_comesBack Q 7 [a0, a1, a2] (aI (I q i.toNat) :: st) I) : JX11_comesBack Q 6 [a0, a1, a2] (aI i :: aR q :: st) I := g_iald dX11_comesBack_6 hk h0 h1 k
theorem dX11_comesBack_7 : decode cX11_comesBack 7 = .ok (.invokevirtual 129, 3) := by decide +kernel
theorem X11_comesBack_7 {Q : Int → z_M → Prop} {a0 a1 a2 : z_V}  {x0 : Int} {st : List z_V} {I : z_M}  (hst : z_sw st ≤ 8 := by exact Nat.le_of_ble_eq_true rfl) (k : CX11_isWished (aR 60 :: [aI x0]) I (fun x9 I9 => JX11_comesBack Q 10 [a0, a1, a2] (aI x9 :: st) I9)) : JX11_comesBack Q 7 [a0, a1, a2] (aI x0 :: aR 60 :: st) I := g_callV (C := RX11) (ci := 11) (As := [aI x0]) (n := 1) dX11_comesBack_7 ⟨m_24_21, pdX11_isWished, ⟨by decide, by decide⟩, rfl, rfl, by decide, by decide⟩ m_24_18 m_24_19 m_24_20 m_1_5 rfl rfl (by decide) rfl rfl hst k (fun r I9 h => by obtain ⟨x9, rfl, h⟩ := h; exact h)
theorem dX11_comesBack_10 : decode cX11_comesBack 10 = .ok (.ifCond .ne 7, 3) := by decide +kernel
theorem X11_comesBack_10 {Q : Int → z_M → Prop} {a0 a1 a2 : z_V} {x : Int} {st : List z_V} {I : z_M} (kt : x ≠ 0 → JX11_comesBack Q 17 [a0, a1, a2] st I) (kf : x = 0 → JX11_comesBack Q 13 [a0, a1, a2] st I) : JX11_comesBack Q 10 [a0, a1, a2] (aI x :: st) I := g_if_ne dX11_comesBack_10 (by decide) kt kf
theorem dX11_comesBack_13 : decode cX11_comesBack 13 = .ok (.iconst 1, 1) := by decide +kernel
theorem X11_comesBack_13 {Q : Int → z_M → Prop} {a0 a1 a2 : z_V} {st : List z_V} {I : z_M} (k : JX11_comesBack Q 14 [a0, a1, a2] (aI 1 :: st) I) : JX11_comesBack Q 13 [a0, a1, a2] st I := g_iconst (n := 1) dX11_comesBack_13 (by decide) k
theorem dX11_comesBack_14 : decode cX11_comesBack 14 = .ok (.goto 4, 3) := by decide +kernel
theorem X11_comesBack_14 {Q : Int → z_M → Prop} {a0 a1 a2 : z_V} {st : List z_V} {I : z_M} (k : JX11_comesBack Q 18 [a0, a1, a2] st I) : JX11_comesBack Q 14 [a0, a1, a2] st I := g_goto dX11_comesBack_14 (by decide) k
theorem dX11_comesBack_17 : decode cX11_comesBack 17 = .ok (.iconst 0, 1) := by decide +kernel
theorem X11_comesBack_17 {Q : Int → z_M → Prop} {a0 a1 a2 : z_V} {st : List z_V} {I : z_M} (k : JX11_comesBack Q 18 [a0, a1, a2] (aI 0 :: st) I) : JX11_comesBack Q 17 [a0, a1, a2] st I := g_iconst (n := 0) dX11_comesBack_17 (by decide) k
theorem dX11_comesBack_18 : decode cX11_comesBack 18 = .ok (.istore_n 2, 1) := by decide +kernel
theorem X11_comesBack_18 {Q : Int → z_M → Prop} {a0 a1 a2 : z_V} {x : Int} {st : List z_V} {I : z_M} (hb : z_nl [a0, a1, a2] 2 = true := by rfl) (k : JX11_comesBack Q 19 [a0, a1, aI x] st I) : JX11_comesBack Q 18 [a0, a1, a2] (aI x :: st) I := g_istore_n (i := 2) (x := x) dX11_comesBack_18 rfl (show 2 < 3 from by decide) hb k
theorem dX11_comesBack_19 : decode cX11_comesBack 19 = .ok (.aload_n 0, 1) := by decide +kernel
theorem X11_comesBack_19 {Q : Int → z_M → Prop} {a1 a2 : z_V} {x : Nat} {st : List z_V} {I : z_M} (k : JX11_comesBack Q 20 [aR x, a1, a2] (aR x :: st) I) : JX11_comesBack Q 19 [aR x, a1, a2] st I := g_aload_n (i := 0) (x := x) dX11_comesBack_19 rfl rfl k
theorem dX11_comesBack_20 : decode cX11_comesBack 20 = .ok (.getfield 27, 3) := by decide +kernel
theorem X11_comesBack_20 {Q : Int → z_M → Prop} {a0 a1 a2 : z_V}  {st : List z_V} {I : z_M}  (k : JX11_comesBack Q 23 [a0, a1, a2] (aR (65) :: st) I) : JX11_comesBack Q 20 [a0, a1, a2] (aR 60 :: st) I := g_getr (ci := 11) (j := 7) (N := 23) (T := TX11) dX11_comesBack_20 rfl rfl (by decide) (z_nc11 rfl) inlX11 (by decide) m_5_6 rfl rfl k
theorem dX11_comesBack_23 : decode cX11_comesBack 23 = .ok (.iload_n 1, 1) := by decide +kernel
theorem X11_comesBack_23 {Q : Int → z_M → Prop} {a0 a2 : z_V} {x : Int} {st : List z_V} {I : z_M} (k : JX11_comesBack Q 24 [a0, aI x, a2] (aI x :: st) I) : JX11_comesBack Q 23 [a0, aI x, a2] st I := g_iload_n (i := 1) (x := x) dX11_comesBack_23 rfl rfl k
theorem dX11_comesBack_24 : decode cX11_comesBack 24 = .ok (.iaload, 1) := by decide +kernel
theorem X11_comesBack_24 {Q : Int → z_M → Prop} {a0 a1 a2 : z_V} {q : Nat} {i : Int} {st : List z_V} {I : z_M} (hk : z_cl q = 20 := by first | assumption | rfl) (h0 : 0 ≤ i := by omega) (h1 : i < z_n q := by first | omega | (simp only [zn_1, zn_9, zn_10, zn_11, zn_12, zn_13, zn_14, zn_15, zn_16, zn_18, zn_20, zn_21, zn_22, zn_23, zn_24, zn_25, zn_26, zn_27, zn_29, zn_30, zn_53, zn_55, zn_56, zn_58, zn_59, zn_61, zn_62, zn_63, zn_64, zn_65, zn_66, zn_67, zn_68, zn_69, zn_70, zn_71, zn_72, zn_73]; omega)) (k : JX11_comesBack Q 25 [a0, a1, a2] (aI (I q i.toNat) :: st) I) : JX11_comesBack Q 24 [a0, a1, a2] (aI i :: aR q :: st) I := g_iald dX11_comesBack_24 hk h0 h1 k
theorem dX11_comesBack_25 : decode cX11_comesBack 25 = .ok (.tableswitch 77 1 5 #[35, 77, 35, 55, 75], 35) := by decide +kernel
theorem X11_comesBack_25 {Q : Int → z_M → Prop} {a0 a1 a2 : z_V} {x : Int} {st : List z_V} {I : z_M} (k1 : x = 1 → JX11_comesBack Q 60 [a0, a1, a2] st I) (k2 : x = 2 → JX11_comesBack Q 102 [a0, a1, a2] st I) (k3 : x = 3 → JX11_comesBack Q 60 [a0, a1, a2] st I) (k4 : x = 4 → JX11_comesBack Q 80 [a0, a1, a2] st I) (k5 : x = 5 → JX11_comesBack Q 100 [a0, a1, a2] st I) (kd : (x < 1 ∨ 5 < x) → JX11_comesBack Q 102 [a0, a1, a2] st I) : JX11_comesBack Q 25 [a0, a1, a2] (aI x :: st) I := by
  by_cases h9 : x < 1 ∨ 5 < x
  · exact g_tabOut dX11_comesBack_25 h9 (by decide) (kd h9)
  by_cases h0 : x = 1
  · exact g_tabIn dX11_comesBack_25 (by omega) (by omega) (off := 35) (by subst h0; rfl) (by decide) (k1 h0)
  by_cases h1 : x = 2
  · exact g_tabIn dX11_comesBack_25 (by omega) (by omega) (off := 77) (by subst h1; rfl) (by decide) (k2 h1)
  by_cases h2 : x = 3
  · exact g_tabIn dX11_comesBack_25 (by omega) (by omega) (off := 35) (by subst h2; rfl) (by decide) (k3 h2)
  by_cases h3 : x = 4
  · exact g_tabIn dX11_comesBack_25 (by omega) (by omega) (off := 55) (by subst h3; rfl) (by decide) (k4 h3)
  by_cases h4 : x = 5
  · exact g_tabIn dX11_comesBack_25 (by omega) (by omega) (off := 75) (by subst h4; rfl) (by decide) (k5 h4)
  omega
theorem dX11_comesBack_60 : decode cX11_comesBack 60 = .ok (.iload_n 2, 1) := by decide +kernel
theorem X11_comesBack_60 {Q : Int → z_M → Prop} {a0 a1 : z_V} {x : Int} {st : List z_V} {I : z_M} (k : JX11_comesBack Q 61 [a0, a1, aI x] (aI x :: st) I) : JX11_comesBack Q 60 [a0, a1, aI x] st I := g_iload_n (i := 2) (x := x) dX11_comesBack_60 rfl rfl k
theorem dX11_comesBack_61 : decode cX11_comesBack 61 = .ok (.ifCond .eq 17, 3) := by decide +kernel
theorem X11_comesBack_61 {Q : Int → z_M → Prop} {a0 a1 a2 : z_V} {x : Int} {st : List z_V} {I : z_M} (kt : x = 0 → JX11_comesBack Q 78 [a0, a1, a2] st I) (kf : x ≠ 0 → JX11_comesBack Q 64 [a0, a1, a2] st I) : JX11_comesBack Q 61 [a0, a1, a2] (aI x :: st) I := g_if_eq dX11_comesBack_61 (by decide) kt kf
theorem dX11_comesBack_64 : decode cX11_comesBack 64 = .ok (.aload_n 0, 1) := by decide +kernel
theorem X11_comesBack_64 {Q : Int → z_M → Prop} {a1 a2 : z_V} {x : Nat} {st : List z_V} {I : z_M} (k : JX11_comesBack Q 65 [aR x, a1, a2] (aR x :: st) I) : JX11_comesBack Q 64 [aR x, a1, a2] st I := g_aload_n (i := 0) (x := x) dX11_comesBack_64 rfl rfl k
theorem dX11_comesBack_65 : decode cX11_comesBack 65 = .ok (.getfield 33, 3) := by decide +kernel
theorem X11_comesBack_65 {Q : Int → z_M → Prop} {a0 a1 a2 : z_V}  {st : List z_V} {I : z_M}  (k : JX11_comesBack Q 68 [a0, a1, a2] (aR (67) :: st) I) : JX11_comesBack Q 65 [a0, a1, a2] (aR 60 :: st) I := g_getr (ci := 11) (j := 9) (N := 23) (T := TX11) dX11_comesBack_65 rfl rfl (by decide) (z_nc11 rfl) inlX11 (by decide) m_5_8 rfl rfl k
theorem dX11_comesBack_68 : decode cX11_comesBack 68 = .ok (.iload_n 1, 1) := by decide +kernel
theorem X11_comesBack_68 {Q : Int → z_M → Prop} {a0 a2 : z_V} {x : Int} {st : List z_V} {I : z_M} (k : JX11_comesBack Q 69 [a0, aI x, a2] (aI x :: st) I) : JX11_comesBack Q 68 [a0, aI x, a2] st I := g_iload_n (i := 1) (x := x) dX11_comesBack_68 rfl rfl k
theorem dX11_comesBack_69 : decode cX11_comesBack 69 = .ok (.iaload, 1) := by decide +kernel
theorem X11_comesBack_69 {Q : Int → z_M → Prop} {a0 a1 a2 : z_V} {q : Nat} {i : Int} {st : List z_V} {I : z_M} (hk : z_cl q = 20 := by first | assumption | rfl) (h0 : 0 ≤ i := by omega) (h1 : i < z_n q := by first | omega | (simp only [zn_1, zn_9, zn_10, zn_11, zn_12, zn_13, zn_14, zn_15, zn_16, zn_18, zn_20, zn_21, zn_22, zn_23, zn_24, zn_25, zn_26, zn_27, zn_29, zn_30, zn_53, zn_55, zn_56, zn_58, zn_59, zn_61, zn_62, zn_63, zn_64, zn_65, zn_66, zn_67, zn_68, zn_69, zn_70, zn_71, zn_72, zn_73]; omega)) (k : JX11_comesBack Q 70 [a0, a1, a2] (aI (I q i.toNat) :: st) I) : JX11_comesBack Q 69 [a0, a1, a2] (aI i :: aR q :: st) I := g_iald dX11_comesBack_69 hk h0 h1 k
theorem dX11_comesBack_70 : decode cX11_comesBack 70 = .ok (.iconst 2, 1) := by decide +kernel
theorem X11_comesBack_70 {Q : Int → z_M → Prop} {a0 a1 a2 : z_V} {st : List z_V} {I : z_M} (k : JX11_comesBack Q 71 [a0, a1, a2] (aI 2 :: st) I) : JX11_comesBack Q 70 [a0, a1, a2] st I := g_iconst (n := 2) dX11_comesBack_70 (by decide) k
theorem dX11_comesBack_71 : decode cX11_comesBack 71 = .ok (.if_icmp .le 7, 3) := by decide +kernel
theorem X11_comesBack_71 {Q : Int → z_M → Prop} {a0 a1 a2 : z_V} {x y : Int} {st : List z_V} {I : z_M} (kt : x ≤ y → JX11_comesBack Q 78 [a0, a1, a2] st I) (kf : y < x → JX11_comesBack Q 74 [a0, a1, a2] st I) : JX11_comesBack Q 71 [a0, a1, a2] (aI y :: aI x :: st) I := g_icmp_le dX11_comesBack_71 (by decide) kt kf
theorem dX11_comesBack_74 : decode cX11_comesBack 74 = .ok (.iconst 1, 1) := by decide +kernel
theorem X11_comesBack_74 {Q : Int → z_M → Prop} {a0 a1 a2 : z_V} {st : List z_V} {I : z_M} (k : JX11_comesBack Q 75 [a0, a1, a2] (aI 1 :: st) I) : JX11_comesBack Q 74 [a0, a1, a2] st I := g_iconst (n := 1) dX11_comesBack_74 (by decide) k
theorem dX11_comesBack_75 : decode cX11_comesBack 75 = .ok (.goto 4, 3) := by decide +kernel
theorem X11_comesBack_75 {Q : Int → z_M → Prop} {a0 a1 a2 : z_V} {st : List z_V} {I : z_M} (k : JX11_comesBack Q 79 [a0, a1, a2] st I) : JX11_comesBack Q 75 [a0, a1, a2] st I := g_goto dX11_comesBack_75 (by decide) k
theorem dX11_comesBack_78 : decode cX11_comesBack 78 = .ok (.iconst 0, 1) := by decide +kernel
theorem X11_comesBack_78 {Q : Int → z_M → Prop} {a0 a1 a2 : z_V} {st : List z_V} {I : z_M} (k : JX11_comesBack Q 79 [a0, a1, a2] (aI 0 :: st) I) : JX11_comesBack Q 78 [a0, a1, a2] st I := g_iconst (n := 0) dX11_comesBack_78 (by decide) k
theorem dX11_comesBack_79 : decode cX11_comesBack 79 = .ok (.ireturn, 1) := by decide +kernel
theorem X11_comesBack_79 {Q : Int → z_M → Prop} {a0 a1 a2 : z_V} {x : Int} {I : z_M} (hx : x = 0 ∨ x = 1 := by omega) (hq : Q x I) : JX11_comesBack Q 79 [a0, a1, a2] [aI x] I := g_zreturn dX11_comesBack_79 hx ⟨x, rfl, hq⟩
theorem dX11_comesBack_80 : decode cX11_comesBack 80 = .ok (.iload_n 2, 1) := by decide +kernel
theorem X11_comesBack_80 {Q : Int → z_M → Prop} {a0 a1 : z_V} {x : Int} {st : List z_V} {I : z_M} (k : JX11_comesBack Q 81 [a0, a1, aI x] (aI x :: st) I) : JX11_comesBack Q 80 [a0, a1, aI x] st I := g_iload_n (i := 2) (x := x) dX11_comesBack_80 rfl rfl k
theorem dX11_comesBack_81 : decode cX11_comesBack 81 = .ok (.ifCond .ne 13, 3) := by decide +kernel
theorem X11_comesBack_81 {Q : Int → z_M → Prop} {a0 a1 a2 : z_V} {x : Int} {st : List z_V} {I : z_M} (kt : x ≠ 0 → JX11_comesBack Q 94 [a0, a1, a2] st I) (kf : x = 0 → JX11_comesBack Q 84 [a0, a1, a2] st I) : JX11_comesBack Q 81 [a0, a1, a2] (aI x :: st) I := g_if_ne dX11_comesBack_81 (by decide) kt kf
theorem dX11_comesBack_84 : decode cX11_comesBack 84 = .ok (.aload_n 0, 1) := by decide +kernel
theorem X11_comesBack_84 {Q : Int → z_M → Prop} {a1 a2 : z_V} {x : Nat} {st : List z_V} {I : z_M} (k : JX11_comesBack Q 85 [aR x, a1, a2] (aR x :: st) I) : JX11_comesBack Q 84 [aR x, a1, a2] st I := g_aload_n (i := 0) (x := x) dX11_comesBack_84 rfl rfl k
theorem dX11_comesBack_85 : decode cX11_comesBack 85 = .ok (.getfield 33, 3) := by decide +kernel
theorem X11_comesBack_85 {Q : Int → z_M → Prop} {a0 a1 a2 : z_V}  {st : List z_V} {I : z_M}  (k : JX11_comesBack Q 88 [a0, a1, a2] (aR (67) :: st) I) : JX11_comesBack Q 85 [a0, a1, a2] (aR 60 :: st) I := g_getr (ci := 11) (j := 9) (N := 23) (T := TX11) dX11_comesBack_85 rfl rfl (by decide) (z_nc11 rfl) inlX11 (by decide) m_5_8 rfl rfl k
theorem dX11_comesBack_88 : decode cX11_comesBack 88 = .ok (.iload_n 1, 1) := by decide +kernel
theorem X11_comesBack_88 {Q : Int → z_M → Prop} {a0 a2 : z_V} {x : Int} {st : List z_V} {I : z_M} (k : JX11_comesBack Q 89 [a0, aI x, a2] (aI x :: st) I) : JX11_comesBack Q 88 [a0, aI x, a2] st I := g_iload_n (i := 1) (x := x) dX11_comesBack_88 rfl rfl k
theorem dX11_comesBack_89 : decode cX11_comesBack 89 = .ok (.iaload, 1) := by decide +kernel
theorem X11_comesBack_89 {Q : Int → z_M → Prop} {a0 a1 a2 : z_V} {q : Nat} {i : Int} {st : List z_V} {I : z_M} (hk : z_cl q = 20 := by first | assumption | rfl) (h0 : 0 ≤ i := by omega) (h1 : i < z_n q := by first | omega | (simp only [zn_1, zn_9, zn_10, zn_11, zn_12, zn_13, zn_14, zn_15, zn_16, zn_18, zn_20, zn_21, zn_22, zn_23, zn_24, zn_25, zn_26, zn_27, zn_29, zn_30, zn_53, zn_55, zn_56, zn_58, zn_59, zn_61, zn_62, zn_63, zn_64, zn_65, zn_66, zn_67, zn_68, zn_69, zn_70, zn_71, zn_72, zn_73]; omega)) (k : JX11_comesBack Q 90 [a0, a1, a2] (aI (I q i.toNat) :: st) I) : JX11_comesBack Q 89 [a0, a1, a2] (aI i :: aR q :: st) I := g_iald dX11_comesBack_89 hk h0 h1 k
theorem dX11_comesBack_90 : decode cX11_comesBack 90 = .ok (.iconst 1, 1) := by decide +kernel
theorem X11_comesBack_90 {Q : Int → z_M → Prop} {a0 a1 a2 : z_V} {st : List z_V} {I : z_M} (k : JX11_comesBack Q 91 [a0, a1, a2] (aI 1 :: st) I) : JX11_comesBack Q 90 [a0, a1, a2] st I := g_iconst (n := 1) dX11_comesBack_90 (by decide) k
theorem dX11_comesBack_91 : decode cX11_comesBack 91 = .ok (.if_icmp .le 7, 3) := by decide +kernel
theorem X11_comesBack_91 {Q : Int → z_M → Prop} {a0 a1 a2 : z_V} {x y : Int} {st : List z_V} {I : z_M} (kt : x ≤ y → JX11_comesBack Q 98 [a0, a1, a2] st I) (kf : y < x → JX11_comesBack Q 94 [a0, a1, a2] st I) : JX11_comesBack Q 91 [a0, a1, a2] (aI y :: aI x :: st) I := g_icmp_le dX11_comesBack_91 (by decide) kt kf
theorem dX11_comesBack_94 : decode cX11_comesBack 94 = .ok (.iconst 1, 1) := by decide +kernel
theorem X11_comesBack_94 {Q : Int → z_M → Prop} {a0 a1 a2 : z_V} {st : List z_V} {I : z_M} (k : JX11_comesBack Q 95 [a0, a1, a2] (aI 1 :: st) I) : JX11_comesBack Q 94 [a0, a1, a2] st I := g_iconst (n := 1) dX11_comesBack_94 (by decide) k
theorem dX11_comesBack_95 : decode cX11_comesBack 95 = .ok (.goto 4, 3) := by decide +kernel
theorem X11_comesBack_95 {Q : Int → z_M → Prop} {a0 a1 a2 : z_V} {st : List z_V} {I : z_M} (k : JX11_comesBack Q 99 [a0, a1, a2] st I) : JX11_comesBack Q 95 [a0, a1, a2] st I := g_goto dX11_comesBack_95 (by decide) k
theorem dX11_comesBack_98 : decode cX11_comesBack 98 = .ok (.iconst 0, 1) := by decide +kernel
theorem X11_comesBack_98 {Q : Int → z_M → Prop} {a0 a1 a2 : z_V} {st : List z_V} {I : z_M} (k : JX11_comesBack Q 99 [a0, a1, a2] (aI 0 :: st) I) : JX11_comesBack Q 98 [a0, a1, a2] st I := g_iconst (n := 0) dX11_comesBack_98 (by decide) k
theorem dX11_comesBack_99 : decode cX11_comesBack 99 = .ok (.ireturn, 1) := by decide +kernel
theorem X11_comesBack_99 {Q : Int → z_M → Prop} {a0 a1 a2 : z_V} {x : Int} {I : z_M} (hx : x = 0 ∨ x = 1 := by omega) (hq : Q x I) : JX11_comesBack Q 99 [a0, a1, a2] [aI x] I := g_zreturn dX11_comesBack_99 hx ⟨x, rfl, hq⟩
theorem dX11_comesBack_100 : decode cX11_comesBack 100 = .ok (.iconst 0, 1) := by decide +kernel
theorem X11_comesBack_100 {Q : Int → z_M → Prop} {a0 a1 a2 : z_V} {st : List z_V} {I : z_M} (k : JX11_comesBack Q 101 [a0, a1, a2] (aI 0 :: st) I) : JX11_comesBack Q 100 [a0, a1, a2] st I := g_iconst (n := 0) dX11_comesBack_100 (by decide) k
theorem dX11_comesBack_101 : decode cX11_comesBack 101 = .ok (.ireturn, 1) := by decide +kernel
theorem X11_comesBack_101 {Q : Int → z_M → Prop} {a0 a1 a2 : z_V} {x : Int} {I : z_M} (hx : x = 0 ∨ x = 1 := by omega) (hq : Q x I) : JX11_comesBack Q 101 [a0, a1, a2] [aI x] I := g_zreturn dX11_comesBack_101 hx ⟨x, rfl, hq⟩
theorem dX11_comesBack_102 : decode cX11_comesBack 102 = .ok (.iload_n 2, 1) := by decide +kernel
theorem X11_comesBack_102 {Q : Int → z_M → Prop} {a0 a1 : z_V} {x : Int} {st : List z_V} {I : z_M} (k : JX11_comesBack Q 103 [a0, a1, aI x] (aI x :: st) I) : JX11_comesBack Q 102 [a0, a1, aI x] st I := g_iload_n (i := 2) (x := x) dX11_comesBack_102 rfl rfl k
theorem dX11_comesBack_103 : decode cX11_comesBack 103 = .ok (.ireturn, 1) := by decide +kernel
theorem X11_comesBack_103 {Q : Int → z_M → Prop} {a0 a1 a2 : z_V} {x : Int} {I : z_M} (hx : x = 0 ∨ x = 1 := by omega) (hq : Q x I) : JX11_comesBack Q 103 [a0, a1, a2] [aI x] I := g_zreturn dX11_comesBack_103 hx ⟨x, rfl, hq⟩
theorem dX11_isTaken_0 : decode cX11_isTaken 0 = .ok (.iconst 0, 1) := by decide +kernel
theorem X11_isTaken_0 {Q : Int → z_M → Prop} {a0 a1 a2 a3 : z_V} {st : List z_V} {I : z_M} (k : JX11_isTaken Q 1 [a0, a1, a2, a3] (aI 0 :: st) I) : JX11_isTaken Q 0 [a0, a1, a2, a3] st I := g_iconst (n := 0) dX11_isTaken_0 (by decide) k
theorem dX11_isTaken_1 : decode cX11_isTaken 1 = .ok (.istore_n 2, 1) := by decide +kernel
theorem X11_isTaken_1 {Q : Int → z_M → Prop} {a0 a1 a2 a3 : z_V} {x : Int} {st : List z_V} {I : z_M} (hb : z_nl [a0, a1, a2, a3] 2 = true := by rfl) (k : JX11_isTaken Q 2 [a0, a1, aI x, a3] st I) : JX11_isTaken Q 1 [a0, a1, a2, a3] (aI x :: st) I := g_istore_n (i := 2) (x := x) dX11_isTaken_1 rfl (show 2 < 4 from by decide) hb k
theorem dX11_isTaken_2 : decode cX11_isTaken 2 = .ok (.iconst 0, 1) := by decide +kernel
theorem X11_isTaken_2 {Q : Int → z_M → Prop} {a0 a1 a2 a3 : z_V} {st : List z_V} {I : z_M} (k : JX11_isTaken Q 3 [a0, a1, a2, a3] (aI 0 :: st) I) : JX11_isTaken Q 2 [a0, a1, a2, a3] st I := g_iconst (n := 0) dX11_isTaken_2 (by decide) k
theorem dX11_isTaken_3 : decode cX11_isTaken 3 = .ok (.istore_n 3, 1) := by decide +kernel
theorem X11_isTaken_3 {Q : Int → z_M → Prop} {a0 a1 a2 a3 : z_V} {x : Int} {st : List z_V} {I : z_M} (hb : z_nl [a0, a1, a2, a3] 3 = true := by rfl) (k : JX11_isTaken Q 4 [a0, a1, a2, aI x] st I) : JX11_isTaken Q 3 [a0, a1, a2, a3] (aI x :: st) I := g_istore_n (i := 3) (x := x) dX11_isTaken_3 rfl (show 3 < 4 from by decide) hb k
theorem dX11_isTaken_4 : decode cX11_isTaken 4 = .ok (.iload_n 3, 1) := by decide +kernel
theorem X11_isTaken_4 {Q : Int → z_M → Prop} {a0 a1 a2 : z_V} {x : Int} {st : List z_V} {I : z_M} (k : JX11_isTaken Q 5 [a0, a1, a2, aI x] (aI x :: st) I) : JX11_isTaken Q 4 [a0, a1, a2, aI x] st I := g_iload_n (i := 3) (x := x) dX11_isTaken_4 rfl rfl k
theorem dX11_isTaken_5 : decode cX11_isTaken 5 = .ok (.aload_n 0, 1) := by decide +kernel
theorem X11_isTaken_5 {Q : Int → z_M → Prop} {a1 a2 a3 : z_V} {x : Nat} {st : List z_V} {I : z_M} (k : JX11_isTaken Q 6 [aR x, a1, a2, a3] (aR x :: st) I) : JX11_isTaken Q 5 [aR x, a1, a2, a3] st I := g_aload_n (i := 0) (x := x) dX11_isTaken_5 rfl rfl k
theorem dX11_isTaken_6 : decode cX11_isTaken 6 = .ok (.invokevirtual 54, 3) := by decide +kernel
theorem X11_isTaken_6 {Q : Int → z_M → Prop} {a0 a1 a2 a3 : z_V}   {st : List z_V} {I : z_M}  (hst : z_sw st ≤ 8 := by exact Nat.le_of_ble_eq_true rfl) (k : CX11_pipes (aR 60 :: []) I (fun x9 I9 => JX11_isTaken Q 9 [a0, a1, a2, a3] (aI x9 :: st) I9)) : JX11_isTaken Q 6 [a0, a1, a2, a3] (aR 60 :: st) I := g_callV (C := RX11) (ci := 11) (As := []) (n := 0) dX11_isTaken_6 ⟨m_6_21, pdX11_pipes, ⟨by decide, by decide⟩, rfl, rfl, by decide, by decide⟩ m_6_18 m_6_19 m_6_20 m_1_5 rfl rfl (by decide) rfl rfl hst k (fun r I9 h => by obtain ⟨x9, rfl, h⟩ := h; exact h)
theorem dX11_isTaken_9 : decode cX11_isTaken 9 = .ok (.if_icmp .ge 29, 3) := by decide +kernel
theorem X11_isTaken_9 {Q : Int → z_M → Prop} {a0 a1 a2 a3 : z_V} {x y : Int} {st : List z_V} {I : z_M} (kt : y ≤ x → JX11_isTaken Q 38 [a0, a1, a2, a3] st I) (kf : x < y → JX11_isTaken Q 12 [a0, a1, a2, a3] st I) : JX11_isTaken Q 9 [a0, a1, a2, a3] (aI y :: aI x :: st) I := g_icmp_ge dX11_isTaken_9 (by decide) kt kf
theorem dX11_isTaken_12 : decode cX11_isTaken 12 = .ok (.iload_n 2, 1) := by decide +kernel
theorem X11_isTaken_12 {Q : Int → z_M → Prop} {a0 a1 a3 : z_V} {x : Int} {st : List z_V} {I : z_M} (k : JX11_isTaken Q 13 [a0, a1, aI x, a3] (aI x :: st) I) : JX11_isTaken Q 12 [a0, a1, aI x, a3] st I := g_iload_n (i := 2) (x := x) dX11_isTaken_12 rfl rfl k
theorem dX11_isTaken_13 : decode cX11_isTaken 13 = .ok (.ifCond .ne 13, 3) := by decide +kernel
theorem X11_isTaken_13 {Q : Int → z_M → Prop} {a0 a1 a2 a3 : z_V} {x : Int} {st : List z_V} {I : z_M} (kt : x ≠ 0 → JX11_isTaken Q 26 [a0, a1, a2, a3] st I) (kf : x = 0 → JX11_isTaken Q 16 [a0, a1, a2, a3] st I) : JX11_isTaken Q 13 [a0, a1, a2, a3] (aI x :: st) I := g_if_ne dX11_isTaken_13 (by decide) kt kf
theorem dX11_isTaken_16 : decode cX11_isTaken 16 = .ok (.aload_n 0, 1) := by decide +kernel
theorem X11_isTaken_16 {Q : Int → z_M → Prop} {a1 a2 a3 : z_V} {x : Nat} {st : List z_V} {I : z_M} (k : JX11_isTaken Q 17 [aR x, a1, a2, a3] (aR x :: st) I) : JX11_isTaken Q 16 [aR x, a1, a2, a3] st I := g_aload_n (i := 0) (x := x) dX11_isTaken_16 rfl rfl k
theorem dX11_isTaken_17 : decode cX11_isTaken 17 = .ok (.getfield 30, 3) := by decide +kernel
theorem X11_isTaken_17 {Q : Int → z_M → Prop} {a0 a1 a2 a3 : z_V}  {st : List z_V} {I : z_M}  (k : JX11_isTaken Q 20 [a0, a1, a2, a3] (aR (66) :: st) I) : JX11_isTaken Q 17 [a0, a1, a2, a3] (aR 60 :: st) I := g_getr (ci := 11) (j := 8) (N := 23) (T := TX11) dX11_isTaken_17 rfl rfl (by decide) (z_nc11 rfl) inlX11 (by decide) m_5_7 rfl rfl k
theorem dX11_isTaken_20 : decode cX11_isTaken 20 = .ok (.iload_n 3, 1) := by decide +kernel
theorem X11_isTaken_20 {Q : Int → z_M → Prop} {a0 a1 a2 : z_V} {x : Int} {st : List z_V} {I : z_M} (k : JX11_isTaken Q 21 [a0, a1, a2, aI x] (aI x :: st) I) : JX11_isTaken Q 20 [a0, a1, a2, aI x] st I := g_iload_n (i := 3) (x := x) dX11_isTaken_20 rfl rfl k
theorem dX11_isTaken_21 : decode cX11_isTaken 21 = .ok (.iaload, 1) := by decide +kernel
theorem X11_isTaken_21 {Q : Int → z_M → Prop} {a0 a1 a2 a3 : z_V} {q : Nat} {i : Int} {st : List z_V} {I : z_M} (hk : z_cl q = 20 := by first | assumption | rfl) (h0 : 0 ≤ i := by omega) (h1 : i < z_n q := by first | omega | (simp only [zn_1, zn_9, zn_10, zn_11, zn_12, zn_13, zn_14, zn_15, zn_16, zn_18, zn_20, zn_21, zn_22, zn_23, zn_24, zn_25, zn_26, zn_27, zn_29, zn_30, zn_53, zn_55, zn_56, zn_58, zn_59, zn_61, zn_62, zn_63, zn_64, zn_65, zn_66, zn_67, zn_68, zn_69, zn_70, zn_71, zn_72, zn_73]; omega)) (k : JX11_isTaken Q 22 [a0, a1, a2, a3] (aI (I q i.toNat) :: st) I) : JX11_isTaken Q 21 [a0, a1, a2, a3] (aI i :: aR q :: st) I := g_iald dX11_isTaken_21 hk h0 h1 k
theorem dX11_isTaken_22 : decode cX11_isTaken 22 = .ok (.iload_n 1, 1) := by decide +kernel
theorem X11_isTaken_22 {Q : Int → z_M → Prop} {a0 a2 a3 : z_V} {x : Int} {st : List z_V} {I : z_M} (k : JX11_isTaken Q 23 [a0, aI x, a2, a3] (aI x :: st) I) : JX11_isTaken Q 22 [a0, aI x, a2, a3] st I := g_iload_n (i := 1) (x := x) dX11_isTaken_22 rfl rfl k
theorem dX11_isTaken_23 : decode cX11_isTaken 23 = .ok (.if_icmp .ne 7, 3) := by decide +kernel
theorem X11_isTaken_23 {Q : Int → z_M → Prop} {a0 a1 a2 a3 : z_V} {x y : Int} {st : List z_V} {I : z_M} (kt : x ≠ y → JX11_isTaken Q 30 [a0, a1, a2, a3] st I) (kf : x = y → JX11_isTaken Q 26 [a0, a1, a2, a3] st I) : JX11_isTaken Q 23 [a0, a1, a2, a3] (aI y :: aI x :: st) I := g_icmp_ne dX11_isTaken_23 (by decide) kt kf
theorem dX11_isTaken_26 : decode cX11_isTaken 26 = .ok (.iconst 1, 1) := by decide +kernel
theorem X11_isTaken_26 {Q : Int → z_M → Prop} {a0 a1 a2 a3 : z_V} {st : List z_V} {I : z_M} (k : JX11_isTaken Q 27 [a0, a1, a2, a3] (aI 1 :: st) I) : JX11_isTaken Q 26 [a0, a1, a2, a3] st I := g_iconst (n := 1) dX11_isTaken_26 (by decide) k
theorem dX11_isTaken_27 : decode cX11_isTaken 27 = .ok (.goto 4, 3) := by decide +kernel
theorem X11_isTaken_27 {Q : Int → z_M → Prop} {a0 a1 a2 a3 : z_V} {st : List z_V} {I : z_M} (k : JX11_isTaken Q 31 [a0, a1, a2, a3] st I) : JX11_isTaken Q 27 [a0, a1, a2, a3] st I := g_goto dX11_isTaken_27 (by decide) k
theorem dX11_isTaken_30 : decode cX11_isTaken 30 = .ok (.iconst 0, 1) := by decide +kernel
theorem X11_isTaken_30 {Q : Int → z_M → Prop} {a0 a1 a2 a3 : z_V} {st : List z_V} {I : z_M} (k : JX11_isTaken Q 31 [a0, a1, a2, a3] (aI 0 :: st) I) : JX11_isTaken Q 30 [a0, a1, a2, a3] st I := g_iconst (n := 0) dX11_isTaken_30 (by decide) k
theorem dX11_isTaken_31 : decode cX11_isTaken 31 = .ok (.istore_n 2, 1) := by decide +kernel
theorem X11_isTaken_31 {Q : Int → z_M → Prop} {a0 a1 a2 a3 : z_V} {x : Int} {st : List z_V} {I : z_M} (hb : z_nl [a0, a1, a2, a3] 2 = true := by rfl) (k : JX11_isTaken Q 32 [a0, a1, aI x, a3] st I) : JX11_isTaken Q 31 [a0, a1, a2, a3] (aI x :: st) I := g_istore_n (i := 2) (x := x) dX11_isTaken_31 rfl (show 2 < 4 from by decide) hb k
theorem dX11_isTaken_32 : decode cX11_isTaken 32 = .ok (.iinc 3 1, 3) := by decide +kernel
theorem X11_isTaken_32 {Q : Int → z_M → Prop} {a0 a1 a2 : z_V} {x : Int} {st : List z_V} {I : z_M} (hb : z_nl [a0, a1, a2, aI x] 3 = true := by rfl) (hr : inI (x + 1) := by omega) (k : JX11_isTaken Q 35 [a0, a1, a2, aI (x + 1)] st I) : JX11_isTaken Q 32 [a0, a1, a2, aI x] st I := g_iinc (i := 3) (x := x) dX11_isTaken_32 rfl (show 3 < 4 from by decide) hb hr k
theorem dX11_isTaken_35 : decode cX11_isTaken 35 = .ok (.goto (-31), 3) := by decide +kernel
theorem X11_isTaken_35 {Q : Int → z_M → Prop} {a0 a1 a2 a3 : z_V} {st : List z_V} {I : z_M} (k : JX11_isTaken Q 4 [a0, a1, a2, a3] st I) : JX11_isTaken Q 35 [a0, a1, a2, a3] st I := g_goto dX11_isTaken_35 (by decide) k
theorem dX11_isTaken_38 : decode cX11_isTaken 38 = .ok (.iload_n 2, 1) := by decide +kernel
theorem X11_isTaken_38 {Q : Int → z_M → Prop} {a0 a1 a3 : z_V} {x : Int} {st : List z_V} {I : z_M} (k : JX11_isTaken Q 39 [a0, a1, aI x, a3] (aI x :: st) I) : JX11_isTaken Q 38 [a0, a1, aI x, a3] st I := g_iload_n (i := 2) (x := x) dX11_isTaken_38 rfl rfl k
theorem dX11_isTaken_39 : decode cX11_isTaken 39 = .ok (.ireturn, 1) := by decide +kernel
theorem X11_isTaken_39 {Q : Int → z_M → Prop} {a0 a1 a2 a3 : z_V} {x : Int} {I : z_M} (hx : x = 0 ∨ x = 1 := by omega) (hq : Q x I) : JX11_isTaken Q 39 [a0, a1, a2, a3] [aI x] I := g_zreturn dX11_isTaken_39 hx ⟨x, rfl, hq⟩
theorem dX11_placeFor_0 : decode cX11_placeFor 0 = .ok (.iconst 0, 1) := by decide +kernel
theorem X11_placeFor_0 {Q : Int → z_M → Prop} {a0 a1 a2 : z_V} {st : List z_V} {I : z_M} (k : JX11_placeFor Q 1 [a0, a1, a2] (aI 0 :: st) I) : JX11_placeFor Q 0 [a0, a1, a2] st I := g_iconst (n := 0) dX11_placeFor_0 (by decide) k
theorem dX11_placeFor_1 : decode cX11_placeFor 1 = .ok (.istore_n 2, 1) := by decide +kernel
theorem X11_placeFor_1 {Q : Int → z_M → Prop} {a0 a1 a2 : z_V} {x : Int} {st : List z_V} {I : z_M} (hb : z_nl [a0, a1, a2] 2 = true := by rfl) (k : JX11_placeFor Q 2 [a0, a1, aI x] st I) : JX11_placeFor Q 1 [a0, a1, a2] (aI x :: st) I := g_istore_n (i := 2) (x := x) dX11_placeFor_1 rfl (show 2 < 3 from by decide) hb k
theorem dX11_placeFor_2 : decode cX11_placeFor 2 = .ok (.iload_n 2, 1) := by decide +kernel
theorem X11_placeFor_2 {Q : Int → z_M → Prop} {a0 a1 : z_V} {x : Int} {st : List z_V} {I : z_M} (k : JX11_placeFor Q 3 [a0, a1, aI x] (aI x :: st) I) : JX11_placeFor Q 2 [a0, a1, aI x] st I := g_iload_n (i := 2) (x := x) dX11_placeFor_2 rfl rfl k
theorem dX11_placeFor_3 : decode cX11_placeFor 3 = .ok (.aload_n 0, 1) := by decide +kernel
theorem X11_placeFor_3 {Q : Int → z_M → Prop} {a1 a2 : z_V} {x : Nat} {st : List z_V} {I : z_M} (k : JX11_placeFor Q 4 [aR x, a1, a2] (aR x :: st) I) : JX11_placeFor Q 3 [aR x, a1, a2] st I := g_aload_n (i := 0) (x := x) dX11_placeFor_3 rfl rfl k
theorem dX11_placeFor_4 : decode cX11_placeFor 4 = .ok (.invokevirtual 62, 3) := by decide +kernel
theorem X11_placeFor_4 {Q : Int → z_M → Prop} {a0 a1 a2 : z_V}   {st : List z_V} {I : z_M}  (hst : z_sw st ≤ 8 := by exact Nat.le_of_ble_eq_true rfl) (k : CX11_places (aR 60 :: []) I (fun x9 I9 => JX11_placeFor Q 7 [a0, a1, a2] (aI x9 :: st) I9)) : JX11_placeFor Q 4 [a0, a1, a2] (aR 60 :: st) I := g_callV (C := RX11) (ci := 11) (As := []) (n := 0) dX11_placeFor_4 ⟨m_8_19, pdX11_places, ⟨by decide, by decide⟩, rfl, rfl, by decide, by decide⟩ m_8_16 m_8_17 m_8_18 m_1_5 rfl rfl (by decide) rfl rfl hst k (fun r I9 h => by obtain ⟨x9, rfl, h⟩ := h; exact h)
theorem dX11_placeFor_7 : decode cX11_placeFor 7 = .ok (.if_icmp .ge 45, 3) := by decide +kernel
theorem X11_placeFor_7 {Q : Int → z_M → Prop} {a0 a1 a2 : z_V} {x y : Int} {st : List z_V} {I : z_M} (kt : y ≤ x → JX11_placeFor Q 52 [a0, a1, a2] st I) (kf : x < y → JX11_placeFor Q 10 [a0, a1, a2] st I) : JX11_placeFor Q 7 [a0, a1, a2] (aI y :: aI x :: st) I := g_icmp_ge dX11_placeFor_7 (by decide) kt kf
theorem dX11_placeFor_10 : decode cX11_placeFor 10 = .ok (.aload_n 0, 1) := by decide +kernel
theorem X11_placeFor_10 {Q : Int → z_M → Prop} {a1 a2 : z_V} {x : Nat} {st : List z_V} {I : z_M} (k : JX11_placeFor Q 11 [aR x, a1, a2] (aR x :: st) I) : JX11_placeFor Q 10 [aR x, a1, a2] st I := g_aload_n (i := 0) (x := x) dX11_placeFor_10 rfl rfl k
theorem dX11_placeFor_11 : decode cX11_placeFor 11 = .ok (.getfield 36, 3) := by decide +kernel
theorem X11_placeFor_11 {Q : Int → z_M → Prop} {a0 a1 a2 : z_V}  {st : List z_V} {I : z_M}  (k : JX11_placeFor Q 14 [a0, a1, a2] (aR (68) :: st) I) : JX11_placeFor Q 11 [a0, a1, a2] (aR 60 :: st) I := g_getr (ci := 11) (j := 10) (N := 23) (T := TX11) dX11_placeFor_11 rfl rfl (by decide) (z_nc11 rfl) inlX11 (by decide) m_5_9 rfl rfl k
theorem dX11_placeFor_14 : decode cX11_placeFor 14 = .ok (.iload_n 2, 1) := by decide +kernel
theorem X11_placeFor_14 {Q : Int → z_M → Prop} {a0 a1 : z_V} {x : Int} {st : List z_V} {I : z_M} (k : JX11_placeFor Q 15 [a0, a1, aI x] (aI x :: st) I) : JX11_placeFor Q 14 [a0, a1, aI x] st I := g_iload_n (i := 2) (x := x) dX11_placeFor_14 rfl rfl k
theorem dX11_placeFor_15 : decode cX11_placeFor 15 = .ok (.iaload, 1) := by decide +kernel
theorem X11_placeFor_15 {Q : Int → z_M → Prop} {a0 a1 a2 : z_V} {q : Nat} {i : Int} {st : List z_V} {I : z_M} (hk : z_cl q = 20 := by first | assumption | rfl) (h0 : 0 ≤ i := by omega) (h1 : i < z_n q := by first | omega | (simp only [zn_1, zn_9, zn_10, zn_11, zn_12, zn_13, zn_14, zn_15, zn_16, zn_18, zn_20, zn_21, zn_22, zn_23, zn_24, zn_25, zn_26, zn_27, zn_29, zn_30, zn_53, zn_55, zn_56, zn_58, zn_59, zn_61, zn_62, zn_63, zn_64, zn_65, zn_66, zn_67, zn_68, zn_69, zn_70, zn_71, zn_72, zn_73]; omega)) (k : JX11_placeFor Q 16 [a0, a1, a2] (aI (I q i.toNat) :: st) I) : JX11_placeFor Q 15 [a0, a1, a2] (aI i :: aR q :: st) I := g_iald dX11_placeFor_15 hk h0 h1 k
theorem dX11_placeFor_16 : decode cX11_placeFor 16 = .ok (.aload_n 0, 1) := by decide +kernel
theorem X11_placeFor_16 {Q : Int → z_M → Prop} {a1 a2 : z_V} {x : Nat} {st : List z_V} {I : z_M} (k : JX11_placeFor Q 17 [aR x, a1, a2] (aR x :: st) I) : JX11_placeFor Q 16 [aR x, a1, a2] st I := g_aload_n (i := 0) (x := x) dX11_placeFor_16 rfl rfl k
theorem dX11_placeFor_17 : decode cX11_placeFor 17 = .ok (.iload_n 1, 1) := by decide +kernel
theorem X11_placeFor_17 {Q : Int → z_M → Prop} {a0 a2 : z_V} {x : Int} {st : List z_V} {I : z_M} (k : JX11_placeFor Q 18 [a0, aI x, a2] (aI x :: st) I) : JX11_placeFor Q 17 [a0, aI x, a2] st I := g_iload_n (i := 1) (x := x) dX11_placeFor_17 rfl rfl k
theorem dX11_placeFor_18 : decode cX11_placeFor 18 = .ok (.iconst 1, 1) := by decide +kernel
theorem X11_placeFor_18 {Q : Int → z_M → Prop} {a0 a1 a2 : z_V} {st : List z_V} {I : z_M} (k : JX11_placeFor Q 19 [a0, a1, a2] (aI 1 :: st) I) : JX11_placeFor Q 18 [a0, a1, a2] st I := g_iconst (n := 1) dX11_placeFor_18 (by decide) k
theorem dX11_placeFor_19 : decode cX11_placeFor 19 = .ok (.invokevirtual 115, 3) := by decide +kernel
theorem X11_placeFor_19 {Q : Int → z_M → Prop} {a0 a1 a2 : z_V}  {x0 : Int} {x1 : Int} {st : List z_V} {I : z_M}  (hst : z_sw st ≤ 8 := by exact Nat.le_of_ble_eq_true rfl) (k : CX11_pipeHas (aR 60 :: [aI x0, aI x1]) I (fun x9 I9 => JX11_placeFor Q 22 [a0, a1, a2] (aI x9 :: st) I9)) : JX11_placeFor Q 19 [a0, a1, a2] (aI x1 :: aI x0 :: aR 60 :: st) I := g_callV (C := RX11) (ci := 11) (As := [aI x0, aI x1]) (n := 2) dX11_placeFor_19 ⟨m_24_0, pdX11_pipeHas, ⟨by decide, by decide⟩, rfl, rfl, by decide, by decide⟩ m_23_21 m_23_22 m_23_23 m_1_5 rfl rfl (by decide) rfl rfl hst k (fun r I9 h => by obtain ⟨x9, rfl, h⟩ := h; exact h)
theorem dX11_placeFor_22 : decode cX11_placeFor 22 = .ok (.bipush 12, 2) := by decide +kernel
theorem X11_placeFor_22 {Q : Int → z_M → Prop} {a0 a1 a2 : z_V} {st : List z_V} {I : z_M} (k : JX11_placeFor Q 24 [a0, a1, a2] (aI 12 :: st) I) : JX11_placeFor Q 22 [a0, a1, a2] st I := g_bipush (n := 12) dX11_placeFor_22 (by decide +kernel) (by decide) k
theorem dX11_placeFor_24 : decode cX11_placeFor 24 = .ok (.irem, 1) := by decide +kernel
theorem X11_placeFor_24 {Q : Int → z_M → Prop} {a0 a1 a2 : z_V} {x y : Int} {st : List z_V} {I : z_M} (hy : y ≠ 0 := by omega) (k : JX11_placeFor Q 25 [a0, a1, a2] (aI (x.tmod y) :: st) I) : JX11_placeFor Q 24 [a0, a1, a2] (aI y :: aI x :: st) I := g_irem dX11_placeFor_24 hy k
theorem dX11_placeFor_25 : decode cX11_placeFor 25 = .ok (.if_icmp .ne 21, 3) := by decide +kernel
theorem X11_placeFor_25 {Q : Int → z_M → Prop} {a0 a1 a2 : z_V} {x y : Int} {st : List z_V} {I : z_M} (kt : x ≠ y → JX11_placeFor Q 46 [a0, a1, a2] st I) (kf : x = y → JX11_placeFor Q 28 [a0, a1, a2] st I) : JX11_placeFor Q 25 [a0, a1, a2] (aI y :: aI x :: st) I := g_icmp_ne dX11_placeFor_25 (by decide) kt kf
theorem dX11_placeFor_28 : decode cX11_placeFor 28 = .ok (.aload_n 0, 1) := by decide +kernel
theorem X11_placeFor_28 {Q : Int → z_M → Prop} {a1 a2 : z_V} {x : Nat} {st : List z_V} {I : z_M} (k : JX11_placeFor Q 29 [aR x, a1, a2] (aR x :: st) I) : JX11_placeFor Q 28 [aR x, a1, a2] st I := g_aload_n (i := 0) (x := x) dX11_placeFor_28 rfl rfl k
theorem dX11_placeFor_29 : decode cX11_placeFor 29 = .ok (.iload_n 2, 1) := by decide +kernel
theorem X11_placeFor_29 {Q : Int → z_M → Prop} {a0 a1 : z_V} {x : Int} {st : List z_V} {I : z_M} (k : JX11_placeFor Q 30 [a0, a1, aI x] (aI x :: st) I) : JX11_placeFor Q 29 [a0, a1, aI x] st I := g_iload_n (i := 2) (x := x) dX11_placeFor_29 rfl rfl k
theorem dX11_placeFor_30 : decode cX11_placeFor 30 = .ok (.invokevirtual 129, 3) := by decide +kernel
theorem X11_placeFor_30 {Q : Int → z_M → Prop} {a0 a1 a2 : z_V}  {x0 : Int} {st : List z_V} {I : z_M}  (hst : z_sw st ≤ 8 := by exact Nat.le_of_ble_eq_true rfl) (k : CX11_isWished (aR 60 :: [aI x0]) I (fun x9 I9 => JX11_placeFor Q 33 [a0, a1, a2] (aI x9 :: st) I9)) : JX11_placeFor Q 30 [a0, a1, a2] (aI x0 :: aR 60 :: st) I := g_callV (C := RX11) (ci := 11) (As := [aI x0]) (n := 1) dX11_placeFor_30 ⟨m_24_21, pdX11_isWished, ⟨by decide, by decide⟩, rfl, rfl, by decide, by decide⟩ m_24_18 m_24_19 m_24_20 m_1_5 rfl rfl (by decide) rfl rfl hst k (fun r I9 h => by obtain ⟨x9, rfl, h⟩ := h; exact h)
theorem dX11_placeFor_33 : decode cX11_placeFor 33 = .ok (.ifCond .eq 13, 3) := by decide +kernel
theorem X11_placeFor_33 {Q : Int → z_M → Prop} {a0 a1 a2 : z_V} {x : Int} {st : List z_V} {I : z_M} (kt : x = 0 → JX11_placeFor Q 46 [a0, a1, a2] st I) (kf : x ≠ 0 → JX11_placeFor Q 36 [a0, a1, a2] st I) : JX11_placeFor Q 33 [a0, a1, a2] (aI x :: st) I := g_if_eq dX11_placeFor_33 (by decide) kt kf
theorem dX11_placeFor_36 : decode cX11_placeFor 36 = .ok (.aload_n 0, 1) := by decide +kernel
theorem X11_placeFor_36 {Q : Int → z_M → Prop} {a1 a2 : z_V} {x : Nat} {st : List z_V} {I : z_M} (k : JX11_placeFor Q 37 [aR x, a1, a2] (aR x :: st) I) : JX11_placeFor Q 36 [aR x, a1, a2] st I := g_aload_n (i := 0) (x := x) dX11_placeFor_36 rfl rfl k
theorem dX11_placeFor_37 : decode cX11_placeFor 37 = .ok (.iload_n 2, 1) := by decide +kernel
theorem X11_placeFor_37 {Q : Int → z_M → Prop} {a0 a1 : z_V} {x : Int} {st : List z_V} {I : z_M} (k : JX11_placeFor Q 38 [a0, a1, aI x] (aI x :: st) I) : JX11_placeFor Q 37 [a0, a1, aI x] st I := g_iload_n (i := 2) (x := x) dX11_placeFor_37 rfl rfl k
theorem dX11_placeFor_38 : decode cX11_placeFor 38 = .ok (.invokevirtual 132, 3) := by decide +kernel
theorem X11_placeFor_38 {Q : Int → z_M → Prop} {a0 a1 a2 : z_V}  {x0 : Int} {st : List z_V} {I : z_M}  (hst : z_sw st ≤ 8 := by exact Nat.le_of_ble_eq_true rfl) (k : CX11_isTaken (aR 60 :: [aI x0]) I (fun x9 I9 => JX11_placeFor Q 41 [a0, a1, a2] (aI x9 :: st) I9)) : JX11_placeFor Q 38 [a0, a1, a2] (aI x0 :: aR 60 :: st) I := g_callV (C := RX11) (ci := 11) (As := [aI x0]) (n := 1) dX11_placeFor_38 ⟨m_25_17, pdX11_isTaken, ⟨by decide, by decide⟩, rfl, rfl, by decide, by decide⟩ m_25_14 m_25_15 m_25_16 m_1_5 rfl rfl (by decide) rfl rfl hst k (fun r I9 h => by obtain ⟨x9, rfl, h⟩ := h; exact h)
theorem dX11_placeFor_41 : decode cX11_placeFor 41 = .ok (.ifCond .ne 5, 3) := by decide +kernel
theorem X11_placeFor_41 {Q : Int → z_M → Prop} {a0 a1 a2 : z_V} {x : Int} {st : List z_V} {I : z_M} (kt : x ≠ 0 → JX11_placeFor Q 46 [a0, a1, a2] st I) (kf : x = 0 → JX11_placeFor Q 44 [a0, a1, a2] st I) : JX11_placeFor Q 41 [a0, a1, a2] (aI x :: st) I := g_if_ne dX11_placeFor_41 (by decide) kt kf
theorem dX11_placeFor_44 : decode cX11_placeFor 44 = .ok (.iload_n 2, 1) := by decide +kernel
theorem X11_placeFor_44 {Q : Int → z_M → Prop} {a0 a1 : z_V} {x : Int} {st : List z_V} {I : z_M} (k : JX11_placeFor Q 45 [a0, a1, aI x] (aI x :: st) I) : JX11_placeFor Q 44 [a0, a1, aI x] st I := g_iload_n (i := 2) (x := x) dX11_placeFor_44 rfl rfl k
theorem dX11_placeFor_45 : decode cX11_placeFor 45 = .ok (.ireturn, 1) := by decide +kernel
theorem X11_placeFor_45 {Q : Int → z_M → Prop} {a0 a1 a2 : z_V} {x : Int} {I : z_M} (hq : Q x I) : JX11_placeFor Q 45 [a0, a1, a2] [aI x] I := g_ireturn dX11_placeFor_45 ⟨x, rfl, hq⟩
theorem dX11_placeFor_46 : decode cX11_placeFor 46 = .ok (.iinc 2 1, 3) := by decide +kernel
theorem X11_placeFor_46 {Q : Int → z_M → Prop} {a0 a1 : z_V} {x : Int} {st : List z_V} {I : z_M} (hb : z_nl [a0, a1, aI x] 2 = true := by rfl) (hr : inI (x + 1) := by omega) (k : JX11_placeFor Q 49 [a0, a1, aI (x + 1)] st I) : JX11_placeFor Q 46 [a0, a1, aI x] st I := g_iinc (i := 2) (x := x) dX11_placeFor_46 rfl (show 2 < 3 from by decide) hb hr k
theorem dX11_placeFor_49 : decode cX11_placeFor 49 = .ok (.goto (-47), 3) := by decide +kernel
theorem X11_placeFor_49 {Q : Int → z_M → Prop} {a0 a1 a2 : z_V} {st : List z_V} {I : z_M} (k : JX11_placeFor Q 2 [a0, a1, a2] st I) : JX11_placeFor Q 49 [a0, a1, a2] st I := g_goto dX11_placeFor_49 (by decide) k
theorem dX11_placeFor_52 : decode cX11_placeFor 52 = .ok (.iconst (-1), 1) := by decide +kernel
theorem X11_placeFor_52 {Q : Int → z_M → Prop} {a0 a1 a2 : z_V} {st : List z_V} {I : z_M} (k : JX11_placeFor Q 53 [a0, a1, a2] (aI (-1) :: st) I) : JX11_placeFor Q 52 [a0, a1, a2] st I := g_iconst (n := (-1)) dX11_placeFor_52 (by decide) k
theorem dX11_placeFor_53 : decode cX11_placeFor 53 = .ok (.ireturn, 1) := by decide +kernel
theorem X11_placeFor_53 {Q : Int → z_M → Prop} {a0 a1 a2 : z_V} {x : Int} {I : z_M} (hq : Q x I) : JX11_placeFor Q 53 [a0, a1, a2] [aI x] I := g_ireturn dX11_placeFor_53 ⟨x, rfl, hq⟩
theorem dX11_goHour_0 : decode cX11_goHour 0 = .ok (.aload_n 0, 1) := by decide +kernel
theorem X11_goHour_0 {Q : z_M → Prop} {a1 : z_V} {x : Nat} {st : List z_V} {I : z_M} (k : JX11_goHour Q 1 [aR x, a1] (aR x :: st) I) : JX11_goHour Q 0 [aR x, a1] st I := g_aload_n (i := 0) (x := x) dX11_goHour_0 rfl rfl k
theorem dX11_goHour_1 : decode cX11_goHour 1 = .ok (.dup, 1) := by decide +kernel
theorem X11_goHour_1 {Q : z_M → Prop} {a0 a1 : z_V} {x : z_V} {st : List z_V} {I : z_M} (hx : ∀ z, x ≠ aL z := by intro z q; cases q) (k : JX11_goHour Q 2 [a0, a1] (x :: x :: st) I) : JX11_goHour Q 1 [a0, a1] (x :: st) I := g_dup dX11_goHour_1 hx k
theorem dX11_goHour_2 : decode cX11_goHour 2 = .ok (.getfield 111, 3) := by decide +kernel
theorem X11_goHour_2 {Q : z_M → Prop} {a0 a1 : z_V}  {st : List z_V} {I : z_M}  (k : JX11_goHour Q 5 [a0, a1] (aI (I 60 6) :: st) I) : JX11_goHour Q 2 [a0, a1] (aR 60 :: st) I := g_geti (ci := 11) (j := 6) (N := 23) (T := TX11) dX11_goHour_2 rfl rfl (by decide) (z_nc11 rfl) inlX11 (by decide) m_24_5 rfl k
theorem dX11_goHour_5 : decode cX11_goHour 5 = .ok (.iconst 1, 1) := by decide +kernel
theorem X11_goHour_5 {Q : z_M → Prop} {a0 a1 : z_V} {st : List z_V} {I : z_M} (k : JX11_goHour Q 6 [a0, a1] (aI 1 :: st) I) : JX11_goHour Q 5 [a0, a1] st I := g_iconst (n := 1) dX11_goHour_5 (by decide) k
theorem dX11_goHour_6 : decode cX11_goHour 6 = .ok (.iadd, 1) := by decide +kernel
theorem X11_goHour_6 {Q : z_M → Prop} {a0 a1 : z_V} {x y : Int} {st : List z_V} {I : z_M} (hr : inI (x + y) := by omega) (k : JX11_goHour Q 7 [a0, a1] (aI (x + y) :: st) I) : JX11_goHour Q 6 [a0, a1] (aI y :: aI x :: st) I := g_iadd dX11_goHour_6 hr k
theorem X11_goHour_6w {Q : z_M → Prop} {a0 a1 : z_V} {x y : Int} {st : List z_V} {I : z_M} (k : JX11_goHour Q 7 [a0, a1] (aI (i32 (x + y)) :: st) I) : JX11_goHour Q 6 [a0, a1] (aI y :: aI x :: st) I := g_iaddw dX11_goHour_6 k
theorem dX11_goHour_7 : decode cX11_goHour 7 = .ok (.putfield 111, 3) := by decide +kernel
theorem X11_goHour_7 {Q : z_M → Prop} {a0 a1 : z_V}  {x : Int} {st : List z_V} {I : z_M}  (k : JX11_goHour Q 10 [a0, a1] st (z_up I 60 6 x)) : JX11_goHour Q 7 [a0, a1] (aI x :: aR 60 :: st) I := g_puti (ci := 11) (j := 6) (N := 23) (T := TX11) dX11_goHour_7 rfl rfl (by decide) (z_nc11 rfl) inlX11 tyX11_ok nmX11 (by decide) m_24_5 rfl (tyX11_ok 6 (by decide)) rfl k
theorem dX11_goHour_10 : decode cX11_goHour 10 = .ok (.iconst 0, 1) := by decide +kernel
theorem X11_goHour_10 {Q : z_M → Prop} {a0 a1 : z_V} {st : List z_V} {I : z_M} (k : JX11_goHour Q 11 [a0, a1] (aI 0 :: st) I) : JX11_goHour Q 10 [a0, a1] st I := g_iconst (n := 0) dX11_goHour_10 (by decide) k
theorem dX11_goHour_11 : decode cX11_goHour 11 = .ok (.istore_n 1, 1) := by decide +kernel
theorem X11_goHour_11 {Q : z_M → Prop} {a0 a1 : z_V} {x : Int} {st : List z_V} {I : z_M} (hb : z_nl [a0, a1] 1 = true := by rfl) (k : JX11_goHour Q 12 [a0, aI x] st I) : JX11_goHour Q 11 [a0, a1] (aI x :: st) I := g_istore_n (i := 1) (x := x) dX11_goHour_11 rfl (show 1 < 2 from by decide) hb k
theorem dX11_goHour_12 : decode cX11_goHour 12 = .ok (.iload_n 1, 1) := by decide +kernel
theorem X11_goHour_12 {Q : z_M → Prop} {a0 : z_V} {x : Int} {st : List z_V} {I : z_M} (k : JX11_goHour Q 13 [a0, aI x] (aI x :: st) I) : JX11_goHour Q 12 [a0, aI x] st I := g_iload_n (i := 1) (x := x) dX11_goHour_12 rfl rfl k
theorem dX11_goHour_13 : decode cX11_goHour 13 = .ok (.aload_n 0, 1) := by decide +kernel
theorem X11_goHour_13 {Q : z_M → Prop} {a1 : z_V} {x : Nat} {st : List z_V} {I : z_M} (k : JX11_goHour Q 14 [aR x, a1] (aR x :: st) I) : JX11_goHour Q 13 [aR x, a1] st I := g_aload_n (i := 0) (x := x) dX11_goHour_13 rfl rfl k
theorem dX11_goHour_14 : decode cX11_goHour 14 = .ok (.invokevirtual 54, 3) := by decide +kernel
theorem X11_goHour_14 {Q : z_M → Prop} {a0 a1 : z_V}   {st : List z_V} {I : z_M}  (hst : z_sw st ≤ 8 := by exact Nat.le_of_ble_eq_true rfl) (k : CX11_pipes (aR 60 :: []) I (fun x9 I9 => JX11_goHour Q 17 [a0, a1] (aI x9 :: st) I9)) : JX11_goHour Q 14 [a0, a1] (aR 60 :: st) I := g_callV (C := RX11) (ci := 11) (As := []) (n := 0) dX11_goHour_14 ⟨m_6_21, pdX11_pipes, ⟨by decide, by decide⟩, rfl, rfl, by decide, by decide⟩ m_6_18 m_6_19 m_6_20 m_1_5 rfl rfl (by decide) rfl rfl hst k (fun r I9 h => by obtain ⟨x9, rfl, h⟩ := h; exact h)
theorem dX11_goHour_17 : decode cX11_goHour 17 = .ok (.if_icmp .ge 73, 3) := by decide +kernel
theorem X11_goHour_17 {Q : z_M → Prop} {a0 a1 : z_V} {x y : Int} {st : List z_V} {I : z_M} (kt : y ≤ x → JX11_goHour Q 90 [a0, a1] st I) (kf : x < y → JX11_goHour Q 20 [a0, a1] st I) : JX11_goHour Q 17 [a0, a1] (aI y :: aI x :: st) I := g_icmp_ge dX11_goHour_17 (by decide) kt kf
theorem dX11_goHour_20 : decode cX11_goHour 20 = .ok (.aload_n 0, 1) := by decide +kernel
theorem X11_goHour_20 {Q : z_M → Prop} {a1 : z_V} {x : Nat} {st : List z_V} {I : z_M} (k : JX11_goHour Q 21 [aR x, a1] (aR x :: st) I) : JX11_goHour Q 20 [aR x, a1] st I := g_aload_n (i := 0) (x := x) dX11_goHour_20 rfl rfl k
theorem dX11_goHour_21 : decode cX11_goHour 21 = .ok (.getfield 30, 3) := by decide +kernel
theorem X11_goHour_21 {Q : z_M → Prop} {a0 a1 : z_V}  {st : List z_V} {I : z_M}  (k : JX11_goHour Q 24 [a0, a1] (aR (66) :: st) I) : JX11_goHour Q 21 [a0, a1] (aR 60 :: st) I := g_getr (ci := 11) (j := 8) (N := 23) (T := TX11) dX11_goHour_21 rfl rfl (by decide) (z_nc11 rfl) inlX11 (by decide) m_5_7 rfl rfl k
theorem dX11_goHour_24 : decode cX11_goHour 24 = .ok (.iload_n 1, 1) := by decide +kernel
theorem X11_goHour_24 {Q : z_M → Prop} {a0 : z_V} {x : Int} {st : List z_V} {I : z_M} (k : JX11_goHour Q 25 [a0, aI x] (aI x :: st) I) : JX11_goHour Q 24 [a0, aI x] st I := g_iload_n (i := 1) (x := x) dX11_goHour_24 rfl rfl k
theorem dX11_goHour_25 : decode cX11_goHour 25 = .ok (.iaload, 1) := by decide +kernel
theorem X11_goHour_25 {Q : z_M → Prop} {a0 a1 : z_V} {q : Nat} {i : Int} {st : List z_V} {I : z_M} (hk : z_cl q = 20 := by first | assumption | rfl) (h0 : 0 ≤ i := by omega) (h1 : i < z_n q := by first | omega | (simp only [zn_1, zn_9, zn_10, zn_11, zn_12, zn_13, zn_14, zn_15, zn_16, zn_18, zn_20, zn_21, zn_22, zn_23, zn_24, zn_25, zn_26, zn_27, zn_29, zn_30, zn_53, zn_55, zn_56, zn_58, zn_59, zn_61, zn_62, zn_63, zn_64, zn_65, zn_66, zn_67, zn_68, zn_69, zn_70, zn_71, zn_72, zn_73]; omega)) (k : JX11_goHour Q 26 [a0, a1] (aI (I q i.toNat) :: st) I) : JX11_goHour Q 25 [a0, a1] (aI i :: aR q :: st) I := g_iald dX11_goHour_25 hk h0 h1 k
theorem dX11_goHour_26 : decode cX11_goHour 26 = .ok (.iconst (-1), 1) := by decide +kernel
theorem X11_goHour_26 {Q : z_M → Prop} {a0 a1 : z_V} {st : List z_V} {I : z_M} (k : JX11_goHour Q 27 [a0, a1] (aI (-1) :: st) I) : JX11_goHour Q 26 [a0, a1] st I := g_iconst (n := (-1)) dX11_goHour_26 (by decide) k
theorem dX11_goHour_27 : decode cX11_goHour 27 = .ok (.if_icmp .eq 38, 3) := by decide +kernel
theorem X11_goHour_27 {Q : z_M → Prop} {a0 a1 : z_V} {x y : Int} {st : List z_V} {I : z_M} (kt : x = y → JX11_goHour Q 65 [a0, a1] st I) (kf : x ≠ y → JX11_goHour Q 30 [a0, a1] st I) : JX11_goHour Q 27 [a0, a1] (aI y :: aI x :: st) I := g_icmp_eq dX11_goHour_27 (by decide) kt kf
theorem dX11_goHour_30 : decode cX11_goHour 30 = .ok (.aload_n 0, 1) := by decide +kernel
theorem X11_goHour_30 {Q : z_M → Prop} {a1 : z_V} {x : Nat} {st : List z_V} {I : z_M} (k : JX11_goHour Q 31 [aR x, a1] (aR x :: st) I) : JX11_goHour Q 30 [aR x, a1] st I := g_aload_n (i := 0) (x := x) dX11_goHour_30 rfl rfl k
theorem dX11_goHour_31 : decode cX11_goHour 31 = .ok (.getfield 33, 3) := by decide +kernel
theorem X11_goHour_31 {Q : z_M → Prop} {a0 a1 : z_V}  {st : List z_V} {I : z_M}  (k : JX11_goHour Q 34 [a0, a1] (aR (67) :: st) I) : JX11_goHour Q 31 [a0, a1] (aR 60 :: st) I := g_getr (ci := 11) (j := 9) (N := 23) (T := TX11) dX11_goHour_31 rfl rfl (by decide) (z_nc11 rfl) inlX11 (by decide) m_5_8 rfl rfl k
theorem dX11_goHour_34 : decode cX11_goHour 34 = .ok (.iload_n 1, 1) := by decide +kernel
theorem X11_goHour_34 {Q : z_M → Prop} {a0 : z_V} {x : Int} {st : List z_V} {I : z_M} (k : JX11_goHour Q 35 [a0, aI x] (aI x :: st) I) : JX11_goHour Q 34 [a0, aI x] st I := g_iload_n (i := 1) (x := x) dX11_goHour_34 rfl rfl k
theorem dX11_goHour_35 : decode cX11_goHour 35 = .ok (.dup2, 1) := by decide +kernel
theorem X11_goHour_35 {Q : z_M → Prop} {a0 a1 : z_V} {x y : z_V} {st : List z_V} {I : z_M} (hx : ∀ z, x ≠ aL z := by intro z q; cases q) (hy : ∀ z, y ≠ aL z := by intro z q; cases q) (k : JX11_goHour Q 36 [a0, a1] (x :: y :: x :: y :: st) I) : JX11_goHour Q 35 [a0, a1] (x :: y :: st) I := g_dup2 dX11_goHour_35 hx hy k
theorem dX11_goHour_36 : decode cX11_goHour 36 = .ok (.iaload, 1) := by decide +kernel
theorem X11_goHour_36 {Q : z_M → Prop} {a0 a1 : z_V} {q : Nat} {i : Int} {st : List z_V} {I : z_M} (hk : z_cl q = 20 := by first | assumption | rfl) (h0 : 0 ≤ i := by omega) (h1 : i < z_n q := by first | omega | (simp only [zn_1, zn_9, zn_10, zn_11, zn_12, zn_13, zn_14, zn_15, zn_16, zn_18, zn_20, zn_21, zn_22, zn_23, zn_24, zn_25, zn_26, zn_27, zn_29, zn_30, zn_53, zn_55, zn_56, zn_58, zn_59, zn_61, zn_62, zn_63, zn_64, zn_65, zn_66, zn_67, zn_68, zn_69, zn_70, zn_71, zn_72, zn_73]; omega)) (k : JX11_goHour Q 37 [a0, a1] (aI (I q i.toNat) :: st) I) : JX11_goHour Q 36 [a0, a1] (aI i :: aR q :: st) I := g_iald dX11_goHour_36 hk h0 h1 k
theorem dX11_goHour_37 : decode cX11_goHour 37 = .ok (.iconst 1, 1) := by decide +kernel
theorem X11_goHour_37 {Q : z_M → Prop} {a0 a1 : z_V} {st : List z_V} {I : z_M} (k : JX11_goHour Q 38 [a0, a1] (aI 1 :: st) I) : JX11_goHour Q 37 [a0, a1] st I := g_iconst (n := 1) dX11_goHour_37 (by decide) k
theorem dX11_goHour_38 : decode cX11_goHour 38 = .ok (.iadd, 1) := by decide +kernel
theorem X11_goHour_38 {Q : z_M → Prop} {a0 a1 : z_V} {x y : Int} {st : List z_V} {I : z_M} (hr : inI (x + y) := by omega) (k : JX11_goHour Q 39 [a0, a1] (aI (x + y) :: st) I) : JX11_goHour Q 38 [a0, a1] (aI y :: aI x :: st) I := g_iadd dX11_goHour_38 hr k
theorem X11_goHour_38w {Q : z_M → Prop} {a0 a1 : z_V} {x y : Int} {st : List z_V} {I : z_M} (k : JX11_goHour Q 39 [a0, a1] (aI (i32 (x + y)) :: st) I) : JX11_goHour Q 38 [a0, a1] (aI y :: aI x :: st) I := g_iaddw dX11_goHour_38 k
theorem dX11_goHour_39 : decode cX11_goHour 39 = .ok (.iastore, 1) := by decide +kernel
theorem X11_goHour_39 {Q : z_M → Prop} {a0 a1 : z_V} {q : Nat} {i x : Int} {st : List z_V} {I : z_M} (hk : z_cl q = 20 := by first | assumption | rfl) (h0 : 0 ≤ i := by omega) (h1 : i < z_n q := by first | omega | (simp only [zn_1, zn_9, zn_10, zn_11, zn_12, zn_13, zn_14, zn_15, zn_16, zn_18, zn_20, zn_21, zn_22, zn_23, zn_24, zn_25, zn_26, zn_27, zn_29, zn_30, zn_53, zn_55, zn_56, zn_58, zn_59, zn_61, zn_62, zn_63, zn_64, zn_65, zn_66, zn_67, zn_68, zn_69, zn_70, zn_71, zn_72, zn_73]; omega))  (k : JX11_goHour Q 40 [a0, a1] st (z_up I q i.toNat x)) : JX11_goHour Q 39 [a0, a1] (aI x :: aI i :: aR q :: st) I := g_iast dX11_goHour_39 hk h0 h1 k
theorem dX11_goHour_40 : decode cX11_goHour 40 = .ok (.aload_n 0, 1) := by decide +kernel
theorem X11_goHour_40 {Q : z_M → Prop} {a1 : z_V} {x : Nat} {st : List z_V} {I : z_M} (k : JX11_goHour Q 41 [aR x, a1] (aR x :: st) I) : JX11_goHour Q 40 [aR x, a1] st I := g_aload_n (i := 0) (x := x) dX11_goHour_40 rfl rfl k
theorem dX11_goHour_41 : decode cX11_goHour 41 = .ok (.iload_n 1, 1) := by decide +kernel
theorem X11_goHour_41 {Q : z_M → Prop} {a0 : z_V} {x : Int} {st : List z_V} {I : z_M} (k : JX11_goHour Q 42 [a0, aI x] (aI x :: st) I) : JX11_goHour Q 41 [a0, aI x] st I := g_iload_n (i := 1) (x := x) dX11_goHour_41 rfl rfl k
theorem dX11_goHour_42 : decode cX11_goHour 42 = .ok (.invokevirtual 135, 3) := by decide +kernel
theorem X11_goHour_42 {Q : z_M → Prop} {a0 a1 : z_V}  {x0 : Int} {st : List z_V} {I : z_M}  (hst : z_sw st ≤ 8 := by exact Nat.le_of_ble_eq_true rfl) (k : CX11_comesBack (aR 60 :: [aI x0]) I (fun x9 I9 => JX11_goHour Q 45 [a0, a1] (aI x9 :: st) I9)) : JX11_goHour Q 42 [a0, a1] (aI x0 :: aR 60 :: st) I := g_callV (C := RX11) (ci := 11) (As := [aI x0]) (n := 1) dX11_goHour_42 ⟨m_24_17, pdX11_comesBack, ⟨by decide, by decide⟩, rfl, rfl, by decide, by decide⟩ m_24_14 m_24_15 m_24_16 m_1_5 rfl rfl (by decide) rfl rfl hst k (fun r I9 h => by obtain ⟨x9, rfl, h⟩ := h; exact h)
theorem dX11_goHour_45 : decode cX11_goHour 45 = .ok (.ifCond .eq 39, 3) := by decide +kernel
theorem X11_goHour_45 {Q : z_M → Prop} {a0 a1 : z_V} {x : Int} {st : List z_V} {I : z_M} (kt : x = 0 → JX11_goHour Q 84 [a0, a1] st I) (kf : x ≠ 0 → JX11_goHour Q 48 [a0, a1] st I) : JX11_goHour Q 45 [a0, a1] (aI x :: st) I := g_if_eq dX11_goHour_45 (by decide) kt kf
theorem dX11_goHour_48 : decode cX11_goHour 48 = .ok (.aload_n 0, 1) := by decide +kernel
theorem X11_goHour_48 {Q : z_M → Prop} {a1 : z_V} {x : Nat} {st : List z_V} {I : z_M} (k : JX11_goHour Q 49 [aR x, a1] (aR x :: st) I) : JX11_goHour Q 48 [aR x, a1] st I := g_aload_n (i := 0) (x := x) dX11_goHour_48 rfl rfl k
theorem dX11_goHour_49 : decode cX11_goHour 49 = .ok (.getfield 30, 3) := by decide +kernel
theorem X11_goHour_49 {Q : z_M → Prop} {a0 a1 : z_V}  {st : List z_V} {I : z_M}  (k : JX11_goHour Q 52 [a0, a1] (aR (66) :: st) I) : JX11_goHour Q 49 [a0, a1] (aR 60 :: st) I := g_getr (ci := 11) (j := 8) (N := 23) (T := TX11) dX11_goHour_49 rfl rfl (by decide) (z_nc11 rfl) inlX11 (by decide) m_5_7 rfl rfl k
theorem dX11_goHour_52 : decode cX11_goHour 52 = .ok (.iload_n 1, 1) := by decide +kernel
theorem X11_goHour_52 {Q : z_M → Prop} {a0 : z_V} {x : Int} {st : List z_V} {I : z_M} (k : JX11_goHour Q 53 [a0, aI x] (aI x :: st) I) : JX11_goHour Q 52 [a0, aI x] st I := g_iload_n (i := 1) (x := x) dX11_goHour_52 rfl rfl k
theorem dX11_goHour_53 : decode cX11_goHour 53 = .ok (.iconst (-1), 1) := by decide +kernel
theorem X11_goHour_53 {Q : z_M → Prop} {a0 a1 : z_V} {st : List z_V} {I : z_M} (k : JX11_goHour Q 54 [a0, a1] (aI (-1) :: st) I) : JX11_goHour Q 53 [a0, a1] st I := g_iconst (n := (-1)) dX11_goHour_53 (by decide) k
theorem dX11_goHour_54 : decode cX11_goHour 54 = .ok (.iastore, 1) := by decide +kernel
theorem X11_goHour_54 {Q : z_M → Prop} {a0 a1 : z_V} {q : Nat} {i x : Int} {st : List z_V} {I : z_M} (hk : z_cl q = 20 := by first | assumption | rfl) (h0 : 0 ≤ i := by omega) (h1 : i < z_n q := by first | omega | (simp only [zn_1, zn_9, zn_10, zn_11, zn_12, zn_13, zn_14, zn_15, zn_16, zn_18, zn_20, zn_21, zn_22, zn_23, zn_24, zn_25, zn_26, zn_27, zn_29, zn_30, zn_53, zn_55, zn_56, zn_58, zn_59, zn_61, zn_62, zn_63, zn_64, zn_65, zn_66, zn_67, zn_68, zn_69, zn_70, zn_71, zn_72, zn_73]; omega))  (k : JX11_goHour Q 55 [a0, a1] st (z_up I q i.toNat x)) : JX11_goHour Q 54 [a0, a1] (aI x :: aI i :: aR q :: st) I := g_iast dX11_goHour_54 hk h0 h1 k
theorem dX11_goHour_55 : decode cX11_goHour 55 = .ok (.aload_n 0, 1) := by decide +kernel
theorem X11_goHour_55 {Q : z_M → Prop} {a1 : z_V} {x : Nat} {st : List z_V} {I : z_M} (k : JX11_goHour Q 56 [aR x, a1] (aR x :: st) I) : JX11_goHour Q 55 [aR x, a1] st I := g_aload_n (i := 0) (x := x) dX11_goHour_55 rfl rfl k
theorem dX11_goHour_56 : decode cX11_goHour 56 = .ok (.getfield 33, 3) := by decide +kernel
theorem X11_goHour_56 {Q : z_M → Prop} {a0 a1 : z_V}  {st : List z_V} {I : z_M}  (k : JX11_goHour Q 59 [a0, a1] (aR (67) :: st) I) : JX11_goHour Q 56 [a0, a1] (aR 60 :: st) I := g_getr (ci := 11) (j := 9) (N := 23) (T := TX11) dX11_goHour_56 rfl rfl (by decide) (z_nc11 rfl) inlX11 (by decide) m_5_8 rfl rfl k
theorem dX11_goHour_59 : decode cX11_goHour 59 = .ok (.iload_n 1, 1) := by decide +kernel
theorem X11_goHour_59 {Q : z_M → Prop} {a0 : z_V} {x : Int} {st : List z_V} {I : z_M} (k : JX11_goHour Q 60 [a0, aI x] (aI x :: st) I) : JX11_goHour Q 59 [a0, aI x] st I := g_iload_n (i := 1) (x := x) dX11_goHour_59 rfl rfl k
theorem dX11_goHour_60 : decode cX11_goHour 60 = .ok (.iconst 0, 1) := by decide +kernel
theorem X11_goHour_60 {Q : z_M → Prop} {a0 a1 : z_V} {st : List z_V} {I : z_M} (k : JX11_goHour Q 61 [a0, a1] (aI 0 :: st) I) : JX11_goHour Q 60 [a0, a1] st I := g_iconst (n := 0) dX11_goHour_60 (by decide) k
theorem dX11_goHour_61 : decode cX11_goHour 61 = .ok (.iastore, 1) := by decide +kernel
theorem X11_goHour_61 {Q : z_M → Prop} {a0 a1 : z_V} {q : Nat} {i x : Int} {st : List z_V} {I : z_M} (hk : z_cl q = 20 := by first | assumption | rfl) (h0 : 0 ≤ i := by omega) (h1 : i < z_n q := by first | omega | (simp only [zn_1, zn_9, zn_10, zn_11, zn_12, zn_13, zn_14, zn_15, zn_16, zn_18, zn_20, zn_21, zn_22, zn_23, zn_24, zn_25, zn_26, zn_27, zn_29, zn_30, zn_53, zn_55, zn_56, zn_58, zn_59, zn_61, zn_62, zn_63, zn_64, zn_65, zn_66, zn_67, zn_68, zn_69, zn_70, zn_71, zn_72, zn_73]; omega))  (k : JX11_goHour Q 62 [a0, a1] st (z_up I q i.toNat x)) : JX11_goHour Q 61 [a0, a1] (aI x :: aI i :: aR q :: st) I := g_iast dX11_goHour_61 hk h0 h1 k
theorem dX11_goHour_62 : decode cX11_goHour 62 = .ok (.goto 22, 3) := by decide +kernel
theorem X11_goHour_62 {Q : z_M → Prop} {a0 a1 : z_V} {st : List z_V} {I : z_M} (k : JX11_goHour Q 84 [a0, a1] st I) : JX11_goHour Q 62 [a0, a1] st I := g_goto dX11_goHour_62 (by decide) k
theorem dX11_goHour_65 : decode cX11_goHour 65 = .ok (.aload_n 0, 1) := by decide +kernel
theorem X11_goHour_65 {Q : z_M → Prop} {a1 : z_V} {x : Nat} {st : List z_V} {I : z_M} (k : JX11_goHour Q 66 [aR x, a1] (aR x :: st) I) : JX11_goHour Q 65 [aR x, a1] st I := g_aload_n (i := 0) (x := x) dX11_goHour_65 rfl rfl k
theorem dX11_goHour_66 : decode cX11_goHour 66 = .ok (.iload_n 1, 1) := by decide +kernel
theorem X11_goHour_66 {Q : z_M → Prop} {a0 : z_V} {x : Int} {st : List z_V} {I : z_M} (k : JX11_goHour Q 67 [a0, aI x] (aI x :: st) I) : JX11_goHour Q 66 [a0, aI x] st I := g_iload_n (i := 1) (x := x) dX11_goHour_66 rfl rfl k
theorem dX11_goHour_67 : decode cX11_goHour 67 = .ok (.invokevirtual 138, 3) := by decide +kernel
theorem X11_goHour_67 {Q : z_M → Prop} {a0 a1 : z_V}  {x0 : Int} {st : List z_V} {I : z_M}  (hst : z_sw st ≤ 8 := by exact Nat.le_of_ble_eq_true rfl) (k : CX11_goes (aR 60 :: [aI x0]) I (fun x9 I9 => JX11_goHour Q 70 [a0, a1] (aI x9 :: st) I9)) : JX11_goHour Q 67 [a0, a1] (aI x0 :: aR 60 :: st) I := g_callV (C := RX11) (ci := 11) (As := [aI x0]) (n := 1) dX11_goHour_67 ⟨m_25_1, pdX11_goes, ⟨by decide, by decide⟩, rfl, rfl, by decide, by decide⟩ m_24_22 m_24_23 m_25_0 m_1_5 rfl rfl (by decide) rfl rfl hst k (fun r I9 h => by obtain ⟨x9, rfl, h⟩ := h; exact h)
theorem dX11_goHour_70 : decode cX11_goHour 70 = .ok (.ifCond .eq 14, 3) := by decide +kernel
theorem X11_goHour_70 {Q : z_M → Prop} {a0 a1 : z_V} {x : Int} {st : List z_V} {I : z_M} (kt : x = 0 → JX11_goHour Q 84 [a0, a1] st I) (kf : x ≠ 0 → JX11_goHour Q 73 [a0, a1] st I) : JX11_goHour Q 70 [a0, a1] (aI x :: st) I := g_if_eq dX11_goHour_70 (by decide) kt kf
theorem dX11_goHour_73 : decode cX11_goHour 73 = .ok (.aload_n 0, 1) := by decide +kernel
theorem X11_goHour_73 {Q : z_M → Prop} {a1 : z_V} {x : Nat} {st : List z_V} {I : z_M} (k : JX11_goHour Q 74 [aR x, a1] (aR x :: st) I) : JX11_goHour Q 73 [aR x, a1] st I := g_aload_n (i := 0) (x := x) dX11_goHour_73 rfl rfl k
theorem dX11_goHour_74 : decode cX11_goHour 74 = .ok (.getfield 30, 3) := by decide +kernel
theorem X11_goHour_74 {Q : z_M → Prop} {a0 a1 : z_V}  {st : List z_V} {I : z_M}  (k : JX11_goHour Q 77 [a0, a1] (aR (66) :: st) I) : JX11_goHour Q 74 [a0, a1] (aR 60 :: st) I := g_getr (ci := 11) (j := 8) (N := 23) (T := TX11) dX11_goHour_74 rfl rfl (by decide) (z_nc11 rfl) inlX11 (by decide) m_5_7 rfl rfl k
theorem dX11_goHour_77 : decode cX11_goHour 77 = .ok (.iload_n 1, 1) := by decide +kernel
theorem X11_goHour_77 {Q : z_M → Prop} {a0 : z_V} {x : Int} {st : List z_V} {I : z_M} (k : JX11_goHour Q 78 [a0, aI x] (aI x :: st) I) : JX11_goHour Q 77 [a0, aI x] st I := g_iload_n (i := 1) (x := x) dX11_goHour_77 rfl rfl k
theorem dX11_goHour_78 : decode cX11_goHour 78 = .ok (.aload_n 0, 1) := by decide +kernel
theorem X11_goHour_78 {Q : z_M → Prop} {a1 : z_V} {x : Nat} {st : List z_V} {I : z_M} (k : JX11_goHour Q 79 [aR x, a1] (aR x :: st) I) : JX11_goHour Q 78 [aR x, a1] st I := g_aload_n (i := 0) (x := x) dX11_goHour_78 rfl rfl k
theorem dX11_goHour_79 : decode cX11_goHour 79 = .ok (.iload_n 1, 1) := by decide +kernel
theorem X11_goHour_79 {Q : z_M → Prop} {a0 : z_V} {x : Int} {st : List z_V} {I : z_M} (k : JX11_goHour Q 80 [a0, aI x] (aI x :: st) I) : JX11_goHour Q 79 [a0, aI x] st I := g_iload_n (i := 1) (x := x) dX11_goHour_79 rfl rfl k
theorem dX11_goHour_80 : decode cX11_goHour 80 = .ok (.invokevirtual 141, 3) := by decide +kernel
theorem X11_goHour_80 {Q : z_M → Prop} {a0 a1 : z_V}  {x0 : Int} {st : List z_V} {I : z_M}  (hst : z_sw st ≤ 8 := by exact Nat.le_of_ble_eq_true rfl) (k : CX11_placeFor (aR 60 :: [aI x0]) I (fun x9 I9 => JX11_goHour Q 83 [a0, a1] (aI x9 :: st) I9)) : JX11_goHour Q 80 [a0, a1] (aI x0 :: aR 60 :: st) I := g_callV (C := RX11) (ci := 11) (As := [aI x0]) (n := 1) dX11_goHour_80 ⟨m_25_13, pdX11_placeFor, ⟨by decide, by decide⟩, rfl, rfl, by decide, by decide⟩ m_25_10 m_25_11 m_25_12 m_1_5 rfl rfl (by decide) rfl rfl hst k (fun r I9 h => by obtain ⟨x9, rfl, h⟩ := h; exact h)
theorem dX11_goHour_83 : decode cX11_goHour 83 = .ok (.iastore, 1) := by decide +kernel
theorem X11_goHour_83 {Q : z_M → Prop} {a0 a1 : z_V} {q : Nat} {i x : Int} {st : List z_V} {I : z_M} (hk : z_cl q = 20 := by first | assumption | rfl) (h0 : 0 ≤ i := by omega) (h1 : i < z_n q := by first | omega | (simp only [zn_1, zn_9, zn_10, zn_11, zn_12, zn_13, zn_14, zn_15, zn_16, zn_18, zn_20, zn_21, zn_22, zn_23, zn_24, zn_25, zn_26, zn_27, zn_29, zn_30, zn_53, zn_55, zn_56, zn_58, zn_59, zn_61, zn_62, zn_63, zn_64, zn_65, zn_66, zn_67, zn_68, zn_69, zn_70, zn_71, zn_72, zn_73]; omega))  (k : JX11_goHour Q 84 [a0, a1] st (z_up I q i.toNat x)) : JX11_goHour Q 83 [a0, a1] (aI x :: aI i :: aR q :: st) I := g_iast dX11_goHour_83 hk h0 h1 k
theorem dX11_goHour_84 : decode cX11_goHour 84 = .ok (.iinc 1 1, 3) := by decide +kernel
theorem X11_goHour_84 {Q : z_M → Prop} {a0 : z_V} {x : Int} {st : List z_V} {I : z_M} (hb : z_nl [a0, aI x] 1 = true := by rfl) (hr : inI (x + 1) := by omega) (k : JX11_goHour Q 87 [a0, aI (x + 1)] st I) : JX11_goHour Q 84 [a0, aI x] st I := g_iinc (i := 1) (x := x) dX11_goHour_84 rfl (show 1 < 2 from by decide) hb hr k
theorem dX11_goHour_87 : decode cX11_goHour 87 = .ok (.goto (-75), 3) := by decide +kernel
theorem X11_goHour_87 {Q : z_M → Prop} {a0 a1 : z_V} {st : List z_V} {I : z_M} (k : JX11_goHour Q 12 [a0, a1] st I) : JX11_goHour Q 87 [a0, a1] st I := g_goto dX11_goHour_87 (by decide) k
theorem dX11_goHour_90 : decode cX11_goHour 90 = .ok (.return_, 1) := by decide +kernel
theorem X11_goHour_90 {Q : z_M → Prop} {a0 a1 : z_V} {I : z_M} (hq : Q I) : JX11_goHour Q 90 [a0, a1] [] I := g_return dX11_goHour_90 ⟨rfl, hq⟩
theorem dX11_goHours_0 : decode cX11_goHours 0 = .ok (.iconst 0, 1) := by decide +kernel
theorem X11_goHours_0 {Q : z_M → Prop} {a0 a1 a2 : z_V} {st : List z_V} {I : z_M} (k : JX11_goHours Q 1 [a0, a1, a2] (aI 0 :: st) I) : JX11_goHours Q 0 [a0, a1, a2] st I := g_iconst (n := 0) dX11_goHours_0 (by decide) k
theorem dX11_goHours_1 : decode cX11_goHours 1 = .ok (.istore_n 2, 1) := by decide +kernel
theorem X11_goHours_1 {Q : z_M → Prop} {a0 a1 a2 : z_V} {x : Int} {st : List z_V} {I : z_M} (hb : z_nl [a0, a1, a2] 2 = true := by rfl) (k : JX11_goHours Q 2 [a0, a1, aI x] st I) : JX11_goHours Q 1 [a0, a1, a2] (aI x :: st) I := g_istore_n (i := 2) (x := x) dX11_goHours_1 rfl (show 2 < 3 from by decide) hb k
theorem dX11_goHours_2 : decode cX11_goHours 2 = .ok (.iload_n 2, 1) := by decide +kernel
theorem X11_goHours_2 {Q : z_M → Prop} {a0 a1 : z_V} {x : Int} {st : List z_V} {I : z_M} (k : JX11_goHours Q 3 [a0, a1, aI x] (aI x :: st) I) : JX11_goHours Q 2 [a0, a1, aI x] st I := g_iload_n (i := 2) (x := x) dX11_goHours_2 rfl rfl k
theorem dX11_goHours_3 : decode cX11_goHours 3 = .ok (.iload_n 1, 1) := by decide +kernel
theorem X11_goHours_3 {Q : z_M → Prop} {a0 a2 : z_V} {x : Int} {st : List z_V} {I : z_M} (k : JX11_goHours Q 4 [a0, aI x, a2] (aI x :: st) I) : JX11_goHours Q 3 [a0, aI x, a2] st I := g_iload_n (i := 1) (x := x) dX11_goHours_3 rfl rfl k
theorem dX11_goHours_4 : decode cX11_goHours 4 = .ok (.if_icmp .ge 13, 3) := by decide +kernel
theorem X11_goHours_4 {Q : z_M → Prop} {a0 a1 a2 : z_V} {x y : Int} {st : List z_V} {I : z_M} (kt : y ≤ x → JX11_goHours Q 17 [a0, a1, a2] st I) (kf : x < y → JX11_goHours Q 7 [a0, a1, a2] st I) : JX11_goHours Q 4 [a0, a1, a2] (aI y :: aI x :: st) I := g_icmp_ge dX11_goHours_4 (by decide) kt kf
theorem dX11_goHours_7 : decode cX11_goHours 7 = .ok (.aload_n 0, 1) := by decide +kernel
theorem X11_goHours_7 {Q : z_M → Prop} {a1 a2 : z_V} {x : Nat} {st : List z_V} {I : z_M} (k : JX11_goHours Q 8 [aR x, a1, a2] (aR x :: st) I) : JX11_goHours Q 7 [aR x, a1, a2] st I := g_aload_n (i := 0) (x := x) dX11_goHours_7 rfl rfl k
theorem dX11_goHours_8 : decode cX11_goHours 8 = .ok (.invokevirtual 144, 3) := by decide +kernel
theorem X11_goHours_8 {Q : z_M → Prop} {a0 a1 a2 : z_V}   {st : List z_V} {I : z_M}  (hst : z_sw st ≤ 8 := by exact Nat.le_of_ble_eq_true rfl) (k : CX11_goHour (aR 60 :: []) I (fun I9 => JX11_goHours Q 11 [a0, a1, a2] st I9)) : JX11_goHours Q 8 [a0, a1, a2] (aR 60 :: st) I := g_callV (C := RX11) (ci := 11) (As := []) (n := 0) dX11_goHours_8 ⟨m_24_13, pdX11_goHour, ⟨by decide, by decide⟩, rfl, rfl, by decide, by decide⟩ m_24_10 m_24_11 m_24_12 m_1_5 rfl rfl (by decide) rfl rfl hst k (fun r I9 h => by obtain ⟨rfl, h⟩ := h; exact h)
theorem dX11_goHours_11 : decode cX11_goHours 11 = .ok (.iinc 2 1, 3) := by decide +kernel
theorem X11_goHours_11 {Q : z_M → Prop} {a0 a1 : z_V} {x : Int} {st : List z_V} {I : z_M} (hb : z_nl [a0, a1, aI x] 2 = true := by rfl) (hr : inI (x + 1) := by omega) (k : JX11_goHours Q 14 [a0, a1, aI (x + 1)] st I) : JX11_goHours Q 11 [a0, a1, aI x] st I := g_iinc (i := 2) (x := x) dX11_goHours_11 rfl (show 2 < 3 from by decide) hb hr k
theorem dX11_goHours_14 : decode cX11_goHours 14 = .ok (.goto (-12), 3) := by decide +kernel
theorem X11_goHours_14 {Q : z_M → Prop} {a0 a1 a2 : z_V} {st : List z_V} {I : z_M} (k : JX11_goHours Q 2 [a0, a1, a2] st I) : JX11_goHours Q 14 [a0, a1, a2] st I := g_goto dX11_goHours_14 (by decide) k
theorem dX11_goHours_17 : decode cX11_goHours 17 = .ok (.return_, 1) := by decide +kernel
theorem X11_goHours_17 {Q : z_M → Prop} {a0 a1 a2 : z_V} {I : z_M} (hq : Q I) : JX11_goHours Q 17 [a0, a1, a2] [] I := g_return dX11_goHours_17 ⟨rfl, hq⟩
theorem dX11_inChurch_0 : decode cX11_inChurch 0 = .ok (.iconst 0, 1) := by decide +kernel
theorem X11_inChurch_0 {Q : Int → z_M → Prop} {a0 a1 a2 : z_V} {st : List z_V} {I : z_M} (k : JX11_inChurch Q 1 [a0, a1, a2] (aI 0 :: st) I) : JX11_inChurch Q 0 [a0, a1, a2] st I := g_iconst (n := 0) dX11_inChurch_0 (by decide) k
theorem dX11_inChurch_1 : decode cX11_inChurch 1 = .ok (.istore_n 1, 1) := by decide +kernel
theorem X11_inChurch_1 {Q : Int → z_M → Prop} {a0 a1 a2 : z_V} {x : Int} {st : List z_V} {I : z_M} (hb : z_nl [a0, a1, a2] 1 = true := by rfl) (k : JX11_inChurch Q 2 [a0, aI x, a2] st I) : JX11_inChurch Q 1 [a0, a1, a2] (aI x :: st) I := g_istore_n (i := 1) (x := x) dX11_inChurch_1 rfl (show 1 < 3 from by decide) hb k
theorem dX11_inChurch_2 : decode cX11_inChurch 2 = .ok (.iconst 0, 1) := by decide +kernel
theorem X11_inChurch_2 {Q : Int → z_M → Prop} {a0 a1 a2 : z_V} {st : List z_V} {I : z_M} (k : JX11_inChurch Q 3 [a0, a1, a2] (aI 0 :: st) I) : JX11_inChurch Q 2 [a0, a1, a2] st I := g_iconst (n := 0) dX11_inChurch_2 (by decide) k
theorem dX11_inChurch_3 : decode cX11_inChurch 3 = .ok (.istore_n 2, 1) := by decide +kernel
theorem X11_inChurch_3 {Q : Int → z_M → Prop} {a0 a1 a2 : z_V} {x : Int} {st : List z_V} {I : z_M} (hb : z_nl [a0, a1, a2] 2 = true := by rfl) (k : JX11_inChurch Q 4 [a0, a1, aI x] st I) : JX11_inChurch Q 3 [a0, a1, a2] (aI x :: st) I := g_istore_n (i := 2) (x := x) dX11_inChurch_3 rfl (show 2 < 3 from by decide) hb k
theorem dX11_inChurch_4 : decode cX11_inChurch 4 = .ok (.iload_n 2, 1) := by decide +kernel
theorem X11_inChurch_4 {Q : Int → z_M → Prop} {a0 a1 : z_V} {x : Int} {st : List z_V} {I : z_M} (k : JX11_inChurch Q 5 [a0, a1, aI x] (aI x :: st) I) : JX11_inChurch Q 4 [a0, a1, aI x] st I := g_iload_n (i := 2) (x := x) dX11_inChurch_4 rfl rfl k
theorem dX11_inChurch_5 : decode cX11_inChurch 5 = .ok (.aload_n 0, 1) := by decide +kernel
theorem X11_inChurch_5 {Q : Int → z_M → Prop} {a1 a2 : z_V} {x : Nat} {st : List z_V} {I : z_M} (k : JX11_inChurch Q 6 [aR x, a1, a2] (aR x :: st) I) : JX11_inChurch Q 5 [aR x, a1, a2] st I := g_aload_n (i := 0) (x := x) dX11_inChurch_5 rfl rfl k
theorem dX11_inChurch_6 : decode cX11_inChurch 6 = .ok (.invokevirtual 54, 3) := by decide +kernel
theorem X11_inChurch_6 {Q : Int → z_M → Prop} {a0 a1 a2 : z_V}   {st : List z_V} {I : z_M}  (hst : z_sw st ≤ 8 := by exact Nat.le_of_ble_eq_true rfl) (k : CX11_pipes (aR 60 :: []) I (fun x9 I9 => JX11_inChurch Q 9 [a0, a1, a2] (aI x9 :: st) I9)) : JX11_inChurch Q 6 [a0, a1, a2] (aR 60 :: st) I := g_callV (C := RX11) (ci := 11) (As := []) (n := 0) dX11_inChurch_6 ⟨m_6_21, pdX11_pipes, ⟨by decide, by decide⟩, rfl, rfl, by decide, by decide⟩ m_6_18 m_6_19 m_6_20 m_1_5 rfl rfl (by decide) rfl rfl hst k (fun r I9 h => by obtain ⟨x9, rfl, h⟩ := h; exact h)
theorem dX11_inChurch_9 : decode cX11_inChurch 9 = .ok (.if_icmp .ge 29, 3) := by decide +kernel
theorem X11_inChurch_9 {Q : Int → z_M → Prop} {a0 a1 a2 : z_V} {x y : Int} {st : List z_V} {I : z_M} (kt : y ≤ x → JX11_inChurch Q 38 [a0, a1, a2] st I) (kf : x < y → JX11_inChurch Q 12 [a0, a1, a2] st I) : JX11_inChurch Q 9 [a0, a1, a2] (aI y :: aI x :: st) I := g_icmp_ge dX11_inChurch_9 (by decide) kt kf
theorem dX11_inChurch_12 : decode cX11_inChurch 12 = .ok (.iload_n 1, 1) := by decide +kernel
theorem X11_inChurch_12 {Q : Int → z_M → Prop} {a0 a2 : z_V} {x : Int} {st : List z_V} {I : z_M} (k : JX11_inChurch Q 13 [a0, aI x, a2] (aI x :: st) I) : JX11_inChurch Q 12 [a0, aI x, a2] st I := g_iload_n (i := 1) (x := x) dX11_inChurch_12 rfl rfl k
theorem dX11_inChurch_13 : decode cX11_inChurch 13 = .ok (.aload_n 0, 1) := by decide +kernel
theorem X11_inChurch_13 {Q : Int → z_M → Prop} {a1 a2 : z_V} {x : Nat} {st : List z_V} {I : z_M} (k : JX11_inChurch Q 14 [aR x, a1, a2] (aR x :: st) I) : JX11_inChurch Q 13 [aR x, a1, a2] st I := g_aload_n (i := 0) (x := x) dX11_inChurch_13 rfl rfl k
theorem dX11_inChurch_14 : decode cX11_inChurch 14 = .ok (.getfield 30, 3) := by decide +kernel
theorem X11_inChurch_14 {Q : Int → z_M → Prop} {a0 a1 a2 : z_V}  {st : List z_V} {I : z_M}  (k : JX11_inChurch Q 17 [a0, a1, a2] (aR (66) :: st) I) : JX11_inChurch Q 14 [a0, a1, a2] (aR 60 :: st) I := g_getr (ci := 11) (j := 8) (N := 23) (T := TX11) dX11_inChurch_14 rfl rfl (by decide) (z_nc11 rfl) inlX11 (by decide) m_5_7 rfl rfl k
theorem dX11_inChurch_17 : decode cX11_inChurch 17 = .ok (.iload_n 2, 1) := by decide +kernel
theorem X11_inChurch_17 {Q : Int → z_M → Prop} {a0 a1 : z_V} {x : Int} {st : List z_V} {I : z_M} (k : JX11_inChurch Q 18 [a0, a1, aI x] (aI x :: st) I) : JX11_inChurch Q 17 [a0, a1, aI x] st I := g_iload_n (i := 2) (x := x) dX11_inChurch_17 rfl rfl k
theorem dX11_inChurch_18 : decode cX11_inChurch 18 = .ok (.iaload, 1) := by decide +kernel
theorem X11_inChurch_18 {Q : Int → z_M → Prop} {a0 a1 a2 : z_V} {q : Nat} {i : Int} {st : List z_V} {I : z_M} (hk : z_cl q = 20 := by first | assumption | rfl) (h0 : 0 ≤ i := by omega) (h1 : i < z_n q := by first | omega | (simp only [zn_1, zn_9, zn_10, zn_11, zn_12, zn_13, zn_14, zn_15, zn_16, zn_18, zn_20, zn_21, zn_22, zn_23, zn_24, zn_25, zn_26, zn_27, zn_29, zn_30, zn_53, zn_55, zn_56, zn_58, zn_59, zn_61, zn_62, zn_63, zn_64, zn_65, zn_66, zn_67, zn_68, zn_69, zn_70, zn_71, zn_72, zn_73]; omega)) (k : JX11_inChurch Q 19 [a0, a1, a2] (aI (I q i.toNat) :: st) I) : JX11_inChurch Q 18 [a0, a1, a2] (aI i :: aR q :: st) I := g_iald dX11_inChurch_18 hk h0 h1 k
theorem dX11_inChurch_19 : decode cX11_inChurch 19 = .ok (.iconst (-1), 1) := by decide +kernel
theorem X11_inChurch_19 {Q : Int → z_M → Prop} {a0 a1 a2 : z_V} {st : List z_V} {I : z_M} (k : JX11_inChurch Q 20 [a0, a1, a2] (aI (-1) :: st) I) : JX11_inChurch Q 19 [a0, a1, a2] st I := g_iconst (n := (-1)) dX11_inChurch_19 (by decide) k
theorem dX11_inChurch_20 : decode cX11_inChurch 20 = .ok (.if_icmp .ne 9, 3) := by decide +kernel
theorem X11_inChurch_20 {Q : Int → z_M → Prop} {a0 a1 a2 : z_V} {x y : Int} {st : List z_V} {I : z_M} (kt : x ≠ y → JX11_inChurch Q 29 [a0, a1, a2] st I) (kf : x = y → JX11_inChurch Q 23 [a0, a1, a2] st I) : JX11_inChurch Q 20 [a0, a1, a2] (aI y :: aI x :: st) I := g_icmp_ne dX11_inChurch_20 (by decide) kt kf
theorem dX11_inChurch_23 : decode cX11_inChurch 23 = .ok (.iconst 1, 1) := by decide +kernel
theorem X11_inChurch_23 {Q : Int → z_M → Prop} {a0 a1 a2 : z_V} {st : List z_V} {I : z_M} (k : JX11_inChurch Q 24 [a0, a1, a2] (aI 1 :: st) I) : JX11_inChurch Q 23 [a0, a1, a2] st I := g_iconst (n := 1) dX11_inChurch_23 (by decide) k
theorem dX11_inChurch_24 : decode cX11_inChurch 24 = .ok (.iload_n 2, 1) := by decide +kernel
theorem X11_inChurch_24 {Q : Int → z_M → Prop} {a0 a1 : z_V} {x : Int} {st : List z_V} {I : z_M} (k : JX11_inChurch Q 25 [a0, a1, aI x] (aI x :: st) I) : JX11_inChurch Q 24 [a0, a1, aI x] st I := g_iload_n (i := 2) (x := x) dX11_inChurch_24 rfl rfl k
theorem dX11_inChurch_25 : decode cX11_inChurch 25 = .ok (.ishl, 1) := by decide +kernel
theorem X11_inChurch_25 {Q : Int → z_M → Prop} {a0 a1 a2 : z_V} {x y : Int} {st : List z_V} {I : z_M} (hx : 0 ≤ x := by first | omega | exact Int.natCast_nonneg _) (hy : 0 ≤ y := by first | omega | exact Int.natCast_nonneg _) (hy2 : y < 31 := by omega) (hr : zshl x y < 2147483648 := by exact zshl_lt (by omega) (by omega)) (k : JX11_inChurch Q 26 [a0, a1, a2] (aI (zshl x y) :: st) I) : JX11_inChurch Q 25 [a0, a1, a2] (aI y :: aI x :: st) I := g_ishlz dX11_inChurch_25 hx hy hy2 hr k
theorem dX11_inChurch_26 : decode cX11_inChurch 26 = .ok (.goto 4, 3) := by decide +kernel
theorem X11_inChurch_26 {Q : Int → z_M → Prop} {a0 a1 a2 : z_V} {st : List z_V} {I : z_M} (k : JX11_inChurch Q 30 [a0, a1, a2] st I) : JX11_inChurch Q 26 [a0, a1, a2] st I := g_goto dX11_inChurch_26 (by decide) k
theorem dX11_inChurch_29 : decode cX11_inChurch 29 = .ok (.iconst 0, 1) := by decide +kernel
theorem X11_inChurch_29 {Q : Int → z_M → Prop} {a0 a1 a2 : z_V} {st : List z_V} {I : z_M} (k : JX11_inChurch Q 30 [a0, a1, a2] (aI 0 :: st) I) : JX11_inChurch Q 29 [a0, a1, a2] st I := g_iconst (n := 0) dX11_inChurch_29 (by decide) k
theorem dX11_inChurch_30 : decode cX11_inChurch 30 = .ok (.ior, 1) := by decide +kernel
theorem X11_inChurch_30 {Q : Int → z_M → Prop} {a0 a1 a2 : z_V} {x y : Int} {st : List z_V} {I : z_M} (hx : 0 ≤ x := by first | omega | exact Int.natCast_nonneg _) (hy : 0 ≤ y := by first | omega | exact Int.natCast_nonneg _) (k : JX11_inChurch Q 31 [a0, a1, a2] (aI (zor x y) :: st) I) : JX11_inChurch Q 30 [a0, a1, a2] (aI y :: aI x :: st) I := g_iorz dX11_inChurch_30 hx hy k
theorem dX11_inChurch_31 : decode cX11_inChurch 31 = .ok (.istore_n 1, 1) := by decide +kernel
theorem X11_inChurch_31 {Q : Int → z_M → Prop} {a0 a1 a2 : z_V} {x : Int} {st : List z_V} {I : z_M} (hb : z_nl [a0, a1, a2] 1 = true := by rfl) (k : JX11_inChurch Q 32 [a0, aI x, a2] st I) : JX11_inChurch Q 31 [a0, a1, a2] (aI x :: st) I := g_istore_n (i := 1) (x := x) dX11_inChurch_31 rfl (show 1 < 3 from by decide) hb k
theorem dX11_inChurch_32 : decode cX11_inChurch 32 = .ok (.iinc 2 1, 3) := by decide +kernel
theorem X11_inChurch_32 {Q : Int → z_M → Prop} {a0 a1 : z_V} {x : Int} {st : List z_V} {I : z_M} (hb : z_nl [a0, a1, aI x] 2 = true := by rfl) (hr : inI (x + 1) := by omega) (k : JX11_inChurch Q 35 [a0, a1, aI (x + 1)] st I) : JX11_inChurch Q 32 [a0, a1, aI x] st I := g_iinc (i := 2) (x := x) dX11_inChurch_32 rfl (show 2 < 3 from by decide) hb hr k
theorem dX11_inChurch_35 : decode cX11_inChurch 35 = .ok (.goto (-31), 3) := by decide +kernel
theorem X11_inChurch_35 {Q : Int → z_M → Prop} {a0 a1 a2 : z_V} {st : List z_V} {I : z_M} (k : JX11_inChurch Q 4 [a0, a1, a2] st I) : JX11_inChurch Q 35 [a0, a1, a2] st I := g_goto dX11_inChurch_35 (by decide) k
theorem dX11_inChurch_38 : decode cX11_inChurch 38 = .ok (.iload_n 1, 1) := by decide +kernel
theorem X11_inChurch_38 {Q : Int → z_M → Prop} {a0 a2 : z_V} {x : Int} {st : List z_V} {I : z_M} (k : JX11_inChurch Q 39 [a0, aI x, a2] (aI x :: st) I) : JX11_inChurch Q 38 [a0, aI x, a2] st I := g_iload_n (i := 1) (x := x) dX11_inChurch_38 rfl rfl k
theorem dX11_inChurch_39 : decode cX11_inChurch 39 = .ok (.ireturn, 1) := by decide +kernel
theorem X11_inChurch_39 {Q : Int → z_M → Prop} {a0 a1 a2 : z_V} {x : Int} {I : z_M} (hq : Q x I) : JX11_inChurch Q 39 [a0, a1, a2] [aI x] I := g_ireturn dX11_inChurch_39 ⟨x, rfl, hq⟩
theorem dX11_keep_0 : decode cX11_keep 0 = .ok (.aload_n 0, 1) := by decide +kernel
theorem X11_keep_0 {Q : z_M → Prop} {a1 a2 : z_V} {x : Nat} {st : List z_V} {I : z_M} (k : JX11_keep Q 1 [aR x, a1, a2] (aR x :: st) I) : JX11_keep Q 0 [aR x, a1, a2] st I := g_aload_n (i := 0) (x := x) dX11_keep_0 rfl rfl k
theorem dX11_keep_1 : decode cX11_keep 1 = .ok (.getfield 7, 3) := by decide +kernel
theorem X11_keep_1 {Q : z_M → Prop} {a0 a1 a2 : z_V}  {st : List z_V} {I : z_M}  (k : JX11_keep Q 4 [a0, a1, a2] (aR (61) :: st) I) : JX11_keep Q 1 [a0, a1, a2] (aR 60 :: st) I := g_getr (ci := 11) (j := 0) (N := 23) (T := TX11) dX11_keep_1 rfl rfl (by decide) (z_nc11 rfl) inlX11 (by decide) m_5_1 rfl rfl k
theorem dX11_keep_4 : decode cX11_keep 4 = .ok (.iconst 4, 1) := by decide +kernel
theorem X11_keep_4 {Q : z_M → Prop} {a0 a1 a2 : z_V} {st : List z_V} {I : z_M} (k : JX11_keep Q 5 [a0, a1, a2] (aI 4 :: st) I) : JX11_keep Q 4 [a0, a1, a2] st I := g_iconst (n := 4) dX11_keep_4 (by decide) k
theorem dX11_keep_5 : decode cX11_keep 5 = .ok (.iaload, 1) := by decide +kernel
theorem X11_keep_5 {Q : z_M → Prop} {a0 a1 a2 : z_V} {q : Nat} {i : Int} {st : List z_V} {I : z_M} (hk : z_cl q = 20 := by first | assumption | rfl) (h0 : 0 ≤ i := by omega) (h1 : i < z_n q := by first | omega | (simp only [zn_1, zn_9, zn_10, zn_11, zn_12, zn_13, zn_14, zn_15, zn_16, zn_18, zn_20, zn_21, zn_22, zn_23, zn_24, zn_25, zn_26, zn_27, zn_29, zn_30, zn_53, zn_55, zn_56, zn_58, zn_59, zn_61, zn_62, zn_63, zn_64, zn_65, zn_66, zn_67, zn_68, zn_69, zn_70, zn_71, zn_72, zn_73]; omega)) (k : JX11_keep Q 6 [a0, a1, a2] (aI (I q i.toNat) :: st) I) : JX11_keep Q 5 [a0, a1, a2] (aI i :: aR q :: st) I := g_iald dX11_keep_5 hk h0 h1 k
theorem dX11_keep_6 : decode cX11_keep 6 = .ok (.bipush 8, 2) := by decide +kernel
theorem X11_keep_6 {Q : z_M → Prop} {a0 a1 a2 : z_V} {st : List z_V} {I : z_M} (k : JX11_keep Q 8 [a0, a1, a2] (aI 8 :: st) I) : JX11_keep Q 6 [a0, a1, a2] st I := g_bipush (n := 8) dX11_keep_6 (by decide +kernel) (by decide) k
theorem dX11_keep_8 : decode cX11_keep 8 = .ok (.if_icmp .ne 44, 3) := by decide +kernel
theorem X11_keep_8 {Q : z_M → Prop} {a0 a1 a2 : z_V} {x y : Int} {st : List z_V} {I : z_M} (kt : x ≠ y → JX11_keep Q 52 [a0, a1, a2] st I) (kf : x = y → JX11_keep Q 11 [a0, a1, a2] st I) : JX11_keep Q 8 [a0, a1, a2] (aI y :: aI x :: st) I := g_icmp_ne dX11_keep_8 (by decide) kt kf
theorem dX11_keep_11 : decode cX11_keep 11 = .ok (.iconst 0, 1) := by decide +kernel
theorem X11_keep_11 {Q : z_M → Prop} {a0 a1 a2 : z_V} {st : List z_V} {I : z_M} (k : JX11_keep Q 12 [a0, a1, a2] (aI 0 :: st) I) : JX11_keep Q 11 [a0, a1, a2] st I := g_iconst (n := 0) dX11_keep_11 (by decide) k
theorem dX11_keep_12 : decode cX11_keep 12 = .ok (.istore_n 1, 1) := by decide +kernel
theorem X11_keep_12 {Q : z_M → Prop} {a0 a1 a2 : z_V} {x : Int} {st : List z_V} {I : z_M} (hb : z_nl [a0, a1, a2] 1 = true := by rfl) (k : JX11_keep Q 13 [a0, aI x, a2] st I) : JX11_keep Q 12 [a0, a1, a2] (aI x :: st) I := g_istore_n (i := 1) (x := x) dX11_keep_12 rfl (show 1 < 3 from by decide) hb k
theorem dX11_keep_13 : decode cX11_keep 13 = .ok (.iload_n 1, 1) := by decide +kernel
theorem X11_keep_13 {Q : z_M → Prop} {a0 a2 : z_V} {x : Int} {st : List z_V} {I : z_M} (k : JX11_keep Q 14 [a0, aI x, a2] (aI x :: st) I) : JX11_keep Q 13 [a0, aI x, a2] st I := g_iload_n (i := 1) (x := x) dX11_keep_13 rfl rfl k
theorem dX11_keep_14 : decode cX11_keep 14 = .ok (.bipush 119, 2) := by decide +kernel
theorem X11_keep_14 {Q : z_M → Prop} {a0 a1 a2 : z_V} {st : List z_V} {I : z_M} (k : JX11_keep Q 16 [a0, a1, a2] (aI 119 :: st) I) : JX11_keep Q 14 [a0, a1, a2] st I := g_bipush (n := 119) dX11_keep_14 (by decide +kernel) (by decide) k
theorem dX11_keep_16 : decode cX11_keep 16 = .ok (.if_icmp .ge 28, 3) := by decide +kernel
theorem X11_keep_16 {Q : z_M → Prop} {a0 a1 a2 : z_V} {x y : Int} {st : List z_V} {I : z_M} (kt : y ≤ x → JX11_keep Q 44 [a0, a1, a2] st I) (kf : x < y → JX11_keep Q 19 [a0, a1, a2] st I) : JX11_keep Q 16 [a0, a1, a2] (aI y :: aI x :: st) I := g_icmp_ge dX11_keep_16 (by decide) kt kf
theorem dX11_keep_19 : decode cX11_keep 19 = .ok (.aload_n 0, 1) := by decide +kernel
theorem X11_keep_19 {Q : z_M → Prop} {a1 a2 : z_V} {x : Nat} {st : List z_V} {I : z_M} (k : JX11_keep Q 20 [aR x, a1, a2] (aR x :: st) I) : JX11_keep Q 19 [aR x, a1, a2] st I := g_aload_n (i := 0) (x := x) dX11_keep_19 rfl rfl k
theorem dX11_keep_20 : decode cX11_keep 20 = .ok (.getfield 7, 3) := by decide +kernel
theorem X11_keep_20 {Q : z_M → Prop} {a0 a1 a2 : z_V}  {st : List z_V} {I : z_M}  (k : JX11_keep Q 23 [a0, a1, a2] (aR (61) :: st) I) : JX11_keep Q 20 [a0, a1, a2] (aR 60 :: st) I := g_getr (ci := 11) (j := 0) (N := 23) (T := TX11) dX11_keep_20 rfl rfl (by decide) (z_nc11 rfl) inlX11 (by decide) m_5_1 rfl rfl k
theorem dX11_keep_23 : decode cX11_keep 23 = .ok (.bipush 113, 2) := by decide +kernel
theorem X11_keep_23 {Q : z_M → Prop} {a0 a1 a2 : z_V} {st : List z_V} {I : z_M} (k : JX11_keep Q 25 [a0, a1, a2] (aI 113 :: st) I) : JX11_keep Q 23 [a0, a1, a2] st I := g_bipush (n := 113) dX11_keep_23 (by decide +kernel) (by decide) k
theorem dX11_keep_25 : decode cX11_keep 25 = .ok (.iload_n 1, 1) := by decide +kernel
theorem X11_keep_25 {Q : z_M → Prop} {a0 a2 : z_V} {x : Int} {st : List z_V} {I : z_M} (k : JX11_keep Q 26 [a0, aI x, a2] (aI x :: st) I) : JX11_keep Q 25 [a0, aI x, a2] st I := g_iload_n (i := 1) (x := x) dX11_keep_25 rfl rfl k
theorem dX11_keep_26 : decode cX11_keep 26 = .ok (.iadd, 1) := by decide +kernel
theorem X11_keep_26 {Q : z_M → Prop} {a0 a1 a2 : z_V} {x y : Int} {st : List z_V} {I : z_M} (hr : inI (x + y) := by omega) (k : JX11_keep Q 27 [a0, a1, a2] (aI (x + y) :: st) I) : JX11_keep Q 26 [a0, a1, a2] (aI y :: aI x :: st) I := g_iadd dX11_keep_26 hr k
theorem X11_keep_26w {Q : z_M → Prop} {a0 a1 a2 : z_V} {x y : Int} {st : List z_V} {I : z_M} (k : JX11_keep Q 27 [a0, a1, a2] (aI (i32 (x + y)) :: st) I) : JX11_keep Q 26 [a0, a1, a2] (aI y :: aI x :: st) I := g_iaddw dX11_keep_26 k
theorem dX11_keep_27 : decode cX11_keep 27 = .ok (.aload_n 0, 1) := by decide +kernel
theorem X11_keep_27 {Q : z_M → Prop} {a1 a2 : z_V} {x : Nat} {st : List z_V} {I : z_M} (k : JX11_keep Q 28 [aR x, a1, a2] (aR x :: st) I) : JX11_keep Q 27 [aR x, a1, a2] st I := g_aload_n (i := 0) (x := x) dX11_keep_27 rfl rfl k
theorem dX11_keep_28 : decode cX11_keep 28 = .ok (.getfield 7, 3) := by decide +kernel
theorem X11_keep_28 {Q : z_M → Prop} {a0 a1 a2 : z_V}  {st : List z_V} {I : z_M}  (k : JX11_keep Q 31 [a0, a1, a2] (aR (61) :: st) I) : JX11_keep Q 28 [a0, a1, a2] (aR 60 :: st) I := g_getr (ci := 11) (j := 0) (N := 23) (T := TX11) dX11_keep_28 rfl rfl (by decide) (z_nc11 rfl) inlX11 (by decide) m_5_1 rfl rfl k
theorem dX11_keep_31 : decode cX11_keep 31 = .ok (.sipush 130, 3) := by decide +kernel
theorem X11_keep_31 {Q : z_M → Prop} {a0 a1 a2 : z_V} {st : List z_V} {I : z_M} (k : JX11_keep Q 34 [a0, a1, a2] (aI 130 :: st) I) : JX11_keep Q 31 [a0, a1, a2] st I := g_sipush (n := 130) dX11_keep_31 (by decide +kernel) (by decide) k
theorem dX11_keep_34 : decode cX11_keep 34 = .ok (.iload_n 1, 1) := by decide +kernel
theorem X11_keep_34 {Q : z_M → Prop} {a0 a2 : z_V} {x : Int} {st : List z_V} {I : z_M} (k : JX11_keep Q 35 [a0, aI x, a2] (aI x :: st) I) : JX11_keep Q 34 [a0, aI x, a2] st I := g_iload_n (i := 1) (x := x) dX11_keep_34 rfl rfl k
theorem dX11_keep_35 : decode cX11_keep 35 = .ok (.iadd, 1) := by decide +kernel
theorem X11_keep_35 {Q : z_M → Prop} {a0 a1 a2 : z_V} {x y : Int} {st : List z_V} {I : z_M} (hr : inI (x + y) := by omega) (k : JX11_keep Q 36 [a0, a1, a2] (aI (x + y) :: st) I) : JX11_keep Q 35 [a0, a1, a2] (aI y :: aI x :: st) I := g_iadd dX11_keep_35 hr k
theorem X11_keep_35w {Q : z_M → Prop} {a0 a1 a2 : z_V} {x y : Int} {st : List z_V} {I : z_M} (k : JX11_keep Q 36 [a0, a1, a2] (aI (i32 (x + y)) :: st) I) : JX11_keep Q 35 [a0, a1, a2] (aI y :: aI x :: st) I := g_iaddw dX11_keep_35 k
theorem dX11_keep_36 : decode cX11_keep 36 = .ok (.iaload, 1) := by decide +kernel
theorem X11_keep_36 {Q : z_M → Prop} {a0 a1 a2 : z_V} {q : Nat} {i : Int} {st : List z_V} {I : z_M} (hk : z_cl q = 20 := by first | assumption | rfl) (h0 : 0 ≤ i := by omega) (h1 : i < z_n q := by first | omega | (simp only [zn_1, zn_9, zn_10, zn_11, zn_12, zn_13, zn_14, zn_15, zn_16, zn_18, zn_20, zn_21, zn_22, zn_23, zn_24, zn_25, zn_26, zn_27, zn_29, zn_30, zn_53, zn_55, zn_56, zn_58, zn_59, zn_61, zn_62, zn_63, zn_64, zn_65, zn_66, zn_67, zn_68, zn_69, zn_70, zn_71, zn_72, zn_73]; omega)) (k : JX11_keep Q 37 [a0, a1, a2] (aI (I q i.toNat) :: st) I) : JX11_keep Q 36 [a0, a1, a2] (aI i :: aR q :: st) I := g_iald dX11_keep_36 hk h0 h1 k
theorem dX11_keep_37 : decode cX11_keep 37 = .ok (.iastore, 1) := by decide +kernel
theorem X11_keep_37 {Q : z_M → Prop} {a0 a1 a2 : z_V} {q : Nat} {i x : Int} {st : List z_V} {I : z_M} (hk : z_cl q = 20 := by first | assumption | rfl) (h0 : 0 ≤ i := by omega) (h1 : i < z_n q := by first | omega | (simp only [zn_1, zn_9, zn_10, zn_11, zn_12, zn_13, zn_14, zn_15, zn_16, zn_18, zn_20, zn_21, zn_22, zn_23, zn_24, zn_25, zn_26, zn_27, zn_29, zn_30, zn_53, zn_55, zn_56, zn_58, zn_59, zn_61, zn_62, zn_63, zn_64, zn_65, zn_66, zn_67, zn_68, zn_69, zn_70, zn_71, zn_72, zn_73]; omega))  (k : JX11_keep Q 38 [a0, a1, a2] st (z_up I q i.toNat x)) : JX11_keep Q 37 [a0, a1, a2] (aI x :: aI i :: aR q :: st) I := g_iast dX11_keep_37 hk h0 h1 k
theorem dX11_keep_38 : decode cX11_keep 38 = .ok (.iinc 1 1, 3) := by decide +kernel
theorem X11_keep_38 {Q : z_M → Prop} {a0 a2 : z_V} {x : Int} {st : List z_V} {I : z_M} (hb : z_nl [a0, aI x, a2] 1 = true := by rfl) (hr : inI (x + 1) := by omega) (k : JX11_keep Q 41 [a0, aI (x + 1), a2] st I) : JX11_keep Q 38 [a0, aI x, a2] st I := g_iinc (i := 1) (x := x) dX11_keep_38 rfl (show 1 < 3 from by decide) hb hr k
theorem dX11_keep_41 : decode cX11_keep 41 = .ok (.goto (-28), 3) := by decide +kernel
theorem X11_keep_41 {Q : z_M → Prop} {a0 a1 a2 : z_V} {st : List z_V} {I : z_M} (k : JX11_keep Q 13 [a0, a1, a2] st I) : JX11_keep Q 41 [a0, a1, a2] st I := g_goto dX11_keep_41 (by decide) k
theorem dX11_keep_44 : decode cX11_keep 44 = .ok (.aload_n 0, 1) := by decide +kernel
theorem X11_keep_44 {Q : z_M → Prop} {a1 a2 : z_V} {x : Nat} {st : List z_V} {I : z_M} (k : JX11_keep Q 45 [aR x, a1, a2] (aR x :: st) I) : JX11_keep Q 44 [aR x, a1, a2] st I := g_aload_n (i := 0) (x := x) dX11_keep_44 rfl rfl k
theorem dX11_keep_45 : decode cX11_keep 45 = .ok (.getfield 7, 3) := by decide +kernel
theorem X11_keep_45 {Q : z_M → Prop} {a0 a1 a2 : z_V}  {st : List z_V} {I : z_M}  (k : JX11_keep Q 48 [a0, a1, a2] (aR (61) :: st) I) : JX11_keep Q 45 [a0, a1, a2] (aR 60 :: st) I := g_getr (ci := 11) (j := 0) (N := 23) (T := TX11) dX11_keep_45 rfl rfl (by decide) (z_nc11 rfl) inlX11 (by decide) m_5_1 rfl rfl k
theorem dX11_keep_48 : decode cX11_keep 48 = .ok (.iconst 4, 1) := by decide +kernel
theorem X11_keep_48 {Q : z_M → Prop} {a0 a1 a2 : z_V} {st : List z_V} {I : z_M} (k : JX11_keep Q 49 [a0, a1, a2] (aI 4 :: st) I) : JX11_keep Q 48 [a0, a1, a2] st I := g_iconst (n := 4) dX11_keep_48 (by decide) k
theorem dX11_keep_49 : decode cX11_keep 49 = .ok (.bipush 7, 2) := by decide +kernel
theorem X11_keep_49 {Q : z_M → Prop} {a0 a1 a2 : z_V} {st : List z_V} {I : z_M} (k : JX11_keep Q 51 [a0, a1, a2] (aI 7 :: st) I) : JX11_keep Q 49 [a0, a1, a2] st I := g_bipush (n := 7) dX11_keep_49 (by decide +kernel) (by decide) k
theorem dX11_keep_51 : decode cX11_keep 51 = .ok (.iastore, 1) := by decide +kernel
theorem X11_keep_51 {Q : z_M → Prop} {a0 a1 a2 : z_V} {q : Nat} {i x : Int} {st : List z_V} {I : z_M} (hk : z_cl q = 20 := by first | assumption | rfl) (h0 : 0 ≤ i := by omega) (h1 : i < z_n q := by first | omega | (simp only [zn_1, zn_9, zn_10, zn_11, zn_12, zn_13, zn_14, zn_15, zn_16, zn_18, zn_20, zn_21, zn_22, zn_23, zn_24, zn_25, zn_26, zn_27, zn_29, zn_30, zn_53, zn_55, zn_56, zn_58, zn_59, zn_61, zn_62, zn_63, zn_64, zn_65, zn_66, zn_67, zn_68, zn_69, zn_70, zn_71, zn_72, zn_73]; omega))  (k : JX11_keep Q 52 [a0, a1, a2] st (z_up I q i.toNat x)) : JX11_keep Q 51 [a0, a1, a2] (aI x :: aI i :: aR q :: st) I := g_iast dX11_keep_51 hk h0 h1 k
theorem dX11_keep_52 : decode cX11_keep 52 = .ok (.bipush 113, 2) := by decide +kernel
theorem X11_keep_52 {Q : z_M → Prop} {a0 a1 a2 : z_V} {st : List z_V} {I : z_M} (k : JX11_keep Q 54 [a0, a1, a2] (aI 113 :: st) I) : JX11_keep Q 52 [a0, a1, a2] st I := g_bipush (n := 113) dX11_keep_52 (by decide +kernel) (by decide) k
theorem dX11_keep_54 : decode cX11_keep 54 = .ok (.bipush 17, 2) := by decide +kernel
theorem X11_keep_54 {Q : z_M → Prop} {a0 a1 a2 : z_V} {st : List z_V} {I : z_M} (k : JX11_keep Q 56 [a0, a1, a2] (aI 17 :: st) I) : JX11_keep Q 54 [a0, a1, a2] st I := g_bipush (n := 17) dX11_keep_54 (by decide +kernel) (by decide) k
theorem dX11_keep_56 : decode cX11_keep 56 = .ok (.aload_n 0, 1) := by decide +kernel
theorem X11_keep_56 {Q : z_M → Prop} {a1 a2 : z_V} {x : Nat} {st : List z_V} {I : z_M} (k : JX11_keep Q 57 [aR x, a1, a2] (aR x :: st) I) : JX11_keep Q 56 [aR x, a1, a2] st I := g_aload_n (i := 0) (x := x) dX11_keep_56 rfl rfl k
theorem dX11_keep_57 : decode cX11_keep 57 = .ok (.getfield 7, 3) := by decide +kernel
theorem X11_keep_57 {Q : z_M → Prop} {a0 a1 a2 : z_V}  {st : List z_V} {I : z_M}  (k : JX11_keep Q 60 [a0, a1, a2] (aR (61) :: st) I) : JX11_keep Q 57 [a0, a1, a2] (aR 60 :: st) I := g_getr (ci := 11) (j := 0) (N := 23) (T := TX11) dX11_keep_57 rfl rfl (by decide) (z_nc11 rfl) inlX11 (by decide) m_5_1 rfl rfl k
theorem dX11_keep_60 : decode cX11_keep 60 = .ok (.iconst 4, 1) := by decide +kernel
theorem X11_keep_60 {Q : z_M → Prop} {a0 a1 a2 : z_V} {st : List z_V} {I : z_M} (k : JX11_keep Q 61 [a0, a1, a2] (aI 4 :: st) I) : JX11_keep Q 60 [a0, a1, a2] st I := g_iconst (n := 4) dX11_keep_60 (by decide) k
theorem dX11_keep_61 : decode cX11_keep 61 = .ok (.iaload, 1) := by decide +kernel
theorem X11_keep_61 {Q : z_M → Prop} {a0 a1 a2 : z_V} {q : Nat} {i : Int} {st : List z_V} {I : z_M} (hk : z_cl q = 20 := by first | assumption | rfl) (h0 : 0 ≤ i := by omega) (h1 : i < z_n q := by first | omega | (simp only [zn_1, zn_9, zn_10, zn_11, zn_12, zn_13, zn_14, zn_15, zn_16, zn_18, zn_20, zn_21, zn_22, zn_23, zn_24, zn_25, zn_26, zn_27, zn_29, zn_30, zn_53, zn_55, zn_56, zn_58, zn_59, zn_61, zn_62, zn_63, zn_64, zn_65, zn_66, zn_67, zn_68, zn_69, zn_70, zn_71, zn_72, zn_73]; omega)) (k : JX11_keep Q 62 [a0, a1, a2] (aI (I q i.toNat) :: st) I) : JX11_keep Q 61 [a0, a1, a2] (aI i :: aR q :: st) I := g_iald dX11_keep_61 hk h0 h1 k
theorem dX11_keep_62 : decode cX11_keep 62 = .ok (.imul, 1) := by decide +kernel
theorem X11_keep_62 {Q : z_M → Prop} {a0 a1 a2 : z_V} {x y : Int} {st : List z_V} {I : z_M} (hr : inI (x * y) := by omega) (k : JX11_keep Q 63 [a0, a1, a2] (aI (x * y) :: st) I) : JX11_keep Q 62 [a0, a1, a2] (aI y :: aI x :: st) I := g_imul dX11_keep_62 hr k
theorem X11_keep_62w {Q : z_M → Prop} {a0 a1 a2 : z_V} {x y : Int} {st : List z_V} {I : z_M} (k : JX11_keep Q 63 [a0, a1, a2] (aI (i32 (x * y)) :: st) I) : JX11_keep Q 62 [a0, a1, a2] (aI y :: aI x :: st) I := g_imulw dX11_keep_62 k
theorem dX11_keep_63 : decode cX11_keep 63 = .ok (.iadd, 1) := by decide +kernel
theorem X11_keep_63 {Q : z_M → Prop} {a0 a1 a2 : z_V} {x y : Int} {st : List z_V} {I : z_M} (hr : inI (x + y) := by omega) (k : JX11_keep Q 64 [a0, a1, a2] (aI (x + y) :: st) I) : JX11_keep Q 63 [a0, a1, a2] (aI y :: aI x :: st) I := g_iadd dX11_keep_63 hr k
theorem X11_keep_63w {Q : z_M → Prop} {a0 a1 a2 : z_V} {x y : Int} {st : List z_V} {I : z_M} (k : JX11_keep Q 64 [a0, a1, a2] (aI (i32 (x + y)) :: st) I) : JX11_keep Q 63 [a0, a1, a2] (aI y :: aI x :: st) I := g_iaddw dX11_keep_63 k
theorem dX11_keep_64 : decode cX11_keep 64 = .ok (.istore_n 1, 1) := by decide +kernel
theorem X11_keep_64 {Q : z_M → Prop} {a0 a1 a2 : z_V} {x : Int} {st : List z_V} {I : z_M} (hb : z_nl [a0, a1, a2] 1 = true := by rfl) (k : JX11_keep Q 65 [a0, aI x, a2] st I) : JX11_keep Q 64 [a0, a1, a2] (aI x :: st) I := g_istore_n (i := 1) (x := x) dX11_keep_64 rfl (show 1 < 3 from by decide) hb k
theorem dX11_keep_65 : decode cX11_keep 65 = .ok (.aload_n 0, 1) := by decide +kernel
theorem X11_keep_65 {Q : z_M → Prop} {a1 a2 : z_V} {x : Nat} {st : List z_V} {I : z_M} (k : JX11_keep Q 66 [aR x, a1, a2] (aR x :: st) I) : JX11_keep Q 65 [aR x, a1, a2] st I := g_aload_n (i := 0) (x := x) dX11_keep_65 rfl rfl k
theorem dX11_keep_66 : decode cX11_keep 66 = .ok (.getfield 7, 3) := by decide +kernel
theorem X11_keep_66 {Q : z_M → Prop} {a0 a1 a2 : z_V}  {st : List z_V} {I : z_M}  (k : JX11_keep Q 69 [a0, a1, a2] (aR (61) :: st) I) : JX11_keep Q 66 [a0, a1, a2] (aR 60 :: st) I := g_getr (ci := 11) (j := 0) (N := 23) (T := TX11) dX11_keep_66 rfl rfl (by decide) (z_nc11 rfl) inlX11 (by decide) m_5_1 rfl rfl k
theorem dX11_keep_69 : decode cX11_keep 69 = .ok (.iload_n 1, 1) := by decide +kernel
theorem X11_keep_69 {Q : z_M → Prop} {a0 a2 : z_V} {x : Int} {st : List z_V} {I : z_M} (k : JX11_keep Q 70 [a0, aI x, a2] (aI x :: st) I) : JX11_keep Q 69 [a0, aI x, a2] st I := g_iload_n (i := 1) (x := x) dX11_keep_69 rfl rfl k
theorem dX11_keep_70 : decode cX11_keep 70 = .ok (.aload_n 0, 1) := by decide +kernel
theorem X11_keep_70 {Q : z_M → Prop} {a1 a2 : z_V} {x : Nat} {st : List z_V} {I : z_M} (k : JX11_keep Q 71 [aR x, a1, a2] (aR x :: st) I) : JX11_keep Q 70 [aR x, a1, a2] st I := g_aload_n (i := 0) (x := x) dX11_keep_70 rfl rfl k
theorem dX11_keep_71 : decode cX11_keep 71 = .ok (.getfield 7, 3) := by decide +kernel
theorem X11_keep_71 {Q : z_M → Prop} {a0 a1 a2 : z_V}  {st : List z_V} {I : z_M}  (k : JX11_keep Q 74 [a0, a1, a2] (aR (61) :: st) I) : JX11_keep Q 71 [a0, a1, a2] (aR 60 :: st) I := g_getr (ci := 11) (j := 0) (N := 23) (T := TX11) dX11_keep_71 rfl rfl (by decide) (z_nc11 rfl) inlX11 (by decide) m_5_1 rfl rfl k
theorem dX11_keep_74 : decode cX11_keep 74 = .ok (.iconst 2, 1) := by decide +kernel
theorem X11_keep_74 {Q : z_M → Prop} {a0 a1 a2 : z_V} {st : List z_V} {I : z_M} (k : JX11_keep Q 75 [a0, a1, a2] (aI 2 :: st) I) : JX11_keep Q 74 [a0, a1, a2] st I := g_iconst (n := 2) dX11_keep_74 (by decide) k
theorem dX11_keep_75 : decode cX11_keep 75 = .ok (.iaload, 1) := by decide +kernel
theorem X11_keep_75 {Q : z_M → Prop} {a0 a1 a2 : z_V} {q : Nat} {i : Int} {st : List z_V} {I : z_M} (hk : z_cl q = 20 := by first | assumption | rfl) (h0 : 0 ≤ i := by omega) (h1 : i < z_n q := by first | omega | (simp only [zn_1, zn_9, zn_10, zn_11, zn_12, zn_13, zn_14, zn_15, zn_16, zn_18, zn_20, zn_21, zn_22, zn_23, zn_24, zn_25, zn_26, zn_27, zn_29, zn_30, zn_53, zn_55, zn_56, zn_58, zn_59, zn_61, zn_62, zn_63, zn_64, zn_65, zn_66, zn_67, zn_68, zn_69, zn_70, zn_71, zn_72, zn_73]; omega)) (k : JX11_keep Q 76 [a0, a1, a2] (aI (I q i.toNat) :: st) I) : JX11_keep Q 75 [a0, a1, a2] (aI i :: aR q :: st) I := g_iald dX11_keep_75 hk h0 h1 k
theorem dX11_keep_76 : decode cX11_keep 76 = .ok (.iastore, 1) := by decide +kernel
theorem X11_keep_76 {Q : z_M → Prop} {a0 a1 a2 : z_V} {q : Nat} {i x : Int} {st : List z_V} {I : z_M} (hk : z_cl q = 20 := by first | assumption | rfl) (h0 : 0 ≤ i := by omega) (h1 : i < z_n q := by first | omega | (simp only [zn_1, zn_9, zn_10, zn_11, zn_12, zn_13, zn_14, zn_15, zn_16, zn_18, zn_20, zn_21, zn_22, zn_23, zn_24, zn_25, zn_26, zn_27, zn_29, zn_30, zn_53, zn_55, zn_56, zn_58, zn_59, zn_61, zn_62, zn_63, zn_64, zn_65, zn_66, zn_67, zn_68, zn_69, zn_70, zn_71, zn_72, zn_73]; omega))  (k : JX11_keep Q 77 [a0, a1, a2] st (z_up I q i.toNat x)) : JX11_keep Q 76 [a0, a1, a2] (aI x :: aI i :: aR q :: st) I := g_iast dX11_keep_76 hk h0 h1 k
theorem dX11_keep_77 : decode cX11_keep 77 = .ok (.iconst 0, 1) := by decide +kernel
theorem X11_keep_77 {Q : z_M → Prop} {a0 a1 a2 : z_V} {st : List z_V} {I : z_M} (k : JX11_keep Q 78 [a0, a1, a2] (aI 0 :: st) I) : JX11_keep Q 77 [a0, a1, a2] st I := g_iconst (n := 0) dX11_keep_77 (by decide) k
theorem dX11_keep_78 : decode cX11_keep 78 = .ok (.istore_n 2, 1) := by decide +kernel
theorem X11_keep_78 {Q : z_M → Prop} {a0 a1 a2 : z_V} {x : Int} {st : List z_V} {I : z_M} (hb : z_nl [a0, a1, a2] 2 = true := by rfl) (k : JX11_keep Q 79 [a0, a1, aI x] st I) : JX11_keep Q 78 [a0, a1, a2] (aI x :: st) I := g_istore_n (i := 2) (x := x) dX11_keep_78 rfl (show 2 < 3 from by decide) hb k
theorem dX11_keep_79 : decode cX11_keep 79 = .ok (.iload_n 2, 1) := by decide +kernel
theorem X11_keep_79 {Q : z_M → Prop} {a0 a1 : z_V} {x : Int} {st : List z_V} {I : z_M} (k : JX11_keep Q 80 [a0, a1, aI x] (aI x :: st) I) : JX11_keep Q 79 [a0, a1, aI x] st I := g_iload_n (i := 2) (x := x) dX11_keep_79 rfl rfl k
theorem dX11_keep_80 : decode cX11_keep 80 = .ok (.bipush 8, 2) := by decide +kernel
theorem X11_keep_80 {Q : z_M → Prop} {a0 a1 a2 : z_V} {st : List z_V} {I : z_M} (k : JX11_keep Q 82 [a0, a1, a2] (aI 8 :: st) I) : JX11_keep Q 80 [a0, a1, a2] st I := g_bipush (n := 8) dX11_keep_80 (by decide +kernel) (by decide) k
theorem dX11_keep_82 : decode cX11_keep 82 = .ok (.if_icmp .ge 42, 3) := by decide +kernel
theorem X11_keep_82 {Q : z_M → Prop} {a0 a1 a2 : z_V} {x y : Int} {st : List z_V} {I : z_M} (kt : y ≤ x → JX11_keep Q 124 [a0, a1, a2] st I) (kf : x < y → JX11_keep Q 85 [a0, a1, a2] st I) : JX11_keep Q 82 [a0, a1, a2] (aI y :: aI x :: st) I := g_icmp_ge dX11_keep_82 (by decide) kt kf
theorem dX11_keep_85 : decode cX11_keep 85 = .ok (.aload_n 0, 1) := by decide +kernel
theorem X11_keep_85 {Q : z_M → Prop} {a1 a2 : z_V} {x : Nat} {st : List z_V} {I : z_M} (k : JX11_keep Q 86 [aR x, a1, a2] (aR x :: st) I) : JX11_keep Q 85 [aR x, a1, a2] st I := g_aload_n (i := 0) (x := x) dX11_keep_85 rfl rfl k
theorem dX11_keep_86 : decode cX11_keep 86 = .ok (.getfield 7, 3) := by decide +kernel
theorem X11_keep_86 {Q : z_M → Prop} {a0 a1 a2 : z_V}  {st : List z_V} {I : z_M}  (k : JX11_keep Q 89 [a0, a1, a2] (aR (61) :: st) I) : JX11_keep Q 86 [a0, a1, a2] (aR 60 :: st) I := g_getr (ci := 11) (j := 0) (N := 23) (T := TX11) dX11_keep_86 rfl rfl (by decide) (z_nc11 rfl) inlX11 (by decide) m_5_1 rfl rfl k
theorem dX11_keep_89 : decode cX11_keep 89 = .ok (.iload_n 1, 1) := by decide +kernel
theorem X11_keep_89 {Q : z_M → Prop} {a0 a2 : z_V} {x : Int} {st : List z_V} {I : z_M} (k : JX11_keep Q 90 [a0, aI x, a2] (aI x :: st) I) : JX11_keep Q 89 [a0, aI x, a2] st I := g_iload_n (i := 1) (x := x) dX11_keep_89 rfl rfl k
theorem dX11_keep_90 : decode cX11_keep 90 = .ok (.iconst 1, 1) := by decide +kernel
theorem X11_keep_90 {Q : z_M → Prop} {a0 a1 a2 : z_V} {st : List z_V} {I : z_M} (k : JX11_keep Q 91 [a0, a1, a2] (aI 1 :: st) I) : JX11_keep Q 90 [a0, a1, a2] st I := g_iconst (n := 1) dX11_keep_90 (by decide) k
theorem dX11_keep_91 : decode cX11_keep 91 = .ok (.iadd, 1) := by decide +kernel
theorem X11_keep_91 {Q : z_M → Prop} {a0 a1 a2 : z_V} {x y : Int} {st : List z_V} {I : z_M} (hr : inI (x + y) := by omega) (k : JX11_keep Q 92 [a0, a1, a2] (aI (x + y) :: st) I) : JX11_keep Q 91 [a0, a1, a2] (aI y :: aI x :: st) I := g_iadd dX11_keep_91 hr k
theorem X11_keep_91w {Q : z_M → Prop} {a0 a1 a2 : z_V} {x y : Int} {st : List z_V} {I : z_M} (k : JX11_keep Q 92 [a0, a1, a2] (aI (i32 (x + y)) :: st) I) : JX11_keep Q 91 [a0, a1, a2] (aI y :: aI x :: st) I := g_iaddw dX11_keep_91 k
theorem dX11_keep_92 : decode cX11_keep 92 = .ok (.iload_n 2, 1) := by decide +kernel
theorem X11_keep_92 {Q : z_M → Prop} {a0 a1 : z_V} {x : Int} {st : List z_V} {I : z_M} (k : JX11_keep Q 93 [a0, a1, aI x] (aI x :: st) I) : JX11_keep Q 92 [a0, a1, aI x] st I := g_iload_n (i := 2) (x := x) dX11_keep_92 rfl rfl k
theorem dX11_keep_93 : decode cX11_keep 93 = .ok (.iadd, 1) := by decide +kernel
theorem X11_keep_93 {Q : z_M → Prop} {a0 a1 a2 : z_V} {x y : Int} {st : List z_V} {I : z_M} (hr : inI (x + y) := by omega) (k : JX11_keep Q 94 [a0, a1, a2] (aI (x + y) :: st) I) : JX11_keep Q 93 [a0, a1, a2] (aI y :: aI x :: st) I := g_iadd dX11_keep_93 hr k
theorem X11_keep_93w {Q : z_M → Prop} {a0 a1 a2 : z_V} {x y : Int} {st : List z_V} {I : z_M} (k : JX11_keep Q 94 [a0, a1, a2] (aI (i32 (x + y)) :: st) I) : JX11_keep Q 93 [a0, a1, a2] (aI y :: aI x :: st) I := g_iaddw dX11_keep_93 k
theorem dX11_keep_94 : decode cX11_keep 94 = .ok (.aload_n 0, 1) := by decide +kernel
theorem X11_keep_94 {Q : z_M → Prop} {a1 a2 : z_V} {x : Nat} {st : List z_V} {I : z_M} (k : JX11_keep Q 95 [aR x, a1, a2] (aR x :: st) I) : JX11_keep Q 94 [aR x, a1, a2] st I := g_aload_n (i := 0) (x := x) dX11_keep_94 rfl rfl k
theorem dX11_keep_95 : decode cX11_keep 95 = .ok (.iload_n 2, 1) := by decide +kernel
theorem X11_keep_95 {Q : z_M → Prop} {a0 a1 : z_V} {x : Int} {st : List z_V} {I : z_M} (k : JX11_keep Q 96 [a0, a1, aI x] (aI x :: st) I) : JX11_keep Q 95 [a0, a1, aI x] st I := g_iload_n (i := 2) (x := x) dX11_keep_95 rfl rfl k
theorem dX11_keep_96 : decode cX11_keep 96 = .ok (.iconst 2, 1) := by decide +kernel
theorem X11_keep_96 {Q : z_M → Prop} {a0 a1 a2 : z_V} {st : List z_V} {I : z_M} (k : JX11_keep Q 97 [a0, a1, a2] (aI 2 :: st) I) : JX11_keep Q 96 [a0, a1, a2] st I := g_iconst (n := 2) dX11_keep_96 (by decide) k
theorem dX11_keep_97 : decode cX11_keep 97 = .ok (.invokevirtual 115, 3) := by decide +kernel
theorem X11_keep_97 {Q : z_M → Prop} {a0 a1 a2 : z_V}  {x0 : Int} {x1 : Int} {st : List z_V} {I : z_M}  (hst : z_sw st ≤ 8 := by exact Nat.le_of_ble_eq_true rfl) (k : CX11_pipeHas (aR 60 :: [aI x0, aI x1]) I (fun x9 I9 => JX11_keep Q 100 [a0, a1, a2] (aI x9 :: st) I9)) : JX11_keep Q 97 [a0, a1, a2] (aI x1 :: aI x0 :: aR 60 :: st) I := g_callV (C := RX11) (ci := 11) (As := [aI x0, aI x1]) (n := 2) dX11_keep_97 ⟨m_24_0, pdX11_pipeHas, ⟨by decide, by decide⟩, rfl, rfl, by decide, by decide⟩ m_23_21 m_23_22 m_23_23 m_1_5 rfl rfl (by decide) rfl rfl hst k (fun r I9 h => by obtain ⟨x9, rfl, h⟩ := h; exact h)
theorem dX11_keep_100 : decode cX11_keep 100 = .ok (.iastore, 1) := by decide +kernel
theorem X11_keep_100 {Q : z_M → Prop} {a0 a1 a2 : z_V} {q : Nat} {i x : Int} {st : List z_V} {I : z_M} (hk : z_cl q = 20 := by first | assumption | rfl) (h0 : 0 ≤ i := by omega) (h1 : i < z_n q := by first | omega | (simp only [zn_1, zn_9, zn_10, zn_11, zn_12, zn_13, zn_14, zn_15, zn_16, zn_18, zn_20, zn_21, zn_22, zn_23, zn_24, zn_25, zn_26, zn_27, zn_29, zn_30, zn_53, zn_55, zn_56, zn_58, zn_59, zn_61, zn_62, zn_63, zn_64, zn_65, zn_66, zn_67, zn_68, zn_69, zn_70, zn_71, zn_72, zn_73]; omega))  (k : JX11_keep Q 101 [a0, a1, a2] st (z_up I q i.toNat x)) : JX11_keep Q 100 [a0, a1, a2] (aI x :: aI i :: aR q :: st) I := g_iast dX11_keep_100 hk h0 h1 k
theorem dX11_keep_101 : decode cX11_keep 101 = .ok (.aload_n 0, 1) := by decide +kernel
theorem X11_keep_101 {Q : z_M → Prop} {a1 a2 : z_V} {x : Nat} {st : List z_V} {I : z_M} (k : JX11_keep Q 102 [aR x, a1, a2] (aR x :: st) I) : JX11_keep Q 101 [aR x, a1, a2] st I := g_aload_n (i := 0) (x := x) dX11_keep_101 rfl rfl k
theorem dX11_keep_102 : decode cX11_keep 102 = .ok (.getfield 7, 3) := by decide +kernel
theorem X11_keep_102 {Q : z_M → Prop} {a0 a1 a2 : z_V}  {st : List z_V} {I : z_M}  (k : JX11_keep Q 105 [a0, a1, a2] (aR (61) :: st) I) : JX11_keep Q 102 [a0, a1, a2] (aR 60 :: st) I := g_getr (ci := 11) (j := 0) (N := 23) (T := TX11) dX11_keep_102 rfl rfl (by decide) (z_nc11 rfl) inlX11 (by decide) m_5_1 rfl rfl k
theorem dX11_keep_105 : decode cX11_keep 105 = .ok (.iload_n 1, 1) := by decide +kernel
theorem X11_keep_105 {Q : z_M → Prop} {a0 a2 : z_V} {x : Int} {st : List z_V} {I : z_M} (k : JX11_keep Q 106 [a0, aI x, a2] (aI x :: st) I) : JX11_keep Q 105 [a0, aI x, a2] st I := g_iload_n (i := 1) (x := x) dX11_keep_105 rfl rfl k
theorem dX11_keep_106 : decode cX11_keep 106 = .ok (.bipush 9, 2) := by decide +kernel
theorem X11_keep_106 {Q : z_M → Prop} {a0 a1 a2 : z_V} {st : List z_V} {I : z_M} (k : JX11_keep Q 108 [a0, a1, a2] (aI 9 :: st) I) : JX11_keep Q 106 [a0, a1, a2] st I := g_bipush (n := 9) dX11_keep_106 (by decide +kernel) (by decide) k
theorem dX11_keep_108 : decode cX11_keep 108 = .ok (.iadd, 1) := by decide +kernel
theorem X11_keep_108 {Q : z_M → Prop} {a0 a1 a2 : z_V} {x y : Int} {st : List z_V} {I : z_M} (hr : inI (x + y) := by omega) (k : JX11_keep Q 109 [a0, a1, a2] (aI (x + y) :: st) I) : JX11_keep Q 108 [a0, a1, a2] (aI y :: aI x :: st) I := g_iadd dX11_keep_108 hr k
theorem X11_keep_108w {Q : z_M → Prop} {a0 a1 a2 : z_V} {x y : Int} {st : List z_V} {I : z_M} (k : JX11_keep Q 109 [a0, a1, a2] (aI (i32 (x + y)) :: st) I) : JX11_keep Q 108 [a0, a1, a2] (aI y :: aI x :: st) I := g_iaddw dX11_keep_108 k
theorem dX11_keep_109 : decode cX11_keep 109 = .ok (.iload_n 2, 1) := by decide +kernel
theorem X11_keep_109 {Q : z_M → Prop} {a0 a1 : z_V} {x : Int} {st : List z_V} {I : z_M} (k : JX11_keep Q 110 [a0, a1, aI x] (aI x :: st) I) : JX11_keep Q 109 [a0, a1, aI x] st I := g_iload_n (i := 2) (x := x) dX11_keep_109 rfl rfl k
theorem dX11_keep_110 : decode cX11_keep 110 = .ok (.iadd, 1) := by decide +kernel
theorem X11_keep_110 {Q : z_M → Prop} {a0 a1 a2 : z_V} {x y : Int} {st : List z_V} {I : z_M} (hr : inI (x + y) := by omega) (k : JX11_keep Q 111 [a0, a1, a2] (aI (x + y) :: st) I) : JX11_keep Q 110 [a0, a1, a2] (aI y :: aI x :: st) I := g_iadd dX11_keep_110 hr k
theorem X11_keep_110w {Q : z_M → Prop} {a0 a1 a2 : z_V} {x y : Int} {st : List z_V} {I : z_M} (k : JX11_keep Q 111 [a0, a1, a2] (aI (i32 (x + y)) :: st) I) : JX11_keep Q 110 [a0, a1, a2] (aI y :: aI x :: st) I := g_iaddw dX11_keep_110 k
theorem dX11_keep_111 : decode cX11_keep 111 = .ok (.aload_n 0, 1) := by decide +kernel
theorem X11_keep_111 {Q : z_M → Prop} {a1 a2 : z_V} {x : Nat} {st : List z_V} {I : z_M} (k : JX11_keep Q 112 [aR x, a1, a2] (aR x :: st) I) : JX11_keep Q 111 [aR x, a1, a2] st I := g_aload_n (i := 0) (x := x) dX11_keep_111 rfl rfl k
theorem dX11_keep_112 : decode cX11_keep 112 = .ok (.iload_n 2, 1) := by decide +kernel
theorem X11_keep_112 {Q : z_M → Prop} {a0 a1 : z_V} {x : Int} {st : List z_V} {I : z_M} (k : JX11_keep Q 113 [a0, a1, aI x] (aI x :: st) I) : JX11_keep Q 112 [a0, a1, aI x] st I := g_iload_n (i := 2) (x := x) dX11_keep_112 rfl rfl k
theorem dX11_keep_113 : decode cX11_keep 113 = .ok (.iconst 3, 1) := by decide +kernel
theorem X11_keep_113 {Q : z_M → Prop} {a0 a1 a2 : z_V} {st : List z_V} {I : z_M} (k : JX11_keep Q 114 [a0, a1, a2] (aI 3 :: st) I) : JX11_keep Q 113 [a0, a1, a2] st I := g_iconst (n := 3) dX11_keep_113 (by decide) k
theorem dX11_keep_114 : decode cX11_keep 114 = .ok (.invokevirtual 115, 3) := by decide +kernel
theorem X11_keep_114 {Q : z_M → Prop} {a0 a1 a2 : z_V}  {x0 : Int} {x1 : Int} {st : List z_V} {I : z_M}  (hst : z_sw st ≤ 8 := by exact Nat.le_of_ble_eq_true rfl) (k : CX11_pipeHas (aR 60 :: [aI x0, aI x1]) I (fun x9 I9 => JX11_keep Q 117 [a0, a1, a2] (aI x9 :: st) I9)) : JX11_keep Q 114 [a0, a1, a2] (aI x1 :: aI x0 :: aR 60 :: st) I := g_callV (C := RX11) (ci := 11) (As := [aI x0, aI x1]) (n := 2) dX11_keep_114 ⟨m_24_0, pdX11_pipeHas, ⟨by decide, by decide⟩, rfl, rfl, by decide, by decide⟩ m_23_21 m_23_22 m_23_23 m_1_5 rfl rfl (by decide) rfl rfl hst k (fun r I9 h => by obtain ⟨x9, rfl, h⟩ := h; exact h)
theorem dX11_keep_117 : decode cX11_keep 117 = .ok (.iastore, 1) := by decide +kernel
theorem X11_keep_117 {Q : z_M → Prop} {a0 a1 a2 : z_V} {q : Nat} {i x : Int} {st : List z_V} {I : z_M} (hk : z_cl q = 20 := by first | assumption | rfl) (h0 : 0 ≤ i := by omega) (h1 : i < z_n q := by first | omega | (simp only [zn_1, zn_9, zn_10, zn_11, zn_12, zn_13, zn_14, zn_15, zn_16, zn_18, zn_20, zn_21, zn_22, zn_23, zn_24, zn_25, zn_26, zn_27, zn_29, zn_30, zn_53, zn_55, zn_56, zn_58, zn_59, zn_61, zn_62, zn_63, zn_64, zn_65, zn_66, zn_67, zn_68, zn_69, zn_70, zn_71, zn_72, zn_73]; omega))  (k : JX11_keep Q 118 [a0, a1, a2] st (z_up I q i.toNat x)) : JX11_keep Q 117 [a0, a1, a2] (aI x :: aI i :: aR q :: st) I := g_iast dX11_keep_117 hk h0 h1 k
theorem dX11_keep_118 : decode cX11_keep 118 = .ok (.iinc 2 1, 3) := by decide +kernel
theorem X11_keep_118 {Q : z_M → Prop} {a0 a1 : z_V} {x : Int} {st : List z_V} {I : z_M} (hb : z_nl [a0, a1, aI x] 2 = true := by rfl) (hr : inI (x + 1) := by omega) (k : JX11_keep Q 121 [a0, a1, aI (x + 1)] st I) : JX11_keep Q 118 [a0, a1, aI x] st I := g_iinc (i := 2) (x := x) dX11_keep_118 rfl (show 2 < 3 from by decide) hb hr k
theorem dX11_keep_121 : decode cX11_keep 121 = .ok (.goto (-42), 3) := by decide +kernel
theorem X11_keep_121 {Q : z_M → Prop} {a0 a1 a2 : z_V} {st : List z_V} {I : z_M} (k : JX11_keep Q 79 [a0, a1, a2] st I) : JX11_keep Q 121 [a0, a1, a2] st I := g_goto dX11_keep_121 (by decide) k
theorem dX11_keep_124 : decode cX11_keep 124 = .ok (.aload_n 0, 1) := by decide +kernel
theorem X11_keep_124 {Q : z_M → Prop} {a1 a2 : z_V} {x : Nat} {st : List z_V} {I : z_M} (k : JX11_keep Q 125 [aR x, a1, a2] (aR x :: st) I) : JX11_keep Q 124 [aR x, a1, a2] st I := g_aload_n (i := 0) (x := x) dX11_keep_124 rfl rfl k
theorem dX11_keep_125 : decode cX11_keep 125 = .ok (.getfield 7, 3) := by decide +kernel
theorem X11_keep_125 {Q : z_M → Prop} {a0 a1 a2 : z_V}  {st : List z_V} {I : z_M}  (k : JX11_keep Q 128 [a0, a1, a2] (aR (61) :: st) I) : JX11_keep Q 125 [a0, a1, a2] (aR 60 :: st) I := g_getr (ci := 11) (j := 0) (N := 23) (T := TX11) dX11_keep_125 rfl rfl (by decide) (z_nc11 rfl) inlX11 (by decide) m_5_1 rfl rfl k
theorem dX11_keep_128 : decode cX11_keep 128 = .ok (.iconst 4, 1) := by decide +kernel
theorem X11_keep_128 {Q : z_M → Prop} {a0 a1 a2 : z_V} {st : List z_V} {I : z_M} (k : JX11_keep Q 129 [a0, a1, a2] (aI 4 :: st) I) : JX11_keep Q 128 [a0, a1, a2] st I := g_iconst (n := 4) dX11_keep_128 (by decide) k
theorem dX11_keep_129 : decode cX11_keep 129 = .ok (.dup2, 1) := by decide +kernel
theorem X11_keep_129 {Q : z_M → Prop} {a0 a1 a2 : z_V} {x y : z_V} {st : List z_V} {I : z_M} (hx : ∀ z, x ≠ aL z := by intro z q; cases q) (hy : ∀ z, y ≠ aL z := by intro z q; cases q) (k : JX11_keep Q 130 [a0, a1, a2] (x :: y :: x :: y :: st) I) : JX11_keep Q 129 [a0, a1, a2] (x :: y :: st) I := g_dup2 dX11_keep_129 hx hy k
theorem dX11_keep_130 : decode cX11_keep 130 = .ok (.iaload, 1) := by decide +kernel
theorem X11_keep_130 {Q : z_M → Prop} {a0 a1 a2 : z_V} {q : Nat} {i : Int} {st : List z_V} {I : z_M} (hk : z_cl q = 20 := by first | assumption | rfl) (h0 : 0 ≤ i := by omega) (h1 : i < z_n q := by first | omega | (simp only [zn_1, zn_9, zn_10, zn_11, zn_12, zn_13, zn_14, zn_15, zn_16, zn_18, zn_20, zn_21, zn_22, zn_23, zn_24, zn_25, zn_26, zn_27, zn_29, zn_30, zn_53, zn_55, zn_56, zn_58, zn_59, zn_61, zn_62, zn_63, zn_64, zn_65, zn_66, zn_67, zn_68, zn_69, zn_70, zn_71, zn_72, zn_73]; omega)) (k : JX11_keep Q 131 [a0, a1, a2] (aI (I q i.toNat) :: st) I) : JX11_keep Q 130 [a0, a1, a2] (aI i :: aR q :: st) I := g_iald dX11_keep_130 hk h0 h1 k
theorem dX11_keep_131 : decode cX11_keep 131 = .ok (.iconst 1, 1) := by decide +kernel
theorem X11_keep_131 {Q : z_M → Prop} {a0 a1 a2 : z_V} {st : List z_V} {I : z_M} (k : JX11_keep Q 132 [a0, a1, a2] (aI 1 :: st) I) : JX11_keep Q 131 [a0, a1, a2] st I := g_iconst (n := 1) dX11_keep_131 (by decide) k
theorem dX11_keep_132 : decode cX11_keep 132 = .ok (.iadd, 1) := by decide +kernel
theorem X11_keep_132 {Q : z_M → Prop} {a0 a1 a2 : z_V} {x y : Int} {st : List z_V} {I : z_M} (hr : inI (x + y) := by omega) (k : JX11_keep Q 133 [a0, a1, a2] (aI (x + y) :: st) I) : JX11_keep Q 132 [a0, a1, a2] (aI y :: aI x :: st) I := g_iadd dX11_keep_132 hr k
theorem X11_keep_132w {Q : z_M → Prop} {a0 a1 a2 : z_V} {x y : Int} {st : List z_V} {I : z_M} (k : JX11_keep Q 133 [a0, a1, a2] (aI (i32 (x + y)) :: st) I) : JX11_keep Q 132 [a0, a1, a2] (aI y :: aI x :: st) I := g_iaddw dX11_keep_132 k
theorem dX11_keep_133 : decode cX11_keep 133 = .ok (.iastore, 1) := by decide +kernel
theorem X11_keep_133 {Q : z_M → Prop} {a0 a1 a2 : z_V} {q : Nat} {i x : Int} {st : List z_V} {I : z_M} (hk : z_cl q = 20 := by first | assumption | rfl) (h0 : 0 ≤ i := by omega) (h1 : i < z_n q := by first | omega | (simp only [zn_1, zn_9, zn_10, zn_11, zn_12, zn_13, zn_14, zn_15, zn_16, zn_18, zn_20, zn_21, zn_22, zn_23, zn_24, zn_25, zn_26, zn_27, zn_29, zn_30, zn_53, zn_55, zn_56, zn_58, zn_59, zn_61, zn_62, zn_63, zn_64, zn_65, zn_66, zn_67, zn_68, zn_69, zn_70, zn_71, zn_72, zn_73]; omega))  (k : JX11_keep Q 134 [a0, a1, a2] st (z_up I q i.toNat x)) : JX11_keep Q 133 [a0, a1, a2] (aI x :: aI i :: aR q :: st) I := g_iast dX11_keep_133 hk h0 h1 k
theorem dX11_keep_134 : decode cX11_keep 134 = .ok (.return_, 1) := by decide +kernel
theorem X11_keep_134 {Q : z_M → Prop} {a0 a1 a2 : z_V} {I : z_M} (hq : Q I) : JX11_keep Q 134 [a0, a1, a2] [] I := g_return dX11_keep_134 ⟨rfl, hq⟩
theorem dX11_layNow_0 : decode cX11_layNow 0 = .ok (.aload_n 0, 1) := by decide +kernel
theorem X11_layNow_0 {Q : z_M → Prop} {a1 : z_V} {x : Nat} {st : List z_V} {I : z_M} (k : JX11_layNow Q 1 [aR x, a1] (aR x :: st) I) : JX11_layNow Q 0 [aR x, a1] st I := g_aload_n (i := 0) (x := x) dX11_layNow_0 rfl rfl k
theorem dX11_layNow_1 : decode cX11_layNow 1 = .ok (.getfield 7, 3) := by decide +kernel
theorem X11_layNow_1 {Q : z_M → Prop} {a0 a1 : z_V}  {st : List z_V} {I : z_M}  (k : JX11_layNow Q 4 [a0, a1] (aR (61) :: st) I) : JX11_layNow Q 1 [a0, a1] (aR 60 :: st) I := g_getr (ci := 11) (j := 0) (N := 23) (T := TX11) dX11_layNow_1 rfl rfl (by decide) (z_nc11 rfl) inlX11 (by decide) m_5_1 rfl rfl k
theorem dX11_layNow_4 : decode cX11_layNow 4 = .ok (.iconst 2, 1) := by decide +kernel
theorem X11_layNow_4 {Q : z_M → Prop} {a0 a1 : z_V} {st : List z_V} {I : z_M} (k : JX11_layNow Q 5 [a0, a1] (aI 2 :: st) I) : JX11_layNow Q 4 [a0, a1] st I := g_iconst (n := 2) dX11_layNow_4 (by decide) k
theorem dX11_layNow_5 : decode cX11_layNow 5 = .ok (.aload_n 0, 1) := by decide +kernel
theorem X11_layNow_5 {Q : z_M → Prop} {a1 : z_V} {x : Nat} {st : List z_V} {I : z_M} (k : JX11_layNow Q 6 [aR x, a1] (aR x :: st) I) : JX11_layNow Q 5 [aR x, a1] st I := g_aload_n (i := 0) (x := x) dX11_layNow_5 rfl rfl k
theorem dX11_layNow_6 : decode cX11_layNow 6 = .ok (.getfield 111, 3) := by decide +kernel
theorem X11_layNow_6 {Q : z_M → Prop} {a0 a1 : z_V}  {st : List z_V} {I : z_M}  (k : JX11_layNow Q 9 [a0, a1] (aI (I 60 6) :: st) I) : JX11_layNow Q 6 [a0, a1] (aR 60 :: st) I := g_geti (ci := 11) (j := 6) (N := 23) (T := TX11) dX11_layNow_6 rfl rfl (by decide) (z_nc11 rfl) inlX11 (by decide) m_24_5 rfl k
theorem dX11_layNow_9 : decode cX11_layNow 9 = .ok (.iastore, 1) := by decide +kernel
theorem X11_layNow_9 {Q : z_M → Prop} {a0 a1 : z_V} {q : Nat} {i x : Int} {st : List z_V} {I : z_M} (hk : z_cl q = 20 := by first | assumption | rfl) (h0 : 0 ≤ i := by omega) (h1 : i < z_n q := by first | omega | (simp only [zn_1, zn_9, zn_10, zn_11, zn_12, zn_13, zn_14, zn_15, zn_16, zn_18, zn_20, zn_21, zn_22, zn_23, zn_24, zn_25, zn_26, zn_27, zn_29, zn_30, zn_53, zn_55, zn_56, zn_58, zn_59, zn_61, zn_62, zn_63, zn_64, zn_65, zn_66, zn_67, zn_68, zn_69, zn_70, zn_71, zn_72, zn_73]; omega))  (k : JX11_layNow Q 10 [a0, a1] st (z_up I q i.toNat x)) : JX11_layNow Q 9 [a0, a1] (aI x :: aI i :: aR q :: st) I := g_iast dX11_layNow_9 hk h0 h1 k
theorem dX11_layNow_10 : decode cX11_layNow 10 = .ok (.iconst 0, 1) := by decide +kernel
theorem X11_layNow_10 {Q : z_M → Prop} {a0 a1 : z_V} {st : List z_V} {I : z_M} (k : JX11_layNow Q 11 [a0, a1] (aI 0 :: st) I) : JX11_layNow Q 10 [a0, a1] st I := g_iconst (n := 0) dX11_layNow_10 (by decide) k
theorem dX11_layNow_11 : decode cX11_layNow 11 = .ok (.istore_n 1, 1) := by decide +kernel
theorem X11_layNow_11 {Q : z_M → Prop} {a0 a1 : z_V} {x : Int} {st : List z_V} {I : z_M} (hb : z_nl [a0, a1] 1 = true := by rfl) (k : JX11_layNow Q 12 [a0, aI x] st I) : JX11_layNow Q 11 [a0, a1] (aI x :: st) I := g_istore_n (i := 1) (x := x) dX11_layNow_11 rfl (show 1 < 2 from by decide) hb k
theorem dX11_layNow_12 : decode cX11_layNow 12 = .ok (.iload_n 1, 1) := by decide +kernel
theorem X11_layNow_12 {Q : z_M → Prop} {a0 : z_V} {x : Int} {st : List z_V} {I : z_M} (k : JX11_layNow Q 13 [a0, aI x] (aI x :: st) I) : JX11_layNow Q 12 [a0, aI x] st I := g_iload_n (i := 1) (x := x) dX11_layNow_12 rfl rfl k
theorem dX11_layNow_13 : decode cX11_layNow 13 = .ok (.aload_n 0, 1) := by decide +kernel
theorem X11_layNow_13 {Q : z_M → Prop} {a1 : z_V} {x : Nat} {st : List z_V} {I : z_M} (k : JX11_layNow Q 14 [aR x, a1] (aR x :: st) I) : JX11_layNow Q 13 [aR x, a1] st I := g_aload_n (i := 0) (x := x) dX11_layNow_13 rfl rfl k
theorem dX11_layNow_14 : decode cX11_layNow 14 = .ok (.invokevirtual 54, 3) := by decide +kernel
theorem X11_layNow_14 {Q : z_M → Prop} {a0 a1 : z_V}   {st : List z_V} {I : z_M}  (hst : z_sw st ≤ 8 := by exact Nat.le_of_ble_eq_true rfl) (k : CX11_pipes (aR 60 :: []) I (fun x9 I9 => JX11_layNow Q 17 [a0, a1] (aI x9 :: st) I9)) : JX11_layNow Q 14 [a0, a1] (aR 60 :: st) I := g_callV (C := RX11) (ci := 11) (As := []) (n := 0) dX11_layNow_14 ⟨m_6_21, pdX11_pipes, ⟨by decide, by decide⟩, rfl, rfl, by decide, by decide⟩ m_6_18 m_6_19 m_6_20 m_1_5 rfl rfl (by decide) rfl rfl hst k (fun r I9 h => by obtain ⟨x9, rfl, h⟩ := h; exact h)
theorem dX11_layNow_17 : decode cX11_layNow 17 = .ok (.if_icmp .ge 47, 3) := by decide +kernel
theorem X11_layNow_17 {Q : z_M → Prop} {a0 a1 : z_V} {x y : Int} {st : List z_V} {I : z_M} (kt : y ≤ x → JX11_layNow Q 64 [a0, a1] st I) (kf : x < y → JX11_layNow Q 20 [a0, a1] st I) : JX11_layNow Q 17 [a0, a1] (aI y :: aI x :: st) I := g_icmp_ge dX11_layNow_17 (by decide) kt kf
theorem dX11_layNow_20 : decode cX11_layNow 20 = .ok (.aload_n 0, 1) := by decide +kernel
theorem X11_layNow_20 {Q : z_M → Prop} {a1 : z_V} {x : Nat} {st : List z_V} {I : z_M} (k : JX11_layNow Q 21 [aR x, a1] (aR x :: st) I) : JX11_layNow Q 20 [aR x, a1] st I := g_aload_n (i := 0) (x := x) dX11_layNow_20 rfl rfl k
theorem dX11_layNow_21 : decode cX11_layNow 21 = .ok (.getfield 7, 3) := by decide +kernel
theorem X11_layNow_21 {Q : z_M → Prop} {a0 a1 : z_V}  {st : List z_V} {I : z_M}  (k : JX11_layNow Q 24 [a0, a1] (aR (61) :: st) I) : JX11_layNow Q 21 [a0, a1] (aR 60 :: st) I := g_getr (ci := 11) (j := 0) (N := 23) (T := TX11) dX11_layNow_21 rfl rfl (by decide) (z_nc11 rfl) inlX11 (by decide) m_5_1 rfl rfl k
theorem dX11_layNow_24 : decode cX11_layNow 24 = .ok (.bipush 30, 2) := by decide +kernel
theorem X11_layNow_24 {Q : z_M → Prop} {a0 a1 : z_V} {st : List z_V} {I : z_M} (k : JX11_layNow Q 26 [a0, a1] (aI 30 :: st) I) : JX11_layNow Q 24 [a0, a1] st I := g_bipush (n := 30) dX11_layNow_24 (by decide +kernel) (by decide) k
theorem dX11_layNow_26 : decode cX11_layNow 26 = .ok (.iconst 4, 1) := by decide +kernel
theorem X11_layNow_26 {Q : z_M → Prop} {a0 a1 : z_V} {st : List z_V} {I : z_M} (k : JX11_layNow Q 27 [a0, a1] (aI 4 :: st) I) : JX11_layNow Q 26 [a0, a1] st I := g_iconst (n := 4) dX11_layNow_26 (by decide) k
theorem dX11_layNow_27 : decode cX11_layNow 27 = .ok (.iload_n 1, 1) := by decide +kernel
theorem X11_layNow_27 {Q : z_M → Prop} {a0 : z_V} {x : Int} {st : List z_V} {I : z_M} (k : JX11_layNow Q 28 [a0, aI x] (aI x :: st) I) : JX11_layNow Q 27 [a0, aI x] st I := g_iload_n (i := 1) (x := x) dX11_layNow_27 rfl rfl k
theorem dX11_layNow_28 : decode cX11_layNow 28 = .ok (.imul, 1) := by decide +kernel
theorem X11_layNow_28 {Q : z_M → Prop} {a0 a1 : z_V} {x y : Int} {st : List z_V} {I : z_M} (hr : inI (x * y) := by omega) (k : JX11_layNow Q 29 [a0, a1] (aI (x * y) :: st) I) : JX11_layNow Q 28 [a0, a1] (aI y :: aI x :: st) I := g_imul dX11_layNow_28 hr k
theorem X11_layNow_28w {Q : z_M → Prop} {a0 a1 : z_V} {x y : Int} {st : List z_V} {I : z_M} (k : JX11_layNow Q 29 [a0, a1] (aI (i32 (x * y)) :: st) I) : JX11_layNow Q 28 [a0, a1] (aI y :: aI x :: st) I := g_imulw dX11_layNow_28 k
theorem dX11_layNow_29 : decode cX11_layNow 29 = .ok (.iadd, 1) := by decide +kernel
theorem X11_layNow_29 {Q : z_M → Prop} {a0 a1 : z_V} {x y : Int} {st : List z_V} {I : z_M} (hr : inI (x + y) := by omega) (k : JX11_layNow Q 30 [a0, a1] (aI (x + y) :: st) I) : JX11_layNow Q 29 [a0, a1] (aI y :: aI x :: st) I := g_iadd dX11_layNow_29 hr k
theorem X11_layNow_29w {Q : z_M → Prop} {a0 a1 : z_V} {x y : Int} {st : List z_V} {I : z_M} (k : JX11_layNow Q 30 [a0, a1] (aI (i32 (x + y)) :: st) I) : JX11_layNow Q 29 [a0, a1] (aI y :: aI x :: st) I := g_iaddw dX11_layNow_29 k
theorem dX11_layNow_30 : decode cX11_layNow 30 = .ok (.iconst 2, 1) := by decide +kernel
theorem X11_layNow_30 {Q : z_M → Prop} {a0 a1 : z_V} {st : List z_V} {I : z_M} (k : JX11_layNow Q 31 [a0, a1] (aI 2 :: st) I) : JX11_layNow Q 30 [a0, a1] st I := g_iconst (n := 2) dX11_layNow_30 (by decide) k
theorem dX11_layNow_31 : decode cX11_layNow 31 = .ok (.iadd, 1) := by decide +kernel
theorem X11_layNow_31 {Q : z_M → Prop} {a0 a1 : z_V} {x y : Int} {st : List z_V} {I : z_M} (hr : inI (x + y) := by omega) (k : JX11_layNow Q 32 [a0, a1] (aI (x + y) :: st) I) : JX11_layNow Q 31 [a0, a1] (aI y :: aI x :: st) I := g_iadd dX11_layNow_31 hr k
theorem X11_layNow_31w {Q : z_M → Prop} {a0 a1 : z_V} {x y : Int} {st : List z_V} {I : z_M} (k : JX11_layNow Q 32 [a0, a1] (aI (i32 (x + y)) :: st) I) : JX11_layNow Q 31 [a0, a1] (aI y :: aI x :: st) I := g_iaddw dX11_layNow_31 k
theorem dX11_layNow_32 : decode cX11_layNow 32 = .ok (.aload_n 0, 1) := by decide +kernel
theorem X11_layNow_32 {Q : z_M → Prop} {a1 : z_V} {x : Nat} {st : List z_V} {I : z_M} (k : JX11_layNow Q 33 [aR x, a1] (aR x :: st) I) : JX11_layNow Q 32 [aR x, a1] st I := g_aload_n (i := 0) (x := x) dX11_layNow_32 rfl rfl k
theorem dX11_layNow_33 : decode cX11_layNow 33 = .ok (.getfield 30, 3) := by decide +kernel
theorem X11_layNow_33 {Q : z_M → Prop} {a0 a1 : z_V}  {st : List z_V} {I : z_M}  (k : JX11_layNow Q 36 [a0, a1] (aR (66) :: st) I) : JX11_layNow Q 33 [a0, a1] (aR 60 :: st) I := g_getr (ci := 11) (j := 8) (N := 23) (T := TX11) dX11_layNow_33 rfl rfl (by decide) (z_nc11 rfl) inlX11 (by decide) m_5_7 rfl rfl k
theorem dX11_layNow_36 : decode cX11_layNow 36 = .ok (.iload_n 1, 1) := by decide +kernel
theorem X11_layNow_36 {Q : z_M → Prop} {a0 : z_V} {x : Int} {st : List z_V} {I : z_M} (k : JX11_layNow Q 37 [a0, aI x] (aI x :: st) I) : JX11_layNow Q 36 [a0, aI x] st I := g_iload_n (i := 1) (x := x) dX11_layNow_36 rfl rfl k
theorem dX11_layNow_37 : decode cX11_layNow 37 = .ok (.iaload, 1) := by decide +kernel
theorem X11_layNow_37 {Q : z_M → Prop} {a0 a1 : z_V} {q : Nat} {i : Int} {st : List z_V} {I : z_M} (hk : z_cl q = 20 := by first | assumption | rfl) (h0 : 0 ≤ i := by omega) (h1 : i < z_n q := by first | omega | (simp only [zn_1, zn_9, zn_10, zn_11, zn_12, zn_13, zn_14, zn_15, zn_16, zn_18, zn_20, zn_21, zn_22, zn_23, zn_24, zn_25, zn_26, zn_27, zn_29, zn_30, zn_53, zn_55, zn_56, zn_58, zn_59, zn_61, zn_62, zn_63, zn_64, zn_65, zn_66, zn_67, zn_68, zn_69, zn_70, zn_71, zn_72, zn_73]; omega)) (k : JX11_layNow Q 38 [a0, a1] (aI (I q i.toNat) :: st) I) : JX11_layNow Q 37 [a0, a1] (aI i :: aR q :: st) I := g_iald dX11_layNow_37 hk h0 h1 k
theorem dX11_layNow_38 : decode cX11_layNow 38 = .ok (.iastore, 1) := by decide +kernel
theorem X11_layNow_38 {Q : z_M → Prop} {a0 a1 : z_V} {q : Nat} {i x : Int} {st : List z_V} {I : z_M} (hk : z_cl q = 20 := by first | assumption | rfl) (h0 : 0 ≤ i := by omega) (h1 : i < z_n q := by first | omega | (simp only [zn_1, zn_9, zn_10, zn_11, zn_12, zn_13, zn_14, zn_15, zn_16, zn_18, zn_20, zn_21, zn_22, zn_23, zn_24, zn_25, zn_26, zn_27, zn_29, zn_30, zn_53, zn_55, zn_56, zn_58, zn_59, zn_61, zn_62, zn_63, zn_64, zn_65, zn_66, zn_67, zn_68, zn_69, zn_70, zn_71, zn_72, zn_73]; omega))  (k : JX11_layNow Q 39 [a0, a1] st (z_up I q i.toNat x)) : JX11_layNow Q 38 [a0, a1] (aI x :: aI i :: aR q :: st) I := g_iast dX11_layNow_38 hk h0 h1 k
theorem dX11_layNow_39 : decode cX11_layNow 39 = .ok (.aload_n 0, 1) := by decide +kernel
theorem X11_layNow_39 {Q : z_M → Prop} {a1 : z_V} {x : Nat} {st : List z_V} {I : z_M} (k : JX11_layNow Q 40 [aR x, a1] (aR x :: st) I) : JX11_layNow Q 39 [aR x, a1] st I := g_aload_n (i := 0) (x := x) dX11_layNow_39 rfl rfl k
theorem dX11_layNow_40 : decode cX11_layNow 40 = .ok (.getfield 7, 3) := by decide +kernel
theorem X11_layNow_40 {Q : z_M → Prop} {a0 a1 : z_V}  {st : List z_V} {I : z_M}  (k : JX11_layNow Q 43 [a0, a1] (aR (61) :: st) I) : JX11_layNow Q 40 [a0, a1] (aR 60 :: st) I := g_getr (ci := 11) (j := 0) (N := 23) (T := TX11) dX11_layNow_40 rfl rfl (by decide) (z_nc11 rfl) inlX11 (by decide) m_5_1 rfl rfl k
theorem dX11_layNow_43 : decode cX11_layNow 43 = .ok (.bipush 30, 2) := by decide +kernel
theorem X11_layNow_43 {Q : z_M → Prop} {a0 a1 : z_V} {st : List z_V} {I : z_M} (k : JX11_layNow Q 45 [a0, a1] (aI 30 :: st) I) : JX11_layNow Q 43 [a0, a1] st I := g_bipush (n := 30) dX11_layNow_43 (by decide +kernel) (by decide) k
theorem dX11_layNow_45 : decode cX11_layNow 45 = .ok (.iconst 4, 1) := by decide +kernel
theorem X11_layNow_45 {Q : z_M → Prop} {a0 a1 : z_V} {st : List z_V} {I : z_M} (k : JX11_layNow Q 46 [a0, a1] (aI 4 :: st) I) : JX11_layNow Q 45 [a0, a1] st I := g_iconst (n := 4) dX11_layNow_45 (by decide) k
theorem dX11_layNow_46 : decode cX11_layNow 46 = .ok (.iload_n 1, 1) := by decide +kernel
theorem X11_layNow_46 {Q : z_M → Prop} {a0 : z_V} {x : Int} {st : List z_V} {I : z_M} (k : JX11_layNow Q 47 [a0, aI x] (aI x :: st) I) : JX11_layNow Q 46 [a0, aI x] st I := g_iload_n (i := 1) (x := x) dX11_layNow_46 rfl rfl k
theorem dX11_layNow_47 : decode cX11_layNow 47 = .ok (.imul, 1) := by decide +kernel
theorem X11_layNow_47 {Q : z_M → Prop} {a0 a1 : z_V} {x y : Int} {st : List z_V} {I : z_M} (hr : inI (x * y) := by omega) (k : JX11_layNow Q 48 [a0, a1] (aI (x * y) :: st) I) : JX11_layNow Q 47 [a0, a1] (aI y :: aI x :: st) I := g_imul dX11_layNow_47 hr k
theorem X11_layNow_47w {Q : z_M → Prop} {a0 a1 : z_V} {x y : Int} {st : List z_V} {I : z_M} (k : JX11_layNow Q 48 [a0, a1] (aI (i32 (x * y)) :: st) I) : JX11_layNow Q 47 [a0, a1] (aI y :: aI x :: st) I := g_imulw dX11_layNow_47 k
theorem dX11_layNow_48 : decode cX11_layNow 48 = .ok (.iadd, 1) := by decide +kernel
theorem X11_layNow_48 {Q : z_M → Prop} {a0 a1 : z_V} {x y : Int} {st : List z_V} {I : z_M} (hr : inI (x + y) := by omega) (k : JX11_layNow Q 49 [a0, a1] (aI (x + y) :: st) I) : JX11_layNow Q 48 [a0, a1] (aI y :: aI x :: st) I := g_iadd dX11_layNow_48 hr k
theorem X11_layNow_48w {Q : z_M → Prop} {a0 a1 : z_V} {x y : Int} {st : List z_V} {I : z_M} (k : JX11_layNow Q 49 [a0, a1] (aI (i32 (x + y)) :: st) I) : JX11_layNow Q 48 [a0, a1] (aI y :: aI x :: st) I := g_iaddw dX11_layNow_48 k
theorem dX11_layNow_49 : decode cX11_layNow 49 = .ok (.iconst 3, 1) := by decide +kernel
theorem X11_layNow_49 {Q : z_M → Prop} {a0 a1 : z_V} {st : List z_V} {I : z_M} (k : JX11_layNow Q 50 [a0, a1] (aI 3 :: st) I) : JX11_layNow Q 49 [a0, a1] st I := g_iconst (n := 3) dX11_layNow_49 (by decide) k
theorem dX11_layNow_50 : decode cX11_layNow 50 = .ok (.iadd, 1) := by decide +kernel
theorem X11_layNow_50 {Q : z_M → Prop} {a0 a1 : z_V} {x y : Int} {st : List z_V} {I : z_M} (hr : inI (x + y) := by omega) (k : JX11_layNow Q 51 [a0, a1] (aI (x + y) :: st) I) : JX11_layNow Q 50 [a0, a1] (aI y :: aI x :: st) I := g_iadd dX11_layNow_50 hr k
theorem X11_layNow_50w {Q : z_M → Prop} {a0 a1 : z_V} {x y : Int} {st : List z_V} {I : z_M} (k : JX11_layNow Q 51 [a0, a1] (aI (i32 (x + y)) :: st) I) : JX11_layNow Q 50 [a0, a1] (aI y :: aI x :: st) I := g_iaddw dX11_layNow_50 k
theorem dX11_layNow_51 : decode cX11_layNow 51 = .ok (.aload_n 0, 1) := by decide +kernel
theorem X11_layNow_51 {Q : z_M → Prop} {a1 : z_V} {x : Nat} {st : List z_V} {I : z_M} (k : JX11_layNow Q 52 [aR x, a1] (aR x :: st) I) : JX11_layNow Q 51 [aR x, a1] st I := g_aload_n (i := 0) (x := x) dX11_layNow_51 rfl rfl k
theorem dX11_layNow_52 : decode cX11_layNow 52 = .ok (.getfield 33, 3) := by decide +kernel
theorem X11_layNow_52 {Q : z_M → Prop} {a0 a1 : z_V}  {st : List z_V} {I : z_M}  (k : JX11_layNow Q 55 [a0, a1] (aR (67) :: st) I) : JX11_layNow Q 52 [a0, a1] (aR 60 :: st) I := g_getr (ci := 11) (j := 9) (N := 23) (T := TX11) dX11_layNow_52 rfl rfl (by decide) (z_nc11 rfl) inlX11 (by decide) m_5_8 rfl rfl k
theorem dX11_layNow_55 : decode cX11_layNow 55 = .ok (.iload_n 1, 1) := by decide +kernel
theorem X11_layNow_55 {Q : z_M → Prop} {a0 : z_V} {x : Int} {st : List z_V} {I : z_M} (k : JX11_layNow Q 56 [a0, aI x] (aI x :: st) I) : JX11_layNow Q 55 [a0, aI x] st I := g_iload_n (i := 1) (x := x) dX11_layNow_55 rfl rfl k
theorem dX11_layNow_56 : decode cX11_layNow 56 = .ok (.iaload, 1) := by decide +kernel
theorem X11_layNow_56 {Q : z_M → Prop} {a0 a1 : z_V} {q : Nat} {i : Int} {st : List z_V} {I : z_M} (hk : z_cl q = 20 := by first | assumption | rfl) (h0 : 0 ≤ i := by omega) (h1 : i < z_n q := by first | omega | (simp only [zn_1, zn_9, zn_10, zn_11, zn_12, zn_13, zn_14, zn_15, zn_16, zn_18, zn_20, zn_21, zn_22, zn_23, zn_24, zn_25, zn_26, zn_27, zn_29, zn_30, zn_53, zn_55, zn_56, zn_58, zn_59, zn_61, zn_62, zn_63, zn_64, zn_65, zn_66, zn_67, zn_68, zn_69, zn_70, zn_71, zn_72, zn_73]; omega)) (k : JX11_layNow Q 57 [a0, a1] (aI (I q i.toNat) :: st) I) : JX11_layNow Q 56 [a0, a1] (aI i :: aR q :: st) I := g_iald dX11_layNow_56 hk h0 h1 k
theorem dX11_layNow_57 : decode cX11_layNow 57 = .ok (.iastore, 1) := by decide +kernel
theorem X11_layNow_57 {Q : z_M → Prop} {a0 a1 : z_V} {q : Nat} {i x : Int} {st : List z_V} {I : z_M} (hk : z_cl q = 20 := by first | assumption | rfl) (h0 : 0 ≤ i := by omega) (h1 : i < z_n q := by first | omega | (simp only [zn_1, zn_9, zn_10, zn_11, zn_12, zn_13, zn_14, zn_15, zn_16, zn_18, zn_20, zn_21, zn_22, zn_23, zn_24, zn_25, zn_26, zn_27, zn_29, zn_30, zn_53, zn_55, zn_56, zn_58, zn_59, zn_61, zn_62, zn_63, zn_64, zn_65, zn_66, zn_67, zn_68, zn_69, zn_70, zn_71, zn_72, zn_73]; omega))  (k : JX11_layNow Q 58 [a0, a1] st (z_up I q i.toNat x)) : JX11_layNow Q 57 [a0, a1] (aI x :: aI i :: aR q :: st) I := g_iast dX11_layNow_57 hk h0 h1 k
theorem dX11_layNow_58 : decode cX11_layNow 58 = .ok (.iinc 1 1, 3) := by decide +kernel
theorem X11_layNow_58 {Q : z_M → Prop} {a0 : z_V} {x : Int} {st : List z_V} {I : z_M} (hb : z_nl [a0, aI x] 1 = true := by rfl) (hr : inI (x + 1) := by omega) (k : JX11_layNow Q 61 [a0, aI (x + 1)] st I) : JX11_layNow Q 58 [a0, aI x] st I := g_iinc (i := 1) (x := x) dX11_layNow_58 rfl (show 1 < 2 from by decide) hb hr k
theorem dX11_layNow_61 : decode cX11_layNow 61 = .ok (.goto (-49), 3) := by decide +kernel
theorem X11_layNow_61 {Q : z_M → Prop} {a0 a1 : z_V} {st : List z_V} {I : z_M} (k : JX11_layNow Q 12 [a0, a1] st I) : JX11_layNow Q 61 [a0, a1] st I := g_goto dX11_layNow_61 (by decide) k
theorem dX11_layNow_64 : decode cX11_layNow 64 = .ok (.return_, 1) := by decide +kernel
theorem X11_layNow_64 {Q : z_M → Prop} {a0 a1 : z_V} {I : z_M} (hq : Q I) : JX11_layNow Q 64 [a0, a1] [] I := g_return dX11_layNow_64 ⟨rfl, hq⟩
theorem dX11_pass_0 : decode cX11_pass 0 = .ok (.iload_n 1, 1) := by decide +kernel
theorem X11_pass_0 {Q : Int → z_M → Prop} {a0 a2 : z_V} {x : Int} {st : List z_V} {I : z_M} (k : JX11_pass Q 1 [a0, aI x, a2] (aI x :: st) I) : JX11_pass Q 0 [a0, aI x, a2] st I := g_iload_n (i := 1) (x := x) dX11_pass_0 rfl rfl k
theorem dX11_pass_1 : decode cX11_pass 1 = .ok (.i2l, 1) := by decide +kernel
theorem X11_pass_1 {Q : Int → z_M → Prop} {a0 a1 a2 : z_V} {x : Int} {st : List z_V} {I : z_M} (k : JX11_pass Q 2 [a0, a1, a2] (aL x :: st) I) : JX11_pass Q 1 [a0, a1, a2] (aI x :: st) I := g_i2l dX11_pass_1 k
theorem dX11_pass_2 : decode cX11_pass 2 = .ok (.lconst 1, 1) := by decide +kernel
theorem X11_pass_2 {Q : Int → z_M → Prop} {a0 a1 a2 : z_V} {st : List z_V} {I : z_M} (k : JX11_pass Q 3 [a0, a1, a2] (aL 1 :: st) I) : JX11_pass Q 2 [a0, a1, a2] st I := g_lconst (v := 1) dX11_pass_2 (by decide +kernel) (by decide) k
theorem dX11_pass_3 : decode cX11_pass 3 = .ok (.ldc2_w 147, 3) := by decide +kernel
theorem X11_pass_3 {Q : Int → z_M → Prop} {a0 a1 a2 : z_V} {st : List z_V} {I : z_M} (k : JX11_pass Q 6 [a0, a1, a2] (aL (48) :: st) I) : JX11_pass Q 3 [a0, a1, a2] st I := g_ldc2 (n := 48) dX11_pass_3 m_18_8 (by decide +kernel) (by decide) k
theorem dX11_pass_6 : decode cX11_pass 6 = .ok (.invokestatic 58, 3) := by decide +kernel
theorem X11_pass_6 {Q : Int → z_M → Prop} {a0 a1 a2 : z_V} {x0 : Int} {x1 : Int} {x2 : Int} {st : List z_V} {I : z_M} (hst : z_sw st ≤ 8 := by exact Nat.le_of_ble_eq_true rfl) (k : CX11_in [aL x0, aL x1, aL x2] I (fun x9 I9 => JX11_pass Q 9 [a0, a1, a2] (aI x9 :: st) I9)) : JX11_pass Q 6 [a0, a1, a2] (aL x2 :: aL x1 :: aL x0 :: st) I := g_callS (As := [aL x0, aL x1, aL x2]) (n := 3) dX11_pass_6 ⟨m_8_11, pdX11_in, ⟨by decide, by decide⟩, rfl, rfl, by decide, by decide⟩ m_8_9 m_8_10 m_1_5 rfl hst k (fun r I9 h => by obtain ⟨x9, rfl, h⟩ := h; exact h)
theorem dX11_pass_9 : decode cX11_pass 9 = .ok (.ifCond .ne 10, 3) := by decide +kernel
theorem X11_pass_9 {Q : Int → z_M → Prop} {a0 a1 a2 : z_V} {x : Int} {st : List z_V} {I : z_M} (kt : x ≠ 0 → JX11_pass Q 19 [a0, a1, a2] st I) (kf : x = 0 → JX11_pass Q 12 [a0, a1, a2] st I) : JX11_pass Q 9 [a0, a1, a2] (aI x :: st) I := g_if_ne dX11_pass_9 (by decide) kt kf
theorem dX11_pass_12 : decode cX11_pass 12 = .ok (.aload_n 0, 1) := by decide +kernel
theorem X11_pass_12 {Q : Int → z_M → Prop} {a1 a2 : z_V} {x : Nat} {st : List z_V} {I : z_M} (k : JX11_pass Q 13 [aR x, a1, a2] (aR x :: st) I) : JX11_pass Q 12 [aR x, a1, a2] st I := g_aload_n (i := 0) (x := x) dX11_pass_12 rfl rfl k
theorem dX11_pass_13 : decode cX11_pass 13 = .ok (.bipush (-2), 2) := by decide +kernel
theorem X11_pass_13 {Q : Int → z_M → Prop} {a0 a1 a2 : z_V} {st : List z_V} {I : z_M} (k : JX11_pass Q 15 [a0, a1, a2] (aI (-2) :: st) I) : JX11_pass Q 13 [a0, a1, a2] st I := g_bipush (n := (-2)) dX11_pass_13 (by decide +kernel) (by decide) k
theorem dX11_pass_15 : decode cX11_pass 15 = .ok (.invokevirtual 85, 3) := by decide +kernel
theorem X11_pass_15 {Q : Int → z_M → Prop} {a0 a1 a2 : z_V}  {x0 : Int} {st : List z_V} {I : z_M}  (hst : z_sw st ≤ 8 := by exact Nat.le_of_ble_eq_true rfl) (k : CX11_bad (aR 60 :: [aI x0]) I (fun x9 I9 => JX11_pass Q 18 [a0, a1, a2] (aI x9 :: st) I9)) : JX11_pass Q 15 [a0, a1, a2] (aI x0 :: aR 60 :: st) I := g_callV (C := RX11) (ci := 11) (As := [aI x0]) (n := 1) dX11_pass_15 ⟨m_8_15, pdX11_bad, ⟨by decide, by decide⟩, rfl, rfl, by decide, by decide⟩ m_8_12 m_8_13 m_8_14 m_1_5 rfl rfl (by decide) rfl rfl hst k (fun r I9 h => by obtain ⟨x9, rfl, h⟩ := h; exact h)
theorem dX11_pass_18 : decode cX11_pass 18 = .ok (.ireturn, 1) := by decide +kernel
theorem X11_pass_18 {Q : Int → z_M → Prop} {a0 a1 a2 : z_V} {x : Int} {I : z_M} (hq : Q x I) : JX11_pass Q 18 [a0, a1, a2] [aI x] I := g_ireturn dX11_pass_18 ⟨x, rfl, hq⟩
theorem dX11_pass_19 : decode cX11_pass 19 = .ok (.iconst 0, 1) := by decide +kernel
theorem X11_pass_19 {Q : Int → z_M → Prop} {a0 a1 a2 : z_V} {st : List z_V} {I : z_M} (k : JX11_pass Q 20 [a0, a1, a2] (aI 0 :: st) I) : JX11_pass Q 19 [a0, a1, a2] st I := g_iconst (n := 0) dX11_pass_19 (by decide) k
theorem dX11_pass_20 : decode cX11_pass 20 = .ok (.istore_n 2, 1) := by decide +kernel
theorem X11_pass_20 {Q : Int → z_M → Prop} {a0 a1 a2 : z_V} {x : Int} {st : List z_V} {I : z_M} (hb : z_nl [a0, a1, a2] 2 = true := by rfl) (k : JX11_pass Q 21 [a0, a1, aI x] st I) : JX11_pass Q 20 [a0, a1, a2] (aI x :: st) I := g_istore_n (i := 2) (x := x) dX11_pass_20 rfl (show 2 < 3 from by decide) hb k
theorem dX11_pass_21 : decode cX11_pass 21 = .ok (.iload_n 2, 1) := by decide +kernel
theorem X11_pass_21 {Q : Int → z_M → Prop} {a0 a1 : z_V} {x : Int} {st : List z_V} {I : z_M} (k : JX11_pass Q 22 [a0, a1, aI x] (aI x :: st) I) : JX11_pass Q 21 [a0, a1, aI x] st I := g_iload_n (i := 2) (x := x) dX11_pass_21 rfl rfl k
theorem dX11_pass_22 : decode cX11_pass 22 = .ok (.iload_n 1, 1) := by decide +kernel
theorem X11_pass_22 {Q : Int → z_M → Prop} {a0 a2 : z_V} {x : Int} {st : List z_V} {I : z_M} (k : JX11_pass Q 23 [a0, aI x, a2] (aI x :: st) I) : JX11_pass Q 22 [a0, aI x, a2] st I := g_iload_n (i := 1) (x := x) dX11_pass_22 rfl rfl k
theorem dX11_pass_23 : decode cX11_pass 23 = .ok (.if_icmp .ge 25, 3) := by decide +kernel
theorem X11_pass_23 {Q : Int → z_M → Prop} {a0 a1 a2 : z_V} {x y : Int} {st : List z_V} {I : z_M} (kt : y ≤ x → JX11_pass Q 48 [a0, a1, a2] st I) (kf : x < y → JX11_pass Q 26 [a0, a1, a2] st I) : JX11_pass Q 23 [a0, a1, a2] (aI y :: aI x :: st) I := g_icmp_ge dX11_pass_23 (by decide) kt kf
theorem dX11_pass_26 : decode cX11_pass 26 = .ok (.aload_n 0, 1) := by decide +kernel
theorem X11_pass_26 {Q : Int → z_M → Prop} {a1 a2 : z_V} {x : Nat} {st : List z_V} {I : z_M} (k : JX11_pass Q 27 [aR x, a1, a2] (aR x :: st) I) : JX11_pass Q 26 [aR x, a1, a2] st I := g_aload_n (i := 0) (x := x) dX11_pass_26 rfl rfl k
theorem dX11_pass_27 : decode cX11_pass 27 = .ok (.invokevirtual 149, 3) := by decide +kernel
theorem X11_pass_27 {Q : Int → z_M → Prop} {a0 a1 a2 : z_V}   {st : List z_V} {I : z_M}  (hst : z_sw st ≤ 8 := by exact Nat.le_of_ble_eq_true rfl) (k : CX11_keep (aR 60 :: []) I (fun I9 => JX11_pass Q 30 [a0, a1, a2] st I9)) : JX11_pass Q 27 [a0, a1, a2] (aR 60 :: st) I := g_callV (C := RX11) (ci := 11) (As := []) (n := 0) dX11_pass_27 ⟨m_23_20, pdX11_keep, ⟨by decide, by decide⟩, rfl, rfl, by decide, by decide⟩ m_23_17 m_23_18 m_23_19 m_1_5 rfl rfl (by decide) rfl rfl hst k (fun r I9 h => by obtain ⟨rfl, h⟩ := h; exact h)
theorem dX11_pass_30 : decode cX11_pass 30 = .ok (.aload_n 0, 1) := by decide +kernel
theorem X11_pass_30 {Q : Int → z_M → Prop} {a1 a2 : z_V} {x : Nat} {st : List z_V} {I : z_M} (k : JX11_pass Q 31 [aR x, a1, a2] (aR x :: st) I) : JX11_pass Q 30 [aR x, a1, a2] st I := g_aload_n (i := 0) (x := x) dX11_pass_30 rfl rfl k
theorem dX11_pass_31 : decode cX11_pass 31 = .ok (.invokevirtual 152, 3) := by decide +kernel
theorem X11_pass_31 {Q : Int → z_M → Prop} {a0 a1 a2 : z_V}   {st : List z_V} {I : z_M}  (hst : z_sw st ≤ 8 := by exact Nat.le_of_ble_eq_true rfl) (k : CX11_layHand (aR 60 :: []) I (fun I9 => JX11_pass Q 34 [a0, a1, a2] st I9)) : JX11_pass Q 31 [a0, a1, a2] (aR 60 :: st) I := g_callV (C := RX11) (ci := 11) (As := []) (n := 0) dX11_pass_31 ⟨m_24_4, pdX11_layHand, ⟨by decide, by decide⟩, rfl, rfl, by decide, by decide⟩ m_24_1 m_24_2 m_24_3 m_1_5 rfl rfl (by decide) rfl rfl hst k (fun r I9 h => by obtain ⟨rfl, h⟩ := h; exact h)
theorem dX11_pass_34 : decode cX11_pass 34 = .ok (.aload_n 0, 1) := by decide +kernel
theorem X11_pass_34 {Q : Int → z_M → Prop} {a1 a2 : z_V} {x : Nat} {st : List z_V} {I : z_M} (k : JX11_pass Q 35 [aR x, a1, a2] (aR x :: st) I) : JX11_pass Q 34 [aR x, a1, a2] st I := g_aload_n (i := 0) (x := x) dX11_pass_34 rfl rfl k
theorem dX11_pass_35 : decode cX11_pass 35 = .ok (.invokevirtual 144, 3) := by decide +kernel
theorem X11_pass_35 {Q : Int → z_M → Prop} {a0 a1 a2 : z_V}   {st : List z_V} {I : z_M}  (hst : z_sw st ≤ 8 := by exact Nat.le_of_ble_eq_true rfl) (k : CX11_goHour (aR 60 :: []) I (fun I9 => JX11_pass Q 38 [a0, a1, a2] st I9)) : JX11_pass Q 35 [a0, a1, a2] (aR 60 :: st) I := g_callV (C := RX11) (ci := 11) (As := []) (n := 0) dX11_pass_35 ⟨m_24_13, pdX11_goHour, ⟨by decide, by decide⟩, rfl, rfl, by decide, by decide⟩ m_24_10 m_24_11 m_24_12 m_1_5 rfl rfl (by decide) rfl rfl hst k (fun r I9 h => by obtain ⟨rfl, h⟩ := h; exact h)
theorem dX11_pass_38 : decode cX11_pass 38 = .ok (.aload_n 0, 1) := by decide +kernel
theorem X11_pass_38 {Q : Int → z_M → Prop} {a1 a2 : z_V} {x : Nat} {st : List z_V} {I : z_M} (k : JX11_pass Q 39 [aR x, a1, a2] (aR x :: st) I) : JX11_pass Q 38 [aR x, a1, a2] st I := g_aload_n (i := 0) (x := x) dX11_pass_38 rfl rfl k
theorem dX11_pass_39 : decode cX11_pass 39 = .ok (.invokevirtual 155, 3) := by decide +kernel
theorem X11_pass_39 {Q : Int → z_M → Prop} {a0 a1 a2 : z_V}   {st : List z_V} {I : z_M}  (hst : z_sw st ≤ 8 := by exact Nat.le_of_ble_eq_true rfl) (k : CX11_layNow (aR 60 :: []) I (fun I9 => JX11_pass Q 42 [a0, a1, a2] st I9)) : JX11_pass Q 39 [a0, a1, a2] (aR 60 :: st) I := g_callV (C := RX11) (ci := 11) (As := []) (n := 0) dX11_pass_39 ⟨m_25_21, pdX11_layNow, ⟨by decide, by decide⟩, rfl, rfl, by decide, by decide⟩ m_25_18 m_25_19 m_25_20 m_1_5 rfl rfl (by decide) rfl rfl hst k (fun r I9 h => by obtain ⟨rfl, h⟩ := h; exact h)
theorem dX11_pass_42 : decode cX11_pass 42 = .ok (.iinc 2 1, 3) := by decide +kernel
theorem X11_pass_42 {Q : Int → z_M → Prop} {a0 a1 : z_V} {x : Int} {st : List z_V} {I : z_M} (hb : z_nl [a0, a1, aI x] 2 = true := by rfl) (hr : inI (x + 1) := by omega) (k : JX11_pass Q 45 [a0, a1, aI (x + 1)] st I) : JX11_pass Q 42 [a0, a1, aI x] st I := g_iinc (i := 2) (x := x) dX11_pass_42 rfl (show 2 < 3 from by decide) hb hr k
theorem dX11_pass_45 : decode cX11_pass 45 = .ok (.goto (-24), 3) := by decide +kernel
theorem X11_pass_45 {Q : Int → z_M → Prop} {a0 a1 a2 : z_V} {st : List z_V} {I : z_M} (k : JX11_pass Q 21 [a0, a1, a2] st I) : JX11_pass Q 45 [a0, a1, a2] st I := g_goto dX11_pass_45 (by decide) k
theorem dX11_pass_48 : decode cX11_pass 48 = .ok (.aload_n 0, 1) := by decide +kernel
theorem X11_pass_48 {Q : Int → z_M → Prop} {a1 a2 : z_V} {x : Nat} {st : List z_V} {I : z_M} (k : JX11_pass Q 49 [aR x, a1, a2] (aR x :: st) I) : JX11_pass Q 48 [aR x, a1, a2] st I := g_aload_n (i := 0) (x := x) dX11_pass_48 rfl rfl k
theorem dX11_pass_49 : decode cX11_pass 49 = .ok (.invokevirtual 158, 3) := by decide +kernel
theorem X11_pass_49 {Q : Int → z_M → Prop} {a0 a1 a2 : z_V}   {st : List z_V} {I : z_M}  (hst : z_sw st ≤ 8 := by exact Nat.le_of_ble_eq_true rfl) (k : CX11_inChurch (aR 60 :: []) I (fun x9 I9 => JX11_pass Q 52 [a0, a1, a2] (aI x9 :: st) I9)) : JX11_pass Q 49 [a0, a1, a2] (aR 60 :: st) I := g_callV (C := RX11) (ci := 11) (As := []) (n := 0) dX11_pass_49 ⟨m_26_1, pdX11_inChurch, ⟨by decide, by decide⟩, rfl, rfl, by decide, by decide⟩ m_25_22 m_25_23 m_26_0 m_1_5 rfl rfl (by decide) rfl rfl hst k (fun r I9 h => by obtain ⟨x9, rfl, h⟩ := h; exact h)
theorem dX11_pass_52 : decode cX11_pass 52 = .ok (.invokestatic 161, 3) := by decide +kernel
theorem X11_pass_52 {Q : Int → z_M → Prop} {a0 a1 a2 : z_V} {x0 : Int} {st : List z_V} {I : z_M} (hst : z_sw st ≤ 8 := by exact Nat.le_of_ble_eq_true rfl) (k : CX11_bits [aI x0] I (fun x9 I9 => JX11_pass Q 55 [a0, a1, a2] (aI x9 :: st) I9)) : JX11_pass Q 52 [a0, a1, a2] (aI x0 :: st) I := g_callS (As := [aI x0]) (n := 1) dX11_pass_52 ⟨m_26_4, pdX11_bits, ⟨by decide, by decide⟩, rfl, rfl, by decide, by decide⟩ m_26_2 m_26_3 m_1_5 rfl hst k (fun r I9 h => by obtain ⟨x9, rfl, h⟩ := h; exact h)
theorem dX11_pass_55 : decode cX11_pass 55 = .ok (.ireturn, 1) := by decide +kernel
theorem X11_pass_55 {Q : Int → z_M → Prop} {a0 a1 a2 : z_V} {x : Int} {I : z_M} (hq : Q x I) : JX11_pass Q 55 [a0, a1, a2] [aI x] I := g_ireturn dX11_pass_55 ⟨x, rfl, hq⟩
theorem dX11_fetch_0 : decode cX11_fetch 0 = .ok (.aload_n 0, 1) := by decide +kernel
theorem X11_fetch_0 {Q : Int → z_M → Prop} {a1 a2 : z_V} {x : Nat} {st : List z_V} {I : z_M} (k : JX11_fetch Q 1 [aR x, a1, a2] (aR x :: st) I) : JX11_fetch Q 0 [aR x, a1, a2] st I := g_aload_n (i := 0) (x := x) dX11_fetch_0 rfl rfl k
theorem dX11_fetch_1 : decode cX11_fetch 1 = .ok (.iload_n 1, 1) := by decide +kernel
theorem X11_fetch_1 {Q : Int → z_M → Prop} {a0 a2 : z_V} {x : Int} {st : List z_V} {I : z_M} (k : JX11_fetch Q 2 [a0, aI x, a2] (aI x :: st) I) : JX11_fetch Q 1 [a0, aI x, a2] st I := g_iload_n (i := 1) (x := x) dX11_fetch_1 rfl rfl k
theorem dX11_fetch_2 : decode cX11_fetch 2 = .ok (.invokevirtual 164, 3) := by decide +kernel
theorem X11_fetch_2 {Q : Int → z_M → Prop} {a0 a1 a2 : z_V}  {x0 : Int} {st : List z_V} {I : z_M}  (hst : z_sw st ≤ 8 := by exact Nat.le_of_ble_eq_true rfl) (k : CX11_isPipe (aR 60 :: [aI x0]) I (fun x9 I9 => JX11_fetch Q 5 [a0, a1, a2] (aI x9 :: st) I9)) : JX11_fetch Q 2 [a0, a1, a2] (aI x0 :: aR 60 :: st) I := g_callV (C := RX11) (ci := 11) (As := [aI x0]) (n := 1) dX11_fetch_2 ⟨m_27_3, pdX11_isPipe, ⟨by decide, by decide⟩, rfl, rfl, by decide, by decide⟩ m_27_0 m_27_1 m_27_2 m_1_5 rfl rfl (by decide) rfl rfl hst k (fun r I9 h => by obtain ⟨x9, rfl, h⟩ := h; exact h)
theorem dX11_fetch_5 : decode cX11_fetch 5 = .ok (.ifCond .ne 10, 3) := by decide +kernel
theorem X11_fetch_5 {Q : Int → z_M → Prop} {a0 a1 a2 : z_V} {x : Int} {st : List z_V} {I : z_M} (kt : x ≠ 0 → JX11_fetch Q 15 [a0, a1, a2] st I) (kf : x = 0 → JX11_fetch Q 8 [a0, a1, a2] st I) : JX11_fetch Q 5 [a0, a1, a2] (aI x :: st) I := g_if_ne dX11_fetch_5 (by decide) kt kf
theorem dX11_fetch_8 : decode cX11_fetch 8 = .ok (.aload_n 0, 1) := by decide +kernel
theorem X11_fetch_8 {Q : Int → z_M → Prop} {a1 a2 : z_V} {x : Nat} {st : List z_V} {I : z_M} (k : JX11_fetch Q 9 [aR x, a1, a2] (aR x :: st) I) : JX11_fetch Q 8 [aR x, a1, a2] st I := g_aload_n (i := 0) (x := x) dX11_fetch_8 rfl rfl k
theorem dX11_fetch_9 : decode cX11_fetch 9 = .ok (.bipush (-2), 2) := by decide +kernel
theorem X11_fetch_9 {Q : Int → z_M → Prop} {a0 a1 a2 : z_V} {st : List z_V} {I : z_M} (k : JX11_fetch Q 11 [a0, a1, a2] (aI (-2) :: st) I) : JX11_fetch Q 9 [a0, a1, a2] st I := g_bipush (n := (-2)) dX11_fetch_9 (by decide +kernel) (by decide) k
theorem dX11_fetch_11 : decode cX11_fetch 11 = .ok (.invokevirtual 85, 3) := by decide +kernel
theorem X11_fetch_11 {Q : Int → z_M → Prop} {a0 a1 a2 : z_V}  {x0 : Int} {st : List z_V} {I : z_M}  (hst : z_sw st ≤ 8 := by exact Nat.le_of_ble_eq_true rfl) (k : CX11_bad (aR 60 :: [aI x0]) I (fun x9 I9 => JX11_fetch Q 14 [a0, a1, a2] (aI x9 :: st) I9)) : JX11_fetch Q 11 [a0, a1, a2] (aI x0 :: aR 60 :: st) I := g_callV (C := RX11) (ci := 11) (As := [aI x0]) (n := 1) dX11_fetch_11 ⟨m_8_15, pdX11_bad, ⟨by decide, by decide⟩, rfl, rfl, by decide, by decide⟩ m_8_12 m_8_13 m_8_14 m_1_5 rfl rfl (by decide) rfl rfl hst k (fun r I9 h => by obtain ⟨x9, rfl, h⟩ := h; exact h)
theorem dX11_fetch_14 : decode cX11_fetch 14 = .ok (.ireturn, 1) := by decide +kernel
theorem X11_fetch_14 {Q : Int → z_M → Prop} {a0 a1 a2 : z_V} {x : Int} {I : z_M} (hq : Q x I) : JX11_fetch Q 14 [a0, a1, a2] [aI x] I := g_ireturn dX11_fetch_14 ⟨x, rfl, hq⟩
theorem dX11_fetch_15 : decode cX11_fetch 15 = .ok (.aload_n 0, 1) := by decide +kernel
theorem X11_fetch_15 {Q : Int → z_M → Prop} {a1 a2 : z_V} {x : Nat} {st : List z_V} {I : z_M} (k : JX11_fetch Q 16 [aR x, a1, a2] (aR x :: st) I) : JX11_fetch Q 15 [aR x, a1, a2] st I := g_aload_n (i := 0) (x := x) dX11_fetch_15 rfl rfl k
theorem dX11_fetch_16 : decode cX11_fetch 16 = .ok (.iload_n 1, 1) := by decide +kernel
theorem X11_fetch_16 {Q : Int → z_M → Prop} {a0 a2 : z_V} {x : Int} {st : List z_V} {I : z_M} (k : JX11_fetch Q 17 [a0, aI x, a2] (aI x :: st) I) : JX11_fetch Q 16 [a0, aI x, a2] st I := g_iload_n (i := 1) (x := x) dX11_fetch_16 rfl rfl k
theorem dX11_fetch_17 : decode cX11_fetch 17 = .ok (.iconst 2, 1) := by decide +kernel
theorem X11_fetch_17 {Q : Int → z_M → Prop} {a0 a1 a2 : z_V} {st : List z_V} {I : z_M} (k : JX11_fetch Q 18 [a0, a1, a2] (aI 2 :: st) I) : JX11_fetch Q 17 [a0, a1, a2] st I := g_iconst (n := 2) dX11_fetch_17 (by decide) k
theorem dX11_fetch_18 : decode cX11_fetch 18 = .ok (.invokevirtual 115, 3) := by decide +kernel
theorem X11_fetch_18 {Q : Int → z_M → Prop} {a0 a1 a2 : z_V}  {x0 : Int} {x1 : Int} {st : List z_V} {I : z_M}  (hst : z_sw st ≤ 8 := by exact Nat.le_of_ble_eq_true rfl) (k : CX11_pipeHas (aR 60 :: [aI x0, aI x1]) I (fun x9 I9 => JX11_fetch Q 21 [a0, a1, a2] (aI x9 :: st) I9)) : JX11_fetch Q 18 [a0, a1, a2] (aI x1 :: aI x0 :: aR 60 :: st) I := g_callV (C := RX11) (ci := 11) (As := [aI x0, aI x1]) (n := 2) dX11_fetch_18 ⟨m_24_0, pdX11_pipeHas, ⟨by decide, by decide⟩, rfl, rfl, by decide, by decide⟩ m_23_21 m_23_22 m_23_23 m_1_5 rfl rfl (by decide) rfl rfl hst k (fun r I9 h => by obtain ⟨x9, rfl, h⟩ := h; exact h)
theorem dX11_fetch_21 : decode cX11_fetch 21 = .ok (.istore_n 2, 1) := by decide +kernel
theorem X11_fetch_21 {Q : Int → z_M → Prop} {a0 a1 a2 : z_V} {x : Int} {st : List z_V} {I : z_M} (hb : z_nl [a0, a1, a2] 2 = true := by rfl) (k : JX11_fetch Q 22 [a0, a1, aI x] st I) : JX11_fetch Q 21 [a0, a1, a2] (aI x :: st) I := g_istore_n (i := 2) (x := x) dX11_fetch_21 rfl (show 2 < 3 from by decide) hb k
theorem dX11_fetch_22 : decode cX11_fetch 22 = .ok (.iload_n 2, 1) := by decide +kernel
theorem X11_fetch_22 {Q : Int → z_M → Prop} {a0 a1 : z_V} {x : Int} {st : List z_V} {I : z_M} (k : JX11_fetch Q 23 [a0, a1, aI x] (aI x :: st) I) : JX11_fetch Q 22 [a0, a1, aI x] st I := g_iload_n (i := 2) (x := x) dX11_fetch_22 rfl rfl k
theorem dX11_fetch_23 : decode cX11_fetch 23 = .ok (.iconst (-1), 1) := by decide +kernel
theorem X11_fetch_23 {Q : Int → z_M → Prop} {a0 a1 a2 : z_V} {st : List z_V} {I : z_M} (k : JX11_fetch Q 24 [a0, a1, a2] (aI (-1) :: st) I) : JX11_fetch Q 23 [a0, a1, a2] st I := g_iconst (n := (-1)) dX11_fetch_23 (by decide) k
theorem dX11_fetch_24 : decode cX11_fetch 24 = .ok (.if_icmp .ne 8, 3) := by decide +kernel
theorem X11_fetch_24 {Q : Int → z_M → Prop} {a0 a1 a2 : z_V} {x y : Int} {st : List z_V} {I : z_M} (kt : x ≠ y → JX11_fetch Q 32 [a0, a1, a2] st I) (kf : x = y → JX11_fetch Q 27 [a0, a1, a2] st I) : JX11_fetch Q 24 [a0, a1, a2] (aI y :: aI x :: st) I := g_icmp_ne dX11_fetch_24 (by decide) kt kf
theorem dX11_fetch_27 : decode cX11_fetch 27 = .ok (.aload_n 0, 1) := by decide +kernel
theorem X11_fetch_27 {Q : Int → z_M → Prop} {a1 a2 : z_V} {x : Nat} {st : List z_V} {I : z_M} (k : JX11_fetch Q 28 [aR x, a1, a2] (aR x :: st) I) : JX11_fetch Q 27 [aR x, a1, a2] st I := g_aload_n (i := 0) (x := x) dX11_fetch_27 rfl rfl k
theorem dX11_fetch_28 : decode cX11_fetch 28 = .ok (.invokevirtual 167, 3) := by decide +kernel
theorem X11_fetch_28 {Q : Int → z_M → Prop} {a0 a1 a2 : z_V}   {st : List z_V} {I : z_M}  (hst : z_sw st ≤ 8 := by exact Nat.le_of_ble_eq_true rfl) (k : CX11_no (aR 60 :: []) I (fun x9 I9 => JX11_fetch Q 31 [a0, a1, a2] (aI x9 :: st) I9)) : JX11_fetch Q 28 [a0, a1, a2] (aR 60 :: st) I := g_callV (C := RX11) (ci := 11) (As := []) (n := 0) dX11_fetch_28 ⟨m_27_7, pdX11_no, ⟨by decide, by decide⟩, rfl, rfl, by decide, by decide⟩ m_27_4 m_27_5 m_27_6 m_1_5 rfl rfl (by decide) rfl rfl hst k (fun r I9 h => by obtain ⟨x9, rfl, h⟩ := h; exact h)
theorem dX11_fetch_31 : decode cX11_fetch 31 = .ok (.ireturn, 1) := by decide +kernel
theorem X11_fetch_31 {Q : Int → z_M → Prop} {a0 a1 a2 : z_V} {x : Int} {I : z_M} (hq : Q x I) : JX11_fetch Q 31 [a0, a1, a2] [aI x] I := g_ireturn dX11_fetch_31 ⟨x, rfl, hq⟩
theorem dX11_fetch_32 : decode cX11_fetch 32 = .ok (.aload_n 0, 1) := by decide +kernel
theorem X11_fetch_32 {Q : Int → z_M → Prop} {a1 a2 : z_V} {x : Nat} {st : List z_V} {I : z_M} (k : JX11_fetch Q 33 [aR x, a1, a2] (aR x :: st) I) : JX11_fetch Q 32 [aR x, a1, a2] st I := g_aload_n (i := 0) (x := x) dX11_fetch_32 rfl rfl k
theorem dX11_fetch_33 : decode cX11_fetch 33 = .ok (.invokevirtual 149, 3) := by decide +kernel
theorem X11_fetch_33 {Q : Int → z_M → Prop} {a0 a1 a2 : z_V}   {st : List z_V} {I : z_M}  (hst : z_sw st ≤ 8 := by exact Nat.le_of_ble_eq_true rfl) (k : CX11_keep (aR 60 :: []) I (fun I9 => JX11_fetch Q 36 [a0, a1, a2] st I9)) : JX11_fetch Q 33 [a0, a1, a2] (aR 60 :: st) I := g_callV (C := RX11) (ci := 11) (As := []) (n := 0) dX11_fetch_33 ⟨m_23_20, pdX11_keep, ⟨by decide, by decide⟩, rfl, rfl, by decide, by decide⟩ m_23_17 m_23_18 m_23_19 m_1_5 rfl rfl (by decide) rfl rfl hst k (fun r I9 h => by obtain ⟨rfl, h⟩ := h; exact h)
theorem dX11_fetch_36 : decode cX11_fetch 36 = .ok (.aload_n 0, 1) := by decide +kernel
theorem X11_fetch_36 {Q : Int → z_M → Prop} {a1 a2 : z_V} {x : Nat} {st : List z_V} {I : z_M} (k : JX11_fetch Q 37 [aR x, a1, a2] (aR x :: st) I) : JX11_fetch Q 36 [aR x, a1, a2] st I := g_aload_n (i := 0) (x := x) dX11_fetch_36 rfl rfl k
theorem dX11_fetch_37 : decode cX11_fetch 37 = .ok (.getfield 7, 3) := by decide +kernel
theorem X11_fetch_37 {Q : Int → z_M → Prop} {a0 a1 a2 : z_V}  {st : List z_V} {I : z_M}  (k : JX11_fetch Q 40 [a0, a1, a2] (aR (61) :: st) I) : JX11_fetch Q 37 [a0, a1, a2] (aR 60 :: st) I := g_getr (ci := 11) (j := 0) (N := 23) (T := TX11) dX11_fetch_37 rfl rfl (by decide) (z_nc11 rfl) inlX11 (by decide) m_5_1 rfl rfl k
theorem dX11_fetch_40 : decode cX11_fetch 40 = .ok (.bipush 30, 2) := by decide +kernel
theorem X11_fetch_40 {Q : Int → z_M → Prop} {a0 a1 a2 : z_V} {st : List z_V} {I : z_M} (k : JX11_fetch Q 42 [a0, a1, a2] (aI 30 :: st) I) : JX11_fetch Q 40 [a0, a1, a2] st I := g_bipush (n := 30) dX11_fetch_40 (by decide +kernel) (by decide) k
theorem dX11_fetch_42 : decode cX11_fetch 42 = .ok (.iconst 4, 1) := by decide +kernel
theorem X11_fetch_42 {Q : Int → z_M → Prop} {a0 a1 a2 : z_V} {st : List z_V} {I : z_M} (k : JX11_fetch Q 43 [a0, a1, a2] (aI 4 :: st) I) : JX11_fetch Q 42 [a0, a1, a2] st I := g_iconst (n := 4) dX11_fetch_42 (by decide) k
theorem dX11_fetch_43 : decode cX11_fetch 43 = .ok (.iload_n 1, 1) := by decide +kernel
theorem X11_fetch_43 {Q : Int → z_M → Prop} {a0 a2 : z_V} {x : Int} {st : List z_V} {I : z_M} (k : JX11_fetch Q 44 [a0, aI x, a2] (aI x :: st) I) : JX11_fetch Q 43 [a0, aI x, a2] st I := g_iload_n (i := 1) (x := x) dX11_fetch_43 rfl rfl k
theorem dX11_fetch_44 : decode cX11_fetch 44 = .ok (.imul, 1) := by decide +kernel
theorem X11_fetch_44 {Q : Int → z_M → Prop} {a0 a1 a2 : z_V} {x y : Int} {st : List z_V} {I : z_M} (hr : inI (x * y) := by omega) (k : JX11_fetch Q 45 [a0, a1, a2] (aI (x * y) :: st) I) : JX11_fetch Q 44 [a0, a1, a2] (aI y :: aI x :: st) I := g_imul dX11_fetch_44 hr k
theorem X11_fetch_44w {Q : Int → z_M → Prop} {a0 a1 a2 : z_V} {x y : Int} {st : List z_V} {I : z_M} (k : JX11_fetch Q 45 [a0, a1, a2] (aI (i32 (x * y)) :: st) I) : JX11_fetch Q 44 [a0, a1, a2] (aI y :: aI x :: st) I := g_imulw dX11_fetch_44 k
theorem dX11_fetch_45 : decode cX11_fetch 45 = .ok (.iadd, 1) := by decide +kernel
theorem X11_fetch_45 {Q : Int → z_M → Prop} {a0 a1 a2 : z_V} {x y : Int} {st : List z_V} {I : z_M} (hr : inI (x + y) := by omega) (k : JX11_fetch Q 46 [a0, a1, a2] (aI (x + y) :: st) I) : JX11_fetch Q 45 [a0, a1, a2] (aI y :: aI x :: st) I := g_iadd dX11_fetch_45 hr k
theorem X11_fetch_45w {Q : Int → z_M → Prop} {a0 a1 a2 : z_V} {x y : Int} {st : List z_V} {I : z_M} (k : JX11_fetch Q 46 [a0, a1, a2] (aI (i32 (x + y)) :: st) I) : JX11_fetch Q 45 [a0, a1, a2] (aI y :: aI x :: st) I := g_iaddw dX11_fetch_45 k
theorem dX11_fetch_46 : decode cX11_fetch 46 = .ok (.iconst 2, 1) := by decide +kernel
theorem X11_fetch_46 {Q : Int → z_M → Prop} {a0 a1 a2 : z_V} {st : List z_V} {I : z_M} (k : JX11_fetch Q 47 [a0, a1, a2] (aI 2 :: st) I) : JX11_fetch Q 46 [a0, a1, a2] st I := g_iconst (n := 2) dX11_fetch_46 (by decide) k
theorem dX11_fetch_47 : decode cX11_fetch 47 = .ok (.iadd, 1) := by decide +kernel
theorem X11_fetch_47 {Q : Int → z_M → Prop} {a0 a1 a2 : z_V} {x y : Int} {st : List z_V} {I : z_M} (hr : inI (x + y) := by omega) (k : JX11_fetch Q 48 [a0, a1, a2] (aI (x + y) :: st) I) : JX11_fetch Q 47 [a0, a1, a2] (aI y :: aI x :: st) I := g_iadd dX11_fetch_47 hr k
theorem X11_fetch_47w {Q : Int → z_M → Prop} {a0 a1 a2 : z_V} {x y : Int} {st : List z_V} {I : z_M} (k : JX11_fetch Q 48 [a0, a1, a2] (aI (i32 (x + y)) :: st) I) : JX11_fetch Q 47 [a0, a1, a2] (aI y :: aI x :: st) I := g_iaddw dX11_fetch_47 k
theorem dX11_fetch_48 : decode cX11_fetch 48 = .ok (.iconst (-1), 1) := by decide +kernel
theorem X11_fetch_48 {Q : Int → z_M → Prop} {a0 a1 a2 : z_V} {st : List z_V} {I : z_M} (k : JX11_fetch Q 49 [a0, a1, a2] (aI (-1) :: st) I) : JX11_fetch Q 48 [a0, a1, a2] st I := g_iconst (n := (-1)) dX11_fetch_48 (by decide) k
theorem dX11_fetch_49 : decode cX11_fetch 49 = .ok (.iastore, 1) := by decide +kernel
theorem X11_fetch_49 {Q : Int → z_M → Prop} {a0 a1 a2 : z_V} {q : Nat} {i x : Int} {st : List z_V} {I : z_M} (hk : z_cl q = 20 := by first | assumption | rfl) (h0 : 0 ≤ i := by omega) (h1 : i < z_n q := by first | omega | (simp only [zn_1, zn_9, zn_10, zn_11, zn_12, zn_13, zn_14, zn_15, zn_16, zn_18, zn_20, zn_21, zn_22, zn_23, zn_24, zn_25, zn_26, zn_27, zn_29, zn_30, zn_53, zn_55, zn_56, zn_58, zn_59, zn_61, zn_62, zn_63, zn_64, zn_65, zn_66, zn_67, zn_68, zn_69, zn_70, zn_71, zn_72, zn_73]; omega))  (k : JX11_fetch Q 50 [a0, a1, a2] st (z_up I q i.toNat x)) : JX11_fetch Q 49 [a0, a1, a2] (aI x :: aI i :: aR q :: st) I := g_iast dX11_fetch_49 hk h0 h1 k
theorem dX11_fetch_50 : decode cX11_fetch 50 = .ok (.aload_n 0, 1) := by decide +kernel
theorem X11_fetch_50 {Q : Int → z_M → Prop} {a1 a2 : z_V} {x : Nat} {st : List z_V} {I : z_M} (k : JX11_fetch Q 51 [aR x, a1, a2] (aR x :: st) I) : JX11_fetch Q 50 [aR x, a1, a2] st I := g_aload_n (i := 0) (x := x) dX11_fetch_50 rfl rfl k
theorem dX11_fetch_51 : decode cX11_fetch 51 = .ok (.getfield 7, 3) := by decide +kernel
theorem X11_fetch_51 {Q : Int → z_M → Prop} {a0 a1 a2 : z_V}  {st : List z_V} {I : z_M}  (k : JX11_fetch Q 54 [a0, a1, a2] (aR (61) :: st) I) : JX11_fetch Q 51 [a0, a1, a2] (aR 60 :: st) I := g_getr (ci := 11) (j := 0) (N := 23) (T := TX11) dX11_fetch_51 rfl rfl (by decide) (z_nc11 rfl) inlX11 (by decide) m_5_1 rfl rfl k
theorem dX11_fetch_54 : decode cX11_fetch 54 = .ok (.bipush 30, 2) := by decide +kernel
theorem X11_fetch_54 {Q : Int → z_M → Prop} {a0 a1 a2 : z_V} {st : List z_V} {I : z_M} (k : JX11_fetch Q 56 [a0, a1, a2] (aI 30 :: st) I) : JX11_fetch Q 54 [a0, a1, a2] st I := g_bipush (n := 30) dX11_fetch_54 (by decide +kernel) (by decide) k
theorem dX11_fetch_56 : decode cX11_fetch 56 = .ok (.iconst 4, 1) := by decide +kernel
theorem X11_fetch_56 {Q : Int → z_M → Prop} {a0 a1 a2 : z_V} {st : List z_V} {I : z_M} (k : JX11_fetch Q 57 [a0, a1, a2] (aI 4 :: st) I) : JX11_fetch Q 56 [a0, a1, a2] st I := g_iconst (n := 4) dX11_fetch_56 (by decide) k
theorem dX11_fetch_57 : decode cX11_fetch 57 = .ok (.iload_n 1, 1) := by decide +kernel
theorem X11_fetch_57 {Q : Int → z_M → Prop} {a0 a2 : z_V} {x : Int} {st : List z_V} {I : z_M} (k : JX11_fetch Q 58 [a0, aI x, a2] (aI x :: st) I) : JX11_fetch Q 57 [a0, aI x, a2] st I := g_iload_n (i := 1) (x := x) dX11_fetch_57 rfl rfl k
theorem dX11_fetch_58 : decode cX11_fetch 58 = .ok (.imul, 1) := by decide +kernel
theorem X11_fetch_58 {Q : Int → z_M → Prop} {a0 a1 a2 : z_V} {x y : Int} {st : List z_V} {I : z_M} (hr : inI (x * y) := by omega) (k : JX11_fetch Q 59 [a0, a1, a2] (aI (x * y) :: st) I) : JX11_fetch Q 58 [a0, a1, a2] (aI y :: aI x :: st) I := g_imul dX11_fetch_58 hr k
theorem X11_fetch_58w {Q : Int → z_M → Prop} {a0 a1 a2 : z_V} {x y : Int} {st : List z_V} {I : z_M} (k : JX11_fetch Q 59 [a0, a1, a2] (aI (i32 (x * y)) :: st) I) : JX11_fetch Q 58 [a0, a1, a2] (aI y :: aI x :: st) I := g_imulw dX11_fetch_58 k
theorem dX11_fetch_59 : decode cX11_fetch 59 = .ok (.iadd, 1) := by decide +kernel
theorem X11_fetch_59 {Q : Int → z_M → Prop} {a0 a1 a2 : z_V} {x y : Int} {st : List z_V} {I : z_M} (hr : inI (x + y) := by omega) (k : JX11_fetch Q 60 [a0, a1, a2] (aI (x + y) :: st) I) : JX11_fetch Q 59 [a0, a1, a2] (aI y :: aI x :: st) I := g_iadd dX11_fetch_59 hr k
theorem X11_fetch_59w {Q : Int → z_M → Prop} {a0 a1 a2 : z_V} {x y : Int} {st : List z_V} {I : z_M} (k : JX11_fetch Q 60 [a0, a1, a2] (aI (i32 (x + y)) :: st) I) : JX11_fetch Q 59 [a0, a1, a2] (aI y :: aI x :: st) I := g_iaddw dX11_fetch_59 k
theorem dX11_fetch_60 : decode cX11_fetch 60 = .ok (.iconst 3, 1) := by decide +kernel
theorem X11_fetch_60 {Q : Int → z_M → Prop} {a0 a1 a2 : z_V} {st : List z_V} {I : z_M} (k : JX11_fetch Q 61 [a0, a1, a2] (aI 3 :: st) I) : JX11_fetch Q 60 [a0, a1, a2] st I := g_iconst (n := 3) dX11_fetch_60 (by decide) k
theorem dX11_fetch_61 : decode cX11_fetch 61 = .ok (.iadd, 1) := by decide +kernel
theorem X11_fetch_61 {Q : Int → z_M → Prop} {a0 a1 a2 : z_V} {x y : Int} {st : List z_V} {I : z_M} (hr : inI (x + y) := by omega) (k : JX11_fetch Q 62 [a0, a1, a2] (aI (x + y) :: st) I) : JX11_fetch Q 61 [a0, a1, a2] (aI y :: aI x :: st) I := g_iadd dX11_fetch_61 hr k
theorem X11_fetch_61w {Q : Int → z_M → Prop} {a0 a1 a2 : z_V} {x y : Int} {st : List z_V} {I : z_M} (k : JX11_fetch Q 62 [a0, a1, a2] (aI (i32 (x + y)) :: st) I) : JX11_fetch Q 61 [a0, a1, a2] (aI y :: aI x :: st) I := g_iaddw dX11_fetch_61 k
theorem dX11_fetch_62 : decode cX11_fetch 62 = .ok (.iconst 0, 1) := by decide +kernel
theorem X11_fetch_62 {Q : Int → z_M → Prop} {a0 a1 a2 : z_V} {st : List z_V} {I : z_M} (k : JX11_fetch Q 63 [a0, a1, a2] (aI 0 :: st) I) : JX11_fetch Q 62 [a0, a1, a2] st I := g_iconst (n := 0) dX11_fetch_62 (by decide) k
theorem dX11_fetch_63 : decode cX11_fetch 63 = .ok (.iastore, 1) := by decide +kernel
theorem X11_fetch_63 {Q : Int → z_M → Prop} {a0 a1 a2 : z_V} {q : Nat} {i x : Int} {st : List z_V} {I : z_M} (hk : z_cl q = 20 := by first | assumption | rfl) (h0 : 0 ≤ i := by omega) (h1 : i < z_n q := by first | omega | (simp only [zn_1, zn_9, zn_10, zn_11, zn_12, zn_13, zn_14, zn_15, zn_16, zn_18, zn_20, zn_21, zn_22, zn_23, zn_24, zn_25, zn_26, zn_27, zn_29, zn_30, zn_53, zn_55, zn_56, zn_58, zn_59, zn_61, zn_62, zn_63, zn_64, zn_65, zn_66, zn_67, zn_68, zn_69, zn_70, zn_71, zn_72, zn_73]; omega))  (k : JX11_fetch Q 64 [a0, a1, a2] st (z_up I q i.toNat x)) : JX11_fetch Q 63 [a0, a1, a2] (aI x :: aI i :: aR q :: st) I := g_iast dX11_fetch_63 hk h0 h1 k
theorem dX11_fetch_64 : decode cX11_fetch 64 = .ok (.iload_n 2, 1) := by decide +kernel
theorem X11_fetch_64 {Q : Int → z_M → Prop} {a0 a1 : z_V} {x : Int} {st : List z_V} {I : z_M} (k : JX11_fetch Q 65 [a0, a1, aI x] (aI x :: st) I) : JX11_fetch Q 64 [a0, a1, aI x] st I := g_iload_n (i := 2) (x := x) dX11_fetch_64 rfl rfl k
theorem dX11_fetch_65 : decode cX11_fetch 65 = .ok (.ireturn, 1) := by decide +kernel
theorem X11_fetch_65 {Q : Int → z_M → Prop} {a0 a1 a2 : z_V} {x : Int} {I : z_M} (hq : Q x I) : JX11_fetch Q 65 [a0, a1, a2] [aI x] I := g_ireturn dX11_fetch_65 ⟨x, rfl, hq⟩
theorem dX11_undo_0 : decode cX11_undo 0 = .ok (.aload_n 0, 1) := by decide +kernel
theorem X11_undo_0 {Q : Int → z_M → Prop} {a1 a2 : z_V} {x : Nat} {st : List z_V} {I : z_M} (k : JX11_undo Q 1 [aR x, a1, a2] (aR x :: st) I) : JX11_undo Q 0 [aR x, a1, a2] st I := g_aload_n (i := 0) (x := x) dX11_undo_0 rfl rfl k
theorem dX11_undo_1 : decode cX11_undo 1 = .ok (.getfield 7, 3) := by decide +kernel
theorem X11_undo_1 {Q : Int → z_M → Prop} {a0 a1 a2 : z_V}  {st : List z_V} {I : z_M}  (k : JX11_undo Q 4 [a0, a1, a2] (aR (61) :: st) I) : JX11_undo Q 1 [a0, a1, a2] (aR 60 :: st) I := g_getr (ci := 11) (j := 0) (N := 23) (T := TX11) dX11_undo_1 rfl rfl (by decide) (z_nc11 rfl) inlX11 (by decide) m_5_1 rfl rfl k
theorem dX11_undo_4 : decode cX11_undo 4 = .ok (.iconst 4, 1) := by decide +kernel
theorem X11_undo_4 {Q : Int → z_M → Prop} {a0 a1 a2 : z_V} {st : List z_V} {I : z_M} (k : JX11_undo Q 5 [a0, a1, a2] (aI 4 :: st) I) : JX11_undo Q 4 [a0, a1, a2] st I := g_iconst (n := 4) dX11_undo_4 (by decide) k
theorem dX11_undo_5 : decode cX11_undo 5 = .ok (.iaload, 1) := by decide +kernel
theorem X11_undo_5 {Q : Int → z_M → Prop} {a0 a1 a2 : z_V} {q : Nat} {i : Int} {st : List z_V} {I : z_M} (hk : z_cl q = 20 := by first | assumption | rfl) (h0 : 0 ≤ i := by omega) (h1 : i < z_n q := by first | omega | (simp only [zn_1, zn_9, zn_10, zn_11, zn_12, zn_13, zn_14, zn_15, zn_16, zn_18, zn_20, zn_21, zn_22, zn_23, zn_24, zn_25, zn_26, zn_27, zn_29, zn_30, zn_53, zn_55, zn_56, zn_58, zn_59, zn_61, zn_62, zn_63, zn_64, zn_65, zn_66, zn_67, zn_68, zn_69, zn_70, zn_71, zn_72, zn_73]; omega)) (k : JX11_undo Q 6 [a0, a1, a2] (aI (I q i.toNat) :: st) I) : JX11_undo Q 5 [a0, a1, a2] (aI i :: aR q :: st) I := g_iald dX11_undo_5 hk h0 h1 k
theorem dX11_undo_6 : decode cX11_undo 6 = .ok (.ifCond .ne 8, 3) := by decide +kernel
theorem X11_undo_6 {Q : Int → z_M → Prop} {a0 a1 a2 : z_V} {x : Int} {st : List z_V} {I : z_M} (kt : x ≠ 0 → JX11_undo Q 14 [a0, a1, a2] st I) (kf : x = 0 → JX11_undo Q 9 [a0, a1, a2] st I) : JX11_undo Q 6 [a0, a1, a2] (aI x :: st) I := g_if_ne dX11_undo_6 (by decide) kt kf
theorem dX11_undo_9 : decode cX11_undo 9 = .ok (.aload_n 0, 1) := by decide +kernel
theorem X11_undo_9 {Q : Int → z_M → Prop} {a1 a2 : z_V} {x : Nat} {st : List z_V} {I : z_M} (k : JX11_undo Q 10 [aR x, a1, a2] (aR x :: st) I) : JX11_undo Q 9 [aR x, a1, a2] st I := g_aload_n (i := 0) (x := x) dX11_undo_9 rfl rfl k
theorem dX11_undo_10 : decode cX11_undo 10 = .ok (.invokevirtual 167, 3) := by decide +kernel
theorem X11_undo_10 {Q : Int → z_M → Prop} {a0 a1 a2 : z_V}   {st : List z_V} {I : z_M}  (hst : z_sw st ≤ 8 := by exact Nat.le_of_ble_eq_true rfl) (k : CX11_no (aR 60 :: []) I (fun x9 I9 => JX11_undo Q 13 [a0, a1, a2] (aI x9 :: st) I9)) : JX11_undo Q 10 [a0, a1, a2] (aR 60 :: st) I := g_callV (C := RX11) (ci := 11) (As := []) (n := 0) dX11_undo_10 ⟨m_27_7, pdX11_no, ⟨by decide, by decide⟩, rfl, rfl, by decide, by decide⟩ m_27_4 m_27_5 m_27_6 m_1_5 rfl rfl (by decide) rfl rfl hst k (fun r I9 h => by obtain ⟨x9, rfl, h⟩ := h; exact h)
theorem dX11_undo_13 : decode cX11_undo 13 = .ok (.ireturn, 1) := by decide +kernel
theorem X11_undo_13 {Q : Int → z_M → Prop} {a0 a1 a2 : z_V} {x : Int} {I : z_M} (hq : Q x I) : JX11_undo Q 13 [a0, a1, a2] [aI x] I := g_ireturn dX11_undo_13 ⟨x, rfl, hq⟩
theorem dX11_undo_14 : decode cX11_undo 14 = .ok (.aload_n 0, 1) := by decide +kernel
theorem X11_undo_14 {Q : Int → z_M → Prop} {a1 a2 : z_V} {x : Nat} {st : List z_V} {I : z_M} (k : JX11_undo Q 15 [aR x, a1, a2] (aR x :: st) I) : JX11_undo Q 14 [aR x, a1, a2] st I := g_aload_n (i := 0) (x := x) dX11_undo_14 rfl rfl k
theorem dX11_undo_15 : decode cX11_undo 15 = .ok (.getfield 7, 3) := by decide +kernel
theorem X11_undo_15 {Q : Int → z_M → Prop} {a0 a1 a2 : z_V}  {st : List z_V} {I : z_M}  (k : JX11_undo Q 18 [a0, a1, a2] (aR (61) :: st) I) : JX11_undo Q 15 [a0, a1, a2] (aR 60 :: st) I := g_getr (ci := 11) (j := 0) (N := 23) (T := TX11) dX11_undo_15 rfl rfl (by decide) (z_nc11 rfl) inlX11 (by decide) m_5_1 rfl rfl k
theorem dX11_undo_18 : decode cX11_undo 18 = .ok (.iconst 4, 1) := by decide +kernel
theorem X11_undo_18 {Q : Int → z_M → Prop} {a0 a1 a2 : z_V} {st : List z_V} {I : z_M} (k : JX11_undo Q 19 [a0, a1, a2] (aI 4 :: st) I) : JX11_undo Q 18 [a0, a1, a2] st I := g_iconst (n := 4) dX11_undo_18 (by decide) k
theorem dX11_undo_19 : decode cX11_undo 19 = .ok (.dup2, 1) := by decide +kernel
theorem X11_undo_19 {Q : Int → z_M → Prop} {a0 a1 a2 : z_V} {x y : z_V} {st : List z_V} {I : z_M} (hx : ∀ z, x ≠ aL z := by intro z q; cases q) (hy : ∀ z, y ≠ aL z := by intro z q; cases q) (k : JX11_undo Q 20 [a0, a1, a2] (x :: y :: x :: y :: st) I) : JX11_undo Q 19 [a0, a1, a2] (x :: y :: st) I := g_dup2 dX11_undo_19 hx hy k
theorem dX11_undo_20 : decode cX11_undo 20 = .ok (.iaload, 1) := by decide +kernel
theorem X11_undo_20 {Q : Int → z_M → Prop} {a0 a1 a2 : z_V} {q : Nat} {i : Int} {st : List z_V} {I : z_M} (hk : z_cl q = 20 := by first | assumption | rfl) (h0 : 0 ≤ i := by omega) (h1 : i < z_n q := by first | omega | (simp only [zn_1, zn_9, zn_10, zn_11, zn_12, zn_13, zn_14, zn_15, zn_16, zn_18, zn_20, zn_21, zn_22, zn_23, zn_24, zn_25, zn_26, zn_27, zn_29, zn_30, zn_53, zn_55, zn_56, zn_58, zn_59, zn_61, zn_62, zn_63, zn_64, zn_65, zn_66, zn_67, zn_68, zn_69, zn_70, zn_71, zn_72, zn_73]; omega)) (k : JX11_undo Q 21 [a0, a1, a2] (aI (I q i.toNat) :: st) I) : JX11_undo Q 20 [a0, a1, a2] (aI i :: aR q :: st) I := g_iald dX11_undo_20 hk h0 h1 k
theorem dX11_undo_21 : decode cX11_undo 21 = .ok (.iconst 1, 1) := by decide +kernel
theorem X11_undo_21 {Q : Int → z_M → Prop} {a0 a1 a2 : z_V} {st : List z_V} {I : z_M} (k : JX11_undo Q 22 [a0, a1, a2] (aI 1 :: st) I) : JX11_undo Q 21 [a0, a1, a2] st I := g_iconst (n := 1) dX11_undo_21 (by decide) k
theorem dX11_undo_22 : decode cX11_undo 22 = .ok (.isub, 1) := by decide +kernel
theorem X11_undo_22 {Q : Int → z_M → Prop} {a0 a1 a2 : z_V} {x y : Int} {st : List z_V} {I : z_M} (hr : inI (x - y) := by omega) (k : JX11_undo Q 23 [a0, a1, a2] (aI (x - y) :: st) I) : JX11_undo Q 22 [a0, a1, a2] (aI y :: aI x :: st) I := g_isub dX11_undo_22 hr k
theorem X11_undo_22w {Q : Int → z_M → Prop} {a0 a1 a2 : z_V} {x y : Int} {st : List z_V} {I : z_M} (k : JX11_undo Q 23 [a0, a1, a2] (aI (i32 (x - y)) :: st) I) : JX11_undo Q 22 [a0, a1, a2] (aI y :: aI x :: st) I := g_isubw dX11_undo_22 k
theorem dX11_undo_23 : decode cX11_undo 23 = .ok (.iastore, 1) := by decide +kernel
theorem X11_undo_23 {Q : Int → z_M → Prop} {a0 a1 a2 : z_V} {q : Nat} {i x : Int} {st : List z_V} {I : z_M} (hk : z_cl q = 20 := by first | assumption | rfl) (h0 : 0 ≤ i := by omega) (h1 : i < z_n q := by first | omega | (simp only [zn_1, zn_9, zn_10, zn_11, zn_12, zn_13, zn_14, zn_15, zn_16, zn_18, zn_20, zn_21, zn_22, zn_23, zn_24, zn_25, zn_26, zn_27, zn_29, zn_30, zn_53, zn_55, zn_56, zn_58, zn_59, zn_61, zn_62, zn_63, zn_64, zn_65, zn_66, zn_67, zn_68, zn_69, zn_70, zn_71, zn_72, zn_73]; omega))  (k : JX11_undo Q 24 [a0, a1, a2] st (z_up I q i.toNat x)) : JX11_undo Q 23 [a0, a1, a2] (aI x :: aI i :: aR q :: st) I := g_iast dX11_undo_23 hk h0 h1 k
theorem dX11_undo_24 : decode cX11_undo 24 = .ok (.bipush 113, 2) := by decide +kernel
theorem X11_undo_24 {Q : Int → z_M → Prop} {a0 a1 a2 : z_V} {st : List z_V} {I : z_M} (k : JX11_undo Q 26 [a0, a1, a2] (aI 113 :: st) I) : JX11_undo Q 24 [a0, a1, a2] st I := g_bipush (n := 113) dX11_undo_24 (by decide +kernel) (by decide) k
theorem dX11_undo_26 : decode cX11_undo 26 = .ok (.bipush 17, 2) := by decide +kernel
theorem X11_undo_26 {Q : Int → z_M → Prop} {a0 a1 a2 : z_V} {st : List z_V} {I : z_M} (k : JX11_undo Q 28 [a0, a1, a2] (aI 17 :: st) I) : JX11_undo Q 26 [a0, a1, a2] st I := g_bipush (n := 17) dX11_undo_26 (by decide +kernel) (by decide) k
theorem dX11_undo_28 : decode cX11_undo 28 = .ok (.aload_n 0, 1) := by decide +kernel
theorem X11_undo_28 {Q : Int → z_M → Prop} {a1 a2 : z_V} {x : Nat} {st : List z_V} {I : z_M} (k : JX11_undo Q 29 [aR x, a1, a2] (aR x :: st) I) : JX11_undo Q 28 [aR x, a1, a2] st I := g_aload_n (i := 0) (x := x) dX11_undo_28 rfl rfl k
theorem dX11_undo_29 : decode cX11_undo 29 = .ok (.getfield 7, 3) := by decide +kernel
theorem X11_undo_29 {Q : Int → z_M → Prop} {a0 a1 a2 : z_V}  {st : List z_V} {I : z_M}  (k : JX11_undo Q 32 [a0, a1, a2] (aR (61) :: st) I) : JX11_undo Q 29 [a0, a1, a2] (aR 60 :: st) I := g_getr (ci := 11) (j := 0) (N := 23) (T := TX11) dX11_undo_29 rfl rfl (by decide) (z_nc11 rfl) inlX11 (by decide) m_5_1 rfl rfl k
theorem dX11_undo_32 : decode cX11_undo 32 = .ok (.iconst 4, 1) := by decide +kernel
theorem X11_undo_32 {Q : Int → z_M → Prop} {a0 a1 a2 : z_V} {st : List z_V} {I : z_M} (k : JX11_undo Q 33 [a0, a1, a2] (aI 4 :: st) I) : JX11_undo Q 32 [a0, a1, a2] st I := g_iconst (n := 4) dX11_undo_32 (by decide) k
theorem dX11_undo_33 : decode cX11_undo 33 = .ok (.iaload, 1) := by decide +kernel
theorem X11_undo_33 {Q : Int → z_M → Prop} {a0 a1 a2 : z_V} {q : Nat} {i : Int} {st : List z_V} {I : z_M} (hk : z_cl q = 20 := by first | assumption | rfl) (h0 : 0 ≤ i := by omega) (h1 : i < z_n q := by first | omega | (simp only [zn_1, zn_9, zn_10, zn_11, zn_12, zn_13, zn_14, zn_15, zn_16, zn_18, zn_20, zn_21, zn_22, zn_23, zn_24, zn_25, zn_26, zn_27, zn_29, zn_30, zn_53, zn_55, zn_56, zn_58, zn_59, zn_61, zn_62, zn_63, zn_64, zn_65, zn_66, zn_67, zn_68, zn_69, zn_70, zn_71, zn_72, zn_73]; omega)) (k : JX11_undo Q 34 [a0, a1, a2] (aI (I q i.toNat) :: st) I) : JX11_undo Q 33 [a0, a1, a2] (aI i :: aR q :: st) I := g_iald dX11_undo_33 hk h0 h1 k
theorem dX11_undo_34 : decode cX11_undo 34 = .ok (.imul, 1) := by decide +kernel
theorem X11_undo_34 {Q : Int → z_M → Prop} {a0 a1 a2 : z_V} {x y : Int} {st : List z_V} {I : z_M} (hr : inI (x * y) := by omega) (k : JX11_undo Q 35 [a0, a1, a2] (aI (x * y) :: st) I) : JX11_undo Q 34 [a0, a1, a2] (aI y :: aI x :: st) I := g_imul dX11_undo_34 hr k
theorem X11_undo_34w {Q : Int → z_M → Prop} {a0 a1 a2 : z_V} {x y : Int} {st : List z_V} {I : z_M} (k : JX11_undo Q 35 [a0, a1, a2] (aI (i32 (x * y)) :: st) I) : JX11_undo Q 34 [a0, a1, a2] (aI y :: aI x :: st) I := g_imulw dX11_undo_34 k
theorem dX11_undo_35 : decode cX11_undo 35 = .ok (.iadd, 1) := by decide +kernel
theorem X11_undo_35 {Q : Int → z_M → Prop} {a0 a1 a2 : z_V} {x y : Int} {st : List z_V} {I : z_M} (hr : inI (x + y) := by omega) (k : JX11_undo Q 36 [a0, a1, a2] (aI (x + y) :: st) I) : JX11_undo Q 35 [a0, a1, a2] (aI y :: aI x :: st) I := g_iadd dX11_undo_35 hr k
theorem X11_undo_35w {Q : Int → z_M → Prop} {a0 a1 a2 : z_V} {x y : Int} {st : List z_V} {I : z_M} (k : JX11_undo Q 36 [a0, a1, a2] (aI (i32 (x + y)) :: st) I) : JX11_undo Q 35 [a0, a1, a2] (aI y :: aI x :: st) I := g_iaddw dX11_undo_35 k
theorem dX11_undo_36 : decode cX11_undo 36 = .ok (.istore_n 1, 1) := by decide +kernel
theorem X11_undo_36 {Q : Int → z_M → Prop} {a0 a1 a2 : z_V} {x : Int} {st : List z_V} {I : z_M} (hb : z_nl [a0, a1, a2] 1 = true := by rfl) (k : JX11_undo Q 37 [a0, aI x, a2] st I) : JX11_undo Q 36 [a0, a1, a2] (aI x :: st) I := g_istore_n (i := 1) (x := x) dX11_undo_36 rfl (show 1 < 3 from by decide) hb k
theorem dX11_undo_37 : decode cX11_undo 37 = .ok (.aload_n 0, 1) := by decide +kernel
theorem X11_undo_37 {Q : Int → z_M → Prop} {a1 a2 : z_V} {x : Nat} {st : List z_V} {I : z_M} (k : JX11_undo Q 38 [aR x, a1, a2] (aR x :: st) I) : JX11_undo Q 37 [aR x, a1, a2] st I := g_aload_n (i := 0) (x := x) dX11_undo_37 rfl rfl k
theorem dX11_undo_38 : decode cX11_undo 38 = .ok (.getfield 7, 3) := by decide +kernel
theorem X11_undo_38 {Q : Int → z_M → Prop} {a0 a1 a2 : z_V}  {st : List z_V} {I : z_M}  (k : JX11_undo Q 41 [a0, a1, a2] (aR (61) :: st) I) : JX11_undo Q 38 [a0, a1, a2] (aR 60 :: st) I := g_getr (ci := 11) (j := 0) (N := 23) (T := TX11) dX11_undo_38 rfl rfl (by decide) (z_nc11 rfl) inlX11 (by decide) m_5_1 rfl rfl k
theorem dX11_undo_41 : decode cX11_undo 41 = .ok (.iconst 2, 1) := by decide +kernel
theorem X11_undo_41 {Q : Int → z_M → Prop} {a0 a1 a2 : z_V} {st : List z_V} {I : z_M} (k : JX11_undo Q 42 [a0, a1, a2] (aI 2 :: st) I) : JX11_undo Q 41 [a0, a1, a2] st I := g_iconst (n := 2) dX11_undo_41 (by decide) k
theorem dX11_undo_42 : decode cX11_undo 42 = .ok (.aload_n 0, 1) := by decide +kernel
theorem X11_undo_42 {Q : Int → z_M → Prop} {a1 a2 : z_V} {x : Nat} {st : List z_V} {I : z_M} (k : JX11_undo Q 43 [aR x, a1, a2] (aR x :: st) I) : JX11_undo Q 42 [aR x, a1, a2] st I := g_aload_n (i := 0) (x := x) dX11_undo_42 rfl rfl k
theorem dX11_undo_43 : decode cX11_undo 43 = .ok (.getfield 7, 3) := by decide +kernel
theorem X11_undo_43 {Q : Int → z_M → Prop} {a0 a1 a2 : z_V}  {st : List z_V} {I : z_M}  (k : JX11_undo Q 46 [a0, a1, a2] (aR (61) :: st) I) : JX11_undo Q 43 [a0, a1, a2] (aR 60 :: st) I := g_getr (ci := 11) (j := 0) (N := 23) (T := TX11) dX11_undo_43 rfl rfl (by decide) (z_nc11 rfl) inlX11 (by decide) m_5_1 rfl rfl k
theorem dX11_undo_46 : decode cX11_undo 46 = .ok (.iload_n 1, 1) := by decide +kernel
theorem X11_undo_46 {Q : Int → z_M → Prop} {a0 a2 : z_V} {x : Int} {st : List z_V} {I : z_M} (k : JX11_undo Q 47 [a0, aI x, a2] (aI x :: st) I) : JX11_undo Q 46 [a0, aI x, a2] st I := g_iload_n (i := 1) (x := x) dX11_undo_46 rfl rfl k
theorem dX11_undo_47 : decode cX11_undo 47 = .ok (.iaload, 1) := by decide +kernel
theorem X11_undo_47 {Q : Int → z_M → Prop} {a0 a1 a2 : z_V} {q : Nat} {i : Int} {st : List z_V} {I : z_M} (hk : z_cl q = 20 := by first | assumption | rfl) (h0 : 0 ≤ i := by omega) (h1 : i < z_n q := by first | omega | (simp only [zn_1, zn_9, zn_10, zn_11, zn_12, zn_13, zn_14, zn_15, zn_16, zn_18, zn_20, zn_21, zn_22, zn_23, zn_24, zn_25, zn_26, zn_27, zn_29, zn_30, zn_53, zn_55, zn_56, zn_58, zn_59, zn_61, zn_62, zn_63, zn_64, zn_65, zn_66, zn_67, zn_68, zn_69, zn_70, zn_71, zn_72, zn_73]; omega)) (k : JX11_undo Q 48 [a0, a1, a2] (aI (I q i.toNat) :: st) I) : JX11_undo Q 47 [a0, a1, a2] (aI i :: aR q :: st) I := g_iald dX11_undo_47 hk h0 h1 k
theorem dX11_undo_48 : decode cX11_undo 48 = .ok (.iastore, 1) := by decide +kernel
theorem X11_undo_48 {Q : Int → z_M → Prop} {a0 a1 a2 : z_V} {q : Nat} {i x : Int} {st : List z_V} {I : z_M} (hk : z_cl q = 20 := by first | assumption | rfl) (h0 : 0 ≤ i := by omega) (h1 : i < z_n q := by first | omega | (simp only [zn_1, zn_9, zn_10, zn_11, zn_12, zn_13, zn_14, zn_15, zn_16, zn_18, zn_20, zn_21, zn_22, zn_23, zn_24, zn_25, zn_26, zn_27, zn_29, zn_30, zn_53, zn_55, zn_56, zn_58, zn_59, zn_61, zn_62, zn_63, zn_64, zn_65, zn_66, zn_67, zn_68, zn_69, zn_70, zn_71, zn_72, zn_73]; omega))  (k : JX11_undo Q 49 [a0, a1, a2] st (z_up I q i.toNat x)) : JX11_undo Q 48 [a0, a1, a2] (aI x :: aI i :: aR q :: st) I := g_iast dX11_undo_48 hk h0 h1 k
theorem dX11_undo_49 : decode cX11_undo 49 = .ok (.iconst 0, 1) := by decide +kernel
theorem X11_undo_49 {Q : Int → z_M → Prop} {a0 a1 a2 : z_V} {st : List z_V} {I : z_M} (k : JX11_undo Q 50 [a0, a1, a2] (aI 0 :: st) I) : JX11_undo Q 49 [a0, a1, a2] st I := g_iconst (n := 0) dX11_undo_49 (by decide) k
theorem dX11_undo_50 : decode cX11_undo 50 = .ok (.istore_n 2, 1) := by decide +kernel
theorem X11_undo_50 {Q : Int → z_M → Prop} {a0 a1 a2 : z_V} {x : Int} {st : List z_V} {I : z_M} (hb : z_nl [a0, a1, a2] 2 = true := by rfl) (k : JX11_undo Q 51 [a0, a1, aI x] st I) : JX11_undo Q 50 [a0, a1, a2] (aI x :: st) I := g_istore_n (i := 2) (x := x) dX11_undo_50 rfl (show 2 < 3 from by decide) hb k
theorem dX11_undo_51 : decode cX11_undo 51 = .ok (.iload_n 2, 1) := by decide +kernel
theorem X11_undo_51 {Q : Int → z_M → Prop} {a0 a1 : z_V} {x : Int} {st : List z_V} {I : z_M} (k : JX11_undo Q 52 [a0, a1, aI x] (aI x :: st) I) : JX11_undo Q 51 [a0, a1, aI x] st I := g_iload_n (i := 2) (x := x) dX11_undo_51 rfl rfl k
theorem dX11_undo_52 : decode cX11_undo 52 = .ok (.bipush 8, 2) := by decide +kernel
theorem X11_undo_52 {Q : Int → z_M → Prop} {a0 a1 a2 : z_V} {st : List z_V} {I : z_M} (k : JX11_undo Q 54 [a0, a1, a2] (aI 8 :: st) I) : JX11_undo Q 52 [a0, a1, a2] st I := g_bipush (n := 8) dX11_undo_52 (by decide +kernel) (by decide) k
theorem dX11_undo_54 : decode cX11_undo 54 = .ok (.if_icmp .ge 56, 3) := by decide +kernel
theorem X11_undo_54 {Q : Int → z_M → Prop} {a0 a1 a2 : z_V} {x y : Int} {st : List z_V} {I : z_M} (kt : y ≤ x → JX11_undo Q 110 [a0, a1, a2] st I) (kf : x < y → JX11_undo Q 57 [a0, a1, a2] st I) : JX11_undo Q 54 [a0, a1, a2] (aI y :: aI x :: st) I := g_icmp_ge dX11_undo_54 (by decide) kt kf
theorem dX11_undo_57 : decode cX11_undo 57 = .ok (.aload_n 0, 1) := by decide +kernel
theorem X11_undo_57 {Q : Int → z_M → Prop} {a1 a2 : z_V} {x : Nat} {st : List z_V} {I : z_M} (k : JX11_undo Q 58 [aR x, a1, a2] (aR x :: st) I) : JX11_undo Q 57 [aR x, a1, a2] st I := g_aload_n (i := 0) (x := x) dX11_undo_57 rfl rfl k
theorem dX11_undo_58 : decode cX11_undo 58 = .ok (.getfield 7, 3) := by decide +kernel
theorem X11_undo_58 {Q : Int → z_M → Prop} {a0 a1 a2 : z_V}  {st : List z_V} {I : z_M}  (k : JX11_undo Q 61 [a0, a1, a2] (aR (61) :: st) I) : JX11_undo Q 58 [a0, a1, a2] (aR 60 :: st) I := g_getr (ci := 11) (j := 0) (N := 23) (T := TX11) dX11_undo_58 rfl rfl (by decide) (z_nc11 rfl) inlX11 (by decide) m_5_1 rfl rfl k
theorem dX11_undo_61 : decode cX11_undo 61 = .ok (.bipush 30, 2) := by decide +kernel
theorem X11_undo_61 {Q : Int → z_M → Prop} {a0 a1 a2 : z_V} {st : List z_V} {I : z_M} (k : JX11_undo Q 63 [a0, a1, a2] (aI 30 :: st) I) : JX11_undo Q 61 [a0, a1, a2] st I := g_bipush (n := 30) dX11_undo_61 (by decide +kernel) (by decide) k
theorem dX11_undo_63 : decode cX11_undo 63 = .ok (.iconst 4, 1) := by decide +kernel
theorem X11_undo_63 {Q : Int → z_M → Prop} {a0 a1 a2 : z_V} {st : List z_V} {I : z_M} (k : JX11_undo Q 64 [a0, a1, a2] (aI 4 :: st) I) : JX11_undo Q 63 [a0, a1, a2] st I := g_iconst (n := 4) dX11_undo_63 (by decide) k
theorem dX11_undo_64 : decode cX11_undo 64 = .ok (.iload_n 2, 1) := by decide +kernel
theorem X11_undo_64 {Q : Int → z_M → Prop} {a0 a1 : z_V} {x : Int} {st : List z_V} {I : z_M} (k : JX11_undo Q 65 [a0, a1, aI x] (aI x :: st) I) : JX11_undo Q 64 [a0, a1, aI x] st I := g_iload_n (i := 2) (x := x) dX11_undo_64 rfl rfl k
theorem dX11_undo_65 : decode cX11_undo 65 = .ok (.imul, 1) := by decide +kernel
theorem X11_undo_65 {Q : Int → z_M → Prop} {a0 a1 a2 : z_V} {x y : Int} {st : List z_V} {I : z_M} (hr : inI (x * y) := by omega) (k : JX11_undo Q 66 [a0, a1, a2] (aI (x * y) :: st) I) : JX11_undo Q 65 [a0, a1, a2] (aI y :: aI x :: st) I := g_imul dX11_undo_65 hr k
theorem X11_undo_65w {Q : Int → z_M → Prop} {a0 a1 a2 : z_V} {x y : Int} {st : List z_V} {I : z_M} (k : JX11_undo Q 66 [a0, a1, a2] (aI (i32 (x * y)) :: st) I) : JX11_undo Q 65 [a0, a1, a2] (aI y :: aI x :: st) I := g_imulw dX11_undo_65 k
theorem dX11_undo_66 : decode cX11_undo 66 = .ok (.iadd, 1) := by decide +kernel
theorem X11_undo_66 {Q : Int → z_M → Prop} {a0 a1 a2 : z_V} {x y : Int} {st : List z_V} {I : z_M} (hr : inI (x + y) := by omega) (k : JX11_undo Q 67 [a0, a1, a2] (aI (x + y) :: st) I) : JX11_undo Q 66 [a0, a1, a2] (aI y :: aI x :: st) I := g_iadd dX11_undo_66 hr k
theorem X11_undo_66w {Q : Int → z_M → Prop} {a0 a1 a2 : z_V} {x y : Int} {st : List z_V} {I : z_M} (k : JX11_undo Q 67 [a0, a1, a2] (aI (i32 (x + y)) :: st) I) : JX11_undo Q 66 [a0, a1, a2] (aI y :: aI x :: st) I := g_iaddw dX11_undo_66 k
theorem dX11_undo_67 : decode cX11_undo 67 = .ok (.iconst 2, 1) := by decide +kernel
theorem X11_undo_67 {Q : Int → z_M → Prop} {a0 a1 a2 : z_V} {st : List z_V} {I : z_M} (k : JX11_undo Q 68 [a0, a1, a2] (aI 2 :: st) I) : JX11_undo Q 67 [a0, a1, a2] st I := g_iconst (n := 2) dX11_undo_67 (by decide) k
theorem dX11_undo_68 : decode cX11_undo 68 = .ok (.iadd, 1) := by decide +kernel
theorem X11_undo_68 {Q : Int → z_M → Prop} {a0 a1 a2 : z_V} {x y : Int} {st : List z_V} {I : z_M} (hr : inI (x + y) := by omega) (k : JX11_undo Q 69 [a0, a1, a2] (aI (x + y) :: st) I) : JX11_undo Q 68 [a0, a1, a2] (aI y :: aI x :: st) I := g_iadd dX11_undo_68 hr k
theorem X11_undo_68w {Q : Int → z_M → Prop} {a0 a1 a2 : z_V} {x y : Int} {st : List z_V} {I : z_M} (k : JX11_undo Q 69 [a0, a1, a2] (aI (i32 (x + y)) :: st) I) : JX11_undo Q 68 [a0, a1, a2] (aI y :: aI x :: st) I := g_iaddw dX11_undo_68 k
theorem dX11_undo_69 : decode cX11_undo 69 = .ok (.aload_n 0, 1) := by decide +kernel
theorem X11_undo_69 {Q : Int → z_M → Prop} {a1 a2 : z_V} {x : Nat} {st : List z_V} {I : z_M} (k : JX11_undo Q 70 [aR x, a1, a2] (aR x :: st) I) : JX11_undo Q 69 [aR x, a1, a2] st I := g_aload_n (i := 0) (x := x) dX11_undo_69 rfl rfl k
theorem dX11_undo_70 : decode cX11_undo 70 = .ok (.getfield 7, 3) := by decide +kernel
theorem X11_undo_70 {Q : Int → z_M → Prop} {a0 a1 a2 : z_V}  {st : List z_V} {I : z_M}  (k : JX11_undo Q 73 [a0, a1, a2] (aR (61) :: st) I) : JX11_undo Q 70 [a0, a1, a2] (aR 60 :: st) I := g_getr (ci := 11) (j := 0) (N := 23) (T := TX11) dX11_undo_70 rfl rfl (by decide) (z_nc11 rfl) inlX11 (by decide) m_5_1 rfl rfl k
theorem dX11_undo_73 : decode cX11_undo 73 = .ok (.iload_n 1, 1) := by decide +kernel
theorem X11_undo_73 {Q : Int → z_M → Prop} {a0 a2 : z_V} {x : Int} {st : List z_V} {I : z_M} (k : JX11_undo Q 74 [a0, aI x, a2] (aI x :: st) I) : JX11_undo Q 73 [a0, aI x, a2] st I := g_iload_n (i := 1) (x := x) dX11_undo_73 rfl rfl k
theorem dX11_undo_74 : decode cX11_undo 74 = .ok (.iconst 1, 1) := by decide +kernel
theorem X11_undo_74 {Q : Int → z_M → Prop} {a0 a1 a2 : z_V} {st : List z_V} {I : z_M} (k : JX11_undo Q 75 [a0, a1, a2] (aI 1 :: st) I) : JX11_undo Q 74 [a0, a1, a2] st I := g_iconst (n := 1) dX11_undo_74 (by decide) k
theorem dX11_undo_75 : decode cX11_undo 75 = .ok (.iadd, 1) := by decide +kernel
theorem X11_undo_75 {Q : Int → z_M → Prop} {a0 a1 a2 : z_V} {x y : Int} {st : List z_V} {I : z_M} (hr : inI (x + y) := by omega) (k : JX11_undo Q 76 [a0, a1, a2] (aI (x + y) :: st) I) : JX11_undo Q 75 [a0, a1, a2] (aI y :: aI x :: st) I := g_iadd dX11_undo_75 hr k
theorem X11_undo_75w {Q : Int → z_M → Prop} {a0 a1 a2 : z_V} {x y : Int} {st : List z_V} {I : z_M} (k : JX11_undo Q 76 [a0, a1, a2] (aI (i32 (x + y)) :: st) I) : JX11_undo Q 75 [a0, a1, a2] (aI y :: aI x :: st) I := g_iaddw dX11_undo_75 k
theorem dX11_undo_76 : decode cX11_undo 76 = .ok (.iload_n 2, 1) := by decide +kernel
theorem X11_undo_76 {Q : Int → z_M → Prop} {a0 a1 : z_V} {x : Int} {st : List z_V} {I : z_M} (k : JX11_undo Q 77 [a0, a1, aI x] (aI x :: st) I) : JX11_undo Q 76 [a0, a1, aI x] st I := g_iload_n (i := 2) (x := x) dX11_undo_76 rfl rfl k
theorem dX11_undo_77 : decode cX11_undo 77 = .ok (.iadd, 1) := by decide +kernel
theorem X11_undo_77 {Q : Int → z_M → Prop} {a0 a1 a2 : z_V} {x y : Int} {st : List z_V} {I : z_M} (hr : inI (x + y) := by omega) (k : JX11_undo Q 78 [a0, a1, a2] (aI (x + y) :: st) I) : JX11_undo Q 77 [a0, a1, a2] (aI y :: aI x :: st) I := g_iadd dX11_undo_77 hr k
theorem X11_undo_77w {Q : Int → z_M → Prop} {a0 a1 a2 : z_V} {x y : Int} {st : List z_V} {I : z_M} (k : JX11_undo Q 78 [a0, a1, a2] (aI (i32 (x + y)) :: st) I) : JX11_undo Q 77 [a0, a1, a2] (aI y :: aI x :: st) I := g_iaddw dX11_undo_77 k
theorem dX11_undo_78 : decode cX11_undo 78 = .ok (.iaload, 1) := by decide +kernel
theorem X11_undo_78 {Q : Int → z_M → Prop} {a0 a1 a2 : z_V} {q : Nat} {i : Int} {st : List z_V} {I : z_M} (hk : z_cl q = 20 := by first | assumption | rfl) (h0 : 0 ≤ i := by omega) (h1 : i < z_n q := by first | omega | (simp only [zn_1, zn_9, zn_10, zn_11, zn_12, zn_13, zn_14, zn_15, zn_16, zn_18, zn_20, zn_21, zn_22, zn_23, zn_24, zn_25, zn_26, zn_27, zn_29, zn_30, zn_53, zn_55, zn_56, zn_58, zn_59, zn_61, zn_62, zn_63, zn_64, zn_65, zn_66, zn_67, zn_68, zn_69, zn_70, zn_71, zn_72, zn_73]; omega)) (k : JX11_undo Q 79 [a0, a1, a2] (aI (I q i.toNat) :: st) I) : JX11_undo Q 78 [a0, a1, a2] (aI i :: aR q :: st) I := g_iald dX11_undo_78 hk h0 h1 k
theorem dX11_undo_79 : decode cX11_undo 79 = .ok (.iastore, 1) := by decide +kernel
theorem X11_undo_79 {Q : Int → z_M → Prop} {a0 a1 a2 : z_V} {q : Nat} {i x : Int} {st : List z_V} {I : z_M} (hk : z_cl q = 20 := by first | assumption | rfl) (h0 : 0 ≤ i := by omega) (h1 : i < z_n q := by first | omega | (simp only [zn_1, zn_9, zn_10, zn_11, zn_12, zn_13, zn_14, zn_15, zn_16, zn_18, zn_20, zn_21, zn_22, zn_23, zn_24, zn_25, zn_26, zn_27, zn_29, zn_30, zn_53, zn_55, zn_56, zn_58, zn_59, zn_61, zn_62, zn_63, zn_64, zn_65, zn_66, zn_67, zn_68, zn_69, zn_70, zn_71, zn_72, zn_73]; omega))  (k : JX11_undo Q 80 [a0, a1, a2] st (z_up I q i.toNat x)) : JX11_undo Q 79 [a0, a1, a2] (aI x :: aI i :: aR q :: st) I := g_iast dX11_undo_79 hk h0 h1 k
theorem dX11_undo_80 : decode cX11_undo 80 = .ok (.aload_n 0, 1) := by decide +kernel
theorem X11_undo_80 {Q : Int → z_M → Prop} {a1 a2 : z_V} {x : Nat} {st : List z_V} {I : z_M} (k : JX11_undo Q 81 [aR x, a1, a2] (aR x :: st) I) : JX11_undo Q 80 [aR x, a1, a2] st I := g_aload_n (i := 0) (x := x) dX11_undo_80 rfl rfl k
theorem dX11_undo_81 : decode cX11_undo 81 = .ok (.getfield 7, 3) := by decide +kernel
theorem X11_undo_81 {Q : Int → z_M → Prop} {a0 a1 a2 : z_V}  {st : List z_V} {I : z_M}  (k : JX11_undo Q 84 [a0, a1, a2] (aR (61) :: st) I) : JX11_undo Q 81 [a0, a1, a2] (aR 60 :: st) I := g_getr (ci := 11) (j := 0) (N := 23) (T := TX11) dX11_undo_81 rfl rfl (by decide) (z_nc11 rfl) inlX11 (by decide) m_5_1 rfl rfl k
theorem dX11_undo_84 : decode cX11_undo 84 = .ok (.bipush 30, 2) := by decide +kernel
theorem X11_undo_84 {Q : Int → z_M → Prop} {a0 a1 a2 : z_V} {st : List z_V} {I : z_M} (k : JX11_undo Q 86 [a0, a1, a2] (aI 30 :: st) I) : JX11_undo Q 84 [a0, a1, a2] st I := g_bipush (n := 30) dX11_undo_84 (by decide +kernel) (by decide) k
theorem dX11_undo_86 : decode cX11_undo 86 = .ok (.iconst 4, 1) := by decide +kernel
theorem X11_undo_86 {Q : Int → z_M → Prop} {a0 a1 a2 : z_V} {st : List z_V} {I : z_M} (k : JX11_undo Q 87 [a0, a1, a2] (aI 4 :: st) I) : JX11_undo Q 86 [a0, a1, a2] st I := g_iconst (n := 4) dX11_undo_86 (by decide) k
theorem dX11_undo_87 : decode cX11_undo 87 = .ok (.iload_n 2, 1) := by decide +kernel
theorem X11_undo_87 {Q : Int → z_M → Prop} {a0 a1 : z_V} {x : Int} {st : List z_V} {I : z_M} (k : JX11_undo Q 88 [a0, a1, aI x] (aI x :: st) I) : JX11_undo Q 87 [a0, a1, aI x] st I := g_iload_n (i := 2) (x := x) dX11_undo_87 rfl rfl k
theorem dX11_undo_88 : decode cX11_undo 88 = .ok (.imul, 1) := by decide +kernel
theorem X11_undo_88 {Q : Int → z_M → Prop} {a0 a1 a2 : z_V} {x y : Int} {st : List z_V} {I : z_M} (hr : inI (x * y) := by omega) (k : JX11_undo Q 89 [a0, a1, a2] (aI (x * y) :: st) I) : JX11_undo Q 88 [a0, a1, a2] (aI y :: aI x :: st) I := g_imul dX11_undo_88 hr k
theorem X11_undo_88w {Q : Int → z_M → Prop} {a0 a1 a2 : z_V} {x y : Int} {st : List z_V} {I : z_M} (k : JX11_undo Q 89 [a0, a1, a2] (aI (i32 (x * y)) :: st) I) : JX11_undo Q 88 [a0, a1, a2] (aI y :: aI x :: st) I := g_imulw dX11_undo_88 k
theorem dX11_undo_89 : decode cX11_undo 89 = .ok (.iadd, 1) := by decide +kernel
theorem X11_undo_89 {Q : Int → z_M → Prop} {a0 a1 a2 : z_V} {x y : Int} {st : List z_V} {I : z_M} (hr : inI (x + y) := by omega) (k : JX11_undo Q 90 [a0, a1, a2] (aI (x + y) :: st) I) : JX11_undo Q 89 [a0, a1, a2] (aI y :: aI x :: st) I := g_iadd dX11_undo_89 hr k
theorem X11_undo_89w {Q : Int → z_M → Prop} {a0 a1 a2 : z_V} {x y : Int} {st : List z_V} {I : z_M} (k : JX11_undo Q 90 [a0, a1, a2] (aI (i32 (x + y)) :: st) I) : JX11_undo Q 89 [a0, a1, a2] (aI y :: aI x :: st) I := g_iaddw dX11_undo_89 k
theorem dX11_undo_90 : decode cX11_undo 90 = .ok (.iconst 3, 1) := by decide +kernel
theorem X11_undo_90 {Q : Int → z_M → Prop} {a0 a1 a2 : z_V} {st : List z_V} {I : z_M} (k : JX11_undo Q 91 [a0, a1, a2] (aI 3 :: st) I) : JX11_undo Q 90 [a0, a1, a2] st I := g_iconst (n := 3) dX11_undo_90 (by decide) k
theorem dX11_undo_91 : decode cX11_undo 91 = .ok (.iadd, 1) := by decide +kernel
theorem X11_undo_91 {Q : Int → z_M → Prop} {a0 a1 a2 : z_V} {x y : Int} {st : List z_V} {I : z_M} (hr : inI (x + y) := by omega) (k : JX11_undo Q 92 [a0, a1, a2] (aI (x + y) :: st) I) : JX11_undo Q 91 [a0, a1, a2] (aI y :: aI x :: st) I := g_iadd dX11_undo_91 hr k
theorem X11_undo_91w {Q : Int → z_M → Prop} {a0 a1 a2 : z_V} {x y : Int} {st : List z_V} {I : z_M} (k : JX11_undo Q 92 [a0, a1, a2] (aI (i32 (x + y)) :: st) I) : JX11_undo Q 91 [a0, a1, a2] (aI y :: aI x :: st) I := g_iaddw dX11_undo_91 k
theorem dX11_undo_92 : decode cX11_undo 92 = .ok (.aload_n 0, 1) := by decide +kernel
theorem X11_undo_92 {Q : Int → z_M → Prop} {a1 a2 : z_V} {x : Nat} {st : List z_V} {I : z_M} (k : JX11_undo Q 93 [aR x, a1, a2] (aR x :: st) I) : JX11_undo Q 92 [aR x, a1, a2] st I := g_aload_n (i := 0) (x := x) dX11_undo_92 rfl rfl k
theorem dX11_undo_93 : decode cX11_undo 93 = .ok (.getfield 7, 3) := by decide +kernel
theorem X11_undo_93 {Q : Int → z_M → Prop} {a0 a1 a2 : z_V}  {st : List z_V} {I : z_M}  (k : JX11_undo Q 96 [a0, a1, a2] (aR (61) :: st) I) : JX11_undo Q 93 [a0, a1, a2] (aR 60 :: st) I := g_getr (ci := 11) (j := 0) (N := 23) (T := TX11) dX11_undo_93 rfl rfl (by decide) (z_nc11 rfl) inlX11 (by decide) m_5_1 rfl rfl k
theorem dX11_undo_96 : decode cX11_undo 96 = .ok (.iload_n 1, 1) := by decide +kernel
theorem X11_undo_96 {Q : Int → z_M → Prop} {a0 a2 : z_V} {x : Int} {st : List z_V} {I : z_M} (k : JX11_undo Q 97 [a0, aI x, a2] (aI x :: st) I) : JX11_undo Q 96 [a0, aI x, a2] st I := g_iload_n (i := 1) (x := x) dX11_undo_96 rfl rfl k
theorem dX11_undo_97 : decode cX11_undo 97 = .ok (.bipush 9, 2) := by decide +kernel
theorem X11_undo_97 {Q : Int → z_M → Prop} {a0 a1 a2 : z_V} {st : List z_V} {I : z_M} (k : JX11_undo Q 99 [a0, a1, a2] (aI 9 :: st) I) : JX11_undo Q 97 [a0, a1, a2] st I := g_bipush (n := 9) dX11_undo_97 (by decide +kernel) (by decide) k
theorem dX11_undo_99 : decode cX11_undo 99 = .ok (.iadd, 1) := by decide +kernel
theorem X11_undo_99 {Q : Int → z_M → Prop} {a0 a1 a2 : z_V} {x y : Int} {st : List z_V} {I : z_M} (hr : inI (x + y) := by omega) (k : JX11_undo Q 100 [a0, a1, a2] (aI (x + y) :: st) I) : JX11_undo Q 99 [a0, a1, a2] (aI y :: aI x :: st) I := g_iadd dX11_undo_99 hr k
theorem X11_undo_99w {Q : Int → z_M → Prop} {a0 a1 a2 : z_V} {x y : Int} {st : List z_V} {I : z_M} (k : JX11_undo Q 100 [a0, a1, a2] (aI (i32 (x + y)) :: st) I) : JX11_undo Q 99 [a0, a1, a2] (aI y :: aI x :: st) I := g_iaddw dX11_undo_99 k
theorem dX11_undo_100 : decode cX11_undo 100 = .ok (.iload_n 2, 1) := by decide +kernel
theorem X11_undo_100 {Q : Int → z_M → Prop} {a0 a1 : z_V} {x : Int} {st : List z_V} {I : z_M} (k : JX11_undo Q 101 [a0, a1, aI x] (aI x :: st) I) : JX11_undo Q 100 [a0, a1, aI x] st I := g_iload_n (i := 2) (x := x) dX11_undo_100 rfl rfl k
theorem dX11_undo_101 : decode cX11_undo 101 = .ok (.iadd, 1) := by decide +kernel
theorem X11_undo_101 {Q : Int → z_M → Prop} {a0 a1 a2 : z_V} {x y : Int} {st : List z_V} {I : z_M} (hr : inI (x + y) := by omega) (k : JX11_undo Q 102 [a0, a1, a2] (aI (x + y) :: st) I) : JX11_undo Q 101 [a0, a1, a2] (aI y :: aI x :: st) I := g_iadd dX11_undo_101 hr k
theorem X11_undo_101w {Q : Int → z_M → Prop} {a0 a1 a2 : z_V} {x y : Int} {st : List z_V} {I : z_M} (k : JX11_undo Q 102 [a0, a1, a2] (aI (i32 (x + y)) :: st) I) : JX11_undo Q 101 [a0, a1, a2] (aI y :: aI x :: st) I := g_iaddw dX11_undo_101 k
theorem dX11_undo_102 : decode cX11_undo 102 = .ok (.iaload, 1) := by decide +kernel
theorem X11_undo_102 {Q : Int → z_M → Prop} {a0 a1 a2 : z_V} {q : Nat} {i : Int} {st : List z_V} {I : z_M} (hk : z_cl q = 20 := by first | assumption | rfl) (h0 : 0 ≤ i := by omega) (h1 : i < z_n q := by first | omega | (simp only [zn_1, zn_9, zn_10, zn_11, zn_12, zn_13, zn_14, zn_15, zn_16, zn_18, zn_20, zn_21, zn_22, zn_23, zn_24, zn_25, zn_26, zn_27, zn_29, zn_30, zn_53, zn_55, zn_56, zn_58, zn_59, zn_61, zn_62, zn_63, zn_64, zn_65, zn_66, zn_67, zn_68, zn_69, zn_70, zn_71, zn_72, zn_73]; omega)) (k : JX11_undo Q 103 [a0, a1, a2] (aI (I q i.toNat) :: st) I) : JX11_undo Q 102 [a0, a1, a2] (aI i :: aR q :: st) I := g_iald dX11_undo_102 hk h0 h1 k
theorem dX11_undo_103 : decode cX11_undo 103 = .ok (.iastore, 1) := by decide +kernel
theorem X11_undo_103 {Q : Int → z_M → Prop} {a0 a1 a2 : z_V} {q : Nat} {i x : Int} {st : List z_V} {I : z_M} (hk : z_cl q = 20 := by first | assumption | rfl) (h0 : 0 ≤ i := by omega) (h1 : i < z_n q := by first | omega | (simp only [zn_1, zn_9, zn_10, zn_11, zn_12, zn_13, zn_14, zn_15, zn_16, zn_18, zn_20, zn_21, zn_22, zn_23, zn_24, zn_25, zn_26, zn_27, zn_29, zn_30, zn_53, zn_55, zn_56, zn_58, zn_59, zn_61, zn_62, zn_63, zn_64, zn_65, zn_66, zn_67, zn_68, zn_69, zn_70, zn_71, zn_72, zn_73]; omega))  (k : JX11_undo Q 104 [a0, a1, a2] st (z_up I q i.toNat x)) : JX11_undo Q 103 [a0, a1, a2] (aI x :: aI i :: aR q :: st) I := g_iast dX11_undo_103 hk h0 h1 k
theorem dX11_undo_104 : decode cX11_undo 104 = .ok (.iinc 2 1, 3) := by decide +kernel
theorem X11_undo_104 {Q : Int → z_M → Prop} {a0 a1 : z_V} {x : Int} {st : List z_V} {I : z_M} (hb : z_nl [a0, a1, aI x] 2 = true := by rfl) (hr : inI (x + 1) := by omega) (k : JX11_undo Q 107 [a0, a1, aI (x + 1)] st I) : JX11_undo Q 104 [a0, a1, aI x] st I := g_iinc (i := 2) (x := x) dX11_undo_104 rfl (show 2 < 3 from by decide) hb hr k
theorem dX11_undo_107 : decode cX11_undo 107 = .ok (.goto (-56), 3) := by decide +kernel
theorem X11_undo_107 {Q : Int → z_M → Prop} {a0 a1 a2 : z_V} {st : List z_V} {I : z_M} (k : JX11_undo Q 51 [a0, a1, a2] st I) : JX11_undo Q 107 [a0, a1, a2] st I := g_goto dX11_undo_107 (by decide) k
theorem dX11_undo_110 : decode cX11_undo 110 = .ok (.aload_n 0, 1) := by decide +kernel
theorem X11_undo_110 {Q : Int → z_M → Prop} {a1 a2 : z_V} {x : Nat} {st : List z_V} {I : z_M} (k : JX11_undo Q 111 [aR x, a1, a2] (aR x :: st) I) : JX11_undo Q 110 [aR x, a1, a2] st I := g_aload_n (i := 0) (x := x) dX11_undo_110 rfl rfl k
theorem dX11_undo_111 : decode cX11_undo 111 = .ok (.getfield 7, 3) := by decide +kernel
theorem X11_undo_111 {Q : Int → z_M → Prop} {a0 a1 a2 : z_V}  {st : List z_V} {I : z_M}  (k : JX11_undo Q 114 [a0, a1, a2] (aR (61) :: st) I) : JX11_undo Q 111 [a0, a1, a2] (aR 60 :: st) I := g_getr (ci := 11) (j := 0) (N := 23) (T := TX11) dX11_undo_111 rfl rfl (by decide) (z_nc11 rfl) inlX11 (by decide) m_5_1 rfl rfl k
theorem dX11_undo_114 : decode cX11_undo 114 = .ok (.iconst 2, 1) := by decide +kernel
theorem X11_undo_114 {Q : Int → z_M → Prop} {a0 a1 a2 : z_V} {st : List z_V} {I : z_M} (k : JX11_undo Q 115 [a0, a1, a2] (aI 2 :: st) I) : JX11_undo Q 114 [a0, a1, a2] st I := g_iconst (n := 2) dX11_undo_114 (by decide) k
theorem dX11_undo_115 : decode cX11_undo 115 = .ok (.iaload, 1) := by decide +kernel
theorem X11_undo_115 {Q : Int → z_M → Prop} {a0 a1 a2 : z_V} {q : Nat} {i : Int} {st : List z_V} {I : z_M} (hk : z_cl q = 20 := by first | assumption | rfl) (h0 : 0 ≤ i := by omega) (h1 : i < z_n q := by first | omega | (simp only [zn_1, zn_9, zn_10, zn_11, zn_12, zn_13, zn_14, zn_15, zn_16, zn_18, zn_20, zn_21, zn_22, zn_23, zn_24, zn_25, zn_26, zn_27, zn_29, zn_30, zn_53, zn_55, zn_56, zn_58, zn_59, zn_61, zn_62, zn_63, zn_64, zn_65, zn_66, zn_67, zn_68, zn_69, zn_70, zn_71, zn_72, zn_73]; omega)) (k : JX11_undo Q 116 [a0, a1, a2] (aI (I q i.toNat) :: st) I) : JX11_undo Q 115 [a0, a1, a2] (aI i :: aR q :: st) I := g_iald dX11_undo_115 hk h0 h1 k
theorem dX11_undo_116 : decode cX11_undo 116 = .ok (.ireturn, 1) := by decide +kernel
theorem X11_undo_116 {Q : Int → z_M → Prop} {a0 a1 a2 : z_V} {x : Int} {I : z_M} (hq : Q x I) : JX11_undo Q 116 [a0, a1, a2] [aI x] I := g_ireturn dX11_undo_116 ⟨x, rfl, hq⟩
theorem dX11_of_0 : decode cX11_of 0 = .ok (.aload_n 0, 1) := by decide +kernel
theorem X11_of_0 {Q : Int → z_M → Prop} {a1 a2 : z_V} {x : Nat} {st : List z_V} {I : z_M} (k : JX11_of Q 1 [aR x, a1, a2] (aR x :: st) I) : JX11_of Q 0 [aR x, a1, a2] st I := g_aload_n (i := 0) (x := x) dX11_of_0 rfl rfl k
theorem dX11_of_1 : decode cX11_of 1 = .ok (.iload_n 1, 1) := by decide +kernel
theorem X11_of_1 {Q : Int → z_M → Prop} {a0 a2 : z_V} {x : Int} {st : List z_V} {I : z_M} (k : JX11_of Q 2 [a0, aI x, a2] (aI x :: st) I) : JX11_of Q 1 [a0, aI x, a2] st I := g_iload_n (i := 1) (x := x) dX11_of_1 rfl rfl k
theorem dX11_of_2 : decode cX11_of 2 = .ok (.invokevirtual 164, 3) := by decide +kernel
theorem X11_of_2 {Q : Int → z_M → Prop} {a0 a1 a2 : z_V}  {x0 : Int} {st : List z_V} {I : z_M}  (hst : z_sw st ≤ 8 := by exact Nat.le_of_ble_eq_true rfl) (k : CX11_isPipe (aR 60 :: [aI x0]) I (fun x9 I9 => JX11_of Q 5 [a0, a1, a2] (aI x9 :: st) I9)) : JX11_of Q 2 [a0, a1, a2] (aI x0 :: aR 60 :: st) I := g_callV (C := RX11) (ci := 11) (As := [aI x0]) (n := 1) dX11_of_2 ⟨m_27_3, pdX11_isPipe, ⟨by decide, by decide⟩, rfl, rfl, by decide, by decide⟩ m_27_0 m_27_1 m_27_2 m_1_5 rfl rfl (by decide) rfl rfl hst k (fun r I9 h => by obtain ⟨x9, rfl, h⟩ := h; exact h)
theorem dX11_of_5 : decode cX11_of 5 = .ok (.ifCond .eq 15, 3) := by decide +kernel
theorem X11_of_5 {Q : Int → z_M → Prop} {a0 a1 a2 : z_V} {x : Int} {st : List z_V} {I : z_M} (kt : x = 0 → JX11_of Q 20 [a0, a1, a2] st I) (kf : x ≠ 0 → JX11_of Q 8 [a0, a1, a2] st I) : JX11_of Q 5 [a0, a1, a2] (aI x :: st) I := g_if_eq dX11_of_5 (by decide) kt kf
theorem dX11_of_8 : decode cX11_of 8 = .ok (.iload_n 2, 1) := by decide +kernel
theorem X11_of_8 {Q : Int → z_M → Prop} {a0 a1 : z_V} {x : Int} {st : List z_V} {I : z_M} (k : JX11_of Q 9 [a0, a1, aI x] (aI x :: st) I) : JX11_of Q 8 [a0, a1, aI x] st I := g_iload_n (i := 2) (x := x) dX11_of_8 rfl rfl k
theorem dX11_of_9 : decode cX11_of 9 = .ok (.i2l, 1) := by decide +kernel
theorem X11_of_9 {Q : Int → z_M → Prop} {a0 a1 a2 : z_V} {x : Int} {st : List z_V} {I : z_M} (k : JX11_of Q 10 [a0, a1, a2] (aL x :: st) I) : JX11_of Q 9 [a0, a1, a2] (aI x :: st) I := g_i2l dX11_of_9 k
theorem dX11_of_10 : decode cX11_of 10 = .ok (.lconst 0, 1) := by decide +kernel
theorem X11_of_10 {Q : Int → z_M → Prop} {a0 a1 a2 : z_V} {st : List z_V} {I : z_M} (k : JX11_of Q 11 [a0, a1, a2] (aL 0 :: st) I) : JX11_of Q 10 [a0, a1, a2] st I := g_lconst (v := 0) dX11_of_10 (by decide +kernel) (by decide) k
theorem dX11_of_11 : decode cX11_of 11 = .ok (.ldc2_w 170, 3) := by decide +kernel
theorem X11_of_11 {Q : Int → z_M → Prop} {a0 a1 a2 : z_V} {st : List z_V} {I : z_M} (k : JX11_of Q 14 [a0, a1, a2] (aL (4) :: st) I) : JX11_of Q 11 [a0, a1, a2] st I := g_ldc2 (n := 4) dX11_of_11 m_28_16 (by decide +kernel) (by decide) k
theorem dX11_of_14 : decode cX11_of 14 = .ok (.invokestatic 58, 3) := by decide +kernel
theorem X11_of_14 {Q : Int → z_M → Prop} {a0 a1 a2 : z_V} {x0 : Int} {x1 : Int} {x2 : Int} {st : List z_V} {I : z_M} (hst : z_sw st ≤ 8 := by exact Nat.le_of_ble_eq_true rfl) (k : CX11_in [aL x0, aL x1, aL x2] I (fun x9 I9 => JX11_of Q 17 [a0, a1, a2] (aI x9 :: st) I9)) : JX11_of Q 14 [a0, a1, a2] (aL x2 :: aL x1 :: aL x0 :: st) I := g_callS (As := [aL x0, aL x1, aL x2]) (n := 3) dX11_of_14 ⟨m_8_11, pdX11_in, ⟨by decide, by decide⟩, rfl, rfl, by decide, by decide⟩ m_8_9 m_8_10 m_1_5 rfl hst k (fun r I9 h => by obtain ⟨x9, rfl, h⟩ := h; exact h)
theorem dX11_of_17 : decode cX11_of 17 = .ok (.ifCond .ne 10, 3) := by decide +kernel
theorem X11_of_17 {Q : Int → z_M → Prop} {a0 a1 a2 : z_V} {x : Int} {st : List z_V} {I : z_M} (kt : x ≠ 0 → JX11_of Q 27 [a0, a1, a2] st I) (kf : x = 0 → JX11_of Q 20 [a0, a1, a2] st I) : JX11_of Q 17 [a0, a1, a2] (aI x :: st) I := g_if_ne dX11_of_17 (by decide) kt kf
theorem dX11_of_20 : decode cX11_of 20 = .ok (.aload_n 0, 1) := by decide +kernel
theorem X11_of_20 {Q : Int → z_M → Prop} {a1 a2 : z_V} {x : Nat} {st : List z_V} {I : z_M} (k : JX11_of Q 21 [aR x, a1, a2] (aR x :: st) I) : JX11_of Q 20 [aR x, a1, a2] st I := g_aload_n (i := 0) (x := x) dX11_of_20 rfl rfl k
theorem dX11_of_21 : decode cX11_of 21 = .ok (.bipush (-10), 2) := by decide +kernel
theorem X11_of_21 {Q : Int → z_M → Prop} {a0 a1 a2 : z_V} {st : List z_V} {I : z_M} (k : JX11_of Q 23 [a0, a1, a2] (aI (-10) :: st) I) : JX11_of Q 21 [a0, a1, a2] st I := g_bipush (n := (-10)) dX11_of_21 (by decide +kernel) (by decide) k
theorem dX11_of_23 : decode cX11_of 23 = .ok (.invokevirtual 85, 3) := by decide +kernel
theorem X11_of_23 {Q : Int → z_M → Prop} {a0 a1 a2 : z_V}  {x0 : Int} {st : List z_V} {I : z_M}  (hst : z_sw st ≤ 8 := by exact Nat.le_of_ble_eq_true rfl) (k : CX11_bad (aR 60 :: [aI x0]) I (fun x9 I9 => JX11_of Q 26 [a0, a1, a2] (aI x9 :: st) I9)) : JX11_of Q 23 [a0, a1, a2] (aI x0 :: aR 60 :: st) I := g_callV (C := RX11) (ci := 11) (As := [aI x0]) (n := 1) dX11_of_23 ⟨m_8_15, pdX11_bad, ⟨by decide, by decide⟩, rfl, rfl, by decide, by decide⟩ m_8_12 m_8_13 m_8_14 m_1_5 rfl rfl (by decide) rfl rfl hst k (fun r I9 h => by obtain ⟨x9, rfl, h⟩ := h; exact h)
theorem dX11_of_26 : decode cX11_of 26 = .ok (.ireturn, 1) := by decide +kernel
theorem X11_of_26 {Q : Int → z_M → Prop} {a0 a1 a2 : z_V} {x : Int} {I : z_M} (hq : Q x I) : JX11_of Q 26 [a0, a1, a2] [aI x] I := g_ireturn dX11_of_26 ⟨x, rfl, hq⟩
theorem dX11_of_27 : decode cX11_of 27 = .ok (.aload_n 0, 1) := by decide +kernel
theorem X11_of_27 {Q : Int → z_M → Prop} {a1 a2 : z_V} {x : Nat} {st : List z_V} {I : z_M} (k : JX11_of Q 28 [aR x, a1, a2] (aR x :: st) I) : JX11_of Q 27 [aR x, a1, a2] st I := g_aload_n (i := 0) (x := x) dX11_of_27 rfl rfl k
theorem dX11_of_28 : decode cX11_of 28 = .ok (.invokevirtual 152, 3) := by decide +kernel
theorem X11_of_28 {Q : Int → z_M → Prop} {a0 a1 a2 : z_V}   {st : List z_V} {I : z_M}  (hst : z_sw st ≤ 8 := by exact Nat.le_of_ble_eq_true rfl) (k : CX11_layHand (aR 60 :: []) I (fun I9 => JX11_of Q 31 [a0, a1, a2] st I9)) : JX11_of Q 28 [a0, a1, a2] (aR 60 :: st) I := g_callV (C := RX11) (ci := 11) (As := []) (n := 0) dX11_of_28 ⟨m_24_4, pdX11_layHand, ⟨by decide, by decide⟩, rfl, rfl, by decide, by decide⟩ m_24_1 m_24_2 m_24_3 m_1_5 rfl rfl (by decide) rfl rfl hst k (fun r I9 h => by obtain ⟨rfl, h⟩ := h; exact h)
theorem dX11_of_31 : decode cX11_of 31 = .ok (.iload_n 2, 1) := by decide +kernel
theorem X11_of_31 {Q : Int → z_M → Prop} {a0 a1 : z_V} {x : Int} {st : List z_V} {I : z_M} (k : JX11_of Q 32 [a0, a1, aI x] (aI x :: st) I) : JX11_of Q 31 [a0, a1, aI x] st I := g_iload_n (i := 2) (x := x) dX11_of_31 rfl rfl k
theorem dX11_of_32 : decode cX11_of 32 = .ok (.iconst 4, 1) := by decide +kernel
theorem X11_of_32 {Q : Int → z_M → Prop} {a0 a1 a2 : z_V} {st : List z_V} {I : z_M} (k : JX11_of Q 33 [a0, a1, a2] (aI 4 :: st) I) : JX11_of Q 32 [a0, a1, a2] st I := g_iconst (n := 4) dX11_of_32 (by decide) k
theorem dX11_of_33 : decode cX11_of 33 = .ok (.if_icmp .ge 12, 3) := by decide +kernel
theorem X11_of_33 {Q : Int → z_M → Prop} {a0 a1 a2 : z_V} {x y : Int} {st : List z_V} {I : z_M} (kt : y ≤ x → JX11_of Q 45 [a0, a1, a2] st I) (kf : x < y → JX11_of Q 36 [a0, a1, a2] st I) : JX11_of Q 33 [a0, a1, a2] (aI y :: aI x :: st) I := g_icmp_ge dX11_of_33 (by decide) kt kf
theorem dX11_of_36 : decode cX11_of 36 = .ok (.aload_n 0, 1) := by decide +kernel
theorem X11_of_36 {Q : Int → z_M → Prop} {a1 a2 : z_V} {x : Nat} {st : List z_V} {I : z_M} (k : JX11_of Q 37 [aR x, a1, a2] (aR x :: st) I) : JX11_of Q 36 [aR x, a1, a2] st I := g_aload_n (i := 0) (x := x) dX11_of_36 rfl rfl k
theorem dX11_of_37 : decode cX11_of 37 = .ok (.iload_n 1, 1) := by decide +kernel
theorem X11_of_37 {Q : Int → z_M → Prop} {a0 a2 : z_V} {x : Int} {st : List z_V} {I : z_M} (k : JX11_of Q 38 [a0, aI x, a2] (aI x :: st) I) : JX11_of Q 37 [a0, aI x, a2] st I := g_iload_n (i := 1) (x := x) dX11_of_37 rfl rfl k
theorem dX11_of_38 : decode cX11_of 38 = .ok (.iload_n 2, 1) := by decide +kernel
theorem X11_of_38 {Q : Int → z_M → Prop} {a0 a1 : z_V} {x : Int} {st : List z_V} {I : z_M} (k : JX11_of Q 39 [a0, a1, aI x] (aI x :: st) I) : JX11_of Q 38 [a0, a1, aI x] st I := g_iload_n (i := 2) (x := x) dX11_of_38 rfl rfl k
theorem dX11_of_39 : decode cX11_of 39 = .ok (.invokevirtual 115, 3) := by decide +kernel
theorem X11_of_39 {Q : Int → z_M → Prop} {a0 a1 a2 : z_V}  {x0 : Int} {x1 : Int} {st : List z_V} {I : z_M}  (hst : z_sw st ≤ 8 := by exact Nat.le_of_ble_eq_true rfl) (k : CX11_pipeHas (aR 60 :: [aI x0, aI x1]) I (fun x9 I9 => JX11_of Q 42 [a0, a1, a2] (aI x9 :: st) I9)) : JX11_of Q 39 [a0, a1, a2] (aI x1 :: aI x0 :: aR 60 :: st) I := g_callV (C := RX11) (ci := 11) (As := [aI x0, aI x1]) (n := 2) dX11_of_39 ⟨m_24_0, pdX11_pipeHas, ⟨by decide, by decide⟩, rfl, rfl, by decide, by decide⟩ m_23_21 m_23_22 m_23_23 m_1_5 rfl rfl (by decide) rfl rfl hst k (fun r I9 h => by obtain ⟨x9, rfl, h⟩ := h; exact h)
theorem dX11_of_42 : decode cX11_of 42 = .ok (.goto 16, 3) := by decide +kernel
theorem X11_of_42 {Q : Int → z_M → Prop} {a0 a1 a2 : z_V} {st : List z_V} {I : z_M} (k : JX11_of Q 58 [a0, a1, a2] st I) : JX11_of Q 42 [a0, a1, a2] st I := g_goto dX11_of_42 (by decide) k
theorem dX11_of_45 : decode cX11_of 45 = .ok (.aload_n 0, 1) := by decide +kernel
theorem X11_of_45 {Q : Int → z_M → Prop} {a1 a2 : z_V} {x : Nat} {st : List z_V} {I : z_M} (k : JX11_of Q 46 [aR x, a1, a2] (aR x :: st) I) : JX11_of Q 45 [aR x, a1, a2] st I := g_aload_n (i := 0) (x := x) dX11_of_45 rfl rfl k
theorem dX11_of_46 : decode cX11_of 46 = .ok (.iload_n 1, 1) := by decide +kernel
theorem X11_of_46 {Q : Int → z_M → Prop} {a0 a2 : z_V} {x : Int} {st : List z_V} {I : z_M} (k : JX11_of Q 47 [a0, aI x, a2] (aI x :: st) I) : JX11_of Q 46 [a0, aI x, a2] st I := g_iload_n (i := 1) (x := x) dX11_of_46 rfl rfl k
theorem dX11_of_47 : decode cX11_of 47 = .ok (.invokevirtual 138, 3) := by decide +kernel
theorem X11_of_47 {Q : Int → z_M → Prop} {a0 a1 a2 : z_V}  {x0 : Int} {st : List z_V} {I : z_M}  (hst : z_sw st ≤ 8 := by exact Nat.le_of_ble_eq_true rfl) (k : CX11_goes (aR 60 :: [aI x0]) I (fun x9 I9 => JX11_of Q 50 [a0, a1, a2] (aI x9 :: st) I9)) : JX11_of Q 47 [a0, a1, a2] (aI x0 :: aR 60 :: st) I := g_callV (C := RX11) (ci := 11) (As := [aI x0]) (n := 1) dX11_of_47 ⟨m_25_1, pdX11_goes, ⟨by decide, by decide⟩, rfl, rfl, by decide, by decide⟩ m_24_22 m_24_23 m_25_0 m_1_5 rfl rfl (by decide) rfl rfl hst k (fun r I9 h => by obtain ⟨x9, rfl, h⟩ := h; exact h)
theorem dX11_of_50 : decode cX11_of 50 = .ok (.ifCond .eq 7, 3) := by decide +kernel
theorem X11_of_50 {Q : Int → z_M → Prop} {a0 a1 a2 : z_V} {x : Int} {st : List z_V} {I : z_M} (kt : x = 0 → JX11_of Q 57 [a0, a1, a2] st I) (kf : x ≠ 0 → JX11_of Q 53 [a0, a1, a2] st I) : JX11_of Q 50 [a0, a1, a2] (aI x :: st) I := g_if_eq dX11_of_50 (by decide) kt kf
theorem dX11_of_53 : decode cX11_of 53 = .ok (.iconst 1, 1) := by decide +kernel
theorem X11_of_53 {Q : Int → z_M → Prop} {a0 a1 a2 : z_V} {st : List z_V} {I : z_M} (k : JX11_of Q 54 [a0, a1, a2] (aI 1 :: st) I) : JX11_of Q 53 [a0, a1, a2] st I := g_iconst (n := 1) dX11_of_53 (by decide) k
theorem dX11_of_54 : decode cX11_of 54 = .ok (.goto 4, 3) := by decide +kernel
theorem X11_of_54 {Q : Int → z_M → Prop} {a0 a1 a2 : z_V} {st : List z_V} {I : z_M} (k : JX11_of Q 58 [a0, a1, a2] st I) : JX11_of Q 54 [a0, a1, a2] st I := g_goto dX11_of_54 (by decide) k
theorem dX11_of_57 : decode cX11_of 57 = .ok (.iconst 0, 1) := by decide +kernel
theorem X11_of_57 {Q : Int → z_M → Prop} {a0 a1 a2 : z_V} {st : List z_V} {I : z_M} (k : JX11_of Q 58 [a0, a1, a2] (aI 0 :: st) I) : JX11_of Q 57 [a0, a1, a2] st I := g_iconst (n := 0) dX11_of_57 (by decide) k
theorem dX11_of_58 : decode cX11_of 58 = .ok (.ireturn, 1) := by decide +kernel
theorem X11_of_58 {Q : Int → z_M → Prop} {a0 a1 a2 : z_V} {x : Int} {I : z_M} (hq : Q x I) : JX11_of Q 58 [a0, a1, a2] [aI x] I := g_ireturn dX11_of_58 ⟨x, rfl, hq⟩
theorem dX11_farOf_0 : decode cX11_farOf 0 = .ok (.aload_n 0, 1) := by decide +kernel
theorem X11_farOf_0 {Q : Int → z_M → Prop} {a1 : z_V} {x : Nat} {st : List z_V} {I : z_M} (k : JX11_farOf Q 1 [aR x, a1] (aR x :: st) I) : JX11_farOf Q 0 [aR x, a1] st I := g_aload_n (i := 0) (x := x) dX11_farOf_0 rfl rfl k
theorem dX11_farOf_1 : decode cX11_farOf 1 = .ok (.iload_n 1, 1) := by decide +kernel
theorem X11_farOf_1 {Q : Int → z_M → Prop} {a0 : z_V} {x : Int} {st : List z_V} {I : z_M} (k : JX11_farOf Q 2 [a0, aI x] (aI x :: st) I) : JX11_farOf Q 1 [a0, aI x] st I := g_iload_n (i := 1) (x := x) dX11_farOf_1 rfl rfl k
theorem dX11_farOf_2 : decode cX11_farOf 2 = .ok (.iconst 3, 1) := by decide +kernel
theorem X11_farOf_2 {Q : Int → z_M → Prop} {a0 a1 : z_V} {st : List z_V} {I : z_M} (k : JX11_farOf Q 3 [a0, a1] (aI 3 :: st) I) : JX11_farOf Q 2 [a0, a1] st I := g_iconst (n := 3) dX11_farOf_2 (by decide) k
theorem dX11_farOf_3 : decode cX11_farOf 3 = .ok (.invokevirtual 119, 3) := by decide +kernel
theorem X11_farOf_3 {Q : Int → z_M → Prop} {a0 a1 : z_V}  {x0 : Int} {x1 : Int} {st : List z_V} {I : z_M}  (hst : z_sw st ≤ 8 := by exact Nat.le_of_ble_eq_true rfl) (k : CX11_placeHas (aR 60 :: [aI x0, aI x1]) I (fun x9 I9 => JX11_farOf Q 6 [a0, a1] (aI x9 :: st) I9)) : JX11_farOf Q 3 [a0, a1] (aI x1 :: aI x0 :: aR 60 :: st) I := g_callV (C := RX11) (ci := 11) (As := [aI x0, aI x1]) (n := 2) dX11_farOf_3 ⟨m_24_9, pdX11_placeHas, ⟨by decide, by decide⟩, rfl, rfl, by decide, by decide⟩ m_24_6 m_24_7 m_24_8 m_1_5 rfl rfl (by decide) rfl rfl hst k (fun r I9 h => by obtain ⟨x9, rfl, h⟩ := h; exact h)
theorem dX11_farOf_6 : decode cX11_farOf 6 = .ok (.aload_n 0, 1) := by decide +kernel
theorem X11_farOf_6 {Q : Int → z_M → Prop} {a1 : z_V} {x : Nat} {st : List z_V} {I : z_M} (k : JX11_farOf Q 7 [aR x, a1] (aR x :: st) I) : JX11_farOf Q 6 [aR x, a1] st I := g_aload_n (i := 0) (x := x) dX11_farOf_6 rfl rfl k
theorem dX11_farOf_7 : decode cX11_farOf 7 = .ok (.iload_n 1, 1) := by decide +kernel
theorem X11_farOf_7 {Q : Int → z_M → Prop} {a0 : z_V} {x : Int} {st : List z_V} {I : z_M} (k : JX11_farOf Q 8 [a0, aI x] (aI x :: st) I) : JX11_farOf Q 7 [a0, aI x] st I := g_iload_n (i := 1) (x := x) dX11_farOf_7 rfl rfl k
theorem dX11_farOf_8 : decode cX11_farOf 8 = .ok (.iconst 4, 1) := by decide +kernel
theorem X11_farOf_8 {Q : Int → z_M → Prop} {a0 a1 : z_V} {st : List z_V} {I : z_M} (k : JX11_farOf Q 9 [a0, a1] (aI 4 :: st) I) : JX11_farOf Q 8 [a0, a1] st I := g_iconst (n := 4) dX11_farOf_8 (by decide) k
theorem dX11_farOf_9 : decode cX11_farOf 9 = .ok (.invokevirtual 119, 3) := by decide +kernel
theorem X11_farOf_9 {Q : Int → z_M → Prop} {a0 a1 : z_V}  {x0 : Int} {x1 : Int} {st : List z_V} {I : z_M}  (hst : z_sw st ≤ 8 := by exact Nat.le_of_ble_eq_true rfl) (k : CX11_placeHas (aR 60 :: [aI x0, aI x1]) I (fun x9 I9 => JX11_farOf Q 12 [a0, a1] (aI x9 :: st) I9)) : JX11_farOf Q 9 [a0, a1] (aI x1 :: aI x0 :: aR 60 :: st) I := g_callV (C := RX11) (ci := 11) (As := [aI x0, aI x1]) (n := 2) dX11_farOf_9 ⟨m_24_9, pdX11_placeHas, ⟨by decide, by decide⟩, rfl, rfl, by decide, by decide⟩ m_24_6 m_24_7 m_24_8 m_1_5 rfl rfl (by decide) rfl rfl hst k (fun r I9 h => by obtain ⟨x9, rfl, h⟩ := h; exact h)
theorem dX11_farOf_12 : decode cX11_farOf 12 = .ok (.iadd, 1) := by decide +kernel
theorem X11_farOf_12 {Q : Int → z_M → Prop} {a0 a1 : z_V} {x y : Int} {st : List z_V} {I : z_M} (hr : inI (x + y) := by omega) (k : JX11_farOf Q 13 [a0, a1] (aI (x + y) :: st) I) : JX11_farOf Q 12 [a0, a1] (aI y :: aI x :: st) I := g_iadd dX11_farOf_12 hr k
theorem X11_farOf_12w {Q : Int → z_M → Prop} {a0 a1 : z_V} {x y : Int} {st : List z_V} {I : z_M} (k : JX11_farOf Q 13 [a0, a1] (aI (i32 (x + y)) :: st) I) : JX11_farOf Q 12 [a0, a1] (aI y :: aI x :: st) I := g_iaddw dX11_farOf_12 k
theorem dX11_farOf_13 : decode cX11_farOf 13 = .ok (.ireturn, 1) := by decide +kernel
theorem X11_farOf_13 {Q : Int → z_M → Prop} {a0 a1 : z_V} {x : Int} {I : z_M} (hq : Q x I) : JX11_farOf Q 13 [a0, a1] [aI x] I := g_ireturn dX11_farOf_13 ⟨x, rfl, hq⟩
theorem dX11_at_0 : decode cX11_at 0 = .ok (.aload_n 0, 1) := by decide +kernel
theorem X11_at_0 {Q : Int → z_M → Prop} {a1 a2 a3 a4 : z_V} {x : Nat} {st : List z_V} {I : z_M} (k : JX11_at Q 1 [aR x, a1, a2, a3, a4] (aR x :: st) I) : JX11_at Q 0 [aR x, a1, a2, a3, a4] st I := g_aload_n (i := 0) (x := x) dX11_at_0 rfl rfl k
theorem dX11_at_1 : decode cX11_at 1 = .ok (.iload_n 1, 1) := by decide +kernel
theorem X11_at_1 {Q : Int → z_M → Prop} {a0 a2 a3 a4 : z_V} {x : Int} {st : List z_V} {I : z_M} (k : JX11_at Q 2 [a0, aI x, a2, a3, a4] (aI x :: st) I) : JX11_at Q 1 [a0, aI x, a2, a3, a4] st I := g_iload_n (i := 1) (x := x) dX11_at_1 rfl rfl k
theorem dX11_at_2 : decode cX11_at 2 = .ok (.invokevirtual 172, 3) := by decide +kernel
theorem X11_at_2 {Q : Int → z_M → Prop} {a0 a1 a2 a3 a4 : z_V}  {x0 : Int} {st : List z_V} {I : z_M}  (hst : z_sw st ≤ 8 := by exact Nat.le_of_ble_eq_true rfl) (k : CX11_isPlace (aR 60 :: [aI x0]) I (fun x9 I9 => JX11_at Q 5 [a0, a1, a2, a3, a4] (aI x9 :: st) I9)) : JX11_at Q 2 [a0, a1, a2, a3, a4] (aI x0 :: aR 60 :: st) I := g_callV (C := RX11) (ci := 11) (As := [aI x0]) (n := 1) dX11_at_2 ⟨m_30_4, pdX11_isPlace, ⟨by decide, by decide⟩, rfl, rfl, by decide, by decide⟩ m_30_1 m_30_2 m_30_3 m_1_5 rfl rfl (by decide) rfl rfl hst k (fun r I9 h => by obtain ⟨x9, rfl, h⟩ := h; exact h)
theorem dX11_at_5 : decode cX11_at 5 = .ok (.ifCond .eq 15, 3) := by decide +kernel
theorem X11_at_5 {Q : Int → z_M → Prop} {a0 a1 a2 a3 a4 : z_V} {x : Int} {st : List z_V} {I : z_M} (kt : x = 0 → JX11_at Q 20 [a0, a1, a2, a3, a4] st I) (kf : x ≠ 0 → JX11_at Q 8 [a0, a1, a2, a3, a4] st I) : JX11_at Q 5 [a0, a1, a2, a3, a4] (aI x :: st) I := g_if_eq dX11_at_5 (by decide) kt kf
theorem dX11_at_8 : decode cX11_at 8 = .ok (.iload_n 2, 1) := by decide +kernel
theorem X11_at_8 {Q : Int → z_M → Prop} {a0 a1 a3 a4 : z_V} {x : Int} {st : List z_V} {I : z_M} (k : JX11_at Q 9 [a0, a1, aI x, a3, a4] (aI x :: st) I) : JX11_at Q 8 [a0, a1, aI x, a3, a4] st I := g_iload_n (i := 2) (x := x) dX11_at_8 rfl rfl k
theorem dX11_at_9 : decode cX11_at 9 = .ok (.i2l, 1) := by decide +kernel
theorem X11_at_9 {Q : Int → z_M → Prop} {a0 a1 a2 a3 a4 : z_V} {x : Int} {st : List z_V} {I : z_M} (k : JX11_at Q 10 [a0, a1, a2, a3, a4] (aL x :: st) I) : JX11_at Q 9 [a0, a1, a2, a3, a4] (aI x :: st) I := g_i2l dX11_at_9 k
theorem dX11_at_10 : decode cX11_at 10 = .ok (.lconst 0, 1) := by decide +kernel
theorem X11_at_10 {Q : Int → z_M → Prop} {a0 a1 a2 a3 a4 : z_V} {st : List z_V} {I : z_M} (k : JX11_at Q 11 [a0, a1, a2, a3, a4] (aL 0 :: st) I) : JX11_at Q 10 [a0, a1, a2, a3, a4] st I := g_lconst (v := 0) dX11_at_10 (by decide +kernel) (by decide) k
theorem dX11_at_11 : decode cX11_at 11 = .ok (.ldc2_w 175, 3) := by decide +kernel
theorem X11_at_11 {Q : Int → z_M → Prop} {a0 a1 a2 a3 a4 : z_V} {st : List z_V} {I : z_M} (k : JX11_at Q 14 [a0, a1, a2, a3, a4] (aL (3) :: st) I) : JX11_at Q 11 [a0, a1, a2, a3, a4] st I := g_ldc2 (n := 3) dX11_at_11 m_30_0 (by decide +kernel) (by decide) k
theorem dX11_at_14 : decode cX11_at 14 = .ok (.invokestatic 58, 3) := by decide +kernel
theorem X11_at_14 {Q : Int → z_M → Prop} {a0 a1 a2 a3 a4 : z_V} {x0 : Int} {x1 : Int} {x2 : Int} {st : List z_V} {I : z_M} (hst : z_sw st ≤ 8 := by exact Nat.le_of_ble_eq_true rfl) (k : CX11_in [aL x0, aL x1, aL x2] I (fun x9 I9 => JX11_at Q 17 [a0, a1, a2, a3, a4] (aI x9 :: st) I9)) : JX11_at Q 14 [a0, a1, a2, a3, a4] (aL x2 :: aL x1 :: aL x0 :: st) I := g_callS (As := [aL x0, aL x1, aL x2]) (n := 3) dX11_at_14 ⟨m_8_11, pdX11_in, ⟨by decide, by decide⟩, rfl, rfl, by decide, by decide⟩ m_8_9 m_8_10 m_1_5 rfl hst k (fun r I9 h => by obtain ⟨x9, rfl, h⟩ := h; exact h)
theorem dX11_at_17 : decode cX11_at 17 = .ok (.ifCond .ne 10, 3) := by decide +kernel
theorem X11_at_17 {Q : Int → z_M → Prop} {a0 a1 a2 a3 a4 : z_V} {x : Int} {st : List z_V} {I : z_M} (kt : x ≠ 0 → JX11_at Q 27 [a0, a1, a2, a3, a4] st I) (kf : x = 0 → JX11_at Q 20 [a0, a1, a2, a3, a4] st I) : JX11_at Q 17 [a0, a1, a2, a3, a4] (aI x :: st) I := g_if_ne dX11_at_17 (by decide) kt kf
theorem dX11_at_20 : decode cX11_at 20 = .ok (.aload_n 0, 1) := by decide +kernel
theorem X11_at_20 {Q : Int → z_M → Prop} {a1 a2 a3 a4 : z_V} {x : Nat} {st : List z_V} {I : z_M} (k : JX11_at Q 21 [aR x, a1, a2, a3, a4] (aR x :: st) I) : JX11_at Q 20 [aR x, a1, a2, a3, a4] st I := g_aload_n (i := 0) (x := x) dX11_at_20 rfl rfl k
theorem dX11_at_21 : decode cX11_at 21 = .ok (.bipush (-2), 2) := by decide +kernel
theorem X11_at_21 {Q : Int → z_M → Prop} {a0 a1 a2 a3 a4 : z_V} {st : List z_V} {I : z_M} (k : JX11_at Q 23 [a0, a1, a2, a3, a4] (aI (-2) :: st) I) : JX11_at Q 21 [a0, a1, a2, a3, a4] st I := g_bipush (n := (-2)) dX11_at_21 (by decide +kernel) (by decide) k
theorem dX11_at_23 : decode cX11_at 23 = .ok (.invokevirtual 85, 3) := by decide +kernel
theorem X11_at_23 {Q : Int → z_M → Prop} {a0 a1 a2 a3 a4 : z_V}  {x0 : Int} {st : List z_V} {I : z_M}  (hst : z_sw st ≤ 8 := by exact Nat.le_of_ble_eq_true rfl) (k : CX11_bad (aR 60 :: [aI x0]) I (fun x9 I9 => JX11_at Q 26 [a0, a1, a2, a3, a4] (aI x9 :: st) I9)) : JX11_at Q 23 [a0, a1, a2, a3, a4] (aI x0 :: aR 60 :: st) I := g_callV (C := RX11) (ci := 11) (As := [aI x0]) (n := 1) dX11_at_23 ⟨m_8_15, pdX11_bad, ⟨by decide, by decide⟩, rfl, rfl, by decide, by decide⟩ m_8_12 m_8_13 m_8_14 m_1_5 rfl rfl (by decide) rfl rfl hst k (fun r I9 h => by obtain ⟨x9, rfl, h⟩ := h; exact h)
theorem dX11_at_26 : decode cX11_at 26 = .ok (.ireturn, 1) := by decide +kernel
theorem X11_at_26 {Q : Int → z_M → Prop} {a0 a1 a2 a3 a4 : z_V} {x : Int} {I : z_M} (hq : Q x I) : JX11_at Q 26 [a0, a1, a2, a3, a4] [aI x] I := g_ireturn dX11_at_26 ⟨x, rfl, hq⟩
theorem dX11_at_27 : decode cX11_at 27 = .ok (.aload_n 0, 1) := by decide +kernel
theorem X11_at_27 {Q : Int → z_M → Prop} {a1 a2 a3 a4 : z_V} {x : Nat} {st : List z_V} {I : z_M} (k : JX11_at Q 28 [aR x, a1, a2, a3, a4] (aR x :: st) I) : JX11_at Q 27 [aR x, a1, a2, a3, a4] st I := g_aload_n (i := 0) (x := x) dX11_at_27 rfl rfl k
theorem dX11_at_28 : decode cX11_at 28 = .ok (.invokevirtual 152, 3) := by decide +kernel
theorem X11_at_28 {Q : Int → z_M → Prop} {a0 a1 a2 a3 a4 : z_V}   {st : List z_V} {I : z_M}  (hst : z_sw st ≤ 8 := by exact Nat.le_of_ble_eq_true rfl) (k : CX11_layHand (aR 60 :: []) I (fun I9 => JX11_at Q 31 [a0, a1, a2, a3, a4] st I9)) : JX11_at Q 28 [a0, a1, a2, a3, a4] (aR 60 :: st) I := g_callV (C := RX11) (ci := 11) (As := []) (n := 0) dX11_at_28 ⟨m_24_4, pdX11_layHand, ⟨by decide, by decide⟩, rfl, rfl, by decide, by decide⟩ m_24_1 m_24_2 m_24_3 m_1_5 rfl rfl (by decide) rfl rfl hst k (fun r I9 h => by obtain ⟨rfl, h⟩ := h; exact h)
theorem dX11_at_31 : decode cX11_at 31 = .ok (.iload_n 2, 1) := by decide +kernel
theorem X11_at_31 {Q : Int → z_M → Prop} {a0 a1 a3 a4 : z_V} {x : Int} {st : List z_V} {I : z_M} (k : JX11_at Q 32 [a0, a1, aI x, a3, a4] (aI x :: st) I) : JX11_at Q 31 [a0, a1, aI x, a3, a4] st I := g_iload_n (i := 2) (x := x) dX11_at_31 rfl rfl k
theorem dX11_at_32 : decode cX11_at 32 = .ok (.ifCond .ne 10, 3) := by decide +kernel
theorem X11_at_32 {Q : Int → z_M → Prop} {a0 a1 a2 a3 a4 : z_V} {x : Int} {st : List z_V} {I : z_M} (kt : x ≠ 0 → JX11_at Q 42 [a0, a1, a2, a3, a4] st I) (kf : x = 0 → JX11_at Q 35 [a0, a1, a2, a3, a4] st I) : JX11_at Q 32 [a0, a1, a2, a3, a4] (aI x :: st) I := g_if_ne dX11_at_32 (by decide) kt kf
theorem dX11_at_35 : decode cX11_at 35 = .ok (.aload_n 0, 1) := by decide +kernel
theorem X11_at_35 {Q : Int → z_M → Prop} {a1 a2 a3 a4 : z_V} {x : Nat} {st : List z_V} {I : z_M} (k : JX11_at Q 36 [aR x, a1, a2, a3, a4] (aR x :: st) I) : JX11_at Q 35 [aR x, a1, a2, a3, a4] st I := g_aload_n (i := 0) (x := x) dX11_at_35 rfl rfl k
theorem dX11_at_36 : decode cX11_at 36 = .ok (.iload_n 1, 1) := by decide +kernel
theorem X11_at_36 {Q : Int → z_M → Prop} {a0 a2 a3 a4 : z_V} {x : Int} {st : List z_V} {I : z_M} (k : JX11_at Q 37 [a0, aI x, a2, a3, a4] (aI x :: st) I) : JX11_at Q 36 [a0, aI x, a2, a3, a4] st I := g_iload_n (i := 1) (x := x) dX11_at_36 rfl rfl k
theorem dX11_at_37 : decode cX11_at 37 = .ok (.iconst 0, 1) := by decide +kernel
theorem X11_at_37 {Q : Int → z_M → Prop} {a0 a1 a2 a3 a4 : z_V} {st : List z_V} {I : z_M} (k : JX11_at Q 38 [a0, a1, a2, a3, a4] (aI 0 :: st) I) : JX11_at Q 37 [a0, a1, a2, a3, a4] st I := g_iconst (n := 0) dX11_at_37 (by decide) k
theorem dX11_at_38 : decode cX11_at 38 = .ok (.invokevirtual 119, 3) := by decide +kernel
theorem X11_at_38 {Q : Int → z_M → Prop} {a0 a1 a2 a3 a4 : z_V}  {x0 : Int} {x1 : Int} {st : List z_V} {I : z_M}  (hst : z_sw st ≤ 8 := by exact Nat.le_of_ble_eq_true rfl) (k : CX11_placeHas (aR 60 :: [aI x0, aI x1]) I (fun x9 I9 => JX11_at Q 41 [a0, a1, a2, a3, a4] (aI x9 :: st) I9)) : JX11_at Q 38 [a0, a1, a2, a3, a4] (aI x1 :: aI x0 :: aR 60 :: st) I := g_callV (C := RX11) (ci := 11) (As := [aI x0, aI x1]) (n := 2) dX11_at_38 ⟨m_24_9, pdX11_placeHas, ⟨by decide, by decide⟩, rfl, rfl, by decide, by decide⟩ m_24_6 m_24_7 m_24_8 m_1_5 rfl rfl (by decide) rfl rfl hst k (fun r I9 h => by obtain ⟨x9, rfl, h⟩ := h; exact h)
theorem dX11_at_41 : decode cX11_at 41 = .ok (.ireturn, 1) := by decide +kernel
theorem X11_at_41 {Q : Int → z_M → Prop} {a0 a1 a2 a3 a4 : z_V} {x : Int} {I : z_M} (hq : Q x I) : JX11_at Q 41 [a0, a1, a2, a3, a4] [aI x] I := g_ireturn dX11_at_41 ⟨x, rfl, hq⟩
theorem dX11_at_42 : decode cX11_at 42 = .ok (.iload_n 2, 1) := by decide +kernel
theorem X11_at_42 {Q : Int → z_M → Prop} {a0 a1 a3 a4 : z_V} {x : Int} {st : List z_V} {I : z_M} (k : JX11_at Q 43 [a0, a1, aI x, a3, a4] (aI x :: st) I) : JX11_at Q 42 [a0, a1, aI x, a3, a4] st I := g_iload_n (i := 2) (x := x) dX11_at_42 rfl rfl k
theorem dX11_at_43 : decode cX11_at 43 = .ok (.iconst 1, 1) := by decide +kernel
theorem X11_at_43 {Q : Int → z_M → Prop} {a0 a1 a2 a3 a4 : z_V} {st : List z_V} {I : z_M} (k : JX11_at Q 44 [a0, a1, a2, a3, a4] (aI 1 :: st) I) : JX11_at Q 43 [a0, a1, a2, a3, a4] st I := g_iconst (n := 1) dX11_at_43 (by decide) k
theorem dX11_at_44 : decode cX11_at 44 = .ok (.if_icmp .ne 17, 3) := by decide +kernel
theorem X11_at_44 {Q : Int → z_M → Prop} {a0 a1 a2 a3 a4 : z_V} {x y : Int} {st : List z_V} {I : z_M} (kt : x ≠ y → JX11_at Q 61 [a0, a1, a2, a3, a4] st I) (kf : x = y → JX11_at Q 47 [a0, a1, a2, a3, a4] st I) : JX11_at Q 44 [a0, a1, a2, a3, a4] (aI y :: aI x :: st) I := g_icmp_ne dX11_at_44 (by decide) kt kf
theorem dX11_at_47 : decode cX11_at 47 = .ok (.aload_n 0, 1) := by decide +kernel
theorem X11_at_47 {Q : Int → z_M → Prop} {a1 a2 a3 a4 : z_V} {x : Nat} {st : List z_V} {I : z_M} (k : JX11_at Q 48 [aR x, a1, a2, a3, a4] (aR x :: st) I) : JX11_at Q 47 [aR x, a1, a2, a3, a4] st I := g_aload_n (i := 0) (x := x) dX11_at_47 rfl rfl k
theorem dX11_at_48 : decode cX11_at 48 = .ok (.iload_n 1, 1) := by decide +kernel
theorem X11_at_48 {Q : Int → z_M → Prop} {a0 a2 a3 a4 : z_V} {x : Int} {st : List z_V} {I : z_M} (k : JX11_at Q 49 [a0, aI x, a2, a3, a4] (aI x :: st) I) : JX11_at Q 48 [a0, aI x, a2, a3, a4] st I := g_iload_n (i := 1) (x := x) dX11_at_48 rfl rfl k
theorem dX11_at_49 : decode cX11_at 49 = .ok (.invokevirtual 129, 3) := by decide +kernel
theorem X11_at_49 {Q : Int → z_M → Prop} {a0 a1 a2 a3 a4 : z_V}  {x0 : Int} {st : List z_V} {I : z_M}  (hst : z_sw st ≤ 8 := by exact Nat.le_of_ble_eq_true rfl) (k : CX11_isWished (aR 60 :: [aI x0]) I (fun x9 I9 => JX11_at Q 52 [a0, a1, a2, a3, a4] (aI x9 :: st) I9)) : JX11_at Q 49 [a0, a1, a2, a3, a4] (aI x0 :: aR 60 :: st) I := g_callV (C := RX11) (ci := 11) (As := [aI x0]) (n := 1) dX11_at_49 ⟨m_24_21, pdX11_isWished, ⟨by decide, by decide⟩, rfl, rfl, by decide, by decide⟩ m_24_18 m_24_19 m_24_20 m_1_5 rfl rfl (by decide) rfl rfl hst k (fun r I9 h => by obtain ⟨x9, rfl, h⟩ := h; exact h)
theorem dX11_at_52 : decode cX11_at 52 = .ok (.ifCond .eq 7, 3) := by decide +kernel
theorem X11_at_52 {Q : Int → z_M → Prop} {a0 a1 a2 a3 a4 : z_V} {x : Int} {st : List z_V} {I : z_M} (kt : x = 0 → JX11_at Q 59 [a0, a1, a2, a3, a4] st I) (kf : x ≠ 0 → JX11_at Q 55 [a0, a1, a2, a3, a4] st I) : JX11_at Q 52 [a0, a1, a2, a3, a4] (aI x :: st) I := g_if_eq dX11_at_52 (by decide) kt kf
theorem dX11_at_55 : decode cX11_at 55 = .ok (.iconst 1, 1) := by decide +kernel
theorem X11_at_55 {Q : Int → z_M → Prop} {a0 a1 a2 a3 a4 : z_V} {st : List z_V} {I : z_M} (k : JX11_at Q 56 [a0, a1, a2, a3, a4] (aI 1 :: st) I) : JX11_at Q 55 [a0, a1, a2, a3, a4] st I := g_iconst (n := 1) dX11_at_55 (by decide) k
theorem dX11_at_56 : decode cX11_at 56 = .ok (.goto 4, 3) := by decide +kernel
theorem X11_at_56 {Q : Int → z_M → Prop} {a0 a1 a2 a3 a4 : z_V} {st : List z_V} {I : z_M} (k : JX11_at Q 60 [a0, a1, a2, a3, a4] st I) : JX11_at Q 56 [a0, a1, a2, a3, a4] st I := g_goto dX11_at_56 (by decide) k
theorem dX11_at_59 : decode cX11_at 59 = .ok (.iconst 0, 1) := by decide +kernel
theorem X11_at_59 {Q : Int → z_M → Prop} {a0 a1 a2 a3 a4 : z_V} {st : List z_V} {I : z_M} (k : JX11_at Q 60 [a0, a1, a2, a3, a4] (aI 0 :: st) I) : JX11_at Q 59 [a0, a1, a2, a3, a4] st I := g_iconst (n := 0) dX11_at_59 (by decide) k
theorem dX11_at_60 : decode cX11_at 60 = .ok (.ireturn, 1) := by decide +kernel
theorem X11_at_60 {Q : Int → z_M → Prop} {a0 a1 a2 a3 a4 : z_V} {x : Int} {I : z_M} (hq : Q x I) : JX11_at Q 60 [a0, a1, a2, a3, a4] [aI x] I := g_ireturn dX11_at_60 ⟨x, rfl, hq⟩
theorem dX11_at_61 : decode cX11_at 61 = .ok (.iconst 0, 1) := by decide +kernel
theorem X11_at_61 {Q : Int → z_M → Prop} {a0 a1 a2 a3 a4 : z_V} {st : List z_V} {I : z_M} (k : JX11_at Q 62 [a0, a1, a2, a3, a4] (aI 0 :: st) I) : JX11_at Q 61 [a0, a1, a2, a3, a4] st I := g_iconst (n := 0) dX11_at_61 (by decide) k
theorem dX11_at_62 : decode cX11_at 62 = .ok (.istore_n 3, 1) := by decide +kernel
theorem X11_at_62 {Q : Int → z_M → Prop} {a0 a1 a2 a3 a4 : z_V} {x : Int} {st : List z_V} {I : z_M} (hb : z_nl [a0, a1, a2, a3, a4] 3 = true := by rfl) (k : JX11_at Q 63 [a0, a1, a2, aI x, a4] st I) : JX11_at Q 62 [a0, a1, a2, a3, a4] (aI x :: st) I := g_istore_n (i := 3) (x := x) dX11_at_62 rfl (show 3 < 5 from by decide) hb k
theorem dX11_at_63 : decode cX11_at 63 = .ok (.iconst 0, 1) := by decide +kernel
theorem X11_at_63 {Q : Int → z_M → Prop} {a0 a1 a2 a3 a4 : z_V} {st : List z_V} {I : z_M} (k : JX11_at Q 64 [a0, a1, a2, a3, a4] (aI 0 :: st) I) : JX11_at Q 63 [a0, a1, a2, a3, a4] st I := g_iconst (n := 0) dX11_at_63 (by decide) k
theorem dX11_at_64 : decode cX11_at 64 = .ok (.istore 4, 2) := by decide +kernel
theorem X11_at_64 {Q : Int → z_M → Prop} {a0 a1 a2 a3 a4 : z_V} {x : Int} {st : List z_V} {I : z_M} (hb : z_nl [a0, a1, a2, a3, a4] 4 = true := by rfl) (k : JX11_at Q 66 [a0, a1, a2, a3, aI x] st I) : JX11_at Q 64 [a0, a1, a2, a3, a4] (aI x :: st) I := g_istore (i := 4) (x := x) dX11_at_64 (show 4 < 5 from by decide) hb k
theorem dX11_at_66 : decode cX11_at 66 = .ok (.iload 4, 2) := by decide +kernel
theorem X11_at_66 {Q : Int → z_M → Prop} {a0 a1 a2 a3 : z_V} {x : Int} {st : List z_V} {I : z_M} (k : JX11_at Q 68 [a0, a1, a2, a3, aI x] (aI x :: st) I) : JX11_at Q 66 [a0, a1, a2, a3, aI x] st I := g_iload (i := 4) (x := x) dX11_at_66 rfl k
theorem dX11_at_68 : decode cX11_at 68 = .ok (.aload_n 0, 1) := by decide +kernel
theorem X11_at_68 {Q : Int → z_M → Prop} {a1 a2 a3 a4 : z_V} {x : Nat} {st : List z_V} {I : z_M} (k : JX11_at Q 69 [aR x, a1, a2, a3, a4] (aR x :: st) I) : JX11_at Q 68 [aR x, a1, a2, a3, a4] st I := g_aload_n (i := 0) (x := x) dX11_at_68 rfl rfl k
theorem dX11_at_69 : decode cX11_at 69 = .ok (.invokevirtual 54, 3) := by decide +kernel
theorem X11_at_69 {Q : Int → z_M → Prop} {a0 a1 a2 a3 a4 : z_V}   {st : List z_V} {I : z_M}  (hst : z_sw st ≤ 8 := by exact Nat.le_of_ble_eq_true rfl) (k : CX11_pipes (aR 60 :: []) I (fun x9 I9 => JX11_at Q 72 [a0, a1, a2, a3, a4] (aI x9 :: st) I9)) : JX11_at Q 69 [a0, a1, a2, a3, a4] (aR 60 :: st) I := g_callV (C := RX11) (ci := 11) (As := []) (n := 0) dX11_at_69 ⟨m_6_21, pdX11_pipes, ⟨by decide, by decide⟩, rfl, rfl, by decide, by decide⟩ m_6_18 m_6_19 m_6_20 m_1_5 rfl rfl (by decide) rfl rfl hst k (fun r I9 h => by obtain ⟨x9, rfl, h⟩ := h; exact h)
theorem dX11_at_72 : decode cX11_at 72 = .ok (.if_icmp .ge 31, 3) := by decide +kernel
theorem X11_at_72 {Q : Int → z_M → Prop} {a0 a1 a2 a3 a4 : z_V} {x y : Int} {st : List z_V} {I : z_M} (kt : y ≤ x → JX11_at Q 103 [a0, a1, a2, a3, a4] st I) (kf : x < y → JX11_at Q 75 [a0, a1, a2, a3, a4] st I) : JX11_at Q 72 [a0, a1, a2, a3, a4] (aI y :: aI x :: st) I := g_icmp_ge dX11_at_72 (by decide) kt kf
theorem dX11_at_75 : decode cX11_at 75 = .ok (.iload_n 3, 1) := by decide +kernel
theorem X11_at_75 {Q : Int → z_M → Prop} {a0 a1 a2 a4 : z_V} {x : Int} {st : List z_V} {I : z_M} (k : JX11_at Q 76 [a0, a1, a2, aI x, a4] (aI x :: st) I) : JX11_at Q 75 [a0, a1, a2, aI x, a4] st I := g_iload_n (i := 3) (x := x) dX11_at_75 rfl rfl k
theorem dX11_at_76 : decode cX11_at 76 = .ok (.aload_n 0, 1) := by decide +kernel
theorem X11_at_76 {Q : Int → z_M → Prop} {a1 a2 a3 a4 : z_V} {x : Nat} {st : List z_V} {I : z_M} (k : JX11_at Q 77 [aR x, a1, a2, a3, a4] (aR x :: st) I) : JX11_at Q 76 [aR x, a1, a2, a3, a4] st I := g_aload_n (i := 0) (x := x) dX11_at_76 rfl rfl k
theorem dX11_at_77 : decode cX11_at 77 = .ok (.getfield 30, 3) := by decide +kernel
theorem X11_at_77 {Q : Int → z_M → Prop} {a0 a1 a2 a3 a4 : z_V}  {st : List z_V} {I : z_M}  (k : JX11_at Q 80 [a0, a1, a2, a3, a4] (aR (66) :: st) I) : JX11_at Q 77 [a0, a1, a2, a3, a4] (aR 60 :: st) I := g_getr (ci := 11) (j := 8) (N := 23) (T := TX11) dX11_at_77 rfl rfl (by decide) (z_nc11 rfl) inlX11 (by decide) m_5_7 rfl rfl k
theorem dX11_at_80 : decode cX11_at 80 = .ok (.iload 4, 2) := by decide +kernel
theorem X11_at_80 {Q : Int → z_M → Prop} {a0 a1 a2 a3 : z_V} {x : Int} {st : List z_V} {I : z_M} (k : JX11_at Q 82 [a0, a1, a2, a3, aI x] (aI x :: st) I) : JX11_at Q 80 [a0, a1, a2, a3, aI x] st I := g_iload (i := 4) (x := x) dX11_at_80 rfl k
theorem dX11_at_82 : decode cX11_at 82 = .ok (.iaload, 1) := by decide +kernel
theorem X11_at_82 {Q : Int → z_M → Prop} {a0 a1 a2 a3 a4 : z_V} {q : Nat} {i : Int} {st : List z_V} {I : z_M} (hk : z_cl q = 20 := by first | assumption | rfl) (h0 : 0 ≤ i := by omega) (h1 : i < z_n q := by first | omega | (simp only [zn_1, zn_9, zn_10, zn_11, zn_12, zn_13, zn_14, zn_15, zn_16, zn_18, zn_20, zn_21, zn_22, zn_23, zn_24, zn_25, zn_26, zn_27, zn_29, zn_30, zn_53, zn_55, zn_56, zn_58, zn_59, zn_61, zn_62, zn_63, zn_64, zn_65, zn_66, zn_67, zn_68, zn_69, zn_70, zn_71, zn_72, zn_73]; omega)) (k : JX11_at Q 83 [a0, a1, a2, a3, a4] (aI (I q i.toNat) :: st) I) : JX11_at Q 82 [a0, a1, a2, a3, a4] (aI i :: aR q :: st) I := g_iald dX11_at_82 hk h0 h1 k
theorem dX11_at_83 : decode cX11_at 83 = .ok (.iload_n 1, 1) := by decide +kernel
theorem X11_at_83 {Q : Int → z_M → Prop} {a0 a2 a3 a4 : z_V} {x : Int} {st : List z_V} {I : z_M} (k : JX11_at Q 84 [a0, aI x, a2, a3, a4] (aI x :: st) I) : JX11_at Q 83 [a0, aI x, a2, a3, a4] st I := g_iload_n (i := 1) (x := x) dX11_at_83 rfl rfl k
theorem dX11_at_84 : decode cX11_at 84 = .ok (.if_icmp .ne 10, 3) := by decide +kernel
theorem X11_at_84 {Q : Int → z_M → Prop} {a0 a1 a2 a3 a4 : z_V} {x y : Int} {st : List z_V} {I : z_M} (kt : x ≠ y → JX11_at Q 94 [a0, a1, a2, a3, a4] st I) (kf : x = y → JX11_at Q 87 [a0, a1, a2, a3, a4] st I) : JX11_at Q 84 [a0, a1, a2, a3, a4] (aI y :: aI x :: st) I := g_icmp_ne dX11_at_84 (by decide) kt kf
theorem dX11_at_87 : decode cX11_at 87 = .ok (.iconst 1, 1) := by decide +kernel
theorem X11_at_87 {Q : Int → z_M → Prop} {a0 a1 a2 a3 a4 : z_V} {st : List z_V} {I : z_M} (k : JX11_at Q 88 [a0, a1, a2, a3, a4] (aI 1 :: st) I) : JX11_at Q 87 [a0, a1, a2, a3, a4] st I := g_iconst (n := 1) dX11_at_87 (by decide) k
theorem dX11_at_88 : decode cX11_at 88 = .ok (.iload 4, 2) := by decide +kernel
theorem X11_at_88 {Q : Int → z_M → Prop} {a0 a1 a2 a3 : z_V} {x : Int} {st : List z_V} {I : z_M} (k : JX11_at Q 90 [a0, a1, a2, a3, aI x] (aI x :: st) I) : JX11_at Q 88 [a0, a1, a2, a3, aI x] st I := g_iload (i := 4) (x := x) dX11_at_88 rfl k
theorem dX11_at_90 : decode cX11_at 90 = .ok (.ishl, 1) := by decide +kernel
theorem X11_at_90 {Q : Int → z_M → Prop} {a0 a1 a2 a3 a4 : z_V} {x y : Int} {st : List z_V} {I : z_M} (hx : 0 ≤ x := by first | omega | exact Int.natCast_nonneg _) (hy : 0 ≤ y := by first | omega | exact Int.natCast_nonneg _) (hy2 : y < 31 := by omega) (hr : zshl x y < 2147483648 := by exact zshl_lt (by omega) (by omega)) (k : JX11_at Q 91 [a0, a1, a2, a3, a4] (aI (zshl x y) :: st) I) : JX11_at Q 90 [a0, a1, a2, a3, a4] (aI y :: aI x :: st) I := g_ishlz dX11_at_90 hx hy hy2 hr k
theorem dX11_at_91 : decode cX11_at 91 = .ok (.goto 4, 3) := by decide +kernel
theorem X11_at_91 {Q : Int → z_M → Prop} {a0 a1 a2 a3 a4 : z_V} {st : List z_V} {I : z_M} (k : JX11_at Q 95 [a0, a1, a2, a3, a4] st I) : JX11_at Q 91 [a0, a1, a2, a3, a4] st I := g_goto dX11_at_91 (by decide) k
theorem dX11_at_94 : decode cX11_at 94 = .ok (.iconst 0, 1) := by decide +kernel
theorem X11_at_94 {Q : Int → z_M → Prop} {a0 a1 a2 a3 a4 : z_V} {st : List z_V} {I : z_M} (k : JX11_at Q 95 [a0, a1, a2, a3, a4] (aI 0 :: st) I) : JX11_at Q 94 [a0, a1, a2, a3, a4] st I := g_iconst (n := 0) dX11_at_94 (by decide) k
theorem dX11_at_95 : decode cX11_at 95 = .ok (.ior, 1) := by decide +kernel
theorem X11_at_95 {Q : Int → z_M → Prop} {a0 a1 a2 a3 a4 : z_V} {x y : Int} {st : List z_V} {I : z_M} (hx : 0 ≤ x := by first | omega | exact Int.natCast_nonneg _) (hy : 0 ≤ y := by first | omega | exact Int.natCast_nonneg _) (k : JX11_at Q 96 [a0, a1, a2, a3, a4] (aI (zor x y) :: st) I) : JX11_at Q 95 [a0, a1, a2, a3, a4] (aI y :: aI x :: st) I := g_iorz dX11_at_95 hx hy k
theorem dX11_at_96 : decode cX11_at 96 = .ok (.istore_n 3, 1) := by decide +kernel
theorem X11_at_96 {Q : Int → z_M → Prop} {a0 a1 a2 a3 a4 : z_V} {x : Int} {st : List z_V} {I : z_M} (hb : z_nl [a0, a1, a2, a3, a4] 3 = true := by rfl) (k : JX11_at Q 97 [a0, a1, a2, aI x, a4] st I) : JX11_at Q 96 [a0, a1, a2, a3, a4] (aI x :: st) I := g_istore_n (i := 3) (x := x) dX11_at_96 rfl (show 3 < 5 from by decide) hb k
theorem dX11_at_97 : decode cX11_at 97 = .ok (.iinc 4 1, 3) := by decide +kernel
theorem X11_at_97 {Q : Int → z_M → Prop} {a0 a1 a2 a3 : z_V} {x : Int} {st : List z_V} {I : z_M} (hb : z_nl [a0, a1, a2, a3, aI x] 4 = true := by rfl) (hr : inI (x + 1) := by omega) (k : JX11_at Q 100 [a0, a1, a2, a3, aI (x + 1)] st I) : JX11_at Q 97 [a0, a1, a2, a3, aI x] st I := g_iinc (i := 4) (x := x) dX11_at_97 rfl (show 4 < 5 from by decide) hb hr k
theorem dX11_at_100 : decode cX11_at 100 = .ok (.goto (-34), 3) := by decide +kernel
theorem X11_at_100 {Q : Int → z_M → Prop} {a0 a1 a2 a3 a4 : z_V} {st : List z_V} {I : z_M} (k : JX11_at Q 66 [a0, a1, a2, a3, a4] st I) : JX11_at Q 100 [a0, a1, a2, a3, a4] st I := g_goto dX11_at_100 (by decide) k
theorem dX11_at_103 : decode cX11_at 103 = .ok (.iload_n 2, 1) := by decide +kernel
theorem X11_at_103 {Q : Int → z_M → Prop} {a0 a1 a3 a4 : z_V} {x : Int} {st : List z_V} {I : z_M} (k : JX11_at Q 104 [a0, a1, aI x, a3, a4] (aI x :: st) I) : JX11_at Q 103 [a0, a1, aI x, a3, a4] st I := g_iload_n (i := 2) (x := x) dX11_at_103 rfl rfl k
theorem dX11_at_104 : decode cX11_at 104 = .ok (.iconst 2, 1) := by decide +kernel
theorem X11_at_104 {Q : Int → z_M → Prop} {a0 a1 a2 a3 a4 : z_V} {st : List z_V} {I : z_M} (k : JX11_at Q 105 [a0, a1, a2, a3, a4] (aI 2 :: st) I) : JX11_at Q 104 [a0, a1, a2, a3, a4] st I := g_iconst (n := 2) dX11_at_104 (by decide) k
theorem dX11_at_105 : decode cX11_at 105 = .ok (.if_icmp .ne 7, 3) := by decide +kernel
theorem X11_at_105 {Q : Int → z_M → Prop} {a0 a1 a2 a3 a4 : z_V} {x y : Int} {st : List z_V} {I : z_M} (kt : x ≠ y → JX11_at Q 112 [a0, a1, a2, a3, a4] st I) (kf : x = y → JX11_at Q 108 [a0, a1, a2, a3, a4] st I) : JX11_at Q 105 [a0, a1, a2, a3, a4] (aI y :: aI x :: st) I := g_icmp_ne dX11_at_105 (by decide) kt kf
theorem dX11_at_108 : decode cX11_at 108 = .ok (.iload_n 3, 1) := by decide +kernel
theorem X11_at_108 {Q : Int → z_M → Prop} {a0 a1 a2 a4 : z_V} {x : Int} {st : List z_V} {I : z_M} (k : JX11_at Q 109 [a0, a1, a2, aI x, a4] (aI x :: st) I) : JX11_at Q 108 [a0, a1, a2, aI x, a4] st I := g_iload_n (i := 3) (x := x) dX11_at_108 rfl rfl k
theorem dX11_at_109 : decode cX11_at 109 = .ok (.goto 8, 3) := by decide +kernel
theorem X11_at_109 {Q : Int → z_M → Prop} {a0 a1 a2 a3 a4 : z_V} {st : List z_V} {I : z_M} (k : JX11_at Q 117 [a0, a1, a2, a3, a4] st I) : JX11_at Q 109 [a0, a1, a2, a3, a4] st I := g_goto dX11_at_109 (by decide) k
theorem dX11_at_112 : decode cX11_at 112 = .ok (.aload_n 0, 1) := by decide +kernel
theorem X11_at_112 {Q : Int → z_M → Prop} {a1 a2 a3 a4 : z_V} {x : Nat} {st : List z_V} {I : z_M} (k : JX11_at Q 113 [aR x, a1, a2, a3, a4] (aR x :: st) I) : JX11_at Q 112 [aR x, a1, a2, a3, a4] st I := g_aload_n (i := 0) (x := x) dX11_at_112 rfl rfl k
theorem dX11_at_113 : decode cX11_at 113 = .ok (.iload_n 1, 1) := by decide +kernel
theorem X11_at_113 {Q : Int → z_M → Prop} {a0 a2 a3 a4 : z_V} {x : Int} {st : List z_V} {I : z_M} (k : JX11_at Q 114 [a0, aI x, a2, a3, a4] (aI x :: st) I) : JX11_at Q 113 [a0, aI x, a2, a3, a4] st I := g_iload_n (i := 1) (x := x) dX11_at_113 rfl rfl k
theorem dX11_at_114 : decode cX11_at 114 = .ok (.invokevirtual 177, 3) := by decide +kernel
theorem X11_at_114 {Q : Int → z_M → Prop} {a0 a1 a2 a3 a4 : z_V}  {x0 : Int} {st : List z_V} {I : z_M}  (hst : z_sw st ≤ 8 := by exact Nat.le_of_ble_eq_true rfl) (k : CX11_farOf (aR 60 :: [aI x0]) I (fun x9 I9 => JX11_at Q 117 [a0, a1, a2, a3, a4] (aI x9 :: st) I9)) : JX11_at Q 114 [a0, a1, a2, a3, a4] (aI x0 :: aR 60 :: st) I := g_callV (C := RX11) (ci := 11) (As := [aI x0]) (n := 1) dX11_at_114 ⟨m_30_8, pdX11_farOf, ⟨by decide, by decide⟩, rfl, rfl, by decide, by decide⟩ m_30_5 m_30_6 m_30_7 m_1_5 rfl rfl (by decide) rfl rfl hst k (fun r I9 h => by obtain ⟨x9, rfl, h⟩ := h; exact h)
theorem dX11_at_117 : decode cX11_at 117 = .ok (.ireturn, 1) := by decide +kernel
theorem X11_at_117 {Q : Int → z_M → Prop} {a0 a1 a2 a3 a4 : z_V} {x : Int} {I : z_M} (hq : Q x I) : JX11_at Q 117 [a0, a1, a2, a3, a4] [aI x] I := g_ireturn dX11_at_117 ⟨x, rfl, hq⟩
theorem dX11_then_0 : decode cX11_then 0 = .ok (.iload_n 1, 1) := by decide +kernel
theorem X11_then_0 {Q : Int → z_M → Prop} {a0 a2 : z_V} {x : Int} {st : List z_V} {I : z_M} (k : JX11_then Q 1 [a0, aI x, a2] (aI x :: st) I) : JX11_then Q 0 [a0, aI x, a2] st I := g_iload_n (i := 1) (x := x) dX11_then_0 rfl rfl k
theorem dX11_then_1 : decode cX11_then 1 = .ok (.invokestatic 180, 3) := by decide +kernel
theorem X11_then_1 {Q : Int → z_M → Prop} {a0 a1 a2 : z_V} {x0 : Int} {st : List z_V} {I : z_M} (hst : z_sw st ≤ 8 := by exact Nat.le_of_ble_eq_true rfl) (k : CX11_isThen [aI x0] I (fun x9 I9 => JX11_then Q 4 [a0, a1, a2] (aI x9 :: st) I9)) : JX11_then Q 1 [a0, a1, a2] (aI x0 :: st) I := g_callS (As := [aI x0]) (n := 1) dX11_then_1 ⟨m_31_0, pdX11_isThen, ⟨by decide, by decide⟩, rfl, rfl, by decide, by decide⟩ m_30_22 m_30_23 m_1_5 rfl hst k (fun r I9 h => by obtain ⟨x9, rfl, h⟩ := h; exact h)
theorem dX11_then_4 : decode cX11_then 4 = .ok (.ifCond .eq 11, 3) := by decide +kernel
theorem X11_then_4 {Q : Int → z_M → Prop} {a0 a1 a2 : z_V} {x : Int} {st : List z_V} {I : z_M} (kt : x = 0 → JX11_then Q 15 [a0, a1, a2] st I) (kf : x ≠ 0 → JX11_then Q 7 [a0, a1, a2] st I) : JX11_then Q 4 [a0, a1, a2] (aI x :: st) I := g_if_eq dX11_then_4 (by decide) kt kf
theorem dX11_then_7 : decode cX11_then 7 = .ok (.aload_n 0, 1) := by decide +kernel
theorem X11_then_7 {Q : Int → z_M → Prop} {a1 a2 : z_V} {x : Nat} {st : List z_V} {I : z_M} (k : JX11_then Q 8 [aR x, a1, a2] (aR x :: st) I) : JX11_then Q 7 [aR x, a1, a2] st I := g_aload_n (i := 0) (x := x) dX11_then_7 rfl rfl k
theorem dX11_then_8 : decode cX11_then 8 = .ok (.iload_n 2, 1) := by decide +kernel
theorem X11_then_8 {Q : Int → z_M → Prop} {a0 a1 : z_V} {x : Int} {st : List z_V} {I : z_M} (k : JX11_then Q 9 [a0, a1, aI x] (aI x :: st) I) : JX11_then Q 8 [a0, a1, aI x] st I := g_iload_n (i := 2) (x := x) dX11_then_8 rfl rfl k
theorem dX11_then_9 : decode cX11_then 9 = .ok (.invokevirtual 164, 3) := by decide +kernel
theorem X11_then_9 {Q : Int → z_M → Prop} {a0 a1 a2 : z_V}  {x0 : Int} {st : List z_V} {I : z_M}  (hst : z_sw st ≤ 8 := by exact Nat.le_of_ble_eq_true rfl) (k : CX11_isPipe (aR 60 :: [aI x0]) I (fun x9 I9 => JX11_then Q 12 [a0, a1, a2] (aI x9 :: st) I9)) : JX11_then Q 9 [a0, a1, a2] (aI x0 :: aR 60 :: st) I := g_callV (C := RX11) (ci := 11) (As := [aI x0]) (n := 1) dX11_then_9 ⟨m_27_3, pdX11_isPipe, ⟨by decide, by decide⟩, rfl, rfl, by decide, by decide⟩ m_27_0 m_27_1 m_27_2 m_1_5 rfl rfl (by decide) rfl rfl hst k (fun r I9 h => by obtain ⟨x9, rfl, h⟩ := h; exact h)
theorem dX11_then_12 : decode cX11_then 12 = .ok (.ifCond .ne 10, 3) := by decide +kernel
theorem X11_then_12 {Q : Int → z_M → Prop} {a0 a1 a2 : z_V} {x : Int} {st : List z_V} {I : z_M} (kt : x ≠ 0 → JX11_then Q 22 [a0, a1, a2] st I) (kf : x = 0 → JX11_then Q 15 [a0, a1, a2] st I) : JX11_then Q 12 [a0, a1, a2] (aI x :: st) I := g_if_ne dX11_then_12 (by decide) kt kf
theorem dX11_then_15 : decode cX11_then 15 = .ok (.aload_n 0, 1) := by decide +kernel
theorem X11_then_15 {Q : Int → z_M → Prop} {a1 a2 : z_V} {x : Nat} {st : List z_V} {I : z_M} (k : JX11_then Q 16 [aR x, a1, a2] (aR x :: st) I) : JX11_then Q 15 [aR x, a1, a2] st I := g_aload_n (i := 0) (x := x) dX11_then_15 rfl rfl k
theorem dX11_then_16 : decode cX11_then 16 = .ok (.bipush (-10), 2) := by decide +kernel
theorem X11_then_16 {Q : Int → z_M → Prop} {a0 a1 a2 : z_V} {st : List z_V} {I : z_M} (k : JX11_then Q 18 [a0, a1, a2] (aI (-10) :: st) I) : JX11_then Q 16 [a0, a1, a2] st I := g_bipush (n := (-10)) dX11_then_16 (by decide +kernel) (by decide) k
theorem dX11_then_18 : decode cX11_then 18 = .ok (.invokevirtual 85, 3) := by decide +kernel
theorem X11_then_18 {Q : Int → z_M → Prop} {a0 a1 a2 : z_V}  {x0 : Int} {st : List z_V} {I : z_M}  (hst : z_sw st ≤ 8 := by exact Nat.le_of_ble_eq_true rfl) (k : CX11_bad (aR 60 :: [aI x0]) I (fun x9 I9 => JX11_then Q 21 [a0, a1, a2] (aI x9 :: st) I9)) : JX11_then Q 18 [a0, a1, a2] (aI x0 :: aR 60 :: st) I := g_callV (C := RX11) (ci := 11) (As := [aI x0]) (n := 1) dX11_then_18 ⟨m_8_15, pdX11_bad, ⟨by decide, by decide⟩, rfl, rfl, by decide, by decide⟩ m_8_12 m_8_13 m_8_14 m_1_5 rfl rfl (by decide) rfl rfl hst k (fun r I9 h => by obtain ⟨x9, rfl, h⟩ := h; exact h)
theorem dX11_then_21 : decode cX11_then 21 = .ok (.ireturn, 1) := by decide +kernel
theorem X11_then_21 {Q : Int → z_M → Prop} {a0 a1 a2 : z_V} {x : Int} {I : z_M} (hq : Q x I) : JX11_then Q 21 [a0, a1, a2] [aI x] I := g_ireturn dX11_then_21 ⟨x, rfl, hq⟩
theorem dX11_then_22 : decode cX11_then 22 = .ok (.aload_n 0, 1) := by decide +kernel
theorem X11_then_22 {Q : Int → z_M → Prop} {a1 a2 : z_V} {x : Nat} {st : List z_V} {I : z_M} (k : JX11_then Q 23 [aR x, a1, a2] (aR x :: st) I) : JX11_then Q 22 [aR x, a1, a2] st I := g_aload_n (i := 0) (x := x) dX11_then_22 rfl rfl k
theorem dX11_then_23 : decode cX11_then 23 = .ok (.invokevirtual 152, 3) := by decide +kernel
theorem X11_then_23 {Q : Int → z_M → Prop} {a0 a1 a2 : z_V}   {st : List z_V} {I : z_M}  (hst : z_sw st ≤ 8 := by exact Nat.le_of_ble_eq_true rfl) (k : CX11_layHand (aR 60 :: []) I (fun I9 => JX11_then Q 26 [a0, a1, a2] st I9)) : JX11_then Q 23 [a0, a1, a2] (aR 60 :: st) I := g_callV (C := RX11) (ci := 11) (As := []) (n := 0) dX11_then_23 ⟨m_24_4, pdX11_layHand, ⟨by decide, by decide⟩, rfl, rfl, by decide, by decide⟩ m_24_1 m_24_2 m_24_3 m_1_5 rfl rfl (by decide) rfl rfl hst k (fun r I9 h => by obtain ⟨rfl, h⟩ := h; exact h)
theorem dX11_then_26 : decode cX11_then 26 = .ok (.aload_n 0, 1) := by decide +kernel
theorem X11_then_26 {Q : Int → z_M → Prop} {a1 a2 : z_V} {x : Nat} {st : List z_V} {I : z_M} (k : JX11_then Q 27 [aR x, a1, a2] (aR x :: st) I) : JX11_then Q 26 [aR x, a1, a2] st I := g_aload_n (i := 0) (x := x) dX11_then_26 rfl rfl k
theorem dX11_then_27 : decode cX11_then 27 = .ok (.iload_n 1, 1) := by decide +kernel
theorem X11_then_27 {Q : Int → z_M → Prop} {a0 a2 : z_V} {x : Int} {st : List z_V} {I : z_M} (k : JX11_then Q 28 [a0, aI x, a2] (aI x :: st) I) : JX11_then Q 27 [a0, aI x, a2] st I := g_iload_n (i := 1) (x := x) dX11_then_27 rfl rfl k
theorem dX11_then_28 : decode cX11_then 28 = .ok (.invokevirtual 183, 3) := by decide +kernel
theorem X11_then_28 {Q : Int → z_M → Prop} {a0 a1 a2 : z_V}  {x0 : Int} {st : List z_V} {I : z_M}  (hst : z_sw st ≤ 8 := by exact Nat.le_of_ble_eq_true rfl) (k : CX11_goHours (aR 60 :: [aI x0]) I (fun I9 => JX11_then Q 31 [a0, a1, a2] st I9)) : JX11_then Q 28 [a0, a1, a2] (aI x0 :: aR 60 :: st) I := g_callV (C := RX11) (ci := 11) (As := [aI x0]) (n := 1) dX11_then_28 ⟨m_31_5, pdX11_goHours, ⟨by decide, by decide⟩, rfl, rfl, by decide, by decide⟩ m_31_2 m_31_3 m_31_4 m_1_5 rfl rfl (by decide) rfl rfl hst k (fun r I9 h => by obtain ⟨rfl, h⟩ := h; exact h)
theorem dX11_then_31 : decode cX11_then 31 = .ok (.aload_n 0, 1) := by decide +kernel
theorem X11_then_31 {Q : Int → z_M → Prop} {a1 a2 : z_V} {x : Nat} {st : List z_V} {I : z_M} (k : JX11_then Q 32 [aR x, a1, a2] (aR x :: st) I) : JX11_then Q 31 [aR x, a1, a2] st I := g_aload_n (i := 0) (x := x) dX11_then_31 rfl rfl k
theorem dX11_then_32 : decode cX11_then 32 = .ok (.getfield 30, 3) := by decide +kernel
theorem X11_then_32 {Q : Int → z_M → Prop} {a0 a1 a2 : z_V}  {st : List z_V} {I : z_M}  (k : JX11_then Q 35 [a0, a1, a2] (aR (66) :: st) I) : JX11_then Q 32 [a0, a1, a2] (aR 60 :: st) I := g_getr (ci := 11) (j := 8) (N := 23) (T := TX11) dX11_then_32 rfl rfl (by decide) (z_nc11 rfl) inlX11 (by decide) m_5_7 rfl rfl k
theorem dX11_then_35 : decode cX11_then 35 = .ok (.iload_n 2, 1) := by decide +kernel
theorem X11_then_35 {Q : Int → z_M → Prop} {a0 a1 : z_V} {x : Int} {st : List z_V} {I : z_M} (k : JX11_then Q 36 [a0, a1, aI x] (aI x :: st) I) : JX11_then Q 35 [a0, a1, aI x] st I := g_iload_n (i := 2) (x := x) dX11_then_35 rfl rfl k
theorem dX11_then_36 : decode cX11_then 36 = .ok (.iaload, 1) := by decide +kernel
theorem X11_then_36 {Q : Int → z_M → Prop} {a0 a1 a2 : z_V} {q : Nat} {i : Int} {st : List z_V} {I : z_M} (hk : z_cl q = 20 := by first | assumption | rfl) (h0 : 0 ≤ i := by omega) (h1 : i < z_n q := by first | omega | (simp only [zn_1, zn_9, zn_10, zn_11, zn_12, zn_13, zn_14, zn_15, zn_16, zn_18, zn_20, zn_21, zn_22, zn_23, zn_24, zn_25, zn_26, zn_27, zn_29, zn_30, zn_53, zn_55, zn_56, zn_58, zn_59, zn_61, zn_62, zn_63, zn_64, zn_65, zn_66, zn_67, zn_68, zn_69, zn_70, zn_71, zn_72, zn_73]; omega)) (k : JX11_then Q 37 [a0, a1, a2] (aI (I q i.toNat) :: st) I) : JX11_then Q 36 [a0, a1, a2] (aI i :: aR q :: st) I := g_iald dX11_then_36 hk h0 h1 k
theorem dX11_then_37 : decode cX11_then 37 = .ok (.ireturn, 1) := by decide +kernel
theorem X11_then_37 {Q : Int → z_M → Prop} {a0 a1 a2 : z_V} {x : Int} {I : z_M} (hq : Q x I) : JX11_then Q 37 [a0, a1, a2] [aI x] I := g_ireturn dX11_then_37 ⟨x, rfl, hq⟩
theorem dX11_left_0 : decode cX11_left 0 = .ok (.iload_n 1, 1) := by decide +kernel
theorem X11_left_0 {Q : Int → z_M → Prop} {a0 : z_V} {x : Int} {st : List z_V} {I : z_M} (k : JX11_left Q 1 [a0, aI x] (aI x :: st) I) : JX11_left Q 0 [a0, aI x] st I := g_iload_n (i := 1) (x := x) dX11_left_0 rfl rfl k
theorem dX11_left_1 : decode cX11_left 1 = .ok (.invokestatic 180, 3) := by decide +kernel
theorem X11_left_1 {Q : Int → z_M → Prop} {a0 a1 : z_V} {x0 : Int} {st : List z_V} {I : z_M} (hst : z_sw st ≤ 8 := by exact Nat.le_of_ble_eq_true rfl) (k : CX11_isThen [aI x0] I (fun x9 I9 => JX11_left Q 4 [a0, a1] (aI x9 :: st) I9)) : JX11_left Q 1 [a0, a1] (aI x0 :: st) I := g_callS (As := [aI x0]) (n := 1) dX11_left_1 ⟨m_31_0, pdX11_isThen, ⟨by decide, by decide⟩, rfl, rfl, by decide, by decide⟩ m_30_22 m_30_23 m_1_5 rfl hst k (fun r I9 h => by obtain ⟨x9, rfl, h⟩ := h; exact h)
theorem dX11_left_4 : decode cX11_left 4 = .ok (.ifCond .ne 10, 3) := by decide +kernel
theorem X11_left_4 {Q : Int → z_M → Prop} {a0 a1 : z_V} {x : Int} {st : List z_V} {I : z_M} (kt : x ≠ 0 → JX11_left Q 14 [a0, a1] st I) (kf : x = 0 → JX11_left Q 7 [a0, a1] st I) : JX11_left Q 4 [a0, a1] (aI x :: st) I := g_if_ne dX11_left_4 (by decide) kt kf
theorem dX11_left_7 : decode cX11_left 7 = .ok (.aload_n 0, 1) := by decide +kernel
theorem X11_left_7 {Q : Int → z_M → Prop} {a1 : z_V} {x : Nat} {st : List z_V} {I : z_M} (k : JX11_left Q 8 [aR x, a1] (aR x :: st) I) : JX11_left Q 7 [aR x, a1] st I := g_aload_n (i := 0) (x := x) dX11_left_7 rfl rfl k
theorem dX11_left_8 : decode cX11_left 8 = .ok (.bipush (-2), 2) := by decide +kernel
theorem X11_left_8 {Q : Int → z_M → Prop} {a0 a1 : z_V} {st : List z_V} {I : z_M} (k : JX11_left Q 10 [a0, a1] (aI (-2) :: st) I) : JX11_left Q 8 [a0, a1] st I := g_bipush (n := (-2)) dX11_left_8 (by decide +kernel) (by decide) k
theorem dX11_left_10 : decode cX11_left 10 = .ok (.invokevirtual 85, 3) := by decide +kernel
theorem X11_left_10 {Q : Int → z_M → Prop} {a0 a1 : z_V}  {x0 : Int} {st : List z_V} {I : z_M}  (hst : z_sw st ≤ 8 := by exact Nat.le_of_ble_eq_true rfl) (k : CX11_bad (aR 60 :: [aI x0]) I (fun x9 I9 => JX11_left Q 13 [a0, a1] (aI x9 :: st) I9)) : JX11_left Q 10 [a0, a1] (aI x0 :: aR 60 :: st) I := g_callV (C := RX11) (ci := 11) (As := [aI x0]) (n := 1) dX11_left_10 ⟨m_8_15, pdX11_bad, ⟨by decide, by decide⟩, rfl, rfl, by decide, by decide⟩ m_8_12 m_8_13 m_8_14 m_1_5 rfl rfl (by decide) rfl rfl hst k (fun r I9 h => by obtain ⟨x9, rfl, h⟩ := h; exact h)
theorem dX11_left_13 : decode cX11_left 13 = .ok (.ireturn, 1) := by decide +kernel
theorem X11_left_13 {Q : Int → z_M → Prop} {a0 a1 : z_V} {x : Int} {I : z_M} (hq : Q x I) : JX11_left Q 13 [a0, a1] [aI x] I := g_ireturn dX11_left_13 ⟨x, rfl, hq⟩
theorem dX11_left_14 : decode cX11_left 14 = .ok (.aload_n 0, 1) := by decide +kernel
theorem X11_left_14 {Q : Int → z_M → Prop} {a1 : z_V} {x : Nat} {st : List z_V} {I : z_M} (k : JX11_left Q 15 [aR x, a1] (aR x :: st) I) : JX11_left Q 14 [aR x, a1] st I := g_aload_n (i := 0) (x := x) dX11_left_14 rfl rfl k
theorem dX11_left_15 : decode cX11_left 15 = .ok (.invokevirtual 152, 3) := by decide +kernel
theorem X11_left_15 {Q : Int → z_M → Prop} {a0 a1 : z_V}   {st : List z_V} {I : z_M}  (hst : z_sw st ≤ 8 := by exact Nat.le_of_ble_eq_true rfl) (k : CX11_layHand (aR 60 :: []) I (fun I9 => JX11_left Q 18 [a0, a1] st I9)) : JX11_left Q 15 [a0, a1] (aR 60 :: st) I := g_callV (C := RX11) (ci := 11) (As := []) (n := 0) dX11_left_15 ⟨m_24_4, pdX11_layHand, ⟨by decide, by decide⟩, rfl, rfl, by decide, by decide⟩ m_24_1 m_24_2 m_24_3 m_1_5 rfl rfl (by decide) rfl rfl hst k (fun r I9 h => by obtain ⟨rfl, h⟩ := h; exact h)
theorem dX11_left_18 : decode cX11_left 18 = .ok (.aload_n 0, 1) := by decide +kernel
theorem X11_left_18 {Q : Int → z_M → Prop} {a1 : z_V} {x : Nat} {st : List z_V} {I : z_M} (k : JX11_left Q 19 [aR x, a1] (aR x :: st) I) : JX11_left Q 18 [aR x, a1] st I := g_aload_n (i := 0) (x := x) dX11_left_18 rfl rfl k
theorem dX11_left_19 : decode cX11_left 19 = .ok (.iload_n 1, 1) := by decide +kernel
theorem X11_left_19 {Q : Int → z_M → Prop} {a0 : z_V} {x : Int} {st : List z_V} {I : z_M} (k : JX11_left Q 20 [a0, aI x] (aI x :: st) I) : JX11_left Q 19 [a0, aI x] st I := g_iload_n (i := 1) (x := x) dX11_left_19 rfl rfl k
theorem dX11_left_20 : decode cX11_left 20 = .ok (.invokevirtual 183, 3) := by decide +kernel
theorem X11_left_20 {Q : Int → z_M → Prop} {a0 a1 : z_V}  {x0 : Int} {st : List z_V} {I : z_M}  (hst : z_sw st ≤ 8 := by exact Nat.le_of_ble_eq_true rfl) (k : CX11_goHours (aR 60 :: [aI x0]) I (fun I9 => JX11_left Q 23 [a0, a1] st I9)) : JX11_left Q 20 [a0, a1] (aI x0 :: aR 60 :: st) I := g_callV (C := RX11) (ci := 11) (As := [aI x0]) (n := 1) dX11_left_20 ⟨m_31_5, pdX11_goHours, ⟨by decide, by decide⟩, rfl, rfl, by decide, by decide⟩ m_31_2 m_31_3 m_31_4 m_1_5 rfl rfl (by decide) rfl rfl hst k (fun r I9 h => by obtain ⟨rfl, h⟩ := h; exact h)
theorem dX11_left_23 : decode cX11_left 23 = .ok (.aload_n 0, 1) := by decide +kernel
theorem X11_left_23 {Q : Int → z_M → Prop} {a1 : z_V} {x : Nat} {st : List z_V} {I : z_M} (k : JX11_left Q 24 [aR x, a1] (aR x :: st) I) : JX11_left Q 23 [aR x, a1] st I := g_aload_n (i := 0) (x := x) dX11_left_23 rfl rfl k
theorem dX11_left_24 : decode cX11_left 24 = .ok (.invokevirtual 158, 3) := by decide +kernel
theorem X11_left_24 {Q : Int → z_M → Prop} {a0 a1 : z_V}   {st : List z_V} {I : z_M}  (hst : z_sw st ≤ 8 := by exact Nat.le_of_ble_eq_true rfl) (k : CX11_inChurch (aR 60 :: []) I (fun x9 I9 => JX11_left Q 27 [a0, a1] (aI x9 :: st) I9)) : JX11_left Q 24 [a0, a1] (aR 60 :: st) I := g_callV (C := RX11) (ci := 11) (As := []) (n := 0) dX11_left_24 ⟨m_26_1, pdX11_inChurch, ⟨by decide, by decide⟩, rfl, rfl, by decide, by decide⟩ m_25_22 m_25_23 m_26_0 m_1_5 rfl rfl (by decide) rfl rfl hst k (fun r I9 h => by obtain ⟨x9, rfl, h⟩ := h; exact h)
theorem dX11_left_27 : decode cX11_left 27 = .ok (.invokestatic 161, 3) := by decide +kernel
theorem X11_left_27 {Q : Int → z_M → Prop} {a0 a1 : z_V} {x0 : Int} {st : List z_V} {I : z_M} (hst : z_sw st ≤ 8 := by exact Nat.le_of_ble_eq_true rfl) (k : CX11_bits [aI x0] I (fun x9 I9 => JX11_left Q 30 [a0, a1] (aI x9 :: st) I9)) : JX11_left Q 27 [a0, a1] (aI x0 :: st) I := g_callS (As := [aI x0]) (n := 1) dX11_left_27 ⟨m_26_4, pdX11_bits, ⟨by decide, by decide⟩, rfl, rfl, by decide, by decide⟩ m_26_2 m_26_3 m_1_5 rfl hst k (fun r I9 h => by obtain ⟨x9, rfl, h⟩ := h; exact h)
theorem dX11_left_30 : decode cX11_left 30 = .ok (.ireturn, 1) := by decide +kernel
theorem X11_left_30 {Q : Int → z_M → Prop} {a0 a1 : z_V} {x : Int} {I : z_M} (hq : Q x I) : JX11_left Q 30 [a0, a1] [aI x] I := g_ireturn dX11_left_30 ⟨x, rfl, hq⟩
theorem dX11_isPlayed_0 : decode cX11_isPlayed 0 = .ok (.iconst 0, 1) := by decide +kernel
theorem X11_isPlayed_0 {Q : Int → z_M → Prop} {a0 a1 a2 a3 a4 : z_V} {st : List z_V} {I : z_M} (k : JX11_isPlayed Q 1 [a0, a1, a2, a3, a4] (aI 0 :: st) I) : JX11_isPlayed Q 0 [a0, a1, a2, a3, a4] st I := g_iconst (n := 0) dX11_isPlayed_0 (by decide) k
theorem dX11_isPlayed_1 : decode cX11_isPlayed 1 = .ok (.istore_n 3, 1) := by decide +kernel
theorem X11_isPlayed_1 {Q : Int → z_M → Prop} {a0 a1 a2 a3 a4 : z_V} {x : Int} {st : List z_V} {I : z_M} (hb : z_nl [a0, a1, a2, a3, a4] 3 = true := by rfl) (k : JX11_isPlayed Q 2 [a0, a1, a2, aI x, a4] st I) : JX11_isPlayed Q 1 [a0, a1, a2, a3, a4] (aI x :: st) I := g_istore_n (i := 3) (x := x) dX11_isPlayed_1 rfl (show 3 < 5 from by decide) hb k
theorem dX11_isPlayed_2 : decode cX11_isPlayed 2 = .ok (.iconst 0, 1) := by decide +kernel
theorem X11_isPlayed_2 {Q : Int → z_M → Prop} {a0 a1 a2 a3 a4 : z_V} {st : List z_V} {I : z_M} (k : JX11_isPlayed Q 3 [a0, a1, a2, a3, a4] (aI 0 :: st) I) : JX11_isPlayed Q 2 [a0, a1, a2, a3, a4] st I := g_iconst (n := 0) dX11_isPlayed_2 (by decide) k
theorem dX11_isPlayed_3 : decode cX11_isPlayed 3 = .ok (.istore 4, 2) := by decide +kernel
theorem X11_isPlayed_3 {Q : Int → z_M → Prop} {a0 a1 a2 a3 a4 : z_V} {x : Int} {st : List z_V} {I : z_M} (hb : z_nl [a0, a1, a2, a3, a4] 4 = true := by rfl) (k : JX11_isPlayed Q 5 [a0, a1, a2, a3, aI x] st I) : JX11_isPlayed Q 3 [a0, a1, a2, a3, a4] (aI x :: st) I := g_istore (i := 4) (x := x) dX11_isPlayed_3 (show 4 < 5 from by decide) hb k
theorem dX11_isPlayed_5 : decode cX11_isPlayed 5 = .ok (.iload 4, 2) := by decide +kernel
theorem X11_isPlayed_5 {Q : Int → z_M → Prop} {a0 a1 a2 a3 : z_V} {x : Int} {st : List z_V} {I : z_M} (k : JX11_isPlayed Q 7 [a0, a1, a2, a3, aI x] (aI x :: st) I) : JX11_isPlayed Q 5 [a0, a1, a2, a3, aI x] st I := g_iload (i := 4) (x := x) dX11_isPlayed_5 rfl k
theorem dX11_isPlayed_7 : decode cX11_isPlayed 7 = .ok (.aload_n 0, 1) := by decide +kernel
theorem X11_isPlayed_7 {Q : Int → z_M → Prop} {a1 a2 a3 a4 : z_V} {x : Nat} {st : List z_V} {I : z_M} (k : JX11_isPlayed Q 8 [aR x, a1, a2, a3, a4] (aR x :: st) I) : JX11_isPlayed Q 7 [aR x, a1, a2, a3, a4] st I := g_aload_n (i := 0) (x := x) dX11_isPlayed_7 rfl rfl k
theorem dX11_isPlayed_8 : decode cX11_isPlayed 8 = .ok (.invokevirtual 54, 3) := by decide +kernel
theorem X11_isPlayed_8 {Q : Int → z_M → Prop} {a0 a1 a2 a3 a4 : z_V}   {st : List z_V} {I : z_M}  (hst : z_sw st ≤ 8 := by exact Nat.le_of_ble_eq_true rfl) (k : CX11_pipes (aR 60 :: []) I (fun x9 I9 => JX11_isPlayed Q 11 [a0, a1, a2, a3, a4] (aI x9 :: st) I9)) : JX11_isPlayed Q 8 [a0, a1, a2, a3, a4] (aR 60 :: st) I := g_callV (C := RX11) (ci := 11) (As := []) (n := 0) dX11_isPlayed_8 ⟨m_6_21, pdX11_pipes, ⟨by decide, by decide⟩, rfl, rfl, by decide, by decide⟩ m_6_18 m_6_19 m_6_20 m_1_5 rfl rfl (by decide) rfl rfl hst k (fun r I9 h => by obtain ⟨x9, rfl, h⟩ := h; exact h)
theorem dX11_isPlayed_11 : decode cX11_isPlayed 11 = .ok (.if_icmp .ge 40, 3) := by decide +kernel
theorem X11_isPlayed_11 {Q : Int → z_M → Prop} {a0 a1 a2 a3 a4 : z_V} {x y : Int} {st : List z_V} {I : z_M} (kt : y ≤ x → JX11_isPlayed Q 51 [a0, a1, a2, a3, a4] st I) (kf : x < y → JX11_isPlayed Q 14 [a0, a1, a2, a3, a4] st I) : JX11_isPlayed Q 11 [a0, a1, a2, a3, a4] (aI y :: aI x :: st) I := g_icmp_ge dX11_isPlayed_11 (by decide) kt kf
theorem dX11_isPlayed_14 : decode cX11_isPlayed 14 = .ok (.iload_n 3, 1) := by decide +kernel
theorem X11_isPlayed_14 {Q : Int → z_M → Prop} {a0 a1 a2 a4 : z_V} {x : Int} {st : List z_V} {I : z_M} (k : JX11_isPlayed Q 15 [a0, a1, a2, aI x, a4] (aI x :: st) I) : JX11_isPlayed Q 14 [a0, a1, a2, aI x, a4] st I := g_iload_n (i := 3) (x := x) dX11_isPlayed_14 rfl rfl k
theorem dX11_isPlayed_15 : decode cX11_isPlayed 15 = .ok (.ifCond .ne 24, 3) := by decide +kernel
theorem X11_isPlayed_15 {Q : Int → z_M → Prop} {a0 a1 a2 a3 a4 : z_V} {x : Int} {st : List z_V} {I : z_M} (kt : x ≠ 0 → JX11_isPlayed Q 39 [a0, a1, a2, a3, a4] st I) (kf : x = 0 → JX11_isPlayed Q 18 [a0, a1, a2, a3, a4] st I) : JX11_isPlayed Q 15 [a0, a1, a2, a3, a4] (aI x :: st) I := g_if_ne dX11_isPlayed_15 (by decide) kt kf
theorem dX11_isPlayed_18 : decode cX11_isPlayed 18 = .ok (.iload_n 2, 1) := by decide +kernel
theorem X11_isPlayed_18 {Q : Int → z_M → Prop} {a0 a1 a3 a4 : z_V} {x : Int} {st : List z_V} {I : z_M} (k : JX11_isPlayed Q 19 [a0, a1, aI x, a3, a4] (aI x :: st) I) : JX11_isPlayed Q 18 [a0, a1, aI x, a3, a4] st I := g_iload_n (i := 2) (x := x) dX11_isPlayed_18 rfl rfl k
theorem dX11_isPlayed_19 : decode cX11_isPlayed 19 = .ok (.iload 4, 2) := by decide +kernel
theorem X11_isPlayed_19 {Q : Int → z_M → Prop} {a0 a1 a2 a3 : z_V} {x : Int} {st : List z_V} {I : z_M} (k : JX11_isPlayed Q 21 [a0, a1, a2, a3, aI x] (aI x :: st) I) : JX11_isPlayed Q 19 [a0, a1, a2, a3, aI x] st I := g_iload (i := 4) (x := x) dX11_isPlayed_19 rfl k
theorem dX11_isPlayed_21 : decode cX11_isPlayed 21 = .ok (.ishr, 1) := by decide +kernel
theorem X11_isPlayed_21 {Q : Int → z_M → Prop} {a0 a1 a2 a3 a4 : z_V} {x y : Int} {st : List z_V} {I : z_M} (hx : 0 ≤ x := by first | omega | exact Int.natCast_nonneg _) (hy : 0 ≤ y := by first | omega | exact Int.natCast_nonneg _) (hy2 : y < 32 := by omega) (k : JX11_isPlayed Q 22 [a0, a1, a2, a3, a4] (aI (zshr x y) :: st) I) : JX11_isPlayed Q 21 [a0, a1, a2, a3, a4] (aI y :: aI x :: st) I := g_ishrz dX11_isPlayed_21 hx hy hy2 k
theorem dX11_isPlayed_22 : decode cX11_isPlayed 22 = .ok (.iconst 1, 1) := by decide +kernel
theorem X11_isPlayed_22 {Q : Int → z_M → Prop} {a0 a1 a2 a3 a4 : z_V} {st : List z_V} {I : z_M} (k : JX11_isPlayed Q 23 [a0, a1, a2, a3, a4] (aI 1 :: st) I) : JX11_isPlayed Q 22 [a0, a1, a2, a3, a4] st I := g_iconst (n := 1) dX11_isPlayed_22 (by decide) k
theorem dX11_isPlayed_23 : decode cX11_isPlayed 23 = .ok (.iand, 1) := by decide +kernel
theorem X11_isPlayed_23 {Q : Int → z_M → Prop} {a0 a1 a2 a3 a4 : z_V} {x y : Int} {st : List z_V} {I : z_M} (hx : 0 ≤ x := by first | omega | exact Int.natCast_nonneg _) (hy : 0 ≤ y := by first | omega | exact Int.natCast_nonneg _) (k : JX11_isPlayed Q 24 [a0, a1, a2, a3, a4] (aI (zand x y) :: st) I) : JX11_isPlayed Q 23 [a0, a1, a2, a3, a4] (aI y :: aI x :: st) I := g_iandz dX11_isPlayed_23 hx hy k
theorem dX11_isPlayed_24 : decode cX11_isPlayed 24 = .ok (.iconst 1, 1) := by decide +kernel
theorem X11_isPlayed_24 {Q : Int → z_M → Prop} {a0 a1 a2 a3 a4 : z_V} {st : List z_V} {I : z_M} (k : JX11_isPlayed Q 25 [a0, a1, a2, a3, a4] (aI 1 :: st) I) : JX11_isPlayed Q 24 [a0, a1, a2, a3, a4] st I := g_iconst (n := 1) dX11_isPlayed_24 (by decide) k
theorem dX11_isPlayed_25 : decode cX11_isPlayed 25 = .ok (.if_icmp .ne 18, 3) := by decide +kernel
theorem X11_isPlayed_25 {Q : Int → z_M → Prop} {a0 a1 a2 a3 a4 : z_V} {x y : Int} {st : List z_V} {I : z_M} (kt : x ≠ y → JX11_isPlayed Q 43 [a0, a1, a2, a3, a4] st I) (kf : x = y → JX11_isPlayed Q 28 [a0, a1, a2, a3, a4] st I) : JX11_isPlayed Q 25 [a0, a1, a2, a3, a4] (aI y :: aI x :: st) I := g_icmp_ne dX11_isPlayed_25 (by decide) kt kf
theorem dX11_isPlayed_28 : decode cX11_isPlayed 28 = .ok (.aload_n 0, 1) := by decide +kernel
theorem X11_isPlayed_28 {Q : Int → z_M → Prop} {a1 a2 a3 a4 : z_V} {x : Nat} {st : List z_V} {I : z_M} (k : JX11_isPlayed Q 29 [aR x, a1, a2, a3, a4] (aR x :: st) I) : JX11_isPlayed Q 28 [aR x, a1, a2, a3, a4] st I := g_aload_n (i := 0) (x := x) dX11_isPlayed_28 rfl rfl k
theorem dX11_isPlayed_29 : decode cX11_isPlayed 29 = .ok (.iload 4, 2) := by decide +kernel
theorem X11_isPlayed_29 {Q : Int → z_M → Prop} {a0 a1 a2 a3 : z_V} {x : Int} {st : List z_V} {I : z_M} (k : JX11_isPlayed Q 31 [a0, a1, a2, a3, aI x] (aI x :: st) I) : JX11_isPlayed Q 29 [a0, a1, a2, a3, aI x] st I := g_iload (i := 4) (x := x) dX11_isPlayed_29 rfl k
theorem dX11_isPlayed_31 : decode cX11_isPlayed 31 = .ok (.iconst 1, 1) := by decide +kernel
theorem X11_isPlayed_31 {Q : Int → z_M → Prop} {a0 a1 a2 a3 a4 : z_V} {st : List z_V} {I : z_M} (k : JX11_isPlayed Q 32 [a0, a1, a2, a3, a4] (aI 1 :: st) I) : JX11_isPlayed Q 31 [a0, a1, a2, a3, a4] st I := g_iconst (n := 1) dX11_isPlayed_31 (by decide) k
theorem dX11_isPlayed_32 : decode cX11_isPlayed 32 = .ok (.invokevirtual 115, 3) := by decide +kernel
theorem X11_isPlayed_32 {Q : Int → z_M → Prop} {a0 a1 a2 a3 a4 : z_V}  {x0 : Int} {x1 : Int} {st : List z_V} {I : z_M}  (hst : z_sw st ≤ 8 := by exact Nat.le_of_ble_eq_true rfl) (k : CX11_pipeHas (aR 60 :: [aI x0, aI x1]) I (fun x9 I9 => JX11_isPlayed Q 35 [a0, a1, a2, a3, a4] (aI x9 :: st) I9)) : JX11_isPlayed Q 32 [a0, a1, a2, a3, a4] (aI x1 :: aI x0 :: aR 60 :: st) I := g_callV (C := RX11) (ci := 11) (As := [aI x0, aI x1]) (n := 2) dX11_isPlayed_32 ⟨m_24_0, pdX11_pipeHas, ⟨by decide, by decide⟩, rfl, rfl, by decide, by decide⟩ m_23_21 m_23_22 m_23_23 m_1_5 rfl rfl (by decide) rfl rfl hst k (fun r I9 h => by obtain ⟨x9, rfl, h⟩ := h; exact h)
theorem dX11_isPlayed_35 : decode cX11_isPlayed 35 = .ok (.iload_n 1, 1) := by decide +kernel
theorem X11_isPlayed_35 {Q : Int → z_M → Prop} {a0 a2 a3 a4 : z_V} {x : Int} {st : List z_V} {I : z_M} (k : JX11_isPlayed Q 36 [a0, aI x, a2, a3, a4] (aI x :: st) I) : JX11_isPlayed Q 35 [a0, aI x, a2, a3, a4] st I := g_iload_n (i := 1) (x := x) dX11_isPlayed_35 rfl rfl k
theorem dX11_isPlayed_36 : decode cX11_isPlayed 36 = .ok (.if_icmp .ne 7, 3) := by decide +kernel
theorem X11_isPlayed_36 {Q : Int → z_M → Prop} {a0 a1 a2 a3 a4 : z_V} {x y : Int} {st : List z_V} {I : z_M} (kt : x ≠ y → JX11_isPlayed Q 43 [a0, a1, a2, a3, a4] st I) (kf : x = y → JX11_isPlayed Q 39 [a0, a1, a2, a3, a4] st I) : JX11_isPlayed Q 36 [a0, a1, a2, a3, a4] (aI y :: aI x :: st) I := g_icmp_ne dX11_isPlayed_36 (by decide) kt kf
theorem dX11_isPlayed_39 : decode cX11_isPlayed 39 = .ok (.iconst 1, 1) := by decide +kernel
theorem X11_isPlayed_39 {Q : Int → z_M → Prop} {a0 a1 a2 a3 a4 : z_V} {st : List z_V} {I : z_M} (k : JX11_isPlayed Q 40 [a0, a1, a2, a3, a4] (aI 1 :: st) I) : JX11_isPlayed Q 39 [a0, a1, a2, a3, a4] st I := g_iconst (n := 1) dX11_isPlayed_39 (by decide) k
theorem dX11_isPlayed_40 : decode cX11_isPlayed 40 = .ok (.goto 4, 3) := by decide +kernel
theorem X11_isPlayed_40 {Q : Int → z_M → Prop} {a0 a1 a2 a3 a4 : z_V} {st : List z_V} {I : z_M} (k : JX11_isPlayed Q 44 [a0, a1, a2, a3, a4] st I) : JX11_isPlayed Q 40 [a0, a1, a2, a3, a4] st I := g_goto dX11_isPlayed_40 (by decide) k
theorem dX11_isPlayed_43 : decode cX11_isPlayed 43 = .ok (.iconst 0, 1) := by decide +kernel
theorem X11_isPlayed_43 {Q : Int → z_M → Prop} {a0 a1 a2 a3 a4 : z_V} {st : List z_V} {I : z_M} (k : JX11_isPlayed Q 44 [a0, a1, a2, a3, a4] (aI 0 :: st) I) : JX11_isPlayed Q 43 [a0, a1, a2, a3, a4] st I := g_iconst (n := 0) dX11_isPlayed_43 (by decide) k
theorem dX11_isPlayed_44 : decode cX11_isPlayed 44 = .ok (.istore_n 3, 1) := by decide +kernel
theorem X11_isPlayed_44 {Q : Int → z_M → Prop} {a0 a1 a2 a3 a4 : z_V} {x : Int} {st : List z_V} {I : z_M} (hb : z_nl [a0, a1, a2, a3, a4] 3 = true := by rfl) (k : JX11_isPlayed Q 45 [a0, a1, a2, aI x, a4] st I) : JX11_isPlayed Q 44 [a0, a1, a2, a3, a4] (aI x :: st) I := g_istore_n (i := 3) (x := x) dX11_isPlayed_44 rfl (show 3 < 5 from by decide) hb k
theorem dX11_isPlayed_45 : decode cX11_isPlayed 45 = .ok (.iinc 4 1, 3) := by decide +kernel
theorem X11_isPlayed_45 {Q : Int → z_M → Prop} {a0 a1 a2 a3 : z_V} {x : Int} {st : List z_V} {I : z_M} (hb : z_nl [a0, a1, a2, a3, aI x] 4 = true := by rfl) (hr : inI (x + 1) := by omega) (k : JX11_isPlayed Q 48 [a0, a1, a2, a3, aI (x + 1)] st I) : JX11_isPlayed Q 45 [a0, a1, a2, a3, aI x] st I := g_iinc (i := 4) (x := x) dX11_isPlayed_45 rfl (show 4 < 5 from by decide) hb hr k
theorem dX11_isPlayed_48 : decode cX11_isPlayed 48 = .ok (.goto (-43), 3) := by decide +kernel
theorem X11_isPlayed_48 {Q : Int → z_M → Prop} {a0 a1 a2 a3 a4 : z_V} {st : List z_V} {I : z_M} (k : JX11_isPlayed Q 5 [a0, a1, a2, a3, a4] st I) : JX11_isPlayed Q 48 [a0, a1, a2, a3, a4] st I := g_goto dX11_isPlayed_48 (by decide) k
theorem dX11_isPlayed_51 : decode cX11_isPlayed 51 = .ok (.iload_n 3, 1) := by decide +kernel
theorem X11_isPlayed_51 {Q : Int → z_M → Prop} {a0 a1 a2 a4 : z_V} {x : Int} {st : List z_V} {I : z_M} (k : JX11_isPlayed Q 52 [a0, a1, a2, aI x, a4] (aI x :: st) I) : JX11_isPlayed Q 51 [a0, a1, a2, aI x, a4] st I := g_iload_n (i := 3) (x := x) dX11_isPlayed_51 rfl rfl k
theorem dX11_isPlayed_52 : decode cX11_isPlayed 52 = .ok (.ireturn, 1) := by decide +kernel
theorem X11_isPlayed_52 {Q : Int → z_M → Prop} {a0 a1 a2 a3 a4 : z_V} {x : Int} {I : z_M} (hx : x = 0 ∨ x = 1 := by omega) (hq : Q x I) : JX11_isPlayed Q 52 [a0, a1, a2, a3, a4] [aI x] I := g_zreturn dX11_isPlayed_52 hx ⟨x, rfl, hq⟩

/-! one organ takes over another -/
section CP
variable {I I' : z_M} {b c : Nat} {A A' : Nat → Int} {P L : Nat}
theorem z_cp_n {k0 k1 sp dp n a : Nat} (h : a ≠ k1) : z_cp I k0 k1 sp dp n a = I a := by
  funext j
  unfold z_cp z_row
  rw [if_neg h]
theorem z_cp_s {k0 k1 sp dp n j : Nat} (h1 : dp ≤ j) (h2 : j < dp + n) : z_cp I k0 k1 sp dp n k1 j = I k0 (sp + (j - dp)) := by
  unfold z_cp z_row va_cpy
  rw [if_pos rfl, if_pos ⟨h1, h2⟩]
theorem z_cp_o {k0 k1 sp dp n j : Nat} (h : j < dp ∨ dp + n ≤ j) : z_cp I k0 k1 sp dp n k1 j = I k1 j := by
  unfold z_cp z_row va_cpy
  rw [if_pos rfl, if_neg (by omega)]
theorem z_cp_0 {k0 k1 n j : Nat} (h2 : j < n) : z_cp I k0 k1 0 0 n k1 j = I k0 j := by
  rw [z_cp_s (by omega) (by omega)]
  congr 1
  omega
/-- what hours need is alike at b as it was at c -/
def cpS (I I' : z_M) (b c : Nat) : Prop := (I' b 0 = I c 0 ∧ I' b 1 = I c 1 ∧ I' b 2 = I c 2) ∧ (∀ j, j < 25 → I' (b + 1) j = I (c + 1) j) ∧ ∀ j, j < 8 → I' (b + 2) j = I (c + 2) j ∧ I' (b + 3) j = I (c + 3) j ∧ I' (b + 4) j = I (c + 4) j ∧ I' (b + 5) j = I (c + 5) j
def cpA (I I' : z_M) (b c : Nat) : Prop := cpS I I' b c ∧ I' b 3 = I c 3 ∧ (∀ j, j < 3 → I' (b + 6) j = I (c + 6) j) ∧ (∀ j, j < 24 → I' (b + 7) j = I (c + 7) j ∧ I' (b + 8) j = I (c + 8) j) ∧ (I' (b + 9) 0 = I (c + 9) 0 ∧ I' (b + 9) 1 = I (c + 9) 1) ∧ ∀ j, j < 136 → I' (b + 10) j = I (c + 10) j
theorem s4_takeStage {Q : z_M → Prop} (hb : z_cl b = 4) (hc : z_cl c = 4) (hn : b + 10 < c ∨ c + 10 < b) (h : ∀ I', cpS I I' b c → I' b 3 = I b 3 → (∀ k, k < b ∨ b + 5 < k → I' k = I k) → Q I') : CX4_takeStage [aR b, aR c] I Q := by
  have ob := z_o hb
  have oc := z_o hc
  obtain ⟨o1, o2, o3, o4, o5, -⟩ := id ob
  obtain ⟨q1, q2, q3, q4, q5, -⟩ := id oc
  refine eX4_takeStage ?_
  refine X4_takeStage_0 (k := ?_)
  refine X4_takeStage_1 (k := ?_)
  refine X4_takeStage_2 (k := ?_)
  refine X4_takeStage_5 (k := ?_)
  refine X4_takeStage_8 (k := ?_)
  refine X4_takeStage_9 (k := ?_)
  refine X4_takeStage_10 (k := ?_)
  refine X4_takeStage_13 (k := ?_)
  refine X4_takeStage_16 (k := ?_)
  refine X4_takeStage_17 (k := ?_)
  refine X4_takeStage_18 (k := ?_)
  refine X4_takeStage_21 (k := ?_)
  refine X4_takeStage_24 (k := ?_)
  refine X4_takeStage_25 (k := ?_)
  refine X4_takeStage_28 (k := ?_)
  refine X4_takeStage_29 (k := ?_)
  refine X4_takeStage_30 (k := ?_)
  refine X4_takeStage_33 (k := ?_)
  refine X4_takeStage_34 (k := ?_)
  refine X4_takeStage_36 (k := ?_)
  refine X4_takeStage_39 (k := ?_)
  refine X4_takeStage_40 (k := ?_)
  refine X4_takeStage_43 (k := ?_)
  refine X4_takeStage_44 (k := ?_)
  refine X4_takeStage_45 (k := ?_)
  refine X4_takeStage_48 (k := ?_)
  refine X4_takeStage_49 (k := ?_)
  refine X4_takeStage_51 (k := ?_)
  refine X4_takeStage_54 (k := ?_)
  refine X4_takeStage_55 (k := ?_)
  refine X4_takeStage_58 (k := ?_)
  refine X4_takeStage_59 (k := ?_)
  refine X4_takeStage_60 (k := ?_)
  refine X4_takeStage_63 (k := ?_)
  refine X4_takeStage_64 (k := ?_)
  refine X4_takeStage_66 (k := ?_)
  refine X4_takeStage_69 (k := ?_)
  refine X4_takeStage_70 (k := ?_)
  refine X4_takeStage_73 (k := ?_)
  refine X4_takeStage_74 (k := ?_)
  refine X4_takeStage_75 (k := ?_)
  refine X4_takeStage_78 (k := ?_)
  refine X4_takeStage_79 (k := ?_)
  refine X4_takeStage_81 (k := ?_)
  refine X4_takeStage_84 (k := ?_)
  refine X4_takeStage_85 (k := ?_)
  refine X4_takeStage_88 (k := ?_)
  refine X4_takeStage_89 (k := ?_)
  refine X4_takeStage_90 (k := ?_)
  refine X4_takeStage_93 (k := ?_)
  refine X4_takeStage_94 (k := ?_)
  refine X4_takeStage_96 (k := ?_)
  refine X4_takeStage_99 (hq := ?_)
  refine h _ ⟨⟨?_, ?_, ?_⟩, fun j hj => ?_, fun j hj => ⟨?_, ?_, ?_, ?_⟩⟩ ?_ (fun k hk => ?_)
  all_goals simp (disch := omega) only [z_cp_n, z_cp_0, z_up_n, z_up_s, zu_s, zu_n, Int.toNat_natCast, Int.toNat_zero, show (25 : Int).toNat = 25 from rfl, show (8 : Int).toNat = 8 from rfl]
theorem s5_takeOver {Q : z_M → Prop} {q r : Nat} (hq : z_cl q = 5) (hr : z_cl r = 5) (h1 : z_cl (q + 1) = 20) (h2 : z_cl (r + 1) = 20) (n1 : z_n (q + 1) = 136) (n2 : z_n (r + 1) = 136) (hn : q + 1 < r ∨ r + 1 < q) (h : ∀ I', (I' q 0 = I r 0 ∧ I' q 1 = I r 1) → (∀ j, j < 136 → I' (q + 1) j = I (r + 1) j) → (∀ k, k < q ∨ q + 1 < k → I' k = I k) → Q I') : CX5_takeOver [aR q, aR r] I Q := by
  refine eX5_takeOver ?_
  refine X5_takeOver_0 (k := ?_)
  refine X5_takeOver_1 (k := ?_)
  refine X5_takeOver_2 (k := ?_)
  refine X5_takeOver_5 (k := ?_)
  refine X5_takeOver_8 (k := ?_)
  refine X5_takeOver_9 (k := ?_)
  refine X5_takeOver_10 (k := ?_)
  refine X5_takeOver_13 (k := ?_)
  refine X5_takeOver_16 (k := ?_)
  refine X5_takeOver_17 (k := ?_)
  refine X5_takeOver_20 (k := ?_)
  refine X5_takeOver_21 (k := ?_)
  refine X5_takeOver_22 (k := ?_)
  refine X5_takeOver_25 (k := ?_)
  refine X5_takeOver_26 (k := ?_)
  refine X5_takeOver_29 (k := ?_)
  refine X5_takeOver_32 (hq := ?_)
  refine h _ ⟨?_, ?_⟩ (fun j hj => ?_) (fun k hk => ?_)
  all_goals simp (disch := omega) only [z_cp_n, z_cp_0, z_up_n, z_up_s, zu_s, zu_n, Int.toNat_natCast, Int.toNat_zero, show (136 : Int).toNat = 136 from rfl]
theorem s4_takeAll {Q : z_M → Prop} (hb : z_cl b = 4) (hc : z_cl c = 4) (hn : b + 10 < c ∨ c + 10 < b) (h : ∀ I', cpA I I' b c → (∀ k, k < b ∨ b + 10 < k → I' k = I k) → Q I') : CX4_takeAll [aR b, aR c] I Q := by
  have ob := z_o hb
  have oc := z_o hc
  obtain ⟨o1, o2, o3, o4, o5, o6, o7, o8, o9, o10, -, -, -, -, -, -, -, -, n10⟩ := id ob
  obtain ⟨q1, q2, q3, q4, q5, q6, q7, q8, q9, q10, -, -, -, -, -, -, -, -, m10⟩ := id oc
  refine eX4_takeAll ?_
  refine X4_takeAll_0 (k := ?_)
  refine X4_takeAll_1 (k := ?_)
  refine X4_takeAll_2 (k := ?_)
  refine s4_takeStage hb hc hn (fun I1 c1 e3 ef => ?_)
  refine X4_takeAll_5 (k := ?_)
  refine X4_takeAll_6 (k := ?_)
  refine X4_takeAll_7 (k := ?_)
  refine X4_takeAll_10 (k := ?_)
  refine X4_takeAll_13 (k := ?_)
  refine X4_takeAll_14 (k := ?_)
  refine X4_takeAll_17 (k := ?_)
  refine X4_takeAll_18 (k := ?_)
  refine X4_takeAll_19 (k := ?_)
  refine X4_takeAll_22 (k := ?_)
  refine X4_takeAll_23 (k := ?_)
  refine X4_takeAll_24 (k := ?_)
  refine X4_takeAll_27 (k := ?_)
  refine X4_takeAll_28 (k := ?_)
  refine X4_takeAll_31 (k := ?_)
  refine X4_takeAll_32 (k := ?_)
  refine X4_takeAll_33 (k := ?_)
  refine X4_takeAll_36 (k := ?_)
  refine X4_takeAll_37 (k := ?_)
  refine X4_takeAll_39 (k := ?_)
  refine X4_takeAll_42 (k := ?_)
  refine X4_takeAll_43 (k := ?_)
  refine X4_takeAll_46 (k := ?_)
  refine X4_takeAll_47 (k := ?_)
  refine X4_takeAll_48 (k := ?_)
  refine X4_takeAll_51 (k := ?_)
  refine X4_takeAll_52 (k := ?_)
  refine X4_takeAll_54 (k := ?_)
  refine X4_takeAll_57 (k := ?_)
  refine X4_takeAll_58 (k := ?_)
  refine X4_takeAll_61 (k := ?_)
  refine X4_takeAll_62 (k := ?_)
  refine X4_takeAll_65 (k := ?_)
  refine s5_takeOver o9 q9 o10 q10 n10 m10 (by omega) (fun I2 d1 d2 df => ?_)
  refine X4_takeAll_68 (hq := ?_)
  obtain ⟨⟨s1, s2, s3⟩, s4, s5⟩ := c1
  have e' : ∀ k, k < c ∨ c + 10 < k → True := fun _ _ => trivial
  have z1 : ∀ k j, k ≤ b + 8 → b ≤ k → I2 k j = _ := fun k j k1 k2 => by rw [df k (by omega)]
  refine h _ ⟨⟨⟨?_, ?_, ?_⟩, fun j hj => ?_, fun j hj => ⟨?_, ?_, ?_, ?_⟩⟩, ?_, fun j hj => ?_, fun j hj => ⟨?_, ?_⟩, ⟨?_, ?_⟩, fun j hj => ?_⟩ (fun k hk => ?_)
  · rw [z1 b 0 (by omega) (by omega)]
    simp (disch := omega) only [z_cp_n, z_cp_0, z_up_n, z_up_s, zu_s, zu_n, Int.toNat_natCast, Int.toNat_zero, show (24 : Int).toNat = 24 from rfl, show (3 : Int).toNat = 3 from rfl, s1]
  · rw [z1 b 1 (by omega) (by omega)]
    simp (disch := omega) only [z_cp_n, z_cp_0, z_up_n, z_up_s, zu_s, zu_n, Int.toNat_natCast, Int.toNat_zero, show (24 : Int).toNat = 24 from rfl, show (3 : Int).toNat = 3 from rfl, s2]
  · rw [z1 b 2 (by omega) (by omega)]
    simp (disch := omega) only [z_cp_n, z_cp_0, z_up_n, z_up_s, zu_s, zu_n, Int.toNat_natCast, Int.toNat_zero, show (24 : Int).toNat = 24 from rfl, show (3 : Int).toNat = 3 from rfl, s3]
  · rw [z1 _ _ (by omega) (by omega)]
    simp (disch := omega) only [z_cp_n, z_up_n, s4 j hj]
  · rw [z1 _ _ (by omega) (by omega)]
    simp (disch := omega) only [z_cp_n, z_up_n, (s5 j hj).1]
  · rw [z1 _ _ (by omega) (by omega)]
    simp (disch := omega) only [z_cp_n, z_up_n, (s5 j hj).2.1]
  · rw [z1 _ _ (by omega) (by omega)]
    simp (disch := omega) only [z_cp_n, z_up_n, (s5 j hj).2.2.1]
  · rw [z1 _ _ (by omega) (by omega)]
    simp (disch := omega) only [z_cp_n, z_up_n, (s5 j hj).2.2.2]
  · rw [z1 b 3 (by omega) (by omega)]
    simp (disch := omega) only [z_cp_n, z_up_s, zu_s, ef]
  · rw [z1 _ _ (by omega) (by omega)]
    simp (disch := omega) only [z_cp_n, z_cp_0, z_up_n, Int.toNat_zero, show (3 : Int).toNat = 3 from rfl, ef]
  · rw [z1 _ _ (by omega) (by omega)]
    simp (disch := omega) only [z_cp_n, z_cp_0, z_up_n, Int.toNat_zero, show (24 : Int).toNat = 24 from rfl, ef]
  · rw [z1 _ _ (by omega) (by omega)]
    simp (disch := omega) only [z_cp_n, z_cp_0, z_up_n, Int.toNat_zero, show (24 : Int).toNat = 24 from rfl, ef]
  · rw [d1.1]
    simp (disch := omega) only [z_cp_n, z_up_n, ef]
  · rw [d1.2]
    simp (disch := omega) only [z_cp_n, z_up_n, ef]
  · rw [show b + 10 = b + 9 + 1 from rfl, d2 j hj]
    simp (disch := omega) only [z_cp_n, z_up_n, ef]
  · rw [df k (by omega)]
    simp (disch := omega) only [z_cp_n, z_up_n, ef]
theorem stC_cp {hr : Int} {K W Y tn : Nat → Int} (hP : P ≤ 8) (hL : L ≤ 5) (h : stC I c A P L hr K W Y tn) (e : cpS I I' b c) : stC I' b A P L hr K W Y tn := by
  obtain ⟨i0, i1, i2, i3, i4⟩ := h
  obtain ⟨⟨s1, s2, s3⟩, s4, s5⟩ := e
  refine ⟨by rw [s1]; exact i0, by rw [s2]; exact i1, by rw [s3]; exact i2, fun x hx => ?_, fun p hp => ?_⟩
  · rw [s4 _ (by omega), s4 _ (by omega), s4 _ (by omega)]
    exact i3 x hx
  · obtain ⟨d2, d3, d4, d5⟩ := s5 p (by omega)
    rw [d2, d3, d4, d5]
    exact i4 p hp
theorem rp_cp (h : rp I c A) (e : cpA I I' b c) : rp I' b A := by
  obtain ⟨P, L, ⟨s1, s2, s3, s4⟩, hh, hr, o, U, u1, u2, u3, u4, u5, u6⟩ := h
  obtain ⟨a0, a1, a2, a3, a4, a5⟩ := id s3
  obtain ⟨cs, e3, e6, e78, e9, e10⟩ := e
  refine ⟨P, L, ⟨stC_cp a2 a3 s1 cs, fun x hx => by rw [cs.2.1 _ (by omega), cs.2.1 _ (by omega)]; exact s2 x hx, s3, s4⟩, fun x hx => ?_, ⟨hr.1, by rw [e3]; exact hr.2.1, fun t ht => ?_⟩, o, U, u1, u2, by rw [e9.2]; exact u3, u4, by rw [e9.1]; exact u5, fun u hu => ?_⟩
  · rw [e6 x hx]
    refine ⟨(hh x hx).1, (hh x hx).2.1, fun k hk => ?_⟩
    have := (hh x hx).1
    rw [(e78 _ (by omega)).1]
    exact (hh x hx).2.2 k hk
  · have := hr.1
    rw [(e78 _ (by omega)).2, (e78 _ (by omega)).2, (e78 _ (by omega)).2, (e78 _ (by omega)).2]
    exact hr.2.2 t ht
  · obtain ⟨g1, g2⟩ := u6 u hu
    rw [e10 _ (by omega)]
    refine ⟨g1, fun p hp => ?_⟩
    rw [e10 _ (by omega), e10 _ (by omega)]
    exact g2 p hp
end CP

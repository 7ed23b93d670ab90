/-! what may be undone: a moment is kept, given back -/
section PA
variable {I I' : z_M} {b c : Nat} {A A' : Nat → Int} {P L : Nat}
def kA (A : Nat → Int) : Nat → Int := fun p => A (30 + 4 * p)
def wA (A : Nat → Int) : Nat → Int := fun p => A (30 + 4 * p + 2)
def yA (A : Nat → Int) : Nat → Int := fun p => A (30 + 4 * p + 3)
def tA (A : Nat → Int) : Nat → Int := fun x => A (5 + 5 * x)
def rpx (I : z_M) (b : Nat) (A : Nat → Int) (P L : Nat) : Prop := rpS I b A P L ∧ rpH I b A ∧ rpR I b A P L ∧ rpU I b A P L
def pShift (A : Nat → Int) : Nat → Int := fun j => if 113 ≤ j ∧ j < 232 then A (j + 17) else if j = 4 then 7 else A j
def pMom (A : Nat → Int) (u : Nat) : Nat → Int := fun j => if j = 113 + 17 * u then A 2 else if 113 + 17 * u + 1 ≤ j ∧ j < 113 + 17 * u + 9 then A (30 + 4 * (j - (113 + 17 * u + 1)) + 2) else if 113 + 17 * u + 9 ≤ j ∧ j < 113 + 17 * u + 17 then A (30 + 4 * (j - (113 + 17 * u + 9)) + 3) else if j = 4 then u + 1 else A j
def pKeep (A : Nat → Int) : Nat → Int := if A 4 = 8 then pMom (pShift A) 7 else pMom A (A 4).toNat
theorem s5_keep {Q : z_M → Prop} (hb : z_cl b = 4) {o U : Nat} (ho : I (b + 9) 1 = o) (hU : I (b + 9) 0 = U) (ho8 : o < 8) (hU8 : U ≤ 8) (h : ∀ (I' : z_M) (o' U' m : Nat), o' < 8 → U' < 8 → (U < 8 → o' = o ∧ U' = U) → (U = 8 → o' = (o + 1) % 8 ∧ U' = 7) → m = (o' + U') % 8 → I' (b + 9) 0 = (U' : Int) + 1 → I' (b + 9) 1 = o' → I' (b + 10) (17 * m) = I b 0 → (∀ p, p < 8 → I' (b + 10) (17 * m + 1 + p) = I (b + 4) p ∧ I' (b + 10) (17 * m + 9 + p) = I (b + 5) p) → (∀ j, j < 17 * m ∨ 17 * m + 17 ≤ j → I' (b + 10) j = I (b + 10) j) → (∀ k, k ≠ b + 9 → k ≠ b + 10 → I' k = I k) → Q I') : CX5_keep [aR (b + 9), aR b] I Q := by
  obtain ⟨o1, o2, o3, o4, o5, o6, o7, o8, o9, o10, n1, n2, n3, n4, n5, n6, n7, n8, n10⟩ := z_o hb
  have o10' : z_cl (b + 9 + 1) = 20 := o10
  have n10' : z_n (b + 9 + 1) = 136 := n10
  have main : ∀ (I1 : z_M) (o' U' : Nat), o' < 8 → U' < 8 → (U < 8 → o' = o ∧ U' = U) → (U = 8 → o' = (o + 1) % 8 ∧ U' = 7) → I1 (b + 9) 0 = U' → I1 (b + 9) 1 = o' → (∀ k, k ≠ b + 9 → I1 k = I k) → JX5_keep Q 32 [aR (b + 9), aR b, aU] [] I1 := by
    intro I1 o' U' z1 z2 z3 z4 e0 e1 ef
    refine X5_keep_32 (k := ?_)
    refine X5_keep_33 (k := ?_)
    rw [e1]
    refine X5_keep_36 (k := ?_)
    refine X5_keep_37 (k := ?_)
    rw [e0]
    refine X5_keep_40 (k := ?_)
    refine X5_keep_41 (k := ?_)
    refine X5_keep_43 (k := ?_)
    obtain ⟨m, hm⟩ : ∃ m, m = (o' + U') % 8 := ⟨_, rfl⟩
    have hm8 : m < 8 := by omega
    rw [show ((o' : Int) + U').tmod 8 = (m : Int) by rw [Int.tmod_eq_emod_of_nonneg (by omega)]; omega]
    refine X5_keep_44 (k := ?_)
    refine X5_keep_46 (k := ?_)
    refine X5_keep_47 (k := ?_)
    refine X5_keep_48 (k := ?_)
    refine X5_keep_49 (k := ?_)
    refine X5_keep_52 (k := ?_)
    refine X5_keep_53 (k := ?_)
    refine X5_keep_54 (k := ?_)
    rw [ef b (by omega)]
    refine X5_keep_57 (k := ?_)
    refine X5_keep_58 (k := ?_)
    refine X5_keep_59 (k := ?_)
    refine X5_keep_62 (k := ?_)
    refine X5_keep_63 (k := ?_)
    refine X5_keep_64 (k := ?_)
    refine X5_keep_67 (k := ?_)
    refine X5_keep_68 (k := ?_)
    refine X5_keep_69 (k := ?_)
    refine X5_keep_70 (k := ?_)
    refine X5_keep_72 (k := ?_)
    refine X5_keep_75 (k := ?_)
    refine X5_keep_76 (k := ?_)
    refine X5_keep_79 (k := ?_)
    refine X5_keep_80 (k := ?_)
    refine X5_keep_81 (k := ?_)
    refine X5_keep_84 (k := ?_)
    refine X5_keep_85 (k := ?_)
    refine X5_keep_86 (k := ?_)
    refine X5_keep_87 (k := ?_)
    refine X5_keep_89 (k := ?_)
    refine X5_keep_90 (k := ?_)
    refine X5_keep_92 (k := ?_)
    refine X5_keep_95 (k := ?_)
    refine X5_keep_96 (k := ?_)
    refine X5_keep_97 (k := ?_)
    simp (disch := omega) only [z_cp_n, z_up_n]
    rw [e0]
    refine X5_keep_100 (k := ?_)
    refine X5_keep_101 (k := ?_)
    refine X5_keep_102 (k := ?_)
    refine X5_keep_105 (hq := ?_)
    rw [show ((m : Int) * 17).toNat = 17 * m by omega, show ((m : Int) * 17 + 1).toNat = 17 * m + 1 by omega, show ((m : Int) * 17 + 1 + 8).toNat = 17 * m + 9 by omega, show (8 : Int).toNat = 8 from rfl, show (0 : Int).toNat = 0 from rfl]
    refine h _ o' U' m z1 z2 z3 z4 hm ?_ ?_ ?_ (fun p hp => ⟨?_, ?_⟩) (fun j hj => ?_) (fun k k1 k2 => ?_)
    · rw [z_up_s, zu_s]
    · rw [z_up_s, zu_n (by decide), z_cp_n (by omega), z_cp_n (by omega), z_up_n (by omega), e1]
    · rw [z_up_n (by omega), show b + 10 = b + 9 + 1 from rfl, z_cp_o (by omega), z_cp_o (by omega), z_up_s, zu_s]
    · rw [z_up_n (by omega), show b + 10 = b + 9 + 1 from rfl, z_cp_o (by omega), z_cp_s (by omega) (by omega), z_up_n (by omega), ef _ (by omega)]
      exact congrArg _ (by omega)
    · rw [z_up_n (by omega), show b + 10 = b + 9 + 1 from rfl, z_cp_s (by omega) (by omega), z_cp_n (by omega), z_up_n (by omega), ef _ (by omega)]
      exact congrArg _ (by omega)
    · rw [z_up_n (by omega), show b + 10 = b + 9 + 1 from rfl, z_cp_o (by omega), z_cp_o (by omega), z_up_s, zu_n (by omega), ef _ (by omega)]
    · rw [z_up_n (by omega), z_cp_n (by omega), z_cp_n (by omega), z_up_n (by omega), ef _ (by omega)]
  refine eX5_keep ?_
  refine X5_keep_0 (k := ?_)
  refine X5_keep_1 (k := ?_)
  rw [hU]
  refine X5_keep_4 (k := ?_)
  refine X5_keep_6 (kt := fun k6 => ?_) (kf := fun k6 => ?_)
  · exact main I o U ho8 (by omega) (fun _ => ⟨rfl, rfl⟩) (fun z => by omega) hU ho (fun _ _ => rfl)
  · refine X5_keep_9 (k := ?_)
    refine X5_keep_10 (k := ?_)
    refine X5_keep_11 (k := ?_)
    rw [ho]
    refine X5_keep_14 (k := ?_)
    refine X5_keep_15 (k := ?_)
    refine X5_keep_16 (k := ?_)
    refine X5_keep_18 (k := ?_)
    rw [show ((o : Int) + 1).tmod 8 = (((o + 1) % 8 : Nat) : Int) by rw [Int.tmod_eq_emod_of_nonneg (by omega)]; omega]
    refine X5_keep_19 (k := ?_)
    refine X5_keep_22 (k := ?_)
    refine X5_keep_23 (k := ?_)
    refine X5_keep_24 (k := ?_)
    (try simp (disch := omega) only [z_up_n, z_up_s, zu_s, zu_n, Int.toNat_natCast])
    rw [hU]
    refine X5_keep_27 (k := ?_)
    refine X5_keep_28 (k := ?_)
    refine X5_keep_29 (k := ?_)
    refine main _ ((o + 1) % 8) 7 (by omega) (by decide) (fun z => by omega) (fun _ => ⟨rfl, rfl⟩) (by (try simp (disch := omega) only [z_up_n, z_up_s, zu_s, zu_n, Int.toNat_natCast]); omega) (by (try simp (disch := omega) only [z_up_n, z_up_s, zu_s, zu_n, Int.toNat_natCast])) (fun k k1 => by (try simp (disch := omega) only [z_up_n, z_up_s, zu_s, zu_n, Int.toNat_natCast]))
theorem rpU_keep {o U o' U' m : Nat} (hS : rpS I b A P L) (ho : o < 8) (hU : U ≤ 8) (hA4 : A 4 = U) (hu : ∀ u, u < U → I (b + 10) (17 * ((o + u) % 8)) = A (113 + 17 * u) ∧ ∀ p, p < P → I (b + 10) (17 * ((o + u) % 8) + 1 + p) = A (113 + 17 * u + 1 + p) ∧ I (b + 10) (17 * ((o + u) % 8) + 9 + p) = A (113 + 17 * u + 9 + p) ∧ (-1 ≤ A (113 + 17 * u + 1 + p) ∧ A (113 + 17 * u + 1 + p) < L) ∧ (A (113 + 17 * u + 1 + p) = -1 → A (113 + 17 * u + 9 + p) = 0))
    (z1 : o' < 8) (z2 : U' < 8) (z3 : U < 8 → o' = o ∧ U' = U) (z4 : U = 8 → o' = (o + 1) % 8 ∧ U' = 7) (hm : m = (o' + U') % 8) (e0 : I' (b + 9) 0 = (U' : Int) + 1) (e1 : I' (b + 9) 1 = o') (e2 : I' (b + 10) (17 * m) = I b 0) (e3 : ∀ p, p < 8 → I' (b + 10) (17 * m + 1 + p) = I (b + 4) p ∧ I' (b + 10) (17 * m + 9 + p) = I (b + 5) p) (e4 : ∀ j, j < 17 * m ∨ 17 * m + 17 ≤ j → I' (b + 10) j = I (b + 10) j) : rpU I' b (pKeep A) P L := by
  obtain ⟨⟨i0, i1, i2, i3, i4⟩, s2, ⟨a0, a1, a2, a3, a4, a5⟩, s4⟩ := hS
  -- the new row: old ones, and a new one at U'
  obtain ⟨s, hs⟩ : ∃ s : Nat, s = if U = 8 then 1 else 0 := ⟨_, rfl⟩
  have k4 : pKeep A 4 = (U' : Int) + 1 := by
    unfold pKeep
    by_cases z : U = 8
    · rw [if_pos (by omega)]
      unfold pMom
      rw [if_neg (by omega), if_neg (by omega), if_neg (by omega), if_pos rfl]
      omega
    · rw [if_neg (by omega)]
      unfold pMom
      rw [if_neg (by omega), if_neg (by omega), if_neg (by omega), if_pos rfl]
      omega
  have kU : pKeep A (113 + 17 * U') = A 2 ∧ ∀ p, p < 8 → pKeep A (113 + 17 * U' + 1 + p) = A (30 + 4 * p + 2) ∧ pKeep A (113 + 17 * U' + 9 + p) = A (30 + 4 * p + 3) := by
    unfold pKeep
    by_cases z : U = 8
    · rw [if_pos (by omega), (z4 z).2]
      unfold pMom pShift
      refine ⟨by rw [if_pos rfl, if_neg (by omega), if_neg (by omega)], fun p hp => ⟨?_, ?_⟩⟩
      · rw [if_neg (by omega), if_pos (by omega), if_neg (by omega), if_neg (by omega)]
        exact congrArg _ (by omega)
      · rw [if_neg (by omega), if_neg (by omega), if_pos (by omega), if_neg (by omega), if_neg (by omega)]
        exact congrArg _ (by omega)
    · rw [if_neg (by omega), (z3 (by omega)).2, show (A 4).toNat = U by omega]
      unfold pMom
      refine ⟨by rw [if_pos rfl], fun p hp => ⟨?_, ?_⟩⟩
      · rw [if_neg (by omega), if_pos (by omega)]
        exact congrArg _ (by omega)
      · rw [if_neg (by omega), if_neg (by omega), if_pos (by omega)]
        exact congrArg _ (by omega)
  have ko : ∀ u j, u < U' → j < 17 → pKeep A (113 + 17 * u + j) = A (113 + 17 * (u + s) + j) := by
    intro u j hu hj
    unfold pKeep
    by_cases z : U = 8
    · rw [if_pos (by omega)]
      have := (z4 z).2
      unfold pMom pShift
      rw [if_neg (by omega), if_neg (by omega), if_neg (by omega), if_neg (by omega), if_pos (by omega), hs, if_pos z]
      exact congrArg _ (by omega)
    · rw [if_neg (by omega), show (A 4).toNat = U by omega]
      have := (z3 (by omega)).2
      unfold pMom
      rw [if_neg (by omega), if_neg (by omega), if_neg (by omega), if_neg (by omega), hs, if_neg z]
      rfl
  have hs' : (U = 8 ∧ s = 1 ∧ o' = (o + 1) % 8 ∧ U' = 7) ∨ (U < 8 ∧ s = 0 ∧ o' = o ∧ U' = U) := by
    by_cases z : U = 8
    · exact Or.inl ⟨z, by rw [hs, if_pos z], z4 z⟩
    · exact Or.inr ⟨by omega, by rw [hs, if_neg z], z3 (by omega)⟩
  refine ⟨o', U' + 1, z1, by omega, e1, by rw [k4]; rfl, by rw [e0]; rfl, fun u hu1 => ?_⟩
  by_cases z : u = U'
  · subst z
    rw [← hm, e2, kU.1]
    refine ⟨i0, fun p hp => ?_⟩
    obtain ⟨d1, d2⟩ := kU.2 p (by omega)
    obtain ⟨c1, c2⟩ := e3 p (by omega)
    obtain ⟨-, -, b3, b4⟩ := i4 p hp
    obtain ⟨-, g2, g3⟩ := s4 p hp
    rw [c1, c2, d1, d2]
    exact ⟨b3, b4, g2, g3⟩
  · have q1 : (o' + u) % 8 = (o + (u + s)) % 8 := by omega
    have q2 : (o' + u) % 8 ≠ m := by omega
    obtain ⟨g1, g2⟩ := hu (u + s) (by omega)
    rw [q1] at q2 ⊢
    have q0 := ko u 0 (by omega) (by decide)
    rw [Nat.add_zero, Nat.add_zero] at q0
    rw [e4 _ (by omega), q0]
    refine ⟨g1, fun p hp => ?_⟩
    rw [e4 _ (by omega), e4 _ (by omega), show 113 + 17 * u + 1 + p = 113 + 17 * u + (1 + p) by omega, show 113 + 17 * u + 9 + p = 113 + 17 * u + (9 + p) by omega, ko u (1 + p) (by omega) (by omega), ko u (9 + p) (by omega) (by omega), show 113 + 17 * (u + s) + (1 + p) = 113 + 17 * (u + s) + 1 + p by omega, show 113 + 17 * (u + s) + (9 + p) = 113 + 17 * (u + s) + 9 + p by omega]
    exact g2 p hp
theorem pKeep_lo {j : Nat} (h4 : 0 ≤ A 4 ∧ A 4 ≤ 8) (h : j < 113) (hj : j ≠ 4) : pKeep A j = A j := by
  unfold pKeep
  by_cases z : A 4 = 8
  · rw [if_pos z]
    unfold pMom pShift
    rw [if_neg (by omega), if_neg (by omega), if_neg (by omega), if_neg hj, if_neg (by omega), if_neg hj]
  · rw [if_neg z]
    unfold pMom
    rw [if_neg (by omega), if_neg (by omega), if_neg (by omega), if_neg hj]
/-- the class keeps a moment -/
theorem x5_keep {Q : z_M → Prop} (hb : z_cl b = 4) (hx : rpx I b A P L) (h : ∀ I', rpx I' b (pKeep A) P L → (∀ k, k ≠ b + 9 → k ≠ b + 10 → I' k = I k) → Q I') : CX5_keep [aR (b + 9), aR b] I Q := by
  obtain ⟨hS, hH, hR, o, U, u1, u2, u3, u4, u5, u6⟩ := hx
  refine s5_keep hb u3 u5 u1 u2 (fun I' o' U' m z1 z2 z3 z4 hm e0 e1 e2 e3 e4 ef => ?_)
  have e : ∀ j, j < 113 → j ≠ 4 → pKeep A j = A j := fun j j1 j2 => pKeep_lo (by omega) j1 j2
  refine h I' ⟨rpS_cg hS (fun k k1 k2 k3 => ef k (by omega) (by omega)) ⟨by rw [ef b (by omega) (by omega)], by rw [ef b (by omega) (by omega)], by rw [ef b (by omega) (by omega)]⟩ (fun j j1 j2 j3 => e j (by omega) j3), rpH_cg hH (ef _ (by omega) (by omega)) (ef _ (by omega) (by omega)) (fun j j1 j2 => e j (by omega) (by omega)), rpR_cg hR (by rw [ef b (by omega) (by omega)]) (ef _ (by omega) (by omega)) (e 3 (by decide) (by decide)) (fun j j1 j2 => e j (by omega) (by omega)) (Nat.le_refl _) (Nat.le_refl _), rpU_keep hS u1 u2 u4 u6 z1 z2 z3 z4 hm e0 e1 e2 e3 e4⟩ ef
end PA
